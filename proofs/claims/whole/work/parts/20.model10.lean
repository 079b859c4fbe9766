/-! THE REFERENCE: plans asked, checks -/
def sk_V (m : Nat) (r : Nat → Int32) : Prop := ∀ i, i < m → ∃ w, w < 6 ∧ r i = nI w
theorem sk_V_u {m w : Nat} {r : Nat → Int32} (h : sk_V m r) (hw : w < 6) : sk_V (m + 1) (upd r m (nI w)) := by
  intro i hi
  by_cases e : i = m
  · subst e; exact ⟨w, hw, pk_us⟩
  · obtain ⟨w2, h2, h3⟩ := h i (by omega)
    exact ⟨w2, h2, by rw [pk_un e]; exact h3⟩
theorem sk_V_we {up T t b p : Int32} {m : Nat} {r : Nat → Int32} {s : sk_S} (h : sk_V m r) (hs : sk_V s.2.2.2.1 s.2.2.2.2) : sk_V (sk_we up T m r t b p s).2.2.2.1 (sk_we up T m r t b p s).2.2.2.2 := by
  unfold sk_we
  by_cases c : sk_en b p (up + 0) (T - t) ≤ s.2.2.1
  · rw [if_pos c]; exact hs
  · rw [if_neg c]; exact h
theorem sk_V_l {N : Nat → Int32} {up T t b p : Int32} {D : Nat} {rec : Nat → sk_S → sk_S} {s : sk_S} (hs : sk_V s.2.2.2.1 s.2.2.2.2) : ∀ k, (∀ w s, w < k → sk_V s.2.2.2.1 s.2.2.2.2 → sk_V (rec w s).2.2.2.1 (rec w s).2.2.2.2) → sk_V (sk_l (sk_st N up T D t b p rec) k s).2.2.2.1 (sk_l (sk_st N up T D t b p rec) k s).2.2.2.2 := by
  intro k
  induction k with
  | zero => intro _; exact hs
  | succ k ih =>
    intro h
    have e := ih (fun w s hw => h w s (by omega))
    show sk_V (sk_st N up T D t b p rec k (sk_l (sk_st N up T D t b p rec) k s)).2.2.2.1 (sk_st N up T D t b p rec k (sk_l (sk_st N up T D t b p rec) k s)).2.2.2.2
    generalize sk_l (sk_st N up T D t b p rec) k s = s2 at e
    unfold sk_st
    by_cases c1 : s2.2.1 = true
    · rw [if_pos c1]; exact e
    · rw [if_neg c1]
      by_cases c2 : sk_ca N T D k t
      · rw [if_pos c2]
        by_cases c3 : s2.1 = 0
        · rw [if_pos c3]; exact e
        · rw [if_neg c3]
          by_cases c4 : sk_en b p (up + N (612 + k)) (N (606 + k)) < 0
          · rw [if_pos c4]; exact e
          · rw [if_neg c4]; exact h k _ (by omega) e
      · rw [if_neg c2]; exact e
theorem sk_V_sk {N : Nat → Int32} {up T : Int32} {k : Nat} (hk : k ≤ 6) : ∀ (f m : Nat) (r : Nat → Int32) (D : Nat) (t b p : Int32) (s : sk_S), sk_V m r → sk_V s.2.2.2.1 s.2.2.2.2 → sk_V (sk N up T k f m r D t b p s).2.2.2.1 (sk N up T k f m r D t b p s).2.2.2.2 := by
  intro f
  induction f with
  | zero => intro m r D t b p s h1 h2; exact sk_V_we h1 h2
  | succ f ih =>
    intro m r D t b p s h1 h2
    unfold sk
    refine sk_V_l (sk_V_we h1 h2) k (fun w s2 hw h3 => ih _ _ _ _ _ _ _ (sk_V_u h1 (by omega)) h3)
def fp_s (N : Nat → Int32) (l k : Nat) (n tries : Int32) : sk_S := sk N (sp_pb N 0 l) n k 6 0 (fun _ => 0) 0 0 (N 4) (N 5) (vv tries, false, -1, 0, fun _ => 0)
theorem fp_V {N : Nat → Int32} {l k : Nat} {n tries : Int32} (hk : k ≤ 6) : sk_V (fp_s N l k n tries).2.2.2.1 (fp_s N l k n tries).2.2.2.2 := sk_V_sk hk 6 0 _ 0 _ _ _ _ (fun i hi => absurd hi (Nat.not_lt_zero _)) (fun i hi => absurd hi (Nat.not_lt_zero _))
def fp_w (s : sk_S) : Int32 := if s.2.1 = true then (-1000000004) else if 0 ≤ s.2.2.1 then 0 else (-1000000002)
/-- what a search leaves as it was -/
def sk_H (I J : mm_I) : Prop := ∀ a i, a ≠ 211 → a ≠ 212 → (a = 200 → i ≠ 21 ∧ i ≠ 22 ∧ i ≠ 23 ∧ i ≠ 26 ∧ i ≠ 27) → J a i = I a i
theorem sk_H_r (I : mm_I) : sk_H I I := fun _ _ _ _ _ => rfl
theorem sk_H_t {I J K : mm_I} (h : sk_H I J) (h2 : sk_H J K) : sk_H I K := fun a i h1 h3 h4 => (h2 a i h1 h3 h4).trans (h a i h1 h3 h4)
theorem sk_H_u {I J : mm_I} (h : sk_H I J) {i : Nat} {x : Int32} (ha : i = 21 ∨ i = 22 ∨ i = 23 ∨ i = 26 ∨ i = 27) : sk_H I (mm_up J 200 i x) := by
  intro a' i' h1 h2 h3
  rw [← h a' i' h1 h2 h3]
  by_cases e : a' = 200
  · subst e
    refine mm_up_ni ?_
    intro e2
    subst e2
    have := h3 rfl
    omega
  · exact mm_up_ne e
theorem sk_H_F {I J : mm_I} (h : sk_F I J) : sk_H I J := fun a i h1 h2 h3 => h a i h1 h2 (fun q => ⟨(h3 q).2.1, (h3 q).2.2.1, (h3 q).2.2.2.1, (h3 q).2.2.2.2⟩)
abbrev fp_ok (n tries : Int32) : Prop := sp_wi n 1 24 ∧ sp_wi tries 1 20000
def op_plan (l k : Nat) (J : mm_I) (n tries : Int32) : Int32 := if fp_ok n tries then (if fp_w (fp_s (J 201) l k n tries) = 0 then (fp_s (J 201) l k n tries).2.2.1 else fp_w (fp_s (J 201) l k n tries)) else (-1000000001)
def op_planned (l k : Nat) (J : mm_I) (n tries i : Int32) : Int32 := if i < 0 then (-1000000001) else if fp_ok n tries then (if fp_w (fp_s (J 201) l k n tries) = 0 then (if i < nI (fp_s (J 201) l k n tries).2.2.2.1 then (fp_s (J 201) l k n tries).2.2.2.2 (vv i) else (-1000000005)) else fp_w (fp_s (J 201) l k n tries)) else (-1000000001)
abbrev hd_P (W : Nat → Int32) (many x : Nat) (y : Bool) (v : Int32) : Prop := y = true ∨ many ≤ x ∨ ¬ W x = v
def hd_f (W : Nat → Int32) (many : Nat) (s : Nat × Bool) (v : Int32) : Nat × Bool := if hd_P W many s.1 s.2 v then (s.1, true) else (s.1 + 1, false)
def hd_m (I : mm_I) (s : Nat × Bool) : mm_I := mm_up (mm_up I 200 29 (if s.2 = true then 1 else 0)) 200 28 (nI s.1)
theorem hd_m_28 {I : mm_I} {s : Nat × Bool} : hd_m I s 200 28 = nI s.1 := by unfold hd_m; rw [mm_up_at]
theorem hd_m_29 {I : mm_I} {s : Nat × Bool} : hd_m I s 200 29 = if s.2 = true then 1 else 0 := by unfold hd_m; rw [mm_up_ni (by decide), mm_up_at]
theorem hd_m_n {I : mm_I} {s : Nat × Bool} {a i : Nat} (h : a = 200 → i ≠ 28 ∧ i ≠ 29) : hd_m I s a i = I a i := by
  unfold hd_m
  by_cases e : a = 200
  · subst e; rw [mm_up_ni (h rfl).1, mm_up_ni (h rfl).2]
  · rw [mm_up_ne e, mm_up_ne e]
theorem hd_m_a {I : mm_I} {s : Nat × Bool} {a : Nat} (h : a ≠ 200) : hd_m I s a = I a := funext fun _ => hd_m_n (fun q => absurd q h)
theorem hd_m_m {I : mm_I} {s s2 : Nat × Bool} : hd_m (hd_m I s) s2 = hd_m I s2 := by
  funext a i
  by_cases e : a = 200
  · subst e
    by_cases e2 : i = 28
    · subst e2; rw [hd_m_28, hd_m_28]
    · by_cases e3 : i = 29
      · subst e3; rw [hd_m_29, hd_m_29]
      · rw [hd_m_n (fun _ => ⟨e2, e3⟩), hd_m_n (fun _ => ⟨e2, e3⟩), hd_m_n (fun _ => ⟨e2, e3⟩)]
  · rw [hd_m_n (fun q => absurd q e), hd_m_n (fun q => absurd q e), hd_m_n (fun q => absurd q e)]
theorem hd_m_s {I : mm_I} {s : Nat × Bool} (h1 : I 200 28 = nI s.1) (h2 : I 200 29 = if s.2 = true then 1 else 0) : hd_m I s = I := by
  funext a i
  by_cases e : a = 200
  · subst e
    by_cases e2 : i = 28
    · subst e2; rw [hd_m_28, h1]
    · by_cases e3 : i = 29
      · subst e3; rw [hd_m_29, h2]
      · rw [hd_m_n (fun _ => ⟨e2, e3⟩)]
  · rw [hd_m_n (fun q => absurd q e)]
theorem hd_e {I : mm_I} {x : Nat} {P : Prop} {d1 : Decidable P} {d2 : Decidable ¬ P} : mm_up (mm_up I 200 29 (@ite _ P d1 1 0)) 200 28 (nI x + (@ite _ (¬ P) d2 1 0)) = hd_m I (@ite _ P d1 (x, true) (x + 1, false)) := by
  by_cases hp : P
  · rw [if_pos hp, if_neg (fun q => q hp), if_pos hp, Int32.add_zero]; rfl
  · rw [if_neg hp, if_pos hp, if_neg hp, nI_1]; rfl
abbrev hp_S : Type := Int32 × Int32 × Nat × Int32
def hp_w (bm : Nat) (best : Nat → Int32) (a : Nat) : Int32 := if a < bm then best a else -1
def hp_b (N : Nat → Int32) (up w b p : Int32) : Int32 := sp_min 9999 (b + p) - up - (if w < 0 then 0 else N (612 + vv w))
def hp_n (N : Nat → Int32) (up : Int32) (bm : Nat) (best : Nat → Int32) (x : hp_S) : hp_S :=
  if hp_w bm best x.2.2.1 < 0 ∨ ¬ x.2.2.2 + (-1) = 0 then (hp_b N up (hp_w bm best x.2.2.1) x.1 x.2.1, x.2.1, x.2.2.1, x.2.2.2 + (-1)) else (hp_b N up (hp_w bm best x.2.2.1) x.1 x.2.1, x.2.1 + N (618 + vv (hp_w bm best x.2.2.1)), x.2.2.1 + 1, if x.2.2.1 + 1 < bm then N (606 + vv (best (x.2.2.1 + 1))) else 0)
def hp_r (N W : Nat → Int32) (up : Int32) (many bm : Nat) (best : Nat → Int32) : Nat → hp_S × (Nat × Bool)
  | 0 => ((N 4, N 5, 0, if 0 < bm then N (606 + vv (best 0)) else 0), (0, false))
  | t + 1 => (hp_n N up bm best (hp_r N W up many bm best t).1, hd_f W many (hd_f W many (hp_r N W up many bm best t).2 (hp_w bm best (hp_r N W up many bm best t).1.2.2.1)) (hp_b N up (hp_w bm best (hp_r N W up many bm best t).1.2.2.1) (hp_r N W up many bm best t).1.1 (hp_r N W up many bm best t).1.2.1))
def nt_r (N W : Nat → Int32) (many : Nat) (each : Int32) : Nat → Nat × Bool
  | 0 => (0, false)
  | t + 1 => hd_f W many (nt_r N W many each t) (N 4 - each * nI (t + 1))
theorem hd_f_le {W : Nat → Int32} {many : Nat} {s : Nat × Bool} {v : Int32} (h : s.1 ≤ many) : (hd_f W many s v).1 ≤ many := by
  unfold hd_f
  by_cases c : hd_P W many s.1 s.2 v
  · rw [if_pos c]; exact h
  · rw [if_neg c]
    have : ¬ many ≤ s.1 := fun q => c (Or.inr (Or.inl q))
    show s.1 + 1 ≤ many
    omega
theorem hp_r_le {N W : Nat → Int32} {up : Int32} {many bm : Nat} {best : Nat → Int32} : ∀ t, (hp_r N W up many bm best t).2.1 ≤ many := by
  intro t
  induction t with
  | zero => exact Nat.zero_le _
  | succ t ih => exact hd_f_le (hd_f_le ih)
theorem nt_r_le {N W : Nat → Int32} {many : Nat} {each : Int32} : ∀ t, (nt_r N W many each t).1 ≤ many := by
  intro t
  induction t with
  | zero => exact Nat.zero_le _
  | succ t ih => exact hd_f_le ih
def ck_a (s : Nat × Bool) (many : Nat) : Int32 := if s.2 = true ∨ s.1 < many then nI (1 + s.1) else 0
def op_check (l k t : Nat) (J : mm_I) (x n : Int32) : Int32 := if ¬ sp_wi x 0 1 ∨ ¬ sp_wi n 1 24 then (-1000000001) else if x = 0 then (if fp_w (fp_s (J 201) l k n 20000) = 0 then ck_a (hp_r (J 201) (J 204) (sp_pb (J 201) 0 l) t (fp_s (J 201) l k n 20000).2.2.2.1 (fp_s (J 201) l k n 20000).2.2.2.2 (vv n)).2 t else fp_w (fp_s (J 201) l k n 20000)) else ck_a (nt_r (J 201) (J 204) t (sp_pb (J 201) (sp_fc (J 201) l n (2 ^ l)) l) (vv n)) t
theorem sk_cn_0 {k : Nat} (hk : k ≤ 6) : sk_cn 0 k = 0 := by
  rcases (show k = 0 ∨ k = 1 ∨ k = 2 ∨ k = 3 ∨ k = 4 ∨ k = 5 ∨ k = 6 by omega) with rfl | rfl | rfl | rfl | rfl | rfl | rfl <;> decide
def fp_Q (l k : Nat) (I : mm_I) (n tries r : Int32) (J : mm_I) : Prop := (¬ fp_ok n tries → r = (-1000000001) ∧ J = I) ∧ (fp_ok n tries → r = fp_w (fp_s (I 201) l k n tries) ∧ sk_E J (fp_s (I 201) l k n tries) 0 (fun _ => 0) ∧ sk_H I J)
set_option maxRecDepth 100000 in
set_option maxHeartbeats 600000 in
theorem cm_findPlan {g : mm_G} {I : mm_I} {d : Nat} {Q : Option Value → mm_Sh → mm_I → Prop} {l : Nat} (hl : I 201 15 = nI l) (hl8 : l ≤ 8) {k : Nat} (hk : I 201 19 = nI k) (hk6 : k ≤ 6) {n tries : Int32} (hd : 10 ≤ d) (hq : ∀ r J, fp_Q l k I n tries r J → Q (some (.int r)) sh_S J) : mm_Ct g zX12_findPlan d (0, 0) [.ref 200, .int n, .int tries] sh_S I Q := by
  refine mm_begin (ls := [(0, .ref 200), (1, .int (n)), (2, .int (tries))]) (Nat.le_of_ble_eq_true rfl) rfl rfl ?_
  refine mm_iload_n 1 dX12_findPlan_0 rfl rfl ?_
  refine mm_iconst (v := 1) dX12_findPlan_1 rfl ?_
  refine mm_bipush (v := 24) dX12_findPlan_2 rfl ?_
  refine mm_cS3i (dz := d - 1) dX12_findPlan_4 rfl mzX12_within ml_X12_82 imX12_within (by omega) cm_within (Nat.le_of_ble_eq_true rfl) ⟨Nat.le_refl _, Nat.le_refl _⟩ ?_
  refine mm_if_eqB (tgt := 21) dX12_findPlan_7 (by decide) (fun c7 => ?_) (fun c7 => ?_)
  · refine mm_ldc dX12_findPlan_21 rfl kc_X12_86 ?_
    refine mm_iret dX12_findPlan_23 rfl ⟨Nat.le_refl _, Nat.le_refl _⟩ ?_
    exact hq _ _ ⟨fun _ => ⟨rfl, rfl⟩, fun q => by first | exact absurd q.1 c7 | exact absurd q.2 c18⟩
  · refine mm_iload_n 2 dX12_findPlan_10 rfl rfl ?_
    refine mm_iconst (v := 1) dX12_findPlan_11 rfl ?_
    refine mm_sipush (v := 20000) dX12_findPlan_12 rfl ?_
    refine mm_cS3i (dz := d - 1) dX12_findPlan_15 rfl mzX12_within ml_X12_82 imX12_within (by omega) cm_within (Nat.le_of_ble_eq_true rfl) ⟨Nat.le_refl _, Nat.le_refl _⟩ ?_
    refine mm_if_neB (tgt := 24) dX12_findPlan_18 (by decide) (fun c18 => ?_) (fun c18 => ?_)
    · obtain ⟨tr, hktr, rfl⟩ := sp_wi_n 1 20000 (by decide) (by decide) c18
      refine mm_aload_n 0 dX12_findPlan_24 rfl rfl ?_
      refine mm_iload_n 1 dX12_findPlan_25 rfl rfl ?_
      refine mm_puti dX12_findPlan_26 rfl fk_X12_344 rfl fv_12_21 so_200 ?_
      refine mm_aload_n 0 dX12_findPlan_29 rfl rfl ?_
      refine mm_iload_n 2 dX12_findPlan_30 rfl rfl ?_
      refine mm_puti dX12_findPlan_31 rfl fk_X12_359 rfl fv_12_22 so_200 ?_
      refine mm_aload_n 0 dX12_findPlan_34 rfl rfl ?_
      refine mm_iconst (v := 0) dX12_findPlan_35 rfl ?_
      refine mm_at (pc' := 36) rfl ?_
      refine mm_putz dX12_findPlan_36 rfl fk_X12_356 rfl fv_12_23 (by decide) so_200 ?_
      refine mm_aload_n 0 dX12_findPlan_39 rfl rfl ?_
      refine mm_iconst (v := -1) dX12_findPlan_40 rfl ?_
      refine mm_puti dX12_findPlan_41 rfl fk_X12_350 rfl fv_12_27 so_200 ?_
      refine mm_aload_n 0 dX12_findPlan_44 rfl rfl ?_
      refine mm_iconst (v := 0) dX12_findPlan_45 rfl ?_
      refine mm_puti dX12_findPlan_46 rfl fk_X12_353 rfl fv_12_26 so_200 ?_
      have hN0 : (mm_up (mm_up (mm_up (mm_up (mm_up I 200 21 n) 200 22 (nI (tr))) 200 23 0) 200 27 (-1)) 200 26 0) 201 = I 201 := by funext j; rw [mm_up_ne (by decide), mm_up_ne (by decide), mm_up_ne (by decide), mm_up_ne (by decide), mm_up_ne (by decide)]
      have hH0 : sk_H I (mm_up (mm_up (mm_up (mm_up (mm_up I 200 21 n) 200 22 (nI (tr))) 200 23 0) 200 27 (-1)) 200 26 0) := sk_H_u (sk_H_u (sk_H_u (sk_H_u (sk_H_u (sk_H_r I) (by omega)) (by omega)) (by omega)) (by omega)) (by omega)
      have hT0 : (mm_up (mm_up (mm_up (mm_up (mm_up I 200 21 n) 200 22 (nI (tr))) 200 23 0) 200 27 (-1)) 200 26 0) 200 21 = n := by rw [mm_up_ni (by decide), mm_up_ni (by decide), mm_up_ni (by decide), mm_up_ni (by decide), mm_up_at]
      have hE0 : sk_E (mm_up (mm_up (mm_up (mm_up (mm_up I 200 21 n) 200 22 (nI (tr))) 200 23 0) 200 27 (-1)) 200 26 0) (tr, false, -1, 0, fun _ => 0) 0 (fun _ => 0) := ⟨by rw [mm_up_ni (by decide), mm_up_ni (by decide), mm_up_ni (by decide), mm_up_at], (show tr ≤ 20000 by omega), by rw [mm_up_ni (by decide), mm_up_ni (by decide), mm_up_at]; rfl, by rw [mm_up_ni (by decide), mm_up_at], by rw [mm_up_at]; rfl, Nat.zero_le _, fun i hi => absurd hi (Nat.not_lt_zero _), fun i hi => absurd hi (Nat.not_lt_zero _)⟩
      refine mm_aload_n 0 dX12_findPlan_49 rfl rfl ?_
      refine mm_at (pc' := 50) rfl ?_
      refine mm_iconst (v := 0) dX12_findPlan_50 rfl ?_
      refine mm_iconst (v := 0) dX12_findPlan_51 rfl ?_
      refine mm_iconst (v := 0) dX12_findPlan_52 rfl ?_
      refine mm_aload_n 0 dX12_findPlan_53 rfl rfl ?_
      refine mm_getr (b := 201) dX12_findPlan_54 rfl fk_X12_9 rfl so_200 sr_200_0 ?_
      refine mm_iconst (v := 4) dX12_findPlan_57 rfl ?_
      refine mm_ialdN (4) dX12_findPlan_58 sa_201 (by omega) (by omega) ?_
      refine mm_top (v := I 201 4) (by rw [mm_up_ne (by decide), mm_up_ne (by decide), mm_up_ne (by decide), mm_up_ne (by decide), mm_up_ne (by decide)]) ?_
      refine mm_aload_n 0 dX12_findPlan_59 rfl rfl ?_
      refine mm_at (pc' := 60) rfl ?_
      refine mm_getr (b := 201) dX12_findPlan_60 rfl fk_X12_9 rfl so_200 sr_200_0 ?_
      refine mm_iconst (v := 5) dX12_findPlan_63 rfl ?_
      refine mm_ialdN (5) dX12_findPlan_64 sa_201 (by omega) (by omega) ?_
      refine mm_top (v := I 201 5) (by rw [mm_up_ne (by decide), mm_up_ne (by decide), mm_up_ne (by decide), mm_up_ne (by decide), mm_up_ne (by decide)]) ?_
      refine mm_dV5v (dz := d - 1) dX12_findPlan_65 rfl mzX12_seek ml_X12_362 imX12_seek (by omega) so_200 ⟨rfl, rfl⟩ (cm_seek (N := I 201) (T := n) hl hl8 rfl hk hk6 6 0 (fun _ => 0) 0 0 (I 201 4) (I 201 5) (tr, false, -1, 0, fun _ => 0) _ (d - 1) (by omega) (by omega) (sk_cn_0 hk6) hE0 hN0 hT0 (by omega)) (Nat.le_of_ble_eq_true rfl) ⟨Nat.le_refl _, Nat.le_refl _⟩ (fun J2 hJ2 => ?_)
      have hfE : sk_E J2 (fp_s (I 201) l k n (nI tr)) 0 (fun _ => 0) := by unfold fp_s; rw [vv_nI (by omega)]; exact hJ2.1
      have hfH := sk_H_t hH0 (sk_H_F hJ2.2)
      refine mm_aload_n 0 dX12_findPlan_68 rfl rfl ?_
      refine mm_geti dX12_findPlan_69 rfl fk_X12_356 rfl so_200 ?_
      refine mm_top (v := if (fp_s (I 201) l k n (nI tr)).2.1 = true then 1 else 0) hfE.2.2.1 ?_
      have K72 : mm_Ex g zX12_findPlan d (0, 0) (0, 0) sh_S (J2) 94 [(0, .ref 200), (1, .int (n)), (2, .int (nI (tr)))] [.int (if (fp_s (I 201) l k n (nI tr)).2.1 = true then -1000000004 else (if 0 ≤ ((fp_s (I 201) l k n (nI tr)).2.2.1) then 0 else -1000000002))] Q := by
        refine mm_iret dX12_findPlan_94 rfl ⟨Nat.le_refl _, Nat.le_refl _⟩ ?_
        exact hq _ _ ⟨fun q => absurd ⟨c7, c18⟩ q, fun _ => ⟨rfl, hfE, hfH⟩⟩
      refine mm_if_eqB (tgt := 81) dX12_findPlan_72 (by decide) (fun c72 => ?_) (fun c72 => ?_)
      · refine mm_aload_n 0 dX12_findPlan_81 rfl rfl ?_
        refine mm_geti dX12_findPlan_82 rfl fk_X12_350 rfl so_200 ?_
        refine mm_top (v := (fp_s (I 201) l k n (nI tr)).2.2.1) hfE.2.2.2.1 ?_
        refine mm_if_ge (tgt := 93) dX12_findPlan_85 (by decide) (fun c85 => ?_) (fun c85 => ?_)
        · refine mm_iconst (v := 0) dX12_findPlan_93 rfl ?_
          exact mm_top (by rw [if_neg c72, if_pos c85]) K72
        · refine mm_ldc dX12_findPlan_88 rfl kc_X12_99 ?_
          refine mm_goto (tgt := 94) dX12_findPlan_90 (by decide) ?_
          exact mm_top (by rw [if_neg c72, if_neg c85]) K72
      · refine mm_ldcw dX12_findPlan_75 rfl kc_X12_366 ?_
        refine mm_goto (tgt := 94) dX12_findPlan_78 (by decide) ?_
        exact mm_top (by rw [if_pos c72]) K72
    · refine mm_ldc dX12_findPlan_21 rfl kc_X12_86 ?_
      refine mm_iret dX12_findPlan_23 rfl ⟨Nat.le_refl _, Nat.le_refl _⟩ ?_
      exact hq _ _ ⟨fun _ => ⟨rfl, rfl⟩, fun q => by first | exact absurd q.1 c7 | exact absurd q.2 c18⟩
theorem cm_findPlanD {g : mm_G} {I : mm_I} {d l k : Nat} (hl : I 201 15 = nI l) (hl8 : l ≤ 8) (hk : I 201 19 = nI k) (hk6 : k ≤ 6) {n tries : Int32} (hd : 10 ≤ d) : mm_Di g zX12_findPlan d [.ref 200, .int n, .int tries] sh_S I (fp_Q l k I n tries) := mm_Di_of (fun _ hq => cm_findPlan hl hl8 hk hk6 hd hq)
theorem fp_H {l k : Nat} {I J : mm_I} {n tries y : Int32} (h : fp_Q l k I n tries y J) : sk_H I J := by
  by_cases c : fp_ok n tries
  · exact (h.2 c).2.2
  · rw [(h.1 c).2]; exact sk_H_r I
theorem pl_e {l k : Nat} {I J : mm_I} {n tries y : Int32} (h : fp_Q l k I n tries y J) : (if y = 0 then J 200 27 else y) = op_plan l k I n tries := by
  unfold op_plan
  by_cases c : fp_ok n tries
  · rw [if_pos c]
    obtain ⟨e, hE, -⟩ := h.2 c
    subst e
    by_cases c2 : fp_w (fp_s (I 201) l k n tries) = 0
    · rw [if_pos c2, if_pos c2]; exact hE.2.2.2.1
    · rw [if_neg c2, if_neg c2]
  · rw [if_neg c]
    obtain ⟨e, -⟩ := h.1 c
    subst e
    rfl
theorem fp_y {l k : Nat} {I J : mm_I} {n tries y : Int32} (h : fp_Q l k I n tries y J) (h0 : y = 0) : fp_ok n tries := by
  by_cases c : fp_ok n tries
  · exact c
  · have := (h.1 c).1; rw [h0] at this; exact absurd this (by decide)
set_option maxRecDepth 100000 in
set_option maxHeartbeats 600000 in
theorem cm_plan {g : mm_G} {I : mm_I} {d : Nat} {Q : Option Value → mm_Sh → mm_I → Prop} {l : Nat} (hl : I 201 15 = nI l) (hl8 : l ≤ 8) {k : Nat} (hk : I 201 19 = nI k) (hk6 : k ≤ 6) {n tries : Int32} (hd : 11 ≤ d) (hq : ∀ r J, r = op_plan l k I n tries → sk_H I J → Q (some (.int r)) sh_S J) : mm_Ct g zX12_plan d (0, 0) [.ref 200, .int n, .int tries] sh_S I Q := by
  refine mm_begin (ls := [(0, .ref 200), (1, .int (n)), (2, .int (tries))]) (Nat.le_of_ble_eq_true rfl) rfl rfl ?_
  refine mm_aload_n 0 dX12_plan_0 rfl rfl ?_
  refine mm_iload_n 1 dX12_plan_1 rfl rfl ?_
  refine mm_iload_n 2 dX12_plan_2 rfl rfl ?_
  refine mm_dV2i (dz := d - 1) dX12_plan_3 rfl mzX12_findPlan ml_X12_367 imX12_findPlan (by omega) so_200 ⟨rfl, rfl⟩ (cm_findPlanD hl hl8 hk hk6 (by omega)) (Nat.le_of_ble_eq_true rfl) ⟨Nat.le_refl _, Nat.le_refl _⟩ (fun y2 J2 hJ2 => ?_)
  refine mm_istore_n (ls' := [(3, .int (y2)), (0, .ref 200), (1, .int (n)), (2, .int (tries))]) dX12_plan_6 rfl (by decide) rfl ?_
  refine mm_iload_n 0 dX12_plan_7 rfl rfl ?_
  have K8 : mm_Ex g zX12_plan d (0, 0) (0, 0) sh_S (J2) 19 [(3, .int (y2)), (0, .ref 200), (1, .int (n)), (2, .int (tries))] [.int (if (y2) = 0 then (J2 200 27) else y2)] Q := by
    refine mm_iret dX12_plan_19 rfl ⟨Nat.le_refl _, Nat.le_refl _⟩ ?_
    exact hq _ _ (pl_e hJ2) (fp_H hJ2)
  refine mm_if_eq (tgt := 15) dX12_plan_8 (by decide) (fun c8 => ?_) (fun c8 => ?_)
  · refine mm_aload_n 1 dX12_plan_15 rfl rfl ?_
    refine mm_geti dX12_plan_16 rfl fk_X12_350 rfl so_200 ?_
    exact mm_top (by rw [if_pos c8]) K8
  · refine mm_iload_n 0 dX12_plan_11 rfl rfl ?_
    refine mm_goto (tgt := 19) dX12_plan_12 (by decide) ?_
    exact mm_top (by rw [if_neg c8]) K8
set_option maxRecDepth 100000 in
set_option maxHeartbeats 600000 in
theorem cm_planned {g : mm_G} {I : mm_I} {d : Nat} {Q : Option Value → mm_Sh → mm_I → Prop} {l : Nat} (hl : I 201 15 = nI l) (hl8 : l ≤ 8) {k : Nat} (hk : I 201 19 = nI k) (hk6 : k ≤ 6) {n tries i : Int32} (hd : 11 ≤ d) (hq : ∀ r J, r = op_planned l k I n tries i → sk_H I J → Q (some (.int r)) sh_S J) : mm_Ct g zX12_planned d (0, 0) [.ref 200, .int n, .int tries, .int i] sh_S I Q := by
  refine mm_begin (ls := [(0, .ref 200), (1, .int (n)), (2, .int (tries)), (3, .int (i))]) (Nat.le_of_ble_eq_true rfl) rfl rfl ?_
  refine mm_iload_n 3 dX12_planned_0 rfl rfl ?_
  refine mm_if_ge (tgt := 7) dX12_planned_1 (by decide) (fun c1 => ?_) (fun c1 => ?_)
  · refine mm_aload_n 0 dX12_planned_7 rfl rfl ?_
    refine mm_iload_n 1 dX12_planned_8 rfl rfl ?_
    refine mm_iload_n 2 dX12_planned_9 rfl rfl ?_
    refine mm_dV2i (dz := d - 1) dX12_planned_10 rfl mzX12_findPlan ml_X12_367 imX12_findPlan (by omega) so_200 ⟨rfl, rfl⟩ (cm_findPlanD hl hl8 hk hk6 (by omega)) (Nat.le_of_ble_eq_true rfl) ⟨Nat.le_refl _, Nat.le_refl _⟩ (fun y2 J2 hJ2 => ?_)
    refine mm_istore (ls' := [(4, .int (y2)), (0, .ref 200), (1, .int (n)), (2, .int (tries)), (3, .int (i))]) dX12_planned_13 (by decide) rfl ?_
    refine mm_iload 0 dX12_planned_15 rfl ?_
    refine mm_if_eq (tgt := 25) dX12_planned_17 (by decide) (fun c17 => ?_) (fun c17 => ?_)
    · have hok := fp_y hJ2 c17
      obtain ⟨hfy, hfE, hfH⟩ := hJ2.2 hok
      obtain ⟨j, hj, rfl⟩ := nI_of (Int32.not_lt.mpr c1)
      have hb6 := hfE.2.2.2.2.2.1
      refine mm_iload_n 4 dX12_planned_25 rfl rfl ?_
      refine mm_aload_n 1 dX12_planned_26 rfl rfl ?_
      refine mm_geti dX12_planned_27 rfl fk_X12_353 rfl so_200 ?_
      refine mm_top (v := nI ((fp_s (I 201) l k n tries).2.2.2.1)) hfE.2.2.2.2.1 ?_
      refine mm_icmp_geN (j) ((fp_s (I 201) l k n tries).2.2.2.1) (tgt := 42) dX12_planned_30 (by decide) (by omega) (by omega) (fun c30 => ?_) (fun c30 => ?_)
      · refine mm_ldc dX12_planned_42 rfl kc_X12_100 ?_
        refine mm_iret dX12_planned_44 rfl ⟨Nat.le_refl _, Nat.le_refl _⟩ ?_
        exact hq _ _ (by unfold op_planned; rw [if_neg (Int32.not_lt.mpr c1), if_pos hok, ← hfy, if_pos c17, if_neg (fun q => absurd ((nI_ltI hj (by omega)).mp q) (by omega))]) hfH
      · refine mm_aload_n 1 dX12_planned_33 rfl rfl ?_
        refine mm_getr (b := 212) dX12_planned_34 rfl fk_X12_68 rfl so_200 sr_200_25 ?_
        refine mm_iload_n 4 dX12_planned_37 rfl rfl ?_
        refine mm_ialdN (j) dX12_planned_38 sa_212 (by omega) (by omega) ?_
        refine mm_top (v := (fp_s (I 201) l k n tries).2.2.2.2 j) (hfE.2.2.2.2.2.2.1 j c30) ?_
        refine mm_goto (tgt := 44) dX12_planned_39 (by decide) ?_
        refine mm_iret dX12_planned_44 rfl ⟨Nat.le_refl _, Nat.le_refl _⟩ ?_
        exact hq _ _ (by unfold op_planned; rw [if_neg (Int32.not_lt.mpr c1), if_pos hok, ← hfy, if_pos c17, if_pos ((nI_ltI hj (by omega)).mpr c30), vv_nI hj]) hfH
    · refine mm_iload 0 dX12_planned_20 rfl ?_
      refine mm_goto (tgt := 44) dX12_planned_22 (by decide) ?_
      refine mm_iret dX12_planned_44 rfl ⟨Nat.le_refl _, Nat.le_refl _⟩ ?_
      exact hq _ _ (by
        unfold op_planned
        rw [if_neg (Int32.not_lt.mpr c1)]
        by_cases c : fp_ok n tries
        · rw [if_pos c]; obtain ⟨e, -⟩ := hJ2.2 c; subst e; rw [if_neg c17]
        · rw [if_neg c]; exact (hJ2.1 c).1) (fp_H hJ2)
  · refine mm_ldc dX12_planned_4 rfl kc_X12_86 ?_
    refine mm_iret dX12_planned_6 rfl ⟨Nat.le_refl _, Nat.le_refl _⟩ ?_
    exact hq _ _ (by unfold op_planned; rw [if_pos (Int32.not_le.mp c1)]) (sk_H_r I)
set_option maxRecDepth 100000 in
set_option maxHeartbeats 600000 in
theorem cm_hold {g : mm_G} {I : mm_I} {d : Nat} {x many : Nat} {y : Bool} {v : Int32} (h28 : I 200 28 = nI x) (h29 : I 200 29 = if y = true then 1 else 0) (hx : x ≤ 100) (hm : many ≤ 100) : mm_Cv g zX12_hold d [.ref 200, .int v, .int (nI many)] sh_S I (hd_m I (hd_f (I 204) many (x, y) v)) := by
  refine mm_Cv_of (fun Q hq => ?_)
  refine mm_begin (ls := [(0, .ref 200), (1, .int (v)), (2, .int (nI (many)))]) (Nat.le_of_ble_eq_true rfl) rfl rfl ?_
  refine mm_aload_n 0 dX12_hold_0 rfl rfl ?_
  refine mm_aload_n 0 dX12_hold_1 rfl rfl ?_
  refine mm_geti dX12_hold_2 rfl fk_X12_373 rfl so_200 ?_
  refine mm_top (v := if y = true then 1 else 0) h29 ?_
  have K5 : mm_Ex g zX12_hold d (0, 0) (0, 0) sh_S (I) 34 [(0, .ref 200), (1, .int (v)), (2, .int (nI (many)))] [.int (if (y = true) ∨ (((many) ≤ (x)) ∨ (¬ ((I 204 x) = (v)))) then 1 else 0), .ref 200] Q := by
    refine mm_putz dX12_hold_34 rfl fk_X12_373 rfl fv_12_29 mm_b01 so_200 ?_
    refine mm_aload_n 0 dX12_hold_37 rfl rfl ?_
    refine mm_dup dX12_hold_38 rfl ?_
    refine mm_geti dX12_hold_39 rfl fk_X12_376 rfl so_200 ?_
    refine mm_top (v := I 200 28) (by rw [mm_up_ni (by decide)]) ?_
    refine mm_top (v := nI (x)) h28 ?_
    refine mm_aload_n 0 dX12_hold_42 rfl rfl ?_
    refine mm_geti dX12_hold_43 rfl fk_X12_373 rfl so_200 ?_
    refine mm_top (v := if (y = true) ∨ (((many) ≤ (x)) ∨ (¬ ((I 204 x) = (v)))) then 1 else 0) (by rw [mm_up_at]) ?_
    have K46 : mm_Ex g zX12_hold d (0, 0) (0, 0) sh_S (mm_up I 200 29 (if (y = true) ∨ (((many) ≤ (x)) ∨ (¬ ((I 204 x) = (v)))) then 1 else 0)) 54 [(0, .ref 200), (1, .int (v)), (2, .int (nI (many)))] [.int (if ¬ ((y = true) ∨ (((many) ≤ (x)) ∨ (¬ ((I 204 x) = (v))))) then 1 else 0), .int (nI (x)), .ref 200] Q := by
      refine mm_iadd dX12_hold_54 ?_
      refine mm_puti dX12_hold_55 rfl fk_X12_376 rfl fv_12_28 so_200 ?_
      refine mm_vret dX12_hold_58 rfl ⟨Nat.le_refl _, Nat.le_refl _⟩ ?_
      exact mm_lv hd_e hq
    refine mm_if_eqB (tgt := 53) dX12_hold_46 (by decide) (fun c46 => ?_) (fun c46 => ?_)
    · refine mm_iconst (v := 1) dX12_hold_53 rfl ?_
      exact mm_top (by first | rfl | (simp [c46]; done) | (rw [if_pos (by simp_all)]; done) | (rw [if_neg (by simp_all)]; done) | (rw [if_pos (by omega)]; done) | (rw [if_neg (by omega)]; done)) K46
    · refine mm_iconst (v := 0) dX12_hold_49 rfl ?_
      refine mm_goto (tgt := 54) dX12_hold_50 (by decide) ?_
      exact mm_top (by first | rfl | (simp [c46]; done) | (rw [if_pos (by simp_all)]; done) | (rw [if_neg (by simp_all)]; done) | (rw [if_pos (by omega)]; done) | (rw [if_neg (by omega)]; done)) K46
  refine mm_if_neB (tgt := 29) dX12_hold_5 (by decide) (fun c5 => ?_) (fun c5 => ?_)
  · refine mm_iconst (v := 1) dX12_hold_29 rfl ?_
    refine mm_goto (tgt := 34) dX12_hold_30 (by decide) ?_
    exact mm_top (by first | rfl | (simp [c5]; done) | (rw [if_pos (by simp_all)]; done) | (rw [if_neg (by simp_all)]; done) | (rw [if_pos (by omega)]; done) | (rw [if_neg (by omega)]; done)) K5
  · refine mm_aload_n 0 dX12_hold_8 rfl rfl ?_
    refine mm_geti dX12_hold_9 rfl fk_X12_376 rfl so_200 ?_
    refine mm_top (v := nI (x)) h28 ?_
    refine mm_iload_n 2 dX12_hold_12 rfl rfl ?_
    refine mm_icmp_geN (x) (many) (tgt := 29) dX12_hold_13 (by decide) (by omega) (by omega) (fun c13 => ?_) (fun c13 => ?_)
    · refine mm_iconst (v := 1) dX12_hold_29 rfl ?_
      refine mm_goto (tgt := 34) dX12_hold_30 (by decide) ?_
      exact mm_top (by first | rfl | (simp [c13, c5]; done) | (rw [if_pos (by simp_all)]; done) | (rw [if_neg (by simp_all)]; done) | (rw [if_pos (by omega)]; done) | (rw [if_neg (by omega)]; done)) K5
    · refine mm_aload_n 0 dX12_hold_16 rfl rfl ?_
      refine mm_getr (b := 204) dX12_hold_17 rfl fk_X12_19 rfl so_200 sr_200_6 ?_
      refine mm_aload_n 0 dX12_hold_20 rfl rfl ?_
      refine mm_geti dX12_hold_21 rfl fk_X12_376 rfl so_200 ?_
      refine mm_top (v := nI (x)) h28 ?_
      refine mm_ialdN (x) dX12_hold_24 sa_204 (by omega) (by omega) ?_
      refine mm_iload_n 1 dX12_hold_25 rfl rfl ?_
      refine mm_icmp_eq (tgt := 33) dX12_hold_26 (by decide) (fun c26 => ?_) (fun c26 => ?_)
      · refine mm_iconst (v := 0) dX12_hold_33 rfl ?_
        exact mm_top (by first | rfl | (simp [c13, c26, c5]; done) | (rw [if_pos (by simp_all)]; done) | (rw [if_neg (by simp_all)]; done) | (rw [if_pos (by omega)]; done) | (rw [if_neg (by omega)]; done)) K5
      · refine mm_iconst (v := 1) dX12_hold_29 rfl ?_
        refine mm_goto (tgt := 34) dX12_hold_30 (by decide) ?_
        exact mm_top (by first | rfl | (simp [c13, c26, c5]; done) | (rw [if_pos (by simp_all)]; done) | (rw [if_neg (by simp_all)]; done) | (rw [if_pos (by omega)]; done) | (rw [if_neg (by omega)]; done)) K5
theorem cm_holdM {g : mm_G} {I : mm_I} {d many : Nat} {s : Nat × Bool} {v : Int32} (hx : s.1 ≤ many) (hm : many ≤ 100) : mm_Cv g zX12_hold d [.ref 200, .int v, .int (nI many)] sh_S (hd_m I s) (hd_m I (hd_f (I 204) many s v)) := by
  have h := cm_hold (g := g) (d := d) (I := hd_m I s) (x := s.1) (y := s.2) (many := many) (v := v) hd_m_28 hd_m_29 (by omega) hm
  rw [hd_m_m, hd_m_a (by decide)] at h
  exact h
theorem cm_powerButM {g : mm_G} {I : mm_I} {d l : Nat} {s : Nat × Bool} {o : Int32} (hl : I 201 15 = nI l) (hl8 : l ≤ 8) : mm_Ci g zX12_powerBut d [.ref 200, .int o] sh_S (hd_m I s) (sp_pb (I 201) o l) (hd_m I s) := by
  have h := cm_powerBut (g := g) (d := d) (I := hd_m I s) (o := o) (by rw [hd_m_a (by decide)]; exact hl) hl8
  rw [hd_m_a (by decide)] at h
  exact h
theorem hp_n_a {N : Nat → Int32} {up b p lf : Int32} {bm a : Nat} {best : Nat → Int32} (h : ¬ a < bm) : hp_n N up bm best (b, p, a, lf) = (hp_b N up (-1) b p, p, a, lf + (-1)) := by
  unfold hp_n
  show (if hp_w bm best a < 0 ∨ ¬ lf + (-1) = 0 then (hp_b N up (hp_w bm best a) b p, p, a, lf + (-1)) else _) = _
  have e : hp_w bm best a = -1 := by unfold hp_w; rw [if_neg h]
  rw [e, if_pos (Or.inl (by decide))]
theorem hp_n_b {N : Nat → Int32} {up b p lf : Int32} {bm a w : Nat} {best : Nat → Int32} (h : a < bm) (hb : best a = nI w) (hl : ¬ lf + (-1) = 0) : hp_n N up bm best (b, p, a, lf) = (hp_b N up (nI w) b p, p, a, lf + (-1)) := by
  unfold hp_n
  show (if hp_w bm best a < 0 ∨ ¬ lf + (-1) = 0 then (hp_b N up (hp_w bm best a) b p, p, a, lf + (-1)) else _) = _
  have e : hp_w bm best a = nI w := by unfold hp_w; rw [if_pos h, hb]
  rw [e, if_pos (Or.inr hl)]
theorem hp_n_c {N : Nat → Int32} {up b p lf : Int32} {bm a w : Nat} {best : Nat → Int32} (h : a < bm) (hb : best a = nI w) (hw : w < 6) (hl : lf + (-1) = 0) : hp_n N up bm best (b, p, a, lf) = (hp_b N up (nI w) b p, p + N (618 + w), a + 1, if a + 1 < bm then N (606 + vv (best (a + 1))) else 0) := by
  unfold hp_n
  show (if hp_w bm best a < 0 ∨ ¬ lf + (-1) = 0 then _ else (hp_b N up (hp_w bm best a) b p, p + N (618 + vv (hp_w bm best a)), a + 1, if a + 1 < bm then N (606 + vv (best (a + 1))) else 0)) = _
  have e : hp_w bm best a = nI w := by unfold hp_w; rw [if_pos h, hb]
  rw [e, if_neg (by intro q; rcases q with q | q; exact nI_pos (by omega) q; exact q hl), vv_nI (by omega)]
theorem hp_b_a {N : Nat → Int32} {up b p : Int32} : hp_b N up (-1) b p = sp_min 9999 (b + p) - up - 0 := rfl
theorem hp_b_b {N : Nat → Int32} {up b p : Int32} {w : Nat} (hw : w < 6) : hp_b N up (nI w) b p = sp_min 9999 (b + p) - up - N (612 + w) := by
  unfold hp_b
  rw [if_neg (nI_pos (by omega)), vv_nI (by omega)]
theorem hp_w_a {bm a : Nat} {best : Nat → Int32} (h : ¬ a < bm) : hp_w bm best a = -1 := by unfold hp_w; rw [if_neg h]
theorem hp_w_b {bm a w : Nat} {best : Nat → Int32} (h : a < bm) (hb : best a = nI w) : hp_w bm best a = nI w := by unfold hp_w; rw [if_pos h, hb]
