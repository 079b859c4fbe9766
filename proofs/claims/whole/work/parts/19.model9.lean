/-! THE REFERENCE: plans -/
def sk_pd (b p c : Int32) : Nat → Int32
  | 0 => b
  | j + 1 => if sk_pd b p c j < 0 then sk_pd b p c j else sp_min 9999 (sk_pd b p c j + p) - c
/-- the bank behind so many ticks; -1: it can't be paid -/
def sk_en (b p c m : Int32) : Int32 := if 0 ≤ sk_pd b p c (vv m) then sk_pd b p c (vv m) else -1
theorem sk_pd_neg {b p c : Int32} {i j : Nat} (h : sk_pd b p c i < 0) (hj : i ≤ j) : sk_pd b p c j = sk_pd b p c i := by
  induction j with
  | zero => rw [show i = 0 by omega]
  | succ j ih =>
    by_cases e : i = j + 1
    · rw [e]
    · have := ih (by omega)
      show (if sk_pd b p c j < 0 then sk_pd b p c j else _) = _
      rw [this, if_pos h]
theorem vv_lt (x : Int32) : vv x < 2 ^ 31 := by
  by_cases h : x < 0
  · have : vv x = 0 := by
      unfold vv
      have h2 : x.toInt < 0 := by have := Int32.lt_iff_toInt_lt.mp h; exact this
      show x.toInt.toNat = 0
      omega
    omega
  · obtain ⟨j, hj, rfl⟩ := nI_of h
    rw [vv_nI hj]; exact hj
theorem vv_ge {x : Int32} {i : Nat} (hi : i < 2 ^ 31) (h : x ≤ nI i) : vv x ≤ i := by
  by_cases h0 : x < 0
  · have : vv x = 0 := by
      unfold vv
      have h2 : x.toInt < 0 := by have := Int32.lt_iff_toInt_lt.mp h0; exact this
      show x.toInt.toNat = 0
      omega
    omega
  · obtain ⟨j, hj, rfl⟩ := nI_of h0
    rw [vv_nI hj]
    exact (nI_leI hj hi).mp h
theorem vv_gt {x : Int32} {i : Nat} (h : ¬ x ≤ nI i) : i < vv x ∨ 2 ^ 31 ≤ i := by
  by_cases hi : i < 2 ^ 31
  · left
    have h0 : ¬ x < 0 := fun q => h (Int32.le_of_lt (Int32.lt_of_lt_of_le q (Int32.not_lt.mp (nI_pos hi))))
    obtain ⟨j, hj, rfl⟩ := nI_of h0
    rw [vv_nI hj]
    have := mt (nI_leI hj hi).mpr h
    omega
  · right; omega
abbrev sk_S : Type := Nat × Bool × Int32 × Nat × (Nat → Int32)
def sk_we (up T : Int32) (m : Nat) (r : Nat → Int32) (t b p : Int32) (s : sk_S) : sk_S := if sk_en b p (up + 0) (T - t) ≤ s.2.2.1 then s else (s.1, s.2.1, sk_en b p (up + 0) (T - t), m, r)
abbrev sk_bt (D w : Nat) : Prop := (nI D >>> (nI w &&& 31)) &&& 1 = 1
abbrev sk_ca (N : Nat → Int32) (T : Int32) (D w : Nat) (t : Int32) : Prop := ¬ sk_bt D w ∧ N (624 + w) &&& (nI D ^^^ (-1)) = 0 ∧ t + N (606 + w) ≤ T
def sk_st (N : Nat → Int32) (up T : Int32) (D : Nat) (t b p : Int32) (rec : Nat → sk_S → sk_S) (w : Nat) (s : sk_S) : sk_S :=
  if s.2.1 = true then s else if sk_ca N T D w t then (if s.1 = 0 then (s.1, true, s.2.2) else if sk_en b p (up + N (612 + w)) (N (606 + w)) < 0 then (s.1 - 1, s.2) else rec w (s.1 - 1, s.2)) else s
def sk_l (st : Nat → sk_S → sk_S) : Nat → sk_S → sk_S
  | 0, s => s
  | w + 1, s => st w (sk_l st w s)
def sk (N : Nat → Int32) (up T : Int32) (k : Nat) : Nat → Nat → (Nat → Int32) → Nat → Int32 → Int32 → Int32 → sk_S → sk_S
  | 0, m, r, _, t, b, p, s => sk_we up T m r t b p s
  | f + 1, m, r, D, t, b, p, s => sk_l (sk_st N up T D t b p (fun w s => sk N up T k f (m + 1) (upd r m (nI w)) (D ||| 2 ^ w) (t + N (606 + w)) (sk_en b p (up + N (612 + w)) (N (606 + w))) (p + N (618 + w)) s)) k (sk_we up T m r t b p s)
theorem sk_st_n {N : Nat → Int32} {up T t b p : Int32} {D w : Nat} {rec : Nat → sk_S → sk_S} {s : sk_S} (h : ¬ sk_ca N T D w t) : sk_st N up T D t b p rec w s = s := by
  unfold sk_st
  by_cases h1 : s.2.1 = true
  · rw [if_pos h1]
  · rw [if_neg h1, if_neg h]
theorem sk_st_s {N : Nat → Int32} {up T t b p : Int32} {D w : Nat} {rec : Nat → sk_S → sk_S} {s : sk_S} (h : s.2.1 = true) : sk_st N up T D t b p rec w s = s := by
  unfold sk_st
  rw [if_pos h]
theorem sk_l_s {N : Nat → Int32} {up T t b p : Int32} {D i : Nat} {rec : Nat → sk_S → sk_S} {s : sk_S} (h : (sk_l (sk_st N up T D t b p rec) i s).2.1 = true) {j : Nat} (hj : i ≤ j) : sk_l (sk_st N up T D t b p rec) j s = sk_l (sk_st N up T D t b p rec) i s := by
  induction j with
  | zero => rw [show i = 0 by omega]
  | succ j ih =>
    by_cases e : i = j + 1
    · rw [e]
    · have e2 := ih (by omega)
      show sk_st N up T D t b p rec j (sk_l (sk_st N up T D t b p rec) j s) = _
      rw [e2]
      exact sk_st_s h
theorem sk_l_no {N : Nat → Int32} {up T t b p : Int32} {D : Nat} {rec : Nat → sk_S → sk_S} {s : sk_S} : ∀ k, (∀ w, w < k → ¬ sk_ca N T D w t) → sk_l (sk_st N up T D t b p rec) k s = s := by
  intro k
  induction k with
  | zero => intro _; rfl
  | succ k ih =>
    intro h
    show sk_st N up T D t b p rec k (sk_l (sk_st N up T D t b p rec) k s) = s
    rw [ih (fun w hw => h w (by omega))]
    exact sk_st_n (h k (by omega))
def sk_cn (D : Nat) : Nat → Nat
  | 0 => 0
  | w + 1 => sk_cn D w + (if sk_bt D w then 1 else 0)
set_option maxRecDepth 100000 in
theorem sk_or : ∀ D, D < 64 → ∀ w, w < 6 → nI D ||| ((1 : Int32) <<< (nI w &&& 31)) = nI (D ||| 2 ^ w) := by decide +kernel
set_option maxRecDepth 100000 in
theorem sk_cn_or : ∀ D, D < 64 → ∀ k, k < 7 → ∀ w, w < k → ¬ sk_bt D w → sk_cn (D ||| 2 ^ w) k = sk_cn D k + 1 ∧ D ||| 2 ^ w < 64 := by decide +kernel
set_option maxRecDepth 100000 in
theorem sk_cn_6 : ∀ D, D < 64 → ∀ k, k < 7 → sk_cn D k = 6 → ∀ w, w < k → sk_bt D w := by decide +kernel
/-- the reference's memory holds the state of the search -/
def sk_E (J : mm_I) (s : sk_S) (m : Nat) (r : Nat → Int32) : Prop := J 200 22 = nI s.1 ∧ s.1 ≤ 20000 ∧ J 200 23 = (if s.2.1 = true then 1 else 0) ∧ J 200 27 = s.2.2.1 ∧ J 200 26 = nI s.2.2.2.1 ∧ s.2.2.2.1 ≤ 6 ∧ (∀ i, i < s.2.2.2.1 → J 212 i = s.2.2.2.2 i) ∧ ∀ i, i < m → J 211 i = r i
def sk_F (I J : mm_I) : Prop := ∀ a i, a ≠ 211 → a ≠ 212 → (a = 200 → i ≠ 22 ∧ i ≠ 23 ∧ i ≠ 26 ∧ i ≠ 27) → J a i = I a i
theorem sk_F_r (I : mm_I) : sk_F I I := fun _ _ _ _ _ => rfl
theorem sk_F_t {I J K : mm_I} (h : sk_F I J) (h2 : sk_F J K) : sk_F I K := fun a i h1 h3 h4 => (h2 a i h1 h3 h4).trans (h a i h1 h3 h4)
theorem sk_F_u {I J : mm_I} (h : sk_F I J) {a i : Nat} {x : Int32} (ha : a = 211 ∨ a = 212 ∨ a = 200 ∧ (i = 22 ∨ i = 23 ∨ i = 26 ∨ i = 27)) : sk_F I (mm_up J a i x) := by
  intro a' i' h1 h2 h3
  rw [← h a' i' h1 h2 h3]
  by_cases e : a' = a
  · subst e
    refine mm_up_ni ?_
    intro e2
    subst e2
    have h4 : a' = 200 := by omega
    have := h3 h4
    omega
  · exact mm_up_ne e
theorem sk_F_n {I J : mm_I} (h : sk_F I J) : J 201 = I 201 := funext fun i => h 201 i (by decide) (by decide) (fun q => absurd q (by decide))
theorem sk_F_T {I J : mm_I} (h : sk_F I J) : J 200 21 = I 200 21 := h 200 21 (by decide) (by decide) (fun _ => ⟨by decide, by decide, by decide, by decide⟩)
theorem mm_up_a {I : mm_I} {a i b : Nat} {x : Int32} (h : b ≠ a) : mm_up I a i x b = I b := funext fun _ => mm_up_ne h
theorem sk_E_m {J : mm_I} {s : sk_S} {m : Nat} {r : Nat → Int32} {x : Int32} (h : sk_E J s (m + 1) (upd r m x)) : sk_E J s m r := by
  obtain ⟨h1, h2, h3, h4, h5, h6, h7, h8⟩ := h
  exact ⟨h1, h2, h3, h4, h5, h6, h7, fun i hi => by rw [h8 i (by omega), pk_un (by omega)]⟩
/-- one try is taken and the work is put into the row -/
theorem sk_E_t {J : mm_I} {s : sk_S} {m : Nat} {r : Nat → Int32} {x : Int32} (h : sk_E J s m r) : sk_E (mm_up (mm_up J 200 22 (nI (s.1 - 1))) 211 m x) (s.1 - 1, s.2) (m + 1) (upd r m x) := by
  obtain ⟨h1, h2, h3, h4, h5, h6, h7, h8⟩ := h
  refine ⟨by rw [mm_up_ne (by decide), mm_up_at], show s.1 - 1 ≤ 20000 by omega, by rw [mm_up_ne (by decide), mm_up_ni (by decide)]; exact h3, by rw [mm_up_ne (by decide), mm_up_ni (by decide)]; exact h4, by rw [mm_up_ne (by decide), mm_up_ni (by decide)]; exact h5, h6, fun i hi => by rw [mm_up_ne (by decide), mm_up_ne (by decide)]; exact h7 i hi, fun i hi => ?_⟩
  by_cases e : i = m
  · subst e; rw [mm_up_at, pk_us]
  · rw [mm_up_ni e, mm_up_ne (by decide), pk_un e]; exact h8 i (by omega)
theorem sk_E_s {J : mm_I} {s : sk_S} {m : Nat} {r : Nat → Int32} (h : sk_E J s m r) : sk_E (mm_up J 200 23 1) (s.1, true, s.2.2) m r := by
  obtain ⟨h1, h2, h3, h4, h5, h6, h7, h8⟩ := h
  exact ⟨by rw [mm_up_ni (by decide)]; exact h1, h2, by rw [mm_up_at]; rfl, by rw [mm_up_ni (by decide)]; exact h4, by rw [mm_up_ni (by decide)]; exact h5, h6, fun i hi => by rw [mm_up_ne (by decide)]; exact h7 i hi, fun i hi => by rw [mm_up_ne (by decide)]; exact h8 i hi⟩
theorem sk_E_w {J : mm_I} {s : sk_S} {m : Nat} {r : Nat → Int32} {x : Int32} (h : sk_E J s m r) (hm : m ≤ 6) : sk_E (mm_cp (mm_up (mm_up J 200 27 x) 200 26 (nI m)) 211 212 0 0 m) (s.1, s.2.1, x, m, r) m r := by
  obtain ⟨h1, h2, h3, h4, h5, h6, h7, h8⟩ := h
  refine ⟨by rw [mm_cp_ne (by decide), mm_up_ni (by decide), mm_up_ni (by decide)]; exact h1, h2, by rw [mm_cp_ne (by decide), mm_up_ni (by decide), mm_up_ni (by decide)]; exact h3, by rw [mm_cp_ne (by decide), mm_up_ni (by decide), mm_up_at], by rw [mm_cp_ne (by decide), mm_up_at], hm, fun i hi => ?_, fun i hi => ?_⟩
  · have hi : i < m := hi
    rw [mm_cp_in (by omega), mm_up_ne (by decide), mm_up_ne (by decide)]
    show J 211 (0 + (i - 0)) = r i
    rw [show 0 + (i - 0) = i by omega]; exact h8 i hi
  · rw [mm_cp_ne (by decide), mm_up_ne (by decide), mm_up_ne (by decide)]; exact h8 i hi
theorem sk_F_w {J : mm_I} {m : Nat} {x : Int32} : sk_F J (mm_cp (mm_up (mm_up J 200 27 x) 200 26 (nI m)) 211 212 0 0 m) := by
  intro a i h1 h2 h3
  rw [mm_cp_ne h2]
  exact sk_F_u (sk_F_u (sk_F_r J) (by omega)) (by omega) a i h1 h2 h3
set_option maxRecDepth 100000 in
set_option maxHeartbeats 600000 in
theorem lm_paid {g : mm_G} {I : mm_I} {d : Nat} {Q : Option Value → mm_Sh → mm_I → Prop} {b p c x mm : Int32} (hd : 1 ≤ d) (hq : Q (some (.int (sk_en b p c mm))) sh_S I) : ∀ (m : Nat) (i : Nat), (i ≤ vv mm) → vv mm - i < m → mm_Ex g zX12_paid d (0, 0) (0, 0) sh_S (I) 15 [(7, .int (nI (i))), (5, .int (sk_pd b p c i)), (6, .int (c)), (0, .ref 200), (1, .int (b)), (2, .int (p)), (3, .int (x)), (4, .int (mm))] [] Q := by
  intro m
  induction m with
  | zero => intro i hi hmz; exact absurd hmz (Nat.not_lt_zero _)
  | succ m ih =>
    intro i hi hmz
    refine mm_iload 0 dX12_paid_15 rfl ?_
    refine mm_iload 7 dX12_paid_17 rfl ?_
    refine mm_icmp_ge (tgt := 48) dX12_paid_19 (by decide) (fun c19 => ?_) (fun c19 => ?_)
    · refine mm_iload 1 dX12_paid_48 rfl ?_
      have K50 : mm_Ex g zX12_paid d (0, 0) (0, 0) sh_S (I) 59 [(7, .int (nI (i))), (5, .int (sk_pd b p c i)), (6, .int (c)), (0, .ref 200), (1, .int (b)), (2, .int (p)), (3, .int (x)), (4, .int (mm))] [.int (if 0 ≤ (sk_pd b p c i) then (sk_pd b p c i) else -1)] Q := by
        refine mm_iret dX12_paid_59 rfl ⟨Nat.le_refl _, Nat.le_refl _⟩ ?_
        exact mm_l1 (by unfold sk_en; first | rw [sk_pd_neg c24 hi] | rw [show vv mm = i from Nat.le_antisymm (vv_ge (by have := vv_lt mm; omega) c19) hi]) hq
      refine mm_if_ge (tgt := 57) dX12_paid_50 (by decide) (fun c50 => ?_) (fun c50 => ?_)
      · refine mm_iload 1 dX12_paid_57 rfl ?_
        exact mm_top (by rw [if_pos c50]) K50
      · refine mm_iconst (v := -1) dX12_paid_53 rfl ?_
        refine mm_goto (tgt := 59) dX12_paid_54 (by decide) ?_
        exact mm_top (by rw [if_neg c50]) K50
    · refine mm_iload 1 dX12_paid_22 rfl ?_
      refine mm_if_lt (tgt := 48) dX12_paid_24 (by decide) (fun c24 => ?_) (fun c24 => ?_)
      · refine mm_iload 1 dX12_paid_48 rfl ?_
        have K50 : mm_Ex g zX12_paid d (0, 0) (0, 0) sh_S (I) 59 [(7, .int (nI (i))), (5, .int (sk_pd b p c i)), (6, .int (c)), (0, .ref 200), (1, .int (b)), (2, .int (p)), (3, .int (x)), (4, .int (mm))] [.int (if 0 ≤ (sk_pd b p c i) then (sk_pd b p c i) else -1)] Q := by
          refine mm_iret dX12_paid_59 rfl ⟨Nat.le_refl _, Nat.le_refl _⟩ ?_
          exact mm_l1 (by unfold sk_en; first | rw [sk_pd_neg c24 hi] | rw [show vv mm = i from Nat.le_antisymm (vv_ge (by have := vv_lt mm; omega) c19) hi]) hq
        refine mm_if_ge (tgt := 57) dX12_paid_50 (by decide) (fun c50 => ?_) (fun c50 => ?_)
        · refine mm_iload 1 dX12_paid_57 rfl ?_
          exact mm_top (by rw [if_pos c50]) K50
        · refine mm_iconst (v := -1) dX12_paid_53 rfl ?_
          refine mm_goto (tgt := 59) dX12_paid_54 (by decide) ?_
          exact mm_top (by rw [if_neg c50]) K50
      · refine mm_sipush (v := 9999) dX12_paid_27 rfl ?_
        refine mm_iload 1 dX12_paid_30 rfl ?_
        refine mm_iload_n 5 dX12_paid_32 rfl rfl ?_
        refine mm_iadd dX12_paid_33 ?_
        refine mm_min dX12_paid_34 rfl ml_X12_106 jm_min (by omega) (Nat.le_of_ble_eq_true rfl) ⟨Nat.le_refl _, Nat.le_refl _⟩ ?_
        refine mm_iload 2 dX12_paid_37 rfl ?_
        refine mm_isub dX12_paid_39 ?_
        refine mm_at (pc' := 40) rfl ?_
        refine mm_istore (ls' := [(5, .int ((if (sk_pd b p c i) + p < 9999 then (sk_pd b p c i) + p else 9999) - c)), (7, .int (nI (i))), (6, .int (c)), (0, .ref 200), (1, .int (b)), (2, .int (p)), (3, .int (x)), (4, .int (mm))]) dX12_paid_40 (by decide) rfl ?_
        refine mm_iincN (ls' := [(7, .int (nI (i + 1))), (5, .int ((if (sk_pd b p c i) + p < 9999 then (sk_pd b p c i) + p else 9999) - c)), (6, .int (c)), (0, .ref 200), (1, .int (b)), (2, .int (p)), (3, .int (x)), (4, .int (mm))]) 1 (i) 1 dX12_paid_42 rfl rfl (by decide) rfl ?_
        refine mm_goto (tgt := 15) dX12_paid_45 (by decide) ?_
        have hv := vv_lt mm
        have hi2 := (vv_gt c19).resolve_right (by omega)
        have hh := ih (i + 1) (by omega) (by omega)
        rw [sk_pd, if_neg c24] at hh
        exact mm_sub [0, 1, 2, 3, 4, 5, 6, 7] rfl hh
set_option maxRecDepth 100000 in
set_option maxHeartbeats 600000 in
theorem cm_paid {g : mm_G} {I : mm_I} {d : Nat} {l : Nat} (hl : I 201 15 = nI l) (hl8 : l ≤ 8) {b p x m : Int32} (hd : 1 ≤ d) : mm_Ci g zX12_paid d [.ref 200, .int b, .int p, .int x, .int m] sh_S I (sk_en b p (sp_pb (I 201) 0 l + x) m) I := by
  refine mm_Ci_of (fun Q hq => ?_)
  refine mm_begin (ls := [(0, .ref 200), (1, .int (b)), (2, .int (p)), (3, .int (x)), (4, .int (m))]) (Nat.le_of_ble_eq_true rfl) rfl rfl ?_
  refine mm_iload_n 1 dX12_paid_0 rfl rfl ?_
  refine mm_istore (ls' := [(5, .int (b)), (0, .ref 200), (1, .int (b)), (2, .int (p)), (3, .int (x)), (4, .int (m))]) dX12_paid_1 (by decide) rfl ?_
  refine mm_aload_n 1 dX12_paid_3 rfl rfl ?_
  refine mm_iconst (v := 0) dX12_paid_4 rfl ?_
  refine mm_cV1i (dz := d - 1) dX12_paid_5 rfl mzX12_powerBut ml_X12_332 imX12_powerBut (by omega) so_200 ⟨rfl, rfl⟩ (cm_powerBut hl hl8) (Nat.le_of_ble_eq_true rfl) ⟨Nat.le_refl _, Nat.le_refl _⟩ ?_
  refine mm_iload_n 4 dX12_paid_8 rfl rfl ?_
  refine mm_iadd dX12_paid_9 ?_
  refine mm_istore (ls' := [(6, .int ((sp_pb (I 201) 0 l) + x)), (5, .int (b)), (0, .ref 200), (1, .int (b)), (2, .int (p)), (3, .int (x)), (4, .int (m))]) dX12_paid_10 (by decide) rfl ?_
  refine mm_at (pc' := 12) rfl ?_
  refine mm_iconst (v := 0) dX12_paid_12 rfl ?_
  refine mm_istore (ls' := [(7, .int (0)), (6, .int ((sp_pb (I 201) 0 l) + x)), (5, .int (b)), (0, .ref 200), (1, .int (b)), (2, .int (p)), (3, .int (x)), (4, .int (m))]) dX12_paid_13 (by decide) rfl ?_
  exact mm_sub [0, 2, 1, 3, 4, 5, 6, 7] rfl (lm_paid hd hq (vv m + 1) 0 (Nat.zero_le _) (by omega))
theorem cm_paidN {g : mm_G} {I : mm_I} {d : Nat} {N : Nat → Int32} {l : Nat} {b p x m up : Int32} (hN : I 201 = N) (hl : N 15 = nI l) (hl8 : l ≤ 8) (hup : sp_pb N 0 l = up) (hd : 1 ≤ d) : mm_Ci g zX12_paid d [.ref 200, .int b, .int p, .int x, .int m] sh_S I (sk_en b p (up + x) m) I := by
  subst hN hup
  exact cm_paid hl hl8 hd
set_option maxRecDepth 100000 in
set_option maxHeartbeats 600000 in
theorem lm_sk1 {g : mm_G} {I : mm_I} {d : Nat} {Q : Option Value → mm_Sh → mm_I → Prop} {m D : Nat} {t b p e : Int32} (hm6 : m ≤ 6) (hx : mm_Ex g zX12_seek d (0, 0) (0, 0) sh_S (mm_cp I 211 212 0 0 m) 66 [(7, .int (nI m)), (6, .int (e)), (0, .ref 200), (1, .int (nI (m))), (2, .int (nI D)), (3, .int (t)), (4, .int (b)), (5, .int (p))] [] Q) : ∀ (mf : Nat) (i : Nat), (i ≤ m) → m - i < mf → mm_Ex g zX12_seek d (0, 0) (0, 0) sh_S (mm_cp I 211 212 0 0 i) 40 [(7, .int (nI (i))), (6, .int (e)), (0, .ref 200), (1, .int (nI (m))), (2, .int (nI D)), (3, .int (t)), (4, .int (b)), (5, .int (p))] [] Q := by
  intro mf
  induction mf with
  | zero => intro i hi hmz; exact absurd hmz (Nat.not_lt_zero _)
  | succ mf ih =>
    intro i hi hmz
    refine mm_iload 0 dX12_seek_40 rfl ?_
    refine mm_iload_n 3 dX12_seek_42 rfl rfl ?_
    refine mm_icmp_geN (i) (m) (tgt := 66) dX12_seek_43 (by decide) (by omega) (by omega) (fun c43 => ?_) (fun c43 => ?_)
    · have e : i = m := by omega
      subst e
      exact hx
    · refine mm_aload_n 2 dX12_seek_46 rfl rfl ?_
      refine mm_getr (b := 212) dX12_seek_47 rfl fk_X12_68 rfl so_200 sr_200_25 ?_
      refine mm_iload 0 dX12_seek_50 rfl ?_
      refine mm_aload_n 2 dX12_seek_52 rfl rfl ?_
      refine mm_getr (b := 211) dX12_seek_53 rfl fk_X12_65 rfl so_200 sr_200_24 ?_
      refine mm_iload 0 dX12_seek_56 rfl ?_
      refine mm_ialdN (i) dX12_seek_58 sa_211 (by omega) (by omega) ?_
      refine mm_at (pc' := 59) rfl ?_
      refine mm_top (v := I 211 i) (mm_cp_ne (by decide)) ?_
      refine mm_iastN (i) dX12_seek_59 sa_212 (by omega) (by omega) ?_
      refine mm_iincN (ls' := [(7, .int (nI (i + 1))), (6, .int (e)), (0, .ref 200), (1, .int (nI (m))), (2, .int (nI D)), (3, .int (t)), (4, .int (b)), (5, .int (p))]) 0 (i) 1 dX12_seek_60 rfl rfl (by decide) rfl ?_
      refine mm_goto (tgt := 40) dX12_seek_63 (by decide) ?_
      rw [mm_cp_s (show i = 0 + i by omega) (show I 211 i = I 211 (0 + i) by rw [Nat.zero_add])]
      exact ih (i + 1) (by omega) (by omega)
set_option maxRecDepth 100000 in
set_option maxHeartbeats 600000 in
theorem cm_skw {g : mm_G} {I : mm_I} {d : Nat} {Q : Option Value → mm_Sh → mm_I → Prop} {N : Nat → Int32} {l k m D : Nat} {r : Nat → Int32} {t b p T up : Int32} {s : sk_S} (hN : I 201 = N) (hT : I 200 21 = T) (hl : N 15 = nI l) (hl8 : l ≤ 8) (hup : sp_pb N 0 l = up) (hk : N 19 = nI k) (hk6 : k ≤ 6) (hm6 : m ≤ 6) (hE : sk_E I s m r) (hd : 2 ≤ d) (hx : ∀ J, sk_E J (sk_we up T m r t b p s) m r → sk_F I J → mm_Ex g zX12_seek d (0, 0) (0, 0) sh_S J 69 [(7, .int (nI 0)), (6, .int (sk_en b p (up + 0) (T - t))), (0, .ref 200), (1, .int (nI m)), (2, .int (nI D)), (3, .int t), (4, .int b), (5, .int p)] [] Q) : mm_Ct g zX12_seek d (0, 0) [.ref 200, .int (nI m), .int (nI D), .int t, .int b, .int p] sh_S I Q := by
  refine mm_begin (ls := [(0, .ref 200), (1, .int (nI (m))), (2, .int (nI D)), (3, .int (t)), (4, .int (b)), (5, .int (p))]) (Nat.le_of_ble_eq_true rfl) rfl rfl ?_
  refine mm_aload_n 0 dX12_seek_0 rfl rfl ?_
  refine mm_iload 4 dX12_seek_1 rfl ?_
  refine mm_iload 5 dX12_seek_3 rfl ?_
  refine mm_iconst (v := 0) dX12_seek_5 rfl ?_
  refine mm_aload_n 0 dX12_seek_6 rfl rfl ?_
  refine mm_geti dX12_seek_7 rfl fk_X12_344 rfl so_200 ?_
  refine mm_top (v := T) hT ?_
  refine mm_iload_n 3 dX12_seek_10 rfl rfl ?_
  refine mm_isub dX12_seek_11 ?_
  refine mm_at (pc' := 12) rfl ?_
  refine mm_cV4i (dz := d - 1) dX12_seek_12 rfl mzX12_paid ml_X12_347 imX12_paid (by omega) so_200 ⟨rfl, rfl⟩ (cm_paidN hN hl hl8 hup (by omega)) (Nat.le_of_ble_eq_true rfl) ⟨Nat.le_refl _, Nat.le_refl _⟩ ?_
  refine mm_istore (ls' := [(6, .int (sk_en b p (up + 0) (T - t))), (0, .ref 200), (1, .int (nI (m))), (2, .int (nI D)), (3, .int (t)), (4, .int (b)), (5, .int (p))]) dX12_seek_15 (by decide) rfl ?_
  refine mm_iload 0 dX12_seek_17 rfl ?_
  refine mm_aload_n 1 dX12_seek_19 rfl rfl ?_
  refine mm_geti dX12_seek_20 rfl fk_X12_350 rfl so_200 ?_
  refine mm_top (v := s.2.2.1) hE.2.2.2.1 ?_
  refine mm_icmp_le (tgt := 66) dX12_seek_23 (by decide) (fun c23 => ?_) (fun c23 => ?_)
  · refine mm_iconst (v := 0) dX12_seek_66 rfl ?_
    refine mm_istore (ls' := [(7, .int (0)), (6, .int (sk_en b p (up + 0) (T - t))), (0, .ref 200), (1, .int (nI (m))), (2, .int (nI D)), (3, .int (t)), (4, .int (b)), (5, .int (p))]) dX12_seek_67 (by decide) rfl ?_
    have e : sk_we up T m r t b p s = s := by unfold sk_we; rw [if_pos c23]
    exact hx _ (by rw [e]; exact hE) (sk_F_r I)
  · refine mm_aload_n 1 dX12_seek_26 rfl rfl ?_
    refine mm_iload 0 dX12_seek_27 rfl ?_
    refine mm_puti dX12_seek_29 rfl fk_X12_350 rfl fv_12_27 so_200 ?_
    refine mm_aload_n 1 dX12_seek_32 rfl rfl ?_
    refine mm_iload_n 2 dX12_seek_33 rfl rfl ?_
    refine mm_puti dX12_seek_34 rfl fk_X12_353 rfl fv_12_26 so_200 ?_
    refine mm_iconst (v := 0) dX12_seek_37 rfl ?_
    refine mm_at (pc' := 38) rfl ?_
    refine mm_istore (ls' := [(7, .int (0)), (6, .int (sk_en b p (up + 0) (T - t))), (0, .ref 200), (1, .int (nI (m))), (2, .int (nI D)), (3, .int (t)), (4, .int (b)), (5, .int (p))]) dX12_seek_38 (by decide) rfl ?_
    refine mm_cp_0 (I := mm_up (mm_up I 200 27 (sk_en b p (up + 0) (T - t))) 200 26 (nI (m))) (a0 := 211) (a := 212) (sp := 0) (dp := 0) ▸ (lm_sk1 hm6 ?_ (m + 1) 0 (Nat.zero_le _) (by omega))
    refine mm_iconst (v := 0) dX12_seek_66 rfl ?_
    refine mm_istore (ls' := [(7, .int 0), (6, .int (sk_en b p (up + 0) (T - t))), (0, .ref 200), (1, .int (nI m)), (2, .int (nI D)), (3, .int t), (4, .int b), (5, .int p)]) dX12_seek_67 (by decide) rfl ?_
    have e : sk_we up T m r t b p s = (s.1, s.2.1, sk_en b p (up + 0) (T - t), m, r) := by unfold sk_we; rw [if_neg c23]
    exact hx _ (e ▸ sk_E_w hE hm6) sk_F_w
theorem sk_st_m {N : Nat → Int32} {up T t b p : Int32} {D w : Nat} {rec : Nat → sk_S → sk_S} {s : sk_S} (h : ¬ s.2.1 = true) (h2 : sk_ca N T D w t) (h3 : ¬ s.1 = 0) (h4 : sk_en b p (up + N (612 + w)) (N (606 + w)) < 0) : sk_st N up T D t b p rec w s = (s.1 - 1, s.2) := by
  unfold sk_st
  rw [if_neg h, if_pos h2, if_neg h3, if_pos h4]
theorem sk_st_r {N : Nat → Int32} {up T t b p : Int32} {D w : Nat} {rec : Nat → sk_S → sk_S} {s : sk_S} (h : ¬ s.2.1 = true) (h2 : sk_ca N T D w t) (h3 : ¬ s.1 = 0) (h4 : ¬ sk_en b p (up + N (612 + w)) (N (606 + w)) < 0) : sk_st N up T D t b p rec w s = rec w (s.1 - 1, s.2) := by
  unfold sk_st
  rw [if_neg h, if_pos h2, if_neg h3, if_neg h4]
theorem sk_st_0 {N : Nat → Int32} {up T t b p : Int32} {D w : Nat} {rec : Nat → sk_S → sk_S} {s : sk_S} (h : ¬ s.2.1 = true) (h2 : sk_ca N T D w t) (h3 : s.1 = 0) : sk_st N up T D t b p rec w s = (s.1, true, s.2.2) := by
  unfold sk_st
  rw [if_neg h, if_pos h2, if_pos h3]
set_option maxRecDepth 100000 in
set_option maxHeartbeats 600000 in
theorem lm_sk2 {g : mm_G} {I : mm_I} {d : Nat} {Q : Option Value → mm_Sh → mm_I → Prop} {N : Nat → Int32} {l k m D : Nat} {r : Nat → Int32} {t b p T up : Int32} {s0 : sk_S} {e : Int32} {rec : Nat → sk_S → sk_S} (hN : I 201 = N) (hT : I 200 21 = T) (hl : N 15 = nI l) (hl8 : l ≤ 8) (hup : sp_pb N 0 l = up) (hk : N 19 = nI k) (hk6 : k ≤ 6) (hm6 : m ≤ 6) (hD : D < 64) (hd : 3 ≤ d) (hm : ∀ w, w < k → sk_ca N T D w t → m < 6) (hrec : ∀ (w : Nat) (s : sk_S) (J : mm_I), w < k → sk_ca N T D w t → sk_E J s (m + 1) (upd r m (nI w)) → sk_F I J → mm_Dv g zX12_seek (d - 1) [.ref 200, .int (nI (m + 1)), .int (nI (D ||| 2 ^ w)), .int (t + N (606 + w)), .int (sk_en b p (up + N (612 + w)) (N (606 + w))), .int (p + N (618 + w))] sh_S J (fun J2 => sk_E J2 (rec w s) (m + 1) (upd r m (nI w)) ∧ sk_F J J2)) (hq : ∀ J, sk_E J (sk_l (sk_st N up T D t b p rec) k s0) m r → sk_F I J → Q none sh_S J) : ∀ (mf : Nat) (w : Nat) (J : mm_I), (w ≤ k) → (sk_E J (sk_l (sk_st N up T D t b p rec) w s0) m r) → (sk_F I J) → k - w < mf → mm_Ex g zX12_seek d (0, 0) (0, 0) sh_S (J) 69 [(7, .int (nI (w))), (6, .int (e)), (0, .ref 200), (1, .int (nI (m))), (2, .int (nI D)), (3, .int (t)), (4, .int (b)), (5, .int (p))] [] Q := by
  intro mf
  induction mf with
  | zero => intro w J hw hE hF hmz; exact absurd hmz (Nat.not_lt_zero _)
  | succ mf ih =>
    intro w J hw hE hF hmz
    have hJN : J 201 = N := (sk_F_n hF).trans hN
    have hJT : J 200 21 = T := (sk_F_T hF).trans hT
    have hs1 : sk_l (sk_st N up T D t b p rec) (w + 1) s0 = sk_st N up T D t b p rec w (sk_l (sk_st N up T D t b p rec) w s0) := rfl
    have hss := fun (h : (sk_l (sk_st N up T D t b p rec) w s0).2.1 = true) => sk_l_s h hw
    have hs1s := fun (h : (sk_l (sk_st N up T D t b p rec) (w + 1) s0).2.1 = true) (h2 : w < k) => sk_l_s h (show w + 1 ≤ k by omega)
    generalize hs : sk_l (sk_st N up T D t b p rec) w s0 = s at hE hs1 hss
    have hs20 := hE.2.1
    refine mm_iload 0 dX12_seek_69 rfl ?_
    refine mm_aload_n 2 dX12_seek_71 rfl rfl ?_
    refine mm_getr (b := 201) dX12_seek_72 rfl fk_X12_9 rfl so_200 sr_200_0 ?_
    refine mm_bipush (v := 19) dX12_seek_75 rfl ?_
    refine mm_ialdN (19) dX12_seek_77 sa_201 (by omega) (by omega) ?_
    refine mm_top (v := nI (k)) ((congrFun hJN 19).trans hk) ?_
    refine mm_icmp_geN (w) (k) (tgt := 241) dX12_seek_78 (by decide) (by omega) (by omega) (fun c78 => ?_) (fun c78 => ?_)
    · refine mm_vret dX12_seek_241 rfl ⟨Nat.le_refl _, Nat.le_refl _⟩ ?_
      first | exact hq J (by rw [hss c85]; exact hE) hF | exact hq J (by rw [show k = w by omega, hs]; exact hE) hF
    · refine mm_aload_n 2 dX12_seek_81 rfl rfl ?_
      refine mm_geti dX12_seek_82 rfl fk_X12_356 rfl so_200 ?_
      refine mm_top (v := if s.2.1 = true then 1 else 0) hE.2.2.1 ?_
      refine mm_if_neB (tgt := 241) dX12_seek_85 (by decide) (fun c85 => ?_) (fun c85 => ?_)
      · refine mm_vret dX12_seek_241 rfl ⟨Nat.le_refl _, Nat.le_refl _⟩ ?_
        first | exact hq J (by rw [hss c85]; exact hE) hF | exact hq J (by rw [show k = w by omega, hs]; exact hE) hF
      · have hsp := c85
        refine mm_aload_n 2 dX12_seek_88 rfl rfl ?_
        refine mm_getr (b := 201) dX12_seek_89 rfl fk_X12_9 rfl so_200 sr_200_0 ?_
        refine mm_sipush (v := 606) dX12_seek_92 rfl ?_
        refine mm_iload 0 dX12_seek_95 rfl ?_
        refine mm_iaddN (606) (w) dX12_seek_97 ?_
        refine mm_ialdN (606 + w) dX12_seek_98 sa_201 (by omega) (by omega) ?_
        refine mm_top (v := N (606 + w)) (congrFun hJN _) ?_
        refine mm_istore (ls' := [(8, .int (N (606 + w))), (7, .int (nI (w))), (6, .int (e)), (0, .ref 200), (1, .int (nI (m))), (2, .int (nI D)), (3, .int (t)), (4, .int (b)), (5, .int (p))]) dX12_seek_99 (by decide) rfl ?_
        refine mm_at (pc' := 101) rfl ?_
        refine mm_iload_n 5 dX12_seek_101 rfl rfl ?_
        refine mm_iload 1 dX12_seek_102 rfl ?_
        refine mm_ishr dX12_seek_104 ?_
        refine mm_iconst (v := 1) dX12_seek_105 rfl ?_
        refine mm_iand dX12_seek_106 ?_
        refine mm_iconst (v := 1) dX12_seek_107 rfl ?_
        refine mm_icmp_eq (tgt := 235) dX12_seek_108 (by decide) (fun c108 => ?_) (fun c108 => ?_)
        · refine mm_iincN (ls' := [(7, .int (nI (w + 1))), (8, .int (N (606 + w))), (6, .int (e)), (0, .ref 200), (1, .int (nI (m))), (2, .int (nI D)), (3, .int (t)), (4, .int (b)), (5, .int (p))]) 1 (w) 1 dX12_seek_235 rfl rfl (by decide) rfl ?_
          refine mm_goto (tgt := 69) dX12_seek_238 (by decide) ?_
          have e := (hs1.trans (sk_st_n (by rintro ⟨q1, q2, q3⟩; first | exact q1 c108 | exact c126 q2 | exact c137 q3)))
          exact mm_sub [0, 2, 3, 4, 5, 6, 7, 8] rfl (ih (w + 1) J (by omega) (e ▸ hE) hF (by omega))
        · refine mm_aload_n 3 dX12_seek_111 rfl rfl ?_
          refine mm_getr (b := 201) dX12_seek_112 rfl fk_X12_9 rfl so_200 sr_200_0 ?_
          refine mm_sipush (v := 624) dX12_seek_115 rfl ?_
          refine mm_iload 1 dX12_seek_118 rfl ?_
          refine mm_iaddN (624) (w) dX12_seek_120 ?_
          refine mm_ialdN (624 + w) dX12_seek_121 sa_201 (by omega) (by omega) ?_
          refine mm_top (v := N (624 + w)) (congrFun hJN _) ?_
          refine mm_iload_n 5 dX12_seek_122 rfl rfl ?_
          refine mm_at (pc' := 123) rfl ?_
          refine mm_iconst (v := -1) dX12_seek_123 rfl ?_
          refine mm_ixor dX12_seek_124 ?_
          refine mm_iand dX12_seek_125 ?_
          refine mm_if_ne (tgt := 235) dX12_seek_126 (by decide) (fun c126 => ?_) (fun c126 => ?_)
          · refine mm_iincN (ls' := [(7, .int (nI (w + 1))), (8, .int (N (606 + w))), (6, .int (e)), (0, .ref 200), (1, .int (nI (m))), (2, .int (nI D)), (3, .int (t)), (4, .int (b)), (5, .int (p))]) 1 (w) 1 dX12_seek_235 rfl rfl (by decide) rfl ?_
            refine mm_goto (tgt := 69) dX12_seek_238 (by decide) ?_
            have e := (hs1.trans (sk_st_n (by rintro ⟨q1, q2, q3⟩; first | exact q1 c108 | exact c126 q2 | exact c137 q3)))
            exact mm_sub [0, 2, 3, 4, 5, 6, 7, 8] rfl (ih (w + 1) J (by omega) (e ▸ hE) hF (by omega))
          · refine mm_iload_n 6 dX12_seek_129 rfl rfl ?_
            refine mm_iload 0 dX12_seek_130 rfl ?_
            refine mm_iadd dX12_seek_132 ?_
            refine mm_aload_n 3 dX12_seek_133 rfl rfl ?_
            refine mm_geti dX12_seek_134 rfl fk_X12_344 rfl so_200 ?_
            refine mm_top (v := T) hJT ?_
            refine mm_icmp_le (tgt := 143) dX12_seek_137 (by decide) (fun c137 => ?_) (fun c137 => ?_)
            · refine mm_aload_n 3 dX12_seek_143 rfl rfl ?_
              refine mm_geti dX12_seek_144 rfl fk_X12_359 rfl so_200 ?_
              refine mm_top (v := nI (s.1)) hE.1 ?_
              refine mm_if_neN (s.1) (tgt := 156) dX12_seek_147 (by decide) (by omega) (fun c147 => ?_) (fun c147 => ?_)
              · have hlt := hm w (by omega) ⟨c108, c126, c137⟩
                refine mm_aload_n 3 dX12_seek_156 rfl rfl ?_
                refine mm_dup dX12_seek_157 rfl ?_
                refine mm_geti dX12_seek_158 rfl fk_X12_359 rfl so_200 ?_
                refine mm_top (v := nI (s.1)) hE.1 ?_
                refine mm_iconst (v := 1) dX12_seek_161 rfl ?_
                refine mm_isubN (s.1) (1) dX12_seek_162 (by omega) ?_
                refine mm_puti dX12_seek_163 rfl fk_X12_359 rfl fv_12_22 so_200 ?_
                refine mm_aload_n 3 dX12_seek_166 rfl rfl ?_
                refine mm_getr (b := 211) dX12_seek_167 rfl fk_X12_65 rfl so_200 sr_200_24 ?_
                refine mm_at (pc' := 170) rfl ?_
                refine mm_iload_n 4 dX12_seek_170 rfl rfl ?_
                refine mm_iload 1 dX12_seek_171 rfl ?_
                refine mm_iastN (m) dX12_seek_173 sa_211 (by omega) (by omega) ?_
                have hF2 : sk_F I (mm_up (mm_up J 200 22 (nI ((s.1) - 1))) 211 m (nI (w))) := sk_F_u (sk_F_u hF (by omega)) (by omega)
                refine mm_aload_n 3 dX12_seek_174 rfl rfl ?_
                refine mm_iload 7 dX12_seek_175 rfl ?_
                refine mm_iload 8 dX12_seek_177 rfl ?_
                refine mm_aload_n 3 dX12_seek_179 rfl rfl ?_
                refine mm_getr (b := 201) dX12_seek_180 rfl fk_X12_9 rfl so_200 sr_200_0 ?_
                refine mm_at (pc' := 183) rfl ?_
                refine mm_sipush (v := 612) dX12_seek_183 rfl ?_
                refine mm_iload 1 dX12_seek_186 rfl ?_
                refine mm_iaddN (612) (w) dX12_seek_188 ?_
                refine mm_ialdN (612 + w) dX12_seek_189 sa_201 (by omega) (by omega) ?_
                refine mm_top (v := J 201 (612 + w)) (by rw [mm_up_ne (by decide), mm_up_ne (by decide)]) ?_
                refine mm_top (v := N (612 + w)) (congrFun hJN _) ?_
                refine mm_iload 0 dX12_seek_190 rfl ?_
                refine mm_cV4i (dz := d - 1) dX12_seek_192 rfl mzX12_paid ml_X12_347 imX12_paid (by omega) so_200 ⟨rfl, rfl⟩ (cm_paidN ((mm_up_a (by decide)).trans ((mm_up_a (by decide)).trans hJN)) hl hl8 hup (by omega)) (Nat.le_of_ble_eq_true rfl) ⟨Nat.le_refl _, Nat.le_refl _⟩ ?_
                refine mm_istore (ls' := [(9, .int (sk_en b p (up + (N (612 + w))) (N (606 + w)))), (8, .int (N (606 + w))), (7, .int (nI (w))), (6, .int (e)), (0, .ref 200), (1, .int (nI (m))), (2, .int (nI D)), (3, .int (t)), (4, .int (b)), (5, .int (p))]) dX12_seek_195 (by decide) rfl ?_
                refine mm_iload 0 dX12_seek_197 rfl ?_
                refine mm_at (pc' := 199) rfl ?_
                refine mm_if_lt (tgt := 235) dX12_seek_199 (by decide) (fun c199 => ?_) (fun c199 => ?_)
                · refine mm_iincN (ls' := [(7, .int (nI (w + 1))), (9, .int (sk_en b p (up + (N (612 + w))) (N (606 + w)))), (8, .int (N (606 + w))), (6, .int (e)), (0, .ref 200), (1, .int (nI (m))), (2, .int (nI D)), (3, .int (t)), (4, .int (b)), (5, .int (p))]) 2 (w) 1 dX12_seek_235 rfl rfl (by decide) rfl ?_
                  refine mm_goto (tgt := 69) dX12_seek_238 (by decide) ?_
                  have e := hs1.trans (sk_st_m hsp ⟨c108, c126, c137⟩ c147 c199)
                  exact mm_sub [0, 3, 4, 5, 6, 7, 8, 9] rfl (ih (w + 1) _ (by omega) (e ▸ sk_E_m (sk_E_t hE)) hF2 (by omega))
                · refine mm_aload_n 4 dX12_seek_202 rfl rfl ?_
                  refine mm_iload_n 5 dX12_seek_203 rfl rfl ?_
                  refine mm_iconst (v := 1) dX12_seek_204 rfl ?_
                  refine mm_iaddN (m) (1) dX12_seek_205 ?_
                  refine mm_iload_n 6 dX12_seek_206 rfl rfl ?_
                  refine mm_iconst (v := 1) dX12_seek_207 rfl ?_
                  refine mm_iload 2 dX12_seek_208 rfl ?_
                  refine mm_at (pc' := 210) rfl ?_
                  refine mm_ishl dX12_seek_210 ?_
                  refine mm_ior dX12_seek_211 ?_
                  refine mm_top (v := nI (D ||| 2 ^ w)) (sk_or D hD w (by omega)) ?_
                  refine mm_iload_n 7 dX12_seek_212 rfl rfl ?_
                  refine mm_iload 1 dX12_seek_213 rfl ?_
                  refine mm_iadd dX12_seek_215 ?_
                  refine mm_iload 0 dX12_seek_216 rfl ?_
                  refine mm_iload 9 dX12_seek_218 rfl ?_
                  refine mm_aload_n 4 dX12_seek_220 rfl rfl ?_
                  refine mm_at (pc' := 221) rfl ?_
                  refine mm_getr (b := 201) dX12_seek_221 rfl fk_X12_9 rfl so_200 sr_200_0 ?_
                  refine mm_sipush (v := 618) dX12_seek_224 rfl ?_
                  refine mm_iload 2 dX12_seek_227 rfl ?_
                  refine mm_iaddN (618) (w) dX12_seek_229 ?_
                  refine mm_ialdN (618 + w) dX12_seek_230 sa_201 (by omega) (by omega) ?_
                  refine mm_top (v := J 201 (618 + w)) (by rw [mm_up_ne (by decide), mm_up_ne (by decide)]) ?_
                  refine mm_top (v := N (618 + w)) (congrFun hJN _) ?_
                  refine mm_iadd dX12_seek_231 ?_
                  refine mm_dV5v (dz := d - 1) dX12_seek_232 rfl mzX12_seek ml_X12_362 imX12_seek (by omega) so_200 ⟨rfl, rfl⟩ (hrec w (s.1 - 1, s.2) _ (by omega) ⟨c108, c126, c137⟩ (sk_E_t hE) hF2) (Nat.le_of_ble_eq_true rfl) ⟨Nat.le_refl _, Nat.le_refl _⟩ (fun J2 hJ2 => ?_)
                  refine mm_iincN (ls' := [(7, .int (nI (w + 1))), (9, .int (sk_en b p (up + (N (612 + w))) (N (606 + w)))), (8, .int (N (606 + w))), (6, .int (e)), (0, .ref 200), (1, .int (nI (m))), (2, .int (nI D)), (3, .int (t)), (4, .int (b)), (5, .int (p))]) 2 (w) 1 dX12_seek_235 rfl rfl (by decide) rfl ?_
                  refine mm_at (pc' := 238) rfl ?_
                  refine mm_goto (tgt := 69) dX12_seek_238 (by decide) ?_
                  have e := hs1.trans (sk_st_r hsp ⟨c108, c126, c137⟩ c147 c199)
                  exact mm_sub [0, 3, 4, 5, 6, 7, 8, 9] rfl (ih (w + 1) J2 (by omega) (e ▸ sk_E_m hJ2.1) (sk_F_t hF2 hJ2.2) (by omega))
              · refine mm_aload_n 3 dX12_seek_150 rfl rfl ?_
                refine mm_iconst (v := 1) dX12_seek_151 rfl ?_
                refine mm_putz dX12_seek_152 rfl fk_X12_356 rfl fv_12_23 (by decide) so_200 ?_
                refine mm_vret dX12_seek_155 rfl ⟨Nat.le_refl _, Nat.le_refl _⟩ ?_
                have e := hs1.trans (sk_st_0 hsp ⟨c108, c126, c137⟩ c147)
                have e2 := hs1s (by rw [e]) c78
                exact hq _ (by rw [e2, e]; exact sk_E_s hE) (sk_F_u hF (by omega))
            · refine mm_goto (tgt := 235) dX12_seek_140 (by decide) ?_
              refine mm_iincN (ls' := [(7, .int (nI (w + 1))), (8, .int (N (606 + w))), (6, .int (e)), (0, .ref 200), (1, .int (nI (m))), (2, .int (nI D)), (3, .int (t)), (4, .int (b)), (5, .int (p))]) 1 (w) 1 dX12_seek_235 rfl rfl (by decide) rfl ?_
              refine mm_goto (tgt := 69) dX12_seek_238 (by decide) ?_
              have e := (hs1.trans (sk_st_n (by rintro ⟨q1, q2, q3⟩; first | exact q1 c108 | exact c126 q2 | exact c137 q3)))
              exact mm_sub [0, 2, 3, 4, 5, 6, 7, 8] rfl (ih (w + 1) J (by omega) (e ▸ hE) hF (by omega))
set_option maxRecDepth 100000 in
set_option maxHeartbeats 600000 in
theorem cm_seek {g : mm_G} {N : Nat → Int32} {l k : Nat} {T up : Int32} (hl : N 15 = nI l) (hl8 : l ≤ 8) (hup : sp_pb N 0 l = up) (hk : N 19 = nI k) (hk6 : k ≤ 6) : ∀ (f m : Nat) (r : Nat → Int32) (D : Nat) (t b p : Int32) (s : sk_S) (I : mm_I) (d : Nat), m + f = 6 → D < 64 → sk_cn D k = m → sk_E I s m r → I 201 = N → I 200 21 = T → f + 3 ≤ d → mm_Dv g zX12_seek d [.ref 200, .int (nI m), .int (nI D), .int t, .int b, .int p] sh_S I (fun J => sk_E J (sk N up T k f m r D t b p s) m r ∧ sk_F I J) := by
  intro f
  induction f with
  | zero =>
    intro m r D t b p s I d hm hD hc hE hN hT hd
    have hno : ∀ w, w < k → ¬ sk_ca N T D w t := fun w hw q => q.1 (sk_cn_6 D hD k (by omega) (by omega) w hw)
    refine mm_Dv_of (fun Q hq => ?_)
    refine cm_skw hN hT hl hl8 hup hk hk6 (by omega) hE (by omega) (fun J hE1 hF1 => ?_)
    refine lm_sk2 (rec := fun _ s => s) (s0 := sk_we up T m r t b p s) hN hT hl hl8 hup hk hk6 (by omega) hD (by omega) (fun w hw q => absurd q (hno w hw)) (fun w _ _ hw q => absurd q (hno w hw)) (fun J2 h1 h2 => ?_) (k + 1) 0 J (Nat.zero_le _) hE1 hF1 (by omega)
    rw [sk_l_no k hno] at h1
    exact hq J2 ⟨h1, h2⟩
  | succ f ih =>
    intro m r D t b p s I d hm hD hc hE hN hT hd
    refine mm_Dv_of (fun Q hq => ?_)
    refine cm_skw hN hT hl hl8 hup hk hk6 (by omega) hE (by omega) (fun J hE1 hF1 => ?_)
    refine lm_sk2 (rec := fun w s => sk N up T k f (m + 1) (upd r m (nI w)) (D ||| 2 ^ w) (t + N (606 + w)) (sk_en b p (up + N (612 + w)) (N (606 + w))) (p + N (618 + w)) s) (s0 := sk_we up T m r t b p s) hN hT hl hl8 hup hk hk6 (by omega) hD (by omega) (fun _ _ _ => by omega) (fun w s2 J2 hw q hE2 hF2 => ?_) (fun J2 h1 h2 => hq J2 ⟨h1, h2⟩) (k + 1) 0 J (Nat.zero_le _) hE1 hF1 (by omega)
    have hcn := sk_cn_or D hD k (by omega) w hw q.1
    exact ih (m + 1) _ _ _ _ _ s2 J2 (d - 1) (by omega) hcn.2 (by rw [hcn.1, hc]) hE2 ((sk_F_n hF2).trans hN) ((sk_F_T hF2).trans hT) (by omega)
