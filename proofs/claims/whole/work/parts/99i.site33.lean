/-! THE CLASS: check, what is due -/
theorem al_c (f g : Nat → Int32) : ∀ m i, (∀ j, i ≤ j → j < rw_al f g m i → f j = g j) ∧ (rw_al f g m i < i + m → ¬ f (rw_al f g m i) = g (rw_al f g m i)) := by
  intro m
  induction m with
  | zero => intro i; exact ⟨fun j h1 h2 => absurd h2 (by show ¬ j < i; omega), fun h => absurd h (by show ¬ i < i + 0; omega)⟩
  | succ m ih =>
    intro i
    by_cases c : f i = g i
    · have e : rw_al f g (m + 1) i = rw_al f g m (i + 1) := if_pos c
      rw [e]
      obtain ⟨h1, h2⟩ := ih (i + 1)
      refine ⟨fun j hj hj2 => ?_, fun h => h2 (by omega)⟩
      by_cases q : j = i
      · rw [q]; exact c
      · exact h1 j (by omega) hj2
    · have e : rw_al f g (m + 1) i = i := if_neg c
      rw [e]
      exact ⟨fun j h1 h2 => by omega, fun _ => c⟩
def hdL (W : Nat → Int32) (many : Nat) (D : Nat → Int32) : Nat → Nat × Bool
  | 0 => (0, false)
  | j + 1 => hd_f W many (hdL W many D j) (D j)
theorem hdL_c {W D : Nat → Int32} {many : Nat} : ∀ q, (hdL W many D q).1 ≤ many ∧ (hdL W many D q).1 ≤ q ∧ (∀ j, j < (hdL W many D q).1 → W j = D j) ∧ ((hdL W many D q).2 = true ∧ (hdL W many D q).1 < q ∧ (many ≤ (hdL W many D q).1 ∨ ¬ W (hdL W many D q).1 = D (hdL W many D q).1) ∨ (hdL W many D q).2 = false ∧ (hdL W many D q).1 = q) := by
  intro q
  induction q with
  | zero => exact ⟨Nat.zero_le _, Nat.le_refl _, fun j hj => absurd hj (Nat.not_lt_zero _), Or.inr ⟨rfl, rfl⟩⟩
  | succ q ih =>
    obtain ⟨h0, h1, h2, h3⟩ := ih
    have e : hdL W many D (q + 1) = hd_f W many (hdL W many D q) (D q) := rfl
    rw [e]
    generalize hdL W many D q = z at h0 h1 h2 h3
    obtain ⟨x, y⟩ := z
    replace h0 : x ≤ many := h0
    replace h1 : x ≤ q := h1
    replace h2 : ∀ j, j < x → W j = D j := h2
    replace h3 : y = true ∧ x < q ∧ (many ≤ x ∨ ¬ W x = D x) ∨ y = false ∧ x = q := h3
    by_cases c : hd_P W many x y (D q)
    · have e2 : hd_f W many (x, y) (D q) = (x, true) := if_pos c
      rw [e2]
      refine ⟨h0, by show x ≤ q + 1; omega, h2, Or.inl ⟨rfl, by show x < q + 1; omega, ?_⟩⟩
      rcases h3 with ⟨a1, a2, a3⟩ | ⟨a1, a2⟩
      · exact a3
      · rcases c with c | c | c
        · rw [a1] at c; exact absurd c (by decide)
        · exact Or.inl c
        · right; show ¬ W x = D x
          intro e; apply c; rw [e, a2]
    · have e2 : hd_f W many (x, y) (D q) = (x + 1, false) := if_neg c
      rw [e2]
      have c1 : ¬ y = true := fun e => c (Or.inl e)
      have c2 : ¬ many ≤ x := fun e => c (Or.inr (Or.inl e))
      have c3 : W x = D q := by
        by_cases e : W x = D q
        · exact e
        · exact absurd (Or.inr (Or.inr e)) c
      rcases h3 with ⟨a1, -⟩ | ⟨a1, a2⟩
      · exact absurd a1 c1
      · refine ⟨by show x + 1 ≤ many; omega, by show x + 1 ≤ q + 1; omega, fun j hj => ?_, Or.inr ⟨rfl, by show x + 1 = q + 1; omega⟩⟩
        have hj : j < x + 1 := hj
        by_cases e : j = q
        · rw [e, ← c3, a2]
        · exact h2 j (by omega)
theorem ckk_n {W D V E : Nat → Int32} {many q : Nat} (hV : ∀ i, i < many → V i = W i) (hE : ∀ i, i < q → E i = D i) : (if rw_al V E (min many q) 0 = q ∧ rw_al V E (min many q) 0 = many then (0 : Int32) else nI (1 + rw_al V E (min many q) 0)) = ck_a (hdL W many D q) many := by
  obtain ⟨h0, h1, h2, h3⟩ := hdL_c (W := W) (D := D) (many := many) q
  obtain ⟨a1, a2⟩ := al_c V E (min many q) 0
  have a3 := rw_al_le V E (min many q) 0
  have e : rw_al V E (min many q) 0 = (hdL W many D q).1 := by
    by_cases c : rw_al V E (min many q) 0 < (hdL W many D q).1
    · exfalso
      exact a2 (by omega) (by rw [hV _ (by omega), hE _ (by omega)]; exact h2 _ c)
    · by_cases c2 : (hdL W many D q).1 < rw_al V E (min many q) 0
      · exfalso
        have e1 := a1 (hdL W many D q).1 (by omega) c2
        rw [hV _ (by omega), hE _ (by omega)] at e1
        rcases h3 with ⟨-, b2, b3⟩ | ⟨-, b2⟩
        · rcases b3 with b3 | b3
          · omega
          · exact b3 e1
        · omega
      · omega
  rw [e]
  unfold ck_a
  rcases h3 with ⟨b1, b2, -⟩ | ⟨b1, b2⟩
  · rw [if_neg (by omega), if_pos (Or.inl b1)]
  · by_cases c : (hdL W many D q).1 < many
    · rw [if_neg (by omega), if_pos (Or.inr c)]
    · rw [if_pos ⟨b2, by omega⟩, if_neg (by intro z; rcases z with z | z; rw [b1] at z; exact absurd z (by decide); exact c z)]
theorem nt_L {N W : Nat → Int32} {many : Nat} {each : Int32} : ∀ t, nt_r N W many each t = hdL W many (fun t => N 4 - each * nI (t + 1)) t := by
  intro t
  induction t with
  | zero => rfl
  | succ t ih => unfold nt_r hdL; rw [ih]
def dF (A B : mm_I) : Prop := ∀ a, ¬ (a = 193 ∨ a = 194) → B a = A a
theorem dF_u {A B : mm_I} (h : dF A B) {i : Nat} {v x : Int32} : dF A (mm_up (mm_up B 194 i v) 193 1 x) := fun b hb => by
  rw [mm_up_a (fun q => hb (Or.inl q)), mm_up_a (fun q => hb (Or.inr q))]; exact h b hb
/-- what is due so far -/
def dU (A : mm_I) (D : Nat → Int32) (q : Nat) : Prop := A 193 1 = nI q ∧ ∀ t, t < q → A 194 t = D t
theorem dU_a {A : mm_I} {D : Nat → Int32} {q : Nat} {v : Int32} (h : dU A D q) (hv : v = D q) : dU (mm_up (mm_up A 194 q v) 193 1 (nI (q + 1))) D (q + 1) := by
  refine ⟨mm_up_at, fun t ht => ?_⟩
  rw [mm_up_ne (by decide)]
  by_cases e : t = q
  · rw [e, mm_up_at]; exact hv
  · rw [mm_up_ni e]; exact h.2 t (by omega)
set_option maxRecDepth 100000 in
set_option maxHeartbeats 600000 in
theorem dk_ln {g : mm_G} {d : Nat} {w h n l k o r : Nat} {A : mm_I} {N : Nat → Int32} (hz : zOK (w * h) n l k o r) (hW : mo_W N w h) {Q : Option Value → mm_Sh → mm_I → Prop} {x : Nat} {each : Int32} (hx : x ≤ 24) (hd : 1 ≤ d) (hq : ∀ A2, dU A2 (fun t => N 4 - each * nI (t + 1)) x → dF A A2 → Q none sh_S (cN (w * h) n l k o r A2 N)) : ∀ (mf i : Nat) (A1 : mm_I), i ≤ x → dU A1 (fun t => N 4 - each * nI (t + 1)) i → dF A A1 → x - i < mf → mm_Ex g zX3_listNight d (0, 0) (0, 0) sh_S (cN (w * h) n l k o r A1 N) 13 [(4, .int (nI (i + 1))), (3, .int each), (0, .ref 17), (1, .int (nI x)), (2, .ref 193)] [] Q := by
  obtain ⟨hz1, hz2, hz3, hz4, hz5, hz6⟩ := id hz
  have hc := mo_W_c hW
  obtain ⟨-, -, hw1, hw2, hh1, hh2⟩ := id hW
  intro mf
  induction mf with
  | zero => intro i A1 hi hU hF hmz; exact absurd hmz (Nat.not_lt_zero _)
  | succ mf ih =>
    intro i A1 hi hU hF hmz
    refine mm_iload 0 dX3_listNight_13 rfl ?_
    refine mm_iload_n 3 dX3_listNight_15 rfl rfl ?_
    refine mm_icmp_gtN (i + 1) (x) (tgt := 39) dX3_listNight_16 (by decide) (by omega) (by omega) (fun c16 => ?_) (fun c16 => ?_)
    · refine mm_vret dX3_listNight_39 rfl ⟨Nat.le_refl _, Nat.le_refl _⟩ ?_
      have e : i = x := by omega
      subst e; exact hq A1 hU hF
    · refine mm_aload_n 4 dX3_listNight_19 rfl rfl ?_
      refine mm_aload_n 2 dX3_listNight_20 rfl rfl ?_
      refine mm_geti dX3_listNight_21 rfl fk_X3_33 rfl so_17 ?_
      refine mm_top (v := N 4) (cN_r (x := 4) (lo_at17.trans rfl)) ?_
      refine mm_iload 0 dX3_listNight_24 rfl ?_
      refine mm_iload_n 1 dX3_listNight_26 rfl rfl ?_
      refine mm_imul dX3_listNight_27 ?_
      refine mm_isub dX3_listNight_28 ?_
      refine mm_at (pc' := 29) rfl ?_
      refine mm_cV1i (dz := d - 1) dX3_listNight_29 rfl mzX5_add ml_X3_59 imX5_add (by omega) so_193 ⟨rfl, rfl⟩ (ct_add rw_193 i ((cN_off hz2 (by decide)).trans hU.1) (by omega)) (Nat.le_of_ble_eq_true rfl) ⟨Nat.le_refl _, Nat.le_refl _⟩ ?_
      refine mm_pop dX3_listNight_32 rfl ?_
      refine mm_iincN (ls' := [(4, .int (nI (i + 1 + 1))), (3, .int (each)), (0, .ref 17), (1, .int (nI (x))), (2, .ref 193)]) 0 (i + 1) 1 dX3_listNight_33 rfl rfl (by decide) rfl ?_
      refine mm_goto (tgt := 13) dX3_listNight_36 (by decide) ?_
      have hh := ih (i + 1) _ (by omega) (dU_a hU (v := N 4 - nI (i + 1) * each) (by rw [Int32.mul_comm])) (dF_u hF) (by omega)
      rw [cN_dof hz2 (by decide), cN_dof hz2 (by decide)]
      exact mm_sub [0, 1, 2, 3, 4] rfl hh
set_option maxRecDepth 100000 in
set_option maxHeartbeats 600000 in
theorem cg_ln {g : mm_G} {d : Nat} {w h n l k o r : Nat} {A : mm_I} {N : Nat → Int32} (hz : zOK (w * h) n l k o r) (hW : mo_W N w h) (hH : mo_H N l) (hB : 0 ≤ N 4) {x : Nat} (hx : x ≤ 24) (h0 : A 193 1 = 0) (hd : 4 ≤ d) : mm_Dv g zX3_listNight d [.ref 17, .int (nI x), .ref 193] sh_S (cN (w * h) n l k o r A N) (fun J => ∃ A2, J = cN (w * h) n l k o r A2 N ∧ dU A2 (fun t => N 4 - sp_pb N (sp_fc N l (nI x) (2 ^ l)) l * nI (t + 1)) x ∧ dF A A2) := by
  obtain ⟨hz1, hz2, hz3, hz4, hz5, hz6⟩ := id hz
  have hc := mo_W_c hW
  obtain ⟨-, -, hw1, hw2, hh1, hh2⟩ := id hW
  refine mm_Dv_of (fun Q hq => ?_)
  refine mm_begin (ls := [(0, .ref 17), (1, .int (nI (x))), (2, .ref 193)]) (Nat.le_of_ble_eq_true rfl) rfl rfl ?_
  refine mm_aload_n 0 dX3_listNight_0 rfl rfl ?_
  refine mm_aload_n 0 dX3_listNight_1 rfl rfl ?_
  refine mm_iload_n 1 dX3_listNight_2 rfl rfl ?_
  refine mm_cV1i (dz := d - 1) dX3_listNight_3 rfl mzX3_leastCut ml_X3_97 imX3_leastCut (by omega) so_17 ⟨rfl, rfl⟩ (cg_lc hz hW hH hB (by omega)) (Nat.le_of_ble_eq_true rfl) ⟨Nat.le_refl _, Nat.le_refl _⟩ ?_
  refine mm_cV1i (dz := d - 1) dX3_listNight_6 rfl mzX3_taken ml_X3_76 imX3_taken (by omega) so_17 ⟨rfl, rfl⟩ (cg_pb hz hW (by omega)) (Nat.le_of_ble_eq_true rfl) ⟨Nat.le_refl _, Nat.le_refl _⟩ ?_
  refine mm_istore_n (ls' := [(3, .int (sp_pb N (sp_fc N l (nI (x)) (2 ^ l)) l)), (0, .ref 17), (1, .int (nI (x))), (2, .ref 193)]) dX3_listNight_9 rfl (by decide) rfl ?_
  refine mm_iconst (v := 1) dX3_listNight_10 rfl ?_
  refine mm_istore (ls' := [(4, .int (1)), (3, .int (sp_pb N (sp_fc N l (nI (x)) (2 ^ l)) l)), (0, .ref 17), (1, .int (nI (x))), (2, .ref 193)]) dX3_listNight_11 (by decide) rfl ?_
  refine mm_at (pc' := 13) rfl ?_
  exact mm_sub [0, 1, 2, 3, 4] rfl (dk_ln hz hW hx (by omega) (fun A2 h1 h2 => hq _ ⟨A2, rfl, h1, h2⟩) (x + 1) 0 A (Nat.zero_le _) ⟨h0, fun t ht => absurd ht (Nat.not_lt_zero _)⟩ (fun _ _ => rfl) (by omega))
