/-! THE CLASS: SHEETS -/
abbrev sh_t (tv s : Nat) : Prop := tv / 2 ^ s % 2 = 1
theorem sh_b1 : ∀ tv, tv < 4 → ∀ s, s < 2 → ((nI tv &&& ((1 : Int32) <<< (nI s &&& 31)) = 0) ↔ ¬ sh_t tv s) := by decide
theorem sh_b2 : ∀ tv, tv < 4 → ∀ s, s < 2 → (nI tv ||| ((1 : Int32) <<< (nI s &&& 31))) = nI (tv ||| 2 ^ s) := by decide
theorem sh_b3 : ∀ tv, tv < 4 → ∀ y, y < 2 → (tv ||| 2 ^ y) < 4 ∧ ∀ s, s < 2 → (sh_t (tv ||| 2 ^ y) s ↔ (s = y ∨ sh_t tv s)) := by decide
theorem sh_rw {s : Nat} (h : s < 2) : rw_is sh_S (196 + 2 * s) 80 := by
  rcases show s = 0 ∨ s = 1 by omega with e | e <;> subst e
  · exact rw_196
  · exact rw_198
theorem op_zs_at {J : mm_I} {b o a i : Nat} : ∀ k, op_zs J b o k a i = if a = b ∧ o ≤ i ∧ i < o + k then 0 else J a i := by
  intro k
  induction k with
  | zero => rw [if_neg (by omega)]; rfl
  | succ k ih =>
    unfold op_zs; rw [up_at, ih]
    by_cases h : a = b ∧ i = o + k
    · rw [if_pos h, if_pos (by omega)]
    · rw [if_neg h]
      by_cases h2 : a = b ∧ o ≤ i ∧ i < o + k
      · rw [if_pos h2, if_pos (by omega)]
      · rw [if_neg h2, if_neg (by omega)]
theorem vv_ex {x : Int32} (h : ¬ x < 0) : ∃ y, y < 2 ^ 31 ∧ x = nI y := ⟨vv x, vv_lt x, vv_of h⟩
def shR (I J : mm_I) : Prop := ∃ tv, tv < 4 ∧ I 195 2 = nI tv ∧ ∀ s, s < 2 → (sh_t tv s ↔ ¬ J 205 s < 0) ∧ (¬ J 205 s < 0 → I (196 + 2 * s) 1 = J 205 s ∧ ∀ i, i < vv (J 205 s) → I (196 + 2 * s + 1) i = J 206 (80 * s + i))
def shF (I K : mm_I) : Prop := ∀ a, ¬ (195 ≤ a ∧ a ≤ 199) → K a = I a
set_option maxRecDepth 100000 in
set_option maxHeartbeats 600000 in
theorem cg_shrow {g : mm_G} {d : Nat} {I : mm_I} {s : Nat} (hs : s < 2) : mm_Cr g zX7_row d [.ref 195, .int (nI s)] sh_S I (.ref (196 + 2 * s)) I := by
  refine mm_Cr_of (fun Q hq => ?_)
  rcases show s = 0 ∨ s = 1 by omega with e | e <;> subst e
  · refine mm_begin (ls := [(0, .ref 195), (1, .int (nI (0)))]) (Nat.le_of_ble_eq_true rfl) rfl rfl ?_
    refine mm_iload_n 1 dX7_row_0 rfl rfl ?_
    refine mm_if_ne (tgt := 11) dX7_row_1 (by decide) (fun q => absurd q (by decide)) (fun _ => ?_)
    refine mm_aload_n 0 dX7_row_4 rfl rfl ?_
    refine mm_getr (b := 196) dX7_row_5 rfl fk_X7_14 rfl so_195 sr_195_0 ?_
    refine mm_goto (tgt := 15) dX7_row_8 (by decide) ?_
    refine mm_aret dX7_row_15 rfl (Or.inl ⟨_, rfl⟩) (Or.inr ⟨_, rfl⟩) ⟨Nat.le_refl _, Nat.le_refl _⟩ ?_
    exact hq
  · refine mm_begin (ls := [(0, .ref 195), (1, .int (nI (1)))]) (Nat.le_of_ble_eq_true rfl) rfl rfl ?_
    refine mm_iload_n 1 dX7_row_0 rfl rfl ?_
    refine mm_if_ne (tgt := 11) dX7_row_1 (by decide) (fun _ => ?_) (fun q => absurd q (by decide))
    refine mm_aload_n 0 dX7_row_11 rfl rfl ?_
    refine mm_getr (b := 198) dX7_row_12 rfl fk_X7_20 rfl so_195 sr_195_1 ?_
    refine mm_aret dX7_row_15 rfl (Or.inl ⟨_, rfl⟩) (Or.inr ⟨_, rfl⟩) ⟨Nat.le_refl _, Nat.le_refl _⟩ ?_
    exact hq
set_option maxRecDepth 100000 in
set_option maxHeartbeats 600000 in
theorem cg_shth {g : mm_G} {d : Nat} {I : mm_I} {tv : Nat} (htv : tv < 4) (h2 : I 195 2 = nI tv) {s : Nat} (hs : s < 2) : mm_Ci g zX7_isThere d [.ref 195, .int (nI (s))] sh_S (I) (if sh_t tv s then 1 else 0) (I) := by
  refine mm_Ci_of (fun Q hq => ?_)
  refine mm_begin (ls := [(0, .ref 195), (1, .int (nI (s)))]) (Nat.le_of_ble_eq_true rfl) rfl rfl ?_
  refine mm_aload_n 0 dX7_isThere_0 rfl rfl ?_
  refine mm_geti dX7_isThere_1 rfl fk_X7_23 rfl so_195 ?_
  refine mm_top (v := nI (tv)) h2 ?_
  refine mm_iconst (v := 1) dX7_isThere_4 rfl ?_
  refine mm_iload_n 1 dX7_isThere_5 rfl rfl ?_
  refine mm_ishl dX7_isThere_6 ?_
  refine mm_iand dX7_isThere_7 ?_
  refine mm_if_eq (tgt := 15) dX7_isThere_8 (by decide) (fun c8 => ?_) (fun c8 => ?_)
  · refine mm_iconst (v := 0) dX7_isThere_15 rfl ?_
    refine mm_zret dX7_isThere_16 rfl (by decide) ⟨Nat.le_refl _, Nat.le_refl _⟩ ?_
    rw [if_neg ((sh_b1 tv htv s hs).mp c8)] at hq; exact hq
  · refine mm_iconst (v := 1) dX7_isThere_11 rfl ?_
    refine mm_goto (tgt := 16) dX7_isThere_12 (by decide) ?_
    refine mm_zret dX7_isThere_16 rfl (by decide) ⟨Nat.le_refl _, Nat.le_refl _⟩ ?_
    rw [if_pos (Decidable.not_not.mp (fun q => c8 ((sh_b1 tv htv s hs).mpr q)))] at hq; exact hq
set_option maxRecDepth 100000 in
set_option maxHeartbeats 600000 in
theorem cg_shbeg {g : mm_G} {d : Nat} {I : mm_I} {tv : Nat} (htv : tv < 4) (h2 : I 195 2 = nI tv) {s k : Nat} (hs : s < 2) (hk : k ≤ 80) (hd : 2 ≤ d) : mm_Cv g zX7_begin d [.ref 195, .int (nI (s)), .int (nI (k))] sh_S (I) (mm_up (rw_fl (mm_up I (196 + 2 * s) 1 (nI (k))) (196 + 2 * s + 1) 0 (k)) 195 2 (nI (tv ||| 2 ^ s))) := by
  refine mm_Cv_of (fun Q hq => ?_)
  refine mm_begin (ls := [(0, .ref 195), (1, .int (nI (s))), (2, .int (nI (k)))]) (Nat.le_of_ble_eq_true rfl) rfl rfl ?_
  refine mm_aload_n 0 dX7_begin_0 rfl rfl ?_
  refine mm_iload_n 1 dX7_begin_1 rfl rfl ?_
  refine mm_cV1r (dz := d - 1) dX7_begin_2 rfl mzX7_row ml_X7_27 imX7_row (by omega) so_195 ⟨rfl, rfl⟩ (cg_shrow (s := s) (by omega)) (Nat.le_of_ble_eq_true rfl) ⟨Nat.le_refl _, Nat.le_refl _⟩ ?_
  refine mm_iload_n 2 dX7_begin_5 rfl rfl ?_
  refine mm_iconst (v := 0) dX7_begin_6 rfl ?_
  refine mm_cV2v (dz := d - 1) dX7_begin_7 rfl mzX5_fill ml_X7_31 imX5_fill (by omega) (sh_rw (s := s) (by omega)).1 ⟨rfl, rfl⟩ (ct_fill (sh_rw (s := s) (by omega)) (k) (by omega) (by omega)) (Nat.le_of_ble_eq_true rfl) ⟨Nat.le_refl _, Nat.le_refl _⟩ ?_
  refine mm_aload_n 0 dX7_begin_10 rfl rfl ?_
  refine mm_dup dX7_begin_11 rfl ?_
  refine mm_at (pc' := 12) rfl ?_
  refine mm_geti dX7_begin_12 rfl fk_X7_23 rfl so_195 ?_
  refine mm_top (v := nI tv) (by rw [rw_fl_ne (by omega), mm_up_ne (by omega)]; exact h2) ?_
  refine mm_iconst (v := 1) dX7_begin_15 rfl ?_
  refine mm_iload_n 1 dX7_begin_16 rfl rfl ?_
  refine mm_ishl dX7_begin_17 ?_
  refine mm_ior dX7_begin_18 ?_
  refine mm_top (v := nI (tv ||| 2 ^ s)) (sh_b2 tv htv s hs) ?_
  refine mm_puti dX7_begin_19 rfl fk_X7_23 rfl fv_7_2 so_195 ?_
  refine mm_vret dX7_begin_22 rfl ⟨Nat.le_refl _, Nat.le_refl _⟩ ?_
  exact hq
set_option maxRecDepth 100000 in
set_option maxHeartbeats 600000 in
theorem cg_shpl {g : mm_G} {d : Nat} {I : mm_I} {s : Nat} (hs : s < 2) (hd : 1 ≤ d) : mm_Ci g zX7_places d [.ref 195, .int (nI (s))] sh_S (I) (I (196 + 2 * s) 1) (I) := by
  refine mm_Ci_of (fun Q hq => ?_)
  refine mm_begin (ls := [(0, .ref 195), (1, .int (nI (s)))]) (Nat.le_of_ble_eq_true rfl) rfl rfl ?_
  refine mm_aload_n 0 dX7_places_0 rfl rfl ?_
  refine mm_iload_n 1 dX7_places_1 rfl rfl ?_
  refine mm_cV1r (dz := d - 1) dX7_places_2 rfl mzX7_row ml_X7_27 imX7_row (by omega) so_195 ⟨rfl, rfl⟩ (cg_shrow (s := s) (by omega)) (Nat.le_of_ble_eq_true rfl) ⟨Nat.le_refl _, Nat.le_refl _⟩ ?_
  refine mm_cV0i (dz := d - 1) dX7_places_5 rfl mzX5_size ml_X7_35 imX5_size (by omega) (sh_rw (s := s) (by omega)).1 ⟨rfl, rfl⟩ (ct_size (sh_rw (s := s) (by omega))) (Nat.le_of_ble_eq_true rfl) ⟨Nat.le_refl _, Nat.le_refl _⟩ ?_
  refine mm_iret dX7_places_8 rfl ⟨Nat.le_refl _, Nat.le_refl _⟩ ?_
  exact hq
set_option maxRecDepth 100000 in
set_option maxHeartbeats 600000 in
theorem cg_shat {g : mm_G} {d : Nat} {I : mm_I} {s i : Nat} (hs : s < 2) (hi : i < 80) (hd : 1 ≤ d) : mm_Ci g zX7_at d [.ref 195, .int (nI (s)), .int (nI (i))] sh_S (I) (I (196 + 2 * s + 1) i) (I) := by
  refine mm_Ci_of (fun Q hq => ?_)
  refine mm_begin (ls := [(0, .ref 195), (1, .int (nI (s))), (2, .int (nI (i)))]) (Nat.le_of_ble_eq_true rfl) rfl rfl ?_
  refine mm_aload_n 0 dX7_at_0 rfl rfl ?_
  refine mm_iload_n 1 dX7_at_1 rfl rfl ?_
  refine mm_cV1r (dz := d - 1) dX7_at_2 rfl mzX7_row ml_X7_27 imX7_row (by omega) so_195 ⟨rfl, rfl⟩ (cg_shrow (s := s) (by omega)) (Nat.le_of_ble_eq_true rfl) ⟨Nat.le_refl _, Nat.le_refl _⟩ ?_
  refine mm_iload_n 2 dX7_at_5 rfl rfl ?_
  refine mm_cV1i (dz := d - 1) dX7_at_6 rfl mzX5_at ml_X7_39 imX5_at (by omega) (sh_rw (s := s) (by omega)).1 ⟨rfl, rfl⟩ (ct_at (sh_rw (s := s) (by omega)) (i) (by omega)) (Nat.le_of_ble_eq_true rfl) ⟨Nat.le_refl _, Nat.le_refl _⟩ ?_
  refine mm_iret dX7_at_9 rfl ⟨Nat.le_refl _, Nat.le_refl _⟩ ?_
  exact hq
set_option maxRecDepth 100000 in
set_option maxHeartbeats 600000 in
theorem cg_shsw {g : mm_G} {d : Nat} {I : mm_I} {s i : Nat} {v : Int32} (hs : s < 2) (hi : i < 80) (hd : 2 ≤ d) : mm_Ci g zX7_swap d [.ref 195, .int (nI (s)), .int (nI (i)), .int (v)] sh_S (I) (I (196 + 2 * s + 1) i) (mm_up I (196 + 2 * s + 1) i v) := by
  refine mm_Ci_of (fun Q hq => ?_)
  refine mm_begin (ls := [(0, .ref 195), (1, .int (nI (s))), (2, .int (nI (i))), (3, .int (v))]) (Nat.le_of_ble_eq_true rfl) rfl rfl ?_
  refine mm_aload_n 0 dX7_swap_0 rfl rfl ?_
  refine mm_iload_n 1 dX7_swap_1 rfl rfl ?_
  refine mm_cV1r (dz := d - 1) dX7_swap_2 rfl mzX7_row ml_X7_27 imX7_row (by omega) so_195 ⟨rfl, rfl⟩ (cg_shrow (s := s) (by omega)) (Nat.le_of_ble_eq_true rfl) ⟨Nat.le_refl _, Nat.le_refl _⟩ ?_
  refine mm_iload_n 2 dX7_swap_5 rfl rfl ?_
  refine mm_iload_n 3 dX7_swap_6 rfl rfl ?_
  refine mm_cV2i (dz := d - 1) dX7_swap_7 rfl mzX5_swap ml_X7_43 imX5_swap (by omega) (sh_rw (s := s) (by omega)).1 ⟨rfl, rfl⟩ (ct_swap (sh_rw (s := s) (by omega)) (i) (by omega) (by omega)) (Nat.le_of_ble_eq_true rfl) ⟨Nat.le_refl _, Nat.le_refl _⟩ ?_
  refine mm_iret dX7_swap_10 rfl ⟨Nat.le_refl _, Nat.le_refl _⟩ ?_
  exact hq
abbrev shP (q : Nat) (p m : Int32) : Prop := ¬ (m < 0 ∨ p < 0 ∨ q < vv p + vv m)
set_option maxRecDepth 100000 in
set_option maxHeartbeats 600000 in
theorem cg_shhp {g : mm_G} {d : Nat} {I : mm_I} {s q : Nat} {p m : Int32} (hs : s < 2) (hq80 : q ≤ 80) (hsq : I (196 + 2 * s) 1 = nI q) (hd : 2 ≤ d) : mm_Ci g zX7_hasPart d [.ref 195, .int (nI (s)), .int (p), .int (m)] sh_S (I) (if shP q p m then 1 else 0) (I) := by
  refine mm_Ci_of (fun Q hq => ?_)
  refine mm_begin (ls := [(0, .ref 195), (1, .int (nI (s))), (2, .int (p)), (3, .int (m))]) (Nat.le_of_ble_eq_true rfl) rfl rfl ?_
  refine mm_iload_n 2 dX7_hasPart_0 rfl rfl ?_
  refine mm_if_lt (tgt := 32) dX7_hasPart_1 (by decide) (fun c1 => ?_) (fun c1 => ?_)
  · refine mm_iconst (v := 0) dX7_hasPart_32 rfl ?_
    refine mm_zret dX7_hasPart_33 rfl (by decide) ⟨Nat.le_refl _, Nat.le_refl _⟩ ?_
    rw [if_neg (by intro q1; apply q1; first | exact Or.inr (Or.inl c1) | exact Or.inl c5 | (right; right; rw [vv_nI (by omega), vv_nI (by omega)]; omega))] at hq; exact hq
  · refine mm_iload_n 3 dX7_hasPart_4 rfl rfl ?_
    refine mm_if_lt (tgt := 32) dX7_hasPart_5 (by decide) (fun c5 => ?_) (fun c5 => ?_)
    · refine mm_iconst (v := 0) dX7_hasPart_32 rfl ?_
      refine mm_zret dX7_hasPart_33 rfl (by decide) ⟨Nat.le_refl _, Nat.le_refl _⟩ ?_
      rw [if_neg (by intro q1; apply q1; first | exact Or.inr (Or.inl c1) | exact Or.inl c5 | (right; right; rw [vv_nI (by omega), vv_nI (by omega)]; omega))] at hq; exact hq
    · obtain ⟨x, hx, rfl⟩ := vv_ex c1
      obtain ⟨y, hy, rfl⟩ := vv_ex c5
      refine mm_iload_n 3 dX7_hasPart_8 rfl rfl ?_
      refine mm_aload_n 0 dX7_hasPart_9 rfl rfl ?_
      refine mm_iload_n 1 dX7_hasPart_10 rfl rfl ?_
      refine mm_cV1i (dz := d - 1) dX7_hasPart_11 rfl mzX7_places ml_X7_47 imX7_places (by omega) so_195 ⟨rfl, rfl⟩ (cg_shpl (s := s) (by omega) (by omega)) (Nat.le_of_ble_eq_true rfl) ⟨Nat.le_refl _, Nat.le_refl _⟩ ?_
      refine mm_top (v := nI (q)) hsq ?_
      refine mm_icmp_gtN (y) (q) (tgt := 32) dX7_hasPart_14 (by decide) (by omega) (by omega) (fun c14 => ?_) (fun c14 => ?_)
      · refine mm_iconst (v := 0) dX7_hasPart_32 rfl ?_
        refine mm_zret dX7_hasPart_33 rfl (by decide) ⟨Nat.le_refl _, Nat.le_refl _⟩ ?_
        rw [if_neg (by intro q1; apply q1; first | exact Or.inr (Or.inl c1) | exact Or.inl c5 | (right; right; rw [vv_nI (by omega), vv_nI (by omega)]; omega))] at hq; exact hq
      · refine mm_iload_n 2 dX7_hasPart_17 rfl rfl ?_
        refine mm_aload_n 0 dX7_hasPart_18 rfl rfl ?_
        refine mm_iload_n 1 dX7_hasPart_19 rfl rfl ?_
        refine mm_cV1i (dz := d - 1) dX7_hasPart_20 rfl mzX7_places ml_X7_47 imX7_places (by omega) so_195 ⟨rfl, rfl⟩ (cg_shpl (s := s) (by omega) (by omega)) (Nat.le_of_ble_eq_true rfl) ⟨Nat.le_refl _, Nat.le_refl _⟩ ?_
        refine mm_top (v := nI (q)) hsq ?_
        refine mm_iload_n 3 dX7_hasPart_23 rfl rfl ?_
        refine mm_isubN (q) (y) dX7_hasPart_24 (by omega) ?_
        refine mm_icmp_gtN (x) (q - y) (tgt := 32) dX7_hasPart_25 (by decide) (by omega) (by omega) (fun c25 => ?_) (fun c25 => ?_)
        · refine mm_iconst (v := 0) dX7_hasPart_32 rfl ?_
          refine mm_zret dX7_hasPart_33 rfl (by decide) ⟨Nat.le_refl _, Nat.le_refl _⟩ ?_
          rw [if_neg (by intro q1; apply q1; first | exact Or.inr (Or.inl c1) | exact Or.inl c5 | (right; right; rw [vv_nI (by omega), vv_nI (by omega)]; omega))] at hq; exact hq
        · refine mm_iconst (v := 1) dX7_hasPart_28 rfl ?_
          refine mm_goto (tgt := 33) dX7_hasPart_29 (by decide) ?_
          refine mm_zret dX7_hasPart_33 rfl (by decide) ⟨Nat.le_refl _, Nat.le_refl _⟩ ?_
          rw [if_pos (by rintro (q1 | q1 | q1); exact c5 q1; exact c1 q1; (rw [vv_nI (by omega), vv_nI (by omega)] at q1; omega))] at hq; exact hq
set_option maxRecDepth 100000 in
set_option maxHeartbeats 600000 in
theorem cg_shmv {g : mm_G} {d : Nat} {I : mm_I} {f p t a m : Nat} (hf : f < 2) (ht : t < 2) (h1 : p + m ≤ 80) (h2 : a + m ≤ 80) (hd : 3 ≤ d) : mm_Cv g zX7_move d [.ref 195, .int (nI (f)), .int (nI (p)), .int (nI (t)), .int (nI (a)), .int (nI (m))] sh_S (I) (mm_cp I (196 + 2 * f + 1) (196 + 2 * t + 1) p a m) := by
  refine mm_Cv_of (fun Q hq => ?_)
  refine mm_begin (ls := [(0, .ref 195), (1, .int (nI (f))), (2, .int (nI (p))), (3, .int (nI (t))), (4, .int (nI (a))), (5, .int (nI (m)))]) (Nat.le_of_ble_eq_true rfl) rfl rfl ?_
  refine mm_aload_n 0 dX7_move_0 rfl rfl ?_
  refine mm_iload_n 3 dX7_move_1 rfl rfl ?_
  refine mm_cV1r (dz := d - 1) dX7_move_2 rfl mzX7_row ml_X7_27 imX7_row (by omega) so_195 ⟨rfl, rfl⟩ (cg_shrow (s := t) (by omega)) (Nat.le_of_ble_eq_true rfl) ⟨Nat.le_refl _, Nat.le_refl _⟩ ?_
  refine mm_aload_n 0 dX7_move_5 rfl rfl ?_
  refine mm_iload_n 1 dX7_move_6 rfl rfl ?_
  refine mm_cV1r (dz := d - 1) dX7_move_7 rfl mzX7_row ml_X7_27 imX7_row (by omega) so_195 ⟨rfl, rfl⟩ (cg_shrow (s := f) (by omega)) (Nat.le_of_ble_eq_true rfl) ⟨Nat.le_refl _, Nat.le_refl _⟩ ?_
  refine mm_iload_n 2 dX7_move_10 rfl rfl ?_
  refine mm_iload 4 dX7_move_11 rfl ?_
  refine mm_at (pc' := 13) rfl ?_
  refine mm_iload 5 dX7_move_13 rfl ?_
  refine mm_cV4v (dz := d - 1) dX7_move_15 rfl mzX5_take ml_X7_50 imX5_take (by omega) (sh_rw (s := t) (by omega)).1 ⟨rfl, rfl⟩ (ct_take (sh_rw (s := t) (by omega)) (sh_rw (s := f) (by omega)) (p) (a) (m) (by omega) (by omega) (by omega)) (Nat.le_of_ble_eq_true rfl) ⟨Nat.le_refl _, Nat.le_refl _⟩ ?_
  refine mm_vret dX7_move_18 rfl ⟨Nat.le_refl _, Nat.le_refl _⟩ ?_
  exact hq
theorem shR_beg {I J : mm_I} {tv y q : Nat} (hR2 : ∀ s, s < 2 → (sh_t tv s ↔ ¬ J 205 s < 0) ∧ (¬ J 205 s < 0 → I (196 + 2 * s) 1 = J 205 s ∧ ∀ i, i < vv (J 205 s) → I (196 + 2 * s + 1) i = J 206 (80 * s + i))) (htv : tv < 4) (h2 : I 195 2 = nI tv) (hy : y < 2) (hq : q ≤ 80) (hp : sp_pl J) : shR (mm_up (rw_fl (mm_up I (196 + 2 * y) 1 (nI (q))) (196 + 2 * y + 1) 0 (q)) 195 2 (nI (tv ||| 2 ^ y))) (op_zs (mm_up J 205 y (nI q)) 206 (80 * y) 80) := by
  refine ⟨tv ||| 2 ^ y, (sh_b3 tv htv y hy).1, mm_up_at, fun s hs => ?_⟩
  have b3 := (sh_b3 tv htv y hy).2 s hs
  obtain ⟨r1, r2⟩ := hR2 s hs
  rw [op_zs_at, if_neg (by omega)]
  by_cases e : s = y
  · subst e
    rw [mm_up_at]
    refine ⟨⟨fun _ => nI_pos (by omega), fun _ => b3.mpr (Or.inl rfl)⟩, fun _ => ⟨?_, fun i hi => ?_⟩⟩
    · rw [mm_up_ne (by omega), rw_fl_ne (by omega), mm_up_at]
    · rw [vv_nI (by omega)] at hi
      rw [mm_up_ne (by omega), rw_fl_in hi, op_zs_at, if_pos ⟨rfl, by omega, by omega⟩]
  · rw [mm_up_ni e]
    refine ⟨⟨fun h => r1.mp ((b3.mp h).resolve_left e), fun h => b3.mpr (Or.inr (r1.mpr h))⟩, fun h => ⟨?_, fun i hi => ?_⟩⟩
    · rw [mm_up_ne (by omega), rw_fl_ne (by omega), mm_up_ne (by omega)]; exact (r2 h).1
    · obtain z | ⟨q', hq', z⟩ := hp s hs
      · rw [z] at h; exact absurd (by decide) h
      rw [z, vv_nI (by omega)] at hi
      rw [mm_up_ne (by omega), rw_fl_ne (by omega), mm_up_ne (by omega), op_zs_at, if_neg (by omega), mm_up_ne (by omega)]
      exact (r2 h).2 i (by rw [z, vv_nI (by omega)]; exact hi)
set_option maxRecDepth 100000 in
set_option maxHeartbeats 600000 in
theorem cb_sheet {g : mm_G} {d : Nat} {I : mm_I} {J : mm_I} (hR : shR I J) (hp : sp_pl J) {s x : Int32} (hd : 3 ≤ d) : mm_Di g zX11_sheet d [.ref 0, .int (s), .int (x)] sh_S (I) (fun r_ K => r_ = (op_sheet J s x).1 ∧ shR K (op_sheet J s x).2 ∧ shF I K) := by
  obtain ⟨tv, htv, h2, hR2⟩ := id hR
  refine mm_Di_of (fun Q hq => ?_)
  refine mm_begin (ls := [(0, .ref 0), (1, .int (s)), (2, .int (x))]) (Nat.le_of_ble_eq_true rfl) rfl rfl ?_
  refine mm_iload_n 1 dX11_sheet_0 rfl rfl ?_
  refine mm_iconst (v := 0) dX11_sheet_1 rfl ?_
  refine mm_iconst (v := 1) dX11_sheet_2 rfl ?_
  refine mm_cS3i (dz := d - 1) dX11_sheet_3 rfl mzX11_within ml_X11_63 imX11_within (by omega) cx_within (Nat.le_of_ble_eq_true rfl) ⟨Nat.le_refl _, Nat.le_refl _⟩ ?_
  refine mm_if_eqB (tgt := 15) dX11_sheet_6 (by decide) (fun c6 => ?_) (fun c6 => ?_)
  · refine mm_ldc dX11_sheet_15 rfl kc_X11_67 ?_
    refine mm_iret dX11_sheet_17 rfl ⟨Nat.le_refl _, Nat.le_refl _⟩ ?_
    have e : op_sheet J s x = (-1000000001, J) := by unfold op_sheet; rw [if_pos (by first | exact Or.inl c6 | exact Or.inr c12)]
    exact hq _ _ ⟨by rw [e], by rw [e]; exact hR, fun _ _ => rfl⟩
  · refine mm_iload_n 2 dX11_sheet_9 rfl rfl ?_
    refine mm_bipush (v := 80) dX11_sheet_10 rfl ?_
    refine mm_icmp_le (tgt := 18) dX11_sheet_12 (by decide) (fun c12 => ?_) (fun c12 => ?_)
    · obtain ⟨y, hy, rfl⟩ := sp_wi_nat 1 (by decide) c6
      refine mm_iload_n 2 dX11_sheet_18 rfl rfl ?_
      refine mm_if_ge (tgt := 26) dX11_sheet_19 (by decide) (fun c19 => ?_) (fun c19 => ?_)
      · obtain ⟨q, hqq, rfl⟩ := vv_ex (by first | exact c19 | exact Int32.not_lt.mpr c19)
        have hq80 : q ≤ 80 := (nI_leI hqq (by decide)).mp c12
        refine mm_aload_n 0 dX11_sheet_26 rfl rfl ?_
        refine mm_getr (b := 195) dX11_sheet_27 rfl fk_X11_59 rfl so_0 sr_0_8 ?_
        refine mm_iload_n 1 dX11_sheet_30 rfl rfl ?_
        refine mm_iload_n 2 dX11_sheet_31 rfl rfl ?_
        refine mm_cV2v (dz := d - 1) dX11_sheet_32 rfl mzX7_begin ml_X11_338 imX7_begin (by omega) so_195 ⟨rfl, rfl⟩ (cg_shbeg htv h2 (s := y) (k := q) (by omega) (by omega) (by omega)) (Nat.le_of_ble_eq_true rfl) ⟨Nat.le_refl _, Nat.le_refl _⟩ ?_
        refine mm_iload_n 2 dX11_sheet_35 rfl rfl ?_
        refine mm_iret dX11_sheet_36 rfl ⟨Nat.le_refl _, Nat.le_refl _⟩ ?_
        have e : op_sheet J (nI y) (nI q) = (nI q, op_zs (mm_up J 205 y (nI q)) 206 (80 * y) 80) := by unfold op_sheet; rw [if_neg (by rintro (q | q); exact q c6; exact q c12), if_neg (nI_pos (by omega)), vv_nI (by omega)]
        refine hq _ _ ⟨by rw [e], by rw [e]; exact shR_beg hR2 htv h2 (by omega) hq80 hp, fun a ha => ?_⟩
        funext i; rw [mm_up_ne (by omega), rw_fl_ne (by omega), mm_up_ne (by omega)]
      · refine mm_ldcw dX11_sheet_22 rfl kc_X11_337 ?_
        refine mm_iret dX11_sheet_25 rfl ⟨Nat.le_refl _, Nat.le_refl _⟩ ?_
        have e : op_sheet J (nI y) x = (-1000000014, J) := by unfold op_sheet; rw [if_neg (by rintro (q | q); exact q c6; exact q c12), if_pos (by first | exact Int32.not_le.mp c19 | exact c19)]
        exact hq _ _ ⟨by rw [e], by rw [e]; exact hR, fun _ _ => rfl⟩
    · refine mm_ldc dX11_sheet_15 rfl kc_X11_67 ?_
      refine mm_iret dX11_sheet_17 rfl ⟨Nat.le_refl _, Nat.le_refl _⟩ ?_
      have e : op_sheet J s x = (-1000000001, J) := by unfold op_sheet; rw [if_pos (by first | exact Or.inl c6 | exact Or.inr c12)]
      exact hq _ _ ⟨by rw [e], by rw [e]; exact hR, fun _ _ => rfl⟩
theorem shR_mark {I J : mm_I} {tv y x : Nat} {v : Int32} (hR2 : ∀ s, s < 2 → (sh_t tv s ↔ ¬ J 205 s < 0) ∧ (¬ J 205 s < 0 → I (196 + 2 * s) 1 = J 205 s ∧ ∀ i, i < vv (J 205 s) → I (196 + 2 * s + 1) i = J 206 (80 * s + i))) (htv : tv < 4) (h2 : I 195 2 = nI tv) (hy : y < 2) (hx : x < 80) (hp : sp_pl J) : shR (mm_up I (196 + 2 * y + 1) x v) (mm_up J 206 (80 * y + x) v) := by
  refine ⟨tv, htv, (mm_up_ne (by omega)).trans h2, fun s hs => ?_⟩
  obtain ⟨r1, r2⟩ := hR2 s hs
  rw [mm_up_ne (by decide)]
  refine ⟨r1, fun h => ⟨(mm_up_ne (by omega)).trans (r2 h).1, fun i hi => ?_⟩⟩
  have r3 := (r2 h).2 i hi
  obtain z | ⟨q', hq', z⟩ := hp s hs
  · rw [z] at h; exact absurd (by decide) h
  rw [z, vv_nI (by omega)] at hi
  rw [up_at, up_at]
  by_cases e : s = y ∧ i = x
  · rw [if_pos (by omega), if_pos (by omega)]
  · rw [if_neg (by omega), if_neg (by omega)]; exact r3
theorem shR_copy {I J : mm_I} {tv f p t a m qf qt : Nat} (hR2 : ∀ s, s < 2 → (sh_t tv s ↔ ¬ J 205 s < 0) ∧ (¬ J 205 s < 0 → I (196 + 2 * s) 1 = J 205 s ∧ ∀ i, i < vv (J 205 s) → I (196 + 2 * s + 1) i = J 206 (80 * s + i))) (htv : tv < 4) (h2 : I 195 2 = nI tv) (hp : sp_pl J) (hf : f < 2) (ht : t < 2) (zf : J 205 f = nI qf) (hqf : qf ≤ 80) (hqt : qt ≤ 80) (h3 : p + m ≤ qf) (h4 : a + m ≤ qt) : shR (mm_cp I (196 + 2 * f + 1) (196 + 2 * t + 1) p a m) (mm_cp (mm_cp J 206 213 (80 * f + p) 0 m) 213 206 0 (80 * t + a) m) := by
  refine ⟨tv, htv, (mm_cp_ne (by omega)).trans h2, fun s hs => ?_⟩
  obtain ⟨r1, r2⟩ := hR2 s hs
  rw [mm_cp_ne (by decide), mm_cp_ne (by decide)]
  refine ⟨r1, fun h => ⟨(mm_cp_ne (by omega)).trans (r2 h).1, fun i hi => ?_⟩⟩
  have r3 := (r2 h).2 i hi
  obtain z | ⟨q', hq', z⟩ := hp s hs
  · rw [z] at h; exact absurd (by decide) h
  rw [z, vv_nI (by omega)] at hi
  by_cases e : s = t ∧ a ≤ i ∧ i < a + m
  · obtain ⟨e1, e2, e3⟩ := e
    subst e1
    rw [mm_cp_in ⟨e2, e3⟩, mm_cp_in ⟨by omega, by omega⟩, mm_cp_in ⟨by omega, by omega⟩]
    have r4 := ((hR2 f hf).2 (by rw [zf]; exact nI_pos (by omega))).2 (p + (i - a)) (by rw [zf, vv_nI (by omega)]; omega)
    rw [r4]; congr 1; omega
  · by_cases e1 : s = t
    · subst e1; rw [mm_cp_out (by omega), mm_cp_out (by omega), mm_cp_ne (by decide)]; exact r3
    · rw [mm_cp_ne (by omega), mm_cp_out (by omega), mm_cp_ne (by decide)]; exact r3
set_option maxRecDepth 100000 in
set_option maxHeartbeats 600000 in
theorem cb_mark {g : mm_G} {d : Nat} {I : mm_I} {J : mm_I} (hR : shR I J) (hp : sp_pl J) {s p v : Int32} (hd : 3 ≤ d) : mm_Di g zX11_mark d [.ref 0, .int (s), .int (p), .int (v)] sh_S (I) (fun r_ K => r_ = (op_mark J s p v).1 ∧ shR K (op_mark J s p v).2 ∧ shF I K) := by
  obtain ⟨tv, htv, h2, hR2⟩ := id hR
  refine mm_Di_of (fun Q hq => ?_)
  refine mm_begin (ls := [(0, .ref 0), (1, .int (s)), (2, .int (p)), (3, .int (v))]) (Nat.le_of_ble_eq_true rfl) rfl rfl ?_
  refine mm_iload_n 1 dX11_mark_0 rfl rfl ?_
  refine mm_iconst (v := 0) dX11_mark_1 rfl ?_
  refine mm_iconst (v := 1) dX11_mark_2 rfl ?_
  refine mm_cS3i (dz := d - 1) dX11_mark_3 rfl mzX11_within ml_X11_63 imX11_within (by omega) cx_within (Nat.le_of_ble_eq_true rfl) ⟨Nat.le_refl _, Nat.le_refl _⟩ ?_
  refine mm_if_neB (tgt := 12) dX11_mark_6 (by decide) (fun c6 => ?_) (fun c6 => ?_)
  · obtain ⟨y, hy, rfl⟩ := sp_wi_nat 1 (by decide) c6
    refine mm_aload_n 0 dX11_mark_12 rfl rfl ?_
    refine mm_getr (b := 195) dX11_mark_13 rfl fk_X11_59 rfl so_0 sr_0_8 ?_
    refine mm_iload_n 1 dX11_mark_16 rfl rfl ?_
    refine mm_cV1i (dz := d - 1) dX11_mark_17 rfl mzX7_isThere ml_X11_125 imX7_isThere (by omega) so_195 ⟨rfl, rfl⟩ (cg_shth htv h2 (s := y) (by omega)) (Nat.le_of_ble_eq_true rfl) ⟨Nat.le_refl _, Nat.le_refl _⟩ ?_
    refine mm_if_neB (tgt := 26) dX11_mark_20 (by decide) (fun c20 => ?_) (fun c20 => ?_)
    · have hJ0 := (hR2 y (by omega)).1.mp c20
      obtain z | ⟨q, hq80, z⟩ := hp y (by omega)
      · rw [z] at hJ0; exact absurd (by decide) hJ0
      have hsq : I (196 + 2 * y) 1 = nI q := ((hR2 y (by omega)).2 hJ0).1.trans z
      refine mm_iload_n 2 dX11_mark_26 rfl rfl ?_
      refine mm_if_lt (tgt := 42) dX11_mark_27 (by decide) (fun c27 => ?_) (fun c27 => ?_)
      · refine mm_ldcw dX11_mark_42 rfl kc_X11_341 ?_
        refine mm_iret dX11_mark_45 rfl ⟨Nat.le_refl _, Nat.le_refl _⟩ ?_
        have e : ∀ p_ : Int32, ¬ (0 ≤ p_ ∧ p_ < nI q) → op_mark J (nI y) p_ v = (-1000000013, J) := fun p_ hp_ => by unfold op_mark; rw [if_neg (fun q => q c6), vv_nI (by omega), if_neg hJ0, if_pos (by intro q1; rw [z] at q1; exact hp_ ((sp_isM_pred (by omega)).mp q1))]
        have hpn : ¬ (0 ≤ (p : Int32) ∧ p < nI q) := by rintro ⟨q1, q2⟩; first | exact absurd c27 (Int32.not_lt.mpr q1) | exact c27 q1 | exact absurd ((nI_ltI (by omega) (by omega)).mp q2) (by omega)
        exact hq _ _ ⟨by rw [e _ hpn], by rw [e _ hpn]; exact hR, fun _ _ => rfl⟩
      · obtain ⟨x, hx, rfl⟩ := vv_ex (x := p) (by first | exact c27 | exact Int32.not_lt.mpr c27)
        refine mm_iload_n 2 dX11_mark_30 rfl rfl ?_
        refine mm_aload_n 0 dX11_mark_31 rfl rfl ?_
        refine mm_getr (b := 195) dX11_mark_32 rfl fk_X11_59 rfl so_0 sr_0_8 ?_
        refine mm_iload_n 1 dX11_mark_35 rfl rfl ?_
        refine mm_cV1i (dz := d - 1) dX11_mark_36 rfl mzX7_places ml_X11_129 imX7_places (by omega) so_195 ⟨rfl, rfl⟩ (cg_shpl (s := y) (by omega) (by omega)) (Nat.le_of_ble_eq_true rfl) ⟨Nat.le_refl _, Nat.le_refl _⟩ ?_
        refine mm_top (v := nI (q)) hsq ?_
        refine mm_icmp_ltN (x) (q) (tgt := 46) dX11_mark_39 (by decide) (by omega) (by omega) (fun c39 => ?_) (fun c39 => ?_)
        · refine mm_aload_n 0 dX11_mark_46 rfl rfl ?_
          refine mm_getr (b := 195) dX11_mark_47 rfl fk_X11_59 rfl so_0 sr_0_8 ?_
          refine mm_iload_n 1 dX11_mark_50 rfl rfl ?_
          refine mm_iload_n 2 dX11_mark_51 rfl rfl ?_
          refine mm_iload_n 3 dX11_mark_52 rfl rfl ?_
          refine mm_i2s dX11_mark_53 ?_
          refine mm_cV3i (dz := d - 1) dX11_mark_54 rfl mzX7_swap ml_X11_342 imX7_swap (by omega) so_195 ⟨rfl, rfl⟩ (cg_shsw (s := y) (i := x) (by omega) (by omega) (by omega)) (Nat.le_of_ble_eq_true rfl) ⟨Nat.le_refl _, Nat.le_refl _⟩ ?_
          refine mm_iret dX11_mark_57 rfl ⟨Nat.le_refl _, Nat.le_refl _⟩ ?_
          have e : op_mark J (nI y) (nI x) v = (J 206 (80 * y + x), mm_up J 206 (80 * y + x) v.toInt16.toInt32) := by unfold op_mark; rw [if_neg (fun q => q c6), vv_nI (by omega), if_neg hJ0, if_neg (by intro q1; apply q1; rw [z]; exact (sp_isM_pred (by omega)).mpr ⟨nI_pos' (by omega), (nI_ltI (by omega) (by omega)).mpr c39⟩), vv_nI (by omega)]
          have er := ((hR2 y (by omega)).2 hJ0).2 x (by rw [z, vv_nI (by omega)]; exact c39)
          refine hq _ _ ⟨by rw [e]; exact er, by rw [e]; exact shR_mark hR2 htv h2 (by omega) (by omega) hp, fun a ha => ?_⟩
          funext i; rw [mm_up_ne (by omega)]
        · refine mm_ldcw dX11_mark_42 rfl kc_X11_341 ?_
          refine mm_iret dX11_mark_45 rfl ⟨Nat.le_refl _, Nat.le_refl _⟩ ?_
          have e : ∀ p_ : Int32, ¬ (0 ≤ p_ ∧ p_ < nI q) → op_mark J (nI y) p_ v = (-1000000013, J) := fun p_ hp_ => by unfold op_mark; rw [if_neg (fun q => q c6), vv_nI (by omega), if_neg hJ0, if_pos (by intro q1; rw [z] at q1; exact hp_ ((sp_isM_pred (by omega)).mp q1))]
          have hpn : ¬ (0 ≤ (nI x : Int32) ∧ nI x < nI q) := by rintro ⟨q1, q2⟩; first | exact absurd c27 (Int32.not_lt.mpr q1) | exact c27 q1 | exact absurd ((nI_ltI (by omega) (by omega)).mp q2) (by omega)
          exact hq _ _ ⟨by rw [e _ hpn], by rw [e _ hpn]; exact hR, fun _ _ => rfl⟩
    · refine mm_ldc dX11_mark_23 rfl kc_X11_128 ?_
      refine mm_iret dX11_mark_25 rfl ⟨Nat.le_refl _, Nat.le_refl _⟩ ?_
      have e : op_mark J (nI y) p v = (-1000000011, J) := by unfold op_mark; rw [if_neg (fun q => q c6), vv_nI (by omega), if_pos (Decidable.not_not.mp (fun q => c20 ((hR2 y (by omega)).1.mpr q)))]
      exact hq _ _ ⟨by rw [e], by rw [e]; exact hR, fun _ _ => rfl⟩
  · refine mm_ldc dX11_mark_9 rfl kc_X11_67 ?_
    refine mm_iret dX11_mark_11 rfl ⟨Nat.le_refl _, Nat.le_refl _⟩ ?_
    have e : op_mark J s p v = (-1000000001, J) := by unfold op_mark; rw [if_pos c6]
    exact hq _ _ ⟨by rw [e], by rw [e]; exact hR, fun _ _ => rfl⟩
set_option maxRecDepth 100000 in
set_option maxHeartbeats 600000 in
theorem cb_copy {g : mm_G} {d : Nat} {I : mm_I} {J : mm_I} (hR : shR I J) (hp : sp_pl J) {f p t a m : Int32} (hd : 4 ≤ d) : mm_Di g zX11_copy d [.ref 0, .int (f), .int (p), .int (t), .int (a), .int (m)] sh_S (I) (fun r_ K => r_ = (op_copy J f p t a m).1 ∧ shR K (op_copy J f p t a m).2 ∧ shF I K) := by
  obtain ⟨tv, htv, h2, hR2⟩ := id hR
  refine mm_Di_of (fun Q hq => ?_)
  refine mm_begin (ls := [(0, .ref 0), (1, .int (f)), (2, .int (p)), (3, .int (t)), (4, .int (a)), (5, .int (m))]) (Nat.le_of_ble_eq_true rfl) rfl rfl ?_
  refine mm_iload_n 1 dX11_copy_0 rfl rfl ?_
  refine mm_iconst (v := 0) dX11_copy_1 rfl ?_
  refine mm_iconst (v := 1) dX11_copy_2 rfl ?_
  refine mm_cS3i (dz := d - 1) dX11_copy_3 rfl mzX11_within ml_X11_63 imX11_within (by omega) cx_within (Nat.le_of_ble_eq_true rfl) ⟨Nat.le_refl _, Nat.le_refl _⟩ ?_
  refine mm_if_eqB (tgt := 18) dX11_copy_6 (by decide) (fun c6 => ?_) (fun c6 => ?_)
  · refine mm_ldc dX11_copy_18 rfl kc_X11_67 ?_
    refine mm_iret dX11_copy_20 rfl ⟨Nat.le_refl _, Nat.le_refl _⟩ ?_
    have e : op_copy J f p t a m = (-1000000001, J) := by unfold op_copy; rw [if_pos (by first | exact Or.inl c6 | exact Or.inr c15)]
    exact hq _ _ ⟨by rw [e], by rw [e]; exact hR, fun _ _ => rfl⟩
  · refine mm_iload_n 3 dX11_copy_9 rfl rfl ?_
    refine mm_iconst (v := 0) dX11_copy_10 rfl ?_
    refine mm_iconst (v := 1) dX11_copy_11 rfl ?_
    refine mm_cS3i (dz := d - 1) dX11_copy_12 rfl mzX11_within ml_X11_63 imX11_within (by omega) cx_within (Nat.le_of_ble_eq_true rfl) ⟨Nat.le_refl _, Nat.le_refl _⟩ ?_
    refine mm_if_neB (tgt := 21) dX11_copy_15 (by decide) (fun c15 => ?_) (fun c15 => ?_)
    · obtain ⟨y, hy, rfl⟩ := sp_wi_nat 1 (by decide) c6
      obtain ⟨u, hu, rfl⟩ := sp_wi_nat 1 (by decide) c15
      refine mm_aload_n 0 dX11_copy_21 rfl rfl ?_
      refine mm_getr (b := 195) dX11_copy_22 rfl fk_X11_59 rfl so_0 sr_0_8 ?_
      refine mm_iload_n 1 dX11_copy_25 rfl rfl ?_
      refine mm_cV1i (dz := d - 1) dX11_copy_26 rfl mzX7_isThere ml_X11_125 imX7_isThere (by omega) so_195 ⟨rfl, rfl⟩ (cg_shth htv h2 (s := y) (by omega)) (Nat.le_of_ble_eq_true rfl) ⟨Nat.le_refl _, Nat.le_refl _⟩ ?_
      refine mm_if_eqB (tgt := 43) dX11_copy_29 (by decide) (fun c29 => ?_) (fun c29 => ?_)
      · refine mm_ldc dX11_copy_43 rfl kc_X11_128 ?_
        refine mm_iret dX11_copy_45 rfl ⟨Nat.le_refl _, Nat.le_refl _⟩ ?_
        have e : op_copy J (nI y) p (nI u) a m = (-1000000011, J) := by unfold op_copy; rw [if_neg (by rintro (q | q); exact q c6; exact q c15), vv_nI (by omega), vv_nI (by omega), if_pos (by first | exact Or.inl (Decidable.not_not.mp (fun q => c29 ((hR2 y (by omega)).1.mpr q))) | exact Or.inr (Decidable.not_not.mp (fun q => c40 ((hR2 u (by omega)).1.mpr q))))]
        exact hq _ _ ⟨by rw [e], by rw [e]; exact hR, fun _ _ => rfl⟩
      · refine mm_aload_n 0 dX11_copy_32 rfl rfl ?_
        refine mm_getr (b := 195) dX11_copy_33 rfl fk_X11_59 rfl so_0 sr_0_8 ?_
        refine mm_iload_n 3 dX11_copy_36 rfl rfl ?_
        refine mm_cV1i (dz := d - 1) dX11_copy_37 rfl mzX7_isThere ml_X11_125 imX7_isThere (by omega) so_195 ⟨rfl, rfl⟩ (cg_shth htv h2 (s := u) (by omega)) (Nat.le_of_ble_eq_true rfl) ⟨Nat.le_refl _, Nat.le_refl _⟩ ?_
        refine mm_if_neB (tgt := 46) dX11_copy_40 (by decide) (fun c40 => ?_) (fun c40 => ?_)
        · have hJqf := (hR2 y (by omega)).1.mp c29
          obtain zf | ⟨qf, hqf, zf⟩ := hp y (by omega)
          · rw [zf] at hJqf; exact absurd (by decide) hJqf
          have hsf : I (196 + 2 * y) 1 = nI qf := ((hR2 y (by omega)).2 hJqf).1.trans zf
          have hJqt := (hR2 u (by omega)).1.mp c40
          obtain zt | ⟨qt, hqt, zt⟩ := hp u (by omega)
          · rw [zt] at hJqt; exact absurd (by decide) hJqt
          have hst : I (196 + 2 * u) 1 = nI qt := ((hR2 u (by omega)).2 hJqt).1.trans zt
          refine mm_aload_n 0 dX11_copy_46 rfl rfl ?_
          refine mm_getr (b := 195) dX11_copy_47 rfl fk_X11_59 rfl so_0 sr_0_8 ?_
          refine mm_iload_n 1 dX11_copy_50 rfl rfl ?_
          refine mm_iload_n 2 dX11_copy_51 rfl rfl ?_
          refine mm_iload 5 dX11_copy_52 rfl ?_
          refine mm_cV3i (dz := d - 1) dX11_copy_54 rfl mzX7_hasPart ml_X11_345 imX7_hasPart (by omega) so_195 ⟨rfl, rfl⟩ (cg_shhp (s := y) (q := qf) (p := p) (m := m) (by omega) hqf hsf (by omega)) (Nat.le_of_ble_eq_true rfl) ⟨Nat.le_refl _, Nat.le_refl _⟩ ?_
          refine mm_if_eqB (tgt := 75) dX11_copy_57 (by decide) (fun c57 => ?_) (fun c57 => ?_)
          · refine mm_ldcw dX11_copy_75 rfl kc_X11_341 ?_
            refine mm_iret dX11_copy_78 rfl ⟨Nat.le_refl _, Nat.le_refl _⟩ ?_
            have e : op_copy J (nI y) p (nI u) a m = (-1000000013, J) := by unfold op_copy; rw [if_neg (by rintro (q | q); exact q c6; exact q c15), vv_nI (by omega), vv_nI (by omega), if_neg (by rintro (q | q); exact hJqf q; exact hJqt q), if_pos (by rw [zf, zt, vv_nI (by omega), vv_nI (by omega)]; first | (rcases Decidable.not_not.mp c57 with q | q | q; exact Or.inl q; exact Or.inr (Or.inl q); exact Or.inr (Or.inr (Or.inr (Or.inl q)))) | (rcases Decidable.not_not.mp c72 with q | q | q; exact Or.inl q; exact Or.inr (Or.inr (Or.inl q)); exact Or.inr (Or.inr (Or.inr (Or.inr q)))))]
            exact hq _ _ ⟨by rw [e], by rw [e]; exact hR, fun _ _ => rfl⟩
          · refine mm_aload_n 0 dX11_copy_60 rfl rfl ?_
            refine mm_getr (b := 195) dX11_copy_61 rfl fk_X11_59 rfl so_0 sr_0_8 ?_
            refine mm_iload_n 3 dX11_copy_64 rfl rfl ?_
            refine mm_iload 4 dX11_copy_65 rfl ?_
            refine mm_iload 5 dX11_copy_67 rfl ?_
            refine mm_cV3i (dz := d - 1) dX11_copy_69 rfl mzX7_hasPart ml_X11_345 imX7_hasPart (by omega) so_195 ⟨rfl, rfl⟩ (cg_shhp (s := u) (q := qt) (p := a) (m := m) (by omega) hqt hst (by omega)) (Nat.le_of_ble_eq_true rfl) ⟨Nat.le_refl _, Nat.le_refl _⟩ ?_
            refine mm_if_neB (tgt := 79) dX11_copy_72 (by decide) (fun c72 => ?_) (fun c72 => ?_)
            · obtain ⟨x, hx, rfl⟩ := vv_ex (x := p) (fun q => c57 (Or.inr (Or.inl q)))
              obtain ⟨j, hj, rfl⟩ := vv_ex (x := m) (fun q => c57 (Or.inl q))
              obtain ⟨v, hv, rfl⟩ := vv_ex (x := a) (fun q => c72 (Or.inr (Or.inl q)))
              have hb1 : x + j ≤ qf := by have q : ¬ qf < vv (nI x) + vv (nI j) := fun z => c57 (Or.inr (Or.inr z)); rw [vv_nI hx, vv_nI hj] at q; omega
              have hb2 : v + j ≤ qt := by have q : ¬ qt < vv (nI v) + vv (nI j) := fun z => c72 (Or.inr (Or.inr z)); rw [vv_nI hv, vv_nI hj] at q; omega
              refine mm_aload_n 0 dX11_copy_79 rfl rfl ?_
              refine mm_getr (b := 195) dX11_copy_80 rfl fk_X11_59 rfl so_0 sr_0_8 ?_
              refine mm_iload_n 1 dX11_copy_83 rfl rfl ?_
              refine mm_iload_n 2 dX11_copy_84 rfl rfl ?_
              refine mm_iload_n 3 dX11_copy_85 rfl rfl ?_
              refine mm_iload 4 dX11_copy_86 rfl ?_
              refine mm_iload 5 dX11_copy_88 rfl ?_
              refine mm_cV5v (dz := d - 1) dX11_copy_90 rfl mzX7_move ml_X11_348 imX7_move (by omega) so_195 ⟨rfl, rfl⟩ (cg_shmv (f := y) (p := x) (t := u) (a := v) (m := j) (by omega) (by omega) (by omega) (by omega) (by omega)) (Nat.le_of_ble_eq_true rfl) ⟨Nat.le_refl _, Nat.le_refl _⟩ ?_
              refine mm_at (pc' := 93) rfl ?_
              refine mm_iload 5 dX11_copy_93 rfl ?_
              refine mm_iret dX11_copy_95 rfl ⟨Nat.le_refl _, Nat.le_refl _⟩ ?_
              have e : op_copy J (nI y) (nI x) (nI u) (nI v) (nI j) = (nI j, mm_cp (mm_cp J 206 213 (80 * y + x) 0 j) 213 206 0 (80 * u + v) j) := by
                unfold op_copy; rw [if_neg (by rintro (q | q); exact q c6; exact q c15), vv_nI (by omega), vv_nI (by omega), vv_nI (by omega), vv_nI (by omega), vv_nI (by omega), if_neg (by rintro (q | q); exact hJqf q; exact hJqt q), zf, zt, vv_nI (by omega), vv_nI (by omega), if_neg (by rintro (q | q | q | q | q); exact nI_pos (by omega) q; exact nI_pos (by omega) q; exact nI_pos (by omega) q; omega; omega)]
              refine hq _ _ ⟨by rw [e], by rw [e]; exact shR_copy hR2 htv h2 hp (by omega) (by omega) zf hqf hqt hb1 hb2, fun b ha => ?_⟩
              funext i; rw [mm_cp_ne (by omega)]
            · refine mm_ldcw dX11_copy_75 rfl kc_X11_341 ?_
              refine mm_iret dX11_copy_78 rfl ⟨Nat.le_refl _, Nat.le_refl _⟩ ?_
              have e : op_copy J (nI y) p (nI u) a m = (-1000000013, J) := by unfold op_copy; rw [if_neg (by rintro (q | q); exact q c6; exact q c15), vv_nI (by omega), vv_nI (by omega), if_neg (by rintro (q | q); exact hJqf q; exact hJqt q), if_pos (by rw [zf, zt, vv_nI (by omega), vv_nI (by omega)]; first | (rcases Decidable.not_not.mp c57 with q | q | q; exact Or.inl q; exact Or.inr (Or.inl q); exact Or.inr (Or.inr (Or.inr (Or.inl q)))) | (rcases Decidable.not_not.mp c72 with q | q | q; exact Or.inl q; exact Or.inr (Or.inr (Or.inl q)); exact Or.inr (Or.inr (Or.inr (Or.inr q)))))]
              exact hq _ _ ⟨by rw [e], by rw [e]; exact hR, fun _ _ => rfl⟩
        · refine mm_ldc dX11_copy_43 rfl kc_X11_128 ?_
          refine mm_iret dX11_copy_45 rfl ⟨Nat.le_refl _, Nat.le_refl _⟩ ?_
          have e : op_copy J (nI y) p (nI u) a m = (-1000000011, J) := by unfold op_copy; rw [if_neg (by rintro (q | q); exact q c6; exact q c15), vv_nI (by omega), vv_nI (by omega), if_pos (by first | exact Or.inl (Decidable.not_not.mp (fun q => c29 ((hR2 y (by omega)).1.mpr q))) | exact Or.inr (Decidable.not_not.mp (fun q => c40 ((hR2 u (by omega)).1.mpr q))))]
          exact hq _ _ ⟨by rw [e], by rw [e]; exact hR, fun _ _ => rfl⟩
    · refine mm_ldc dX11_copy_18 rfl kc_X11_67 ?_
      refine mm_iret dX11_copy_20 rfl ⟨Nat.le_refl _, Nat.le_refl _⟩ ?_
      have e : op_copy J f p t a m = (-1000000001, J) := by unfold op_copy; rw [if_pos (by first | exact Or.inl c6 | exact Or.inr c15)]
      exact hq _ _ ⟨by rw [e], by rw [e]; exact hR, fun _ _ => rfl⟩
