/-! THE CLASS: IMAGES. What was copied: offsets of cells, places from .. to -/
def bcL (L : List (Nat × Nat × Nat)) (x i : Nat) : Bool := L.any (fun q => q.1 == x && (decide (q.2.1 ≤ i) && decide (i < q.2.2)))
def bcK (I : mm_I) (d s : Nat) (L : List (Nat × Nat × Nat)) : mm_I := fun a i => if d ≤ a ∧ a < d + 85 ∧ bcL L (a - d) i = true then I (s + (a - d)) i else I a i
theorem bcL_c {L : List (Nat × Nat × Nat)} {x i y u v : Nat} : bcL ((y, u, v) :: L) x i = true ↔ (y = x ∧ u ≤ i ∧ i < v) ∨ bcL L x i = true := by
  unfold bcL; rw [List.any_cons, Bool.or_eq_true, Bool.and_eq_true, Bool.and_eq_true, beq_iff_eq, decide_eq_true_iff, decide_eq_true_iff]
theorem bcL_r {A B : List (Nat × Nat × Nat)} {x i : Nat} (h : bcL B x i = true) : bcL (A ++ B) x i = true := by
  unfold bcL at *; rw [List.any_append, h, Bool.or_true]
theorem bcL_l {A B : List (Nat × Nat × Nat)} {x i : Nat} (h : bcL A x i = true) : bcL (A ++ B) x i = true := by
  unfold bcL at *; rw [List.any_append, h, Bool.true_or]
theorem bcK_o {I : mm_I} {d s : Nat} {L : List (Nat × Nat × Nat)} {a i : Nat} (h : a < d ∨ d + 85 ≤ a) : bcK I d s L a i = I a i := if_neg (fun q => by have := q.1; have := q.2.1; omega)
theorem bcK_i {I : mm_I} {d s : Nat} {L : List (Nat × Nat × Nat)} {x i : Nat} (hx : x < 85) (h : bcL L x i = true) : bcK I d s L (d + x) i = I (s + x) i := by
  unfold bcK; rw [if_pos ⟨by omega, by omega, by rw [Nat.add_sub_cancel_left]; exact h⟩, Nat.add_sub_cancel_left]
theorem bcK_up {I : mm_I} {d s : Nat} {L : List (Nat × Nat × Nat)} {a x i : Nat} {v : Int32} (ha : a = d + x) (hx : x < 85) (hv : v = I (s + x) i) : mm_up (bcK I d s L) a i v = bcK I d s ((x, i, i + 1) :: L) := by
  subst ha hv
  funext b j
  rw [up_at]
  by_cases e : b = d + x ∧ j = i
  · obtain ⟨rfl, rfl⟩ := e
    rw [if_pos ⟨rfl, rfl⟩, bcK_i hx (bcL_c.mpr (Or.inl ⟨rfl, by omega, by omega⟩))]
  · rw [if_neg e]
    unfold bcK
    by_cases c : d ≤ b ∧ b < d + 85 ∧ bcL L (b - d) j = true
    · rw [if_pos c, if_pos ⟨c.1, c.2.1, bcL_c.mpr (Or.inr c.2.2)⟩]
    · rw [if_neg c, if_neg]
      rintro ⟨q1, q2, q3⟩
      rcases bcL_c.mp q3 with q | q
      · exact e (by omega)
      · exact c ⟨q1, q2, q⟩
theorem bcK_cp {I : mm_I} {d s : Nat} {L : List (Nat × Nat × Nat)} {a b x n : Nat} (ha : a = d + x) (hb : b = s + x) (hx : x < 85) (hds : s + 85 ≤ d ∨ d + 85 ≤ s) : mm_cp (bcK I d s L) b a 0 0 n = bcK I d s ((x, 0, n) :: L) := by
  subst ha hb
  funext c j
  by_cases e : c = d + x
  · subst e
    by_cases hj : j < n
    · rw [mm_cp_in ⟨Nat.zero_le _, by omega⟩, bcK_o (by omega), bcK_i hx (bcL_c.mpr (Or.inl ⟨rfl, Nat.zero_le _, hj⟩))]; congr 1; omega
    · rw [mm_cp_out (by omega)]
      unfold bcK
      rw [Nat.add_sub_cancel_left]
      by_cases c : bcL L x j = true
      · rw [if_pos ⟨by omega, by omega, c⟩, if_pos ⟨by omega, by omega, bcL_c.mpr (Or.inr c)⟩]
      · rw [if_neg (fun q => c q.2.2), if_neg]
        rintro ⟨-, -, q3⟩
        rcases bcL_c.mp q3 with q | q
        · omega
        · exact c q
  · rw [mm_cp_ne e]
    unfold bcK
    by_cases c' : d ≤ c ∧ c < d + 85 ∧ bcL L (c - d) j = true
    · rw [if_pos c', if_pos ⟨c'.1, c'.2.1, bcL_c.mpr (Or.inr c'.2.2)⟩]
    · rw [if_neg c', if_neg]
      rintro ⟨q1, q2, q3⟩
      rcases bcL_c.mp q3 with q | q
      · exact e (by omega)
      · exact c' ⟨q1, q2, q⟩
theorem bcK_rw {I : mm_I} {d s : Nat} {L : List (Nat × Nat × Nat)} {a b x n : Nat} (ha : a = d + x) (hb : b = s + x) (hx : x + 1 < 85) (hds : s + 85 ≤ d ∨ d + 85 ≤ s) : mm_up (mm_cp (bcK I d s L) (b + 1) (a + 1) 0 0 n) a 1 (bcK I d s L b 1) = bcK I d s ((x, 1, 2) :: (x + 1, 0, n) :: L) := by
  rw [bcK_cp (x := x + 1) (by omega) (by omega) hx hds]
  refine bcK_up ha (by omega) ?_
  rw [bcK_o (by omega), hb]
def mcL (m : Nat) : List (Nat × Nat × Nat) := [(36 + 3 * m, 1, 2), (36 + 3 * m + 1, 0, 4), (35 + 3 * m, 7, 8), (35 + 3 * m, 6, 7), (35 + 3 * m, 5, 6), (35 + 3 * m, 4, 5), (35 + 3 * m, 3, 4), (35 + 3 * m, 2, 3), (35 + 3 * m, 1, 2), (35 + 3 * m, 0, 1)]
def mcs : Nat → List (Nat × Nat × Nat)
  | 0 => []
  | i + 1 => mcL i ++ mcs i
def pcL (p : Nat) : List (Nat × Nat × Nat) := [(51 + 5 * p, 2, 3), (54 + 5 * p, 1, 2), (54 + 5 * p + 1, 0, 96), (52 + 5 * p, 1, 2), (52 + 5 * p + 1, 0, 120)]
def pcs : Nat → List (Nat × Nat × Nat)
  | 0 => []
  | i + 1 => pcL i ++ pcs i
def grL : List (Nat × Nat × Nat) := [(1, 8, 9), (1, 7, 8), (10, 1, 2), (10 + 1, 0, 3), (8, 1, 2), (8 + 1, 0, 320), (6, 1, 2), (6 + 1, 0, 80), (4, 1, 2), (4 + 1, 0, 80), (2, 1, 2), (2 + 1, 0, 80), (1, 1, 2), (1, 0, 1)]
def poL : List (Nat × Nat × Nat) := [(19, 1, 2), (19 + 1, 0, 8), (17, 1, 2), (17 + 1, 0, 8), (16, 7, 8), (16, 6, 7), (16, 5, 6), (16, 4, 5), (16, 3, 4), (16, 2, 3), (16, 1, 2), (16, 0, 1)]
def woL : List (Nat × Nat × Nat) := [(28, 1, 2), (28 + 1, 0, 6), (26, 1, 2), (26 + 1, 0, 6), (24, 1, 2), (24 + 1, 0, 6), (22, 1, 2), (22 + 1, 0, 6)]
set_option maxRecDepth 100000 in
set_option maxHeartbeats 600000 in
theorem bg_gr86 {g : mm_G} {d : Nat} {I : mm_I} {L : List (Nat × Nat × Nat)} (hd : 3 ≤ d) : mm_Cv g zX0_become d [.ref 87, .ref 2] sh_S (bcK I 86 1 L) (bcK I 86 1 (grL ++ L)) := by
  refine mm_Cv_of (fun Q hq => ?_)
  refine mm_begin (ls := [(0, .ref 87), (1, .ref 2)]) (Nat.le_of_ble_eq_true rfl) rfl rfl ?_
  refine mm_aload_n 0 dX0_become_0 rfl rfl ?_
  refine mm_aload_n 1 dX0_become_1 rfl rfl ?_
  refine mm_geti dX0_become_2 rfl fk_X0_42 rfl so_2 ?_
  refine mm_top (v := I 2 0) (bcK_o (by omega)) ?_
  refine mm_puti dX0_become_5 rfl fk_X0_42 rfl fv_0_0 so_87 ?_
  refine mm_mem (J := bcK I 86 1 ((1, 0, 1) :: L)) (bcK_up (x := 1) (by omega) (by omega) (by first | rfl | (congr 1; omega))) ?_
  refine mm_aload_n 0 dX0_become_8 rfl rfl ?_
  refine mm_aload_n 1 dX0_become_9 rfl rfl ?_
  refine mm_geti dX0_become_10 rfl fk_X0_46 rfl so_2 ?_
  refine mm_top (v := I 2 1) (bcK_o (by omega)) ?_
  refine mm_puti dX0_become_13 rfl fk_X0_46 rfl fv_0_1 so_87 ?_
  refine mm_at (pc' := 16) rfl ?_
  refine mm_mem (J := bcK I 86 1 ((1, 1, 2) :: ((1, 0, 1) :: L))) (bcK_up (x := 1) (by omega) (by omega) (by first | rfl | (congr 1; omega))) ?_
  refine mm_aload_n 0 dX0_become_16 rfl rfl ?_
  refine mm_getr (b := 88) dX0_become_17 rfl fk_X0_14 rfl so_87 sr_87_2 ?_
  refine mm_aload_n 1 dX0_become_20 rfl rfl ?_
  refine mm_getr (b := 3) dX0_become_21 rfl fk_X0_14 rfl so_2 sr_2_2 ?_
  refine mm_cV1v (dz := d - 1) dX0_become_24 rfl mzX5_become ml_X0_65 imX5_become (by omega) so_88 ⟨rfl, rfl⟩ (ct_become rw_88 rw_3 (by omega) (by omega)) (Nat.le_of_ble_eq_true rfl) ⟨Nat.le_refl _, Nat.le_refl _⟩ ?_
  refine mm_mem (J := bcK I 86 1 ((2, 1, 2) :: (2 + 1, 0, 80) :: ((1, 1, 2) :: ((1, 0, 1) :: L)))) (bcK_rw (x := 2) (by omega) (by omega) (by omega) (by omega)) ?_
  refine mm_aload_n 0 dX0_become_27 rfl rfl ?_
  refine mm_getr (b := 90) dX0_become_28 rfl fk_X0_20 rfl so_87 sr_87_3 ?_
  refine mm_aload_n 1 dX0_become_31 rfl rfl ?_
  refine mm_at (pc' := 32) rfl ?_
  refine mm_getr (b := 5) dX0_become_32 rfl fk_X0_20 rfl so_2 sr_2_3 ?_
  refine mm_cV1v (dz := d - 1) dX0_become_35 rfl mzX5_become ml_X0_65 imX5_become (by omega) so_90 ⟨rfl, rfl⟩ (ct_become rw_90 rw_5 (by omega) (by omega)) (Nat.le_of_ble_eq_true rfl) ⟨Nat.le_refl _, Nat.le_refl _⟩ ?_
  refine mm_mem (J := bcK I 86 1 ((4, 1, 2) :: (4 + 1, 0, 80) :: ((2, 1, 2) :: (2 + 1, 0, 80) :: ((1, 1, 2) :: ((1, 0, 1) :: L))))) (bcK_rw (x := 4) (by omega) (by omega) (by omega) (by omega)) ?_
  refine mm_aload_n 0 dX0_become_38 rfl rfl ?_
  refine mm_getr (b := 92) dX0_become_39 rfl fk_X0_23 rfl so_87 sr_87_4 ?_
  refine mm_aload_n 1 dX0_become_42 rfl rfl ?_
  refine mm_getr (b := 7) dX0_become_43 rfl fk_X0_23 rfl so_2 sr_2_4 ?_
  refine mm_cV1v (dz := d - 1) dX0_become_46 rfl mzX5_become ml_X0_65 imX5_become (by omega) so_92 ⟨rfl, rfl⟩ (ct_become rw_92 rw_7 (by omega) (by omega)) (Nat.le_of_ble_eq_true rfl) ⟨Nat.le_refl _, Nat.le_refl _⟩ ?_
  refine mm_mem (J := bcK I 86 1 ((6, 1, 2) :: (6 + 1, 0, 80) :: ((4, 1, 2) :: (4 + 1, 0, 80) :: ((2, 1, 2) :: (2 + 1, 0, 80) :: ((1, 1, 2) :: ((1, 0, 1) :: L)))))) (bcK_rw (x := 6) (by omega) (by omega) (by omega) (by omega)) ?_
  refine mm_aload_n 0 dX0_become_49 rfl rfl ?_
  refine mm_at (pc' := 50) rfl ?_
  refine mm_getr (b := 94) dX0_become_50 rfl fk_X0_26 rfl so_87 sr_87_5 ?_
  refine mm_aload_n 1 dX0_become_53 rfl rfl ?_
  refine mm_getr (b := 9) dX0_become_54 rfl fk_X0_26 rfl so_2 sr_2_5 ?_
  refine mm_cV1v (dz := d - 1) dX0_become_57 rfl mzX5_become ml_X0_65 imX5_become (by omega) so_94 ⟨rfl, rfl⟩ (ct_become rw_94 rw_9 (by omega) (by omega)) (Nat.le_of_ble_eq_true rfl) ⟨Nat.le_refl _, Nat.le_refl _⟩ ?_
  refine mm_mem (J := bcK I 86 1 ((8, 1, 2) :: (8 + 1, 0, 320) :: ((6, 1, 2) :: (6 + 1, 0, 80) :: ((4, 1, 2) :: (4 + 1, 0, 80) :: ((2, 1, 2) :: (2 + 1, 0, 80) :: ((1, 1, 2) :: ((1, 0, 1) :: L))))))) (bcK_rw (x := 8) (by omega) (by omega) (by omega) (by omega)) ?_
  refine mm_aload_n 0 dX0_become_60 rfl rfl ?_
  refine mm_getr (b := 96) dX0_become_61 rfl fk_X0_29 rfl so_87 sr_87_6 ?_
  refine mm_aload_n 1 dX0_become_64 rfl rfl ?_
  refine mm_getr (b := 11) dX0_become_65 rfl fk_X0_29 rfl so_2 sr_2_6 ?_
  refine mm_at (pc' := 68) rfl ?_
  refine mm_cV1v (dz := d - 1) dX0_become_68 rfl mzX5_become ml_X0_65 imX5_become (by omega) so_96 ⟨rfl, rfl⟩ (ct_become rw_96 rw_11 (by omega) (by omega)) (Nat.le_of_ble_eq_true rfl) ⟨Nat.le_refl _, Nat.le_refl _⟩ ?_
  refine mm_mem (J := bcK I 86 1 ((10, 1, 2) :: (10 + 1, 0, 3) :: ((8, 1, 2) :: (8 + 1, 0, 320) :: ((6, 1, 2) :: (6 + 1, 0, 80) :: ((4, 1, 2) :: (4 + 1, 0, 80) :: ((2, 1, 2) :: (2 + 1, 0, 80) :: ((1, 1, 2) :: ((1, 0, 1) :: L)))))))) (bcK_rw (x := 10) (by omega) (by omega) (by omega) (by omega)) ?_
  refine mm_aload_n 0 dX0_become_71 rfl rfl ?_
  refine mm_aload_n 1 dX0_become_72 rfl rfl ?_
  refine mm_geti dX0_become_73 rfl fk_X0_59 rfl so_2 ?_
  refine mm_top (v := I 2 7) (bcK_o (by omega)) ?_
  refine mm_puti dX0_become_76 rfl fk_X0_59 rfl fv_0_7 so_87 ?_
  refine mm_mem (J := bcK I 86 1 ((1, 7, 8) :: ((10, 1, 2) :: (10 + 1, 0, 3) :: ((8, 1, 2) :: (8 + 1, 0, 320) :: ((6, 1, 2) :: (6 + 1, 0, 80) :: ((4, 1, 2) :: (4 + 1, 0, 80) :: ((2, 1, 2) :: (2 + 1, 0, 80) :: ((1, 1, 2) :: ((1, 0, 1) :: L))))))))) (bcK_up (x := 1) (by omega) (by omega) (by first | rfl | (congr 1; omega))) ?_
  refine mm_aload_n 0 dX0_become_79 rfl rfl ?_
  refine mm_aload_n 1 dX0_become_80 rfl rfl ?_
  refine mm_geti dX0_become_81 rfl fk_X0_62 rfl so_2 ?_
  refine mm_at (pc' := 84) rfl ?_
  refine mm_top (v := I 2 8) (bcK_o (by omega)) ?_
  refine mm_puti dX0_become_84 rfl fk_X0_62 rfl fv_0_8 so_87 ?_
  refine mm_mem (J := bcK I 86 1 ((1, 8, 9) :: ((1, 7, 8) :: ((10, 1, 2) :: (10 + 1, 0, 3) :: ((8, 1, 2) :: (8 + 1, 0, 320) :: ((6, 1, 2) :: (6 + 1, 0, 80) :: ((4, 1, 2) :: (4 + 1, 0, 80) :: ((2, 1, 2) :: (2 + 1, 0, 80) :: ((1, 1, 2) :: ((1, 0, 1) :: L)))))))))) (bcK_up (x := 1) (by omega) (by omega) (by first | rfl | (congr 1; omega))) ?_
  refine mm_vret dX0_become_87 rfl ⟨Nat.le_refl _, Nat.le_refl _⟩ ?_
  exact hq
set_option maxRecDepth 100000 in
set_option maxHeartbeats 600000 in
theorem bg_po86 {g : mm_G} {d : Nat} {I : mm_I} {L : List (Nat × Nat × Nat)} (hd : 3 ≤ d) : mm_Cv g zX3_become d [.ref 102, .ref 17] sh_S (bcK I 86 1 L) (bcK I 86 1 (poL ++ L)) := by
  refine mm_Cv_of (fun Q hq => ?_)
  refine mm_begin (ls := [(0, .ref 102), (1, .ref 17)]) (Nat.le_of_ble_eq_true rfl) rfl rfl ?_
  refine mm_aload_n 0 dX3_become_0 rfl rfl ?_
  refine mm_aload_n 1 dX3_become_1 rfl rfl ?_
  refine mm_geti dX3_become_2 rfl fk_X3_23 rfl so_17 ?_
  refine mm_top (v := I 17 0) (bcK_o (by omega)) ?_
  refine mm_puti dX3_become_5 rfl fk_X3_23 rfl fv_3_0 so_102 ?_
  refine mm_mem (J := bcK I 86 1 ((16, 0, 1) :: L)) (bcK_up (x := 16) (by omega) (by omega) (by first | rfl | (congr 1; omega))) ?_
  refine mm_aload_n 0 dX3_become_8 rfl rfl ?_
  refine mm_aload_n 1 dX3_become_9 rfl rfl ?_
  refine mm_geti dX3_become_10 rfl fk_X3_27 rfl so_17 ?_
  refine mm_top (v := I 17 1) (bcK_o (by omega)) ?_
  refine mm_puti dX3_become_13 rfl fk_X3_27 rfl fv_3_1 so_102 ?_
  refine mm_at (pc' := 16) rfl ?_
  refine mm_mem (J := bcK I 86 1 ((16, 1, 2) :: ((16, 0, 1) :: L))) (bcK_up (x := 16) (by omega) (by omega) (by first | rfl | (congr 1; omega))) ?_
  refine mm_aload_n 0 dX3_become_16 rfl rfl ?_
  refine mm_aload_n 1 dX3_become_17 rfl rfl ?_
  refine mm_geti dX3_become_18 rfl fk_X3_30 rfl so_17 ?_
  refine mm_top (v := I 17 2) (bcK_o (by omega)) ?_
  refine mm_puti dX3_become_21 rfl fk_X3_30 rfl fv_3_2 so_102 ?_
  refine mm_mem (J := bcK I 86 1 ((16, 2, 3) :: ((16, 1, 2) :: ((16, 0, 1) :: L)))) (bcK_up (x := 16) (by omega) (by omega) (by first | rfl | (congr 1; omega))) ?_
  refine mm_aload_n 0 dX3_become_24 rfl rfl ?_
  refine mm_aload_n 1 dX3_become_25 rfl rfl ?_
  refine mm_geti dX3_become_26 rfl fk_X3_33 rfl so_17 ?_
  refine mm_top (v := I 17 3) (bcK_o (by omega)) ?_
  refine mm_puti dX3_become_29 rfl fk_X3_33 rfl fv_3_3 so_102 ?_
  refine mm_at (pc' := 32) rfl ?_
  refine mm_mem (J := bcK I 86 1 ((16, 3, 4) :: ((16, 2, 3) :: ((16, 1, 2) :: ((16, 0, 1) :: L))))) (bcK_up (x := 16) (by omega) (by omega) (by first | rfl | (congr 1; omega))) ?_
  refine mm_aload_n 0 dX3_become_32 rfl rfl ?_
  refine mm_aload_n 1 dX3_become_33 rfl rfl ?_
  refine mm_geti dX3_become_34 rfl fk_X3_36 rfl so_17 ?_
  refine mm_top (v := I 17 4) (bcK_o (by omega)) ?_
  refine mm_puti dX3_become_37 rfl fk_X3_36 rfl fv_3_4 so_102 ?_
  refine mm_mem (J := bcK I 86 1 ((16, 4, 5) :: ((16, 3, 4) :: ((16, 2, 3) :: ((16, 1, 2) :: ((16, 0, 1) :: L)))))) (bcK_up (x := 16) (by omega) (by omega) (by first | rfl | (congr 1; omega))) ?_
  refine mm_aload_n 0 dX3_become_40 rfl rfl ?_
  refine mm_aload_n 1 dX3_become_41 rfl rfl ?_
  refine mm_geti dX3_become_42 rfl fk_X3_39 rfl so_17 ?_
  refine mm_top (v := I 17 5) (bcK_o (by omega)) ?_
  refine mm_puti dX3_become_45 rfl fk_X3_39 rfl fv_3_5 so_102 ?_
  refine mm_at (pc' := 48) rfl ?_
  refine mm_mem (J := bcK I 86 1 ((16, 5, 6) :: ((16, 4, 5) :: ((16, 3, 4) :: ((16, 2, 3) :: ((16, 1, 2) :: ((16, 0, 1) :: L))))))) (bcK_up (x := 16) (by omega) (by omega) (by first | rfl | (congr 1; omega))) ?_
  refine mm_aload_n 0 dX3_become_48 rfl rfl ?_
  refine mm_aload_n 1 dX3_become_49 rfl rfl ?_
  refine mm_geti dX3_become_50 rfl fk_X3_42 rfl so_17 ?_
  refine mm_top (v := I 17 6) (bcK_o (by omega)) ?_
  refine mm_puti dX3_become_53 rfl fk_X3_42 rfl fv_3_6 so_102 ?_
  refine mm_mem (J := bcK I 86 1 ((16, 6, 7) :: ((16, 5, 6) :: ((16, 4, 5) :: ((16, 3, 4) :: ((16, 2, 3) :: ((16, 1, 2) :: ((16, 0, 1) :: L)))))))) (bcK_up (x := 16) (by omega) (by omega) (by first | rfl | (congr 1; omega))) ?_
  refine mm_aload_n 0 dX3_become_56 rfl rfl ?_
  refine mm_aload_n 1 dX3_become_57 rfl rfl ?_
  refine mm_geti dX3_become_58 rfl fk_X3_45 rfl so_17 ?_
  refine mm_top (v := I 17 7) (bcK_o (by omega)) ?_
  refine mm_puti dX3_become_61 rfl fk_X3_45 rfl fv_3_7 so_102 ?_
  refine mm_at (pc' := 64) rfl ?_
  refine mm_mem (J := bcK I 86 1 ((16, 7, 8) :: ((16, 6, 7) :: ((16, 5, 6) :: ((16, 4, 5) :: ((16, 3, 4) :: ((16, 2, 3) :: ((16, 1, 2) :: ((16, 0, 1) :: L))))))))) (bcK_up (x := 16) (by omega) (by omega) (by first | rfl | (congr 1; omega))) ?_
  refine mm_aload_n 0 dX3_become_64 rfl rfl ?_
  refine mm_getr (b := 103) dX3_become_65 rfl fk_X3_14 rfl so_102 sr_102_8 ?_
  refine mm_aload_n 1 dX3_become_68 rfl rfl ?_
  refine mm_getr (b := 18) dX3_become_69 rfl fk_X3_14 rfl so_17 sr_17_8 ?_
  refine mm_cV1v (dz := d - 1) dX3_become_72 rfl mzX5_become ml_X3_48 imX5_become (by omega) so_103 ⟨rfl, rfl⟩ (ct_become rw_103 rw_18 (by omega) (by omega)) (Nat.le_of_ble_eq_true rfl) ⟨Nat.le_refl _, Nat.le_refl _⟩ ?_
  refine mm_mem (J := bcK I 86 1 ((17, 1, 2) :: (17 + 1, 0, 8) :: ((16, 7, 8) :: ((16, 6, 7) :: ((16, 5, 6) :: ((16, 4, 5) :: ((16, 3, 4) :: ((16, 2, 3) :: ((16, 1, 2) :: ((16, 0, 1) :: L)))))))))) (bcK_rw (x := 17) (by omega) (by omega) (by omega) (by omega)) ?_
  refine mm_aload_n 0 dX3_become_75 rfl rfl ?_
  refine mm_getr (b := 105) dX3_become_76 rfl fk_X3_20 rfl so_102 sr_102_9 ?_
  refine mm_aload_n 1 dX3_become_79 rfl rfl ?_
  refine mm_at (pc' := 80) rfl ?_
  refine mm_getr (b := 20) dX3_become_80 rfl fk_X3_20 rfl so_17 sr_17_9 ?_
  refine mm_cV1v (dz := d - 1) dX3_become_83 rfl mzX5_become ml_X3_48 imX5_become (by omega) so_105 ⟨rfl, rfl⟩ (ct_become rw_105 rw_20 (by omega) (by omega)) (Nat.le_of_ble_eq_true rfl) ⟨Nat.le_refl _, Nat.le_refl _⟩ ?_
  refine mm_mem (J := bcK I 86 1 ((19, 1, 2) :: (19 + 1, 0, 8) :: ((17, 1, 2) :: (17 + 1, 0, 8) :: ((16, 7, 8) :: ((16, 6, 7) :: ((16, 5, 6) :: ((16, 4, 5) :: ((16, 3, 4) :: ((16, 2, 3) :: ((16, 1, 2) :: ((16, 0, 1) :: L))))))))))) (bcK_rw (x := 19) (by omega) (by omega) (by omega) (by omega)) ?_
  refine mm_vret dX3_become_86 rfl ⟨Nat.le_refl _, Nat.le_refl _⟩ ?_
  exact hq
set_option maxRecDepth 100000 in
set_option maxHeartbeats 600000 in
theorem bg_wo86 {g : mm_G} {d : Nat} {I : mm_I} {L : List (Nat × Nat × Nat)} (hd : 3 ≤ d) : mm_Cv g zX10_become d [.ref 107, .ref 22] sh_S (bcK I 86 1 L) (bcK I 86 1 (woL ++ L)) := by
  refine mm_Cv_of (fun Q hq => ?_)
  refine mm_begin (ls := [(0, .ref 107), (1, .ref 22)]) (Nat.le_of_ble_eq_true rfl) rfl rfl ?_
  refine mm_aload_n 0 dX10_become_0 rfl rfl ?_
  refine mm_getr (b := 108) dX10_become_1 rfl fk_X10_14 rfl so_107 sr_107_0 ?_
  refine mm_aload_n 1 dX10_become_4 rfl rfl ?_
  refine mm_getr (b := 23) dX10_become_5 rfl fk_X10_14 rfl so_22 sr_22_0 ?_
  refine mm_cV1v (dz := d - 1) dX10_become_8 rfl mzX5_become ml_X10_35 imX5_become (by omega) so_108 ⟨rfl, rfl⟩ (ct_become rw_108 rw_23 (by omega) (by omega)) (Nat.le_of_ble_eq_true rfl) ⟨Nat.le_refl _, Nat.le_refl _⟩ ?_
  refine mm_mem (J := bcK I 86 1 ((22, 1, 2) :: (22 + 1, 0, 6) :: L)) (bcK_rw (x := 22) (by omega) (by omega) (by omega) (by omega)) ?_
  refine mm_aload_n 0 dX10_become_11 rfl rfl ?_
  refine mm_getr (b := 110) dX10_become_12 rfl fk_X10_20 rfl so_107 sr_107_1 ?_
  refine mm_aload_n 1 dX10_become_15 rfl rfl ?_
  refine mm_at (pc' := 16) rfl ?_
  refine mm_getr (b := 25) dX10_become_16 rfl fk_X10_20 rfl so_22 sr_22_1 ?_
  refine mm_cV1v (dz := d - 1) dX10_become_19 rfl mzX5_become ml_X10_35 imX5_become (by omega) so_110 ⟨rfl, rfl⟩ (ct_become rw_110 rw_25 (by omega) (by omega)) (Nat.le_of_ble_eq_true rfl) ⟨Nat.le_refl _, Nat.le_refl _⟩ ?_
  refine mm_mem (J := bcK I 86 1 ((24, 1, 2) :: (24 + 1, 0, 6) :: ((22, 1, 2) :: (22 + 1, 0, 6) :: L))) (bcK_rw (x := 24) (by omega) (by omega) (by omega) (by omega)) ?_
  refine mm_aload_n 0 dX10_become_22 rfl rfl ?_
  refine mm_getr (b := 112) dX10_become_23 rfl fk_X10_23 rfl so_107 sr_107_2 ?_
  refine mm_aload_n 1 dX10_become_26 rfl rfl ?_
  refine mm_getr (b := 27) dX10_become_27 rfl fk_X10_23 rfl so_22 sr_22_2 ?_
  refine mm_cV1v (dz := d - 1) dX10_become_30 rfl mzX5_become ml_X10_35 imX5_become (by omega) so_112 ⟨rfl, rfl⟩ (ct_become rw_112 rw_27 (by omega) (by omega)) (Nat.le_of_ble_eq_true rfl) ⟨Nat.le_refl _, Nat.le_refl _⟩ ?_
  refine mm_mem (J := bcK I 86 1 ((26, 1, 2) :: (26 + 1, 0, 6) :: ((24, 1, 2) :: (24 + 1, 0, 6) :: ((22, 1, 2) :: (22 + 1, 0, 6) :: L)))) (bcK_rw (x := 26) (by omega) (by omega) (by omega) (by omega)) ?_
  refine mm_aload_n 0 dX10_become_33 rfl rfl ?_
  refine mm_at (pc' := 34) rfl ?_
  refine mm_getr (b := 114) dX10_become_34 rfl fk_X10_26 rfl so_107 sr_107_3 ?_
  refine mm_aload_n 1 dX10_become_37 rfl rfl ?_
  refine mm_getr (b := 29) dX10_become_38 rfl fk_X10_26 rfl so_22 sr_22_3 ?_
  refine mm_cV1v (dz := d - 1) dX10_become_41 rfl mzX5_become ml_X10_35 imX5_become (by omega) so_114 ⟨rfl, rfl⟩ (ct_become rw_114 rw_29 (by omega) (by omega)) (Nat.le_of_ble_eq_true rfl) ⟨Nat.le_refl _, Nat.le_refl _⟩ ?_
  refine mm_mem (J := bcK I 86 1 ((28, 1, 2) :: (28 + 1, 0, 6) :: ((26, 1, 2) :: (26 + 1, 0, 6) :: ((24, 1, 2) :: (24 + 1, 0, 6) :: ((22, 1, 2) :: (22 + 1, 0, 6) :: L))))) (bcK_rw (x := 28) (by omega) (by omega) (by omega) (by omega)) ?_
  refine mm_vret dX10_become_44 rfl ⟨Nat.le_refl _, Nat.le_refl _⟩ ?_
  exact hq
set_option maxRecDepth 100000 in
set_option maxHeartbeats 600000 in
theorem bg_ma86 {g : mm_G} {d : Nat} {I : mm_I} {L : List (Nat × Nat × Nat)} {m : Nat} (hm : m < 5) (hd : 3 ≤ d) : mm_Cv g zX1_become d [.ref (121 + 3 * m), .ref (36 + 3 * m)] sh_S (bcK I 86 1 L) (bcK I 86 1 (mcL m ++ L)) := by
  refine mm_Cv_of (fun Q hq => ?_)
  refine mm_begin (ls := [(0, .ref (121 + 3 * m)), (1, .ref (36 + 3 * m))]) (Nat.le_of_ble_eq_true rfl) rfl rfl ?_
  refine mm_aload_n 0 dX1_become_0 rfl rfl ?_
  refine mm_aload_n 1 dX1_become_1 rfl rfl ?_
  refine mm_geti dX1_become_2 rfl fk_X1_26 rfl (sm_1 hm).1 ?_
  refine mm_top (v := I (36 + 3 * m) 0) (bcK_o (by omega)) ?_
  refine mm_puti dX1_become_5 rfl fk_X1_26 rfl fv_1_0 (sm_86 hm).1 ?_
  refine mm_mem (J := bcK I 86 1 ((35 + 3 * m, 0, 1) :: L)) (bcK_up (x := 35 + 3 * m) (by omega) (by omega) (by first | rfl | (congr 1; omega))) ?_
  refine mm_aload_n 0 dX1_become_8 rfl rfl ?_
  refine mm_aload_n 1 dX1_become_9 rfl rfl ?_
  refine mm_geti dX1_become_10 rfl fk_X1_30 rfl (sm_1 hm).1 ?_
  refine mm_top (v := I (36 + 3 * m) 1) (bcK_o (by omega)) ?_
  refine mm_puti dX1_become_13 rfl fk_X1_30 rfl fv_1_1 (sm_86 hm).1 ?_
  refine mm_at (pc' := 16) rfl ?_
  refine mm_mem (J := bcK I 86 1 ((35 + 3 * m, 1, 2) :: ((35 + 3 * m, 0, 1) :: L))) (bcK_up (x := 35 + 3 * m) (by omega) (by omega) (by first | rfl | (congr 1; omega))) ?_
  refine mm_aload_n 0 dX1_become_16 rfl rfl ?_
  refine mm_aload_n 1 dX1_become_17 rfl rfl ?_
  refine mm_geti dX1_become_18 rfl fk_X1_33 rfl (sm_1 hm).1 ?_
  refine mm_top (v := I (36 + 3 * m) 2) (bcK_o (by omega)) ?_
  refine mm_puti dX1_become_21 rfl fk_X1_33 rfl fv_1_2 (sm_86 hm).1 ?_
  refine mm_mem (J := bcK I 86 1 ((35 + 3 * m, 2, 3) :: ((35 + 3 * m, 1, 2) :: ((35 + 3 * m, 0, 1) :: L)))) (bcK_up (x := 35 + 3 * m) (by omega) (by omega) (by first | rfl | (congr 1; omega))) ?_
  refine mm_aload_n 0 dX1_become_24 rfl rfl ?_
  refine mm_aload_n 1 dX1_become_25 rfl rfl ?_
  refine mm_geti dX1_become_26 rfl fk_X1_36 rfl (sm_1 hm).1 ?_
  refine mm_top (v := I (36 + 3 * m) 3) (bcK_o (by omega)) ?_
  refine mm_puti dX1_become_29 rfl fk_X1_36 rfl fv_1_3 (sm_86 hm).1 ?_
  refine mm_at (pc' := 32) rfl ?_
  refine mm_mem (J := bcK I 86 1 ((35 + 3 * m, 3, 4) :: ((35 + 3 * m, 2, 3) :: ((35 + 3 * m, 1, 2) :: ((35 + 3 * m, 0, 1) :: L))))) (bcK_up (x := 35 + 3 * m) (by omega) (by omega) (by first | rfl | (congr 1; omega))) ?_
  refine mm_aload_n 0 dX1_become_32 rfl rfl ?_
  refine mm_aload_n 1 dX1_become_33 rfl rfl ?_
  refine mm_geti dX1_become_34 rfl fk_X1_39 rfl (sm_1 hm).1 ?_
  refine mm_top (v := I (36 + 3 * m) 4) (bcK_o (by omega)) ?_
  refine mm_puti dX1_become_37 rfl fk_X1_39 rfl fv_1_4 (sm_86 hm).1 ?_
  refine mm_mem (J := bcK I 86 1 ((35 + 3 * m, 4, 5) :: ((35 + 3 * m, 3, 4) :: ((35 + 3 * m, 2, 3) :: ((35 + 3 * m, 1, 2) :: ((35 + 3 * m, 0, 1) :: L)))))) (bcK_up (x := 35 + 3 * m) (by omega) (by omega) (by first | rfl | (congr 1; omega))) ?_
  refine mm_aload_n 0 dX1_become_40 rfl rfl ?_
  refine mm_aload_n 1 dX1_become_41 rfl rfl ?_
  refine mm_geti dX1_become_42 rfl fk_X1_42 rfl (sm_1 hm).1 ?_
  refine mm_top (v := I (36 + 3 * m) 5) (bcK_o (by omega)) ?_
  refine mm_puti dX1_become_45 rfl fk_X1_42 rfl fv_1_5 (sm_86 hm).1 ?_
  refine mm_at (pc' := 48) rfl ?_
  refine mm_mem (J := bcK I 86 1 ((35 + 3 * m, 5, 6) :: ((35 + 3 * m, 4, 5) :: ((35 + 3 * m, 3, 4) :: ((35 + 3 * m, 2, 3) :: ((35 + 3 * m, 1, 2) :: ((35 + 3 * m, 0, 1) :: L))))))) (bcK_up (x := 35 + 3 * m) (by omega) (by omega) (by first | rfl | (congr 1; omega))) ?_
  refine mm_aload_n 0 dX1_become_48 rfl rfl ?_
  refine mm_aload_n 1 dX1_become_49 rfl rfl ?_
  refine mm_geti dX1_become_50 rfl fk_X1_48 rfl (sm_1 hm).1 ?_
  refine mm_top (v := I (36 + 3 * m) 6) (bcK_o (by omega)) ?_
  refine mm_puti dX1_become_53 rfl fk_X1_48 rfl fv_1_6 (sm_86 hm).1 ?_
  refine mm_mem (J := bcK I 86 1 ((35 + 3 * m, 6, 7) :: ((35 + 3 * m, 5, 6) :: ((35 + 3 * m, 4, 5) :: ((35 + 3 * m, 3, 4) :: ((35 + 3 * m, 2, 3) :: ((35 + 3 * m, 1, 2) :: ((35 + 3 * m, 0, 1) :: L)))))))) (bcK_up (x := 35 + 3 * m) (by omega) (by omega) (by first | rfl | (congr 1; omega))) ?_
  refine mm_aload_n 0 dX1_become_56 rfl rfl ?_
  refine mm_aload_n 1 dX1_become_57 rfl rfl ?_
  refine mm_geti dX1_become_58 rfl fk_X1_51 rfl (sm_1 hm).1 ?_
  refine mm_top (v := I (36 + 3 * m) 7) (bcK_o (by omega)) ?_
  refine mm_puti dX1_become_61 rfl fk_X1_51 rfl fv_1_7 (sm_86 hm).1 ?_
  refine mm_at (pc' := 64) rfl ?_
  refine mm_mem (J := bcK I 86 1 ((35 + 3 * m, 7, 8) :: ((35 + 3 * m, 6, 7) :: ((35 + 3 * m, 5, 6) :: ((35 + 3 * m, 4, 5) :: ((35 + 3 * m, 3, 4) :: ((35 + 3 * m, 2, 3) :: ((35 + 3 * m, 1, 2) :: ((35 + 3 * m, 0, 1) :: L))))))))) (bcK_up (x := 35 + 3 * m) (by omega) (by omega) (by first | rfl | (congr 1; omega))) ?_
  refine mm_aload_n 0 dX1_become_64 rfl rfl ?_
  refine mm_getr (b := 122 + 3 * m) dX1_become_65 rfl fk_X1_16 rfl (sm_86 hm).1 (sm_86 hm).2.1 ?_
  refine mm_aload_n 1 dX1_become_68 rfl rfl ?_
  refine mm_getr (b := 37 + 3 * m) dX1_become_69 rfl fk_X1_16 rfl (sm_1 hm).1 (sm_1 hm).2.1 ?_
  refine mm_cV1v (dz := d - 1) dX1_become_72 rfl mzX5_become ml_X1_54 imX5_become (by omega) (sm_86 hm).2.2.1.1 ⟨rfl, rfl⟩ (ct_become (sm_86 hm).2.2.1 (sm_1 hm).2.2.1 (by omega) (by omega)) (Nat.le_of_ble_eq_true rfl) ⟨Nat.le_refl _, Nat.le_refl _⟩ ?_
  refine mm_mem (J := bcK I 86 1 ((36 + 3 * m, 1, 2) :: (36 + 3 * m + 1, 0, 4) :: ((35 + 3 * m, 7, 8) :: ((35 + 3 * m, 6, 7) :: ((35 + 3 * m, 5, 6) :: ((35 + 3 * m, 4, 5) :: ((35 + 3 * m, 3, 4) :: ((35 + 3 * m, 2, 3) :: ((35 + 3 * m, 1, 2) :: ((35 + 3 * m, 0, 1) :: L)))))))))) (bcK_rw (x := 36 + 3 * m) (by omega) (by omega) (by omega) (by omega)) ?_
  refine mm_vret dX1_become_75 rfl ⟨Nat.le_refl _, Nat.le_refl _⟩ ?_
  exact hq
set_option maxRecDepth 100000 in
set_option maxHeartbeats 600000 in
theorem bg_pr86 {g : mm_G} {d : Nat} {I : mm_I} {L : List (Nat × Nat × Nat)} {p : Nat} (hp : p < 6) (hd : 3 ≤ d) : mm_Cv g zX4_become d [.ref (137 + 5 * p), .ref (52 + 5 * p)] sh_S (bcK I 86 1 L) (bcK I 86 1 (pcL p ++ L)) := by
  refine mm_Cv_of (fun Q hq => ?_)
  refine mm_begin (ls := [(0, .ref (137 + 5 * p)), (1, .ref (52 + 5 * p))]) (Nat.le_of_ble_eq_true rfl) rfl rfl ?_
  refine mm_aload_n 0 dX4_become_0 rfl rfl ?_
  refine mm_getr (b := 138 + 5 * p) dX4_become_1 rfl fk_X4_16 rfl (sp_86 hp).1 (sp_86 hp).2.1 ?_
  refine mm_aload_n 1 dX4_become_4 rfl rfl ?_
  refine mm_getr (b := 53 + 5 * p) dX4_become_5 rfl fk_X4_16 rfl (sp_1 hp).1 (sp_1 hp).2.1 ?_
  refine mm_cV1v (dz := d - 1) dX4_become_8 rfl mzX5_become ml_X4_30 imX5_become (by omega) (sp_86 hp).2.2.1.1 ⟨rfl, rfl⟩ (ct_become (sp_86 hp).2.2.1 (sp_1 hp).2.2.1 (by omega) (by omega)) (Nat.le_of_ble_eq_true rfl) ⟨Nat.le_refl _, Nat.le_refl _⟩ ?_
  refine mm_mem (J := bcK I 86 1 ((52 + 5 * p, 1, 2) :: (52 + 5 * p + 1, 0, 120) :: L)) (bcK_rw (x := 52 + 5 * p) (by omega) (by omega) (by omega) (by omega)) ?_
  refine mm_aload_n 0 dX4_become_11 rfl rfl ?_
  refine mm_getr (b := 140 + 5 * p) dX4_become_12 rfl fk_X4_20 rfl (sp_86 hp).1 (sp_86 hp).2.2.2.1 ?_
  refine mm_aload_n 1 dX4_become_15 rfl rfl ?_
  refine mm_at (pc' := 16) rfl ?_
  refine mm_getr (b := 55 + 5 * p) dX4_become_16 rfl fk_X4_20 rfl (sp_1 hp).1 (sp_1 hp).2.2.2.1 ?_
  refine mm_cV1v (dz := d - 1) dX4_become_19 rfl mzX5_become ml_X4_30 imX5_become (by omega) (sp_86 hp).2.2.2.2.1.1 ⟨rfl, rfl⟩ (ct_become (sp_86 hp).2.2.2.2.1 (sp_1 hp).2.2.2.2.1 (by omega) (by omega)) (Nat.le_of_ble_eq_true rfl) ⟨Nat.le_refl _, Nat.le_refl _⟩ ?_
  refine mm_mem (J := bcK I 86 1 ((54 + 5 * p, 1, 2) :: (54 + 5 * p + 1, 0, 96) :: ((52 + 5 * p, 1, 2) :: (52 + 5 * p + 1, 0, 120) :: L))) (bcK_rw (x := 54 + 5 * p) (by omega) (by omega) (by omega) (by omega)) ?_
  refine mm_aload_n 0 dX4_become_22 rfl rfl ?_
  refine mm_aload_n 1 dX4_become_23 rfl rfl ?_
  refine mm_geti dX4_become_24 rfl fk_X4_23 rfl (sp_1 hp).1 ?_
  refine mm_top (v := I (52 + 5 * p) 2) (bcK_o (by omega)) ?_
  refine mm_puti dX4_become_27 rfl fk_X4_23 rfl fv_4_2 (sp_86 hp).1 ?_
  refine mm_mem (J := bcK I 86 1 ((51 + 5 * p, 2, 3) :: ((54 + 5 * p, 1, 2) :: (54 + 5 * p + 1, 0, 96) :: ((52 + 5 * p, 1, 2) :: (52 + 5 * p + 1, 0, 120) :: L)))) (bcK_up (x := 51 + 5 * p) (by omega) (by omega) (by first | rfl | (congr 1; omega))) ?_
  refine mm_vret dX4_become_30 rfl ⟨Nat.le_refl _, Nat.le_refl _⟩ ?_
  exact hq
set_option maxRecDepth 100000 in
set_option maxHeartbeats 600000 in
theorem bg_gr1 {g : mm_G} {d : Nat} {I : mm_I} {L : List (Nat × Nat × Nat)} (hd : 3 ≤ d) : mm_Cv g zX0_become d [.ref 2, .ref 87] sh_S (bcK I 1 86 L) (bcK I 1 86 (grL ++ L)) := by
  refine mm_Cv_of (fun Q hq => ?_)
  refine mm_begin (ls := [(0, .ref 2), (1, .ref 87)]) (Nat.le_of_ble_eq_true rfl) rfl rfl ?_
  refine mm_aload_n 0 dX0_become_0 rfl rfl ?_
  refine mm_aload_n 1 dX0_become_1 rfl rfl ?_
  refine mm_geti dX0_become_2 rfl fk_X0_42 rfl so_87 ?_
  refine mm_top (v := I 87 0) (bcK_o (by omega)) ?_
  refine mm_puti dX0_become_5 rfl fk_X0_42 rfl fv_0_0 so_2 ?_
  refine mm_mem (J := bcK I 1 86 ((1, 0, 1) :: L)) (bcK_up (x := 1) (by omega) (by omega) (by first | rfl | (congr 1; omega))) ?_
  refine mm_aload_n 0 dX0_become_8 rfl rfl ?_
  refine mm_aload_n 1 dX0_become_9 rfl rfl ?_
  refine mm_geti dX0_become_10 rfl fk_X0_46 rfl so_87 ?_
  refine mm_top (v := I 87 1) (bcK_o (by omega)) ?_
  refine mm_puti dX0_become_13 rfl fk_X0_46 rfl fv_0_1 so_2 ?_
  refine mm_at (pc' := 16) rfl ?_
  refine mm_mem (J := bcK I 1 86 ((1, 1, 2) :: ((1, 0, 1) :: L))) (bcK_up (x := 1) (by omega) (by omega) (by first | rfl | (congr 1; omega))) ?_
  refine mm_aload_n 0 dX0_become_16 rfl rfl ?_
  refine mm_getr (b := 3) dX0_become_17 rfl fk_X0_14 rfl so_2 sr_2_2 ?_
  refine mm_aload_n 1 dX0_become_20 rfl rfl ?_
  refine mm_getr (b := 88) dX0_become_21 rfl fk_X0_14 rfl so_87 sr_87_2 ?_
  refine mm_cV1v (dz := d - 1) dX0_become_24 rfl mzX5_become ml_X0_65 imX5_become (by omega) so_3 ⟨rfl, rfl⟩ (ct_become rw_3 rw_88 (by omega) (by omega)) (Nat.le_of_ble_eq_true rfl) ⟨Nat.le_refl _, Nat.le_refl _⟩ ?_
  refine mm_mem (J := bcK I 1 86 ((2, 1, 2) :: (2 + 1, 0, 80) :: ((1, 1, 2) :: ((1, 0, 1) :: L)))) (bcK_rw (x := 2) (by omega) (by omega) (by omega) (by omega)) ?_
  refine mm_aload_n 0 dX0_become_27 rfl rfl ?_
  refine mm_getr (b := 5) dX0_become_28 rfl fk_X0_20 rfl so_2 sr_2_3 ?_
  refine mm_aload_n 1 dX0_become_31 rfl rfl ?_
  refine mm_at (pc' := 32) rfl ?_
  refine mm_getr (b := 90) dX0_become_32 rfl fk_X0_20 rfl so_87 sr_87_3 ?_
  refine mm_cV1v (dz := d - 1) dX0_become_35 rfl mzX5_become ml_X0_65 imX5_become (by omega) so_5 ⟨rfl, rfl⟩ (ct_become rw_5 rw_90 (by omega) (by omega)) (Nat.le_of_ble_eq_true rfl) ⟨Nat.le_refl _, Nat.le_refl _⟩ ?_
  refine mm_mem (J := bcK I 1 86 ((4, 1, 2) :: (4 + 1, 0, 80) :: ((2, 1, 2) :: (2 + 1, 0, 80) :: ((1, 1, 2) :: ((1, 0, 1) :: L))))) (bcK_rw (x := 4) (by omega) (by omega) (by omega) (by omega)) ?_
  refine mm_aload_n 0 dX0_become_38 rfl rfl ?_
  refine mm_getr (b := 7) dX0_become_39 rfl fk_X0_23 rfl so_2 sr_2_4 ?_
  refine mm_aload_n 1 dX0_become_42 rfl rfl ?_
  refine mm_getr (b := 92) dX0_become_43 rfl fk_X0_23 rfl so_87 sr_87_4 ?_
  refine mm_cV1v (dz := d - 1) dX0_become_46 rfl mzX5_become ml_X0_65 imX5_become (by omega) so_7 ⟨rfl, rfl⟩ (ct_become rw_7 rw_92 (by omega) (by omega)) (Nat.le_of_ble_eq_true rfl) ⟨Nat.le_refl _, Nat.le_refl _⟩ ?_
  refine mm_mem (J := bcK I 1 86 ((6, 1, 2) :: (6 + 1, 0, 80) :: ((4, 1, 2) :: (4 + 1, 0, 80) :: ((2, 1, 2) :: (2 + 1, 0, 80) :: ((1, 1, 2) :: ((1, 0, 1) :: L)))))) (bcK_rw (x := 6) (by omega) (by omega) (by omega) (by omega)) ?_
  refine mm_aload_n 0 dX0_become_49 rfl rfl ?_
  refine mm_at (pc' := 50) rfl ?_
  refine mm_getr (b := 9) dX0_become_50 rfl fk_X0_26 rfl so_2 sr_2_5 ?_
  refine mm_aload_n 1 dX0_become_53 rfl rfl ?_
  refine mm_getr (b := 94) dX0_become_54 rfl fk_X0_26 rfl so_87 sr_87_5 ?_
  refine mm_cV1v (dz := d - 1) dX0_become_57 rfl mzX5_become ml_X0_65 imX5_become (by omega) so_9 ⟨rfl, rfl⟩ (ct_become rw_9 rw_94 (by omega) (by omega)) (Nat.le_of_ble_eq_true rfl) ⟨Nat.le_refl _, Nat.le_refl _⟩ ?_
  refine mm_mem (J := bcK I 1 86 ((8, 1, 2) :: (8 + 1, 0, 320) :: ((6, 1, 2) :: (6 + 1, 0, 80) :: ((4, 1, 2) :: (4 + 1, 0, 80) :: ((2, 1, 2) :: (2 + 1, 0, 80) :: ((1, 1, 2) :: ((1, 0, 1) :: L))))))) (bcK_rw (x := 8) (by omega) (by omega) (by omega) (by omega)) ?_
  refine mm_aload_n 0 dX0_become_60 rfl rfl ?_
  refine mm_getr (b := 11) dX0_become_61 rfl fk_X0_29 rfl so_2 sr_2_6 ?_
  refine mm_aload_n 1 dX0_become_64 rfl rfl ?_
  refine mm_getr (b := 96) dX0_become_65 rfl fk_X0_29 rfl so_87 sr_87_6 ?_
  refine mm_at (pc' := 68) rfl ?_
  refine mm_cV1v (dz := d - 1) dX0_become_68 rfl mzX5_become ml_X0_65 imX5_become (by omega) so_11 ⟨rfl, rfl⟩ (ct_become rw_11 rw_96 (by omega) (by omega)) (Nat.le_of_ble_eq_true rfl) ⟨Nat.le_refl _, Nat.le_refl _⟩ ?_
  refine mm_mem (J := bcK I 1 86 ((10, 1, 2) :: (10 + 1, 0, 3) :: ((8, 1, 2) :: (8 + 1, 0, 320) :: ((6, 1, 2) :: (6 + 1, 0, 80) :: ((4, 1, 2) :: (4 + 1, 0, 80) :: ((2, 1, 2) :: (2 + 1, 0, 80) :: ((1, 1, 2) :: ((1, 0, 1) :: L)))))))) (bcK_rw (x := 10) (by omega) (by omega) (by omega) (by omega)) ?_
  refine mm_aload_n 0 dX0_become_71 rfl rfl ?_
  refine mm_aload_n 1 dX0_become_72 rfl rfl ?_
  refine mm_geti dX0_become_73 rfl fk_X0_59 rfl so_87 ?_
  refine mm_top (v := I 87 7) (bcK_o (by omega)) ?_
  refine mm_puti dX0_become_76 rfl fk_X0_59 rfl fv_0_7 so_2 ?_
  refine mm_mem (J := bcK I 1 86 ((1, 7, 8) :: ((10, 1, 2) :: (10 + 1, 0, 3) :: ((8, 1, 2) :: (8 + 1, 0, 320) :: ((6, 1, 2) :: (6 + 1, 0, 80) :: ((4, 1, 2) :: (4 + 1, 0, 80) :: ((2, 1, 2) :: (2 + 1, 0, 80) :: ((1, 1, 2) :: ((1, 0, 1) :: L))))))))) (bcK_up (x := 1) (by omega) (by omega) (by first | rfl | (congr 1; omega))) ?_
  refine mm_aload_n 0 dX0_become_79 rfl rfl ?_
  refine mm_aload_n 1 dX0_become_80 rfl rfl ?_
  refine mm_geti dX0_become_81 rfl fk_X0_62 rfl so_87 ?_
  refine mm_at (pc' := 84) rfl ?_
  refine mm_top (v := I 87 8) (bcK_o (by omega)) ?_
  refine mm_puti dX0_become_84 rfl fk_X0_62 rfl fv_0_8 so_2 ?_
  refine mm_mem (J := bcK I 1 86 ((1, 8, 9) :: ((1, 7, 8) :: ((10, 1, 2) :: (10 + 1, 0, 3) :: ((8, 1, 2) :: (8 + 1, 0, 320) :: ((6, 1, 2) :: (6 + 1, 0, 80) :: ((4, 1, 2) :: (4 + 1, 0, 80) :: ((2, 1, 2) :: (2 + 1, 0, 80) :: ((1, 1, 2) :: ((1, 0, 1) :: L)))))))))) (bcK_up (x := 1) (by omega) (by omega) (by first | rfl | (congr 1; omega))) ?_
  refine mm_vret dX0_become_87 rfl ⟨Nat.le_refl _, Nat.le_refl _⟩ ?_
  exact hq
set_option maxRecDepth 100000 in
set_option maxHeartbeats 600000 in
theorem bg_po1 {g : mm_G} {d : Nat} {I : mm_I} {L : List (Nat × Nat × Nat)} (hd : 3 ≤ d) : mm_Cv g zX3_become d [.ref 17, .ref 102] sh_S (bcK I 1 86 L) (bcK I 1 86 (poL ++ L)) := by
  refine mm_Cv_of (fun Q hq => ?_)
  refine mm_begin (ls := [(0, .ref 17), (1, .ref 102)]) (Nat.le_of_ble_eq_true rfl) rfl rfl ?_
  refine mm_aload_n 0 dX3_become_0 rfl rfl ?_
  refine mm_aload_n 1 dX3_become_1 rfl rfl ?_
  refine mm_geti dX3_become_2 rfl fk_X3_23 rfl so_102 ?_
  refine mm_top (v := I 102 0) (bcK_o (by omega)) ?_
  refine mm_puti dX3_become_5 rfl fk_X3_23 rfl fv_3_0 so_17 ?_
  refine mm_mem (J := bcK I 1 86 ((16, 0, 1) :: L)) (bcK_up (x := 16) (by omega) (by omega) (by first | rfl | (congr 1; omega))) ?_
  refine mm_aload_n 0 dX3_become_8 rfl rfl ?_
  refine mm_aload_n 1 dX3_become_9 rfl rfl ?_
  refine mm_geti dX3_become_10 rfl fk_X3_27 rfl so_102 ?_
  refine mm_top (v := I 102 1) (bcK_o (by omega)) ?_
  refine mm_puti dX3_become_13 rfl fk_X3_27 rfl fv_3_1 so_17 ?_
  refine mm_at (pc' := 16) rfl ?_
  refine mm_mem (J := bcK I 1 86 ((16, 1, 2) :: ((16, 0, 1) :: L))) (bcK_up (x := 16) (by omega) (by omega) (by first | rfl | (congr 1; omega))) ?_
  refine mm_aload_n 0 dX3_become_16 rfl rfl ?_
  refine mm_aload_n 1 dX3_become_17 rfl rfl ?_
  refine mm_geti dX3_become_18 rfl fk_X3_30 rfl so_102 ?_
  refine mm_top (v := I 102 2) (bcK_o (by omega)) ?_
  refine mm_puti dX3_become_21 rfl fk_X3_30 rfl fv_3_2 so_17 ?_
  refine mm_mem (J := bcK I 1 86 ((16, 2, 3) :: ((16, 1, 2) :: ((16, 0, 1) :: L)))) (bcK_up (x := 16) (by omega) (by omega) (by first | rfl | (congr 1; omega))) ?_
  refine mm_aload_n 0 dX3_become_24 rfl rfl ?_
  refine mm_aload_n 1 dX3_become_25 rfl rfl ?_
  refine mm_geti dX3_become_26 rfl fk_X3_33 rfl so_102 ?_
  refine mm_top (v := I 102 3) (bcK_o (by omega)) ?_
  refine mm_puti dX3_become_29 rfl fk_X3_33 rfl fv_3_3 so_17 ?_
  refine mm_at (pc' := 32) rfl ?_
  refine mm_mem (J := bcK I 1 86 ((16, 3, 4) :: ((16, 2, 3) :: ((16, 1, 2) :: ((16, 0, 1) :: L))))) (bcK_up (x := 16) (by omega) (by omega) (by first | rfl | (congr 1; omega))) ?_
  refine mm_aload_n 0 dX3_become_32 rfl rfl ?_
  refine mm_aload_n 1 dX3_become_33 rfl rfl ?_
  refine mm_geti dX3_become_34 rfl fk_X3_36 rfl so_102 ?_
  refine mm_top (v := I 102 4) (bcK_o (by omega)) ?_
  refine mm_puti dX3_become_37 rfl fk_X3_36 rfl fv_3_4 so_17 ?_
  refine mm_mem (J := bcK I 1 86 ((16, 4, 5) :: ((16, 3, 4) :: ((16, 2, 3) :: ((16, 1, 2) :: ((16, 0, 1) :: L)))))) (bcK_up (x := 16) (by omega) (by omega) (by first | rfl | (congr 1; omega))) ?_
  refine mm_aload_n 0 dX3_become_40 rfl rfl ?_
  refine mm_aload_n 1 dX3_become_41 rfl rfl ?_
  refine mm_geti dX3_become_42 rfl fk_X3_39 rfl so_102 ?_
  refine mm_top (v := I 102 5) (bcK_o (by omega)) ?_
  refine mm_puti dX3_become_45 rfl fk_X3_39 rfl fv_3_5 so_17 ?_
  refine mm_at (pc' := 48) rfl ?_
  refine mm_mem (J := bcK I 1 86 ((16, 5, 6) :: ((16, 4, 5) :: ((16, 3, 4) :: ((16, 2, 3) :: ((16, 1, 2) :: ((16, 0, 1) :: L))))))) (bcK_up (x := 16) (by omega) (by omega) (by first | rfl | (congr 1; omega))) ?_
  refine mm_aload_n 0 dX3_become_48 rfl rfl ?_
  refine mm_aload_n 1 dX3_become_49 rfl rfl ?_
  refine mm_geti dX3_become_50 rfl fk_X3_42 rfl so_102 ?_
  refine mm_top (v := I 102 6) (bcK_o (by omega)) ?_
  refine mm_puti dX3_become_53 rfl fk_X3_42 rfl fv_3_6 so_17 ?_
  refine mm_mem (J := bcK I 1 86 ((16, 6, 7) :: ((16, 5, 6) :: ((16, 4, 5) :: ((16, 3, 4) :: ((16, 2, 3) :: ((16, 1, 2) :: ((16, 0, 1) :: L)))))))) (bcK_up (x := 16) (by omega) (by omega) (by first | rfl | (congr 1; omega))) ?_
  refine mm_aload_n 0 dX3_become_56 rfl rfl ?_
  refine mm_aload_n 1 dX3_become_57 rfl rfl ?_
  refine mm_geti dX3_become_58 rfl fk_X3_45 rfl so_102 ?_
  refine mm_top (v := I 102 7) (bcK_o (by omega)) ?_
  refine mm_puti dX3_become_61 rfl fk_X3_45 rfl fv_3_7 so_17 ?_
  refine mm_at (pc' := 64) rfl ?_
  refine mm_mem (J := bcK I 1 86 ((16, 7, 8) :: ((16, 6, 7) :: ((16, 5, 6) :: ((16, 4, 5) :: ((16, 3, 4) :: ((16, 2, 3) :: ((16, 1, 2) :: ((16, 0, 1) :: L))))))))) (bcK_up (x := 16) (by omega) (by omega) (by first | rfl | (congr 1; omega))) ?_
  refine mm_aload_n 0 dX3_become_64 rfl rfl ?_
  refine mm_getr (b := 18) dX3_become_65 rfl fk_X3_14 rfl so_17 sr_17_8 ?_
  refine mm_aload_n 1 dX3_become_68 rfl rfl ?_
  refine mm_getr (b := 103) dX3_become_69 rfl fk_X3_14 rfl so_102 sr_102_8 ?_
  refine mm_cV1v (dz := d - 1) dX3_become_72 rfl mzX5_become ml_X3_48 imX5_become (by omega) so_18 ⟨rfl, rfl⟩ (ct_become rw_18 rw_103 (by omega) (by omega)) (Nat.le_of_ble_eq_true rfl) ⟨Nat.le_refl _, Nat.le_refl _⟩ ?_
  refine mm_mem (J := bcK I 1 86 ((17, 1, 2) :: (17 + 1, 0, 8) :: ((16, 7, 8) :: ((16, 6, 7) :: ((16, 5, 6) :: ((16, 4, 5) :: ((16, 3, 4) :: ((16, 2, 3) :: ((16, 1, 2) :: ((16, 0, 1) :: L)))))))))) (bcK_rw (x := 17) (by omega) (by omega) (by omega) (by omega)) ?_
  refine mm_aload_n 0 dX3_become_75 rfl rfl ?_
  refine mm_getr (b := 20) dX3_become_76 rfl fk_X3_20 rfl so_17 sr_17_9 ?_
  refine mm_aload_n 1 dX3_become_79 rfl rfl ?_
  refine mm_at (pc' := 80) rfl ?_
  refine mm_getr (b := 105) dX3_become_80 rfl fk_X3_20 rfl so_102 sr_102_9 ?_
  refine mm_cV1v (dz := d - 1) dX3_become_83 rfl mzX5_become ml_X3_48 imX5_become (by omega) so_20 ⟨rfl, rfl⟩ (ct_become rw_20 rw_105 (by omega) (by omega)) (Nat.le_of_ble_eq_true rfl) ⟨Nat.le_refl _, Nat.le_refl _⟩ ?_
  refine mm_mem (J := bcK I 1 86 ((19, 1, 2) :: (19 + 1, 0, 8) :: ((17, 1, 2) :: (17 + 1, 0, 8) :: ((16, 7, 8) :: ((16, 6, 7) :: ((16, 5, 6) :: ((16, 4, 5) :: ((16, 3, 4) :: ((16, 2, 3) :: ((16, 1, 2) :: ((16, 0, 1) :: L))))))))))) (bcK_rw (x := 19) (by omega) (by omega) (by omega) (by omega)) ?_
  refine mm_vret dX3_become_86 rfl ⟨Nat.le_refl _, Nat.le_refl _⟩ ?_
  exact hq
set_option maxRecDepth 100000 in
set_option maxHeartbeats 600000 in
theorem bg_wo1 {g : mm_G} {d : Nat} {I : mm_I} {L : List (Nat × Nat × Nat)} (hd : 3 ≤ d) : mm_Cv g zX10_become d [.ref 22, .ref 107] sh_S (bcK I 1 86 L) (bcK I 1 86 (woL ++ L)) := by
  refine mm_Cv_of (fun Q hq => ?_)
  refine mm_begin (ls := [(0, .ref 22), (1, .ref 107)]) (Nat.le_of_ble_eq_true rfl) rfl rfl ?_
  refine mm_aload_n 0 dX10_become_0 rfl rfl ?_
  refine mm_getr (b := 23) dX10_become_1 rfl fk_X10_14 rfl so_22 sr_22_0 ?_
  refine mm_aload_n 1 dX10_become_4 rfl rfl ?_
  refine mm_getr (b := 108) dX10_become_5 rfl fk_X10_14 rfl so_107 sr_107_0 ?_
  refine mm_cV1v (dz := d - 1) dX10_become_8 rfl mzX5_become ml_X10_35 imX5_become (by omega) so_23 ⟨rfl, rfl⟩ (ct_become rw_23 rw_108 (by omega) (by omega)) (Nat.le_of_ble_eq_true rfl) ⟨Nat.le_refl _, Nat.le_refl _⟩ ?_
  refine mm_mem (J := bcK I 1 86 ((22, 1, 2) :: (22 + 1, 0, 6) :: L)) (bcK_rw (x := 22) (by omega) (by omega) (by omega) (by omega)) ?_
  refine mm_aload_n 0 dX10_become_11 rfl rfl ?_
  refine mm_getr (b := 25) dX10_become_12 rfl fk_X10_20 rfl so_22 sr_22_1 ?_
  refine mm_aload_n 1 dX10_become_15 rfl rfl ?_
  refine mm_at (pc' := 16) rfl ?_
  refine mm_getr (b := 110) dX10_become_16 rfl fk_X10_20 rfl so_107 sr_107_1 ?_
  refine mm_cV1v (dz := d - 1) dX10_become_19 rfl mzX5_become ml_X10_35 imX5_become (by omega) so_25 ⟨rfl, rfl⟩ (ct_become rw_25 rw_110 (by omega) (by omega)) (Nat.le_of_ble_eq_true rfl) ⟨Nat.le_refl _, Nat.le_refl _⟩ ?_
  refine mm_mem (J := bcK I 1 86 ((24, 1, 2) :: (24 + 1, 0, 6) :: ((22, 1, 2) :: (22 + 1, 0, 6) :: L))) (bcK_rw (x := 24) (by omega) (by omega) (by omega) (by omega)) ?_
  refine mm_aload_n 0 dX10_become_22 rfl rfl ?_
  refine mm_getr (b := 27) dX10_become_23 rfl fk_X10_23 rfl so_22 sr_22_2 ?_
  refine mm_aload_n 1 dX10_become_26 rfl rfl ?_
  refine mm_getr (b := 112) dX10_become_27 rfl fk_X10_23 rfl so_107 sr_107_2 ?_
  refine mm_cV1v (dz := d - 1) dX10_become_30 rfl mzX5_become ml_X10_35 imX5_become (by omega) so_27 ⟨rfl, rfl⟩ (ct_become rw_27 rw_112 (by omega) (by omega)) (Nat.le_of_ble_eq_true rfl) ⟨Nat.le_refl _, Nat.le_refl _⟩ ?_
  refine mm_mem (J := bcK I 1 86 ((26, 1, 2) :: (26 + 1, 0, 6) :: ((24, 1, 2) :: (24 + 1, 0, 6) :: ((22, 1, 2) :: (22 + 1, 0, 6) :: L)))) (bcK_rw (x := 26) (by omega) (by omega) (by omega) (by omega)) ?_
  refine mm_aload_n 0 dX10_become_33 rfl rfl ?_
  refine mm_at (pc' := 34) rfl ?_
  refine mm_getr (b := 29) dX10_become_34 rfl fk_X10_26 rfl so_22 sr_22_3 ?_
  refine mm_aload_n 1 dX10_become_37 rfl rfl ?_
  refine mm_getr (b := 114) dX10_become_38 rfl fk_X10_26 rfl so_107 sr_107_3 ?_
  refine mm_cV1v (dz := d - 1) dX10_become_41 rfl mzX5_become ml_X10_35 imX5_become (by omega) so_29 ⟨rfl, rfl⟩ (ct_become rw_29 rw_114 (by omega) (by omega)) (Nat.le_of_ble_eq_true rfl) ⟨Nat.le_refl _, Nat.le_refl _⟩ ?_
  refine mm_mem (J := bcK I 1 86 ((28, 1, 2) :: (28 + 1, 0, 6) :: ((26, 1, 2) :: (26 + 1, 0, 6) :: ((24, 1, 2) :: (24 + 1, 0, 6) :: ((22, 1, 2) :: (22 + 1, 0, 6) :: L))))) (bcK_rw (x := 28) (by omega) (by omega) (by omega) (by omega)) ?_
  refine mm_vret dX10_become_44 rfl ⟨Nat.le_refl _, Nat.le_refl _⟩ ?_
  exact hq
set_option maxRecDepth 100000 in
set_option maxHeartbeats 600000 in
theorem bg_ma1 {g : mm_G} {d : Nat} {I : mm_I} {L : List (Nat × Nat × Nat)} {m : Nat} (hm : m < 5) (hd : 3 ≤ d) : mm_Cv g zX1_become d [.ref (36 + 3 * m), .ref (121 + 3 * m)] sh_S (bcK I 1 86 L) (bcK I 1 86 (mcL m ++ L)) := by
  refine mm_Cv_of (fun Q hq => ?_)
  refine mm_begin (ls := [(0, .ref (36 + 3 * m)), (1, .ref (121 + 3 * m))]) (Nat.le_of_ble_eq_true rfl) rfl rfl ?_
  refine mm_aload_n 0 dX1_become_0 rfl rfl ?_
  refine mm_aload_n 1 dX1_become_1 rfl rfl ?_
  refine mm_geti dX1_become_2 rfl fk_X1_26 rfl (sm_86 hm).1 ?_
  refine mm_top (v := I (121 + 3 * m) 0) (bcK_o (by omega)) ?_
  refine mm_puti dX1_become_5 rfl fk_X1_26 rfl fv_1_0 (sm_1 hm).1 ?_
  refine mm_mem (J := bcK I 1 86 ((35 + 3 * m, 0, 1) :: L)) (bcK_up (x := 35 + 3 * m) (by omega) (by omega) (by first | rfl | (congr 1; omega))) ?_
  refine mm_aload_n 0 dX1_become_8 rfl rfl ?_
  refine mm_aload_n 1 dX1_become_9 rfl rfl ?_
  refine mm_geti dX1_become_10 rfl fk_X1_30 rfl (sm_86 hm).1 ?_
  refine mm_top (v := I (121 + 3 * m) 1) (bcK_o (by omega)) ?_
  refine mm_puti dX1_become_13 rfl fk_X1_30 rfl fv_1_1 (sm_1 hm).1 ?_
  refine mm_at (pc' := 16) rfl ?_
  refine mm_mem (J := bcK I 1 86 ((35 + 3 * m, 1, 2) :: ((35 + 3 * m, 0, 1) :: L))) (bcK_up (x := 35 + 3 * m) (by omega) (by omega) (by first | rfl | (congr 1; omega))) ?_
  refine mm_aload_n 0 dX1_become_16 rfl rfl ?_
  refine mm_aload_n 1 dX1_become_17 rfl rfl ?_
  refine mm_geti dX1_become_18 rfl fk_X1_33 rfl (sm_86 hm).1 ?_
  refine mm_top (v := I (121 + 3 * m) 2) (bcK_o (by omega)) ?_
  refine mm_puti dX1_become_21 rfl fk_X1_33 rfl fv_1_2 (sm_1 hm).1 ?_
  refine mm_mem (J := bcK I 1 86 ((35 + 3 * m, 2, 3) :: ((35 + 3 * m, 1, 2) :: ((35 + 3 * m, 0, 1) :: L)))) (bcK_up (x := 35 + 3 * m) (by omega) (by omega) (by first | rfl | (congr 1; omega))) ?_
  refine mm_aload_n 0 dX1_become_24 rfl rfl ?_
  refine mm_aload_n 1 dX1_become_25 rfl rfl ?_
  refine mm_geti dX1_become_26 rfl fk_X1_36 rfl (sm_86 hm).1 ?_
  refine mm_top (v := I (121 + 3 * m) 3) (bcK_o (by omega)) ?_
  refine mm_puti dX1_become_29 rfl fk_X1_36 rfl fv_1_3 (sm_1 hm).1 ?_
  refine mm_at (pc' := 32) rfl ?_
  refine mm_mem (J := bcK I 1 86 ((35 + 3 * m, 3, 4) :: ((35 + 3 * m, 2, 3) :: ((35 + 3 * m, 1, 2) :: ((35 + 3 * m, 0, 1) :: L))))) (bcK_up (x := 35 + 3 * m) (by omega) (by omega) (by first | rfl | (congr 1; omega))) ?_
  refine mm_aload_n 0 dX1_become_32 rfl rfl ?_
  refine mm_aload_n 1 dX1_become_33 rfl rfl ?_
  refine mm_geti dX1_become_34 rfl fk_X1_39 rfl (sm_86 hm).1 ?_
  refine mm_top (v := I (121 + 3 * m) 4) (bcK_o (by omega)) ?_
  refine mm_puti dX1_become_37 rfl fk_X1_39 rfl fv_1_4 (sm_1 hm).1 ?_
  refine mm_mem (J := bcK I 1 86 ((35 + 3 * m, 4, 5) :: ((35 + 3 * m, 3, 4) :: ((35 + 3 * m, 2, 3) :: ((35 + 3 * m, 1, 2) :: ((35 + 3 * m, 0, 1) :: L)))))) (bcK_up (x := 35 + 3 * m) (by omega) (by omega) (by first | rfl | (congr 1; omega))) ?_
  refine mm_aload_n 0 dX1_become_40 rfl rfl ?_
  refine mm_aload_n 1 dX1_become_41 rfl rfl ?_
  refine mm_geti dX1_become_42 rfl fk_X1_42 rfl (sm_86 hm).1 ?_
  refine mm_top (v := I (121 + 3 * m) 5) (bcK_o (by omega)) ?_
  refine mm_puti dX1_become_45 rfl fk_X1_42 rfl fv_1_5 (sm_1 hm).1 ?_
  refine mm_at (pc' := 48) rfl ?_
  refine mm_mem (J := bcK I 1 86 ((35 + 3 * m, 5, 6) :: ((35 + 3 * m, 4, 5) :: ((35 + 3 * m, 3, 4) :: ((35 + 3 * m, 2, 3) :: ((35 + 3 * m, 1, 2) :: ((35 + 3 * m, 0, 1) :: L))))))) (bcK_up (x := 35 + 3 * m) (by omega) (by omega) (by first | rfl | (congr 1; omega))) ?_
  refine mm_aload_n 0 dX1_become_48 rfl rfl ?_
  refine mm_aload_n 1 dX1_become_49 rfl rfl ?_
  refine mm_geti dX1_become_50 rfl fk_X1_48 rfl (sm_86 hm).1 ?_
  refine mm_top (v := I (121 + 3 * m) 6) (bcK_o (by omega)) ?_
  refine mm_puti dX1_become_53 rfl fk_X1_48 rfl fv_1_6 (sm_1 hm).1 ?_
  refine mm_mem (J := bcK I 1 86 ((35 + 3 * m, 6, 7) :: ((35 + 3 * m, 5, 6) :: ((35 + 3 * m, 4, 5) :: ((35 + 3 * m, 3, 4) :: ((35 + 3 * m, 2, 3) :: ((35 + 3 * m, 1, 2) :: ((35 + 3 * m, 0, 1) :: L)))))))) (bcK_up (x := 35 + 3 * m) (by omega) (by omega) (by first | rfl | (congr 1; omega))) ?_
  refine mm_aload_n 0 dX1_become_56 rfl rfl ?_
  refine mm_aload_n 1 dX1_become_57 rfl rfl ?_
  refine mm_geti dX1_become_58 rfl fk_X1_51 rfl (sm_86 hm).1 ?_
  refine mm_top (v := I (121 + 3 * m) 7) (bcK_o (by omega)) ?_
  refine mm_puti dX1_become_61 rfl fk_X1_51 rfl fv_1_7 (sm_1 hm).1 ?_
  refine mm_at (pc' := 64) rfl ?_
  refine mm_mem (J := bcK I 1 86 ((35 + 3 * m, 7, 8) :: ((35 + 3 * m, 6, 7) :: ((35 + 3 * m, 5, 6) :: ((35 + 3 * m, 4, 5) :: ((35 + 3 * m, 3, 4) :: ((35 + 3 * m, 2, 3) :: ((35 + 3 * m, 1, 2) :: ((35 + 3 * m, 0, 1) :: L))))))))) (bcK_up (x := 35 + 3 * m) (by omega) (by omega) (by first | rfl | (congr 1; omega))) ?_
  refine mm_aload_n 0 dX1_become_64 rfl rfl ?_
  refine mm_getr (b := 37 + 3 * m) dX1_become_65 rfl fk_X1_16 rfl (sm_1 hm).1 (sm_1 hm).2.1 ?_
  refine mm_aload_n 1 dX1_become_68 rfl rfl ?_
  refine mm_getr (b := 122 + 3 * m) dX1_become_69 rfl fk_X1_16 rfl (sm_86 hm).1 (sm_86 hm).2.1 ?_
  refine mm_cV1v (dz := d - 1) dX1_become_72 rfl mzX5_become ml_X1_54 imX5_become (by omega) (sm_1 hm).2.2.1.1 ⟨rfl, rfl⟩ (ct_become (sm_1 hm).2.2.1 (sm_86 hm).2.2.1 (by omega) (by omega)) (Nat.le_of_ble_eq_true rfl) ⟨Nat.le_refl _, Nat.le_refl _⟩ ?_
  refine mm_mem (J := bcK I 1 86 ((36 + 3 * m, 1, 2) :: (36 + 3 * m + 1, 0, 4) :: ((35 + 3 * m, 7, 8) :: ((35 + 3 * m, 6, 7) :: ((35 + 3 * m, 5, 6) :: ((35 + 3 * m, 4, 5) :: ((35 + 3 * m, 3, 4) :: ((35 + 3 * m, 2, 3) :: ((35 + 3 * m, 1, 2) :: ((35 + 3 * m, 0, 1) :: L)))))))))) (bcK_rw (x := 36 + 3 * m) (by omega) (by omega) (by omega) (by omega)) ?_
  refine mm_vret dX1_become_75 rfl ⟨Nat.le_refl _, Nat.le_refl _⟩ ?_
  exact hq
set_option maxRecDepth 100000 in
set_option maxHeartbeats 600000 in
theorem bg_pr1 {g : mm_G} {d : Nat} {I : mm_I} {L : List (Nat × Nat × Nat)} {p : Nat} (hp : p < 6) (hd : 3 ≤ d) : mm_Cv g zX4_become d [.ref (52 + 5 * p), .ref (137 + 5 * p)] sh_S (bcK I 1 86 L) (bcK I 1 86 (pcL p ++ L)) := by
  refine mm_Cv_of (fun Q hq => ?_)
  refine mm_begin (ls := [(0, .ref (52 + 5 * p)), (1, .ref (137 + 5 * p))]) (Nat.le_of_ble_eq_true rfl) rfl rfl ?_
  refine mm_aload_n 0 dX4_become_0 rfl rfl ?_
  refine mm_getr (b := 53 + 5 * p) dX4_become_1 rfl fk_X4_16 rfl (sp_1 hp).1 (sp_1 hp).2.1 ?_
  refine mm_aload_n 1 dX4_become_4 rfl rfl ?_
  refine mm_getr (b := 138 + 5 * p) dX4_become_5 rfl fk_X4_16 rfl (sp_86 hp).1 (sp_86 hp).2.1 ?_
  refine mm_cV1v (dz := d - 1) dX4_become_8 rfl mzX5_become ml_X4_30 imX5_become (by omega) (sp_1 hp).2.2.1.1 ⟨rfl, rfl⟩ (ct_become (sp_1 hp).2.2.1 (sp_86 hp).2.2.1 (by omega) (by omega)) (Nat.le_of_ble_eq_true rfl) ⟨Nat.le_refl _, Nat.le_refl _⟩ ?_
  refine mm_mem (J := bcK I 1 86 ((52 + 5 * p, 1, 2) :: (52 + 5 * p + 1, 0, 120) :: L)) (bcK_rw (x := 52 + 5 * p) (by omega) (by omega) (by omega) (by omega)) ?_
  refine mm_aload_n 0 dX4_become_11 rfl rfl ?_
  refine mm_getr (b := 55 + 5 * p) dX4_become_12 rfl fk_X4_20 rfl (sp_1 hp).1 (sp_1 hp).2.2.2.1 ?_
  refine mm_aload_n 1 dX4_become_15 rfl rfl ?_
  refine mm_at (pc' := 16) rfl ?_
  refine mm_getr (b := 140 + 5 * p) dX4_become_16 rfl fk_X4_20 rfl (sp_86 hp).1 (sp_86 hp).2.2.2.1 ?_
  refine mm_cV1v (dz := d - 1) dX4_become_19 rfl mzX5_become ml_X4_30 imX5_become (by omega) (sp_1 hp).2.2.2.2.1.1 ⟨rfl, rfl⟩ (ct_become (sp_1 hp).2.2.2.2.1 (sp_86 hp).2.2.2.2.1 (by omega) (by omega)) (Nat.le_of_ble_eq_true rfl) ⟨Nat.le_refl _, Nat.le_refl _⟩ ?_
  refine mm_mem (J := bcK I 1 86 ((54 + 5 * p, 1, 2) :: (54 + 5 * p + 1, 0, 96) :: ((52 + 5 * p, 1, 2) :: (52 + 5 * p + 1, 0, 120) :: L))) (bcK_rw (x := 54 + 5 * p) (by omega) (by omega) (by omega) (by omega)) ?_
  refine mm_aload_n 0 dX4_become_22 rfl rfl ?_
  refine mm_aload_n 1 dX4_become_23 rfl rfl ?_
  refine mm_geti dX4_become_24 rfl fk_X4_23 rfl (sp_86 hp).1 ?_
  refine mm_top (v := I (137 + 5 * p) 2) (bcK_o (by omega)) ?_
  refine mm_puti dX4_become_27 rfl fk_X4_23 rfl fv_4_2 (sp_1 hp).1 ?_
  refine mm_mem (J := bcK I 1 86 ((51 + 5 * p, 2, 3) :: ((54 + 5 * p, 1, 2) :: (54 + 5 * p + 1, 0, 96) :: ((52 + 5 * p, 1, 2) :: (52 + 5 * p + 1, 0, 120) :: L)))) (bcK_up (x := 51 + 5 * p) (by omega) (by omega) (by first | rfl | (congr 1; omega))) ?_
  refine mm_vret dX4_become_30 rfl ⟨Nat.le_refl _, Nat.le_refl _⟩ ?_
  exact hq
set_option maxRecDepth 100000 in
set_option maxHeartbeats 600000 in
set_option maxRecDepth 100000 in
set_option maxHeartbeats 600000 in
theorem bg_wk1 {g : mm_G} {d : Nat} {I : mm_I} {m n : Nat} (hn : I 1 4 = nI n) (hm : m < n) (hn5 : n ≤ 5) : mm_Cr g zX8_worker d [.ref 1, .int (nI (m))] sh_S (I) (.ref (36 + 3 * m)) (I) := by
  refine mm_Cr_of (fun Q hq => ?_)
  refine mm_begin (ls := [(0, .ref 1), (1, .int (nI (m)))]) (Nat.le_of_ble_eq_true rfl) rfl rfl ?_
  refine mm_iload_n 1 dX8_worker_0 rfl rfl ?_
  refine mm_if_ltN (m) (tgt := 30) dX8_worker_1 (by decide) (by omega) ?_
  refine mm_iload_n 1 dX8_worker_4 rfl rfl ?_
  refine mm_aload_n 0 dX8_worker_5 rfl rfl ?_
  refine mm_geti dX8_worker_6 rfl fk_X8_39 rfl so_1 ?_
  refine mm_top (v := nI (n)) hn ?_
  refine mm_icmp_geN (m) (n) (tgt := 30) dX8_worker_9 (by decide) (by omega) (by omega) (fun c9 => ?_) (fun c9 => ?_)
  · refine mm_null dX8_worker_30 ?_
    refine mm_aret dX8_worker_31 rfl (Or.inl ⟨_, rfl⟩) (Or.inl rfl) ⟨Nat.le_refl _, Nat.le_refl _⟩ ?_
    first | exact hq | (exfalso; omega)
  · refine mm_iload_n 1 dX8_worker_12 rfl rfl ?_
    refine mm_aload_n 0 dX8_worker_13 rfl rfl ?_
    refine mm_getr (b := 35) dX8_worker_14 rfl fk_X8_34 rfl so_1 sr_1_3 ?_
    refine mm_alenR dX8_worker_17 sq_35 ?_
    refine mm_icmp_geN (m) (5) (tgt := 30) dX8_worker_18 (by decide) (by omega) (by omega) (fun c18 => ?_) (fun c18 => ?_)
    · refine mm_null dX8_worker_30 ?_
      refine mm_aret dX8_worker_31 rfl (Or.inl ⟨_, rfl⟩) (Or.inl rfl) ⟨Nat.le_refl _, Nat.le_refl _⟩ ?_
      first | exact hq | (exfalso; omega)
    · refine mm_aload_n 0 dX8_worker_21 rfl rfl ?_
      refine mm_getr (b := 35) dX8_worker_22 rfl fk_X8_34 rfl so_1 sr_1_3 ?_
      refine mm_iload_n 1 dX8_worker_25 rfl rfl ?_
      refine mm_aaldN (b := 36 + 3 * m) (m) dX8_worker_26 sq_35 (by omega) (by omega) (sm_1 (show m < 5 by omega)).2.2.2 ?_
      refine mm_goto (tgt := 31) dX8_worker_27 (by decide) ?_
      refine mm_aret dX8_worker_31 rfl (Or.inl ⟨_, rfl⟩) (Or.inr ⟨_, rfl⟩) ⟨Nat.le_refl _, Nat.le_refl _⟩ ?_
      first | exact hq | (exfalso; omega)
set_option maxRecDepth 100000 in
set_option maxHeartbeats 600000 in
theorem bg_sc1 {g : mm_G} {d : Nat} {I : mm_I} {p : Nat} (hp : p < 6) : mm_Cr g zX8_script d [.ref 1, .int (nI (p))] sh_S (I) (.ref (52 + 5 * p)) (I) := by
  refine mm_Cr_of (fun Q hq => ?_)
  refine mm_begin (ls := [(0, .ref 1), (1, .int (nI (p)))]) (Nat.le_of_ble_eq_true rfl) rfl rfl ?_
  refine mm_iload_n 1 dX8_script_0 rfl rfl ?_
  refine mm_if_ltN (p) (tgt := 22) dX8_script_1 (by decide) (by omega) ?_
  refine mm_iload_n 1 dX8_script_4 rfl rfl ?_
  refine mm_aload_n 0 dX8_script_5 rfl rfl ?_
  refine mm_getr (b := 51) dX8_script_6 rfl fk_X8_45 rfl so_1 sr_1_5 ?_
  refine mm_alenR dX8_script_9 sq_51 ?_
  refine mm_icmp_geN (p) (6) (tgt := 22) dX8_script_10 (by decide) (by omega) (by omega) (fun c10 => ?_) (fun c10 => ?_)
  · refine mm_null dX8_script_22 ?_
    refine mm_aret dX8_script_23 rfl (Or.inl ⟨_, rfl⟩) (Or.inl rfl) ⟨Nat.le_refl _, Nat.le_refl _⟩ ?_
    first | exact hq | (exfalso; omega)
  · refine mm_aload_n 0 dX8_script_13 rfl rfl ?_
    refine mm_getr (b := 51) dX8_script_14 rfl fk_X8_45 rfl so_1 sr_1_5 ?_
    refine mm_iload_n 1 dX8_script_17 rfl rfl ?_
    refine mm_aaldN (b := 52 + 5 * p) (p) dX8_script_18 sq_51 (by omega) (by omega) (sp_1 hp).2.2.2.2.2 ?_
    refine mm_goto (tgt := 23) dX8_script_19 (by decide) ?_
    refine mm_aret dX8_script_23 rfl (Or.inl ⟨_, rfl⟩) (Or.inr ⟨_, rfl⟩) ⟨Nat.le_refl _, Nat.le_refl _⟩ ?_
    first | exact hq | (exfalso; omega)
set_option maxRecDepth 100000 in
set_option maxHeartbeats 600000 in
set_option maxRecDepth 100000 in
set_option maxHeartbeats 600000 in
theorem bg_wk86 {g : mm_G} {d : Nat} {I : mm_I} {m n : Nat} (hn : I 86 4 = nI n) (hm : m < n) (hn5 : n ≤ 5) : mm_Cr g zX8_worker d [.ref 86, .int (nI (m))] sh_S (I) (.ref (121 + 3 * m)) (I) := by
  refine mm_Cr_of (fun Q hq => ?_)
  refine mm_begin (ls := [(0, .ref 86), (1, .int (nI (m)))]) (Nat.le_of_ble_eq_true rfl) rfl rfl ?_
  refine mm_iload_n 1 dX8_worker_0 rfl rfl ?_
  refine mm_if_ltN (m) (tgt := 30) dX8_worker_1 (by decide) (by omega) ?_
  refine mm_iload_n 1 dX8_worker_4 rfl rfl ?_
  refine mm_aload_n 0 dX8_worker_5 rfl rfl ?_
  refine mm_geti dX8_worker_6 rfl fk_X8_39 rfl so_86 ?_
  refine mm_top (v := nI (n)) hn ?_
  refine mm_icmp_geN (m) (n) (tgt := 30) dX8_worker_9 (by decide) (by omega) (by omega) (fun c9 => ?_) (fun c9 => ?_)
  · refine mm_null dX8_worker_30 ?_
    refine mm_aret dX8_worker_31 rfl (Or.inl ⟨_, rfl⟩) (Or.inl rfl) ⟨Nat.le_refl _, Nat.le_refl _⟩ ?_
    first | exact hq | (exfalso; omega)
  · refine mm_iload_n 1 dX8_worker_12 rfl rfl ?_
    refine mm_aload_n 0 dX8_worker_13 rfl rfl ?_
    refine mm_getr (b := 120) dX8_worker_14 rfl fk_X8_34 rfl so_86 sr_86_3 ?_
    refine mm_alenR dX8_worker_17 sq_120 ?_
    refine mm_icmp_geN (m) (5) (tgt := 30) dX8_worker_18 (by decide) (by omega) (by omega) (fun c18 => ?_) (fun c18 => ?_)
    · refine mm_null dX8_worker_30 ?_
      refine mm_aret dX8_worker_31 rfl (Or.inl ⟨_, rfl⟩) (Or.inl rfl) ⟨Nat.le_refl _, Nat.le_refl _⟩ ?_
      first | exact hq | (exfalso; omega)
    · refine mm_aload_n 0 dX8_worker_21 rfl rfl ?_
      refine mm_getr (b := 120) dX8_worker_22 rfl fk_X8_34 rfl so_86 sr_86_3 ?_
      refine mm_iload_n 1 dX8_worker_25 rfl rfl ?_
      refine mm_aaldN (b := 121 + 3 * m) (m) dX8_worker_26 sq_120 (by omega) (by omega) (sm_86 (show m < 5 by omega)).2.2.2 ?_
      refine mm_goto (tgt := 31) dX8_worker_27 (by decide) ?_
      refine mm_aret dX8_worker_31 rfl (Or.inl ⟨_, rfl⟩) (Or.inr ⟨_, rfl⟩) ⟨Nat.le_refl _, Nat.le_refl _⟩ ?_
      first | exact hq | (exfalso; omega)
set_option maxRecDepth 100000 in
set_option maxHeartbeats 600000 in
theorem bg_sc86 {g : mm_G} {d : Nat} {I : mm_I} {p : Nat} (hp : p < 6) : mm_Cr g zX8_script d [.ref 86, .int (nI (p))] sh_S (I) (.ref (137 + 5 * p)) (I) := by
  refine mm_Cr_of (fun Q hq => ?_)
  refine mm_begin (ls := [(0, .ref 86), (1, .int (nI (p)))]) (Nat.le_of_ble_eq_true rfl) rfl rfl ?_
  refine mm_iload_n 1 dX8_script_0 rfl rfl ?_
  refine mm_if_ltN (p) (tgt := 22) dX8_script_1 (by decide) (by omega) ?_
  refine mm_iload_n 1 dX8_script_4 rfl rfl ?_
  refine mm_aload_n 0 dX8_script_5 rfl rfl ?_
  refine mm_getr (b := 136) dX8_script_6 rfl fk_X8_45 rfl so_86 sr_86_5 ?_
  refine mm_alenR dX8_script_9 sq_136 ?_
  refine mm_icmp_geN (p) (6) (tgt := 22) dX8_script_10 (by decide) (by omega) (by omega) (fun c10 => ?_) (fun c10 => ?_)
  · refine mm_null dX8_script_22 ?_
    refine mm_aret dX8_script_23 rfl (Or.inl ⟨_, rfl⟩) (Or.inl rfl) ⟨Nat.le_refl _, Nat.le_refl _⟩ ?_
    first | exact hq | (exfalso; omega)
  · refine mm_aload_n 0 dX8_script_13 rfl rfl ?_
    refine mm_getr (b := 136) dX8_script_14 rfl fk_X8_45 rfl so_86 sr_86_5 ?_
    refine mm_iload_n 1 dX8_script_17 rfl rfl ?_
    refine mm_aaldN (b := 137 + 5 * p) (p) dX8_script_18 sq_136 (by omega) (by omega) (sp_86 hp).2.2.2.2.2 ?_
    refine mm_goto (tgt := 23) dX8_script_19 (by decide) ?_
    refine mm_aret dX8_script_23 rfl (Or.inl ⟨_, rfl⟩) (Or.inr ⟨_, rfl⟩) ⟨Nat.le_refl _, Nat.le_refl _⟩ ?_
    first | exact hq | (exfalso; omega)
set_option maxRecDepth 100000 in
set_option maxHeartbeats 600000 in
theorem bg_lp86 {g : mm_G} {d : Nat} {I : mm_I} {Q : Option Value → mm_Sh → mm_I → Prop} {L : List (Nat × Nat × Nat)} (hd : 4 ≤ d) (hx : mm_Ex g zX8_become d (0, 0) (0, 0) sh_S (bcK I 86 1 (pcs 6 ++ L)) 127 [(0, .ref 86), (1, .ref 1)] [] Q) : ∀ (mf i : Nat), i ≤ 6 → 6 - i < mf → mm_Ex g zX8_become d (0, 0) (0, 0) sh_S (bcK I 86 1 (pcs i ++ L)) 87 [(2, .int (nI (i))), (0, .ref 86), (1, .ref 1)] [] Q := by
  intro mf
  induction mf with
  | zero => intro i hi hmz; exact absurd hmz (Nat.not_lt_zero _)
  | succ mf ih =>
    intro i hi hmz
    refine mm_iload_n 0 dX8_become_87 rfl rfl ?_
    refine mm_bipush (v := 6) dX8_become_88 rfl ?_
    refine mm_icmp_geN (i) (6) (tgt := 127) dX8_become_90 (by decide) (by omega) (by omega) (fun c90 => ?_) (fun c90 => ?_)
    · have e : i = 6 := by omega
      subst e; exact mm_sub [1, 2] rfl hx
    · refine mm_aload_n 1 dX8_become_93 rfl rfl ?_
      refine mm_iload_n 0 dX8_become_94 rfl rfl ?_
      refine mm_cV1r (dz := d - 1) dX8_become_95 rfl mzX8_script ml_X8_86 imX8_script (by omega) so_86 ⟨rfl, rfl⟩ (bg_sc86 (p := i) (by omega)) (Nat.le_of_ble_eq_true rfl) ⟨Nat.le_refl _, Nat.le_refl _⟩ ?_
      refine mm_astore_n (ls' := [(3, .ref (137 + 5 * i)), (2, .int (nI (i))), (0, .ref 86), (1, .ref 1)]) dX8_become_98 rfl (by decide) rfl ?_
      refine mm_aload_n 3 dX8_become_99 rfl rfl ?_
      refine mm_iload_n 1 dX8_become_100 rfl rfl ?_
      refine mm_cV1r (dz := d - 1) dX8_become_101 rfl mzX8_script ml_X8_86 imX8_script (by omega) so_1 ⟨rfl, rfl⟩ (bg_sc1 (p := i) (by omega)) (Nat.le_of_ble_eq_true rfl) ⟨Nat.le_refl _, Nat.le_refl _⟩ ?_
      refine mm_at (pc' := 104) rfl ?_
      refine mm_astore (ls' := [(4, .ref (52 + 5 * i)), (3, .ref (137 + 5 * i)), (2, .int (nI (i))), (0, .ref 86), (1, .ref 1)]) dX8_become_104 (by decide) rfl ?_
      refine mm_aload_n 1 dX8_become_106 rfl rfl ?_
      refine mm_ifnull dX8_become_107 ?_
      refine mm_aload 0 dX8_become_110 rfl ?_
      refine mm_ifnull dX8_become_112 ?_
      refine mm_aload_n 1 dX8_become_115 rfl rfl ?_
      refine mm_aload 0 dX8_become_116 rfl ?_
      refine mm_cV1v (dz := d - 1) dX8_become_118 rfl mzX4_become ml_X8_90 imX4_become (by omega) (sp_86 (show i < 6 by omega)).1 ⟨rfl, rfl⟩ (bg_pr86 (p := i) (by omega) (by omega)) (Nat.le_of_ble_eq_true rfl) ⟨Nat.le_refl _, Nat.le_refl _⟩ ?_
      refine mm_at (pc' := 121) rfl ?_
      refine mm_iincN (ls' := [(2, .int (nI (i + 1))), (4, .ref (52 + 5 * i)), (3, .ref (137 + 5 * i)), (0, .ref 86), (1, .ref 1)]) 2 (i) 1 dX8_become_121 rfl rfl (by decide) rfl ?_
      refine mm_goto (tgt := 87) dX8_become_124 (by decide) ?_
      exact mm_sub [0, 3, 4] rfl (ih (i + 1) (by omega) (by omega))
set_option maxRecDepth 100000 in
set_option maxHeartbeats 600000 in
theorem bg_lm86 {g : mm_G} {d n : Nat} {I : mm_I} {Q : Option Value → mm_Sh → mm_I → Prop} {L : List (Nat × Nat × Nat)} (hn : I 1 4 = nI n) (hn5 : n ≤ 5) (hL : bcL L 0 4 = true) (hd : 4 ≤ d) (hx : mm_Ex g zX8_become d (0, 0) (0, 0) sh_S (bcK I 86 1 (mcs n ++ L)) 85 [(0, .ref 86), (1, .ref 1)] [] Q) : ∀ (mf i : Nat), i ≤ n → n - i < mf → mm_Ex g zX8_become d (0, 0) (0, 0) sh_S (bcK I 86 1 (mcs i ++ L)) 43 [(2, .int (nI (i))), (0, .ref 86), (1, .ref 1)] [] Q := by
  intro mf
  induction mf with
  | zero => intro i hi hmz; exact absurd hmz (Nat.not_lt_zero _)
  | succ mf ih =>
    intro i hi hmz
    refine mm_iload_n 0 dX8_become_43 rfl rfl ?_
    refine mm_aload_n 1 dX8_become_44 rfl rfl ?_
    refine mm_geti dX8_become_45 rfl fk_X8_39 rfl so_86 ?_
    refine mm_top (v := nI (n)) ((bcK_i (x := 0) (by omega) (bcL_r hL)).trans hn) ?_
    refine mm_icmp_geN (i) (n) (tgt := 85) dX8_become_48 (by decide) (by omega) (by omega) (fun c48 => ?_) (fun c48 => ?_)
    · have e : i = n := by omega
      subst e; exact mm_sub [1, 2] rfl hx
    · refine mm_aload_n 1 dX8_become_51 rfl rfl ?_
      refine mm_iload_n 0 dX8_become_52 rfl rfl ?_
      refine mm_cV1r (dz := d - 1) dX8_become_53 rfl mzX8_worker ml_X8_79 imX8_worker (by omega) so_86 ⟨rfl, rfl⟩ (bg_wk86 (n := n) (m := i) ((bcK_i (x := 0) (by omega) (bcL_r hL)).trans hn) (by omega) hn5) (Nat.le_of_ble_eq_true rfl) ⟨Nat.le_refl _, Nat.le_refl _⟩ ?_
      refine mm_astore_n (ls' := [(3, .ref (121 + 3 * i)), (2, .int (nI (i))), (0, .ref 86), (1, .ref 1)]) dX8_become_56 rfl (by decide) rfl ?_
      refine mm_aload_n 3 dX8_become_57 rfl rfl ?_
      refine mm_iload_n 1 dX8_become_58 rfl rfl ?_
      refine mm_cV1r (dz := d - 1) dX8_become_59 rfl mzX8_worker ml_X8_79 imX8_worker (by omega) so_1 ⟨rfl, rfl⟩ (bg_wk1 (n := n) (m := i) ((bcK_o (by omega)).trans hn) (by omega) hn5) (Nat.le_of_ble_eq_true rfl) ⟨Nat.le_refl _, Nat.le_refl _⟩ ?_
      refine mm_at (pc' := 62) rfl ?_
      refine mm_astore (ls' := [(4, .ref (36 + 3 * i)), (3, .ref (121 + 3 * i)), (2, .int (nI (i))), (0, .ref 86), (1, .ref 1)]) dX8_become_62 (by decide) rfl ?_
      refine mm_aload_n 1 dX8_become_64 rfl rfl ?_
      refine mm_ifnull dX8_become_65 ?_
      refine mm_aload 0 dX8_become_68 rfl ?_
      refine mm_ifnull dX8_become_70 ?_
      refine mm_aload_n 1 dX8_become_73 rfl rfl ?_
      refine mm_aload 0 dX8_become_74 rfl ?_
      refine mm_cV1v (dz := d - 1) dX8_become_76 rfl mzX1_become ml_X8_83 imX1_become (by omega) (sm_86 (show i < 5 by omega)).1 ⟨rfl, rfl⟩ (bg_ma86 (m := i) (by omega) (by omega)) (Nat.le_of_ble_eq_true rfl) ⟨Nat.le_refl _, Nat.le_refl _⟩ ?_
      refine mm_at (pc' := 79) rfl ?_
      refine mm_iincN (ls' := [(2, .int (nI (i + 1))), (4, .ref (36 + 3 * i)), (3, .ref (121 + 3 * i)), (0, .ref 86), (1, .ref 1)]) 2 (i) 1 dX8_become_79 rfl rfl (by decide) rfl ?_
      refine mm_goto (tgt := 43) dX8_become_82 (by decide) ?_
      exact mm_sub [0, 3, 4] rfl (ih (i + 1) (by omega) (by omega))
def siL (n : Nat) : List (Nat × Nat × Nat) := (83, 1, 2) :: (83 + 1, 0, 300) :: (81, 1, 2) :: (81 + 1, 0, 36) :: (pcs 6 ++ (mcs n ++ ((0, 4, 5) :: (woL ++ (poL ++ (grL ++ []))))))
theorem bcK_0 {I : mm_I} {d s : Nat} : I = bcK I d s [] := by
  funext a i; unfold bcK; rw [if_neg (fun q => by have := q.2.2; simp [bcL] at this)]
set_option maxRecDepth 100000 in
set_option maxHeartbeats 600000 in
theorem bg_si86 {g : mm_G} {d n : Nat} {I : mm_I} (hn : I 1 4 = nI n) (hn5 : n ≤ 5) (hd : 4 ≤ d) : mm_Cv g zX8_become d [.ref 86, .ref 1] sh_S I (bcK I 86 1 (siL n)) := by
  refine mm_Cv_of (fun Q hq => ?_)
  refine mm_begin (ls := [(0, .ref 86), (1, .ref 1)]) (Nat.le_of_ble_eq_true rfl) rfl rfl ?_
  refine mm_mem (J := bcK I 86 1 ([])) bcK_0 ?_
  refine mm_aload_n 0 dX8_become_0 rfl rfl ?_
  refine mm_getr (b := 87) dX8_become_1 rfl fk_X8_12 rfl so_86 sr_86_0 ?_
  refine mm_aload_n 1 dX8_become_4 rfl rfl ?_
  refine mm_getr (b := 2) dX8_become_5 rfl fk_X8_12 rfl so_1 sr_1_0 ?_
  refine mm_cV1v (dz := d - 1) dX8_become_8 rfl mzX0_become ml_X8_69 imX0_become (by omega) so_87 ⟨rfl, rfl⟩ (bg_gr86 (by omega)) (Nat.le_of_ble_eq_true rfl) ⟨Nat.le_refl _, Nat.le_refl _⟩ ?_
  refine mm_aload_n 0 dX8_become_11 rfl rfl ?_
  refine mm_getr (b := 102) dX8_become_12 rfl fk_X8_21 rfl so_86 sr_86_1 ?_
  refine mm_aload_n 1 dX8_become_15 rfl rfl ?_
  refine mm_at (pc' := 16) rfl ?_
  refine mm_getr (b := 17) dX8_become_16 rfl fk_X8_21 rfl so_1 sr_1_1 ?_
  refine mm_cV1v (dz := d - 1) dX8_become_19 rfl mzX3_become ml_X8_73 imX3_become (by omega) so_102 ⟨rfl, rfl⟩ (bg_po86 (by omega)) (Nat.le_of_ble_eq_true rfl) ⟨Nat.le_refl _, Nat.le_refl _⟩ ?_
  refine mm_aload_n 0 dX8_become_22 rfl rfl ?_
  refine mm_getr (b := 107) dX8_become_23 rfl fk_X8_28 rfl so_86 sr_86_2 ?_
  refine mm_aload_n 1 dX8_become_26 rfl rfl ?_
  refine mm_getr (b := 22) dX8_become_27 rfl fk_X8_28 rfl so_1 sr_1_2 ?_
  refine mm_cV1v (dz := d - 1) dX8_become_30 rfl mzX10_become ml_X8_76 imX10_become (by omega) so_107 ⟨rfl, rfl⟩ (bg_wo86 (by omega)) (Nat.le_of_ble_eq_true rfl) ⟨Nat.le_refl _, Nat.le_refl _⟩ ?_
  refine mm_aload_n 0 dX8_become_33 rfl rfl ?_
  refine mm_at (pc' := 34) rfl ?_
  refine mm_aload_n 1 dX8_become_34 rfl rfl ?_
  refine mm_geti dX8_become_35 rfl fk_X8_39 rfl so_1 ?_
  refine mm_top (v := I 1 4) (bcK_o (by omega)) ?_
  refine mm_puti dX8_become_38 rfl fk_X8_39 rfl fv_8_4 so_86 ?_
  refine mm_mem (J := bcK I 86 1 ((0, 4, 5) :: (woL ++ (poL ++ (grL ++ []))))) (bcK_up (x := 0) (by omega) (by omega) (by first | rfl | (congr 1; omega))) ?_
  refine mm_iconst (v := 0) dX8_become_41 rfl ?_
  refine mm_istore_n (ls' := [(2, .int (0)), (0, .ref 86), (1, .ref 1)]) dX8_become_42 rfl (by decide) rfl ?_
  refine mm_sub [0, 1, 2] rfl (bg_lm86 hn hn5 (bcL_c.mpr (Or.inl ⟨rfl, by omega, by omega⟩)) (by omega) ?_ (n + 1) 0 (Nat.zero_le _) (by omega))
  refine mm_iconst (v := 0) dX8_become_85 rfl ?_
  refine mm_istore_n (ls' := [(2, .int (0)), (0, .ref 86), (1, .ref 1)]) dX8_become_86 rfl (by decide) rfl ?_
  refine mm_sub [0, 1, 2] rfl (bg_lp86 (by omega) ?_ 7 0 (Nat.zero_le _) (by omega))
  refine mm_aload_n 0 dX8_become_127 rfl rfl ?_
  refine mm_getr (b := 167) dX8_become_128 rfl fk_X8_55 rfl so_86 sr_86_6 ?_
  refine mm_aload_n 1 dX8_become_131 rfl rfl ?_
  refine mm_getr (b := 82) dX8_become_132 rfl fk_X8_55 rfl so_1 sr_1_6 ?_
  refine mm_cV1v (dz := d - 1) dX8_become_135 rfl mzX5_become ml_X8_93 imX5_become (by omega) so_167 ⟨rfl, rfl⟩ (ct_become rw_167 rw_82 (by omega) (by omega)) (Nat.le_of_ble_eq_true rfl) ⟨Nat.le_refl _, Nat.le_refl _⟩ ?_
  refine mm_mem (J := bcK I 86 1 ((81, 1, 2) :: (81 + 1, 0, 36) :: (pcs 6 ++ (mcs n ++ ((0, 4, 5) :: (woL ++ (poL ++ (grL ++ [])))))))) (bcK_rw (x := 81) (by omega) (by omega) (by omega) (by omega)) ?_
  refine mm_aload_n 0 dX8_become_138 rfl rfl ?_
  refine mm_getr (b := 169) dX8_become_139 rfl fk_X8_59 rfl so_86 sr_86_7 ?_
  refine mm_aload_n 1 dX8_become_142 rfl rfl ?_
  refine mm_at (pc' := 143) rfl ?_
  refine mm_getr (b := 84) dX8_become_143 rfl fk_X8_59 rfl so_1 sr_1_7 ?_
  refine mm_cV1v (dz := d - 1) dX8_become_146 rfl mzX5_become ml_X8_93 imX5_become (by omega) so_169 ⟨rfl, rfl⟩ (ct_become rw_169 rw_84 (by omega) (by omega)) (Nat.le_of_ble_eq_true rfl) ⟨Nat.le_refl _, Nat.le_refl _⟩ ?_
  refine mm_mem (J := bcK I 86 1 ((83, 1, 2) :: (83 + 1, 0, 300) :: ((81, 1, 2) :: (81 + 1, 0, 36) :: (pcs 6 ++ (mcs n ++ ((0, 4, 5) :: (woL ++ (poL ++ (grL ++ []))))))))) (bcK_rw (x := 83) (by omega) (by omega) (by omega) (by omega)) ?_
  refine mm_vret dX8_become_149 rfl ⟨Nat.le_refl _, Nat.le_refl _⟩ ?_
  exact hq
set_option maxRecDepth 100000 in
set_option maxHeartbeats 600000 in
theorem bg_lp1 {g : mm_G} {d : Nat} {I : mm_I} {Q : Option Value → mm_Sh → mm_I → Prop} {L : List (Nat × Nat × Nat)} (hd : 4 ≤ d) (hx : mm_Ex g zX8_become d (0, 0) (0, 0) sh_S (bcK I 1 86 (pcs 6 ++ L)) 127 [(0, .ref 1), (1, .ref 86)] [] Q) : ∀ (mf i : Nat), i ≤ 6 → 6 - i < mf → mm_Ex g zX8_become d (0, 0) (0, 0) sh_S (bcK I 1 86 (pcs i ++ L)) 87 [(2, .int (nI (i))), (0, .ref 1), (1, .ref 86)] [] Q := by
  intro mf
  induction mf with
  | zero => intro i hi hmz; exact absurd hmz (Nat.not_lt_zero _)
  | succ mf ih =>
    intro i hi hmz
    refine mm_iload_n 0 dX8_become_87 rfl rfl ?_
    refine mm_bipush (v := 6) dX8_become_88 rfl ?_
    refine mm_icmp_geN (i) (6) (tgt := 127) dX8_become_90 (by decide) (by omega) (by omega) (fun c90 => ?_) (fun c90 => ?_)
    · have e : i = 6 := by omega
      subst e; exact mm_sub [1, 2] rfl hx
    · refine mm_aload_n 1 dX8_become_93 rfl rfl ?_
      refine mm_iload_n 0 dX8_become_94 rfl rfl ?_
      refine mm_cV1r (dz := d - 1) dX8_become_95 rfl mzX8_script ml_X8_86 imX8_script (by omega) so_1 ⟨rfl, rfl⟩ (bg_sc1 (p := i) (by omega)) (Nat.le_of_ble_eq_true rfl) ⟨Nat.le_refl _, Nat.le_refl _⟩ ?_
      refine mm_astore_n (ls' := [(3, .ref (52 + 5 * i)), (2, .int (nI (i))), (0, .ref 1), (1, .ref 86)]) dX8_become_98 rfl (by decide) rfl ?_
      refine mm_aload_n 3 dX8_become_99 rfl rfl ?_
      refine mm_iload_n 1 dX8_become_100 rfl rfl ?_
      refine mm_cV1r (dz := d - 1) dX8_become_101 rfl mzX8_script ml_X8_86 imX8_script (by omega) so_86 ⟨rfl, rfl⟩ (bg_sc86 (p := i) (by omega)) (Nat.le_of_ble_eq_true rfl) ⟨Nat.le_refl _, Nat.le_refl _⟩ ?_
      refine mm_at (pc' := 104) rfl ?_
      refine mm_astore (ls' := [(4, .ref (137 + 5 * i)), (3, .ref (52 + 5 * i)), (2, .int (nI (i))), (0, .ref 1), (1, .ref 86)]) dX8_become_104 (by decide) rfl ?_
      refine mm_aload_n 1 dX8_become_106 rfl rfl ?_
      refine mm_ifnull dX8_become_107 ?_
      refine mm_aload 0 dX8_become_110 rfl ?_
      refine mm_ifnull dX8_become_112 ?_
      refine mm_aload_n 1 dX8_become_115 rfl rfl ?_
      refine mm_aload 0 dX8_become_116 rfl ?_
      refine mm_cV1v (dz := d - 1) dX8_become_118 rfl mzX4_become ml_X8_90 imX4_become (by omega) (sp_1 (show i < 6 by omega)).1 ⟨rfl, rfl⟩ (bg_pr1 (p := i) (by omega) (by omega)) (Nat.le_of_ble_eq_true rfl) ⟨Nat.le_refl _, Nat.le_refl _⟩ ?_
      refine mm_at (pc' := 121) rfl ?_
      refine mm_iincN (ls' := [(2, .int (nI (i + 1))), (4, .ref (137 + 5 * i)), (3, .ref (52 + 5 * i)), (0, .ref 1), (1, .ref 86)]) 2 (i) 1 dX8_become_121 rfl rfl (by decide) rfl ?_
      refine mm_goto (tgt := 87) dX8_become_124 (by decide) ?_
      exact mm_sub [0, 3, 4] rfl (ih (i + 1) (by omega) (by omega))
set_option maxRecDepth 100000 in
set_option maxHeartbeats 600000 in
theorem bg_lm1 {g : mm_G} {d n : Nat} {I : mm_I} {Q : Option Value → mm_Sh → mm_I → Prop} {L : List (Nat × Nat × Nat)} (hn : I 86 4 = nI n) (hn5 : n ≤ 5) (hL : bcL L 0 4 = true) (hd : 4 ≤ d) (hx : mm_Ex g zX8_become d (0, 0) (0, 0) sh_S (bcK I 1 86 (mcs n ++ L)) 85 [(0, .ref 1), (1, .ref 86)] [] Q) : ∀ (mf i : Nat), i ≤ n → n - i < mf → mm_Ex g zX8_become d (0, 0) (0, 0) sh_S (bcK I 1 86 (mcs i ++ L)) 43 [(2, .int (nI (i))), (0, .ref 1), (1, .ref 86)] [] Q := by
  intro mf
  induction mf with
  | zero => intro i hi hmz; exact absurd hmz (Nat.not_lt_zero _)
  | succ mf ih =>
    intro i hi hmz
    refine mm_iload_n 0 dX8_become_43 rfl rfl ?_
    refine mm_aload_n 1 dX8_become_44 rfl rfl ?_
    refine mm_geti dX8_become_45 rfl fk_X8_39 rfl so_1 ?_
    refine mm_top (v := nI (n)) ((bcK_i (x := 0) (by omega) (bcL_r hL)).trans hn) ?_
    refine mm_icmp_geN (i) (n) (tgt := 85) dX8_become_48 (by decide) (by omega) (by omega) (fun c48 => ?_) (fun c48 => ?_)
    · have e : i = n := by omega
      subst e; exact mm_sub [1, 2] rfl hx
    · refine mm_aload_n 1 dX8_become_51 rfl rfl ?_
      refine mm_iload_n 0 dX8_become_52 rfl rfl ?_
      refine mm_cV1r (dz := d - 1) dX8_become_53 rfl mzX8_worker ml_X8_79 imX8_worker (by omega) so_1 ⟨rfl, rfl⟩ (bg_wk1 (n := n) (m := i) ((bcK_i (x := 0) (by omega) (bcL_r hL)).trans hn) (by omega) hn5) (Nat.le_of_ble_eq_true rfl) ⟨Nat.le_refl _, Nat.le_refl _⟩ ?_
      refine mm_astore_n (ls' := [(3, .ref (36 + 3 * i)), (2, .int (nI (i))), (0, .ref 1), (1, .ref 86)]) dX8_become_56 rfl (by decide) rfl ?_
      refine mm_aload_n 3 dX8_become_57 rfl rfl ?_
      refine mm_iload_n 1 dX8_become_58 rfl rfl ?_
      refine mm_cV1r (dz := d - 1) dX8_become_59 rfl mzX8_worker ml_X8_79 imX8_worker (by omega) so_86 ⟨rfl, rfl⟩ (bg_wk86 (n := n) (m := i) ((bcK_o (by omega)).trans hn) (by omega) hn5) (Nat.le_of_ble_eq_true rfl) ⟨Nat.le_refl _, Nat.le_refl _⟩ ?_
      refine mm_at (pc' := 62) rfl ?_
      refine mm_astore (ls' := [(4, .ref (121 + 3 * i)), (3, .ref (36 + 3 * i)), (2, .int (nI (i))), (0, .ref 1), (1, .ref 86)]) dX8_become_62 (by decide) rfl ?_
      refine mm_aload_n 1 dX8_become_64 rfl rfl ?_
      refine mm_ifnull dX8_become_65 ?_
      refine mm_aload 0 dX8_become_68 rfl ?_
      refine mm_ifnull dX8_become_70 ?_
      refine mm_aload_n 1 dX8_become_73 rfl rfl ?_
      refine mm_aload 0 dX8_become_74 rfl ?_
      refine mm_cV1v (dz := d - 1) dX8_become_76 rfl mzX1_become ml_X8_83 imX1_become (by omega) (sm_1 (show i < 5 by omega)).1 ⟨rfl, rfl⟩ (bg_ma1 (m := i) (by omega) (by omega)) (Nat.le_of_ble_eq_true rfl) ⟨Nat.le_refl _, Nat.le_refl _⟩ ?_
      refine mm_at (pc' := 79) rfl ?_
      refine mm_iincN (ls' := [(2, .int (nI (i + 1))), (4, .ref (121 + 3 * i)), (3, .ref (36 + 3 * i)), (0, .ref 1), (1, .ref 86)]) 2 (i) 1 dX8_become_79 rfl rfl (by decide) rfl ?_
      refine mm_goto (tgt := 43) dX8_become_82 (by decide) ?_
      exact mm_sub [0, 3, 4] rfl (ih (i + 1) (by omega) (by omega))
set_option maxRecDepth 100000 in
set_option maxHeartbeats 600000 in
theorem bg_si1 {g : mm_G} {d n : Nat} {I : mm_I} (hn : I 86 4 = nI n) (hn5 : n ≤ 5) (hd : 4 ≤ d) : mm_Cv g zX8_become d [.ref 1, .ref 86] sh_S I (bcK I 1 86 (siL n)) := by
  refine mm_Cv_of (fun Q hq => ?_)
  refine mm_begin (ls := [(0, .ref 1), (1, .ref 86)]) (Nat.le_of_ble_eq_true rfl) rfl rfl ?_
  refine mm_mem (J := bcK I 1 86 ([])) bcK_0 ?_
  refine mm_aload_n 0 dX8_become_0 rfl rfl ?_
  refine mm_getr (b := 2) dX8_become_1 rfl fk_X8_12 rfl so_1 sr_1_0 ?_
  refine mm_aload_n 1 dX8_become_4 rfl rfl ?_
  refine mm_getr (b := 87) dX8_become_5 rfl fk_X8_12 rfl so_86 sr_86_0 ?_
  refine mm_cV1v (dz := d - 1) dX8_become_8 rfl mzX0_become ml_X8_69 imX0_become (by omega) so_2 ⟨rfl, rfl⟩ (bg_gr1 (by omega)) (Nat.le_of_ble_eq_true rfl) ⟨Nat.le_refl _, Nat.le_refl _⟩ ?_
  refine mm_aload_n 0 dX8_become_11 rfl rfl ?_
  refine mm_getr (b := 17) dX8_become_12 rfl fk_X8_21 rfl so_1 sr_1_1 ?_
  refine mm_aload_n 1 dX8_become_15 rfl rfl ?_
  refine mm_at (pc' := 16) rfl ?_
  refine mm_getr (b := 102) dX8_become_16 rfl fk_X8_21 rfl so_86 sr_86_1 ?_
  refine mm_cV1v (dz := d - 1) dX8_become_19 rfl mzX3_become ml_X8_73 imX3_become (by omega) so_17 ⟨rfl, rfl⟩ (bg_po1 (by omega)) (Nat.le_of_ble_eq_true rfl) ⟨Nat.le_refl _, Nat.le_refl _⟩ ?_
  refine mm_aload_n 0 dX8_become_22 rfl rfl ?_
  refine mm_getr (b := 22) dX8_become_23 rfl fk_X8_28 rfl so_1 sr_1_2 ?_
  refine mm_aload_n 1 dX8_become_26 rfl rfl ?_
  refine mm_getr (b := 107) dX8_become_27 rfl fk_X8_28 rfl so_86 sr_86_2 ?_
  refine mm_cV1v (dz := d - 1) dX8_become_30 rfl mzX10_become ml_X8_76 imX10_become (by omega) so_22 ⟨rfl, rfl⟩ (bg_wo1 (by omega)) (Nat.le_of_ble_eq_true rfl) ⟨Nat.le_refl _, Nat.le_refl _⟩ ?_
  refine mm_aload_n 0 dX8_become_33 rfl rfl ?_
  refine mm_at (pc' := 34) rfl ?_
  refine mm_aload_n 1 dX8_become_34 rfl rfl ?_
  refine mm_geti dX8_become_35 rfl fk_X8_39 rfl so_86 ?_
  refine mm_top (v := I 86 4) (bcK_o (by omega)) ?_
  refine mm_puti dX8_become_38 rfl fk_X8_39 rfl fv_8_4 so_1 ?_
  refine mm_mem (J := bcK I 1 86 ((0, 4, 5) :: (woL ++ (poL ++ (grL ++ []))))) (bcK_up (x := 0) (by omega) (by omega) (by first | rfl | (congr 1; omega))) ?_
  refine mm_iconst (v := 0) dX8_become_41 rfl ?_
  refine mm_istore_n (ls' := [(2, .int (0)), (0, .ref 1), (1, .ref 86)]) dX8_become_42 rfl (by decide) rfl ?_
  refine mm_sub [0, 1, 2] rfl (bg_lm1 hn hn5 (bcL_c.mpr (Or.inl ⟨rfl, by omega, by omega⟩)) (by omega) ?_ (n + 1) 0 (Nat.zero_le _) (by omega))
  refine mm_iconst (v := 0) dX8_become_85 rfl ?_
  refine mm_istore_n (ls' := [(2, .int (0)), (0, .ref 1), (1, .ref 86)]) dX8_become_86 rfl (by decide) rfl ?_
  refine mm_sub [0, 1, 2] rfl (bg_lp1 (by omega) ?_ 7 0 (Nat.zero_le _) (by omega))
  refine mm_aload_n 0 dX8_become_127 rfl rfl ?_
  refine mm_getr (b := 82) dX8_become_128 rfl fk_X8_55 rfl so_1 sr_1_6 ?_
  refine mm_aload_n 1 dX8_become_131 rfl rfl ?_
  refine mm_getr (b := 167) dX8_become_132 rfl fk_X8_55 rfl so_86 sr_86_6 ?_
  refine mm_cV1v (dz := d - 1) dX8_become_135 rfl mzX5_become ml_X8_93 imX5_become (by omega) so_82 ⟨rfl, rfl⟩ (ct_become rw_82 rw_167 (by omega) (by omega)) (Nat.le_of_ble_eq_true rfl) ⟨Nat.le_refl _, Nat.le_refl _⟩ ?_
  refine mm_mem (J := bcK I 1 86 ((81, 1, 2) :: (81 + 1, 0, 36) :: (pcs 6 ++ (mcs n ++ ((0, 4, 5) :: (woL ++ (poL ++ (grL ++ [])))))))) (bcK_rw (x := 81) (by omega) (by omega) (by omega) (by omega)) ?_
  refine mm_aload_n 0 dX8_become_138 rfl rfl ?_
  refine mm_getr (b := 84) dX8_become_139 rfl fk_X8_59 rfl so_1 sr_1_7 ?_
  refine mm_aload_n 1 dX8_become_142 rfl rfl ?_
  refine mm_at (pc' := 143) rfl ?_
  refine mm_getr (b := 169) dX8_become_143 rfl fk_X8_59 rfl so_86 sr_86_7 ?_
  refine mm_cV1v (dz := d - 1) dX8_become_146 rfl mzX5_become ml_X8_93 imX5_become (by omega) so_84 ⟨rfl, rfl⟩ (ct_become rw_84 rw_169 (by omega) (by omega)) (Nat.le_of_ble_eq_true rfl) ⟨Nat.le_refl _, Nat.le_refl _⟩ ?_
  refine mm_mem (J := bcK I 1 86 ((83, 1, 2) :: (83 + 1, 0, 300) :: ((81, 1, 2) :: (81 + 1, 0, 36) :: (pcs 6 ++ (mcs n ++ ((0, 4, 5) :: (woL ++ (poL ++ (grL ++ []))))))))) (bcK_rw (x := 83) (by omega) (by omega) (by omega) (by omega)) ?_
  refine mm_vret dX8_become_149 rfl ⟨Nat.le_refl _, Nat.le_refl _⟩ ?_
  exact hq
