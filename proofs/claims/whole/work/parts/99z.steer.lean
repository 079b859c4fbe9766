/-! THE CLASS: one act -/
set_option maxRecDepth 100000 in
set_option maxHeartbeats 600000 in
theorem cg_code {g : mm_G} {d : Nat} {I : mm_I} {p x : Nat} (hp : p < 6) (hx : x < 40) (hd : 1 ≤ d) : mm_Ci g zX4_code d [.ref (52 + 5 * p), .int (nI (x))] sh_S (I) (I (53 + 5 * p + 1) (x * 3)) (I) := by
  refine mm_Ci_of (fun Q hq => ?_)
  refine mm_begin (ls := [(0, .ref (52 + 5 * p)), (1, .int (nI (x)))]) (Nat.le_of_ble_eq_true rfl) rfl rfl ?_
  refine mm_aload_n 0 dX4_code_0 rfl rfl ?_
  refine mm_getr (b := 53 + 5 * p) dX4_code_1 rfl fk_X4_16 rfl (sp_1 hp).1 (sp_1 hp).2.1 ?_
  refine mm_iload_n 1 dX4_code_4 rfl rfl ?_
  refine mm_iconst (v := 3) dX4_code_5 rfl ?_
  refine mm_imulN (x) (3) dX4_code_6 ?_
  refine mm_cV1i (dz := d - 1) dX4_code_7 rfl mzX5_at ml_X4_38 imX5_at (by omega) (sp_1 hp).2.2.1.1 ⟨rfl, rfl⟩ (ct_at (sp_1 hp).2.2.1 (x * 3) (by omega)) (Nat.le_of_ble_eq_true rfl) ⟨Nat.le_refl _, Nat.le_refl _⟩ ?_
  refine mm_iret dX4_code_10 rfl ⟨Nat.le_refl _, Nat.le_refl _⟩ ?_
  exact hq
set_option maxRecDepth 100000 in
set_option maxHeartbeats 600000 in
theorem cg_first {g : mm_G} {d : Nat} {I : mm_I} {p x : Nat} (hp : p < 6) (hx : x < 40) (hd : 1 ≤ d) : mm_Ci g zX4_first d [.ref (52 + 5 * p), .int (nI (x))] sh_S (I) (I (53 + 5 * p + 1) (x * 3 + 1)) (I) := by
  refine mm_Ci_of (fun Q hq => ?_)
  refine mm_begin (ls := [(0, .ref (52 + 5 * p)), (1, .int (nI (x)))]) (Nat.le_of_ble_eq_true rfl) rfl rfl ?_
  refine mm_aload_n 0 dX4_first_0 rfl rfl ?_
  refine mm_getr (b := 53 + 5 * p) dX4_first_1 rfl fk_X4_16 rfl (sp_1 hp).1 (sp_1 hp).2.1 ?_
  refine mm_iload_n 1 dX4_first_4 rfl rfl ?_
  refine mm_iconst (v := 3) dX4_first_5 rfl ?_
  refine mm_imulN (x) (3) dX4_first_6 ?_
  refine mm_iconst (v := 1) dX4_first_7 rfl ?_
  refine mm_iaddN (x * 3) (1) dX4_first_8 ?_
  refine mm_cV1i (dz := d - 1) dX4_first_9 rfl mzX5_at ml_X4_38 imX5_at (by omega) (sp_1 hp).2.2.1.1 ⟨rfl, rfl⟩ (ct_at (sp_1 hp).2.2.1 ((x * 3) + 1) (by omega)) (Nat.le_of_ble_eq_true rfl) ⟨Nat.le_refl _, Nat.le_refl _⟩ ?_
  refine mm_at (pc' := 12) rfl ?_
  refine mm_iret dX4_first_12 rfl ⟨Nat.le_refl _, Nat.le_refl _⟩ ?_
  exact hq
set_option maxRecDepth 100000 in
set_option maxHeartbeats 600000 in
theorem cg_second {g : mm_G} {d : Nat} {I : mm_I} {p x : Nat} (hp : p < 6) (hx : x < 40) (hd : 1 ≤ d) : mm_Ci g zX4_second d [.ref (52 + 5 * p), .int (nI (x))] sh_S (I) (I (53 + 5 * p + 1) (x * 3 + 2)) (I) := by
  refine mm_Ci_of (fun Q hq => ?_)
  refine mm_begin (ls := [(0, .ref (52 + 5 * p)), (1, .int (nI (x)))]) (Nat.le_of_ble_eq_true rfl) rfl rfl ?_
  refine mm_aload_n 0 dX4_second_0 rfl rfl ?_
  refine mm_getr (b := 53 + 5 * p) dX4_second_1 rfl fk_X4_16 rfl (sp_1 hp).1 (sp_1 hp).2.1 ?_
  refine mm_iload_n 1 dX4_second_4 rfl rfl ?_
  refine mm_iconst (v := 3) dX4_second_5 rfl ?_
  refine mm_imulN (x) (3) dX4_second_6 ?_
  refine mm_iconst (v := 2) dX4_second_7 rfl ?_
  refine mm_iaddN (x * 3) (2) dX4_second_8 ?_
  refine mm_cV1i (dz := d - 1) dX4_second_9 rfl mzX5_at ml_X4_38 imX5_at (by omega) (sp_1 hp).2.2.1.1 ⟨rfl, rfl⟩ (ct_at (sp_1 hp).2.2.1 ((x * 3) + 2) (by omega)) (Nat.le_of_ble_eq_true rfl) ⟨Nat.le_refl _, Nat.le_refl _⟩ ?_
  refine mm_at (pc' := 12) rfl ?_
  refine mm_iret dX4_second_12 rfl ⟨Nat.le_refl _, Nat.le_refl _⟩ ?_
  exact hq
set_option maxRecDepth 100000 in
set_option maxHeartbeats 600000 in
theorem cg_len {g : mm_G} {d : Nat} {I : mm_I} {p a : Nat} (hp : p < 6) (ha : I (53 + 5 * p) 1 = nI (3 * a)) (ha40 : a ≤ 40) (hd : 1 ≤ d) : mm_Ci g zX4_length d [.ref (52 + 5 * p)] sh_S (I) (nI a) (I) := by
  refine mm_Ci_of (fun Q hq => ?_)
  refine mm_begin (ls := [(0, .ref (52 + 5 * p))]) (Nat.le_of_ble_eq_true rfl) rfl rfl ?_
  refine mm_aload_n 0 dX4_length_0 rfl rfl ?_
  refine mm_getr (b := 53 + 5 * p) dX4_length_1 rfl fk_X4_16 rfl (sp_1 hp).1 (sp_1 hp).2.1 ?_
  refine mm_cV0i (dz := d - 1) dX4_length_4 rfl mzX5_size ml_X4_34 imX5_size (by omega) (sp_1 hp).2.2.1.1 ⟨rfl, rfl⟩ (ct_size (sp_1 hp).2.2.1) (Nat.le_of_ble_eq_true rfl) ⟨Nat.le_refl _, Nat.le_refl _⟩ ?_
  refine mm_top (v := nI (3 * a)) ha ?_
  refine mm_iconst (v := 3) dX4_length_7 rfl ?_
  refine mm_idivN (3 * a) (3) dX4_length_8 (by omega) (by omega) (by omega) ?_
  refine mm_top (v := nI a) (by rw [Nat.mul_div_cancel_left _ (by decide)]) ?_
  refine mm_iret dX4_length_9 rfl ⟨Nat.le_refl _, Nat.le_refl _⟩ ?_
  exact hq
set_option maxRecDepth 100000 in
set_option maxHeartbeats 600000 in
theorem cg_stJ {g : mm_G} {d : Nat} {w h n l k o r : Nat} {A : mm_I} {N : Nat → Int32} (hz : zOK (w * h) n l k o r) (hW : mo_W N w h) {m p x : Nat} (hm : m < n) (hp : p < 6) (hx : x < 40) (hpl : A (36 + 3 * m) 7 = nI x) {y : Nat} (hc0 : A (54 + 5 * p) (3 * x) = 12) (hc2 : A (54 + 5 * p) (3 * x + 2) = nI (y)) (hd : 3 ≤ d) : mm_Ci g zX6_steer d [.ref 171, .ref (36 + 3 * m), .ref (52 + 5 * p)] sh_S (cN (w * h) n l k o r A N) (0) (cN (w * h) n l k o r (mm_up (mm_up A (36 + 3 * m) 7 (nI (x + 1))) (36 + 3 * m) 7 (nI y)) N) := by
  obtain ⟨hz1, hz2, hz3, hz4, hz5, hz6⟩ := id hz
  have hc := mo_W_c hW
  obtain ⟨-, -, hw1, hw2, hh1, hh2⟩ := id hW
  refine mm_Ci_of (fun Q hq => ?_)
  refine mm_begin (ls := [(0, .ref 171), (1, .ref (36 + 3 * m)), (2, .ref (52 + 5 * p))]) (Nat.le_of_ble_eq_true rfl) rfl rfl ?_
  refine mm_aload_n 1 dX6_steer_0 rfl rfl ?_
  refine mm_geti dX6_steer_1 rfl fk_X6_148 rfl (sm_1 (show m < 5 by omega)).1 ?_
  refine mm_top (v := nI (x)) ((s_m7 hz2 (by omega)).trans hpl) ?_
  refine mm_istore_n (ls' := [(3, .int (nI (x))), (0, .ref 171), (1, .ref (36 + 3 * m)), (2, .ref (52 + 5 * p))]) dX6_steer_4 rfl (by decide) rfl ?_
  refine mm_aload_n 3 dX6_steer_5 rfl rfl ?_
  refine mm_iload_n 0 dX6_steer_6 rfl rfl ?_
  refine mm_cV1i (dz := d - 1) dX6_steer_7 rfl mzX4_first ml_X6_161 imX4_first (by omega) (sp_1 hp).1 ⟨rfl, rfl⟩ (cg_first hp (x := x) (by omega) (by omega)) (Nat.le_of_ble_eq_true rfl) ⟨Nat.le_refl _, Nat.le_refl _⟩ ?_
  refine mm_top (v := A (54 + 5 * p) (3 * x + 1)) (by rw [cN_off hz2 (by omega), show 53 + 5 * p + 1 = 54 + 5 * p by omega, show x * 3 + 1 = 3 * x + 1 by omega]) ?_
  refine mm_istore (ls' := [(4, .int (A (54 + 5 * p) (3 * x + 1))), (3, .int (nI (x))), (0, .ref 171), (1, .ref (36 + 3 * m)), (2, .ref (52 + 5 * p))]) dX6_steer_10 (by decide) rfl ?_
  refine mm_aload_n 4 dX6_steer_12 rfl rfl ?_
  refine mm_at (pc' := 13) rfl ?_
  refine mm_iload_n 1 dX6_steer_13 rfl rfl ?_
  refine mm_cV1i (dz := d - 1) dX6_steer_14 rfl mzX4_second ml_X6_164 imX4_second (by omega) (sp_1 hp).1 ⟨rfl, rfl⟩ (cg_second hp (x := x) (by omega) (by omega)) (Nat.le_of_ble_eq_true rfl) ⟨Nat.le_refl _, Nat.le_refl _⟩ ?_
  refine mm_top (v := nI (y)) (by rw [cN_off hz2 (by omega), show 53 + 5 * p + 1 = 54 + 5 * p by omega, show x * 3 + 2 = 3 * x + 2 by omega]; exact hc2) ?_
  refine mm_istore (ls' := [(5, .int (nI (y))), (4, .int (A (54 + 5 * p) (3 * x + 1))), (3, .int (nI (x))), (0, .ref 171), (1, .ref (36 + 3 * m)), (2, .ref (52 + 5 * p))]) dX6_steer_17 (by decide) rfl ?_
  refine mm_aload_n 4 dX6_steer_19 rfl rfl ?_
  refine mm_iload_n 2 dX6_steer_20 rfl rfl ?_
  refine mm_iconst (v := 1) dX6_steer_21 rfl ?_
  refine mm_iaddN (x) (1) dX6_steer_22 ?_
  refine mm_puti dX6_steer_23 rfl fk_X6_148 rfl fv_1_7 (sm_1 (show m < 5 by omega)).1 ?_
  refine mm_at (pc' := 26) rfl ?_
  refine mm_mem (J := cN (w * h) n l k o r (mm_up A (36 + 3 * m) 7 (nI (x + 1))) N) (s_m7u hz.2.1 (by omega)) ?_
  refine mm_aload_n 5 dX6_steer_26 rfl rfl ?_
  refine mm_iload_n 2 dX6_steer_27 rfl rfl ?_
  refine mm_cV1i (dz := d - 1) dX6_steer_28 rfl mzX4_code ml_X6_158 imX4_code (by omega) (sp_1 hp).1 ⟨rfl, rfl⟩ (cg_code hp (x := x) (by omega) (by omega)) (Nat.le_of_ble_eq_true rfl) ⟨Nat.le_refl _, Nat.le_refl _⟩ ?_
  refine mm_top (v := 12) (by rw [cN_off hz2 (by omega), mm_up_ne (by omega), show 53 + 5 * p + 1 = 54 + 5 * p by omega, show x * 3 = 3 * x by omega]; exact hc0) ?_
  refine mm_tabIn (12) (tgt := 96) dX6_steer_31 rfl (by decide) (by decide) rfl (by decide) ?_
  refine mm_aload_n 4 dX6_steer_96 rfl rfl ?_
  refine mm_iload 0 dX6_steer_97 rfl ?_
  refine mm_puti dX6_steer_99 rfl fk_X6_148 rfl fv_1_7 (sm_1 (show m < 5 by omega)).1 ?_
  refine mm_mem (J := cN (w * h) n l k o r (mm_up (mm_up A (36 + 3 * m) 7 (nI (x + 1))) (36 + 3 * m) 7 (nI (y))) N) (s_m7u hz.2.1 (by omega)) ?_
  refine mm_iconst (v := 0) dX6_steer_102 rfl ?_
  refine mm_iret dX6_steer_103 rfl ⟨Nat.le_refl _, Nat.le_refl _⟩ ?_
  exact hq
set_option maxRecDepth 100000 in
set_option maxHeartbeats 600000 in
theorem cg_stS {g : mm_G} {d : Nat} {w h n l k o r : Nat} {A : mm_I} {N : Nat → Int32} (hz : zOK (w * h) n l k o r) (hW : mo_W N w h) {m p x : Nat} (hm : m < n) (hp : p < 6) (hx : x < 40) (hpl : A (36 + 3 * m) 7 = nI x) {j v : Nat} (hj : j < 4) (hc0 : A (54 + 5 * p) (3 * x) = 13) (hc1 : A (54 + 5 * p) (3 * x + 1) = nI (j)) (hc2 : A (54 + 5 * p) (3 * x + 2) = nI (v)) (hd : 3 ≤ d) : mm_Ci g zX6_steer d [.ref 171, .ref (36 + 3 * m), .ref (52 + 5 * p)] sh_S (cN (w * h) n l k o r A N) (0) (cN (w * h) n l k o r (mm_up (mm_up A (36 + 3 * m) 7 (nI (x + 1))) (37 + 3 * m + 1) j (nI v)) N) := by
  obtain ⟨hz1, hz2, hz3, hz4, hz5, hz6⟩ := id hz
  have hc := mo_W_c hW
  obtain ⟨-, -, hw1, hw2, hh1, hh2⟩ := id hW
  refine mm_Ci_of (fun Q hq => ?_)
  refine mm_begin (ls := [(0, .ref 171), (1, .ref (36 + 3 * m)), (2, .ref (52 + 5 * p))]) (Nat.le_of_ble_eq_true rfl) rfl rfl ?_
  refine mm_aload_n 1 dX6_steer_0 rfl rfl ?_
  refine mm_geti dX6_steer_1 rfl fk_X6_148 rfl (sm_1 (show m < 5 by omega)).1 ?_
  refine mm_top (v := nI (x)) ((s_m7 hz2 (by omega)).trans hpl) ?_
  refine mm_istore_n (ls' := [(3, .int (nI (x))), (0, .ref 171), (1, .ref (36 + 3 * m)), (2, .ref (52 + 5 * p))]) dX6_steer_4 rfl (by decide) rfl ?_
  refine mm_aload_n 3 dX6_steer_5 rfl rfl ?_
  refine mm_iload_n 0 dX6_steer_6 rfl rfl ?_
  refine mm_cV1i (dz := d - 1) dX6_steer_7 rfl mzX4_first ml_X6_161 imX4_first (by omega) (sp_1 hp).1 ⟨rfl, rfl⟩ (cg_first hp (x := x) (by omega) (by omega)) (Nat.le_of_ble_eq_true rfl) ⟨Nat.le_refl _, Nat.le_refl _⟩ ?_
  refine mm_top (v := nI (j)) (by rw [cN_off hz2 (by omega), show 53 + 5 * p + 1 = 54 + 5 * p by omega, show x * 3 + 1 = 3 * x + 1 by omega]; exact hc1) ?_
  refine mm_istore (ls' := [(4, .int (nI (j))), (3, .int (nI (x))), (0, .ref 171), (1, .ref (36 + 3 * m)), (2, .ref (52 + 5 * p))]) dX6_steer_10 (by decide) rfl ?_
  refine mm_aload_n 4 dX6_steer_12 rfl rfl ?_
  refine mm_at (pc' := 13) rfl ?_
  refine mm_iload_n 1 dX6_steer_13 rfl rfl ?_
  refine mm_cV1i (dz := d - 1) dX6_steer_14 rfl mzX4_second ml_X6_164 imX4_second (by omega) (sp_1 hp).1 ⟨rfl, rfl⟩ (cg_second hp (x := x) (by omega) (by omega)) (Nat.le_of_ble_eq_true rfl) ⟨Nat.le_refl _, Nat.le_refl _⟩ ?_
  refine mm_top (v := nI (v)) (by rw [cN_off hz2 (by omega), show 53 + 5 * p + 1 = 54 + 5 * p by omega, show x * 3 + 2 = 3 * x + 2 by omega]; exact hc2) ?_
  refine mm_istore (ls' := [(5, .int (nI (v))), (4, .int (nI (j))), (3, .int (nI (x))), (0, .ref 171), (1, .ref (36 + 3 * m)), (2, .ref (52 + 5 * p))]) dX6_steer_17 (by decide) rfl ?_
  refine mm_aload_n 4 dX6_steer_19 rfl rfl ?_
  refine mm_iload_n 2 dX6_steer_20 rfl rfl ?_
  refine mm_iconst (v := 1) dX6_steer_21 rfl ?_
  refine mm_iaddN (x) (1) dX6_steer_22 ?_
  refine mm_puti dX6_steer_23 rfl fk_X6_148 rfl fv_1_7 (sm_1 (show m < 5 by omega)).1 ?_
  refine mm_at (pc' := 26) rfl ?_
  refine mm_mem (J := cN (w * h) n l k o r (mm_up A (36 + 3 * m) 7 (nI (x + 1))) N) (s_m7u hz.2.1 (by omega)) ?_
  refine mm_aload_n 5 dX6_steer_26 rfl rfl ?_
  refine mm_iload_n 2 dX6_steer_27 rfl rfl ?_
  refine mm_cV1i (dz := d - 1) dX6_steer_28 rfl mzX4_code ml_X6_158 imX4_code (by omega) (sp_1 hp).1 ⟨rfl, rfl⟩ (cg_code hp (x := x) (by omega) (by omega)) (Nat.le_of_ble_eq_true rfl) ⟨Nat.le_refl _, Nat.le_refl _⟩ ?_
  refine mm_top (v := 13) (by rw [cN_off hz2 (by omega), mm_up_ne (by omega), show 53 + 5 * p + 1 = 54 + 5 * p by omega, show x * 3 = 3 * x by omega]; exact hc0) ?_
  refine mm_tabIn (13) (tgt := 104) dX6_steer_31 rfl (by decide) (by decide) rfl (by decide) ?_
  refine mm_aload_n 4 dX6_steer_104 rfl rfl ?_
  refine mm_getr (b := 37 + 3 * m) dX6_steer_105 rfl fk_X6_174 rfl (sm_1 (show m < 5 by omega)).1 (sm_1 (show m < 5 by omega)).2.1 ?_
  refine mm_iload 1 dX6_steer_108 rfl ?_
  refine mm_iload 0 dX6_steer_110 rfl ?_
  refine mm_cV2v (dz := d - 1) dX6_steer_112 rfl mzX5_set ml_X6_177 imX5_set (by omega) (sm_1 (show m < 5 by omega)).2.2.1.1 ⟨rfl, rfl⟩ (ct_set (sm_1 (show m < 5 by omega)).2.2.1 (j) (by omega)) (Nat.le_of_ble_eq_true rfl) ⟨Nat.le_refl _, Nat.le_refl _⟩ ?_
  refine mm_mem (J := cN (w * h) n l k o r (mm_up (mm_up A (36 + 3 * m) 7 (nI (x + 1))) (37 + 3 * m + 1) j (nI (v))) N) (cN_dof hz2 (by omega)) ?_
  refine mm_iconst (v := 0) dX6_steer_115 rfl ?_
  refine mm_iret dX6_steer_116 rfl ⟨Nat.le_refl _, Nat.le_refl _⟩ ?_
  exact hq
set_option maxRecDepth 100000 in
set_option maxHeartbeats 600000 in
theorem cg_stR1 {g : mm_G} {d : Nat} {w h n l k o r : Nat} {A : mm_I} {N : Nat → Int32} (hz : zOK (w * h) n l k o r) (hW : mo_W N w h) {m p x : Nat} (hm : m < n) (hp : p < 6) (hx : x < 40) (hpl : A (36 + 3 * m) 7 = nI x) {j v y : Nat} (hj : j < 4) (hlf : A (37 + 3 * m + 1) j = nI v) (hv : 0 < v) (hv31 : v < 2 ^ 31) (hc0 : A (54 + 5 * p) (3 * x) = 5) (hc1 : A (54 + 5 * p) (3 * x + 1) = nI (j)) (hc2 : A (54 + 5 * p) (3 * x + 2) = nI (y)) (hd : 3 ≤ d) : mm_Ci g zX6_steer d [.ref 171, .ref (36 + 3 * m), .ref (52 + 5 * p)] sh_S (cN (w * h) n l k o r A N) (1) (cN (w * h) n l k o r (mm_up (mm_up A (36 + 3 * m) 7 (nI (x + 1))) (37 + 3 * m + 1) j (nI (v - 1))) N) := by
  obtain ⟨hz1, hz2, hz3, hz4, hz5, hz6⟩ := id hz
  have hc := mo_W_c hW
  obtain ⟨-, -, hw1, hw2, hh1, hh2⟩ := id hW
  refine mm_Ci_of (fun Q hq => ?_)
  refine mm_begin (ls := [(0, .ref 171), (1, .ref (36 + 3 * m)), (2, .ref (52 + 5 * p))]) (Nat.le_of_ble_eq_true rfl) rfl rfl ?_
  refine mm_aload_n 1 dX6_steer_0 rfl rfl ?_
  refine mm_geti dX6_steer_1 rfl fk_X6_148 rfl (sm_1 (show m < 5 by omega)).1 ?_
  refine mm_top (v := nI (x)) ((s_m7 hz2 (by omega)).trans hpl) ?_
  refine mm_istore_n (ls' := [(3, .int (nI (x))), (0, .ref 171), (1, .ref (36 + 3 * m)), (2, .ref (52 + 5 * p))]) dX6_steer_4 rfl (by decide) rfl ?_
  refine mm_aload_n 3 dX6_steer_5 rfl rfl ?_
  refine mm_iload_n 0 dX6_steer_6 rfl rfl ?_
  refine mm_cV1i (dz := d - 1) dX6_steer_7 rfl mzX4_first ml_X6_161 imX4_first (by omega) (sp_1 hp).1 ⟨rfl, rfl⟩ (cg_first hp (x := x) (by omega) (by omega)) (Nat.le_of_ble_eq_true rfl) ⟨Nat.le_refl _, Nat.le_refl _⟩ ?_
  refine mm_top (v := nI (j)) (by rw [cN_off hz2 (by omega), show 53 + 5 * p + 1 = 54 + 5 * p by omega, show x * 3 + 1 = 3 * x + 1 by omega]; exact hc1) ?_
  refine mm_istore (ls' := [(4, .int (nI (j))), (3, .int (nI (x))), (0, .ref 171), (1, .ref (36 + 3 * m)), (2, .ref (52 + 5 * p))]) dX6_steer_10 (by decide) rfl ?_
  refine mm_aload_n 4 dX6_steer_12 rfl rfl ?_
  refine mm_at (pc' := 13) rfl ?_
  refine mm_iload_n 1 dX6_steer_13 rfl rfl ?_
  refine mm_cV1i (dz := d - 1) dX6_steer_14 rfl mzX4_second ml_X6_164 imX4_second (by omega) (sp_1 hp).1 ⟨rfl, rfl⟩ (cg_second hp (x := x) (by omega) (by omega)) (Nat.le_of_ble_eq_true rfl) ⟨Nat.le_refl _, Nat.le_refl _⟩ ?_
  refine mm_top (v := nI (y)) (by rw [cN_off hz2 (by omega), show 53 + 5 * p + 1 = 54 + 5 * p by omega, show x * 3 + 2 = 3 * x + 2 by omega]; exact hc2) ?_
  refine mm_istore (ls' := [(5, .int (nI (y))), (4, .int (nI (j))), (3, .int (nI (x))), (0, .ref 171), (1, .ref (36 + 3 * m)), (2, .ref (52 + 5 * p))]) dX6_steer_17 (by decide) rfl ?_
  refine mm_aload_n 4 dX6_steer_19 rfl rfl ?_
  refine mm_iload_n 2 dX6_steer_20 rfl rfl ?_
  refine mm_iconst (v := 1) dX6_steer_21 rfl ?_
  refine mm_iaddN (x) (1) dX6_steer_22 ?_
  refine mm_puti dX6_steer_23 rfl fk_X6_148 rfl fv_1_7 (sm_1 (show m < 5 by omega)).1 ?_
  refine mm_at (pc' := 26) rfl ?_
  refine mm_mem (J := cN (w * h) n l k o r (mm_up A (36 + 3 * m) 7 (nI (x + 1))) N) (s_m7u hz.2.1 (by omega)) ?_
  refine mm_aload_n 5 dX6_steer_26 rfl rfl ?_
  refine mm_iload_n 2 dX6_steer_27 rfl rfl ?_
  refine mm_cV1i (dz := d - 1) dX6_steer_28 rfl mzX4_code ml_X6_158 imX4_code (by omega) (sp_1 hp).1 ⟨rfl, rfl⟩ (cg_code hp (x := x) (by omega) (by omega)) (Nat.le_of_ble_eq_true rfl) ⟨Nat.le_refl _, Nat.le_refl _⟩ ?_
  refine mm_top (v := 5) (by rw [cN_off hz2 (by omega), mm_up_ne (by omega), show 53 + 5 * p + 1 = 54 + 5 * p by omega, show x * 3 = 3 * x by omega]; exact hc0) ?_
  refine mm_tabIn (5) (tgt := 117) dX6_steer_31 rfl (by decide) (by decide) rfl (by decide) ?_
  refine mm_aload_n 4 dX6_steer_117 rfl rfl ?_
  refine mm_getr (b := 37 + 3 * m) dX6_steer_118 rfl fk_X6_174 rfl (sm_1 (show m < 5 by omega)).1 (sm_1 (show m < 5 by omega)).2.1 ?_
  refine mm_iload 1 dX6_steer_121 rfl ?_
  refine mm_cV1i (dz := d - 1) dX6_steer_123 rfl mzX5_at ml_X6_76 imX5_at (by omega) (sm_1 (show m < 5 by omega)).2.2.1.1 ⟨rfl, rfl⟩ (ct_at (sm_1 (show m < 5 by omega)).2.2.1 (j) (by omega)) (Nat.le_of_ble_eq_true rfl) ⟨Nat.le_refl _, Nat.le_refl _⟩ ?_
  refine mm_top (v := nI (v)) (by rw [cN_off hz2 (by omega), mm_up_ne (by omega)]; exact hlf) ?_
  refine mm_if_leN (v) (tgt := 152) dX6_steer_126 (by decide) (by omega) (fun c126 => ?_) (fun c126 => ?_)
  · exfalso; omega
  · refine mm_aload_n 4 dX6_steer_129 rfl rfl ?_
    refine mm_getr (b := 37 + 3 * m) dX6_steer_130 rfl fk_X6_174 rfl (sm_1 (show m < 5 by omega)).1 (sm_1 (show m < 5 by omega)).2.1 ?_
    refine mm_iload 1 dX6_steer_133 rfl ?_
    refine mm_aload_n 4 dX6_steer_135 rfl rfl ?_
    refine mm_getr (b := 37 + 3 * m) dX6_steer_136 rfl fk_X6_174 rfl (sm_1 (show m < 5 by omega)).1 (sm_1 (show m < 5 by omega)).2.1 ?_
    refine mm_iload 1 dX6_steer_139 rfl ?_
    refine mm_cV1i (dz := d - 1) dX6_steer_141 rfl mzX5_at ml_X6_76 imX5_at (by omega) (sm_1 (show m < 5 by omega)).2.2.1.1 ⟨rfl, rfl⟩ (ct_at (sm_1 (show m < 5 by omega)).2.2.1 (j) (by omega)) (Nat.le_of_ble_eq_true rfl) ⟨Nat.le_refl _, Nat.le_refl _⟩ ?_
    refine mm_at (pc' := 144) rfl ?_
    refine mm_top (v := nI (v)) (by rw [cN_off hz2 (by omega), mm_up_ne (by omega)]; exact hlf) ?_
    refine mm_iconst (v := 1) dX6_steer_144 rfl ?_
    refine mm_isubN (v) (1) dX6_steer_145 (by omega) ?_
    refine mm_cV2v (dz := d - 1) dX6_steer_146 rfl mzX5_set ml_X6_177 imX5_set (by omega) (sm_1 (show m < 5 by omega)).2.2.1.1 ⟨rfl, rfl⟩ (ct_set (sm_1 (show m < 5 by omega)).2.2.1 (j) (by omega)) (Nat.le_of_ble_eq_true rfl) ⟨Nat.le_refl _, Nat.le_refl _⟩ ?_
    refine mm_mem (J := cN (w * h) n l k o r (mm_up (mm_up A (36 + 3 * m) 7 (nI (x + 1))) (37 + 3 * m + 1) j (nI (v - 1))) N) (cN_dof hz2 (by omega)) ?_
    refine mm_goto (tgt := 158) dX6_steer_149 (by decide) ?_
    refine mm_iconst (v := 1) dX6_steer_158 rfl ?_
    refine mm_iret dX6_steer_159 rfl ⟨Nat.le_refl _, Nat.le_refl _⟩ ?_
    exact hq
set_option maxRecDepth 100000 in
set_option maxHeartbeats 600000 in
theorem cg_stR0 {g : mm_G} {d : Nat} {w h n l k o r : Nat} {A : mm_I} {N : Nat → Int32} (hz : zOK (w * h) n l k o r) (hW : mo_W N w h) {m p x : Nat} (hm : m < n) (hp : p < 6) (hx : x < 40) (hpl : A (36 + 3 * m) 7 = nI x) {j y : Nat} (hj : j < 4) (hlf : A (37 + 3 * m + 1) j = 0) (hc0 : A (54 + 5 * p) (3 * x) = 5) (hc1 : A (54 + 5 * p) (3 * x + 1) = nI (j)) (hc2 : A (54 + 5 * p) (3 * x + 2) = nI (y)) (hd : 3 ≤ d) : mm_Ci g zX6_steer d [.ref 171, .ref (36 + 3 * m), .ref (52 + 5 * p)] sh_S (cN (w * h) n l k o r A N) (1) (cN (w * h) n l k o r (mm_up (mm_up A (36 + 3 * m) 7 (nI (x + 1))) (36 + 3 * m) 7 (nI y)) N) := by
  obtain ⟨hz1, hz2, hz3, hz4, hz5, hz6⟩ := id hz
  have hc := mo_W_c hW
  obtain ⟨-, -, hw1, hw2, hh1, hh2⟩ := id hW
  refine mm_Ci_of (fun Q hq => ?_)
  refine mm_begin (ls := [(0, .ref 171), (1, .ref (36 + 3 * m)), (2, .ref (52 + 5 * p))]) (Nat.le_of_ble_eq_true rfl) rfl rfl ?_
  refine mm_aload_n 1 dX6_steer_0 rfl rfl ?_
  refine mm_geti dX6_steer_1 rfl fk_X6_148 rfl (sm_1 (show m < 5 by omega)).1 ?_
  refine mm_top (v := nI (x)) ((s_m7 hz2 (by omega)).trans hpl) ?_
  refine mm_istore_n (ls' := [(3, .int (nI (x))), (0, .ref 171), (1, .ref (36 + 3 * m)), (2, .ref (52 + 5 * p))]) dX6_steer_4 rfl (by decide) rfl ?_
  refine mm_aload_n 3 dX6_steer_5 rfl rfl ?_
  refine mm_iload_n 0 dX6_steer_6 rfl rfl ?_
  refine mm_cV1i (dz := d - 1) dX6_steer_7 rfl mzX4_first ml_X6_161 imX4_first (by omega) (sp_1 hp).1 ⟨rfl, rfl⟩ (cg_first hp (x := x) (by omega) (by omega)) (Nat.le_of_ble_eq_true rfl) ⟨Nat.le_refl _, Nat.le_refl _⟩ ?_
  refine mm_top (v := nI (j)) (by rw [cN_off hz2 (by omega), show 53 + 5 * p + 1 = 54 + 5 * p by omega, show x * 3 + 1 = 3 * x + 1 by omega]; exact hc1) ?_
  refine mm_istore (ls' := [(4, .int (nI (j))), (3, .int (nI (x))), (0, .ref 171), (1, .ref (36 + 3 * m)), (2, .ref (52 + 5 * p))]) dX6_steer_10 (by decide) rfl ?_
  refine mm_aload_n 4 dX6_steer_12 rfl rfl ?_
  refine mm_at (pc' := 13) rfl ?_
  refine mm_iload_n 1 dX6_steer_13 rfl rfl ?_
  refine mm_cV1i (dz := d - 1) dX6_steer_14 rfl mzX4_second ml_X6_164 imX4_second (by omega) (sp_1 hp).1 ⟨rfl, rfl⟩ (cg_second hp (x := x) (by omega) (by omega)) (Nat.le_of_ble_eq_true rfl) ⟨Nat.le_refl _, Nat.le_refl _⟩ ?_
  refine mm_top (v := nI (y)) (by rw [cN_off hz2 (by omega), show 53 + 5 * p + 1 = 54 + 5 * p by omega, show x * 3 + 2 = 3 * x + 2 by omega]; exact hc2) ?_
  refine mm_istore (ls' := [(5, .int (nI (y))), (4, .int (nI (j))), (3, .int (nI (x))), (0, .ref 171), (1, .ref (36 + 3 * m)), (2, .ref (52 + 5 * p))]) dX6_steer_17 (by decide) rfl ?_
  refine mm_aload_n 4 dX6_steer_19 rfl rfl ?_
  refine mm_iload_n 2 dX6_steer_20 rfl rfl ?_
  refine mm_iconst (v := 1) dX6_steer_21 rfl ?_
  refine mm_iaddN (x) (1) dX6_steer_22 ?_
  refine mm_puti dX6_steer_23 rfl fk_X6_148 rfl fv_1_7 (sm_1 (show m < 5 by omega)).1 ?_
  refine mm_at (pc' := 26) rfl ?_
  refine mm_mem (J := cN (w * h) n l k o r (mm_up A (36 + 3 * m) 7 (nI (x + 1))) N) (s_m7u hz.2.1 (by omega)) ?_
  refine mm_aload_n 5 dX6_steer_26 rfl rfl ?_
  refine mm_iload_n 2 dX6_steer_27 rfl rfl ?_
  refine mm_cV1i (dz := d - 1) dX6_steer_28 rfl mzX4_code ml_X6_158 imX4_code (by omega) (sp_1 hp).1 ⟨rfl, rfl⟩ (cg_code hp (x := x) (by omega) (by omega)) (Nat.le_of_ble_eq_true rfl) ⟨Nat.le_refl _, Nat.le_refl _⟩ ?_
  refine mm_top (v := 5) (by rw [cN_off hz2 (by omega), mm_up_ne (by omega), show 53 + 5 * p + 1 = 54 + 5 * p by omega, show x * 3 = 3 * x by omega]; exact hc0) ?_
  refine mm_tabIn (5) (tgt := 117) dX6_steer_31 rfl (by decide) (by decide) rfl (by decide) ?_
  refine mm_aload_n 4 dX6_steer_117 rfl rfl ?_
  refine mm_getr (b := 37 + 3 * m) dX6_steer_118 rfl fk_X6_174 rfl (sm_1 (show m < 5 by omega)).1 (sm_1 (show m < 5 by omega)).2.1 ?_
  refine mm_iload 1 dX6_steer_121 rfl ?_
  refine mm_cV1i (dz := d - 1) dX6_steer_123 rfl mzX5_at ml_X6_76 imX5_at (by omega) (sm_1 (show m < 5 by omega)).2.2.1.1 ⟨rfl, rfl⟩ (ct_at (sm_1 (show m < 5 by omega)).2.2.1 (j) (by omega)) (Nat.le_of_ble_eq_true rfl) ⟨Nat.le_refl _, Nat.le_refl _⟩ ?_
  refine mm_top (v := 0) (by rw [cN_off hz2 (by omega), mm_up_ne (by omega)]; exact hlf) ?_
  refine mm_if_le (tgt := 152) dX6_steer_126 (by decide) (fun _ => ?_) (fun q => absurd (by decide) q)
  refine mm_aload_n 4 dX6_steer_152 rfl rfl ?_
  refine mm_iload 0 dX6_steer_153 rfl ?_
  refine mm_puti dX6_steer_155 rfl fk_X6_148 rfl fv_1_7 (sm_1 (show m < 5 by omega)).1 ?_
  refine mm_mem (J := cN (w * h) n l k o r (mm_up (mm_up A (36 + 3 * m) 7 (nI (x + 1))) (36 + 3 * m) 7 (nI (y))) N) (s_m7u hz.2.1 (by omega)) ?_
  refine mm_iconst (v := 1) dX6_steer_158 rfl ?_
  refine mm_iret dX6_steer_159 rfl ⟨Nat.le_refl _, Nat.le_refl _⟩ ?_
  exact hq
set_option maxRecDepth 100000 in
set_option maxHeartbeats 600000 in
theorem cg_stI {g : mm_G} {d : Nat} {w h n l k o r : Nat} {A : mm_I} {N : Nat → Int32} (hz : zOK (w * h) n l k o r) (hW : mo_W N w h) {m p x : Nat} (hm : m < n) (hp : p < 6) (hx : x < 40) (hpl : A (36 + 3 * m) 7 = nI x) {c : Nat} (h1 : N (630 + 40 * m + 1) = nI c) (hcc : c < w * h) {la lb : Nat} (h2 : N 2 = nI la) (h3 : N 3 = nI lb) (hla : 1 ≤ la ∧ la ≤ 24) (hlb : lb ≤ 24) {L e0 : Nat} (hL : A (55 + 5 * p) 1 = nI L) (hL96 : L ≤ 96) {cs : List Nat} (hi : e0 + cs.length < L) (hv : vc_at (A (56 + 5 * p)) e0 cs) (hw : wf cs 0) {y : Nat} (hc0 : A (54 + 5 * p) (3 * x) = 3) (hc1 : A (54 + 5 * p) (3 * x + 1) = nI (e0)) (hc2 : A (54 + 5 * p) (3 * x + 2) = nI (y)) (hd : 5 ≤ d) : mm_Di g zX6_steer d [.ref 171, .ref (36 + 3 * m), .ref (52 + 5 * p)] sh_S (cN (w * h) n l k o r A N) (fun r_ K => r_ = 1 ∧ ∃ A2, K = cN (w * h) n l k o r A2 N ∧ (∀ a, ¬ (a = 172 ∨ a = 173 ∨ a = 36 + 3 * m) → A2 a = A a) ∧ A2 (36 + 3 * m) 7 = if (ev (sp_nm N w m c) cs (0, A 173)).2 0 = 0 then nI y else nI (x + 1)) := by
  obtain ⟨hz1, hz2, hz3, hz4, hz5, hz6⟩ := id hz
  have hc := mo_W_c hW
  obtain ⟨-, -, hw1, hw2, hh1, hh2⟩ := id hW
  refine mm_Di_of (fun Q hq => ?_)
  refine mm_begin (ls := [(0, .ref 171), (1, .ref (36 + 3 * m)), (2, .ref (52 + 5 * p))]) (Nat.le_of_ble_eq_true rfl) rfl rfl ?_
  refine mm_aload_n 1 dX6_steer_0 rfl rfl ?_
  refine mm_geti dX6_steer_1 rfl fk_X6_148 rfl (sm_1 (show m < 5 by omega)).1 ?_
  refine mm_top (v := nI (x)) ((s_m7 hz2 (by omega)).trans hpl) ?_
  refine mm_istore_n (ls' := [(3, .int (nI (x))), (0, .ref 171), (1, .ref (36 + 3 * m)), (2, .ref (52 + 5 * p))]) dX6_steer_4 rfl (by decide) rfl ?_
  refine mm_aload_n 3 dX6_steer_5 rfl rfl ?_
  refine mm_iload_n 0 dX6_steer_6 rfl rfl ?_
  refine mm_cV1i (dz := d - 1) dX6_steer_7 rfl mzX4_first ml_X6_161 imX4_first (by omega) (sp_1 hp).1 ⟨rfl, rfl⟩ (cg_first hp (x := x) (by omega) (by omega)) (Nat.le_of_ble_eq_true rfl) ⟨Nat.le_refl _, Nat.le_refl _⟩ ?_
  refine mm_top (v := nI (e0)) (by rw [cN_off hz2 (by omega), show 53 + 5 * p + 1 = 54 + 5 * p by omega, show x * 3 + 1 = 3 * x + 1 by omega]; exact hc1) ?_
  refine mm_istore (ls' := [(4, .int (nI (e0))), (3, .int (nI (x))), (0, .ref 171), (1, .ref (36 + 3 * m)), (2, .ref (52 + 5 * p))]) dX6_steer_10 (by decide) rfl ?_
  refine mm_aload_n 4 dX6_steer_12 rfl rfl ?_
  refine mm_at (pc' := 13) rfl ?_
  refine mm_iload_n 1 dX6_steer_13 rfl rfl ?_
  refine mm_cV1i (dz := d - 1) dX6_steer_14 rfl mzX4_second ml_X6_164 imX4_second (by omega) (sp_1 hp).1 ⟨rfl, rfl⟩ (cg_second hp (x := x) (by omega) (by omega)) (Nat.le_of_ble_eq_true rfl) ⟨Nat.le_refl _, Nat.le_refl _⟩ ?_
  refine mm_top (v := nI (y)) (by rw [cN_off hz2 (by omega), show 53 + 5 * p + 1 = 54 + 5 * p by omega, show x * 3 + 2 = 3 * x + 2 by omega]; exact hc2) ?_
  refine mm_istore (ls' := [(5, .int (nI (y))), (4, .int (nI (e0))), (3, .int (nI (x))), (0, .ref 171), (1, .ref (36 + 3 * m)), (2, .ref (52 + 5 * p))]) dX6_steer_17 (by decide) rfl ?_
  refine mm_aload_n 4 dX6_steer_19 rfl rfl ?_
  refine mm_iload_n 2 dX6_steer_20 rfl rfl ?_
  refine mm_iconst (v := 1) dX6_steer_21 rfl ?_
  refine mm_iaddN (x) (1) dX6_steer_22 ?_
  refine mm_puti dX6_steer_23 rfl fk_X6_148 rfl fv_1_7 (sm_1 (show m < 5 by omega)).1 ?_
  refine mm_at (pc' := 26) rfl ?_
  refine mm_mem (J := cN (w * h) n l k o r (mm_up A (36 + 3 * m) 7 (nI (x + 1))) N) (s_m7u hz.2.1 (by omega)) ?_
  refine mm_aload_n 5 dX6_steer_26 rfl rfl ?_
  refine mm_iload_n 2 dX6_steer_27 rfl rfl ?_
  refine mm_cV1i (dz := d - 1) dX6_steer_28 rfl mzX4_code ml_X6_158 imX4_code (by omega) (sp_1 hp).1 ⟨rfl, rfl⟩ (cg_code hp (x := x) (by omega) (by omega)) (Nat.le_of_ble_eq_true rfl) ⟨Nat.le_refl _, Nat.le_refl _⟩ ?_
  refine mm_top (v := 3) (by rw [cN_off hz2 (by omega), mm_up_ne (by omega), show 53 + 5 * p + 1 = 54 + 5 * p by omega, show x * 3 = 3 * x by omega]; exact hc0) ?_
  refine mm_tabIn (3) (tgt := 160) dX6_steer_31 rfl (by decide) (by decide) rfl (by decide) ?_
  refine mm_aload_n 3 dX6_steer_160 rfl rfl ?_
  refine mm_aload_n 4 dX6_steer_161 rfl rfl ?_
  refine mm_aload_n 5 dX6_steer_162 rfl rfl ?_
  refine mm_iload 1 dX6_steer_163 rfl ?_
  refine mm_dV3i (dz := d - 1) dX6_steer_165 rfl mzX6_worth ml_X6_181 imX6_worth (by omega) so_171 ⟨rfl, rfl⟩ (cg_worth hz hW hm h1 hcc h2 h3 hla hlb hp (by rw [mm_up_ne (by omega)]; exact hL) hL96 hi (by rw [mm_up_a (by omega)]; exact hv) hw (by omega)) (Nat.le_of_ble_eq_true rfl) ⟨Nat.le_refl _, Nat.le_refl _⟩ (fun rr K2 hK2 => ?_)
  obtain ⟨hr_, A2, rfl, hF2⟩ := hK2
  rw [mm_up_a (show 173 ≠ 36 + 3 * m by omega)] at hr_
  have hF3 : ∀ a, ¬ (a = 172 ∨ a = 173 ∨ a = 36 + 3 * m) → A2 a = A a := fun a ha => (hF2 a (by omega)).trans (mm_up_a (by omega))
  have hF4 : A2 (36 + 3 * m) = mm_up A (36 + 3 * m) 7 (nI (x + 1)) (36 + 3 * m) := hF2 _ (by omega)
  refine mm_if_ne (tgt := 177) dX6_steer_168 (by decide) (fun c168 => ?_) (fun c168 => ?_)
  · refine mm_iconst (v := 1) dX6_steer_177 rfl ?_
    refine mm_iret dX6_steer_178 rfl ⟨Nat.le_refl _, Nat.le_refl _⟩ ?_
    refine hq _ _ ⟨rfl, A2, rfl, hF3, ?_⟩
    rw [if_neg (by rw [← hr_]; exact c168), hF4, mm_up_at]
  · refine mm_aload_n 4 dX6_steer_171 rfl rfl ?_
    refine mm_iload 0 dX6_steer_172 rfl ?_
    refine mm_puti dX6_steer_174 rfl fk_X6_148 rfl fv_1_7 (sm_1 (show m < 5 by omega)).1 ?_
    refine mm_mem (J := cN (w * h) n l k o r (mm_up A2 (36 + 3 * m) 7 (nI (y))) N) (s_m7u hz.2.1 (by omega)) ?_
    refine mm_iconst (v := 1) dX6_steer_177 rfl ?_
    refine mm_iret dX6_steer_178 rfl ⟨Nat.le_refl _, Nat.le_refl _⟩ ?_
    refine hq _ _ ⟨rfl, _, rfl, fun a ha => (mm_up_a (by omega)).trans (hF3 a ha), ?_⟩
    rw [if_pos (by rw [← hr_]; exact c168), mm_up_at]
set_option maxRecDepth 100000 in
set_option maxHeartbeats 600000 in
theorem cg_stW {g : mm_G} {d : Nat} {w h n l k o r : Nat} {A : mm_I} {N : Nat → Int32} (hz : zOK (w * h) n l k o r) (hW : mo_W N w h) {m p x : Nat} (hm : m < n) (hp : p < 6) (hx : x < 40) (hpl : A (36 + 3 * m) 7 = nI x) {c : Nat} (h1 : N (630 + 40 * m + 1) = nI c) (hcc : c < w * h) {la lb : Nat} (h2 : N 2 = nI la) (h3 : N 3 = nI lb) (hla : 1 ≤ la ∧ la ≤ 24) (hlb : lb ≤ 24) {L e0 : Nat} (hL : A (55 + 5 * p) 1 = nI L) (hL96 : L ≤ 96) {cs : List Nat} (hi : e0 + cs.length < L) (hv : vc_at (A (56 + 5 * p)) e0 cs) (hw : wf cs 0) {y : Nat} (hc0 : A (54 + 5 * p) (3 * x) = 4) (hc1 : A (54 + 5 * p) (3 * x + 1) = nI (e0)) (hc2 : A (54 + 5 * p) (3 * x + 2) = nI (y)) (hd : 5 ≤ d) : mm_Di g zX6_steer d [.ref 171, .ref (36 + 3 * m), .ref (52 + 5 * p)] sh_S (cN (w * h) n l k o r A N) (fun r_ K => r_ = 1 ∧ ∃ A2, K = cN (w * h) n l k o r A2 N ∧ (∀ a, ¬ (a = 172 ∨ a = 173 ∨ a = 36 + 3 * m) → A2 a = A a) ∧ A2 (36 + 3 * m) 7 = if (ev (sp_nm N w m c) cs (0, A 173)).2 0 = 0 then nI y else nI (x + 1)) := by
  obtain ⟨hz1, hz2, hz3, hz4, hz5, hz6⟩ := id hz
  have hc := mo_W_c hW
  obtain ⟨-, -, hw1, hw2, hh1, hh2⟩ := id hW
  refine mm_Di_of (fun Q hq => ?_)
  refine mm_begin (ls := [(0, .ref 171), (1, .ref (36 + 3 * m)), (2, .ref (52 + 5 * p))]) (Nat.le_of_ble_eq_true rfl) rfl rfl ?_
  refine mm_aload_n 1 dX6_steer_0 rfl rfl ?_
  refine mm_geti dX6_steer_1 rfl fk_X6_148 rfl (sm_1 (show m < 5 by omega)).1 ?_
  refine mm_top (v := nI (x)) ((s_m7 hz2 (by omega)).trans hpl) ?_
  refine mm_istore_n (ls' := [(3, .int (nI (x))), (0, .ref 171), (1, .ref (36 + 3 * m)), (2, .ref (52 + 5 * p))]) dX6_steer_4 rfl (by decide) rfl ?_
  refine mm_aload_n 3 dX6_steer_5 rfl rfl ?_
  refine mm_iload_n 0 dX6_steer_6 rfl rfl ?_
  refine mm_cV1i (dz := d - 1) dX6_steer_7 rfl mzX4_first ml_X6_161 imX4_first (by omega) (sp_1 hp).1 ⟨rfl, rfl⟩ (cg_first hp (x := x) (by omega) (by omega)) (Nat.le_of_ble_eq_true rfl) ⟨Nat.le_refl _, Nat.le_refl _⟩ ?_
  refine mm_top (v := nI (e0)) (by rw [cN_off hz2 (by omega), show 53 + 5 * p + 1 = 54 + 5 * p by omega, show x * 3 + 1 = 3 * x + 1 by omega]; exact hc1) ?_
  refine mm_istore (ls' := [(4, .int (nI (e0))), (3, .int (nI (x))), (0, .ref 171), (1, .ref (36 + 3 * m)), (2, .ref (52 + 5 * p))]) dX6_steer_10 (by decide) rfl ?_
  refine mm_aload_n 4 dX6_steer_12 rfl rfl ?_
  refine mm_at (pc' := 13) rfl ?_
  refine mm_iload_n 1 dX6_steer_13 rfl rfl ?_
  refine mm_cV1i (dz := d - 1) dX6_steer_14 rfl mzX4_second ml_X6_164 imX4_second (by omega) (sp_1 hp).1 ⟨rfl, rfl⟩ (cg_second hp (x := x) (by omega) (by omega)) (Nat.le_of_ble_eq_true rfl) ⟨Nat.le_refl _, Nat.le_refl _⟩ ?_
  refine mm_top (v := nI (y)) (by rw [cN_off hz2 (by omega), show 53 + 5 * p + 1 = 54 + 5 * p by omega, show x * 3 + 2 = 3 * x + 2 by omega]; exact hc2) ?_
  refine mm_istore (ls' := [(5, .int (nI (y))), (4, .int (nI (e0))), (3, .int (nI (x))), (0, .ref 171), (1, .ref (36 + 3 * m)), (2, .ref (52 + 5 * p))]) dX6_steer_17 (by decide) rfl ?_
  refine mm_aload_n 4 dX6_steer_19 rfl rfl ?_
  refine mm_iload_n 2 dX6_steer_20 rfl rfl ?_
  refine mm_iconst (v := 1) dX6_steer_21 rfl ?_
  refine mm_iaddN (x) (1) dX6_steer_22 ?_
  refine mm_puti dX6_steer_23 rfl fk_X6_148 rfl fv_1_7 (sm_1 (show m < 5 by omega)).1 ?_
  refine mm_at (pc' := 26) rfl ?_
  refine mm_mem (J := cN (w * h) n l k o r (mm_up A (36 + 3 * m) 7 (nI (x + 1))) N) (s_m7u hz.2.1 (by omega)) ?_
  refine mm_aload_n 5 dX6_steer_26 rfl rfl ?_
  refine mm_iload_n 2 dX6_steer_27 rfl rfl ?_
  refine mm_cV1i (dz := d - 1) dX6_steer_28 rfl mzX4_code ml_X6_158 imX4_code (by omega) (sp_1 hp).1 ⟨rfl, rfl⟩ (cg_code hp (x := x) (by omega) (by omega)) (Nat.le_of_ble_eq_true rfl) ⟨Nat.le_refl _, Nat.le_refl _⟩ ?_
  refine mm_top (v := 4) (by rw [cN_off hz2 (by omega), mm_up_ne (by omega), show 53 + 5 * p + 1 = 54 + 5 * p by omega, show x * 3 = 3 * x by omega]; exact hc0) ?_
  refine mm_tabIn (4) (tgt := 160) dX6_steer_31 rfl (by decide) (by decide) rfl (by decide) ?_
  refine mm_aload_n 3 dX6_steer_160 rfl rfl ?_
  refine mm_aload_n 4 dX6_steer_161 rfl rfl ?_
  refine mm_aload_n 5 dX6_steer_162 rfl rfl ?_
  refine mm_iload 1 dX6_steer_163 rfl ?_
  refine mm_dV3i (dz := d - 1) dX6_steer_165 rfl mzX6_worth ml_X6_181 imX6_worth (by omega) so_171 ⟨rfl, rfl⟩ (cg_worth hz hW hm h1 hcc h2 h3 hla hlb hp (by rw [mm_up_ne (by omega)]; exact hL) hL96 hi (by rw [mm_up_a (by omega)]; exact hv) hw (by omega)) (Nat.le_of_ble_eq_true rfl) ⟨Nat.le_refl _, Nat.le_refl _⟩ (fun rr K2 hK2 => ?_)
  obtain ⟨hr_, A2, rfl, hF2⟩ := hK2
  rw [mm_up_a (show 173 ≠ 36 + 3 * m by omega)] at hr_
  have hF3 : ∀ a, ¬ (a = 172 ∨ a = 173 ∨ a = 36 + 3 * m) → A2 a = A a := fun a ha => (hF2 a (by omega)).trans (mm_up_a (by omega))
  have hF4 : A2 (36 + 3 * m) = mm_up A (36 + 3 * m) 7 (nI (x + 1)) (36 + 3 * m) := hF2 _ (by omega)
  refine mm_if_ne (tgt := 177) dX6_steer_168 (by decide) (fun c168 => ?_) (fun c168 => ?_)
  · refine mm_iconst (v := 1) dX6_steer_177 rfl ?_
    refine mm_iret dX6_steer_178 rfl ⟨Nat.le_refl _, Nat.le_refl _⟩ ?_
    refine hq _ _ ⟨rfl, A2, rfl, hF3, ?_⟩
    rw [if_neg (by rw [← hr_]; exact c168), hF4, mm_up_at]
  · refine mm_aload_n 4 dX6_steer_171 rfl rfl ?_
    refine mm_iload 0 dX6_steer_172 rfl ?_
    refine mm_puti dX6_steer_174 rfl fk_X6_148 rfl fv_1_7 (sm_1 (show m < 5 by omega)).1 ?_
    refine mm_mem (J := cN (w * h) n l k o r (mm_up A2 (36 + 3 * m) 7 (nI (y))) N) (s_m7u hz.2.1 (by omega)) ?_
    refine mm_iconst (v := 1) dX6_steer_177 rfl ?_
    refine mm_iret dX6_steer_178 rfl ⟨Nat.le_refl _, Nat.le_refl _⟩ ?_
    refine hq _ _ ⟨rfl, _, rfl, fun a ha => (mm_up_a (by omega)).trans (hF3 a ha), ?_⟩
    rw [if_pos (by rw [← hr_]; exact c168), mm_up_at]
set_option maxRecDepth 100000 in
set_option maxHeartbeats 600000 in
theorem cg_stU {g : mm_G} {d : Nat} {w h n l k o r : Nat} {A : mm_I} {N : Nat → Int32} (hz : zOK (w * h) n l k o r) (hW : mo_W N w h) {m p x : Nat} (hm : m < n) (hp : p < 6) (hx : x < 40) (hpl : A (36 + 3 * m) 7 = nI x) {c : Nat} (h1 : N (630 + 40 * m + 1) = nI c) (hcc : c < w * h) {la lb : Nat} (h2 : N 2 = nI la) (h3 : N 3 = nI lb) (hla : 1 ≤ la ∧ la ≤ 24) (hlb : lb ≤ 24) {L e0 : Nat} (hL : A (55 + 5 * p) 1 = nI L) (hL96 : L ≤ 96) {cs : List Nat} (hi : e0 + cs.length < L) (hv : vc_at (A (56 + 5 * p)) e0 cs) (hw : wf cs 0) (hc0 : A (54 + 5 * p) (3 * x) = 2) (hc1 : A (54 + 5 * p) (3 * x + 1) = nI (e0)) (hd : 5 ≤ d) : mm_Di g zX6_steer d [.ref 171, .ref (36 + 3 * m), .ref (52 + 5 * p)] sh_S (cN (w * h) n l k o r A N) (fun r_ K => r_ = (if (ev (sp_nm N w m c) cs (0, A 173)).2 0 = 0 then -1 else 1) ∧ ∃ A2, K = cN (w * h) n l k o r A2 N ∧ (∀ a, ¬ (a = 172 ∨ a = 173 ∨ a = 36 + 3 * m) → A2 a = A a) ∧ A2 (36 + 3 * m) 7 = if (ev (sp_nm N w m c) cs (0, A 173)).2 0 = 0 then nI x else nI (x + 1)) := by
  obtain ⟨hz1, hz2, hz3, hz4, hz5, hz6⟩ := id hz
  have hc := mo_W_c hW
  obtain ⟨-, -, hw1, hw2, hh1, hh2⟩ := id hW
  refine mm_Di_of (fun Q hq => ?_)
  refine mm_begin (ls := [(0, .ref 171), (1, .ref (36 + 3 * m)), (2, .ref (52 + 5 * p))]) (Nat.le_of_ble_eq_true rfl) rfl rfl ?_
  refine mm_aload_n 1 dX6_steer_0 rfl rfl ?_
  refine mm_geti dX6_steer_1 rfl fk_X6_148 rfl (sm_1 (show m < 5 by omega)).1 ?_
  refine mm_top (v := nI (x)) ((s_m7 hz2 (by omega)).trans hpl) ?_
  refine mm_istore_n (ls' := [(3, .int (nI (x))), (0, .ref 171), (1, .ref (36 + 3 * m)), (2, .ref (52 + 5 * p))]) dX6_steer_4 rfl (by decide) rfl ?_
  refine mm_aload_n 3 dX6_steer_5 rfl rfl ?_
  refine mm_iload_n 0 dX6_steer_6 rfl rfl ?_
  refine mm_cV1i (dz := d - 1) dX6_steer_7 rfl mzX4_first ml_X6_161 imX4_first (by omega) (sp_1 hp).1 ⟨rfl, rfl⟩ (cg_first hp (x := x) (by omega) (by omega)) (Nat.le_of_ble_eq_true rfl) ⟨Nat.le_refl _, Nat.le_refl _⟩ ?_
  refine mm_top (v := nI (e0)) (by rw [cN_off hz2 (by omega), show 53 + 5 * p + 1 = 54 + 5 * p by omega, show x * 3 + 1 = 3 * x + 1 by omega]; exact hc1) ?_
  refine mm_istore (ls' := [(4, .int (nI (e0))), (3, .int (nI (x))), (0, .ref 171), (1, .ref (36 + 3 * m)), (2, .ref (52 + 5 * p))]) dX6_steer_10 (by decide) rfl ?_
  refine mm_aload_n 4 dX6_steer_12 rfl rfl ?_
  refine mm_at (pc' := 13) rfl ?_
  refine mm_iload_n 1 dX6_steer_13 rfl rfl ?_
  refine mm_cV1i (dz := d - 1) dX6_steer_14 rfl mzX4_second ml_X6_164 imX4_second (by omega) (sp_1 hp).1 ⟨rfl, rfl⟩ (cg_second hp (x := x) (by omega) (by omega)) (Nat.le_of_ble_eq_true rfl) ⟨Nat.le_refl _, Nat.le_refl _⟩ ?_
  refine mm_top (v := A (54 + 5 * p) (3 * x + 2)) (by rw [cN_off hz2 (by omega), show 53 + 5 * p + 1 = 54 + 5 * p by omega, show x * 3 + 2 = 3 * x + 2 by omega]) ?_
  refine mm_istore (ls' := [(5, .int (A (54 + 5 * p) (3 * x + 2))), (4, .int (nI (e0))), (3, .int (nI (x))), (0, .ref 171), (1, .ref (36 + 3 * m)), (2, .ref (52 + 5 * p))]) dX6_steer_17 (by decide) rfl ?_
  refine mm_aload_n 4 dX6_steer_19 rfl rfl ?_
  refine mm_iload_n 2 dX6_steer_20 rfl rfl ?_
  refine mm_iconst (v := 1) dX6_steer_21 rfl ?_
  refine mm_iaddN (x) (1) dX6_steer_22 ?_
  refine mm_puti dX6_steer_23 rfl fk_X6_148 rfl fv_1_7 (sm_1 (show m < 5 by omega)).1 ?_
  refine mm_at (pc' := 26) rfl ?_
  refine mm_mem (J := cN (w * h) n l k o r (mm_up A (36 + 3 * m) 7 (nI (x + 1))) N) (s_m7u hz.2.1 (by omega)) ?_
  refine mm_aload_n 5 dX6_steer_26 rfl rfl ?_
  refine mm_iload_n 2 dX6_steer_27 rfl rfl ?_
  refine mm_cV1i (dz := d - 1) dX6_steer_28 rfl mzX4_code ml_X6_158 imX4_code (by omega) (sp_1 hp).1 ⟨rfl, rfl⟩ (cg_code hp (x := x) (by omega) (by omega)) (Nat.le_of_ble_eq_true rfl) ⟨Nat.le_refl _, Nat.le_refl _⟩ ?_
  refine mm_top (v := 2) (by rw [cN_off hz2 (by omega), mm_up_ne (by omega), show 53 + 5 * p + 1 = 54 + 5 * p by omega, show x * 3 = 3 * x by omega]; exact hc0) ?_
  refine mm_tabIn (2) (tgt := 179) dX6_steer_31 rfl (by decide) (by decide) rfl (by decide) ?_
  refine mm_aload_n 3 dX6_steer_179 rfl rfl ?_
  refine mm_aload_n 4 dX6_steer_180 rfl rfl ?_
  refine mm_aload_n 5 dX6_steer_181 rfl rfl ?_
  refine mm_iload 1 dX6_steer_182 rfl ?_
  refine mm_dV3i (dz := d - 1) dX6_steer_184 rfl mzX6_worth ml_X6_181 imX6_worth (by omega) so_171 ⟨rfl, rfl⟩ (cg_worth hz hW hm h1 hcc h2 h3 hla hlb hp (by rw [mm_up_ne (by omega)]; exact hL) hL96 hi (by rw [mm_up_a (by omega)]; exact hv) hw (by omega)) (Nat.le_of_ble_eq_true rfl) ⟨Nat.le_refl _, Nat.le_refl _⟩ (fun rr K2 hK2 => ?_)
  obtain ⟨hr_, A2, rfl, hF2⟩ := hK2
  rw [mm_up_a (show 173 ≠ 36 + 3 * m by omega)] at hr_
  have hF3 : ∀ a, ¬ (a = 172 ∨ a = 173 ∨ a = 36 + 3 * m) → A2 a = A a := fun a ha => (hF2 a (by omega)).trans (mm_up_a (by omega))
  have hF4 : A2 (36 + 3 * m) = mm_up A (36 + 3 * m) 7 (nI (x + 1)) (36 + 3 * m) := hF2 _ (by omega)
  refine mm_if_eq (tgt := 192) dX6_steer_187 (by decide) (fun c187 => ?_) (fun c187 => ?_)
  · refine mm_aload_n 4 dX6_steer_192 rfl rfl ?_
    refine mm_iload_n 2 dX6_steer_193 rfl rfl ?_
    refine mm_puti dX6_steer_194 rfl fk_X6_148 rfl fv_1_7 (sm_1 (show m < 5 by omega)).1 ?_
    refine mm_mem (J := cN (w * h) n l k o r (mm_up A2 (36 + 3 * m) 7 (nI (x))) N) (s_m7u hz.2.1 (by omega)) ?_
    refine mm_iconst (v := -1) dX6_steer_197 rfl ?_
    refine mm_iret dX6_steer_198 rfl ⟨Nat.le_refl _, Nat.le_refl _⟩ ?_
    refine hq _ _ ⟨by rw [if_pos (by rw [← hr_]; exact c187)], _, rfl, fun a ha => (mm_up_a (by omega)).trans (hF3 a ha), ?_⟩
    rw [if_pos (by rw [← hr_]; exact c187), mm_up_at]
  · refine mm_iconst (v := 1) dX6_steer_190 rfl ?_
    refine mm_iret dX6_steer_191 rfl ⟨Nat.le_refl _, Nat.le_refl _⟩ ?_
    refine hq _ _ ⟨by rw [if_neg (by rw [← hr_]; exact c187)], A2, rfl, hF3, ?_⟩
    rw [if_neg (by rw [← hr_]; exact c187), hF4, mm_up_at]
set_option maxRecDepth 100000 in
set_option maxHeartbeats 600000 in
theorem cg_stG {g : mm_G} {d : Nat} {w h n l k o r : Nat} {A : mm_I} {N : Nat → Int32} (hz : zOK (w * h) n l k o r) (hW : mo_W N w h) {m p x : Nat} (hm : m < n) (hp : p < 6) (hx : x < 40) (hpl : A (36 + 3 * m) 7 = nI x) {c u v : Nat} (h1 : N (630 + 40 * m + 1) = nI c) (hcc : c < w * h) (hu : u ≤ 9999) (hv : v ≤ 9999) (hc0 : A (54 + 5 * p) (3 * x) = 1) (hc1 : A (54 + 5 * p) (3 * x + 1) = nI (u)) (hc2 : A (54 + 5 * p) (3 * x + 2) = nI (v)) (hd : 3 ≤ d) : mm_Ci g zX6_steer d [.ref 171, .ref (36 + 3 * m), .ref (52 + 5 * p)] sh_S (cN (w * h) n l k o r A N) (if c % w = u ∧ c / w = v then 1 else -1) (cN (w * h) n l k o r (mm_up A (36 + 3 * m) 7 (nI (x + 1))) N) := by
  obtain ⟨hz1, hz2, hz3, hz4, hz5, hz6⟩ := id hz
  have hc := mo_W_c hW
  obtain ⟨-, -, hw1, hw2, hh1, hh2⟩ := id hW
  refine mm_Ci_of (fun Q hq => ?_)
  refine mm_begin (ls := [(0, .ref 171), (1, .ref (36 + 3 * m)), (2, .ref (52 + 5 * p))]) (Nat.le_of_ble_eq_true rfl) rfl rfl ?_
  refine mm_aload_n 1 dX6_steer_0 rfl rfl ?_
  refine mm_geti dX6_steer_1 rfl fk_X6_148 rfl (sm_1 (show m < 5 by omega)).1 ?_
  refine mm_top (v := nI (x)) ((s_m7 hz2 (by omega)).trans hpl) ?_
  refine mm_istore_n (ls' := [(3, .int (nI (x))), (0, .ref 171), (1, .ref (36 + 3 * m)), (2, .ref (52 + 5 * p))]) dX6_steer_4 rfl (by decide) rfl ?_
  refine mm_aload_n 3 dX6_steer_5 rfl rfl ?_
  refine mm_iload_n 0 dX6_steer_6 rfl rfl ?_
  refine mm_cV1i (dz := d - 1) dX6_steer_7 rfl mzX4_first ml_X6_161 imX4_first (by omega) (sp_1 hp).1 ⟨rfl, rfl⟩ (cg_first hp (x := x) (by omega) (by omega)) (Nat.le_of_ble_eq_true rfl) ⟨Nat.le_refl _, Nat.le_refl _⟩ ?_
  refine mm_top (v := nI (u)) (by rw [cN_off hz2 (by omega), show 53 + 5 * p + 1 = 54 + 5 * p by omega, show x * 3 + 1 = 3 * x + 1 by omega]; exact hc1) ?_
  refine mm_istore (ls' := [(4, .int (nI (u))), (3, .int (nI (x))), (0, .ref 171), (1, .ref (36 + 3 * m)), (2, .ref (52 + 5 * p))]) dX6_steer_10 (by decide) rfl ?_
  refine mm_aload_n 4 dX6_steer_12 rfl rfl ?_
  refine mm_at (pc' := 13) rfl ?_
  refine mm_iload_n 1 dX6_steer_13 rfl rfl ?_
  refine mm_cV1i (dz := d - 1) dX6_steer_14 rfl mzX4_second ml_X6_164 imX4_second (by omega) (sp_1 hp).1 ⟨rfl, rfl⟩ (cg_second hp (x := x) (by omega) (by omega)) (Nat.le_of_ble_eq_true rfl) ⟨Nat.le_refl _, Nat.le_refl _⟩ ?_
  refine mm_top (v := nI (v)) (by rw [cN_off hz2 (by omega), show 53 + 5 * p + 1 = 54 + 5 * p by omega, show x * 3 + 2 = 3 * x + 2 by omega]; exact hc2) ?_
  refine mm_istore (ls' := [(5, .int (nI (v))), (4, .int (nI (u))), (3, .int (nI (x))), (0, .ref 171), (1, .ref (36 + 3 * m)), (2, .ref (52 + 5 * p))]) dX6_steer_17 (by decide) rfl ?_
  refine mm_aload_n 4 dX6_steer_19 rfl rfl ?_
  refine mm_iload_n 2 dX6_steer_20 rfl rfl ?_
  refine mm_iconst (v := 1) dX6_steer_21 rfl ?_
  refine mm_iaddN (x) (1) dX6_steer_22 ?_
  refine mm_puti dX6_steer_23 rfl fk_X6_148 rfl fv_1_7 (sm_1 (show m < 5 by omega)).1 ?_
  refine mm_at (pc' := 26) rfl ?_
  refine mm_mem (J := cN (w * h) n l k o r (mm_up A (36 + 3 * m) 7 (nI (x + 1))) N) (s_m7u hz.2.1 (by omega)) ?_
  refine mm_aload_n 5 dX6_steer_26 rfl rfl ?_
  refine mm_iload_n 2 dX6_steer_27 rfl rfl ?_
  refine mm_cV1i (dz := d - 1) dX6_steer_28 rfl mzX4_code ml_X6_158 imX4_code (by omega) (sp_1 hp).1 ⟨rfl, rfl⟩ (cg_code hp (x := x) (by omega) (by omega)) (Nat.le_of_ble_eq_true rfl) ⟨Nat.le_refl _, Nat.le_refl _⟩ ?_
  refine mm_top (v := 1) (by rw [cN_off hz2 (by omega), mm_up_ne (by omega), show 53 + 5 * p + 1 = 54 + 5 * p by omega, show x * 3 = 3 * x by omega]; exact hc0) ?_
  refine mm_tabIn (1) (tgt := 199) dX6_steer_31 rfl (by decide) (by decide) rfl (by decide) ?_
  refine mm_aload_n 3 dX6_steer_199 rfl rfl ?_
  refine mm_aload_n 4 dX6_steer_200 rfl rfl ?_
  refine mm_iload 1 dX6_steer_201 rfl ?_
  refine mm_iload 0 dX6_steer_203 rfl ?_
  refine mm_cV3i (dz := d - 1) dX6_steer_205 rfl mzX6_isAt ml_X6_185 imX6_isAt (by omega) so_171 ⟨rfl, rfl⟩ (cg_isAt hz hW hm h1 hcc (x := u) (y := v) (by omega) (by omega) (by omega)) (Nat.le_of_ble_eq_true rfl) ⟨Nat.le_refl _, Nat.le_refl _⟩ ?_
  refine mm_if_eqB (tgt := 215) dX6_steer_208 (by decide) (fun c208 => ?_) (fun c208 => ?_)
  · refine mm_iconst (v := -1) dX6_steer_215 rfl ?_
    refine mm_iret dX6_steer_216 rfl ⟨Nat.le_refl _, Nat.le_refl _⟩ ?_
    rw [if_neg c208] at hq; exact hq
  · refine mm_iconst (v := 1) dX6_steer_211 rfl ?_
    refine mm_goto (tgt := 216) dX6_steer_212 (by decide) ?_
    refine mm_iret dX6_steer_216 rfl ⟨Nat.le_refl _, Nat.le_refl _⟩ ?_
    rw [if_pos c208] at hq; exact hq
set_option maxRecDepth 100000 in
set_option maxHeartbeats 600000 in
theorem cg_stT6 {g : mm_G} {d : Nat} {w h n l k o r : Nat} {A : mm_I} {N : Nat → Int32} (hz : zOK (w * h) n l k o r) (hW : mo_W N w h) {m p x : Nat} (hm : m < n) (hp : p < 6) (hx : x < 40) (hpl : A (36 + 3 * m) 7 = nI x) (hc0 : A (54 + 5 * p) (3 * x) = 6) (hd : 3 ≤ d) : mm_Ci g zX6_steer d [.ref 171, .ref (36 + 3 * m), .ref (52 + 5 * p)] sh_S (cN (w * h) n l k o r A N) (-1) (cN (w * h) n l k o r (mm_up A (36 + 3 * m) 7 (nI (x + 1))) N) := by
  obtain ⟨hz1, hz2, hz3, hz4, hz5, hz6⟩ := id hz
  have hc := mo_W_c hW
  obtain ⟨-, -, hw1, hw2, hh1, hh2⟩ := id hW
  refine mm_Ci_of (fun Q hq => ?_)
  refine mm_begin (ls := [(0, .ref 171), (1, .ref (36 + 3 * m)), (2, .ref (52 + 5 * p))]) (Nat.le_of_ble_eq_true rfl) rfl rfl ?_
  refine mm_aload_n 1 dX6_steer_0 rfl rfl ?_
  refine mm_geti dX6_steer_1 rfl fk_X6_148 rfl (sm_1 (show m < 5 by omega)).1 ?_
  refine mm_top (v := nI (x)) ((s_m7 hz2 (by omega)).trans hpl) ?_
  refine mm_istore_n (ls' := [(3, .int (nI (x))), (0, .ref 171), (1, .ref (36 + 3 * m)), (2, .ref (52 + 5 * p))]) dX6_steer_4 rfl (by decide) rfl ?_
  refine mm_aload_n 3 dX6_steer_5 rfl rfl ?_
  refine mm_iload_n 0 dX6_steer_6 rfl rfl ?_
  refine mm_cV1i (dz := d - 1) dX6_steer_7 rfl mzX4_first ml_X6_161 imX4_first (by omega) (sp_1 hp).1 ⟨rfl, rfl⟩ (cg_first hp (x := x) (by omega) (by omega)) (Nat.le_of_ble_eq_true rfl) ⟨Nat.le_refl _, Nat.le_refl _⟩ ?_
  refine mm_top (v := A (54 + 5 * p) (3 * x + 1)) (by rw [cN_off hz2 (by omega), show 53 + 5 * p + 1 = 54 + 5 * p by omega, show x * 3 + 1 = 3 * x + 1 by omega]) ?_
  refine mm_istore (ls' := [(4, .int (A (54 + 5 * p) (3 * x + 1))), (3, .int (nI (x))), (0, .ref 171), (1, .ref (36 + 3 * m)), (2, .ref (52 + 5 * p))]) dX6_steer_10 (by decide) rfl ?_
  refine mm_aload_n 4 dX6_steer_12 rfl rfl ?_
  refine mm_at (pc' := 13) rfl ?_
  refine mm_iload_n 1 dX6_steer_13 rfl rfl ?_
  refine mm_cV1i (dz := d - 1) dX6_steer_14 rfl mzX4_second ml_X6_164 imX4_second (by omega) (sp_1 hp).1 ⟨rfl, rfl⟩ (cg_second hp (x := x) (by omega) (by omega)) (Nat.le_of_ble_eq_true rfl) ⟨Nat.le_refl _, Nat.le_refl _⟩ ?_
  refine mm_top (v := A (54 + 5 * p) (3 * x + 2)) (by rw [cN_off hz2 (by omega), show 53 + 5 * p + 1 = 54 + 5 * p by omega, show x * 3 + 2 = 3 * x + 2 by omega]) ?_
  refine mm_istore (ls' := [(5, .int (A (54 + 5 * p) (3 * x + 2))), (4, .int (A (54 + 5 * p) (3 * x + 1))), (3, .int (nI (x))), (0, .ref 171), (1, .ref (36 + 3 * m)), (2, .ref (52 + 5 * p))]) dX6_steer_17 (by decide) rfl ?_
  refine mm_aload_n 4 dX6_steer_19 rfl rfl ?_
  refine mm_iload_n 2 dX6_steer_20 rfl rfl ?_
  refine mm_iconst (v := 1) dX6_steer_21 rfl ?_
  refine mm_iaddN (x) (1) dX6_steer_22 ?_
  refine mm_puti dX6_steer_23 rfl fk_X6_148 rfl fv_1_7 (sm_1 (show m < 5 by omega)).1 ?_
  refine mm_at (pc' := 26) rfl ?_
  refine mm_mem (J := cN (w * h) n l k o r (mm_up A (36 + 3 * m) 7 (nI (x + 1))) N) (s_m7u hz.2.1 (by omega)) ?_
  refine mm_aload_n 5 dX6_steer_26 rfl rfl ?_
  refine mm_iload_n 2 dX6_steer_27 rfl rfl ?_
  refine mm_cV1i (dz := d - 1) dX6_steer_28 rfl mzX4_code ml_X6_158 imX4_code (by omega) (sp_1 hp).1 ⟨rfl, rfl⟩ (cg_code hp (x := x) (by omega) (by omega)) (Nat.le_of_ble_eq_true rfl) ⟨Nat.le_refl _, Nat.le_refl _⟩ ?_
  refine mm_top (v := 6) (by rw [cN_off hz2 (by omega), mm_up_ne (by omega), show 53 + 5 * p + 1 = 54 + 5 * p by omega, show x * 3 = 3 * x by omega]; exact hc0) ?_
  refine mm_tabIn (6) (tgt := 217) dX6_steer_31 rfl (by decide) (by decide) rfl (by decide) ?_
  refine mm_iconst (v := -1) dX6_steer_217 rfl ?_
  refine mm_iret dX6_steer_218 rfl ⟨Nat.le_refl _, Nat.le_refl _⟩ ?_
  exact hq
set_option maxRecDepth 100000 in
set_option maxHeartbeats 600000 in
theorem cg_stT7 {g : mm_G} {d : Nat} {w h n l k o r : Nat} {A : mm_I} {N : Nat → Int32} (hz : zOK (w * h) n l k o r) (hW : mo_W N w h) {m p x : Nat} (hm : m < n) (hp : p < 6) (hx : x < 40) (hpl : A (36 + 3 * m) 7 = nI x) (hc0 : A (54 + 5 * p) (3 * x) = 7) (hd : 3 ≤ d) : mm_Ci g zX6_steer d [.ref 171, .ref (36 + 3 * m), .ref (52 + 5 * p)] sh_S (cN (w * h) n l k o r A N) (-1) (cN (w * h) n l k o r (mm_up A (36 + 3 * m) 7 (nI (x + 1))) N) := by
  obtain ⟨hz1, hz2, hz3, hz4, hz5, hz6⟩ := id hz
  have hc := mo_W_c hW
  obtain ⟨-, -, hw1, hw2, hh1, hh2⟩ := id hW
  refine mm_Ci_of (fun Q hq => ?_)
  refine mm_begin (ls := [(0, .ref 171), (1, .ref (36 + 3 * m)), (2, .ref (52 + 5 * p))]) (Nat.le_of_ble_eq_true rfl) rfl rfl ?_
  refine mm_aload_n 1 dX6_steer_0 rfl rfl ?_
  refine mm_geti dX6_steer_1 rfl fk_X6_148 rfl (sm_1 (show m < 5 by omega)).1 ?_
  refine mm_top (v := nI (x)) ((s_m7 hz2 (by omega)).trans hpl) ?_
  refine mm_istore_n (ls' := [(3, .int (nI (x))), (0, .ref 171), (1, .ref (36 + 3 * m)), (2, .ref (52 + 5 * p))]) dX6_steer_4 rfl (by decide) rfl ?_
  refine mm_aload_n 3 dX6_steer_5 rfl rfl ?_
  refine mm_iload_n 0 dX6_steer_6 rfl rfl ?_
  refine mm_cV1i (dz := d - 1) dX6_steer_7 rfl mzX4_first ml_X6_161 imX4_first (by omega) (sp_1 hp).1 ⟨rfl, rfl⟩ (cg_first hp (x := x) (by omega) (by omega)) (Nat.le_of_ble_eq_true rfl) ⟨Nat.le_refl _, Nat.le_refl _⟩ ?_
  refine mm_top (v := A (54 + 5 * p) (3 * x + 1)) (by rw [cN_off hz2 (by omega), show 53 + 5 * p + 1 = 54 + 5 * p by omega, show x * 3 + 1 = 3 * x + 1 by omega]) ?_
  refine mm_istore (ls' := [(4, .int (A (54 + 5 * p) (3 * x + 1))), (3, .int (nI (x))), (0, .ref 171), (1, .ref (36 + 3 * m)), (2, .ref (52 + 5 * p))]) dX6_steer_10 (by decide) rfl ?_
  refine mm_aload_n 4 dX6_steer_12 rfl rfl ?_
  refine mm_at (pc' := 13) rfl ?_
  refine mm_iload_n 1 dX6_steer_13 rfl rfl ?_
  refine mm_cV1i (dz := d - 1) dX6_steer_14 rfl mzX4_second ml_X6_164 imX4_second (by omega) (sp_1 hp).1 ⟨rfl, rfl⟩ (cg_second hp (x := x) (by omega) (by omega)) (Nat.le_of_ble_eq_true rfl) ⟨Nat.le_refl _, Nat.le_refl _⟩ ?_
  refine mm_top (v := A (54 + 5 * p) (3 * x + 2)) (by rw [cN_off hz2 (by omega), show 53 + 5 * p + 1 = 54 + 5 * p by omega, show x * 3 + 2 = 3 * x + 2 by omega]) ?_
  refine mm_istore (ls' := [(5, .int (A (54 + 5 * p) (3 * x + 2))), (4, .int (A (54 + 5 * p) (3 * x + 1))), (3, .int (nI (x))), (0, .ref 171), (1, .ref (36 + 3 * m)), (2, .ref (52 + 5 * p))]) dX6_steer_17 (by decide) rfl ?_
  refine mm_aload_n 4 dX6_steer_19 rfl rfl ?_
  refine mm_iload_n 2 dX6_steer_20 rfl rfl ?_
  refine mm_iconst (v := 1) dX6_steer_21 rfl ?_
  refine mm_iaddN (x) (1) dX6_steer_22 ?_
  refine mm_puti dX6_steer_23 rfl fk_X6_148 rfl fv_1_7 (sm_1 (show m < 5 by omega)).1 ?_
  refine mm_at (pc' := 26) rfl ?_
  refine mm_mem (J := cN (w * h) n l k o r (mm_up A (36 + 3 * m) 7 (nI (x + 1))) N) (s_m7u hz.2.1 (by omega)) ?_
  refine mm_aload_n 5 dX6_steer_26 rfl rfl ?_
  refine mm_iload_n 2 dX6_steer_27 rfl rfl ?_
  refine mm_cV1i (dz := d - 1) dX6_steer_28 rfl mzX4_code ml_X6_158 imX4_code (by omega) (sp_1 hp).1 ⟨rfl, rfl⟩ (cg_code hp (x := x) (by omega) (by omega)) (Nat.le_of_ble_eq_true rfl) ⟨Nat.le_refl _, Nat.le_refl _⟩ ?_
  refine mm_top (v := 7) (by rw [cN_off hz2 (by omega), mm_up_ne (by omega), show 53 + 5 * p + 1 = 54 + 5 * p by omega, show x * 3 = 3 * x by omega]; exact hc0) ?_
  refine mm_tabIn (7) (tgt := 217) dX6_steer_31 rfl (by decide) (by decide) rfl (by decide) ?_
  refine mm_iconst (v := -1) dX6_steer_217 rfl ?_
  refine mm_iret dX6_steer_218 rfl ⟨Nat.le_refl _, Nat.le_refl _⟩ ?_
  exact hq
set_option maxRecDepth 100000 in
set_option maxHeartbeats 600000 in
theorem cg_stT8 {g : mm_G} {d : Nat} {w h n l k o r : Nat} {A : mm_I} {N : Nat → Int32} (hz : zOK (w * h) n l k o r) (hW : mo_W N w h) {m p x : Nat} (hm : m < n) (hp : p < 6) (hx : x < 40) (hpl : A (36 + 3 * m) 7 = nI x) (hc0 : A (54 + 5 * p) (3 * x) = 8) (hd : 3 ≤ d) : mm_Ci g zX6_steer d [.ref 171, .ref (36 + 3 * m), .ref (52 + 5 * p)] sh_S (cN (w * h) n l k o r A N) (-1) (cN (w * h) n l k o r (mm_up A (36 + 3 * m) 7 (nI (x + 1))) N) := by
  obtain ⟨hz1, hz2, hz3, hz4, hz5, hz6⟩ := id hz
  have hc := mo_W_c hW
  obtain ⟨-, -, hw1, hw2, hh1, hh2⟩ := id hW
  refine mm_Ci_of (fun Q hq => ?_)
  refine mm_begin (ls := [(0, .ref 171), (1, .ref (36 + 3 * m)), (2, .ref (52 + 5 * p))]) (Nat.le_of_ble_eq_true rfl) rfl rfl ?_
  refine mm_aload_n 1 dX6_steer_0 rfl rfl ?_
  refine mm_geti dX6_steer_1 rfl fk_X6_148 rfl (sm_1 (show m < 5 by omega)).1 ?_
  refine mm_top (v := nI (x)) ((s_m7 hz2 (by omega)).trans hpl) ?_
  refine mm_istore_n (ls' := [(3, .int (nI (x))), (0, .ref 171), (1, .ref (36 + 3 * m)), (2, .ref (52 + 5 * p))]) dX6_steer_4 rfl (by decide) rfl ?_
  refine mm_aload_n 3 dX6_steer_5 rfl rfl ?_
  refine mm_iload_n 0 dX6_steer_6 rfl rfl ?_
  refine mm_cV1i (dz := d - 1) dX6_steer_7 rfl mzX4_first ml_X6_161 imX4_first (by omega) (sp_1 hp).1 ⟨rfl, rfl⟩ (cg_first hp (x := x) (by omega) (by omega)) (Nat.le_of_ble_eq_true rfl) ⟨Nat.le_refl _, Nat.le_refl _⟩ ?_
  refine mm_top (v := A (54 + 5 * p) (3 * x + 1)) (by rw [cN_off hz2 (by omega), show 53 + 5 * p + 1 = 54 + 5 * p by omega, show x * 3 + 1 = 3 * x + 1 by omega]) ?_
  refine mm_istore (ls' := [(4, .int (A (54 + 5 * p) (3 * x + 1))), (3, .int (nI (x))), (0, .ref 171), (1, .ref (36 + 3 * m)), (2, .ref (52 + 5 * p))]) dX6_steer_10 (by decide) rfl ?_
  refine mm_aload_n 4 dX6_steer_12 rfl rfl ?_
  refine mm_at (pc' := 13) rfl ?_
  refine mm_iload_n 1 dX6_steer_13 rfl rfl ?_
  refine mm_cV1i (dz := d - 1) dX6_steer_14 rfl mzX4_second ml_X6_164 imX4_second (by omega) (sp_1 hp).1 ⟨rfl, rfl⟩ (cg_second hp (x := x) (by omega) (by omega)) (Nat.le_of_ble_eq_true rfl) ⟨Nat.le_refl _, Nat.le_refl _⟩ ?_
  refine mm_top (v := A (54 + 5 * p) (3 * x + 2)) (by rw [cN_off hz2 (by omega), show 53 + 5 * p + 1 = 54 + 5 * p by omega, show x * 3 + 2 = 3 * x + 2 by omega]) ?_
  refine mm_istore (ls' := [(5, .int (A (54 + 5 * p) (3 * x + 2))), (4, .int (A (54 + 5 * p) (3 * x + 1))), (3, .int (nI (x))), (0, .ref 171), (1, .ref (36 + 3 * m)), (2, .ref (52 + 5 * p))]) dX6_steer_17 (by decide) rfl ?_
  refine mm_aload_n 4 dX6_steer_19 rfl rfl ?_
  refine mm_iload_n 2 dX6_steer_20 rfl rfl ?_
  refine mm_iconst (v := 1) dX6_steer_21 rfl ?_
  refine mm_iaddN (x) (1) dX6_steer_22 ?_
  refine mm_puti dX6_steer_23 rfl fk_X6_148 rfl fv_1_7 (sm_1 (show m < 5 by omega)).1 ?_
  refine mm_at (pc' := 26) rfl ?_
  refine mm_mem (J := cN (w * h) n l k o r (mm_up A (36 + 3 * m) 7 (nI (x + 1))) N) (s_m7u hz.2.1 (by omega)) ?_
  refine mm_aload_n 5 dX6_steer_26 rfl rfl ?_
  refine mm_iload_n 2 dX6_steer_27 rfl rfl ?_
  refine mm_cV1i (dz := d - 1) dX6_steer_28 rfl mzX4_code ml_X6_158 imX4_code (by omega) (sp_1 hp).1 ⟨rfl, rfl⟩ (cg_code hp (x := x) (by omega) (by omega)) (Nat.le_of_ble_eq_true rfl) ⟨Nat.le_refl _, Nat.le_refl _⟩ ?_
  refine mm_top (v := 8) (by rw [cN_off hz2 (by omega), mm_up_ne (by omega), show 53 + 5 * p + 1 = 54 + 5 * p by omega, show x * 3 = 3 * x by omega]; exact hc0) ?_
  refine mm_tabIn (8) (tgt := 217) dX6_steer_31 rfl (by decide) (by decide) rfl (by decide) ?_
  refine mm_iconst (v := -1) dX6_steer_217 rfl ?_
  refine mm_iret dX6_steer_218 rfl ⟨Nat.le_refl _, Nat.le_refl _⟩ ?_
  exact hq
set_option maxRecDepth 100000 in
set_option maxHeartbeats 600000 in
theorem cg_stT9 {g : mm_G} {d : Nat} {w h n l k o r : Nat} {A : mm_I} {N : Nat → Int32} (hz : zOK (w * h) n l k o r) (hW : mo_W N w h) {m p x : Nat} (hm : m < n) (hp : p < 6) (hx : x < 40) (hpl : A (36 + 3 * m) 7 = nI x) (hc0 : A (54 + 5 * p) (3 * x) = 9) (hd : 3 ≤ d) : mm_Ci g zX6_steer d [.ref 171, .ref (36 + 3 * m), .ref (52 + 5 * p)] sh_S (cN (w * h) n l k o r A N) (-1) (cN (w * h) n l k o r (mm_up A (36 + 3 * m) 7 (nI (x + 1))) N) := by
  obtain ⟨hz1, hz2, hz3, hz4, hz5, hz6⟩ := id hz
  have hc := mo_W_c hW
  obtain ⟨-, -, hw1, hw2, hh1, hh2⟩ := id hW
  refine mm_Ci_of (fun Q hq => ?_)
  refine mm_begin (ls := [(0, .ref 171), (1, .ref (36 + 3 * m)), (2, .ref (52 + 5 * p))]) (Nat.le_of_ble_eq_true rfl) rfl rfl ?_
  refine mm_aload_n 1 dX6_steer_0 rfl rfl ?_
  refine mm_geti dX6_steer_1 rfl fk_X6_148 rfl (sm_1 (show m < 5 by omega)).1 ?_
  refine mm_top (v := nI (x)) ((s_m7 hz2 (by omega)).trans hpl) ?_
  refine mm_istore_n (ls' := [(3, .int (nI (x))), (0, .ref 171), (1, .ref (36 + 3 * m)), (2, .ref (52 + 5 * p))]) dX6_steer_4 rfl (by decide) rfl ?_
  refine mm_aload_n 3 dX6_steer_5 rfl rfl ?_
  refine mm_iload_n 0 dX6_steer_6 rfl rfl ?_
  refine mm_cV1i (dz := d - 1) dX6_steer_7 rfl mzX4_first ml_X6_161 imX4_first (by omega) (sp_1 hp).1 ⟨rfl, rfl⟩ (cg_first hp (x := x) (by omega) (by omega)) (Nat.le_of_ble_eq_true rfl) ⟨Nat.le_refl _, Nat.le_refl _⟩ ?_
  refine mm_top (v := A (54 + 5 * p) (3 * x + 1)) (by rw [cN_off hz2 (by omega), show 53 + 5 * p + 1 = 54 + 5 * p by omega, show x * 3 + 1 = 3 * x + 1 by omega]) ?_
  refine mm_istore (ls' := [(4, .int (A (54 + 5 * p) (3 * x + 1))), (3, .int (nI (x))), (0, .ref 171), (1, .ref (36 + 3 * m)), (2, .ref (52 + 5 * p))]) dX6_steer_10 (by decide) rfl ?_
  refine mm_aload_n 4 dX6_steer_12 rfl rfl ?_
  refine mm_at (pc' := 13) rfl ?_
  refine mm_iload_n 1 dX6_steer_13 rfl rfl ?_
  refine mm_cV1i (dz := d - 1) dX6_steer_14 rfl mzX4_second ml_X6_164 imX4_second (by omega) (sp_1 hp).1 ⟨rfl, rfl⟩ (cg_second hp (x := x) (by omega) (by omega)) (Nat.le_of_ble_eq_true rfl) ⟨Nat.le_refl _, Nat.le_refl _⟩ ?_
  refine mm_top (v := A (54 + 5 * p) (3 * x + 2)) (by rw [cN_off hz2 (by omega), show 53 + 5 * p + 1 = 54 + 5 * p by omega, show x * 3 + 2 = 3 * x + 2 by omega]) ?_
  refine mm_istore (ls' := [(5, .int (A (54 + 5 * p) (3 * x + 2))), (4, .int (A (54 + 5 * p) (3 * x + 1))), (3, .int (nI (x))), (0, .ref 171), (1, .ref (36 + 3 * m)), (2, .ref (52 + 5 * p))]) dX6_steer_17 (by decide) rfl ?_
  refine mm_aload_n 4 dX6_steer_19 rfl rfl ?_
  refine mm_iload_n 2 dX6_steer_20 rfl rfl ?_
  refine mm_iconst (v := 1) dX6_steer_21 rfl ?_
  refine mm_iaddN (x) (1) dX6_steer_22 ?_
  refine mm_puti dX6_steer_23 rfl fk_X6_148 rfl fv_1_7 (sm_1 (show m < 5 by omega)).1 ?_
  refine mm_at (pc' := 26) rfl ?_
  refine mm_mem (J := cN (w * h) n l k o r (mm_up A (36 + 3 * m) 7 (nI (x + 1))) N) (s_m7u hz.2.1 (by omega)) ?_
  refine mm_aload_n 5 dX6_steer_26 rfl rfl ?_
  refine mm_iload_n 2 dX6_steer_27 rfl rfl ?_
  refine mm_cV1i (dz := d - 1) dX6_steer_28 rfl mzX4_code ml_X6_158 imX4_code (by omega) (sp_1 hp).1 ⟨rfl, rfl⟩ (cg_code hp (x := x) (by omega) (by omega)) (Nat.le_of_ble_eq_true rfl) ⟨Nat.le_refl _, Nat.le_refl _⟩ ?_
  refine mm_top (v := 9) (by rw [cN_off hz2 (by omega), mm_up_ne (by omega), show 53 + 5 * p + 1 = 54 + 5 * p by omega, show x * 3 = 3 * x by omega]; exact hc0) ?_
  refine mm_tabIn (9) (tgt := 217) dX6_steer_31 rfl (by decide) (by decide) rfl (by decide) ?_
  refine mm_iconst (v := -1) dX6_steer_217 rfl ?_
  refine mm_iret dX6_steer_218 rfl ⟨Nat.le_refl _, Nat.le_refl _⟩ ?_
  exact hq
set_option maxRecDepth 100000 in
set_option maxHeartbeats 600000 in
theorem cg_stT10 {g : mm_G} {d : Nat} {w h n l k o r : Nat} {A : mm_I} {N : Nat → Int32} (hz : zOK (w * h) n l k o r) (hW : mo_W N w h) {m p x : Nat} (hm : m < n) (hp : p < 6) (hx : x < 40) (hpl : A (36 + 3 * m) 7 = nI x) (hc0 : A (54 + 5 * p) (3 * x) = 10) (hd : 3 ≤ d) : mm_Ci g zX6_steer d [.ref 171, .ref (36 + 3 * m), .ref (52 + 5 * p)] sh_S (cN (w * h) n l k o r A N) (-1) (cN (w * h) n l k o r (mm_up A (36 + 3 * m) 7 (nI (x + 1))) N) := by
  obtain ⟨hz1, hz2, hz3, hz4, hz5, hz6⟩ := id hz
  have hc := mo_W_c hW
  obtain ⟨-, -, hw1, hw2, hh1, hh2⟩ := id hW
  refine mm_Ci_of (fun Q hq => ?_)
  refine mm_begin (ls := [(0, .ref 171), (1, .ref (36 + 3 * m)), (2, .ref (52 + 5 * p))]) (Nat.le_of_ble_eq_true rfl) rfl rfl ?_
  refine mm_aload_n 1 dX6_steer_0 rfl rfl ?_
  refine mm_geti dX6_steer_1 rfl fk_X6_148 rfl (sm_1 (show m < 5 by omega)).1 ?_
  refine mm_top (v := nI (x)) ((s_m7 hz2 (by omega)).trans hpl) ?_
  refine mm_istore_n (ls' := [(3, .int (nI (x))), (0, .ref 171), (1, .ref (36 + 3 * m)), (2, .ref (52 + 5 * p))]) dX6_steer_4 rfl (by decide) rfl ?_
  refine mm_aload_n 3 dX6_steer_5 rfl rfl ?_
  refine mm_iload_n 0 dX6_steer_6 rfl rfl ?_
  refine mm_cV1i (dz := d - 1) dX6_steer_7 rfl mzX4_first ml_X6_161 imX4_first (by omega) (sp_1 hp).1 ⟨rfl, rfl⟩ (cg_first hp (x := x) (by omega) (by omega)) (Nat.le_of_ble_eq_true rfl) ⟨Nat.le_refl _, Nat.le_refl _⟩ ?_
  refine mm_top (v := A (54 + 5 * p) (3 * x + 1)) (by rw [cN_off hz2 (by omega), show 53 + 5 * p + 1 = 54 + 5 * p by omega, show x * 3 + 1 = 3 * x + 1 by omega]) ?_
  refine mm_istore (ls' := [(4, .int (A (54 + 5 * p) (3 * x + 1))), (3, .int (nI (x))), (0, .ref 171), (1, .ref (36 + 3 * m)), (2, .ref (52 + 5 * p))]) dX6_steer_10 (by decide) rfl ?_
  refine mm_aload_n 4 dX6_steer_12 rfl rfl ?_
  refine mm_at (pc' := 13) rfl ?_
  refine mm_iload_n 1 dX6_steer_13 rfl rfl ?_
  refine mm_cV1i (dz := d - 1) dX6_steer_14 rfl mzX4_second ml_X6_164 imX4_second (by omega) (sp_1 hp).1 ⟨rfl, rfl⟩ (cg_second hp (x := x) (by omega) (by omega)) (Nat.le_of_ble_eq_true rfl) ⟨Nat.le_refl _, Nat.le_refl _⟩ ?_
  refine mm_top (v := A (54 + 5 * p) (3 * x + 2)) (by rw [cN_off hz2 (by omega), show 53 + 5 * p + 1 = 54 + 5 * p by omega, show x * 3 + 2 = 3 * x + 2 by omega]) ?_
  refine mm_istore (ls' := [(5, .int (A (54 + 5 * p) (3 * x + 2))), (4, .int (A (54 + 5 * p) (3 * x + 1))), (3, .int (nI (x))), (0, .ref 171), (1, .ref (36 + 3 * m)), (2, .ref (52 + 5 * p))]) dX6_steer_17 (by decide) rfl ?_
  refine mm_aload_n 4 dX6_steer_19 rfl rfl ?_
  refine mm_iload_n 2 dX6_steer_20 rfl rfl ?_
  refine mm_iconst (v := 1) dX6_steer_21 rfl ?_
  refine mm_iaddN (x) (1) dX6_steer_22 ?_
  refine mm_puti dX6_steer_23 rfl fk_X6_148 rfl fv_1_7 (sm_1 (show m < 5 by omega)).1 ?_
  refine mm_at (pc' := 26) rfl ?_
  refine mm_mem (J := cN (w * h) n l k o r (mm_up A (36 + 3 * m) 7 (nI (x + 1))) N) (s_m7u hz.2.1 (by omega)) ?_
  refine mm_aload_n 5 dX6_steer_26 rfl rfl ?_
  refine mm_iload_n 2 dX6_steer_27 rfl rfl ?_
  refine mm_cV1i (dz := d - 1) dX6_steer_28 rfl mzX4_code ml_X6_158 imX4_code (by omega) (sp_1 hp).1 ⟨rfl, rfl⟩ (cg_code hp (x := x) (by omega) (by omega)) (Nat.le_of_ble_eq_true rfl) ⟨Nat.le_refl _, Nat.le_refl _⟩ ?_
  refine mm_top (v := 10) (by rw [cN_off hz2 (by omega), mm_up_ne (by omega), show 53 + 5 * p + 1 = 54 + 5 * p by omega, show x * 3 = 3 * x by omega]; exact hc0) ?_
  refine mm_tabIn (10) (tgt := 217) dX6_steer_31 rfl (by decide) (by decide) rfl (by decide) ?_
  refine mm_iconst (v := -1) dX6_steer_217 rfl ?_
  refine mm_iret dX6_steer_218 rfl ⟨Nat.le_refl _, Nat.le_refl _⟩ ?_
  exact hq
set_option maxRecDepth 100000 in
set_option maxHeartbeats 600000 in
theorem cg_stT11 {g : mm_G} {d : Nat} {w h n l k o r : Nat} {A : mm_I} {N : Nat → Int32} (hz : zOK (w * h) n l k o r) (hW : mo_W N w h) {m p x : Nat} (hm : m < n) (hp : p < 6) (hx : x < 40) (hpl : A (36 + 3 * m) 7 = nI x) (hc0 : A (54 + 5 * p) (3 * x) = 11) (hd : 3 ≤ d) : mm_Ci g zX6_steer d [.ref 171, .ref (36 + 3 * m), .ref (52 + 5 * p)] sh_S (cN (w * h) n l k o r A N) (-1) (cN (w * h) n l k o r (mm_up A (36 + 3 * m) 7 (nI (x + 1))) N) := by
  obtain ⟨hz1, hz2, hz3, hz4, hz5, hz6⟩ := id hz
  have hc := mo_W_c hW
  obtain ⟨-, -, hw1, hw2, hh1, hh2⟩ := id hW
  refine mm_Ci_of (fun Q hq => ?_)
  refine mm_begin (ls := [(0, .ref 171), (1, .ref (36 + 3 * m)), (2, .ref (52 + 5 * p))]) (Nat.le_of_ble_eq_true rfl) rfl rfl ?_
  refine mm_aload_n 1 dX6_steer_0 rfl rfl ?_
  refine mm_geti dX6_steer_1 rfl fk_X6_148 rfl (sm_1 (show m < 5 by omega)).1 ?_
  refine mm_top (v := nI (x)) ((s_m7 hz2 (by omega)).trans hpl) ?_
  refine mm_istore_n (ls' := [(3, .int (nI (x))), (0, .ref 171), (1, .ref (36 + 3 * m)), (2, .ref (52 + 5 * p))]) dX6_steer_4 rfl (by decide) rfl ?_
  refine mm_aload_n 3 dX6_steer_5 rfl rfl ?_
  refine mm_iload_n 0 dX6_steer_6 rfl rfl ?_
  refine mm_cV1i (dz := d - 1) dX6_steer_7 rfl mzX4_first ml_X6_161 imX4_first (by omega) (sp_1 hp).1 ⟨rfl, rfl⟩ (cg_first hp (x := x) (by omega) (by omega)) (Nat.le_of_ble_eq_true rfl) ⟨Nat.le_refl _, Nat.le_refl _⟩ ?_
  refine mm_top (v := A (54 + 5 * p) (3 * x + 1)) (by rw [cN_off hz2 (by omega), show 53 + 5 * p + 1 = 54 + 5 * p by omega, show x * 3 + 1 = 3 * x + 1 by omega]) ?_
  refine mm_istore (ls' := [(4, .int (A (54 + 5 * p) (3 * x + 1))), (3, .int (nI (x))), (0, .ref 171), (1, .ref (36 + 3 * m)), (2, .ref (52 + 5 * p))]) dX6_steer_10 (by decide) rfl ?_
  refine mm_aload_n 4 dX6_steer_12 rfl rfl ?_
  refine mm_at (pc' := 13) rfl ?_
  refine mm_iload_n 1 dX6_steer_13 rfl rfl ?_
  refine mm_cV1i (dz := d - 1) dX6_steer_14 rfl mzX4_second ml_X6_164 imX4_second (by omega) (sp_1 hp).1 ⟨rfl, rfl⟩ (cg_second hp (x := x) (by omega) (by omega)) (Nat.le_of_ble_eq_true rfl) ⟨Nat.le_refl _, Nat.le_refl _⟩ ?_
  refine mm_top (v := A (54 + 5 * p) (3 * x + 2)) (by rw [cN_off hz2 (by omega), show 53 + 5 * p + 1 = 54 + 5 * p by omega, show x * 3 + 2 = 3 * x + 2 by omega]) ?_
  refine mm_istore (ls' := [(5, .int (A (54 + 5 * p) (3 * x + 2))), (4, .int (A (54 + 5 * p) (3 * x + 1))), (3, .int (nI (x))), (0, .ref 171), (1, .ref (36 + 3 * m)), (2, .ref (52 + 5 * p))]) dX6_steer_17 (by decide) rfl ?_
  refine mm_aload_n 4 dX6_steer_19 rfl rfl ?_
  refine mm_iload_n 2 dX6_steer_20 rfl rfl ?_
  refine mm_iconst (v := 1) dX6_steer_21 rfl ?_
  refine mm_iaddN (x) (1) dX6_steer_22 ?_
  refine mm_puti dX6_steer_23 rfl fk_X6_148 rfl fv_1_7 (sm_1 (show m < 5 by omega)).1 ?_
  refine mm_at (pc' := 26) rfl ?_
  refine mm_mem (J := cN (w * h) n l k o r (mm_up A (36 + 3 * m) 7 (nI (x + 1))) N) (s_m7u hz.2.1 (by omega)) ?_
  refine mm_aload_n 5 dX6_steer_26 rfl rfl ?_
  refine mm_iload_n 2 dX6_steer_27 rfl rfl ?_
  refine mm_cV1i (dz := d - 1) dX6_steer_28 rfl mzX4_code ml_X6_158 imX4_code (by omega) (sp_1 hp).1 ⟨rfl, rfl⟩ (cg_code hp (x := x) (by omega) (by omega)) (Nat.le_of_ble_eq_true rfl) ⟨Nat.le_refl _, Nat.le_refl _⟩ ?_
  refine mm_top (v := 11) (by rw [cN_off hz2 (by omega), mm_up_ne (by omega), show 53 + 5 * p + 1 = 54 + 5 * p by omega, show x * 3 = 3 * x by omega]; exact hc0) ?_
  refine mm_tabIn (11) (tgt := 217) dX6_steer_31 rfl (by decide) (by decide) rfl (by decide) ?_
  refine mm_iconst (v := -1) dX6_steer_217 rfl ?_
  refine mm_iret dX6_steer_218 rfl ⟨Nat.le_refl _, Nat.le_refl _⟩ ?_
  exact hq
