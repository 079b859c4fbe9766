def im_X0_begin_2 (I : mm_I) : mm_I := mm_up (mm_up (rw_fl (mm_up (rw_fl (mm_up (rw_fl (mm_up (mm_up (rw_fl (mm_up (mm_up (rw_fl (mm_up (mm_up (mm_up (I) 2 0 (nI 6)) 2 1 (nI 4)) 3 1 (nI 24)) 4 (nI 0) 24) 4 0 (nI 4)) 5 1 (nI 24)) 6 (nI 20) 24) 6 0 (nI 0)) 7 1 (nI 24)) 8 (nI 0) 24) 9 1 (nI 96)) 10 (-1) 96) 11 1 (nI 3)) 12 (nI 0) 3) 2 7 (nI 0)) 2 8 (nI 0)
theorem im_X0_begin_2_a {I : mm_I} {x : Nat} (h : 17 ≤ x) : im_X0_begin_2 I x = I x := by unfold im_X0_begin_2; rw [mm_up_a (by omega), mm_up_a (by omega), rw_fl_na (by omega), mm_up_a (by omega), rw_fl_na (by omega), mm_up_a (by omega), rw_fl_na (by omega), mm_up_a (by omega), mm_up_a (by omega), rw_fl_na (by omega), mm_up_a (by omega), mm_up_a (by omega), rw_fl_na (by omega), mm_up_a (by omega), mm_up_a (by omega), mm_up_a (by omega)]
set_option maxRecDepth 100000 in
set_option maxHeartbeats 4000000 in
theorem ini_X0_begin_2 {g : mm_G} {d : Nat} {I : mm_I} (hd : 5 ≤ d) : mm_Cv g zX0_begin d [.ref 2, .int (nI 6), .int (nI 4)] (shT 17 14) I (im_X0_begin_2 I) := by
  refine mm_begin (ls := [(0, .ref 2), (1, .int (nI 6)), (2, .int (nI 4))]) (Nat.le_of_ble_eq_true rfl) rfl rfl ?_
  refine mm_aload_n 0 dX0_begin_0 rfl rfl ?_
  refine mm_iload_n 1 dX0_begin_1 rfl rfl ?_
  refine mm_puti dX0_begin_2 rfl fk_X0_42 rfl fv_0_0 ⟨(Nat.le_of_ble_eq_true rfl), so_2.2⟩ ?_
  refine mm_aload_n 0 dX0_begin_5 rfl rfl ?_
  refine mm_iload_n 2 dX0_begin_6 rfl rfl ?_
  refine mm_puti dX0_begin_7 rfl fk_X0_46 rfl fv_0_1 ⟨(Nat.le_of_ble_eq_true rfl), so_2.2⟩ ?_
  refine mm_aload_n 0 dX0_begin_10 rfl rfl ?_
  refine mm_getr (b := 3) dX0_begin_11 rfl fk_X0_14 rfl ⟨(Nat.le_of_ble_eq_true rfl), so_2.2⟩ (by decide +kernel) ?_
  refine mm_aload_n 0 dX0_begin_14 rfl rfl ?_
  refine mm_cV0i (dz := d - 1) dX0_begin_15 rfl mzX0_cells ml_X0_49 imX0_cells (by omega) ⟨(Nat.le_of_ble_eq_true rfl), so_2.2⟩ ⟨rfl, rfl⟩ (ini_cells ⟨(Nat.le_of_ble_eq_true rfl), so_2.2⟩ (by rw [mm_up_nx (by decide)]; exact mm_up_at) (by exact mm_up_at)) (Nat.le_of_ble_eq_true rfl) (by decide) ?_
  refine mm_at (pc' := 18) rfl ?_
  refine mm_iconst (v := nI 0) dX0_begin_18 (by decide) ?_
  refine mm_cV2v (dz := d - 1) dX0_begin_19 rfl mzX5_fill ml_X0_53 imX5_fill (by omega) ⟨(Nat.le_of_ble_eq_true rfl), so_3.2⟩ ⟨rfl, rfl⟩ (ct_fill (S := shT 17 14) (d := d - 1) (show rw_is (shT 17 14) 3 80 from ⟨⟨(Nat.le_of_ble_eq_true rfl), so_3.2⟩, (by decide +kernel), ⟨(Nat.le_of_ble_eq_true rfl), sa_4.2⟩, by decide⟩) 24 (by decide) (by omega)) (Nat.le_of_ble_eq_true rfl) (by decide) ?_
  refine mm_at (pc' := 22) rfl ?_
  refine mm_aload_n 0 dX0_begin_22 rfl rfl ?_
  refine mm_getr (b := 3) dX0_begin_23 rfl fk_X0_14 rfl ⟨(Nat.le_of_ble_eq_true rfl), so_2.2⟩ (by decide +kernel) ?_
  refine mm_iconst (v := nI 0) dX0_begin_26 (by decide) ?_
  refine mm_iconst (v := nI 4) dX0_begin_27 (by decide) ?_
  refine mm_cV2v (dz := d - 1) dX0_begin_28 rfl mzX5_set ml_X0_56 imX5_set (by omega) ⟨(Nat.le_of_ble_eq_true rfl), so_3.2⟩ ⟨rfl, rfl⟩ (ct_set (S := shT 17 14) (d := d - 1) (show rw_is (shT 17 14) 3 80 from ⟨⟨(Nat.le_of_ble_eq_true rfl), so_3.2⟩, (by decide +kernel), ⟨(Nat.le_of_ble_eq_true rfl), sa_4.2⟩, by decide⟩) 0 (by decide)) (Nat.le_of_ble_eq_true rfl) (by decide) ?_
  refine mm_at (pc' := 31) rfl ?_
  refine mm_aload_n 0 dX0_begin_31 rfl rfl ?_
  refine mm_getr (b := 5) dX0_begin_32 rfl fk_X0_20 rfl ⟨(Nat.le_of_ble_eq_true rfl), so_2.2⟩ (by decide +kernel) ?_
  refine mm_aload_n 0 dX0_begin_35 rfl rfl ?_
  refine mm_cV0i (dz := d - 1) dX0_begin_36 rfl mzX0_cells ml_X0_49 imX0_cells (by omega) ⟨(Nat.le_of_ble_eq_true rfl), so_2.2⟩ ⟨rfl, rfl⟩ (ini_cells ⟨(Nat.le_of_ble_eq_true rfl), so_2.2⟩ (by rw [mm_up_nx (by decide), rw_fl_ne (by decide), mm_up_nx (by decide), mm_up_nx (by decide)]; exact mm_up_at) (by rw [mm_up_nx (by decide), rw_fl_ne (by decide), mm_up_nx (by decide)]; exact mm_up_at)) (Nat.le_of_ble_eq_true rfl) (by decide) ?_
  refine mm_at (pc' := 39) rfl ?_
  refine mm_bipush (v := nI 20) dX0_begin_39 (by decide) ?_
  refine mm_cV2v (dz := d - 1) dX0_begin_41 rfl mzX5_fill ml_X0_53 imX5_fill (by omega) ⟨(Nat.le_of_ble_eq_true rfl), so_5.2⟩ ⟨rfl, rfl⟩ (ct_fill (S := shT 17 14) (d := d - 1) (show rw_is (shT 17 14) 5 80 from ⟨⟨(Nat.le_of_ble_eq_true rfl), so_5.2⟩, (by decide +kernel), ⟨(Nat.le_of_ble_eq_true rfl), sa_6.2⟩, by decide⟩) 24 (by decide) (by omega)) (Nat.le_of_ble_eq_true rfl) (by decide) ?_
  refine mm_at (pc' := 44) rfl ?_
  refine mm_aload_n 0 dX0_begin_44 rfl rfl ?_
  refine mm_getr (b := 5) dX0_begin_45 rfl fk_X0_20 rfl ⟨(Nat.le_of_ble_eq_true rfl), so_2.2⟩ (by decide +kernel) ?_
  refine mm_iconst (v := nI 0) dX0_begin_48 (by decide) ?_
  refine mm_iconst (v := nI 0) dX0_begin_49 (by decide) ?_
  refine mm_cV2v (dz := d - 1) dX0_begin_50 rfl mzX5_set ml_X0_56 imX5_set (by omega) ⟨(Nat.le_of_ble_eq_true rfl), so_5.2⟩ ⟨rfl, rfl⟩ (ct_set (S := shT 17 14) (d := d - 1) (show rw_is (shT 17 14) 5 80 from ⟨⟨(Nat.le_of_ble_eq_true rfl), so_5.2⟩, (by decide +kernel), ⟨(Nat.le_of_ble_eq_true rfl), sa_6.2⟩, by decide⟩) 0 (by decide)) (Nat.le_of_ble_eq_true rfl) (by decide) ?_
  refine mm_at (pc' := 53) rfl ?_
  refine mm_aload_n 0 dX0_begin_53 rfl rfl ?_
  refine mm_getr (b := 7) dX0_begin_54 rfl fk_X0_23 rfl ⟨(Nat.le_of_ble_eq_true rfl), so_2.2⟩ (by decide +kernel) ?_
  refine mm_aload_n 0 dX0_begin_57 rfl rfl ?_
  refine mm_cV0i (dz := d - 1) dX0_begin_58 rfl mzX0_cells ml_X0_49 imX0_cells (by omega) ⟨(Nat.le_of_ble_eq_true rfl), so_2.2⟩ ⟨rfl, rfl⟩ (ini_cells ⟨(Nat.le_of_ble_eq_true rfl), so_2.2⟩ (by rw [mm_up_nx (by decide), rw_fl_ne (by decide), mm_up_nx (by decide), mm_up_nx (by decide), rw_fl_ne (by decide), mm_up_nx (by decide), mm_up_nx (by decide)]; exact mm_up_at) (by rw [mm_up_nx (by decide), rw_fl_ne (by decide), mm_up_nx (by decide), mm_up_nx (by decide), rw_fl_ne (by decide), mm_up_nx (by decide)]; exact mm_up_at)) (Nat.le_of_ble_eq_true rfl) (by decide) ?_
  refine mm_at (pc' := 61) rfl ?_
  refine mm_iconst (v := nI 0) dX0_begin_61 (by decide) ?_
  refine mm_cV2v (dz := d - 1) dX0_begin_62 rfl mzX5_fill ml_X0_53 imX5_fill (by omega) ⟨(Nat.le_of_ble_eq_true rfl), so_7.2⟩ ⟨rfl, rfl⟩ (ct_fill (S := shT 17 14) (d := d - 1) (show rw_is (shT 17 14) 7 80 from ⟨⟨(Nat.le_of_ble_eq_true rfl), so_7.2⟩, (by decide +kernel), ⟨(Nat.le_of_ble_eq_true rfl), sa_8.2⟩, by decide⟩) 24 (by decide) (by omega)) (Nat.le_of_ble_eq_true rfl) (by decide) ?_
  refine mm_at (pc' := 65) rfl ?_
  refine mm_aload_n 0 dX0_begin_65 rfl rfl ?_
  refine mm_getr (b := 9) dX0_begin_66 rfl fk_X0_26 rfl ⟨(Nat.le_of_ble_eq_true rfl), so_2.2⟩ (by decide +kernel) ?_
  refine mm_iconst (v := nI 4) dX0_begin_69 (by decide) ?_
  refine mm_aload_n 0 dX0_begin_70 rfl rfl ?_
  refine mm_cV0i (dz := d - 1) dX0_begin_71 rfl mzX0_cells ml_X0_49 imX0_cells (by omega) ⟨(Nat.le_of_ble_eq_true rfl), so_2.2⟩ ⟨rfl, rfl⟩ (ini_cells ⟨(Nat.le_of_ble_eq_true rfl), so_2.2⟩ (by rw [rw_fl_ne (by decide), mm_up_nx (by decide), mm_up_nx (by decide), rw_fl_ne (by decide), mm_up_nx (by decide), mm_up_nx (by decide), rw_fl_ne (by decide), mm_up_nx (by decide), mm_up_nx (by decide)]; exact mm_up_at) (by rw [rw_fl_ne (by decide), mm_up_nx (by decide), mm_up_nx (by decide), rw_fl_ne (by decide), mm_up_nx (by decide), mm_up_nx (by decide), rw_fl_ne (by decide), mm_up_nx (by decide)]; exact mm_up_at)) (Nat.le_of_ble_eq_true rfl) (by decide) ?_
  refine mm_at (pc' := 74) rfl ?_
  refine mm_imulN 4 24 dX0_begin_74 ?_
  refine mm_as (st' := [.int (nI 96), .ref 9]) rfl ?_
  refine mm_iconst (v := -1) dX0_begin_75 (by decide) ?_
  refine mm_cV2v (dz := d - 1) dX0_begin_76 rfl mzX5_fill ml_X0_53 imX5_fill (by omega) ⟨(Nat.le_of_ble_eq_true rfl), so_9.2⟩ ⟨rfl, rfl⟩ (ct_fill (S := shT 17 14) (d := d - 1) (show rw_is (shT 17 14) 9 320 from ⟨⟨(Nat.le_of_ble_eq_true rfl), so_9.2⟩, (by decide +kernel), ⟨(Nat.le_of_ble_eq_true rfl), sa_10.2⟩, by decide⟩) 96 (by decide) (by omega)) (Nat.le_of_ble_eq_true rfl) (by decide) ?_
  refine mm_at (pc' := 79) rfl ?_
  refine mm_aload_n 0 dX0_begin_79 rfl rfl ?_
  refine mm_getr (b := 11) dX0_begin_80 rfl fk_X0_29 rfl ⟨(Nat.le_of_ble_eq_true rfl), so_2.2⟩ (by decide +kernel) ?_
  refine mm_iconst (v := nI 3) dX0_begin_83 (by decide) ?_
  refine mm_iconst (v := nI 0) dX0_begin_84 (by decide) ?_
  refine mm_cV2v (dz := d - 1) dX0_begin_85 rfl mzX5_fill ml_X0_53 imX5_fill (by omega) ⟨(Nat.le_of_ble_eq_true rfl), so_11.2⟩ ⟨rfl, rfl⟩ (ct_fill (S := shT 17 14) (d := d - 1) (show rw_is (shT 17 14) 11 3 from ⟨⟨(Nat.le_of_ble_eq_true rfl), so_11.2⟩, (by decide +kernel), ⟨(Nat.le_of_ble_eq_true rfl), sa_12.2⟩, by decide⟩) 3 (by decide) (by omega)) (Nat.le_of_ble_eq_true rfl) (by decide) ?_
  refine mm_at (pc' := 88) rfl ?_
  refine mm_aload_n 0 dX0_begin_88 rfl rfl ?_
  refine mm_iconst (v := nI 0) dX0_begin_89 (by decide) ?_
  refine mm_puti dX0_begin_90 rfl fk_X0_59 rfl fv_0_7 ⟨(Nat.le_of_ble_eq_true rfl), so_2.2⟩ ?_
  refine mm_aload_n 0 dX0_begin_93 rfl rfl ?_
  refine mm_iconst (v := nI 0) dX0_begin_94 (by decide) ?_
  refine mm_puti dX0_begin_95 rfl fk_X0_62 rfl fv_0_8 ⟨(Nat.le_of_ble_eq_true rfl), so_2.2⟩ ?_
  exact mm_vret dX0_begin_98 rfl (by decide) ⟨rfl, rfl, rfl⟩
def im_X0_2 (I : mm_I) : mm_I := im_X0_begin_2 (I)
theorem im_X0_2_a {I : mm_I} {x : Nat} (h : 17 ≤ x) : im_X0_2 I x = I x := by unfold im_X0_2; rw [im_X0_begin_2_a (by omega)]
set_option maxRecDepth 100000 in
set_option maxHeartbeats 4000000 in
theorem ini_X0_2 {g : mm_G} {d : Nat} {I : mm_I} (hd : 6 ≤ d) (hz : ∀ x, 2 ≤ x → ∀ k, I x k = 0) : mm_Ct g zX0_init d (14, 737) [.ref 2] (shT 3 0) I (fun r S' I' => r = none ∧ S' = shT 17 14 ∧ I' = im_X0_2 I) := by
  refine mm_begin (ls := [(0, .ref 2)]) (Nat.le_of_ble_eq_true rfl) rfl rfl ?_
  refine mm_aload_n 0 dX0_init_0 rfl rfl ?_
  refine mm_obj dX0_init_1 rfl ml_X0_3 jm_obj (by omega) (Nat.le_of_ble_eq_true rfl) ?_
  refine mm_at (pc' := 4) rfl ?_
  refine mm_aload_n 0 dX0_init_4 rfl rfl ?_
  refine mm_newT (ci := 5) (C := RX5) (T := TX5) (n' := 4) (Al' := (1, 2)) dX0_init_5 rfl rfl mm_wX5 mm_tX5 cn_X0_9 mm_iX5 mm_dX5 (by decide) (by decide) rfl rfl so_3.2 (by decide +kernel) (hz 3 (by decide)) rfl rfl ?_
  refine mm_dup dX0_init_8 rfl ?_
  refine mm_bipush (v := nI 80) dX0_init_9 (by decide) ?_
  refine mm_callI1 (dz := d - 1) (Mz := (1, 80)) (Al' := (2, 82)) dX0_init_11 rfl mzX5_init ml_X0_11 imX5_init ⟨rfl, rfl⟩ (by omega) (ini_X5 (a := 3) (t := 0) (t' := 1) (m := 80) (n1 := 4) (n2 := 5) (by omega) (fun x hx => hz x (by omega)) (by decide) (by decide) rfl rfl rfl so_3.2 sa_4.2 (by decide +kernel) (by decide +kernel) (by decide +kernel)) (Nat.le_of_ble_eq_true rfl) (by decide) rfl rfl rfl ?_
  refine mm_at (pc' := 14) rfl ?_
  refine mm_putrT (t' := 2) dX0_init_14 rfl rfl fk_X0_14 (fun C T N h => by cases h; exact ⟨rfl, rfl⟩) rfl ⟨(Nat.le_of_ble_eq_true rfl), so_2.2⟩ (Or.inl (Nat.le_of_ble_eq_true rfl)) (by decide +kernel) (by decide +kernel) rfl ?_
  refine mm_aload_n 0 dX0_init_17 rfl rfl ?_
  refine mm_newT (ci := 5) (C := RX5) (T := TX5) (n' := 6) (Al' := (3, 84)) dX0_init_18 rfl rfl mm_wX5 mm_tX5 cn_X0_9 mm_iX5 mm_dX5 (by decide) (by decide) rfl rfl so_5.2 (by decide +kernel) (hz 5 (by decide)) rfl rfl ?_
  refine mm_dup dX0_init_21 rfl ?_
  refine mm_bipush (v := nI 80) dX0_init_22 (by decide) ?_
  refine mm_callI1 (dz := d - 1) (Mz := (1, 80)) (Al' := (4, 164)) dX0_init_24 rfl mzX5_init ml_X0_11 imX5_init ⟨rfl, rfl⟩ (by omega) (ini_X5 (a := 5) (t := 2) (t' := 3) (m := 80) (n1 := 6) (n2 := 7) (by omega) (fun x hx => hz x (by omega)) (by decide) (by decide) rfl rfl rfl so_5.2 sa_6.2 (by decide +kernel) (by decide +kernel) (by decide +kernel)) (Nat.le_of_ble_eq_true rfl) (by decide) rfl rfl rfl ?_
  refine mm_at (pc' := 27) rfl ?_
  refine mm_putrT (t' := 4) dX0_init_27 rfl rfl fk_X0_20 (fun C T N h => by cases h; exact ⟨rfl, rfl⟩) rfl ⟨(Nat.le_of_ble_eq_true rfl), so_2.2⟩ (Or.inl (Nat.le_of_ble_eq_true rfl)) (by decide +kernel) (by decide +kernel) rfl ?_
  refine mm_aload_n 0 dX0_init_30 rfl rfl ?_
  refine mm_newT (ci := 5) (C := RX5) (T := TX5) (n' := 8) (Al' := (5, 166)) dX0_init_31 rfl rfl mm_wX5 mm_tX5 cn_X0_9 mm_iX5 mm_dX5 (by decide) (by decide) rfl rfl so_7.2 (by decide +kernel) (hz 7 (by decide)) rfl rfl ?_
  refine mm_dup dX0_init_34 rfl ?_
  refine mm_bipush (v := nI 80) dX0_init_35 (by decide) ?_
  refine mm_callI1 (dz := d - 1) (Mz := (1, 80)) (Al' := (6, 246)) dX0_init_37 rfl mzX5_init ml_X0_11 imX5_init ⟨rfl, rfl⟩ (by omega) (ini_X5 (a := 7) (t := 4) (t' := 5) (m := 80) (n1 := 8) (n2 := 9) (by omega) (fun x hx => hz x (by omega)) (by decide) (by decide) rfl rfl rfl so_7.2 sa_8.2 (by decide +kernel) (by decide +kernel) (by decide +kernel)) (Nat.le_of_ble_eq_true rfl) (by decide) rfl rfl rfl ?_
  refine mm_at (pc' := 40) rfl ?_
  refine mm_putrT (t' := 6) dX0_init_40 rfl rfl fk_X0_23 (fun C T N h => by cases h; exact ⟨rfl, rfl⟩) rfl ⟨(Nat.le_of_ble_eq_true rfl), so_2.2⟩ (Or.inl (Nat.le_of_ble_eq_true rfl)) (by decide +kernel) (by decide +kernel) rfl ?_
  refine mm_aload_n 0 dX0_init_43 rfl rfl ?_
  refine mm_newT (ci := 5) (C := RX5) (T := TX5) (n' := 10) (Al' := (7, 248)) dX0_init_44 rfl rfl mm_wX5 mm_tX5 cn_X0_9 mm_iX5 mm_dX5 (by decide) (by decide) rfl rfl so_9.2 (by decide +kernel) (hz 9 (by decide)) rfl rfl ?_
  refine mm_dup dX0_init_47 rfl ?_
  refine mm_sipush (v := nI 320) dX0_init_48 (by decide) ?_
  refine mm_callI1 (dz := d - 1) (Mz := (1, 320)) (Al' := (8, 568)) dX0_init_51 rfl mzX5_init ml_X0_11 imX5_init ⟨rfl, rfl⟩ (by omega) (ini_X5 (a := 9) (t := 6) (t' := 7) (m := 320) (n1 := 10) (n2 := 11) (by omega) (fun x hx => hz x (by omega)) (by decide) (by decide) rfl rfl rfl so_9.2 sa_10.2 (by decide +kernel) (by decide +kernel) (by decide +kernel)) (Nat.le_of_ble_eq_true rfl) (by decide) rfl rfl rfl ?_
  refine mm_at (pc' := 54) rfl ?_
  refine mm_putrT (t' := 8) dX0_init_54 rfl rfl fk_X0_26 (fun C T N h => by cases h; exact ⟨rfl, rfl⟩) rfl ⟨(Nat.le_of_ble_eq_true rfl), so_2.2⟩ (Or.inl (Nat.le_of_ble_eq_true rfl)) (by decide +kernel) (by decide +kernel) rfl ?_
  refine mm_aload_n 0 dX0_init_57 rfl rfl ?_
  refine mm_newT (ci := 5) (C := RX5) (T := TX5) (n' := 12) (Al' := (9, 570)) dX0_init_58 rfl rfl mm_wX5 mm_tX5 cn_X0_9 mm_iX5 mm_dX5 (by decide) (by decide) rfl rfl so_11.2 (by decide +kernel) (hz 11 (by decide)) rfl rfl ?_
  refine mm_dup dX0_init_61 rfl ?_
  refine mm_iconst (v := nI 3) dX0_init_62 (by decide) ?_
  refine mm_callI1 (dz := d - 1) (Mz := (1, 3)) (Al' := (10, 573)) dX0_init_63 rfl mzX5_init ml_X0_11 imX5_init ⟨rfl, rfl⟩ (by omega) (ini_X5 (a := 11) (t := 8) (t' := 9) (m := 3) (n1 := 12) (n2 := 13) (by omega) (fun x hx => hz x (by omega)) (by decide) (by decide) rfl rfl rfl so_11.2 sa_12.2 (by decide +kernel) (by decide +kernel) (by decide +kernel)) (Nat.le_of_ble_eq_true rfl) (by decide) rfl rfl rfl ?_
  refine mm_at (pc' := 66) rfl ?_
  refine mm_putrT (t' := 10) dX0_init_66 rfl rfl fk_X0_29 (fun C T N h => by cases h; exact ⟨rfl, rfl⟩) rfl ⟨(Nat.le_of_ble_eq_true rfl), so_2.2⟩ (Or.inl (Nat.le_of_ble_eq_true rfl)) (by decide +kernel) (by decide +kernel) rfl ?_
  refine mm_aload_n 0 dX0_init_69 rfl rfl ?_
  refine mm_newT (ci := 5) (C := RX5) (T := TX5) (n' := 14) (Al' := (11, 575)) dX0_init_70 rfl rfl mm_wX5 mm_tX5 cn_X0_9 mm_iX5 mm_dX5 (by decide) (by decide) rfl rfl so_13.2 (by decide +kernel) (hz 13 (by decide)) rfl rfl ?_
  refine mm_dup dX0_init_73 rfl ?_
  refine mm_bipush (v := nI 80) dX0_init_74 (by decide) ?_
  refine mm_callI1 (dz := d - 1) (Mz := (1, 80)) (Al' := (12, 655)) dX0_init_76 rfl mzX5_init ml_X0_11 imX5_init ⟨rfl, rfl⟩ (by omega) (ini_X5 (a := 13) (t := 10) (t' := 11) (m := 80) (n1 := 14) (n2 := 15) (by omega) (fun x hx => hz x (by omega)) (by decide) (by decide) rfl rfl rfl so_13.2 sa_14.2 (by decide +kernel) (by decide +kernel) (by decide +kernel)) (Nat.le_of_ble_eq_true rfl) (by decide) rfl rfl rfl ?_
  refine mm_at (pc' := 79) rfl ?_
  refine mm_putrT (t' := 12) dX0_init_79 rfl rfl fk_X0_32 (fun C T N h => by cases h; exact ⟨rfl, rfl⟩) rfl ⟨(Nat.le_of_ble_eq_true rfl), so_2.2⟩ (Or.inl (Nat.le_of_ble_eq_true rfl)) (by decide +kernel) (by decide +kernel) rfl ?_
  refine mm_aload_n 0 dX0_init_82 rfl rfl ?_
  refine mm_newT (ci := 5) (C := RX5) (T := TX5) (n' := 16) (Al' := (13, 657)) dX0_init_83 rfl rfl mm_wX5 mm_tX5 cn_X0_9 mm_iX5 mm_dX5 (by decide) (by decide) rfl rfl so_15.2 (by decide +kernel) (hz 15 (by decide)) rfl rfl ?_
  refine mm_dup dX0_init_86 rfl ?_
  refine mm_bipush (v := nI 80) dX0_init_87 (by decide) ?_
  refine mm_callI1 (dz := d - 1) (Mz := (1, 80)) (Al' := (14, 737)) dX0_init_89 rfl mzX5_init ml_X0_11 imX5_init ⟨rfl, rfl⟩ (by omega) (ini_X5 (a := 15) (t := 12) (t' := 13) (m := 80) (n1 := 16) (n2 := 17) (by omega) (fun x hx => hz x (by omega)) (by decide) (by decide) rfl rfl rfl so_15.2 sa_16.2 (by decide +kernel) (by decide +kernel) (by decide +kernel)) (Nat.le_of_ble_eq_true rfl) (by decide) rfl rfl rfl ?_
  refine mm_at (pc' := 92) rfl ?_
  refine mm_putrT (t' := 14) dX0_init_92 rfl rfl fk_X0_35 (fun C T N h => by cases h; exact ⟨rfl, rfl⟩) rfl ⟨(Nat.le_of_ble_eq_true rfl), so_2.2⟩ (Or.inl (Nat.le_of_ble_eq_true rfl)) (by decide +kernel) (by decide +kernel) rfl ?_
  refine mm_aload_n 0 dX0_init_95 rfl rfl ?_
  refine mm_bipush (v := nI 6) dX0_init_96 (by decide) ?_
  refine mm_iconst (v := nI 4) dX0_init_98 (by decide) ?_
  refine mm_cV2v (dz := d - 1) dX0_init_99 rfl mzX0_begin ml_X0_38 imX0_begin (by omega) ⟨(Nat.le_of_ble_eq_true rfl), so_2.2⟩ ⟨rfl, rfl⟩ (ini_X0_begin_2 (by omega)) (Nat.le_of_ble_eq_true rfl) (by decide) ?_
  refine mm_at (pc' := 102) rfl ?_
  exact mm_vret dX0_init_102 rfl (by decide) ⟨rfl, rfl, rfl⟩
def im_X3_17 (I : mm_I) : mm_I := mm_up (mm_up (mm_up (mm_up (mm_up (mm_up (mm_up (mm_up (I) 17 0 (nI 0)) 17 1 (nI 14)) 17 2 (nI 14)) 17 3 (nI 100)) 17 4 (nI 10)) 17 5 (nI 3)) 17 6 (nI 0)) 17 7 (nI 0)
theorem im_X3_17_a {I : mm_I} {x : Nat} (h : 22 ≤ x) : im_X3_17 I x = I x := by unfold im_X3_17; rw [mm_up_a (by omega), mm_up_a (by omega), mm_up_a (by omega), mm_up_a (by omega), mm_up_a (by omega), mm_up_a (by omega), mm_up_a (by omega), mm_up_a (by omega)]
set_option maxRecDepth 100000 in
set_option maxHeartbeats 4000000 in
theorem ini_X3_17 {g : mm_G} {d : Nat} {I : mm_I} (hd : 4 ≤ d) (hz : ∀ x, 17 ≤ x → ∀ k, I x k = 0) : mm_Ct g zX3_init d (4, 20) [.ref 17] (shT 18 15) I (fun r S' I' => r = none ∧ S' = shT 22 19 ∧ I' = im_X3_17 I) := by
  refine mm_begin (ls := [(0, .ref 17)]) (Nat.le_of_ble_eq_true rfl) rfl rfl ?_
  refine mm_aload_n 0 dX3_init_0 rfl rfl ?_
  refine mm_obj dX3_init_1 rfl ml_X3_3 jm_obj (by omega) (Nat.le_of_ble_eq_true rfl) ?_
  refine mm_at (pc' := 4) rfl ?_
  refine mm_aload_n 0 dX3_init_4 rfl rfl ?_
  refine mm_newT (ci := 5) (C := RX5) (T := TX5) (n' := 19) (Al' := (1, 2)) dX3_init_5 rfl rfl mm_wX5 mm_tX5 cn_X3_9 mm_iX5 mm_dX5 (by decide) (by decide) rfl rfl so_18.2 (by decide +kernel) (hz 18 (by decide)) rfl rfl ?_
  refine mm_dup dX3_init_8 rfl ?_
  refine mm_bipush (v := nI 8) dX3_init_9 (by decide) ?_
  refine mm_callI1 (dz := d - 1) (Mz := (1, 8)) (Al' := (2, 10)) dX3_init_11 rfl mzX5_init ml_X3_11 imX5_init ⟨rfl, rfl⟩ (by omega) (ini_X5 (a := 18) (t := 15) (t' := 16) (m := 8) (n1 := 19) (n2 := 20) (by omega) (fun x hx => hz x (by omega)) (by decide) (by decide) rfl rfl rfl so_18.2 sa_19.2 (by decide +kernel) (by decide +kernel) (by decide +kernel)) (Nat.le_of_ble_eq_true rfl) (by decide) rfl rfl rfl ?_
  refine mm_at (pc' := 14) rfl ?_
  refine mm_putrT (t' := 17) dX3_init_14 rfl rfl fk_X3_14 (fun C T N h => by cases h; exact ⟨rfl, rfl⟩) rfl ⟨(Nat.le_of_ble_eq_true rfl), so_17.2⟩ (Or.inl (Nat.le_of_ble_eq_true rfl)) (by decide +kernel) (by decide +kernel) rfl ?_
  refine mm_aload_n 0 dX3_init_17 rfl rfl ?_
  refine mm_newT (ci := 5) (C := RX5) (T := TX5) (n' := 21) (Al' := (3, 12)) dX3_init_18 rfl rfl mm_wX5 mm_tX5 cn_X3_9 mm_iX5 mm_dX5 (by decide) (by decide) rfl rfl so_20.2 (by decide +kernel) (hz 20 (by decide)) rfl rfl ?_
  refine mm_dup dX3_init_21 rfl ?_
  refine mm_bipush (v := nI 8) dX3_init_22 (by decide) ?_
  refine mm_callI1 (dz := d - 1) (Mz := (1, 8)) (Al' := (4, 20)) dX3_init_24 rfl mzX5_init ml_X3_11 imX5_init ⟨rfl, rfl⟩ (by omega) (ini_X5 (a := 20) (t := 17) (t' := 18) (m := 8) (n1 := 21) (n2 := 22) (by omega) (fun x hx => hz x (by omega)) (by decide) (by decide) rfl rfl rfl so_20.2 sa_21.2 (by decide +kernel) (by decide +kernel) (by decide +kernel)) (Nat.le_of_ble_eq_true rfl) (by decide) rfl rfl rfl ?_
  refine mm_at (pc' := 27) rfl ?_
  refine mm_putrT (t' := 19) dX3_init_27 rfl rfl fk_X3_20 (fun C T N h => by cases h; exact ⟨rfl, rfl⟩) rfl ⟨(Nat.le_of_ble_eq_true rfl), so_17.2⟩ (Or.inl (Nat.le_of_ble_eq_true rfl)) (by decide +kernel) (by decide +kernel) rfl ?_
  refine mm_aload_n 0 dX3_init_30 rfl rfl ?_
  refine mm_iconst (v := nI 0) dX3_init_31 (by decide) ?_
  refine mm_puti dX3_init_32 rfl fk_X3_23 rfl fv_3_0 ⟨(Nat.le_of_ble_eq_true rfl), so_17.2⟩ ?_
  refine mm_aload_n 0 dX3_init_35 rfl rfl ?_
  refine mm_bipush (v := nI 14) dX3_init_36 (by decide) ?_
  refine mm_puti dX3_init_38 rfl fk_X3_27 rfl fv_3_1 ⟨(Nat.le_of_ble_eq_true rfl), so_17.2⟩ ?_
  refine mm_aload_n 0 dX3_init_41 rfl rfl ?_
  refine mm_bipush (v := nI 14) dX3_init_42 (by decide) ?_
  refine mm_puti dX3_init_44 rfl fk_X3_30 rfl fv_3_2 ⟨(Nat.le_of_ble_eq_true rfl), so_17.2⟩ ?_
  refine mm_aload_n 0 dX3_init_47 rfl rfl ?_
  refine mm_bipush (v := nI 100) dX3_init_48 (by decide) ?_
  refine mm_puti dX3_init_50 rfl fk_X3_33 rfl fv_3_3 ⟨(Nat.le_of_ble_eq_true rfl), so_17.2⟩ ?_
  refine mm_aload_n 0 dX3_init_53 rfl rfl ?_
  refine mm_bipush (v := nI 10) dX3_init_54 (by decide) ?_
  refine mm_puti dX3_init_56 rfl fk_X3_36 rfl fv_3_4 ⟨(Nat.le_of_ble_eq_true rfl), so_17.2⟩ ?_
  refine mm_aload_n 0 dX3_init_59 rfl rfl ?_
  refine mm_iconst (v := nI 3) dX3_init_60 (by decide) ?_
  refine mm_puti dX3_init_61 rfl fk_X3_39 rfl fv_3_5 ⟨(Nat.le_of_ble_eq_true rfl), so_17.2⟩ ?_
  refine mm_aload_n 0 dX3_init_64 rfl rfl ?_
  refine mm_iconst (v := nI 0) dX3_init_65 (by decide) ?_
  refine mm_puti dX3_init_66 rfl fk_X3_42 rfl fv_3_6 ⟨(Nat.le_of_ble_eq_true rfl), so_17.2⟩ ?_
  refine mm_aload_n 0 dX3_init_69 rfl rfl ?_
  refine mm_iconst (v := nI 0) dX3_init_70 (by decide) ?_
  refine mm_puti dX3_init_71 rfl fk_X3_45 rfl fv_3_7 ⟨(Nat.le_of_ble_eq_true rfl), so_17.2⟩ ?_
  exact mm_vret dX3_init_74 rfl (by decide) ⟨rfl, rfl, rfl⟩
set_option maxRecDepth 100000 in
set_option maxHeartbeats 4000000 in
theorem ini_X10_22 {g : mm_G} {d : Nat} {I : mm_I} (hd : 4 ≤ d) (hz : ∀ x, 22 ≤ x → ∀ k, I x k = 0) : mm_Ct g zX10_init d (12, 48) [.ref 22] (shT 23 20) I (fun r S' I' => r = none ∧ S' = shT 35 32 ∧ I' = I) := by
  refine mm_begin (ls := [(0, .ref 22)]) (Nat.le_of_ble_eq_true rfl) rfl rfl ?_
  refine mm_aload_n 0 dX10_init_0 rfl rfl ?_
  refine mm_obj dX10_init_1 rfl ml_X10_3 jm_obj (by omega) (Nat.le_of_ble_eq_true rfl) ?_
  refine mm_at (pc' := 4) rfl ?_
  refine mm_aload_n 0 dX10_init_4 rfl rfl ?_
  refine mm_newT (ci := 5) (C := RX5) (T := TX5) (n' := 24) (Al' := (1, 2)) dX10_init_5 rfl rfl mm_wX5 mm_tX5 cn_X10_9 mm_iX5 mm_dX5 (by decide) (by decide) rfl rfl so_23.2 (by decide +kernel) (hz 23 (by decide)) rfl rfl ?_
  refine mm_dup dX10_init_8 rfl ?_
  refine mm_bipush (v := nI 6) dX10_init_9 (by decide) ?_
  refine mm_callI1 (dz := d - 1) (Mz := (1, 6)) (Al' := (2, 8)) dX10_init_11 rfl mzX5_init ml_X10_11 imX5_init ⟨rfl, rfl⟩ (by omega) (ini_X5 (a := 23) (t := 20) (t' := 21) (m := 6) (n1 := 24) (n2 := 25) (by omega) (fun x hx => hz x (by omega)) (by decide) (by decide) rfl rfl rfl so_23.2 sa_24.2 (by decide +kernel) (by decide +kernel) (by decide +kernel)) (Nat.le_of_ble_eq_true rfl) (by decide) rfl rfl rfl ?_
  refine mm_at (pc' := 14) rfl ?_
  refine mm_putrT (t' := 22) dX10_init_14 rfl rfl fk_X10_14 (fun C T N h => by cases h; exact ⟨rfl, rfl⟩) rfl ⟨(Nat.le_of_ble_eq_true rfl), so_22.2⟩ (Or.inl (Nat.le_of_ble_eq_true rfl)) (by decide +kernel) (by decide +kernel) rfl ?_
  refine mm_aload_n 0 dX10_init_17 rfl rfl ?_
  refine mm_newT (ci := 5) (C := RX5) (T := TX5) (n' := 26) (Al' := (3, 10)) dX10_init_18 rfl rfl mm_wX5 mm_tX5 cn_X10_9 mm_iX5 mm_dX5 (by decide) (by decide) rfl rfl so_25.2 (by decide +kernel) (hz 25 (by decide)) rfl rfl ?_
  refine mm_dup dX10_init_21 rfl ?_
  refine mm_bipush (v := nI 6) dX10_init_22 (by decide) ?_
  refine mm_callI1 (dz := d - 1) (Mz := (1, 6)) (Al' := (4, 16)) dX10_init_24 rfl mzX5_init ml_X10_11 imX5_init ⟨rfl, rfl⟩ (by omega) (ini_X5 (a := 25) (t := 22) (t' := 23) (m := 6) (n1 := 26) (n2 := 27) (by omega) (fun x hx => hz x (by omega)) (by decide) (by decide) rfl rfl rfl so_25.2 sa_26.2 (by decide +kernel) (by decide +kernel) (by decide +kernel)) (Nat.le_of_ble_eq_true rfl) (by decide) rfl rfl rfl ?_
  refine mm_at (pc' := 27) rfl ?_
  refine mm_putrT (t' := 24) dX10_init_27 rfl rfl fk_X10_20 (fun C T N h => by cases h; exact ⟨rfl, rfl⟩) rfl ⟨(Nat.le_of_ble_eq_true rfl), so_22.2⟩ (Or.inl (Nat.le_of_ble_eq_true rfl)) (by decide +kernel) (by decide +kernel) rfl ?_
  refine mm_aload_n 0 dX10_init_30 rfl rfl ?_
  refine mm_newT (ci := 5) (C := RX5) (T := TX5) (n' := 28) (Al' := (5, 18)) dX10_init_31 rfl rfl mm_wX5 mm_tX5 cn_X10_9 mm_iX5 mm_dX5 (by decide) (by decide) rfl rfl so_27.2 (by decide +kernel) (hz 27 (by decide)) rfl rfl ?_
  refine mm_dup dX10_init_34 rfl ?_
  refine mm_bipush (v := nI 6) dX10_init_35 (by decide) ?_
  refine mm_callI1 (dz := d - 1) (Mz := (1, 6)) (Al' := (6, 24)) dX10_init_37 rfl mzX5_init ml_X10_11 imX5_init ⟨rfl, rfl⟩ (by omega) (ini_X5 (a := 27) (t := 24) (t' := 25) (m := 6) (n1 := 28) (n2 := 29) (by omega) (fun x hx => hz x (by omega)) (by decide) (by decide) rfl rfl rfl so_27.2 sa_28.2 (by decide +kernel) (by decide +kernel) (by decide +kernel)) (Nat.le_of_ble_eq_true rfl) (by decide) rfl rfl rfl ?_
  refine mm_at (pc' := 40) rfl ?_
  refine mm_putrT (t' := 26) dX10_init_40 rfl rfl fk_X10_23 (fun C T N h => by cases h; exact ⟨rfl, rfl⟩) rfl ⟨(Nat.le_of_ble_eq_true rfl), so_22.2⟩ (Or.inl (Nat.le_of_ble_eq_true rfl)) (by decide +kernel) (by decide +kernel) rfl ?_
  refine mm_aload_n 0 dX10_init_43 rfl rfl ?_
  refine mm_newT (ci := 5) (C := RX5) (T := TX5) (n' := 30) (Al' := (7, 26)) dX10_init_44 rfl rfl mm_wX5 mm_tX5 cn_X10_9 mm_iX5 mm_dX5 (by decide) (by decide) rfl rfl so_29.2 (by decide +kernel) (hz 29 (by decide)) rfl rfl ?_
  refine mm_dup dX10_init_47 rfl ?_
  refine mm_bipush (v := nI 6) dX10_init_48 (by decide) ?_
  refine mm_callI1 (dz := d - 1) (Mz := (1, 6)) (Al' := (8, 32)) dX10_init_50 rfl mzX5_init ml_X10_11 imX5_init ⟨rfl, rfl⟩ (by omega) (ini_X5 (a := 29) (t := 26) (t' := 27) (m := 6) (n1 := 30) (n2 := 31) (by omega) (fun x hx => hz x (by omega)) (by decide) (by decide) rfl rfl rfl so_29.2 sa_30.2 (by decide +kernel) (by decide +kernel) (by decide +kernel)) (Nat.le_of_ble_eq_true rfl) (by decide) rfl rfl rfl ?_
  refine mm_at (pc' := 53) rfl ?_
  refine mm_putrT (t' := 28) dX10_init_53 rfl rfl fk_X10_26 (fun C T N h => by cases h; exact ⟨rfl, rfl⟩) rfl ⟨(Nat.le_of_ble_eq_true rfl), so_22.2⟩ (Or.inl (Nat.le_of_ble_eq_true rfl)) (by decide +kernel) (by decide +kernel) rfl ?_
  refine mm_aload_n 0 dX10_init_56 rfl rfl ?_
  refine mm_newT (ci := 5) (C := RX5) (T := TX5) (n' := 32) (Al' := (9, 34)) dX10_init_57 rfl rfl mm_wX5 mm_tX5 cn_X10_9 mm_iX5 mm_dX5 (by decide) (by decide) rfl rfl so_31.2 (by decide +kernel) (hz 31 (by decide)) rfl rfl ?_
  refine mm_dup dX10_init_60 rfl ?_
  refine mm_bipush (v := nI 6) dX10_init_61 (by decide) ?_
  refine mm_callI1 (dz := d - 1) (Mz := (1, 6)) (Al' := (10, 40)) dX10_init_63 rfl mzX5_init ml_X10_11 imX5_init ⟨rfl, rfl⟩ (by omega) (ini_X5 (a := 31) (t := 28) (t' := 29) (m := 6) (n1 := 32) (n2 := 33) (by omega) (fun x hx => hz x (by omega)) (by decide) (by decide) rfl rfl rfl so_31.2 sa_32.2 (by decide +kernel) (by decide +kernel) (by decide +kernel)) (Nat.le_of_ble_eq_true rfl) (by decide) rfl rfl rfl ?_
  refine mm_at (pc' := 66) rfl ?_
  refine mm_putrT (t' := 30) dX10_init_66 rfl rfl fk_X10_29 (fun C T N h => by cases h; exact ⟨rfl, rfl⟩) rfl ⟨(Nat.le_of_ble_eq_true rfl), so_22.2⟩ (Or.inl (Nat.le_of_ble_eq_true rfl)) (by decide +kernel) (by decide +kernel) rfl ?_
  refine mm_aload_n 0 dX10_init_69 rfl rfl ?_
  refine mm_newT (ci := 5) (C := RX5) (T := TX5) (n' := 34) (Al' := (11, 42)) dX10_init_70 rfl rfl mm_wX5 mm_tX5 cn_X10_9 mm_iX5 mm_dX5 (by decide) (by decide) rfl rfl so_33.2 (by decide +kernel) (hz 33 (by decide)) rfl rfl ?_
  refine mm_dup dX10_init_73 rfl ?_
  refine mm_bipush (v := nI 6) dX10_init_74 (by decide) ?_
  refine mm_callI1 (dz := d - 1) (Mz := (1, 6)) (Al' := (12, 48)) dX10_init_76 rfl mzX5_init ml_X10_11 imX5_init ⟨rfl, rfl⟩ (by omega) (ini_X5 (a := 33) (t := 30) (t' := 31) (m := 6) (n1 := 34) (n2 := 35) (by omega) (fun x hx => hz x (by omega)) (by decide) (by decide) rfl rfl rfl so_33.2 sa_34.2 (by decide +kernel) (by decide +kernel) (by decide +kernel)) (Nat.le_of_ble_eq_true rfl) (by decide) rfl rfl rfl ?_
  refine mm_at (pc' := 79) rfl ?_
  refine mm_putrT (t' := 32) dX10_init_79 rfl rfl fk_X10_32 (fun C T N h => by cases h; exact ⟨rfl, rfl⟩) rfl ⟨(Nat.le_of_ble_eq_true rfl), so_22.2⟩ (Or.inl (Nat.le_of_ble_eq_true rfl)) (by decide +kernel) (by decide +kernel) rfl ?_
  exact mm_vret dX10_init_82 rfl (by decide) ⟨rfl, rfl, rfl⟩
def im_X1_beginScript_36 (I : mm_I) : mm_I := rw_fl (mm_up (mm_up (mm_up (I) 36 6 (-1)) 36 7 (nI 0)) 37 1 (nI 4)) 38 (nI 0) 4
theorem im_X1_beginScript_36_a {I : mm_I} {x : Nat} (h : 39 ≤ x) : im_X1_beginScript_36 I x = I x := by unfold im_X1_beginScript_36; rw [rw_fl_na (by omega), mm_up_a (by omega), mm_up_a (by omega), mm_up_a (by omega)]
set_option maxRecDepth 100000 in
set_option maxHeartbeats 4000000 in
theorem ini_X1_beginScript_36 {g : mm_G} {d : Nat} {I : mm_I} (hd : 4 ≤ d) : mm_Cv g zX1_beginScript d [.ref 36, .int (-1)] (shT 39 36) I (im_X1_beginScript_36 I) := by
  refine mm_begin (ls := [(0, .ref 36), (1, .int (-1))]) (Nat.le_of_ble_eq_true rfl) rfl rfl ?_
  refine mm_aload_n 0 dX1_beginScript_0 rfl rfl ?_
  refine mm_iload_n 1 dX1_beginScript_1 rfl rfl ?_
  refine mm_puti dX1_beginScript_2 rfl fk_X1_48 rfl fv_1_6 ⟨(Nat.le_of_ble_eq_true rfl), so_36.2⟩ ?_
  refine mm_aload_n 0 dX1_beginScript_5 rfl rfl ?_
  refine mm_iconst (v := nI 0) dX1_beginScript_6 (by decide) ?_
  refine mm_puti dX1_beginScript_7 rfl fk_X1_51 rfl fv_1_7 ⟨(Nat.le_of_ble_eq_true rfl), so_36.2⟩ ?_
  refine mm_aload_n 0 dX1_beginScript_10 rfl rfl ?_
  refine mm_getr (b := 37) dX1_beginScript_11 rfl fk_X1_16 rfl ⟨(Nat.le_of_ble_eq_true rfl), so_36.2⟩ (by decide +kernel) ?_
  refine mm_iconst (v := nI 4) dX1_beginScript_14 (by decide) ?_
  refine mm_iconst (v := nI 0) dX1_beginScript_15 (by decide) ?_
  refine mm_cV2v (dz := d - 1) dX1_beginScript_16 rfl mzX5_fill ml_X1_66 imX5_fill (by omega) ⟨(Nat.le_of_ble_eq_true rfl), so_37.2⟩ ⟨rfl, rfl⟩ (ct_fill (S := shT 39 36) (d := d - 1) (show rw_is (shT 39 36) 37 4 from ⟨⟨(Nat.le_of_ble_eq_true rfl), so_37.2⟩, (by decide +kernel), ⟨(Nat.le_of_ble_eq_true rfl), sa_38.2⟩, by decide⟩) 4 (by decide) (by omega)) (Nat.le_of_ble_eq_true rfl) (by decide) ?_
  refine mm_at (pc' := 19) rfl ?_
  exact mm_vret dX1_beginScript_19 rfl (by decide) ⟨rfl, rfl, rfl⟩
def im_X1_begin_36 (I : mm_I) : mm_I := im_X1_beginScript_36 (mm_up (mm_up (mm_up (mm_up (mm_up (mm_up (I) 36 0 (nI 0)) 36 1 (nI 0)) 36 2 (nI 50)) 36 3 (nI 0)) 36 4 (nI 0)) 36 5 (nI 0))
theorem im_X1_begin_36_a {I : mm_I} {x : Nat} (h : 39 ≤ x) : im_X1_begin_36 I x = I x := by unfold im_X1_begin_36; rw [im_X1_beginScript_36_a (by omega), mm_up_a (by omega), mm_up_a (by omega), mm_up_a (by omega), mm_up_a (by omega), mm_up_a (by omega), mm_up_a (by omega)]
set_option maxRecDepth 100000 in
set_option maxHeartbeats 4000000 in
theorem ini_X1_begin_36 {g : mm_G} {d : Nat} {I : mm_I} (hd : 5 ≤ d) : mm_Cv g zX1_begin d [.ref 36, .int (nI 0), .int (nI 0)] (shT 39 36) I (im_X1_begin_36 I) := by
  refine mm_begin (ls := [(0, .ref 36), (1, .int (nI 0)), (2, .int (nI 0))]) (Nat.le_of_ble_eq_true rfl) rfl rfl ?_
  refine mm_aload_n 0 dX1_begin_0 rfl rfl ?_
  refine mm_iload_n 1 dX1_begin_1 rfl rfl ?_
  refine mm_puti dX1_begin_2 rfl fk_X1_26 rfl fv_1_0 ⟨(Nat.le_of_ble_eq_true rfl), so_36.2⟩ ?_
  refine mm_aload_n 0 dX1_begin_5 rfl rfl ?_
  refine mm_iload_n 2 dX1_begin_6 rfl rfl ?_
  refine mm_puti dX1_begin_7 rfl fk_X1_30 rfl fv_1_1 ⟨(Nat.le_of_ble_eq_true rfl), so_36.2⟩ ?_
  refine mm_aload_n 0 dX1_begin_10 rfl rfl ?_
  refine mm_bipush (v := nI 50) dX1_begin_11 (by decide) ?_
  refine mm_puti dX1_begin_13 rfl fk_X1_33 rfl fv_1_2 ⟨(Nat.le_of_ble_eq_true rfl), so_36.2⟩ ?_
  refine mm_aload_n 0 dX1_begin_16 rfl rfl ?_
  refine mm_iconst (v := nI 0) dX1_begin_17 (by decide) ?_
  refine mm_puti dX1_begin_18 rfl fk_X1_36 rfl fv_1_3 ⟨(Nat.le_of_ble_eq_true rfl), so_36.2⟩ ?_
  refine mm_aload_n 0 dX1_begin_21 rfl rfl ?_
  refine mm_iconst (v := nI 0) dX1_begin_22 (by decide) ?_
  refine mm_puti dX1_begin_23 rfl fk_X1_39 rfl fv_1_4 ⟨(Nat.le_of_ble_eq_true rfl), so_36.2⟩ ?_
  refine mm_aload_n 0 dX1_begin_26 rfl rfl ?_
  refine mm_iconst (v := nI 0) dX1_begin_27 (by decide) ?_
  refine mm_puti dX1_begin_28 rfl fk_X1_42 rfl fv_1_5 ⟨(Nat.le_of_ble_eq_true rfl), so_36.2⟩ ?_
  refine mm_aload_n 0 dX1_begin_31 rfl rfl ?_
  refine mm_iconst (v := -1) dX1_begin_32 (by decide) ?_
  refine mm_cV1v (dz := d - 1) dX1_begin_33 rfl mzX1_beginScript ml_X1_45 imX1_beginScript (by omega) ⟨(Nat.le_of_ble_eq_true rfl), so_36.2⟩ ⟨rfl, rfl⟩ (ini_X1_beginScript_36 (by omega)) (Nat.le_of_ble_eq_true rfl) (by decide) ?_
  refine mm_at (pc' := 36) rfl ?_
  exact mm_vret dX1_begin_36 rfl (by decide) ⟨rfl, rfl, rfl⟩
def im_X1_36 (I : mm_I) : mm_I := im_X1_begin_36 (I)
theorem im_X1_36_a {I : mm_I} {x : Nat} (h : 39 ≤ x) : im_X1_36 I x = I x := by unfold im_X1_36; rw [im_X1_begin_36_a (by omega)]
set_option maxRecDepth 100000 in
set_option maxHeartbeats 4000000 in
theorem ini_X1_36 {g : mm_G} {d : Nat} {I : mm_I} (hd : 6 ≤ d) (hz : ∀ x, 36 ≤ x → ∀ k, I x k = 0) : mm_Ct g zX1_init d (2, 6) [.ref 36] (shT 37 34) I (fun r S' I' => r = none ∧ S' = shT 39 36 ∧ I' = im_X1_36 I) := by
  refine mm_begin (ls := [(0, .ref 36)]) (Nat.le_of_ble_eq_true rfl) rfl rfl ?_
  refine mm_aload_n 0 dX1_init_0 rfl rfl ?_
  refine mm_obj dX1_init_1 rfl ml_X1_3 jm_obj (by omega) (Nat.le_of_ble_eq_true rfl) ?_
  refine mm_at (pc' := 4) rfl ?_
  refine mm_aload_n 0 dX1_init_4 rfl rfl ?_
  refine mm_newT (ci := 5) (C := RX5) (T := TX5) (n' := 38) (Al' := (1, 2)) dX1_init_5 rfl rfl mm_wX5 mm_tX5 cn_X1_9 mm_iX5 mm_dX5 (by decide) (by decide) rfl rfl so_37.2 (by decide +kernel) (hz 37 (by decide)) rfl rfl ?_
  refine mm_dup dX1_init_8 rfl ?_
  refine mm_iconst (v := nI 4) dX1_init_9 (by decide) ?_
  refine mm_callI1 (dz := d - 1) (Mz := (1, 4)) (Al' := (2, 6)) dX1_init_10 rfl mzX5_init ml_X1_13 imX5_init ⟨rfl, rfl⟩ (by omega) (ini_X5 (a := 37) (t := 34) (t' := 35) (m := 4) (n1 := 38) (n2 := 39) (by omega) (fun x hx => hz x (by omega)) (by decide) (by decide) rfl rfl rfl so_37.2 sa_38.2 (by decide +kernel) (by decide +kernel) (by decide +kernel)) (Nat.le_of_ble_eq_true rfl) (by decide) rfl rfl rfl ?_
  refine mm_at (pc' := 13) rfl ?_
  refine mm_putrT (t' := 36) dX1_init_13 rfl rfl fk_X1_16 (fun C T N h => by cases h; exact ⟨rfl, rfl⟩) rfl ⟨(Nat.le_of_ble_eq_true rfl), so_36.2⟩ (Or.inl (Nat.le_of_ble_eq_true rfl)) (by decide +kernel) (by decide +kernel) rfl ?_
  refine mm_aload_n 0 dX1_init_16 rfl rfl ?_
  refine mm_iconst (v := nI 0) dX1_init_17 (by decide) ?_
  refine mm_iconst (v := nI 0) dX1_init_18 (by decide) ?_
  refine mm_cV2v (dz := d - 1) dX1_init_19 rfl mzX1_begin ml_X1_22 imX1_begin (by omega) ⟨(Nat.le_of_ble_eq_true rfl), so_36.2⟩ ⟨rfl, rfl⟩ (ini_X1_begin_36 (by omega)) (Nat.le_of_ble_eq_true rfl) (by decide) ?_
  refine mm_at (pc' := 22) rfl ?_
  exact mm_vret dX1_init_22 rfl (by decide) ⟨rfl, rfl, rfl⟩
def im_X1_beginScript_39 (I : mm_I) : mm_I := rw_fl (mm_up (mm_up (mm_up (I) 39 6 (-1)) 39 7 (nI 0)) 40 1 (nI 4)) 41 (nI 0) 4
theorem im_X1_beginScript_39_a {I : mm_I} {x : Nat} (h : 42 ≤ x) : im_X1_beginScript_39 I x = I x := by unfold im_X1_beginScript_39; rw [rw_fl_na (by omega), mm_up_a (by omega), mm_up_a (by omega), mm_up_a (by omega)]
set_option maxRecDepth 100000 in
set_option maxHeartbeats 4000000 in
theorem ini_X1_beginScript_39 {g : mm_G} {d : Nat} {I : mm_I} (hd : 4 ≤ d) : mm_Cv g zX1_beginScript d [.ref 39, .int (-1)] (shT 42 39) I (im_X1_beginScript_39 I) := by
  refine mm_begin (ls := [(0, .ref 39), (1, .int (-1))]) (Nat.le_of_ble_eq_true rfl) rfl rfl ?_
  refine mm_aload_n 0 dX1_beginScript_0 rfl rfl ?_
  refine mm_iload_n 1 dX1_beginScript_1 rfl rfl ?_
  refine mm_puti dX1_beginScript_2 rfl fk_X1_48 rfl fv_1_6 ⟨(Nat.le_of_ble_eq_true rfl), so_39.2⟩ ?_
  refine mm_aload_n 0 dX1_beginScript_5 rfl rfl ?_
  refine mm_iconst (v := nI 0) dX1_beginScript_6 (by decide) ?_
  refine mm_puti dX1_beginScript_7 rfl fk_X1_51 rfl fv_1_7 ⟨(Nat.le_of_ble_eq_true rfl), so_39.2⟩ ?_
  refine mm_aload_n 0 dX1_beginScript_10 rfl rfl ?_
  refine mm_getr (b := 40) dX1_beginScript_11 rfl fk_X1_16 rfl ⟨(Nat.le_of_ble_eq_true rfl), so_39.2⟩ (by decide +kernel) ?_
  refine mm_iconst (v := nI 4) dX1_beginScript_14 (by decide) ?_
  refine mm_iconst (v := nI 0) dX1_beginScript_15 (by decide) ?_
  refine mm_cV2v (dz := d - 1) dX1_beginScript_16 rfl mzX5_fill ml_X1_66 imX5_fill (by omega) ⟨(Nat.le_of_ble_eq_true rfl), so_40.2⟩ ⟨rfl, rfl⟩ (ct_fill (S := shT 42 39) (d := d - 1) (show rw_is (shT 42 39) 40 4 from ⟨⟨(Nat.le_of_ble_eq_true rfl), so_40.2⟩, (by decide +kernel), ⟨(Nat.le_of_ble_eq_true rfl), sa_41.2⟩, by decide⟩) 4 (by decide) (by omega)) (Nat.le_of_ble_eq_true rfl) (by decide) ?_
  refine mm_at (pc' := 19) rfl ?_
  exact mm_vret dX1_beginScript_19 rfl (by decide) ⟨rfl, rfl, rfl⟩
def im_X1_begin_39 (I : mm_I) : mm_I := im_X1_beginScript_39 (mm_up (mm_up (mm_up (mm_up (mm_up (mm_up (I) 39 0 (nI 0)) 39 1 (nI 0)) 39 2 (nI 50)) 39 3 (nI 0)) 39 4 (nI 0)) 39 5 (nI 0))
theorem im_X1_begin_39_a {I : mm_I} {x : Nat} (h : 42 ≤ x) : im_X1_begin_39 I x = I x := by unfold im_X1_begin_39; rw [im_X1_beginScript_39_a (by omega), mm_up_a (by omega), mm_up_a (by omega), mm_up_a (by omega), mm_up_a (by omega), mm_up_a (by omega), mm_up_a (by omega)]
set_option maxRecDepth 100000 in
set_option maxHeartbeats 4000000 in
theorem ini_X1_begin_39 {g : mm_G} {d : Nat} {I : mm_I} (hd : 5 ≤ d) : mm_Cv g zX1_begin d [.ref 39, .int (nI 0), .int (nI 0)] (shT 42 39) I (im_X1_begin_39 I) := by
  refine mm_begin (ls := [(0, .ref 39), (1, .int (nI 0)), (2, .int (nI 0))]) (Nat.le_of_ble_eq_true rfl) rfl rfl ?_
  refine mm_aload_n 0 dX1_begin_0 rfl rfl ?_
  refine mm_iload_n 1 dX1_begin_1 rfl rfl ?_
  refine mm_puti dX1_begin_2 rfl fk_X1_26 rfl fv_1_0 ⟨(Nat.le_of_ble_eq_true rfl), so_39.2⟩ ?_
  refine mm_aload_n 0 dX1_begin_5 rfl rfl ?_
  refine mm_iload_n 2 dX1_begin_6 rfl rfl ?_
  refine mm_puti dX1_begin_7 rfl fk_X1_30 rfl fv_1_1 ⟨(Nat.le_of_ble_eq_true rfl), so_39.2⟩ ?_
  refine mm_aload_n 0 dX1_begin_10 rfl rfl ?_
  refine mm_bipush (v := nI 50) dX1_begin_11 (by decide) ?_
  refine mm_puti dX1_begin_13 rfl fk_X1_33 rfl fv_1_2 ⟨(Nat.le_of_ble_eq_true rfl), so_39.2⟩ ?_
  refine mm_aload_n 0 dX1_begin_16 rfl rfl ?_
  refine mm_iconst (v := nI 0) dX1_begin_17 (by decide) ?_
  refine mm_puti dX1_begin_18 rfl fk_X1_36 rfl fv_1_3 ⟨(Nat.le_of_ble_eq_true rfl), so_39.2⟩ ?_
  refine mm_aload_n 0 dX1_begin_21 rfl rfl ?_
  refine mm_iconst (v := nI 0) dX1_begin_22 (by decide) ?_
  refine mm_puti dX1_begin_23 rfl fk_X1_39 rfl fv_1_4 ⟨(Nat.le_of_ble_eq_true rfl), so_39.2⟩ ?_
  refine mm_aload_n 0 dX1_begin_26 rfl rfl ?_
  refine mm_iconst (v := nI 0) dX1_begin_27 (by decide) ?_
  refine mm_puti dX1_begin_28 rfl fk_X1_42 rfl fv_1_5 ⟨(Nat.le_of_ble_eq_true rfl), so_39.2⟩ ?_
  refine mm_aload_n 0 dX1_begin_31 rfl rfl ?_
  refine mm_iconst (v := -1) dX1_begin_32 (by decide) ?_
  refine mm_cV1v (dz := d - 1) dX1_begin_33 rfl mzX1_beginScript ml_X1_45 imX1_beginScript (by omega) ⟨(Nat.le_of_ble_eq_true rfl), so_39.2⟩ ⟨rfl, rfl⟩ (ini_X1_beginScript_39 (by omega)) (Nat.le_of_ble_eq_true rfl) (by decide) ?_
  refine mm_at (pc' := 36) rfl ?_
  exact mm_vret dX1_begin_36 rfl (by decide) ⟨rfl, rfl, rfl⟩
def im_X1_39 (I : mm_I) : mm_I := im_X1_begin_39 (I)
theorem im_X1_39_a {I : mm_I} {x : Nat} (h : 42 ≤ x) : im_X1_39 I x = I x := by unfold im_X1_39; rw [im_X1_begin_39_a (by omega)]
set_option maxRecDepth 100000 in
set_option maxHeartbeats 4000000 in
theorem ini_X1_39 {g : mm_G} {d : Nat} {I : mm_I} (hd : 6 ≤ d) (hz : ∀ x, 39 ≤ x → ∀ k, I x k = 0) : mm_Ct g zX1_init d (2, 6) [.ref 39] (shT 40 37) I (fun r S' I' => r = none ∧ S' = shT 42 39 ∧ I' = im_X1_39 I) := by
  refine mm_begin (ls := [(0, .ref 39)]) (Nat.le_of_ble_eq_true rfl) rfl rfl ?_
  refine mm_aload_n 0 dX1_init_0 rfl rfl ?_
  refine mm_obj dX1_init_1 rfl ml_X1_3 jm_obj (by omega) (Nat.le_of_ble_eq_true rfl) ?_
  refine mm_at (pc' := 4) rfl ?_
  refine mm_aload_n 0 dX1_init_4 rfl rfl ?_
  refine mm_newT (ci := 5) (C := RX5) (T := TX5) (n' := 41) (Al' := (1, 2)) dX1_init_5 rfl rfl mm_wX5 mm_tX5 cn_X1_9 mm_iX5 mm_dX5 (by decide) (by decide) rfl rfl so_40.2 (by decide +kernel) (hz 40 (by decide)) rfl rfl ?_
  refine mm_dup dX1_init_8 rfl ?_
  refine mm_iconst (v := nI 4) dX1_init_9 (by decide) ?_
  refine mm_callI1 (dz := d - 1) (Mz := (1, 4)) (Al' := (2, 6)) dX1_init_10 rfl mzX5_init ml_X1_13 imX5_init ⟨rfl, rfl⟩ (by omega) (ini_X5 (a := 40) (t := 37) (t' := 38) (m := 4) (n1 := 41) (n2 := 42) (by omega) (fun x hx => hz x (by omega)) (by decide) (by decide) rfl rfl rfl so_40.2 sa_41.2 (by decide +kernel) (by decide +kernel) (by decide +kernel)) (Nat.le_of_ble_eq_true rfl) (by decide) rfl rfl rfl ?_
  refine mm_at (pc' := 13) rfl ?_
  refine mm_putrT (t' := 39) dX1_init_13 rfl rfl fk_X1_16 (fun C T N h => by cases h; exact ⟨rfl, rfl⟩) rfl ⟨(Nat.le_of_ble_eq_true rfl), so_39.2⟩ (Or.inl (Nat.le_of_ble_eq_true rfl)) (by decide +kernel) (by decide +kernel) rfl ?_
  refine mm_aload_n 0 dX1_init_16 rfl rfl ?_
  refine mm_iconst (v := nI 0) dX1_init_17 (by decide) ?_
  refine mm_iconst (v := nI 0) dX1_init_18 (by decide) ?_
  refine mm_cV2v (dz := d - 1) dX1_init_19 rfl mzX1_begin ml_X1_22 imX1_begin (by omega) ⟨(Nat.le_of_ble_eq_true rfl), so_39.2⟩ ⟨rfl, rfl⟩ (ini_X1_begin_39 (by omega)) (Nat.le_of_ble_eq_true rfl) (by decide) ?_
  refine mm_at (pc' := 22) rfl ?_
  exact mm_vret dX1_init_22 rfl (by decide) ⟨rfl, rfl, rfl⟩
def im_X1_beginScript_42 (I : mm_I) : mm_I := rw_fl (mm_up (mm_up (mm_up (I) 42 6 (-1)) 42 7 (nI 0)) 43 1 (nI 4)) 44 (nI 0) 4
theorem im_X1_beginScript_42_a {I : mm_I} {x : Nat} (h : 45 ≤ x) : im_X1_beginScript_42 I x = I x := by unfold im_X1_beginScript_42; rw [rw_fl_na (by omega), mm_up_a (by omega), mm_up_a (by omega), mm_up_a (by omega)]
set_option maxRecDepth 100000 in
set_option maxHeartbeats 4000000 in
theorem ini_X1_beginScript_42 {g : mm_G} {d : Nat} {I : mm_I} (hd : 4 ≤ d) : mm_Cv g zX1_beginScript d [.ref 42, .int (-1)] (shT 45 42) I (im_X1_beginScript_42 I) := by
  refine mm_begin (ls := [(0, .ref 42), (1, .int (-1))]) (Nat.le_of_ble_eq_true rfl) rfl rfl ?_
  refine mm_aload_n 0 dX1_beginScript_0 rfl rfl ?_
  refine mm_iload_n 1 dX1_beginScript_1 rfl rfl ?_
  refine mm_puti dX1_beginScript_2 rfl fk_X1_48 rfl fv_1_6 ⟨(Nat.le_of_ble_eq_true rfl), so_42.2⟩ ?_
  refine mm_aload_n 0 dX1_beginScript_5 rfl rfl ?_
  refine mm_iconst (v := nI 0) dX1_beginScript_6 (by decide) ?_
  refine mm_puti dX1_beginScript_7 rfl fk_X1_51 rfl fv_1_7 ⟨(Nat.le_of_ble_eq_true rfl), so_42.2⟩ ?_
  refine mm_aload_n 0 dX1_beginScript_10 rfl rfl ?_
  refine mm_getr (b := 43) dX1_beginScript_11 rfl fk_X1_16 rfl ⟨(Nat.le_of_ble_eq_true rfl), so_42.2⟩ (by decide +kernel) ?_
  refine mm_iconst (v := nI 4) dX1_beginScript_14 (by decide) ?_
  refine mm_iconst (v := nI 0) dX1_beginScript_15 (by decide) ?_
  refine mm_cV2v (dz := d - 1) dX1_beginScript_16 rfl mzX5_fill ml_X1_66 imX5_fill (by omega) ⟨(Nat.le_of_ble_eq_true rfl), so_43.2⟩ ⟨rfl, rfl⟩ (ct_fill (S := shT 45 42) (d := d - 1) (show rw_is (shT 45 42) 43 4 from ⟨⟨(Nat.le_of_ble_eq_true rfl), so_43.2⟩, (by decide +kernel), ⟨(Nat.le_of_ble_eq_true rfl), sa_44.2⟩, by decide⟩) 4 (by decide) (by omega)) (Nat.le_of_ble_eq_true rfl) (by decide) ?_
  refine mm_at (pc' := 19) rfl ?_
  exact mm_vret dX1_beginScript_19 rfl (by decide) ⟨rfl, rfl, rfl⟩
def im_X1_begin_42 (I : mm_I) : mm_I := im_X1_beginScript_42 (mm_up (mm_up (mm_up (mm_up (mm_up (mm_up (I) 42 0 (nI 0)) 42 1 (nI 0)) 42 2 (nI 50)) 42 3 (nI 0)) 42 4 (nI 0)) 42 5 (nI 0))
theorem im_X1_begin_42_a {I : mm_I} {x : Nat} (h : 45 ≤ x) : im_X1_begin_42 I x = I x := by unfold im_X1_begin_42; rw [im_X1_beginScript_42_a (by omega), mm_up_a (by omega), mm_up_a (by omega), mm_up_a (by omega), mm_up_a (by omega), mm_up_a (by omega), mm_up_a (by omega)]
set_option maxRecDepth 100000 in
set_option maxHeartbeats 4000000 in
theorem ini_X1_begin_42 {g : mm_G} {d : Nat} {I : mm_I} (hd : 5 ≤ d) : mm_Cv g zX1_begin d [.ref 42, .int (nI 0), .int (nI 0)] (shT 45 42) I (im_X1_begin_42 I) := by
  refine mm_begin (ls := [(0, .ref 42), (1, .int (nI 0)), (2, .int (nI 0))]) (Nat.le_of_ble_eq_true rfl) rfl rfl ?_
  refine mm_aload_n 0 dX1_begin_0 rfl rfl ?_
  refine mm_iload_n 1 dX1_begin_1 rfl rfl ?_
  refine mm_puti dX1_begin_2 rfl fk_X1_26 rfl fv_1_0 ⟨(Nat.le_of_ble_eq_true rfl), so_42.2⟩ ?_
  refine mm_aload_n 0 dX1_begin_5 rfl rfl ?_
  refine mm_iload_n 2 dX1_begin_6 rfl rfl ?_
  refine mm_puti dX1_begin_7 rfl fk_X1_30 rfl fv_1_1 ⟨(Nat.le_of_ble_eq_true rfl), so_42.2⟩ ?_
  refine mm_aload_n 0 dX1_begin_10 rfl rfl ?_
  refine mm_bipush (v := nI 50) dX1_begin_11 (by decide) ?_
  refine mm_puti dX1_begin_13 rfl fk_X1_33 rfl fv_1_2 ⟨(Nat.le_of_ble_eq_true rfl), so_42.2⟩ ?_
  refine mm_aload_n 0 dX1_begin_16 rfl rfl ?_
  refine mm_iconst (v := nI 0) dX1_begin_17 (by decide) ?_
  refine mm_puti dX1_begin_18 rfl fk_X1_36 rfl fv_1_3 ⟨(Nat.le_of_ble_eq_true rfl), so_42.2⟩ ?_
  refine mm_aload_n 0 dX1_begin_21 rfl rfl ?_
  refine mm_iconst (v := nI 0) dX1_begin_22 (by decide) ?_
  refine mm_puti dX1_begin_23 rfl fk_X1_39 rfl fv_1_4 ⟨(Nat.le_of_ble_eq_true rfl), so_42.2⟩ ?_
  refine mm_aload_n 0 dX1_begin_26 rfl rfl ?_
  refine mm_iconst (v := nI 0) dX1_begin_27 (by decide) ?_
  refine mm_puti dX1_begin_28 rfl fk_X1_42 rfl fv_1_5 ⟨(Nat.le_of_ble_eq_true rfl), so_42.2⟩ ?_
  refine mm_aload_n 0 dX1_begin_31 rfl rfl ?_
  refine mm_iconst (v := -1) dX1_begin_32 (by decide) ?_
  refine mm_cV1v (dz := d - 1) dX1_begin_33 rfl mzX1_beginScript ml_X1_45 imX1_beginScript (by omega) ⟨(Nat.le_of_ble_eq_true rfl), so_42.2⟩ ⟨rfl, rfl⟩ (ini_X1_beginScript_42 (by omega)) (Nat.le_of_ble_eq_true rfl) (by decide) ?_
  refine mm_at (pc' := 36) rfl ?_
  exact mm_vret dX1_begin_36 rfl (by decide) ⟨rfl, rfl, rfl⟩
def im_X1_42 (I : mm_I) : mm_I := im_X1_begin_42 (I)
theorem im_X1_42_a {I : mm_I} {x : Nat} (h : 45 ≤ x) : im_X1_42 I x = I x := by unfold im_X1_42; rw [im_X1_begin_42_a (by omega)]
set_option maxRecDepth 100000 in
set_option maxHeartbeats 4000000 in
theorem ini_X1_42 {g : mm_G} {d : Nat} {I : mm_I} (hd : 6 ≤ d) (hz : ∀ x, 42 ≤ x → ∀ k, I x k = 0) : mm_Ct g zX1_init d (2, 6) [.ref 42] (shT 43 40) I (fun r S' I' => r = none ∧ S' = shT 45 42 ∧ I' = im_X1_42 I) := by
  refine mm_begin (ls := [(0, .ref 42)]) (Nat.le_of_ble_eq_true rfl) rfl rfl ?_
  refine mm_aload_n 0 dX1_init_0 rfl rfl ?_
  refine mm_obj dX1_init_1 rfl ml_X1_3 jm_obj (by omega) (Nat.le_of_ble_eq_true rfl) ?_
  refine mm_at (pc' := 4) rfl ?_
  refine mm_aload_n 0 dX1_init_4 rfl rfl ?_
  refine mm_newT (ci := 5) (C := RX5) (T := TX5) (n' := 44) (Al' := (1, 2)) dX1_init_5 rfl rfl mm_wX5 mm_tX5 cn_X1_9 mm_iX5 mm_dX5 (by decide) (by decide) rfl rfl so_43.2 (by decide +kernel) (hz 43 (by decide)) rfl rfl ?_
  refine mm_dup dX1_init_8 rfl ?_
  refine mm_iconst (v := nI 4) dX1_init_9 (by decide) ?_
  refine mm_callI1 (dz := d - 1) (Mz := (1, 4)) (Al' := (2, 6)) dX1_init_10 rfl mzX5_init ml_X1_13 imX5_init ⟨rfl, rfl⟩ (by omega) (ini_X5 (a := 43) (t := 40) (t' := 41) (m := 4) (n1 := 44) (n2 := 45) (by omega) (fun x hx => hz x (by omega)) (by decide) (by decide) rfl rfl rfl so_43.2 sa_44.2 (by decide +kernel) (by decide +kernel) (by decide +kernel)) (Nat.le_of_ble_eq_true rfl) (by decide) rfl rfl rfl ?_
  refine mm_at (pc' := 13) rfl ?_
  refine mm_putrT (t' := 42) dX1_init_13 rfl rfl fk_X1_16 (fun C T N h => by cases h; exact ⟨rfl, rfl⟩) rfl ⟨(Nat.le_of_ble_eq_true rfl), so_42.2⟩ (Or.inl (Nat.le_of_ble_eq_true rfl)) (by decide +kernel) (by decide +kernel) rfl ?_
  refine mm_aload_n 0 dX1_init_16 rfl rfl ?_
  refine mm_iconst (v := nI 0) dX1_init_17 (by decide) ?_
  refine mm_iconst (v := nI 0) dX1_init_18 (by decide) ?_
  refine mm_cV2v (dz := d - 1) dX1_init_19 rfl mzX1_begin ml_X1_22 imX1_begin (by omega) ⟨(Nat.le_of_ble_eq_true rfl), so_42.2⟩ ⟨rfl, rfl⟩ (ini_X1_begin_42 (by omega)) (Nat.le_of_ble_eq_true rfl) (by decide) ?_
  refine mm_at (pc' := 22) rfl ?_
  exact mm_vret dX1_init_22 rfl (by decide) ⟨rfl, rfl, rfl⟩
def im_X1_beginScript_45 (I : mm_I) : mm_I := rw_fl (mm_up (mm_up (mm_up (I) 45 6 (-1)) 45 7 (nI 0)) 46 1 (nI 4)) 47 (nI 0) 4
theorem im_X1_beginScript_45_a {I : mm_I} {x : Nat} (h : 48 ≤ x) : im_X1_beginScript_45 I x = I x := by unfold im_X1_beginScript_45; rw [rw_fl_na (by omega), mm_up_a (by omega), mm_up_a (by omega), mm_up_a (by omega)]
set_option maxRecDepth 100000 in
set_option maxHeartbeats 4000000 in
theorem ini_X1_beginScript_45 {g : mm_G} {d : Nat} {I : mm_I} (hd : 4 ≤ d) : mm_Cv g zX1_beginScript d [.ref 45, .int (-1)] (shT 48 45) I (im_X1_beginScript_45 I) := by
  refine mm_begin (ls := [(0, .ref 45), (1, .int (-1))]) (Nat.le_of_ble_eq_true rfl) rfl rfl ?_
  refine mm_aload_n 0 dX1_beginScript_0 rfl rfl ?_
  refine mm_iload_n 1 dX1_beginScript_1 rfl rfl ?_
  refine mm_puti dX1_beginScript_2 rfl fk_X1_48 rfl fv_1_6 ⟨(Nat.le_of_ble_eq_true rfl), so_45.2⟩ ?_
  refine mm_aload_n 0 dX1_beginScript_5 rfl rfl ?_
  refine mm_iconst (v := nI 0) dX1_beginScript_6 (by decide) ?_
  refine mm_puti dX1_beginScript_7 rfl fk_X1_51 rfl fv_1_7 ⟨(Nat.le_of_ble_eq_true rfl), so_45.2⟩ ?_
  refine mm_aload_n 0 dX1_beginScript_10 rfl rfl ?_
  refine mm_getr (b := 46) dX1_beginScript_11 rfl fk_X1_16 rfl ⟨(Nat.le_of_ble_eq_true rfl), so_45.2⟩ (by decide +kernel) ?_
  refine mm_iconst (v := nI 4) dX1_beginScript_14 (by decide) ?_
  refine mm_iconst (v := nI 0) dX1_beginScript_15 (by decide) ?_
  refine mm_cV2v (dz := d - 1) dX1_beginScript_16 rfl mzX5_fill ml_X1_66 imX5_fill (by omega) ⟨(Nat.le_of_ble_eq_true rfl), so_46.2⟩ ⟨rfl, rfl⟩ (ct_fill (S := shT 48 45) (d := d - 1) (show rw_is (shT 48 45) 46 4 from ⟨⟨(Nat.le_of_ble_eq_true rfl), so_46.2⟩, (by decide +kernel), ⟨(Nat.le_of_ble_eq_true rfl), sa_47.2⟩, by decide⟩) 4 (by decide) (by omega)) (Nat.le_of_ble_eq_true rfl) (by decide) ?_
  refine mm_at (pc' := 19) rfl ?_
  exact mm_vret dX1_beginScript_19 rfl (by decide) ⟨rfl, rfl, rfl⟩
def im_X1_begin_45 (I : mm_I) : mm_I := im_X1_beginScript_45 (mm_up (mm_up (mm_up (mm_up (mm_up (mm_up (I) 45 0 (nI 0)) 45 1 (nI 0)) 45 2 (nI 50)) 45 3 (nI 0)) 45 4 (nI 0)) 45 5 (nI 0))
theorem im_X1_begin_45_a {I : mm_I} {x : Nat} (h : 48 ≤ x) : im_X1_begin_45 I x = I x := by unfold im_X1_begin_45; rw [im_X1_beginScript_45_a (by omega), mm_up_a (by omega), mm_up_a (by omega), mm_up_a (by omega), mm_up_a (by omega), mm_up_a (by omega), mm_up_a (by omega)]
set_option maxRecDepth 100000 in
set_option maxHeartbeats 4000000 in
theorem ini_X1_begin_45 {g : mm_G} {d : Nat} {I : mm_I} (hd : 5 ≤ d) : mm_Cv g zX1_begin d [.ref 45, .int (nI 0), .int (nI 0)] (shT 48 45) I (im_X1_begin_45 I) := by
  refine mm_begin (ls := [(0, .ref 45), (1, .int (nI 0)), (2, .int (nI 0))]) (Nat.le_of_ble_eq_true rfl) rfl rfl ?_
  refine mm_aload_n 0 dX1_begin_0 rfl rfl ?_
  refine mm_iload_n 1 dX1_begin_1 rfl rfl ?_
  refine mm_puti dX1_begin_2 rfl fk_X1_26 rfl fv_1_0 ⟨(Nat.le_of_ble_eq_true rfl), so_45.2⟩ ?_
  refine mm_aload_n 0 dX1_begin_5 rfl rfl ?_
  refine mm_iload_n 2 dX1_begin_6 rfl rfl ?_
  refine mm_puti dX1_begin_7 rfl fk_X1_30 rfl fv_1_1 ⟨(Nat.le_of_ble_eq_true rfl), so_45.2⟩ ?_
  refine mm_aload_n 0 dX1_begin_10 rfl rfl ?_
  refine mm_bipush (v := nI 50) dX1_begin_11 (by decide) ?_
  refine mm_puti dX1_begin_13 rfl fk_X1_33 rfl fv_1_2 ⟨(Nat.le_of_ble_eq_true rfl), so_45.2⟩ ?_
  refine mm_aload_n 0 dX1_begin_16 rfl rfl ?_
  refine mm_iconst (v := nI 0) dX1_begin_17 (by decide) ?_
  refine mm_puti dX1_begin_18 rfl fk_X1_36 rfl fv_1_3 ⟨(Nat.le_of_ble_eq_true rfl), so_45.2⟩ ?_
  refine mm_aload_n 0 dX1_begin_21 rfl rfl ?_
  refine mm_iconst (v := nI 0) dX1_begin_22 (by decide) ?_
  refine mm_puti dX1_begin_23 rfl fk_X1_39 rfl fv_1_4 ⟨(Nat.le_of_ble_eq_true rfl), so_45.2⟩ ?_
  refine mm_aload_n 0 dX1_begin_26 rfl rfl ?_
  refine mm_iconst (v := nI 0) dX1_begin_27 (by decide) ?_
  refine mm_puti dX1_begin_28 rfl fk_X1_42 rfl fv_1_5 ⟨(Nat.le_of_ble_eq_true rfl), so_45.2⟩ ?_
  refine mm_aload_n 0 dX1_begin_31 rfl rfl ?_
  refine mm_iconst (v := -1) dX1_begin_32 (by decide) ?_
  refine mm_cV1v (dz := d - 1) dX1_begin_33 rfl mzX1_beginScript ml_X1_45 imX1_beginScript (by omega) ⟨(Nat.le_of_ble_eq_true rfl), so_45.2⟩ ⟨rfl, rfl⟩ (ini_X1_beginScript_45 (by omega)) (Nat.le_of_ble_eq_true rfl) (by decide) ?_
  refine mm_at (pc' := 36) rfl ?_
  exact mm_vret dX1_begin_36 rfl (by decide) ⟨rfl, rfl, rfl⟩
def im_X1_45 (I : mm_I) : mm_I := im_X1_begin_45 (I)
theorem im_X1_45_a {I : mm_I} {x : Nat} (h : 48 ≤ x) : im_X1_45 I x = I x := by unfold im_X1_45; rw [im_X1_begin_45_a (by omega)]
set_option maxRecDepth 100000 in
set_option maxHeartbeats 4000000 in
theorem ini_X1_45 {g : mm_G} {d : Nat} {I : mm_I} (hd : 6 ≤ d) (hz : ∀ x, 45 ≤ x → ∀ k, I x k = 0) : mm_Ct g zX1_init d (2, 6) [.ref 45] (shT 46 43) I (fun r S' I' => r = none ∧ S' = shT 48 45 ∧ I' = im_X1_45 I) := by
  refine mm_begin (ls := [(0, .ref 45)]) (Nat.le_of_ble_eq_true rfl) rfl rfl ?_
  refine mm_aload_n 0 dX1_init_0 rfl rfl ?_
  refine mm_obj dX1_init_1 rfl ml_X1_3 jm_obj (by omega) (Nat.le_of_ble_eq_true rfl) ?_
  refine mm_at (pc' := 4) rfl ?_
  refine mm_aload_n 0 dX1_init_4 rfl rfl ?_
  refine mm_newT (ci := 5) (C := RX5) (T := TX5) (n' := 47) (Al' := (1, 2)) dX1_init_5 rfl rfl mm_wX5 mm_tX5 cn_X1_9 mm_iX5 mm_dX5 (by decide) (by decide) rfl rfl so_46.2 (by decide +kernel) (hz 46 (by decide)) rfl rfl ?_
  refine mm_dup dX1_init_8 rfl ?_
  refine mm_iconst (v := nI 4) dX1_init_9 (by decide) ?_
  refine mm_callI1 (dz := d - 1) (Mz := (1, 4)) (Al' := (2, 6)) dX1_init_10 rfl mzX5_init ml_X1_13 imX5_init ⟨rfl, rfl⟩ (by omega) (ini_X5 (a := 46) (t := 43) (t' := 44) (m := 4) (n1 := 47) (n2 := 48) (by omega) (fun x hx => hz x (by omega)) (by decide) (by decide) rfl rfl rfl so_46.2 sa_47.2 (by decide +kernel) (by decide +kernel) (by decide +kernel)) (Nat.le_of_ble_eq_true rfl) (by decide) rfl rfl rfl ?_
  refine mm_at (pc' := 13) rfl ?_
  refine mm_putrT (t' := 45) dX1_init_13 rfl rfl fk_X1_16 (fun C T N h => by cases h; exact ⟨rfl, rfl⟩) rfl ⟨(Nat.le_of_ble_eq_true rfl), so_45.2⟩ (Or.inl (Nat.le_of_ble_eq_true rfl)) (by decide +kernel) (by decide +kernel) rfl ?_
  refine mm_aload_n 0 dX1_init_16 rfl rfl ?_
  refine mm_iconst (v := nI 0) dX1_init_17 (by decide) ?_
  refine mm_iconst (v := nI 0) dX1_init_18 (by decide) ?_
  refine mm_cV2v (dz := d - 1) dX1_init_19 rfl mzX1_begin ml_X1_22 imX1_begin (by omega) ⟨(Nat.le_of_ble_eq_true rfl), so_45.2⟩ ⟨rfl, rfl⟩ (ini_X1_begin_45 (by omega)) (Nat.le_of_ble_eq_true rfl) (by decide) ?_
  refine mm_at (pc' := 22) rfl ?_
  exact mm_vret dX1_init_22 rfl (by decide) ⟨rfl, rfl, rfl⟩
def im_X1_beginScript_48 (I : mm_I) : mm_I := rw_fl (mm_up (mm_up (mm_up (I) 48 6 (-1)) 48 7 (nI 0)) 49 1 (nI 4)) 50 (nI 0) 4
theorem im_X1_beginScript_48_a {I : mm_I} {x : Nat} (h : 51 ≤ x) : im_X1_beginScript_48 I x = I x := by unfold im_X1_beginScript_48; rw [rw_fl_na (by omega), mm_up_a (by omega), mm_up_a (by omega), mm_up_a (by omega)]
set_option maxRecDepth 100000 in
set_option maxHeartbeats 4000000 in
theorem ini_X1_beginScript_48 {g : mm_G} {d : Nat} {I : mm_I} (hd : 4 ≤ d) : mm_Cv g zX1_beginScript d [.ref 48, .int (-1)] (shT 51 48) I (im_X1_beginScript_48 I) := by
  refine mm_begin (ls := [(0, .ref 48), (1, .int (-1))]) (Nat.le_of_ble_eq_true rfl) rfl rfl ?_
  refine mm_aload_n 0 dX1_beginScript_0 rfl rfl ?_
  refine mm_iload_n 1 dX1_beginScript_1 rfl rfl ?_
  refine mm_puti dX1_beginScript_2 rfl fk_X1_48 rfl fv_1_6 ⟨(Nat.le_of_ble_eq_true rfl), so_48.2⟩ ?_
  refine mm_aload_n 0 dX1_beginScript_5 rfl rfl ?_
  refine mm_iconst (v := nI 0) dX1_beginScript_6 (by decide) ?_
  refine mm_puti dX1_beginScript_7 rfl fk_X1_51 rfl fv_1_7 ⟨(Nat.le_of_ble_eq_true rfl), so_48.2⟩ ?_
  refine mm_aload_n 0 dX1_beginScript_10 rfl rfl ?_
  refine mm_getr (b := 49) dX1_beginScript_11 rfl fk_X1_16 rfl ⟨(Nat.le_of_ble_eq_true rfl), so_48.2⟩ (by decide +kernel) ?_
  refine mm_iconst (v := nI 4) dX1_beginScript_14 (by decide) ?_
  refine mm_iconst (v := nI 0) dX1_beginScript_15 (by decide) ?_
  refine mm_cV2v (dz := d - 1) dX1_beginScript_16 rfl mzX5_fill ml_X1_66 imX5_fill (by omega) ⟨(Nat.le_of_ble_eq_true rfl), so_49.2⟩ ⟨rfl, rfl⟩ (ct_fill (S := shT 51 48) (d := d - 1) (show rw_is (shT 51 48) 49 4 from ⟨⟨(Nat.le_of_ble_eq_true rfl), so_49.2⟩, (by decide +kernel), ⟨(Nat.le_of_ble_eq_true rfl), sa_50.2⟩, by decide⟩) 4 (by decide) (by omega)) (Nat.le_of_ble_eq_true rfl) (by decide) ?_
  refine mm_at (pc' := 19) rfl ?_
  exact mm_vret dX1_beginScript_19 rfl (by decide) ⟨rfl, rfl, rfl⟩
def im_X1_begin_48 (I : mm_I) : mm_I := im_X1_beginScript_48 (mm_up (mm_up (mm_up (mm_up (mm_up (mm_up (I) 48 0 (nI 0)) 48 1 (nI 0)) 48 2 (nI 50)) 48 3 (nI 0)) 48 4 (nI 0)) 48 5 (nI 0))
theorem im_X1_begin_48_a {I : mm_I} {x : Nat} (h : 51 ≤ x) : im_X1_begin_48 I x = I x := by unfold im_X1_begin_48; rw [im_X1_beginScript_48_a (by omega), mm_up_a (by omega), mm_up_a (by omega), mm_up_a (by omega), mm_up_a (by omega), mm_up_a (by omega), mm_up_a (by omega)]
set_option maxRecDepth 100000 in
set_option maxHeartbeats 4000000 in
theorem ini_X1_begin_48 {g : mm_G} {d : Nat} {I : mm_I} (hd : 5 ≤ d) : mm_Cv g zX1_begin d [.ref 48, .int (nI 0), .int (nI 0)] (shT 51 48) I (im_X1_begin_48 I) := by
  refine mm_begin (ls := [(0, .ref 48), (1, .int (nI 0)), (2, .int (nI 0))]) (Nat.le_of_ble_eq_true rfl) rfl rfl ?_
  refine mm_aload_n 0 dX1_begin_0 rfl rfl ?_
  refine mm_iload_n 1 dX1_begin_1 rfl rfl ?_
  refine mm_puti dX1_begin_2 rfl fk_X1_26 rfl fv_1_0 ⟨(Nat.le_of_ble_eq_true rfl), so_48.2⟩ ?_
  refine mm_aload_n 0 dX1_begin_5 rfl rfl ?_
  refine mm_iload_n 2 dX1_begin_6 rfl rfl ?_
  refine mm_puti dX1_begin_7 rfl fk_X1_30 rfl fv_1_1 ⟨(Nat.le_of_ble_eq_true rfl), so_48.2⟩ ?_
  refine mm_aload_n 0 dX1_begin_10 rfl rfl ?_
  refine mm_bipush (v := nI 50) dX1_begin_11 (by decide) ?_
  refine mm_puti dX1_begin_13 rfl fk_X1_33 rfl fv_1_2 ⟨(Nat.le_of_ble_eq_true rfl), so_48.2⟩ ?_
  refine mm_aload_n 0 dX1_begin_16 rfl rfl ?_
  refine mm_iconst (v := nI 0) dX1_begin_17 (by decide) ?_
  refine mm_puti dX1_begin_18 rfl fk_X1_36 rfl fv_1_3 ⟨(Nat.le_of_ble_eq_true rfl), so_48.2⟩ ?_
  refine mm_aload_n 0 dX1_begin_21 rfl rfl ?_
  refine mm_iconst (v := nI 0) dX1_begin_22 (by decide) ?_
  refine mm_puti dX1_begin_23 rfl fk_X1_39 rfl fv_1_4 ⟨(Nat.le_of_ble_eq_true rfl), so_48.2⟩ ?_
  refine mm_aload_n 0 dX1_begin_26 rfl rfl ?_
  refine mm_iconst (v := nI 0) dX1_begin_27 (by decide) ?_
  refine mm_puti dX1_begin_28 rfl fk_X1_42 rfl fv_1_5 ⟨(Nat.le_of_ble_eq_true rfl), so_48.2⟩ ?_
  refine mm_aload_n 0 dX1_begin_31 rfl rfl ?_
  refine mm_iconst (v := -1) dX1_begin_32 (by decide) ?_
  refine mm_cV1v (dz := d - 1) dX1_begin_33 rfl mzX1_beginScript ml_X1_45 imX1_beginScript (by omega) ⟨(Nat.le_of_ble_eq_true rfl), so_48.2⟩ ⟨rfl, rfl⟩ (ini_X1_beginScript_48 (by omega)) (Nat.le_of_ble_eq_true rfl) (by decide) ?_
  refine mm_at (pc' := 36) rfl ?_
  exact mm_vret dX1_begin_36 rfl (by decide) ⟨rfl, rfl, rfl⟩
def im_X1_48 (I : mm_I) : mm_I := im_X1_begin_48 (I)
theorem im_X1_48_a {I : mm_I} {x : Nat} (h : 51 ≤ x) : im_X1_48 I x = I x := by unfold im_X1_48; rw [im_X1_begin_48_a (by omega)]
set_option maxRecDepth 100000 in
set_option maxHeartbeats 4000000 in
theorem ini_X1_48 {g : mm_G} {d : Nat} {I : mm_I} (hd : 6 ≤ d) (hz : ∀ x, 48 ≤ x → ∀ k, I x k = 0) : mm_Ct g zX1_init d (2, 6) [.ref 48] (shT 49 46) I (fun r S' I' => r = none ∧ S' = shT 51 48 ∧ I' = im_X1_48 I) := by
  refine mm_begin (ls := [(0, .ref 48)]) (Nat.le_of_ble_eq_true rfl) rfl rfl ?_
  refine mm_aload_n 0 dX1_init_0 rfl rfl ?_
  refine mm_obj dX1_init_1 rfl ml_X1_3 jm_obj (by omega) (Nat.le_of_ble_eq_true rfl) ?_
  refine mm_at (pc' := 4) rfl ?_
  refine mm_aload_n 0 dX1_init_4 rfl rfl ?_
  refine mm_newT (ci := 5) (C := RX5) (T := TX5) (n' := 50) (Al' := (1, 2)) dX1_init_5 rfl rfl mm_wX5 mm_tX5 cn_X1_9 mm_iX5 mm_dX5 (by decide) (by decide) rfl rfl so_49.2 (by decide +kernel) (hz 49 (by decide)) rfl rfl ?_
  refine mm_dup dX1_init_8 rfl ?_
  refine mm_iconst (v := nI 4) dX1_init_9 (by decide) ?_
  refine mm_callI1 (dz := d - 1) (Mz := (1, 4)) (Al' := (2, 6)) dX1_init_10 rfl mzX5_init ml_X1_13 imX5_init ⟨rfl, rfl⟩ (by omega) (ini_X5 (a := 49) (t := 46) (t' := 47) (m := 4) (n1 := 50) (n2 := 51) (by omega) (fun x hx => hz x (by omega)) (by decide) (by decide) rfl rfl rfl so_49.2 sa_50.2 (by decide +kernel) (by decide +kernel) (by decide +kernel)) (Nat.le_of_ble_eq_true rfl) (by decide) rfl rfl rfl ?_
  refine mm_at (pc' := 13) rfl ?_
  refine mm_putrT (t' := 48) dX1_init_13 rfl rfl fk_X1_16 (fun C T N h => by cases h; exact ⟨rfl, rfl⟩) rfl ⟨(Nat.le_of_ble_eq_true rfl), so_48.2⟩ (Or.inl (Nat.le_of_ble_eq_true rfl)) (by decide +kernel) (by decide +kernel) rfl ?_
  refine mm_aload_n 0 dX1_init_16 rfl rfl ?_
  refine mm_iconst (v := nI 0) dX1_init_17 (by decide) ?_
  refine mm_iconst (v := nI 0) dX1_init_18 (by decide) ?_
  refine mm_cV2v (dz := d - 1) dX1_init_19 rfl mzX1_begin ml_X1_22 imX1_begin (by omega) ⟨(Nat.le_of_ble_eq_true rfl), so_48.2⟩ ⟨rfl, rfl⟩ (ini_X1_begin_48 (by omega)) (Nat.le_of_ble_eq_true rfl) (by decide) ?_
  refine mm_at (pc' := 22) rfl ?_
  exact mm_vret dX1_init_22 rfl (by decide) ⟨rfl, rfl, rfl⟩
set_option maxRecDepth 100000 in
set_option maxHeartbeats 4000000 in
theorem ini_X4_52 {g : mm_G} {d : Nat} {I : mm_I} (hd : 4 ≤ d) (hz : ∀ x, 52 ≤ x → ∀ k, I x k = 0) : mm_Ct g zX4_init d (4, 220) [.ref 52] (shT 53 50) I (fun r S' I' => r = none ∧ S' = shT 57 54 ∧ I' = I) := by
  refine mm_begin (ls := [(0, .ref 52)]) (Nat.le_of_ble_eq_true rfl) rfl rfl ?_
  refine mm_aload_n 0 dX4_init_0 rfl rfl ?_
  refine mm_obj dX4_init_1 rfl ml_X4_3 jm_obj (by omega) (Nat.le_of_ble_eq_true rfl) ?_
  refine mm_at (pc' := 4) rfl ?_
  refine mm_aload_n 0 dX4_init_4 rfl rfl ?_
  refine mm_newT (ci := 5) (C := RX5) (T := TX5) (n' := 54) (Al' := (1, 2)) dX4_init_5 rfl rfl mm_wX5 mm_tX5 cn_X4_9 mm_iX5 mm_dX5 (by decide) (by decide) rfl rfl so_53.2 (by decide +kernel) (hz 53 (by decide)) rfl rfl ?_
  refine mm_dup dX4_init_8 rfl ?_
  refine mm_bipush (v := nI 120) dX4_init_9 (by decide) ?_
  refine mm_callI1 (dz := d - 1) (Mz := (1, 120)) (Al' := (2, 122)) dX4_init_11 rfl mzX5_init ml_X4_13 imX5_init ⟨rfl, rfl⟩ (by omega) (ini_X5 (a := 53) (t := 50) (t' := 51) (m := 120) (n1 := 54) (n2 := 55) (by omega) (fun x hx => hz x (by omega)) (by decide) (by decide) rfl rfl rfl so_53.2 sa_54.2 (by decide +kernel) (by decide +kernel) (by decide +kernel)) (Nat.le_of_ble_eq_true rfl) (by decide) rfl rfl rfl ?_
  refine mm_at (pc' := 14) rfl ?_
  refine mm_putrT (t' := 52) dX4_init_14 rfl rfl fk_X4_16 (fun C T N h => by cases h; exact ⟨rfl, rfl⟩) rfl ⟨(Nat.le_of_ble_eq_true rfl), so_52.2⟩ (Or.inl (Nat.le_of_ble_eq_true rfl)) (by decide +kernel) (by decide +kernel) rfl ?_
  refine mm_aload_n 0 dX4_init_17 rfl rfl ?_
  refine mm_newT (ci := 5) (C := RX5) (T := TX5) (n' := 56) (Al' := (3, 124)) dX4_init_18 rfl rfl mm_wX5 mm_tX5 cn_X4_9 mm_iX5 mm_dX5 (by decide) (by decide) rfl rfl so_55.2 (by decide +kernel) (hz 55 (by decide)) rfl rfl ?_
  refine mm_dup dX4_init_21 rfl ?_
  refine mm_bipush (v := nI 96) dX4_init_22 (by decide) ?_
  refine mm_callI1 (dz := d - 1) (Mz := (1, 96)) (Al' := (4, 220)) dX4_init_24 rfl mzX5_init ml_X4_13 imX5_init ⟨rfl, rfl⟩ (by omega) (ini_X5 (a := 55) (t := 52) (t' := 53) (m := 96) (n1 := 56) (n2 := 57) (by omega) (fun x hx => hz x (by omega)) (by decide) (by decide) rfl rfl rfl so_55.2 sa_56.2 (by decide +kernel) (by decide +kernel) (by decide +kernel)) (Nat.le_of_ble_eq_true rfl) (by decide) rfl rfl rfl ?_
  refine mm_at (pc' := 27) rfl ?_
  refine mm_putrT (t' := 54) dX4_init_27 rfl rfl fk_X4_20 (fun C T N h => by cases h; exact ⟨rfl, rfl⟩) rfl ⟨(Nat.le_of_ble_eq_true rfl), so_52.2⟩ (Or.inl (Nat.le_of_ble_eq_true rfl)) (by decide +kernel) (by decide +kernel) rfl ?_
  refine mm_aload_n 0 dX4_init_30 rfl rfl ?_
  refine mm_iconst (v := nI 0) dX4_init_31 (by decide) ?_
  refine mm_puti dX4_init_32 rfl fk_X4_23 rfl fv_4_2 ⟨(Nat.le_of_ble_eq_true rfl), so_52.2⟩ ?_
  rw [mm_up_id (show I 52 2 = nI 0 from hz 52 (by decide) 2)]
  exact mm_vret dX4_init_35 rfl (by decide) ⟨rfl, rfl, rfl⟩
set_option maxRecDepth 100000 in
set_option maxHeartbeats 4000000 in
theorem ini_X4_57 {g : mm_G} {d : Nat} {I : mm_I} (hd : 4 ≤ d) (hz : ∀ x, 57 ≤ x → ∀ k, I x k = 0) : mm_Ct g zX4_init d (4, 220) [.ref 57] (shT 58 55) I (fun r S' I' => r = none ∧ S' = shT 62 59 ∧ I' = I) := by
  refine mm_begin (ls := [(0, .ref 57)]) (Nat.le_of_ble_eq_true rfl) rfl rfl ?_
  refine mm_aload_n 0 dX4_init_0 rfl rfl ?_
  refine mm_obj dX4_init_1 rfl ml_X4_3 jm_obj (by omega) (Nat.le_of_ble_eq_true rfl) ?_
  refine mm_at (pc' := 4) rfl ?_
  refine mm_aload_n 0 dX4_init_4 rfl rfl ?_
  refine mm_newT (ci := 5) (C := RX5) (T := TX5) (n' := 59) (Al' := (1, 2)) dX4_init_5 rfl rfl mm_wX5 mm_tX5 cn_X4_9 mm_iX5 mm_dX5 (by decide) (by decide) rfl rfl so_58.2 (by decide +kernel) (hz 58 (by decide)) rfl rfl ?_
  refine mm_dup dX4_init_8 rfl ?_
  refine mm_bipush (v := nI 120) dX4_init_9 (by decide) ?_
  refine mm_callI1 (dz := d - 1) (Mz := (1, 120)) (Al' := (2, 122)) dX4_init_11 rfl mzX5_init ml_X4_13 imX5_init ⟨rfl, rfl⟩ (by omega) (ini_X5 (a := 58) (t := 55) (t' := 56) (m := 120) (n1 := 59) (n2 := 60) (by omega) (fun x hx => hz x (by omega)) (by decide) (by decide) rfl rfl rfl so_58.2 sa_59.2 (by decide +kernel) (by decide +kernel) (by decide +kernel)) (Nat.le_of_ble_eq_true rfl) (by decide) rfl rfl rfl ?_
  refine mm_at (pc' := 14) rfl ?_
  refine mm_putrT (t' := 57) dX4_init_14 rfl rfl fk_X4_16 (fun C T N h => by cases h; exact ⟨rfl, rfl⟩) rfl ⟨(Nat.le_of_ble_eq_true rfl), so_57.2⟩ (Or.inl (Nat.le_of_ble_eq_true rfl)) (by decide +kernel) (by decide +kernel) rfl ?_
  refine mm_aload_n 0 dX4_init_17 rfl rfl ?_
  refine mm_newT (ci := 5) (C := RX5) (T := TX5) (n' := 61) (Al' := (3, 124)) dX4_init_18 rfl rfl mm_wX5 mm_tX5 cn_X4_9 mm_iX5 mm_dX5 (by decide) (by decide) rfl rfl so_60.2 (by decide +kernel) (hz 60 (by decide)) rfl rfl ?_
  refine mm_dup dX4_init_21 rfl ?_
  refine mm_bipush (v := nI 96) dX4_init_22 (by decide) ?_
  refine mm_callI1 (dz := d - 1) (Mz := (1, 96)) (Al' := (4, 220)) dX4_init_24 rfl mzX5_init ml_X4_13 imX5_init ⟨rfl, rfl⟩ (by omega) (ini_X5 (a := 60) (t := 57) (t' := 58) (m := 96) (n1 := 61) (n2 := 62) (by omega) (fun x hx => hz x (by omega)) (by decide) (by decide) rfl rfl rfl so_60.2 sa_61.2 (by decide +kernel) (by decide +kernel) (by decide +kernel)) (Nat.le_of_ble_eq_true rfl) (by decide) rfl rfl rfl ?_
  refine mm_at (pc' := 27) rfl ?_
  refine mm_putrT (t' := 59) dX4_init_27 rfl rfl fk_X4_20 (fun C T N h => by cases h; exact ⟨rfl, rfl⟩) rfl ⟨(Nat.le_of_ble_eq_true rfl), so_57.2⟩ (Or.inl (Nat.le_of_ble_eq_true rfl)) (by decide +kernel) (by decide +kernel) rfl ?_
  refine mm_aload_n 0 dX4_init_30 rfl rfl ?_
  refine mm_iconst (v := nI 0) dX4_init_31 (by decide) ?_
  refine mm_puti dX4_init_32 rfl fk_X4_23 rfl fv_4_2 ⟨(Nat.le_of_ble_eq_true rfl), so_57.2⟩ ?_
  rw [mm_up_id (show I 57 2 = nI 0 from hz 57 (by decide) 2)]
  exact mm_vret dX4_init_35 rfl (by decide) ⟨rfl, rfl, rfl⟩
set_option maxRecDepth 100000 in
set_option maxHeartbeats 4000000 in
theorem ini_X4_62 {g : mm_G} {d : Nat} {I : mm_I} (hd : 4 ≤ d) (hz : ∀ x, 62 ≤ x → ∀ k, I x k = 0) : mm_Ct g zX4_init d (4, 220) [.ref 62] (shT 63 60) I (fun r S' I' => r = none ∧ S' = shT 67 64 ∧ I' = I) := by
  refine mm_begin (ls := [(0, .ref 62)]) (Nat.le_of_ble_eq_true rfl) rfl rfl ?_
  refine mm_aload_n 0 dX4_init_0 rfl rfl ?_
  refine mm_obj dX4_init_1 rfl ml_X4_3 jm_obj (by omega) (Nat.le_of_ble_eq_true rfl) ?_
  refine mm_at (pc' := 4) rfl ?_
  refine mm_aload_n 0 dX4_init_4 rfl rfl ?_
  refine mm_newT (ci := 5) (C := RX5) (T := TX5) (n' := 64) (Al' := (1, 2)) dX4_init_5 rfl rfl mm_wX5 mm_tX5 cn_X4_9 mm_iX5 mm_dX5 (by decide) (by decide) rfl rfl so_63.2 (by decide +kernel) (hz 63 (by decide)) rfl rfl ?_
  refine mm_dup dX4_init_8 rfl ?_
  refine mm_bipush (v := nI 120) dX4_init_9 (by decide) ?_
  refine mm_callI1 (dz := d - 1) (Mz := (1, 120)) (Al' := (2, 122)) dX4_init_11 rfl mzX5_init ml_X4_13 imX5_init ⟨rfl, rfl⟩ (by omega) (ini_X5 (a := 63) (t := 60) (t' := 61) (m := 120) (n1 := 64) (n2 := 65) (by omega) (fun x hx => hz x (by omega)) (by decide) (by decide) rfl rfl rfl so_63.2 sa_64.2 (by decide +kernel) (by decide +kernel) (by decide +kernel)) (Nat.le_of_ble_eq_true rfl) (by decide) rfl rfl rfl ?_
  refine mm_at (pc' := 14) rfl ?_
  refine mm_putrT (t' := 62) dX4_init_14 rfl rfl fk_X4_16 (fun C T N h => by cases h; exact ⟨rfl, rfl⟩) rfl ⟨(Nat.le_of_ble_eq_true rfl), so_62.2⟩ (Or.inl (Nat.le_of_ble_eq_true rfl)) (by decide +kernel) (by decide +kernel) rfl ?_
  refine mm_aload_n 0 dX4_init_17 rfl rfl ?_
  refine mm_newT (ci := 5) (C := RX5) (T := TX5) (n' := 66) (Al' := (3, 124)) dX4_init_18 rfl rfl mm_wX5 mm_tX5 cn_X4_9 mm_iX5 mm_dX5 (by decide) (by decide) rfl rfl so_65.2 (by decide +kernel) (hz 65 (by decide)) rfl rfl ?_
  refine mm_dup dX4_init_21 rfl ?_
  refine mm_bipush (v := nI 96) dX4_init_22 (by decide) ?_
  refine mm_callI1 (dz := d - 1) (Mz := (1, 96)) (Al' := (4, 220)) dX4_init_24 rfl mzX5_init ml_X4_13 imX5_init ⟨rfl, rfl⟩ (by omega) (ini_X5 (a := 65) (t := 62) (t' := 63) (m := 96) (n1 := 66) (n2 := 67) (by omega) (fun x hx => hz x (by omega)) (by decide) (by decide) rfl rfl rfl so_65.2 sa_66.2 (by decide +kernel) (by decide +kernel) (by decide +kernel)) (Nat.le_of_ble_eq_true rfl) (by decide) rfl rfl rfl ?_
  refine mm_at (pc' := 27) rfl ?_
  refine mm_putrT (t' := 64) dX4_init_27 rfl rfl fk_X4_20 (fun C T N h => by cases h; exact ⟨rfl, rfl⟩) rfl ⟨(Nat.le_of_ble_eq_true rfl), so_62.2⟩ (Or.inl (Nat.le_of_ble_eq_true rfl)) (by decide +kernel) (by decide +kernel) rfl ?_
  refine mm_aload_n 0 dX4_init_30 rfl rfl ?_
  refine mm_iconst (v := nI 0) dX4_init_31 (by decide) ?_
  refine mm_puti dX4_init_32 rfl fk_X4_23 rfl fv_4_2 ⟨(Nat.le_of_ble_eq_true rfl), so_62.2⟩ ?_
  rw [mm_up_id (show I 62 2 = nI 0 from hz 62 (by decide) 2)]
  exact mm_vret dX4_init_35 rfl (by decide) ⟨rfl, rfl, rfl⟩
set_option maxRecDepth 100000 in
set_option maxHeartbeats 4000000 in
theorem ini_X4_67 {g : mm_G} {d : Nat} {I : mm_I} (hd : 4 ≤ d) (hz : ∀ x, 67 ≤ x → ∀ k, I x k = 0) : mm_Ct g zX4_init d (4, 220) [.ref 67] (shT 68 65) I (fun r S' I' => r = none ∧ S' = shT 72 69 ∧ I' = I) := by
  refine mm_begin (ls := [(0, .ref 67)]) (Nat.le_of_ble_eq_true rfl) rfl rfl ?_
  refine mm_aload_n 0 dX4_init_0 rfl rfl ?_
  refine mm_obj dX4_init_1 rfl ml_X4_3 jm_obj (by omega) (Nat.le_of_ble_eq_true rfl) ?_
  refine mm_at (pc' := 4) rfl ?_
  refine mm_aload_n 0 dX4_init_4 rfl rfl ?_
  refine mm_newT (ci := 5) (C := RX5) (T := TX5) (n' := 69) (Al' := (1, 2)) dX4_init_5 rfl rfl mm_wX5 mm_tX5 cn_X4_9 mm_iX5 mm_dX5 (by decide) (by decide) rfl rfl so_68.2 (by decide +kernel) (hz 68 (by decide)) rfl rfl ?_
  refine mm_dup dX4_init_8 rfl ?_
  refine mm_bipush (v := nI 120) dX4_init_9 (by decide) ?_
  refine mm_callI1 (dz := d - 1) (Mz := (1, 120)) (Al' := (2, 122)) dX4_init_11 rfl mzX5_init ml_X4_13 imX5_init ⟨rfl, rfl⟩ (by omega) (ini_X5 (a := 68) (t := 65) (t' := 66) (m := 120) (n1 := 69) (n2 := 70) (by omega) (fun x hx => hz x (by omega)) (by decide) (by decide) rfl rfl rfl so_68.2 sa_69.2 (by decide +kernel) (by decide +kernel) (by decide +kernel)) (Nat.le_of_ble_eq_true rfl) (by decide) rfl rfl rfl ?_
  refine mm_at (pc' := 14) rfl ?_
  refine mm_putrT (t' := 67) dX4_init_14 rfl rfl fk_X4_16 (fun C T N h => by cases h; exact ⟨rfl, rfl⟩) rfl ⟨(Nat.le_of_ble_eq_true rfl), so_67.2⟩ (Or.inl (Nat.le_of_ble_eq_true rfl)) (by decide +kernel) (by decide +kernel) rfl ?_
  refine mm_aload_n 0 dX4_init_17 rfl rfl ?_
  refine mm_newT (ci := 5) (C := RX5) (T := TX5) (n' := 71) (Al' := (3, 124)) dX4_init_18 rfl rfl mm_wX5 mm_tX5 cn_X4_9 mm_iX5 mm_dX5 (by decide) (by decide) rfl rfl so_70.2 (by decide +kernel) (hz 70 (by decide)) rfl rfl ?_
  refine mm_dup dX4_init_21 rfl ?_
  refine mm_bipush (v := nI 96) dX4_init_22 (by decide) ?_
  refine mm_callI1 (dz := d - 1) (Mz := (1, 96)) (Al' := (4, 220)) dX4_init_24 rfl mzX5_init ml_X4_13 imX5_init ⟨rfl, rfl⟩ (by omega) (ini_X5 (a := 70) (t := 67) (t' := 68) (m := 96) (n1 := 71) (n2 := 72) (by omega) (fun x hx => hz x (by omega)) (by decide) (by decide) rfl rfl rfl so_70.2 sa_71.2 (by decide +kernel) (by decide +kernel) (by decide +kernel)) (Nat.le_of_ble_eq_true rfl) (by decide) rfl rfl rfl ?_
  refine mm_at (pc' := 27) rfl ?_
  refine mm_putrT (t' := 69) dX4_init_27 rfl rfl fk_X4_20 (fun C T N h => by cases h; exact ⟨rfl, rfl⟩) rfl ⟨(Nat.le_of_ble_eq_true rfl), so_67.2⟩ (Or.inl (Nat.le_of_ble_eq_true rfl)) (by decide +kernel) (by decide +kernel) rfl ?_
  refine mm_aload_n 0 dX4_init_30 rfl rfl ?_
  refine mm_iconst (v := nI 0) dX4_init_31 (by decide) ?_
  refine mm_puti dX4_init_32 rfl fk_X4_23 rfl fv_4_2 ⟨(Nat.le_of_ble_eq_true rfl), so_67.2⟩ ?_
  rw [mm_up_id (show I 67 2 = nI 0 from hz 67 (by decide) 2)]
  exact mm_vret dX4_init_35 rfl (by decide) ⟨rfl, rfl, rfl⟩
set_option maxRecDepth 100000 in
set_option maxHeartbeats 4000000 in
theorem ini_X4_72 {g : mm_G} {d : Nat} {I : mm_I} (hd : 4 ≤ d) (hz : ∀ x, 72 ≤ x → ∀ k, I x k = 0) : mm_Ct g zX4_init d (4, 220) [.ref 72] (shT 73 70) I (fun r S' I' => r = none ∧ S' = shT 77 74 ∧ I' = I) := by
  refine mm_begin (ls := [(0, .ref 72)]) (Nat.le_of_ble_eq_true rfl) rfl rfl ?_
  refine mm_aload_n 0 dX4_init_0 rfl rfl ?_
  refine mm_obj dX4_init_1 rfl ml_X4_3 jm_obj (by omega) (Nat.le_of_ble_eq_true rfl) ?_
  refine mm_at (pc' := 4) rfl ?_
  refine mm_aload_n 0 dX4_init_4 rfl rfl ?_
  refine mm_newT (ci := 5) (C := RX5) (T := TX5) (n' := 74) (Al' := (1, 2)) dX4_init_5 rfl rfl mm_wX5 mm_tX5 cn_X4_9 mm_iX5 mm_dX5 (by decide) (by decide) rfl rfl so_73.2 (by decide +kernel) (hz 73 (by decide)) rfl rfl ?_
  refine mm_dup dX4_init_8 rfl ?_
  refine mm_bipush (v := nI 120) dX4_init_9 (by decide) ?_
  refine mm_callI1 (dz := d - 1) (Mz := (1, 120)) (Al' := (2, 122)) dX4_init_11 rfl mzX5_init ml_X4_13 imX5_init ⟨rfl, rfl⟩ (by omega) (ini_X5 (a := 73) (t := 70) (t' := 71) (m := 120) (n1 := 74) (n2 := 75) (by omega) (fun x hx => hz x (by omega)) (by decide) (by decide) rfl rfl rfl so_73.2 sa_74.2 (by decide +kernel) (by decide +kernel) (by decide +kernel)) (Nat.le_of_ble_eq_true rfl) (by decide) rfl rfl rfl ?_
  refine mm_at (pc' := 14) rfl ?_
  refine mm_putrT (t' := 72) dX4_init_14 rfl rfl fk_X4_16 (fun C T N h => by cases h; exact ⟨rfl, rfl⟩) rfl ⟨(Nat.le_of_ble_eq_true rfl), so_72.2⟩ (Or.inl (Nat.le_of_ble_eq_true rfl)) (by decide +kernel) (by decide +kernel) rfl ?_
  refine mm_aload_n 0 dX4_init_17 rfl rfl ?_
  refine mm_newT (ci := 5) (C := RX5) (T := TX5) (n' := 76) (Al' := (3, 124)) dX4_init_18 rfl rfl mm_wX5 mm_tX5 cn_X4_9 mm_iX5 mm_dX5 (by decide) (by decide) rfl rfl so_75.2 (by decide +kernel) (hz 75 (by decide)) rfl rfl ?_
  refine mm_dup dX4_init_21 rfl ?_
  refine mm_bipush (v := nI 96) dX4_init_22 (by decide) ?_
  refine mm_callI1 (dz := d - 1) (Mz := (1, 96)) (Al' := (4, 220)) dX4_init_24 rfl mzX5_init ml_X4_13 imX5_init ⟨rfl, rfl⟩ (by omega) (ini_X5 (a := 75) (t := 72) (t' := 73) (m := 96) (n1 := 76) (n2 := 77) (by omega) (fun x hx => hz x (by omega)) (by decide) (by decide) rfl rfl rfl so_75.2 sa_76.2 (by decide +kernel) (by decide +kernel) (by decide +kernel)) (Nat.le_of_ble_eq_true rfl) (by decide) rfl rfl rfl ?_
  refine mm_at (pc' := 27) rfl ?_
  refine mm_putrT (t' := 74) dX4_init_27 rfl rfl fk_X4_20 (fun C T N h => by cases h; exact ⟨rfl, rfl⟩) rfl ⟨(Nat.le_of_ble_eq_true rfl), so_72.2⟩ (Or.inl (Nat.le_of_ble_eq_true rfl)) (by decide +kernel) (by decide +kernel) rfl ?_
  refine mm_aload_n 0 dX4_init_30 rfl rfl ?_
  refine mm_iconst (v := nI 0) dX4_init_31 (by decide) ?_
  refine mm_puti dX4_init_32 rfl fk_X4_23 rfl fv_4_2 ⟨(Nat.le_of_ble_eq_true rfl), so_72.2⟩ ?_
  rw [mm_up_id (show I 72 2 = nI 0 from hz 72 (by decide) 2)]
  exact mm_vret dX4_init_35 rfl (by decide) ⟨rfl, rfl, rfl⟩
set_option maxRecDepth 100000 in
set_option maxHeartbeats 4000000 in
theorem ini_X4_77 {g : mm_G} {d : Nat} {I : mm_I} (hd : 4 ≤ d) (hz : ∀ x, 77 ≤ x → ∀ k, I x k = 0) : mm_Ct g zX4_init d (4, 220) [.ref 77] (shT 78 75) I (fun r S' I' => r = none ∧ S' = shT 82 79 ∧ I' = I) := by
  refine mm_begin (ls := [(0, .ref 77)]) (Nat.le_of_ble_eq_true rfl) rfl rfl ?_
  refine mm_aload_n 0 dX4_init_0 rfl rfl ?_
  refine mm_obj dX4_init_1 rfl ml_X4_3 jm_obj (by omega) (Nat.le_of_ble_eq_true rfl) ?_
  refine mm_at (pc' := 4) rfl ?_
  refine mm_aload_n 0 dX4_init_4 rfl rfl ?_
  refine mm_newT (ci := 5) (C := RX5) (T := TX5) (n' := 79) (Al' := (1, 2)) dX4_init_5 rfl rfl mm_wX5 mm_tX5 cn_X4_9 mm_iX5 mm_dX5 (by decide) (by decide) rfl rfl so_78.2 (by decide +kernel) (hz 78 (by decide)) rfl rfl ?_
  refine mm_dup dX4_init_8 rfl ?_
  refine mm_bipush (v := nI 120) dX4_init_9 (by decide) ?_
  refine mm_callI1 (dz := d - 1) (Mz := (1, 120)) (Al' := (2, 122)) dX4_init_11 rfl mzX5_init ml_X4_13 imX5_init ⟨rfl, rfl⟩ (by omega) (ini_X5 (a := 78) (t := 75) (t' := 76) (m := 120) (n1 := 79) (n2 := 80) (by omega) (fun x hx => hz x (by omega)) (by decide) (by decide) rfl rfl rfl so_78.2 sa_79.2 (by decide +kernel) (by decide +kernel) (by decide +kernel)) (Nat.le_of_ble_eq_true rfl) (by decide) rfl rfl rfl ?_
  refine mm_at (pc' := 14) rfl ?_
  refine mm_putrT (t' := 77) dX4_init_14 rfl rfl fk_X4_16 (fun C T N h => by cases h; exact ⟨rfl, rfl⟩) rfl ⟨(Nat.le_of_ble_eq_true rfl), so_77.2⟩ (Or.inl (Nat.le_of_ble_eq_true rfl)) (by decide +kernel) (by decide +kernel) rfl ?_
  refine mm_aload_n 0 dX4_init_17 rfl rfl ?_
  refine mm_newT (ci := 5) (C := RX5) (T := TX5) (n' := 81) (Al' := (3, 124)) dX4_init_18 rfl rfl mm_wX5 mm_tX5 cn_X4_9 mm_iX5 mm_dX5 (by decide) (by decide) rfl rfl so_80.2 (by decide +kernel) (hz 80 (by decide)) rfl rfl ?_
  refine mm_dup dX4_init_21 rfl ?_
  refine mm_bipush (v := nI 96) dX4_init_22 (by decide) ?_
  refine mm_callI1 (dz := d - 1) (Mz := (1, 96)) (Al' := (4, 220)) dX4_init_24 rfl mzX5_init ml_X4_13 imX5_init ⟨rfl, rfl⟩ (by omega) (ini_X5 (a := 80) (t := 77) (t' := 78) (m := 96) (n1 := 81) (n2 := 82) (by omega) (fun x hx => hz x (by omega)) (by decide) (by decide) rfl rfl rfl so_80.2 sa_81.2 (by decide +kernel) (by decide +kernel) (by decide +kernel)) (Nat.le_of_ble_eq_true rfl) (by decide) rfl rfl rfl ?_
  refine mm_at (pc' := 27) rfl ?_
  refine mm_putrT (t' := 79) dX4_init_27 rfl rfl fk_X4_20 (fun C T N h => by cases h; exact ⟨rfl, rfl⟩) rfl ⟨(Nat.le_of_ble_eq_true rfl), so_77.2⟩ (Or.inl (Nat.le_of_ble_eq_true rfl)) (by decide +kernel) (by decide +kernel) rfl ?_
  refine mm_aload_n 0 dX4_init_30 rfl rfl ?_
  refine mm_iconst (v := nI 0) dX4_init_31 (by decide) ?_
  refine mm_puti dX4_init_32 rfl fk_X4_23 rfl fv_4_2 ⟨(Nat.le_of_ble_eq_true rfl), so_77.2⟩ ?_
  rw [mm_up_id (show I 77 2 = nI 0 from hz 77 (by decide) 2)]
  exact mm_vret dX4_init_35 rfl (by decide) ⟨rfl, rfl, rfl⟩
def im_X8_1 (I : mm_I) : mm_I := mm_up (im_X1_48 (im_X1_45 (im_X1_42 (im_X1_39 (im_X1_36 (im_X3_17 (im_X0_2 (I)))))))) 1 4 (nI 0)
theorem im_X8_1_a {I : mm_I} {x : Nat} (h : 86 ≤ x) : im_X8_1 I x = I x := by unfold im_X8_1; rw [mm_up_a (by omega), im_X1_48_a (by omega), im_X1_45_a (by omega), im_X1_42_a (by omega), im_X1_39_a (by omega), im_X1_36_a (by omega), im_X3_17_a (by omega), im_X0_2_a (by omega)]
set_option maxRecDepth 100000 in
set_option maxHeartbeats 4000000 in
theorem ini_X8_1 {g : mm_G} {d : Nat} {I : mm_I} (hd : 9 ≤ d) (hz : ∀ x, 1 ≤ x → ∀ k, I x k = 0) : mm_Ct g zX8_init d (84, 2601) [.ref 1] (shT 2 0) I (fun r S' I' => r = none ∧ S' = shT 86 84 ∧ I' = im_X8_1 I) := by
  refine mm_begin (ls := [(0, .ref 1)]) (Nat.le_of_ble_eq_true rfl) rfl rfl ?_
  refine mm_aload_n 0 dX8_init_0 rfl rfl ?_
  refine mm_obj dX8_init_1 rfl ml_X8_3 jm_obj (by omega) (Nat.le_of_ble_eq_true rfl) ?_
  refine mm_at (pc' := 4) rfl ?_
  refine mm_aload_n 0 dX8_init_4 rfl rfl ?_
  refine mm_newT (ci := 0) (C := RX0) (T := TX0) (n' := 3) (Al' := (1, 11)) dX8_init_5 rfl rfl mm_wX0 mm_tX0 cn_X8_9 mm_iX0 mm_dX0 (by decide) (by decide) rfl rfl so_2.2 (by decide +kernel) (hz 2 (by decide)) rfl rfl ?_
  refine mm_dup dX8_init_8 rfl ?_
  refine mm_callI0 (dz := d - 1) (Mz := (14, 737)) (Al' := (15, 748)) dX8_init_9 rfl mzX0_init ml_X8_11 imX0_init ⟨rfl, rfl⟩ (by omega) (ini_X0_2 (by omega) (fun x hx => hz x (by omega))) (Nat.le_of_ble_eq_true rfl) (by decide) rfl rfl rfl ?_
  refine mm_at (pc' := 12) rfl ?_
  refine mm_putrT (t' := 15) dX8_init_12 rfl rfl fk_X8_12 (fun C T N h => by cases h; exact ⟨rfl, rfl⟩) rfl ⟨(Nat.le_of_ble_eq_true rfl), so_1.2⟩ (Or.inl (Nat.le_of_ble_eq_true rfl)) (by decide +kernel) (by decide +kernel) rfl ?_
  refine mm_aload_n 0 dX8_init_15 rfl rfl ?_
  refine mm_newT (ci := 3) (C := RX3) (T := TX3) (n' := 18) (Al' := (16, 758)) dX8_init_16 rfl rfl mm_wX3 mm_tX3 cn_X8_18 mm_iX3 mm_dX3 (by decide) (by decide) rfl rfl so_17.2 (by decide +kernel) (fun k => by rw [im_X0_2_a (by decide)]; exact hz 17 (by decide) k) rfl rfl ?_
  refine mm_dup dX8_init_19 rfl ?_
  refine mm_callI0 (dz := d - 1) (Mz := (4, 20)) (Al' := (20, 778)) dX8_init_20 rfl mzX3_init ml_X8_20 imX3_init ⟨rfl, rfl⟩ (by omega) (ini_X3_17 (by omega) (fun x hx k => by rw [im_X0_2_a (by omega)]; exact hz x (by omega) k)) (Nat.le_of_ble_eq_true rfl) (by decide) rfl rfl rfl ?_
  refine mm_at (pc' := 23) rfl ?_
  refine mm_putrT (t' := 20) dX8_init_23 rfl rfl fk_X8_21 (fun C T N h => by cases h; exact ⟨rfl, rfl⟩) rfl ⟨(Nat.le_of_ble_eq_true rfl), so_1.2⟩ (Or.inl (Nat.le_of_ble_eq_true rfl)) (by decide +kernel) (by decide +kernel) rfl ?_
  refine mm_aload_n 0 dX8_init_26 rfl rfl ?_
  refine mm_newT (ci := 10) (C := RX10) (T := TX10) (n' := 23) (Al' := (21, 789)) dX8_init_27 rfl rfl mm_wX10 mm_tX10 cn_X8_25 mm_iX10 mm_dX10 (by decide) (by decide) rfl rfl so_22.2 (by decide +kernel) (fun k => by rw [im_X3_17_a (by decide), im_X0_2_a (by decide)]; exact hz 22 (by decide) k) rfl rfl ?_
  refine mm_dup dX8_init_30 rfl ?_
  refine mm_callI0 (dz := d - 1) (Mz := (12, 48)) (Al' := (33, 837)) dX8_init_31 rfl mzX10_init ml_X8_27 imX10_init ⟨rfl, rfl⟩ (by omega) (ini_X10_22 (by omega) (fun x hx k => by rw [im_X3_17_a (by omega), im_X0_2_a (by omega)]; exact hz x (by omega) k)) (Nat.le_of_ble_eq_true rfl) (by decide) rfl rfl rfl ?_
  refine mm_at (pc' := 34) rfl ?_
  refine mm_putrT (t' := 33) dX8_init_34 rfl rfl fk_X8_28 (fun C T N h => by cases h; exact ⟨rfl, rfl⟩) rfl ⟨(Nat.le_of_ble_eq_true rfl), so_1.2⟩ (Or.inl (Nat.le_of_ble_eq_true rfl)) (by decide +kernel) (by decide +kernel) rfl ?_
  refine mm_aload_n 0 dX8_init_37 rfl rfl ?_
  refine mm_iconst (v := nI 5) dX8_init_38 (by decide) ?_
  refine mm_newqT (q := 1) (n := 35) (m := 5) (n' := 36) (Al' := (34, 842)) dX8_init_39 rfl (by decide) cn_X8_32 (by decide) (by decide) (by decide) rfl rfl sq_35.2 (by decide +kernel) (fun k => by rw [im_X3_17_a (by decide), im_X0_2_a (by decide)]; exact hz 35 (by decide) k) rfl rfl ?_
  refine mm_putrT (t' := 34) dX8_init_42 rfl rfl fk_X8_34 (fun C T N h => by cases h; exact ⟨rfl, rfl⟩) rfl ⟨(Nat.le_of_ble_eq_true rfl), so_1.2⟩ (Or.inl (Nat.le_of_ble_eq_true rfl)) (by decide +kernel) (by decide +kernel) rfl ?_
  refine mm_iconst (v := nI 0) dX8_init_45 (by decide) ?_
  refine mm_istore_n (ls' := [(1, .int (nI 0)), (0, .ref 1)]) dX8_init_46 rfl (by decide) rfl ?_
  refine mm_iload_n 0 dX8_init_47 rfl rfl ?_
  refine mm_aload_n 1 dX8_init_48 rfl rfl ?_
  refine mm_getr (b := 35) dX8_init_49 rfl fk_X8_34 rfl ⟨(Nat.le_of_ble_eq_true rfl), so_1.2⟩ (by decide +kernel) ?_
  refine mm_alenR (q := 1) (n := 5) dX8_init_52 ⟨(Nat.le_of_ble_eq_true rfl), sq_35.2⟩ ?_
  refine mm_icmp_geN 0 5 (tgt := 75) dX8_init_53 (by decide) (by decide) (by decide) (fun c => absurd c (by decide)) (fun _ => ?_)
  refine mm_at (pc' := 56) rfl ?_
  refine mm_aload_n 1 dX8_init_56 rfl rfl ?_
  refine mm_getr (b := 35) dX8_init_57 rfl fk_X8_34 rfl ⟨(Nat.le_of_ble_eq_true rfl), so_1.2⟩ (by decide +kernel) ?_
  refine mm_iload_n 0 dX8_init_60 rfl rfl ?_
  refine mm_newT (ci := 1) (C := RX1) (T := TX1) (n' := 37) (Al' := (35, 851)) dX8_init_61 rfl rfl mm_wX1 mm_tX1 cn_X8_32 mm_iX1 mm_dX1 (by decide) (by decide) rfl rfl so_36.2 (by decide +kernel) (fun k => by rw [im_X3_17_a (by decide), im_X0_2_a (by decide)]; exact hz 36 (by decide) k) rfl rfl ?_
  refine mm_dup dX8_init_64 rfl ?_
  refine mm_callI0 (dz := d - 1) (Mz := (2, 6)) (Al' := (37, 857)) dX8_init_65 rfl mzX1_init ml_X8_38 imX1_init ⟨rfl, rfl⟩ (by omega) (ini_X1_36 (by omega) (fun x hx k => by rw [im_X3_17_a (by omega), im_X0_2_a (by omega)]; exact hz x (by omega) k)) (Nat.le_of_ble_eq_true rfl) (by decide) rfl rfl rfl ?_
  refine mm_at (pc' := 68) rfl ?_
  refine mm_aastT (q := 1) (m := 5) (i := 0) (t' := 37) dX8_init_68 ⟨(Nat.le_of_ble_eq_true rfl), sq_35.2⟩ (by decide) ⟨⟨(Nat.le_of_ble_eq_true rfl), so_36.2⟩, _, _, rfl⟩ (by decide +kernel) (by decide +kernel) rfl ?_
  refine mm_iincN (ls' := [(1, .int (nI 1)), (0, .ref 1)]) 0 0 1 dX8_init_69 rfl (by decide) (by decide) rfl ?_
  refine mm_goto (tgt := 47) dX8_init_72 (by decide) ?_
  refine mm_iload_n 0 dX8_init_47 rfl rfl ?_
  refine mm_aload_n 1 dX8_init_48 rfl rfl ?_
  refine mm_getr (b := 35) dX8_init_49 rfl fk_X8_34 rfl ⟨(Nat.le_of_ble_eq_true rfl), so_1.2⟩ (by decide +kernel) ?_
  refine mm_alenR (q := 1) (n := 5) dX8_init_52 ⟨(Nat.le_of_ble_eq_true rfl), sq_35.2⟩ ?_
  refine mm_icmp_geN 1 5 (tgt := 75) dX8_init_53 (by decide) (by decide) (by decide) (fun c => absurd c (by decide)) (fun _ => ?_)
  refine mm_at (pc' := 56) rfl ?_
  refine mm_aload_n 1 dX8_init_56 rfl rfl ?_
  refine mm_getr (b := 35) dX8_init_57 rfl fk_X8_34 rfl ⟨(Nat.le_of_ble_eq_true rfl), so_1.2⟩ (by decide +kernel) ?_
  refine mm_iload_n 0 dX8_init_60 rfl rfl ?_
  refine mm_newT (ci := 1) (C := RX1) (T := TX1) (n' := 40) (Al' := (38, 866)) dX8_init_61 rfl rfl mm_wX1 mm_tX1 cn_X8_32 mm_iX1 mm_dX1 (by decide) (by decide) rfl rfl so_39.2 (by decide +kernel) (fun k => by rw [im_X1_36_a (by decide), im_X3_17_a (by decide), im_X0_2_a (by decide)]; exact hz 39 (by decide) k) rfl rfl ?_
  refine mm_dup dX8_init_64 rfl ?_
  refine mm_callI0 (dz := d - 1) (Mz := (2, 6)) (Al' := (40, 872)) dX8_init_65 rfl mzX1_init ml_X8_38 imX1_init ⟨rfl, rfl⟩ (by omega) (ini_X1_39 (by omega) (fun x hx k => by rw [im_X1_36_a (by omega), im_X3_17_a (by omega), im_X0_2_a (by omega)]; exact hz x (by omega) k)) (Nat.le_of_ble_eq_true rfl) (by decide) rfl rfl rfl ?_
  refine mm_at (pc' := 68) rfl ?_
  refine mm_aastT (q := 1) (m := 5) (i := 1) (t' := 40) dX8_init_68 ⟨(Nat.le_of_ble_eq_true rfl), sq_35.2⟩ (by decide) ⟨⟨(Nat.le_of_ble_eq_true rfl), so_39.2⟩, _, _, rfl⟩ (by decide +kernel) (by decide +kernel) rfl ?_
  refine mm_iincN (ls' := [(1, .int (nI 2)), (0, .ref 1)]) 0 1 1 dX8_init_69 rfl (by decide) (by decide) rfl ?_
  refine mm_goto (tgt := 47) dX8_init_72 (by decide) ?_
  refine mm_iload_n 0 dX8_init_47 rfl rfl ?_
  refine mm_aload_n 1 dX8_init_48 rfl rfl ?_
  refine mm_getr (b := 35) dX8_init_49 rfl fk_X8_34 rfl ⟨(Nat.le_of_ble_eq_true rfl), so_1.2⟩ (by decide +kernel) ?_
  refine mm_alenR (q := 1) (n := 5) dX8_init_52 ⟨(Nat.le_of_ble_eq_true rfl), sq_35.2⟩ ?_
  refine mm_icmp_geN 2 5 (tgt := 75) dX8_init_53 (by decide) (by decide) (by decide) (fun c => absurd c (by decide)) (fun _ => ?_)
  refine mm_at (pc' := 56) rfl ?_
  refine mm_aload_n 1 dX8_init_56 rfl rfl ?_
  refine mm_getr (b := 35) dX8_init_57 rfl fk_X8_34 rfl ⟨(Nat.le_of_ble_eq_true rfl), so_1.2⟩ (by decide +kernel) ?_
  refine mm_iload_n 0 dX8_init_60 rfl rfl ?_
  refine mm_newT (ci := 1) (C := RX1) (T := TX1) (n' := 43) (Al' := (41, 881)) dX8_init_61 rfl rfl mm_wX1 mm_tX1 cn_X8_32 mm_iX1 mm_dX1 (by decide) (by decide) rfl rfl so_42.2 (by decide +kernel) (fun k => by rw [im_X1_39_a (by decide), im_X1_36_a (by decide), im_X3_17_a (by decide), im_X0_2_a (by decide)]; exact hz 42 (by decide) k) rfl rfl ?_
  refine mm_dup dX8_init_64 rfl ?_
  refine mm_callI0 (dz := d - 1) (Mz := (2, 6)) (Al' := (43, 887)) dX8_init_65 rfl mzX1_init ml_X8_38 imX1_init ⟨rfl, rfl⟩ (by omega) (ini_X1_42 (by omega) (fun x hx k => by rw [im_X1_39_a (by omega), im_X1_36_a (by omega), im_X3_17_a (by omega), im_X0_2_a (by omega)]; exact hz x (by omega) k)) (Nat.le_of_ble_eq_true rfl) (by decide) rfl rfl rfl ?_
  refine mm_at (pc' := 68) rfl ?_
  refine mm_aastT (q := 1) (m := 5) (i := 2) (t' := 43) dX8_init_68 ⟨(Nat.le_of_ble_eq_true rfl), sq_35.2⟩ (by decide) ⟨⟨(Nat.le_of_ble_eq_true rfl), so_42.2⟩, _, _, rfl⟩ (by decide +kernel) (by decide +kernel) rfl ?_
  refine mm_iincN (ls' := [(1, .int (nI 3)), (0, .ref 1)]) 0 2 1 dX8_init_69 rfl (by decide) (by decide) rfl ?_
  refine mm_goto (tgt := 47) dX8_init_72 (by decide) ?_
  refine mm_iload_n 0 dX8_init_47 rfl rfl ?_
  refine mm_aload_n 1 dX8_init_48 rfl rfl ?_
  refine mm_getr (b := 35) dX8_init_49 rfl fk_X8_34 rfl ⟨(Nat.le_of_ble_eq_true rfl), so_1.2⟩ (by decide +kernel) ?_
  refine mm_alenR (q := 1) (n := 5) dX8_init_52 ⟨(Nat.le_of_ble_eq_true rfl), sq_35.2⟩ ?_
  refine mm_icmp_geN 3 5 (tgt := 75) dX8_init_53 (by decide) (by decide) (by decide) (fun c => absurd c (by decide)) (fun _ => ?_)
  refine mm_at (pc' := 56) rfl ?_
  refine mm_aload_n 1 dX8_init_56 rfl rfl ?_
  refine mm_getr (b := 35) dX8_init_57 rfl fk_X8_34 rfl ⟨(Nat.le_of_ble_eq_true rfl), so_1.2⟩ (by decide +kernel) ?_
  refine mm_iload_n 0 dX8_init_60 rfl rfl ?_
  refine mm_newT (ci := 1) (C := RX1) (T := TX1) (n' := 46) (Al' := (44, 896)) dX8_init_61 rfl rfl mm_wX1 mm_tX1 cn_X8_32 mm_iX1 mm_dX1 (by decide) (by decide) rfl rfl so_45.2 (by decide +kernel) (fun k => by rw [im_X1_42_a (by decide), im_X1_39_a (by decide), im_X1_36_a (by decide), im_X3_17_a (by decide), im_X0_2_a (by decide)]; exact hz 45 (by decide) k) rfl rfl ?_
  refine mm_dup dX8_init_64 rfl ?_
  refine mm_callI0 (dz := d - 1) (Mz := (2, 6)) (Al' := (46, 902)) dX8_init_65 rfl mzX1_init ml_X8_38 imX1_init ⟨rfl, rfl⟩ (by omega) (ini_X1_45 (by omega) (fun x hx k => by rw [im_X1_42_a (by omega), im_X1_39_a (by omega), im_X1_36_a (by omega), im_X3_17_a (by omega), im_X0_2_a (by omega)]; exact hz x (by omega) k)) (Nat.le_of_ble_eq_true rfl) (by decide) rfl rfl rfl ?_
  refine mm_at (pc' := 68) rfl ?_
  refine mm_aastT (q := 1) (m := 5) (i := 3) (t' := 46) dX8_init_68 ⟨(Nat.le_of_ble_eq_true rfl), sq_35.2⟩ (by decide) ⟨⟨(Nat.le_of_ble_eq_true rfl), so_45.2⟩, _, _, rfl⟩ (by decide +kernel) (by decide +kernel) rfl ?_
  refine mm_iincN (ls' := [(1, .int (nI 4)), (0, .ref 1)]) 0 3 1 dX8_init_69 rfl (by decide) (by decide) rfl ?_
  refine mm_goto (tgt := 47) dX8_init_72 (by decide) ?_
  refine mm_iload_n 0 dX8_init_47 rfl rfl ?_
  refine mm_aload_n 1 dX8_init_48 rfl rfl ?_
  refine mm_getr (b := 35) dX8_init_49 rfl fk_X8_34 rfl ⟨(Nat.le_of_ble_eq_true rfl), so_1.2⟩ (by decide +kernel) ?_
  refine mm_alenR (q := 1) (n := 5) dX8_init_52 ⟨(Nat.le_of_ble_eq_true rfl), sq_35.2⟩ ?_
  refine mm_icmp_geN 4 5 (tgt := 75) dX8_init_53 (by decide) (by decide) (by decide) (fun c => absurd c (by decide)) (fun _ => ?_)
  refine mm_at (pc' := 56) rfl ?_
  refine mm_aload_n 1 dX8_init_56 rfl rfl ?_
  refine mm_getr (b := 35) dX8_init_57 rfl fk_X8_34 rfl ⟨(Nat.le_of_ble_eq_true rfl), so_1.2⟩ (by decide +kernel) ?_
  refine mm_iload_n 0 dX8_init_60 rfl rfl ?_
  refine mm_newT (ci := 1) (C := RX1) (T := TX1) (n' := 49) (Al' := (47, 911)) dX8_init_61 rfl rfl mm_wX1 mm_tX1 cn_X8_32 mm_iX1 mm_dX1 (by decide) (by decide) rfl rfl so_48.2 (by decide +kernel) (fun k => by rw [im_X1_45_a (by decide), im_X1_42_a (by decide), im_X1_39_a (by decide), im_X1_36_a (by decide), im_X3_17_a (by decide), im_X0_2_a (by decide)]; exact hz 48 (by decide) k) rfl rfl ?_
  refine mm_dup dX8_init_64 rfl ?_
  refine mm_callI0 (dz := d - 1) (Mz := (2, 6)) (Al' := (49, 917)) dX8_init_65 rfl mzX1_init ml_X8_38 imX1_init ⟨rfl, rfl⟩ (by omega) (ini_X1_48 (by omega) (fun x hx k => by rw [im_X1_45_a (by omega), im_X1_42_a (by omega), im_X1_39_a (by omega), im_X1_36_a (by omega), im_X3_17_a (by omega), im_X0_2_a (by omega)]; exact hz x (by omega) k)) (Nat.le_of_ble_eq_true rfl) (by decide) rfl rfl rfl ?_
  refine mm_at (pc' := 68) rfl ?_
  refine mm_aastT (q := 1) (m := 5) (i := 4) (t' := 49) dX8_init_68 ⟨(Nat.le_of_ble_eq_true rfl), sq_35.2⟩ (by decide) ⟨⟨(Nat.le_of_ble_eq_true rfl), so_48.2⟩, _, _, rfl⟩ (by decide +kernel) (by decide +kernel) rfl ?_
  refine mm_iincN (ls' := [(1, .int (nI 5)), (0, .ref 1)]) 0 4 1 dX8_init_69 rfl (by decide) (by decide) rfl ?_
  refine mm_goto (tgt := 47) dX8_init_72 (by decide) ?_
  refine mm_iload_n 0 dX8_init_47 rfl rfl ?_
  refine mm_aload_n 1 dX8_init_48 rfl rfl ?_
  refine mm_getr (b := 35) dX8_init_49 rfl fk_X8_34 rfl ⟨(Nat.le_of_ble_eq_true rfl), so_1.2⟩ (by decide +kernel) ?_
  refine mm_alenR (q := 1) (n := 5) dX8_init_52 ⟨(Nat.le_of_ble_eq_true rfl), sq_35.2⟩ ?_
  refine mm_icmp_geN 5 5 (tgt := 75) dX8_init_53 (by decide) (by decide) (by decide) (fun _ => ?_) (fun c => absurd c (by decide))
  refine mm_aload_n 1 dX8_init_75 rfl rfl ?_
  refine mm_iconst (v := nI 0) dX8_init_76 (by decide) ?_
  refine mm_puti dX8_init_77 rfl fk_X8_39 rfl fv_8_4 ⟨(Nat.le_of_ble_eq_true rfl), so_1.2⟩ ?_
  refine mm_aload_n 1 dX8_init_80 rfl rfl ?_
  refine mm_bipush (v := nI 6) dX8_init_81 (by decide) ?_
  refine mm_newqT (q := 4) (n := 51) (m := 6) (n' := 52) (Al' := (50, 923)) dX8_init_83 rfl (by decide) cn_X8_43 (by decide) (by decide) (by decide) rfl rfl sq_51.2 (by decide +kernel) (fun k => by rw [mm_up_a (by decide), im_X1_48_a (by decide), im_X1_45_a (by decide), im_X1_42_a (by decide), im_X1_39_a (by decide), im_X1_36_a (by decide), im_X3_17_a (by decide), im_X0_2_a (by decide)]; exact hz 51 (by decide) k) rfl rfl ?_
  refine mm_putrT (t' := 50) dX8_init_86 rfl rfl fk_X8_45 (fun C T N h => by cases h; exact ⟨rfl, rfl⟩) rfl ⟨(Nat.le_of_ble_eq_true rfl), so_1.2⟩ (Or.inl (Nat.le_of_ble_eq_true rfl)) (by decide +kernel) (by decide +kernel) rfl ?_
  refine mm_iconst (v := nI 0) dX8_init_89 (by decide) ?_
  refine mm_istore_n (ls' := [(1, .int (nI 0)), (0, .ref 1)]) dX8_init_90 rfl (by decide) rfl ?_
  refine mm_iload_n 0 dX8_init_91 rfl rfl ?_
  refine mm_aload_n 1 dX8_init_92 rfl rfl ?_
  refine mm_getr (b := 51) dX8_init_93 rfl fk_X8_45 rfl ⟨(Nat.le_of_ble_eq_true rfl), so_1.2⟩ (by decide +kernel) ?_
  refine mm_alenR (q := 4) (n := 6) dX8_init_96 ⟨(Nat.le_of_ble_eq_true rfl), sq_51.2⟩ ?_
  refine mm_icmp_geN 0 6 (tgt := 119) dX8_init_97 (by decide) (by decide) (by decide) (fun c => absurd c (by decide)) (fun _ => ?_)
  refine mm_at (pc' := 100) rfl ?_
  refine mm_aload_n 1 dX8_init_100 rfl rfl ?_
  refine mm_getr (b := 51) dX8_init_101 rfl fk_X8_45 rfl ⟨(Nat.le_of_ble_eq_true rfl), so_1.2⟩ (by decide +kernel) ?_
  refine mm_iload_n 0 dX8_init_104 rfl rfl ?_
  refine mm_newT (ci := 4) (C := RX4) (T := TX4) (n' := 53) (Al' := (51, 926)) dX8_init_105 rfl rfl mm_wX4 mm_tX4 cn_X8_43 mm_iX4 mm_dX4 (by decide) (by decide) rfl rfl so_52.2 (by decide +kernel) (fun k => by rw [mm_up_a (by decide), im_X1_48_a (by decide), im_X1_45_a (by decide), im_X1_42_a (by decide), im_X1_39_a (by decide), im_X1_36_a (by decide), im_X3_17_a (by decide), im_X0_2_a (by decide)]; exact hz 52 (by decide) k) rfl rfl ?_
  refine mm_dup dX8_init_108 rfl ?_
  refine mm_callI0 (dz := d - 1) (Mz := (4, 220)) (Al' := (55, 1146)) dX8_init_109 rfl mzX4_init ml_X8_49 imX4_init ⟨rfl, rfl⟩ (by omega) (ini_X4_52 (by omega) (fun x hx k => by rw [mm_up_a (by omega), im_X1_48_a (by omega), im_X1_45_a (by omega), im_X1_42_a (by omega), im_X1_39_a (by omega), im_X1_36_a (by omega), im_X3_17_a (by omega), im_X0_2_a (by omega)]; exact hz x (by omega) k)) (Nat.le_of_ble_eq_true rfl) (by decide) rfl rfl rfl ?_
  refine mm_at (pc' := 112) rfl ?_
  refine mm_aastT (q := 4) (m := 6) (i := 0) (t' := 55) dX8_init_112 ⟨(Nat.le_of_ble_eq_true rfl), sq_51.2⟩ (by decide) ⟨⟨(Nat.le_of_ble_eq_true rfl), so_52.2⟩, _, _, rfl⟩ (by decide +kernel) (by decide +kernel) rfl ?_
  refine mm_iincN (ls' := [(1, .int (nI 1)), (0, .ref 1)]) 0 0 1 dX8_init_113 rfl (by decide) (by decide) rfl ?_
  refine mm_goto (tgt := 91) dX8_init_116 (by decide) ?_
  refine mm_iload_n 0 dX8_init_91 rfl rfl ?_
  refine mm_aload_n 1 dX8_init_92 rfl rfl ?_
  refine mm_getr (b := 51) dX8_init_93 rfl fk_X8_45 rfl ⟨(Nat.le_of_ble_eq_true rfl), so_1.2⟩ (by decide +kernel) ?_
  refine mm_alenR (q := 4) (n := 6) dX8_init_96 ⟨(Nat.le_of_ble_eq_true rfl), sq_51.2⟩ ?_
  refine mm_icmp_geN 1 6 (tgt := 119) dX8_init_97 (by decide) (by decide) (by decide) (fun c => absurd c (by decide)) (fun _ => ?_)
  refine mm_at (pc' := 100) rfl ?_
  refine mm_aload_n 1 dX8_init_100 rfl rfl ?_
  refine mm_getr (b := 51) dX8_init_101 rfl fk_X8_45 rfl ⟨(Nat.le_of_ble_eq_true rfl), so_1.2⟩ (by decide +kernel) ?_
  refine mm_iload_n 0 dX8_init_104 rfl rfl ?_
  refine mm_newT (ci := 4) (C := RX4) (T := TX4) (n' := 58) (Al' := (56, 1149)) dX8_init_105 rfl rfl mm_wX4 mm_tX4 cn_X8_43 mm_iX4 mm_dX4 (by decide) (by decide) rfl rfl so_57.2 (by decide +kernel) (fun k => by rw [mm_up_a (by decide), im_X1_48_a (by decide), im_X1_45_a (by decide), im_X1_42_a (by decide), im_X1_39_a (by decide), im_X1_36_a (by decide), im_X3_17_a (by decide), im_X0_2_a (by decide)]; exact hz 57 (by decide) k) rfl rfl ?_
  refine mm_dup dX8_init_108 rfl ?_
  refine mm_callI0 (dz := d - 1) (Mz := (4, 220)) (Al' := (60, 1369)) dX8_init_109 rfl mzX4_init ml_X8_49 imX4_init ⟨rfl, rfl⟩ (by omega) (ini_X4_57 (by omega) (fun x hx k => by rw [mm_up_a (by omega), im_X1_48_a (by omega), im_X1_45_a (by omega), im_X1_42_a (by omega), im_X1_39_a (by omega), im_X1_36_a (by omega), im_X3_17_a (by omega), im_X0_2_a (by omega)]; exact hz x (by omega) k)) (Nat.le_of_ble_eq_true rfl) (by decide) rfl rfl rfl ?_
  refine mm_at (pc' := 112) rfl ?_
  refine mm_aastT (q := 4) (m := 6) (i := 1) (t' := 60) dX8_init_112 ⟨(Nat.le_of_ble_eq_true rfl), sq_51.2⟩ (by decide) ⟨⟨(Nat.le_of_ble_eq_true rfl), so_57.2⟩, _, _, rfl⟩ (by decide +kernel) (by decide +kernel) rfl ?_
  refine mm_iincN (ls' := [(1, .int (nI 2)), (0, .ref 1)]) 0 1 1 dX8_init_113 rfl (by decide) (by decide) rfl ?_
  refine mm_goto (tgt := 91) dX8_init_116 (by decide) ?_
  refine mm_iload_n 0 dX8_init_91 rfl rfl ?_
  refine mm_aload_n 1 dX8_init_92 rfl rfl ?_
  refine mm_getr (b := 51) dX8_init_93 rfl fk_X8_45 rfl ⟨(Nat.le_of_ble_eq_true rfl), so_1.2⟩ (by decide +kernel) ?_
  refine mm_alenR (q := 4) (n := 6) dX8_init_96 ⟨(Nat.le_of_ble_eq_true rfl), sq_51.2⟩ ?_
  refine mm_icmp_geN 2 6 (tgt := 119) dX8_init_97 (by decide) (by decide) (by decide) (fun c => absurd c (by decide)) (fun _ => ?_)
  refine mm_at (pc' := 100) rfl ?_
  refine mm_aload_n 1 dX8_init_100 rfl rfl ?_
  refine mm_getr (b := 51) dX8_init_101 rfl fk_X8_45 rfl ⟨(Nat.le_of_ble_eq_true rfl), so_1.2⟩ (by decide +kernel) ?_
  refine mm_iload_n 0 dX8_init_104 rfl rfl ?_
  refine mm_newT (ci := 4) (C := RX4) (T := TX4) (n' := 63) (Al' := (61, 1372)) dX8_init_105 rfl rfl mm_wX4 mm_tX4 cn_X8_43 mm_iX4 mm_dX4 (by decide) (by decide) rfl rfl so_62.2 (by decide +kernel) (fun k => by rw [mm_up_a (by decide), im_X1_48_a (by decide), im_X1_45_a (by decide), im_X1_42_a (by decide), im_X1_39_a (by decide), im_X1_36_a (by decide), im_X3_17_a (by decide), im_X0_2_a (by decide)]; exact hz 62 (by decide) k) rfl rfl ?_
  refine mm_dup dX8_init_108 rfl ?_
  refine mm_callI0 (dz := d - 1) (Mz := (4, 220)) (Al' := (65, 1592)) dX8_init_109 rfl mzX4_init ml_X8_49 imX4_init ⟨rfl, rfl⟩ (by omega) (ini_X4_62 (by omega) (fun x hx k => by rw [mm_up_a (by omega), im_X1_48_a (by omega), im_X1_45_a (by omega), im_X1_42_a (by omega), im_X1_39_a (by omega), im_X1_36_a (by omega), im_X3_17_a (by omega), im_X0_2_a (by omega)]; exact hz x (by omega) k)) (Nat.le_of_ble_eq_true rfl) (by decide) rfl rfl rfl ?_
  refine mm_at (pc' := 112) rfl ?_
  refine mm_aastT (q := 4) (m := 6) (i := 2) (t' := 65) dX8_init_112 ⟨(Nat.le_of_ble_eq_true rfl), sq_51.2⟩ (by decide) ⟨⟨(Nat.le_of_ble_eq_true rfl), so_62.2⟩, _, _, rfl⟩ (by decide +kernel) (by decide +kernel) rfl ?_
  refine mm_iincN (ls' := [(1, .int (nI 3)), (0, .ref 1)]) 0 2 1 dX8_init_113 rfl (by decide) (by decide) rfl ?_
  refine mm_goto (tgt := 91) dX8_init_116 (by decide) ?_
  refine mm_iload_n 0 dX8_init_91 rfl rfl ?_
  refine mm_aload_n 1 dX8_init_92 rfl rfl ?_
  refine mm_getr (b := 51) dX8_init_93 rfl fk_X8_45 rfl ⟨(Nat.le_of_ble_eq_true rfl), so_1.2⟩ (by decide +kernel) ?_
  refine mm_alenR (q := 4) (n := 6) dX8_init_96 ⟨(Nat.le_of_ble_eq_true rfl), sq_51.2⟩ ?_
  refine mm_icmp_geN 3 6 (tgt := 119) dX8_init_97 (by decide) (by decide) (by decide) (fun c => absurd c (by decide)) (fun _ => ?_)
  refine mm_at (pc' := 100) rfl ?_
  refine mm_aload_n 1 dX8_init_100 rfl rfl ?_
  refine mm_getr (b := 51) dX8_init_101 rfl fk_X8_45 rfl ⟨(Nat.le_of_ble_eq_true rfl), so_1.2⟩ (by decide +kernel) ?_
  refine mm_iload_n 0 dX8_init_104 rfl rfl ?_
  refine mm_newT (ci := 4) (C := RX4) (T := TX4) (n' := 68) (Al' := (66, 1595)) dX8_init_105 rfl rfl mm_wX4 mm_tX4 cn_X8_43 mm_iX4 mm_dX4 (by decide) (by decide) rfl rfl so_67.2 (by decide +kernel) (fun k => by rw [mm_up_a (by decide), im_X1_48_a (by decide), im_X1_45_a (by decide), im_X1_42_a (by decide), im_X1_39_a (by decide), im_X1_36_a (by decide), im_X3_17_a (by decide), im_X0_2_a (by decide)]; exact hz 67 (by decide) k) rfl rfl ?_
  refine mm_dup dX8_init_108 rfl ?_
  refine mm_callI0 (dz := d - 1) (Mz := (4, 220)) (Al' := (70, 1815)) dX8_init_109 rfl mzX4_init ml_X8_49 imX4_init ⟨rfl, rfl⟩ (by omega) (ini_X4_67 (by omega) (fun x hx k => by rw [mm_up_a (by omega), im_X1_48_a (by omega), im_X1_45_a (by omega), im_X1_42_a (by omega), im_X1_39_a (by omega), im_X1_36_a (by omega), im_X3_17_a (by omega), im_X0_2_a (by omega)]; exact hz x (by omega) k)) (Nat.le_of_ble_eq_true rfl) (by decide) rfl rfl rfl ?_
  refine mm_at (pc' := 112) rfl ?_
  refine mm_aastT (q := 4) (m := 6) (i := 3) (t' := 70) dX8_init_112 ⟨(Nat.le_of_ble_eq_true rfl), sq_51.2⟩ (by decide) ⟨⟨(Nat.le_of_ble_eq_true rfl), so_67.2⟩, _, _, rfl⟩ (by decide +kernel) (by decide +kernel) rfl ?_
  refine mm_iincN (ls' := [(1, .int (nI 4)), (0, .ref 1)]) 0 3 1 dX8_init_113 rfl (by decide) (by decide) rfl ?_
  refine mm_goto (tgt := 91) dX8_init_116 (by decide) ?_
  refine mm_iload_n 0 dX8_init_91 rfl rfl ?_
  refine mm_aload_n 1 dX8_init_92 rfl rfl ?_
  refine mm_getr (b := 51) dX8_init_93 rfl fk_X8_45 rfl ⟨(Nat.le_of_ble_eq_true rfl), so_1.2⟩ (by decide +kernel) ?_
  refine mm_alenR (q := 4) (n := 6) dX8_init_96 ⟨(Nat.le_of_ble_eq_true rfl), sq_51.2⟩ ?_
  refine mm_icmp_geN 4 6 (tgt := 119) dX8_init_97 (by decide) (by decide) (by decide) (fun c => absurd c (by decide)) (fun _ => ?_)
  refine mm_at (pc' := 100) rfl ?_
  refine mm_aload_n 1 dX8_init_100 rfl rfl ?_
  refine mm_getr (b := 51) dX8_init_101 rfl fk_X8_45 rfl ⟨(Nat.le_of_ble_eq_true rfl), so_1.2⟩ (by decide +kernel) ?_
  refine mm_iload_n 0 dX8_init_104 rfl rfl ?_
  refine mm_newT (ci := 4) (C := RX4) (T := TX4) (n' := 73) (Al' := (71, 1818)) dX8_init_105 rfl rfl mm_wX4 mm_tX4 cn_X8_43 mm_iX4 mm_dX4 (by decide) (by decide) rfl rfl so_72.2 (by decide +kernel) (fun k => by rw [mm_up_a (by decide), im_X1_48_a (by decide), im_X1_45_a (by decide), im_X1_42_a (by decide), im_X1_39_a (by decide), im_X1_36_a (by decide), im_X3_17_a (by decide), im_X0_2_a (by decide)]; exact hz 72 (by decide) k) rfl rfl ?_
  refine mm_dup dX8_init_108 rfl ?_
  refine mm_callI0 (dz := d - 1) (Mz := (4, 220)) (Al' := (75, 2038)) dX8_init_109 rfl mzX4_init ml_X8_49 imX4_init ⟨rfl, rfl⟩ (by omega) (ini_X4_72 (by omega) (fun x hx k => by rw [mm_up_a (by omega), im_X1_48_a (by omega), im_X1_45_a (by omega), im_X1_42_a (by omega), im_X1_39_a (by omega), im_X1_36_a (by omega), im_X3_17_a (by omega), im_X0_2_a (by omega)]; exact hz x (by omega) k)) (Nat.le_of_ble_eq_true rfl) (by decide) rfl rfl rfl ?_
  refine mm_at (pc' := 112) rfl ?_
  refine mm_aastT (q := 4) (m := 6) (i := 4) (t' := 75) dX8_init_112 ⟨(Nat.le_of_ble_eq_true rfl), sq_51.2⟩ (by decide) ⟨⟨(Nat.le_of_ble_eq_true rfl), so_72.2⟩, _, _, rfl⟩ (by decide +kernel) (by decide +kernel) rfl ?_
  refine mm_iincN (ls' := [(1, .int (nI 5)), (0, .ref 1)]) 0 4 1 dX8_init_113 rfl (by decide) (by decide) rfl ?_
  refine mm_goto (tgt := 91) dX8_init_116 (by decide) ?_
  refine mm_iload_n 0 dX8_init_91 rfl rfl ?_
  refine mm_aload_n 1 dX8_init_92 rfl rfl ?_
  refine mm_getr (b := 51) dX8_init_93 rfl fk_X8_45 rfl ⟨(Nat.le_of_ble_eq_true rfl), so_1.2⟩ (by decide +kernel) ?_
  refine mm_alenR (q := 4) (n := 6) dX8_init_96 ⟨(Nat.le_of_ble_eq_true rfl), sq_51.2⟩ ?_
  refine mm_icmp_geN 5 6 (tgt := 119) dX8_init_97 (by decide) (by decide) (by decide) (fun c => absurd c (by decide)) (fun _ => ?_)
  refine mm_at (pc' := 100) rfl ?_
  refine mm_aload_n 1 dX8_init_100 rfl rfl ?_
  refine mm_getr (b := 51) dX8_init_101 rfl fk_X8_45 rfl ⟨(Nat.le_of_ble_eq_true rfl), so_1.2⟩ (by decide +kernel) ?_
  refine mm_iload_n 0 dX8_init_104 rfl rfl ?_
  refine mm_newT (ci := 4) (C := RX4) (T := TX4) (n' := 78) (Al' := (76, 2041)) dX8_init_105 rfl rfl mm_wX4 mm_tX4 cn_X8_43 mm_iX4 mm_dX4 (by decide) (by decide) rfl rfl so_77.2 (by decide +kernel) (fun k => by rw [mm_up_a (by decide), im_X1_48_a (by decide), im_X1_45_a (by decide), im_X1_42_a (by decide), im_X1_39_a (by decide), im_X1_36_a (by decide), im_X3_17_a (by decide), im_X0_2_a (by decide)]; exact hz 77 (by decide) k) rfl rfl ?_
  refine mm_dup dX8_init_108 rfl ?_
  refine mm_callI0 (dz := d - 1) (Mz := (4, 220)) (Al' := (80, 2261)) dX8_init_109 rfl mzX4_init ml_X8_49 imX4_init ⟨rfl, rfl⟩ (by omega) (ini_X4_77 (by omega) (fun x hx k => by rw [mm_up_a (by omega), im_X1_48_a (by omega), im_X1_45_a (by omega), im_X1_42_a (by omega), im_X1_39_a (by omega), im_X1_36_a (by omega), im_X3_17_a (by omega), im_X0_2_a (by omega)]; exact hz x (by omega) k)) (Nat.le_of_ble_eq_true rfl) (by decide) rfl rfl rfl ?_
  refine mm_at (pc' := 112) rfl ?_
  refine mm_aastT (q := 4) (m := 6) (i := 5) (t' := 80) dX8_init_112 ⟨(Nat.le_of_ble_eq_true rfl), sq_51.2⟩ (by decide) ⟨⟨(Nat.le_of_ble_eq_true rfl), so_77.2⟩, _, _, rfl⟩ (by decide +kernel) (by decide +kernel) rfl ?_
  refine mm_iincN (ls' := [(1, .int (nI 6)), (0, .ref 1)]) 0 5 1 dX8_init_113 rfl (by decide) (by decide) rfl ?_
  refine mm_goto (tgt := 91) dX8_init_116 (by decide) ?_
  refine mm_iload_n 0 dX8_init_91 rfl rfl ?_
  refine mm_aload_n 1 dX8_init_92 rfl rfl ?_
  refine mm_getr (b := 51) dX8_init_93 rfl fk_X8_45 rfl ⟨(Nat.le_of_ble_eq_true rfl), so_1.2⟩ (by decide +kernel) ?_
  refine mm_alenR (q := 4) (n := 6) dX8_init_96 ⟨(Nat.le_of_ble_eq_true rfl), sq_51.2⟩ ?_
  refine mm_icmp_geN 6 6 (tgt := 119) dX8_init_97 (by decide) (by decide) (by decide) (fun _ => ?_) (fun c => absurd c (by decide))
  refine mm_aload_n 1 dX8_init_119 rfl rfl ?_
  refine mm_newT (ci := 5) (C := RX5) (T := TX5) (n' := 83) (Al' := (81, 2263)) dX8_init_120 rfl rfl mm_wX5 mm_tX5 cn_X8_50 mm_iX5 mm_dX5 (by decide) (by decide) rfl rfl so_82.2 (by decide +kernel) (fun k => by rw [mm_up_a (by decide), im_X1_48_a (by decide), im_X1_45_a (by decide), im_X1_42_a (by decide), im_X1_39_a (by decide), im_X1_36_a (by decide), im_X3_17_a (by decide), im_X0_2_a (by decide)]; exact hz 82 (by decide) k) rfl rfl ?_
  refine mm_dup dX8_init_123 rfl ?_
  refine mm_bipush (v := nI 36) dX8_init_124 (by decide) ?_
  refine mm_callI1 (dz := d - 1) (Mz := (1, 36)) (Al' := (82, 2299)) dX8_init_126 rfl mzX5_init ml_X8_52 imX5_init ⟨rfl, rfl⟩ (by omega) (ini_X5 (a := 82) (t := 80) (t' := 81) (m := 36) (n1 := 83) (n2 := 84) (by omega) (fun x hx k => by rw [mm_up_a (by omega), im_X1_48_a (by omega), im_X1_45_a (by omega), im_X1_42_a (by omega), im_X1_39_a (by omega), im_X1_36_a (by omega), im_X3_17_a (by omega), im_X0_2_a (by omega)]; exact hz x (by omega) k) (by decide) (by decide) rfl rfl rfl so_82.2 sa_83.2 (by decide +kernel) (by decide +kernel) (by decide +kernel)) (Nat.le_of_ble_eq_true rfl) (by decide) rfl rfl rfl ?_
  refine mm_at (pc' := 129) rfl ?_
  refine mm_putrT (t' := 82) dX8_init_129 rfl rfl fk_X8_55 (fun C T N h => by cases h; exact ⟨rfl, rfl⟩) rfl ⟨(Nat.le_of_ble_eq_true rfl), so_1.2⟩ (Or.inl (Nat.le_of_ble_eq_true rfl)) (by decide +kernel) (by decide +kernel) rfl ?_
  refine mm_aload_n 1 dX8_init_132 rfl rfl ?_
  refine mm_newT (ci := 5) (C := RX5) (T := TX5) (n' := 85) (Al' := (83, 2301)) dX8_init_133 rfl rfl mm_wX5 mm_tX5 cn_X8_50 mm_iX5 mm_dX5 (by decide) (by decide) rfl rfl so_84.2 (by decide +kernel) (fun k => by rw [mm_up_a (by decide), im_X1_48_a (by decide), im_X1_45_a (by decide), im_X1_42_a (by decide), im_X1_39_a (by decide), im_X1_36_a (by decide), im_X3_17_a (by decide), im_X0_2_a (by decide)]; exact hz 84 (by decide) k) rfl rfl ?_
  refine mm_dup dX8_init_136 rfl ?_
  refine mm_sipush (v := nI 300) dX8_init_137 (by decide) ?_
  refine mm_callI1 (dz := d - 1) (Mz := (1, 300)) (Al' := (84, 2601)) dX8_init_140 rfl mzX5_init ml_X8_52 imX5_init ⟨rfl, rfl⟩ (by omega) (ini_X5 (a := 84) (t := 82) (t' := 83) (m := 300) (n1 := 85) (n2 := 86) (by omega) (fun x hx k => by rw [mm_up_a (by omega), im_X1_48_a (by omega), im_X1_45_a (by omega), im_X1_42_a (by omega), im_X1_39_a (by omega), im_X1_36_a (by omega), im_X3_17_a (by omega), im_X0_2_a (by omega)]; exact hz x (by omega) k) (by decide) (by decide) rfl rfl rfl so_84.2 sa_85.2 (by decide +kernel) (by decide +kernel) (by decide +kernel)) (Nat.le_of_ble_eq_true rfl) (by decide) rfl rfl rfl ?_
  refine mm_at (pc' := 143) rfl ?_
  refine mm_putrT (t' := 84) dX8_init_143 rfl rfl fk_X8_59 (fun C T N h => by cases h; exact ⟨rfl, rfl⟩) rfl ⟨(Nat.le_of_ble_eq_true rfl), so_1.2⟩ (Or.inl (Nat.le_of_ble_eq_true rfl)) (by decide +kernel) (by decide +kernel) rfl ?_
  exact mm_vret dX8_init_146 rfl (by decide) ⟨rfl, rfl, rfl⟩
def im_X0_begin_87 (I : mm_I) : mm_I := mm_up (mm_up (rw_fl (mm_up (rw_fl (mm_up (rw_fl (mm_up (mm_up (rw_fl (mm_up (mm_up (rw_fl (mm_up (mm_up (mm_up (I) 87 0 (nI 6)) 87 1 (nI 4)) 88 1 (nI 24)) 89 (nI 0) 24) 89 0 (nI 4)) 90 1 (nI 24)) 91 (nI 20) 24) 91 0 (nI 0)) 92 1 (nI 24)) 93 (nI 0) 24) 94 1 (nI 96)) 95 (-1) 96) 96 1 (nI 3)) 97 (nI 0) 3) 87 7 (nI 0)) 87 8 (nI 0)
theorem im_X0_begin_87_a {I : mm_I} {x : Nat} (h : 102 ≤ x) : im_X0_begin_87 I x = I x := by unfold im_X0_begin_87; rw [mm_up_a (by omega), mm_up_a (by omega), rw_fl_na (by omega), mm_up_a (by omega), rw_fl_na (by omega), mm_up_a (by omega), rw_fl_na (by omega), mm_up_a (by omega), mm_up_a (by omega), rw_fl_na (by omega), mm_up_a (by omega), mm_up_a (by omega), rw_fl_na (by omega), mm_up_a (by omega), mm_up_a (by omega), mm_up_a (by omega)]
set_option maxRecDepth 100000 in
set_option maxHeartbeats 4000000 in
theorem ini_X0_begin_87 {g : mm_G} {d : Nat} {I : mm_I} (hd : 5 ≤ d) : mm_Cv g zX0_begin d [.ref 87, .int (nI 6), .int (nI 4)] (shT 102 99) I (im_X0_begin_87 I) := by
  refine mm_begin (ls := [(0, .ref 87), (1, .int (nI 6)), (2, .int (nI 4))]) (Nat.le_of_ble_eq_true rfl) rfl rfl ?_
  refine mm_aload_n 0 dX0_begin_0 rfl rfl ?_
  refine mm_iload_n 1 dX0_begin_1 rfl rfl ?_
  refine mm_puti dX0_begin_2 rfl fk_X0_42 rfl fv_0_0 ⟨(Nat.le_of_ble_eq_true rfl), so_87.2⟩ ?_
  refine mm_aload_n 0 dX0_begin_5 rfl rfl ?_
  refine mm_iload_n 2 dX0_begin_6 rfl rfl ?_
  refine mm_puti dX0_begin_7 rfl fk_X0_46 rfl fv_0_1 ⟨(Nat.le_of_ble_eq_true rfl), so_87.2⟩ ?_
  refine mm_aload_n 0 dX0_begin_10 rfl rfl ?_
  refine mm_getr (b := 88) dX0_begin_11 rfl fk_X0_14 rfl ⟨(Nat.le_of_ble_eq_true rfl), so_87.2⟩ (by decide +kernel) ?_
  refine mm_aload_n 0 dX0_begin_14 rfl rfl ?_
  refine mm_cV0i (dz := d - 1) dX0_begin_15 rfl mzX0_cells ml_X0_49 imX0_cells (by omega) ⟨(Nat.le_of_ble_eq_true rfl), so_87.2⟩ ⟨rfl, rfl⟩ (ini_cells ⟨(Nat.le_of_ble_eq_true rfl), so_87.2⟩ (by rw [mm_up_nx (by decide)]; exact mm_up_at) (by exact mm_up_at)) (Nat.le_of_ble_eq_true rfl) (by decide) ?_
  refine mm_at (pc' := 18) rfl ?_
  refine mm_iconst (v := nI 0) dX0_begin_18 (by decide) ?_
  refine mm_cV2v (dz := d - 1) dX0_begin_19 rfl mzX5_fill ml_X0_53 imX5_fill (by omega) ⟨(Nat.le_of_ble_eq_true rfl), so_88.2⟩ ⟨rfl, rfl⟩ (ct_fill (S := shT 102 99) (d := d - 1) (show rw_is (shT 102 99) 88 80 from ⟨⟨(Nat.le_of_ble_eq_true rfl), so_88.2⟩, (by decide +kernel), ⟨(Nat.le_of_ble_eq_true rfl), sa_89.2⟩, by decide⟩) 24 (by decide) (by omega)) (Nat.le_of_ble_eq_true rfl) (by decide) ?_
  refine mm_at (pc' := 22) rfl ?_
  refine mm_aload_n 0 dX0_begin_22 rfl rfl ?_
  refine mm_getr (b := 88) dX0_begin_23 rfl fk_X0_14 rfl ⟨(Nat.le_of_ble_eq_true rfl), so_87.2⟩ (by decide +kernel) ?_
  refine mm_iconst (v := nI 0) dX0_begin_26 (by decide) ?_
  refine mm_iconst (v := nI 4) dX0_begin_27 (by decide) ?_
  refine mm_cV2v (dz := d - 1) dX0_begin_28 rfl mzX5_set ml_X0_56 imX5_set (by omega) ⟨(Nat.le_of_ble_eq_true rfl), so_88.2⟩ ⟨rfl, rfl⟩ (ct_set (S := shT 102 99) (d := d - 1) (show rw_is (shT 102 99) 88 80 from ⟨⟨(Nat.le_of_ble_eq_true rfl), so_88.2⟩, (by decide +kernel), ⟨(Nat.le_of_ble_eq_true rfl), sa_89.2⟩, by decide⟩) 0 (by decide)) (Nat.le_of_ble_eq_true rfl) (by decide) ?_
  refine mm_at (pc' := 31) rfl ?_
  refine mm_aload_n 0 dX0_begin_31 rfl rfl ?_
  refine mm_getr (b := 90) dX0_begin_32 rfl fk_X0_20 rfl ⟨(Nat.le_of_ble_eq_true rfl), so_87.2⟩ (by decide +kernel) ?_
  refine mm_aload_n 0 dX0_begin_35 rfl rfl ?_
  refine mm_cV0i (dz := d - 1) dX0_begin_36 rfl mzX0_cells ml_X0_49 imX0_cells (by omega) ⟨(Nat.le_of_ble_eq_true rfl), so_87.2⟩ ⟨rfl, rfl⟩ (ini_cells ⟨(Nat.le_of_ble_eq_true rfl), so_87.2⟩ (by rw [mm_up_nx (by decide), rw_fl_ne (by decide), mm_up_nx (by decide), mm_up_nx (by decide)]; exact mm_up_at) (by rw [mm_up_nx (by decide), rw_fl_ne (by decide), mm_up_nx (by decide)]; exact mm_up_at)) (Nat.le_of_ble_eq_true rfl) (by decide) ?_
  refine mm_at (pc' := 39) rfl ?_
  refine mm_bipush (v := nI 20) dX0_begin_39 (by decide) ?_
  refine mm_cV2v (dz := d - 1) dX0_begin_41 rfl mzX5_fill ml_X0_53 imX5_fill (by omega) ⟨(Nat.le_of_ble_eq_true rfl), so_90.2⟩ ⟨rfl, rfl⟩ (ct_fill (S := shT 102 99) (d := d - 1) (show rw_is (shT 102 99) 90 80 from ⟨⟨(Nat.le_of_ble_eq_true rfl), so_90.2⟩, (by decide +kernel), ⟨(Nat.le_of_ble_eq_true rfl), sa_91.2⟩, by decide⟩) 24 (by decide) (by omega)) (Nat.le_of_ble_eq_true rfl) (by decide) ?_
  refine mm_at (pc' := 44) rfl ?_
  refine mm_aload_n 0 dX0_begin_44 rfl rfl ?_
  refine mm_getr (b := 90) dX0_begin_45 rfl fk_X0_20 rfl ⟨(Nat.le_of_ble_eq_true rfl), so_87.2⟩ (by decide +kernel) ?_
  refine mm_iconst (v := nI 0) dX0_begin_48 (by decide) ?_
  refine mm_iconst (v := nI 0) dX0_begin_49 (by decide) ?_
  refine mm_cV2v (dz := d - 1) dX0_begin_50 rfl mzX5_set ml_X0_56 imX5_set (by omega) ⟨(Nat.le_of_ble_eq_true rfl), so_90.2⟩ ⟨rfl, rfl⟩ (ct_set (S := shT 102 99) (d := d - 1) (show rw_is (shT 102 99) 90 80 from ⟨⟨(Nat.le_of_ble_eq_true rfl), so_90.2⟩, (by decide +kernel), ⟨(Nat.le_of_ble_eq_true rfl), sa_91.2⟩, by decide⟩) 0 (by decide)) (Nat.le_of_ble_eq_true rfl) (by decide) ?_
  refine mm_at (pc' := 53) rfl ?_
  refine mm_aload_n 0 dX0_begin_53 rfl rfl ?_
  refine mm_getr (b := 92) dX0_begin_54 rfl fk_X0_23 rfl ⟨(Nat.le_of_ble_eq_true rfl), so_87.2⟩ (by decide +kernel) ?_
  refine mm_aload_n 0 dX0_begin_57 rfl rfl ?_
  refine mm_cV0i (dz := d - 1) dX0_begin_58 rfl mzX0_cells ml_X0_49 imX0_cells (by omega) ⟨(Nat.le_of_ble_eq_true rfl), so_87.2⟩ ⟨rfl, rfl⟩ (ini_cells ⟨(Nat.le_of_ble_eq_true rfl), so_87.2⟩ (by rw [mm_up_nx (by decide), rw_fl_ne (by decide), mm_up_nx (by decide), mm_up_nx (by decide), rw_fl_ne (by decide), mm_up_nx (by decide), mm_up_nx (by decide)]; exact mm_up_at) (by rw [mm_up_nx (by decide), rw_fl_ne (by decide), mm_up_nx (by decide), mm_up_nx (by decide), rw_fl_ne (by decide), mm_up_nx (by decide)]; exact mm_up_at)) (Nat.le_of_ble_eq_true rfl) (by decide) ?_
  refine mm_at (pc' := 61) rfl ?_
  refine mm_iconst (v := nI 0) dX0_begin_61 (by decide) ?_
  refine mm_cV2v (dz := d - 1) dX0_begin_62 rfl mzX5_fill ml_X0_53 imX5_fill (by omega) ⟨(Nat.le_of_ble_eq_true rfl), so_92.2⟩ ⟨rfl, rfl⟩ (ct_fill (S := shT 102 99) (d := d - 1) (show rw_is (shT 102 99) 92 80 from ⟨⟨(Nat.le_of_ble_eq_true rfl), so_92.2⟩, (by decide +kernel), ⟨(Nat.le_of_ble_eq_true rfl), sa_93.2⟩, by decide⟩) 24 (by decide) (by omega)) (Nat.le_of_ble_eq_true rfl) (by decide) ?_
  refine mm_at (pc' := 65) rfl ?_
  refine mm_aload_n 0 dX0_begin_65 rfl rfl ?_
  refine mm_getr (b := 94) dX0_begin_66 rfl fk_X0_26 rfl ⟨(Nat.le_of_ble_eq_true rfl), so_87.2⟩ (by decide +kernel) ?_
  refine mm_iconst (v := nI 4) dX0_begin_69 (by decide) ?_
  refine mm_aload_n 0 dX0_begin_70 rfl rfl ?_
  refine mm_cV0i (dz := d - 1) dX0_begin_71 rfl mzX0_cells ml_X0_49 imX0_cells (by omega) ⟨(Nat.le_of_ble_eq_true rfl), so_87.2⟩ ⟨rfl, rfl⟩ (ini_cells ⟨(Nat.le_of_ble_eq_true rfl), so_87.2⟩ (by rw [rw_fl_ne (by decide), mm_up_nx (by decide), mm_up_nx (by decide), rw_fl_ne (by decide), mm_up_nx (by decide), mm_up_nx (by decide), rw_fl_ne (by decide), mm_up_nx (by decide), mm_up_nx (by decide)]; exact mm_up_at) (by rw [rw_fl_ne (by decide), mm_up_nx (by decide), mm_up_nx (by decide), rw_fl_ne (by decide), mm_up_nx (by decide), mm_up_nx (by decide), rw_fl_ne (by decide), mm_up_nx (by decide)]; exact mm_up_at)) (Nat.le_of_ble_eq_true rfl) (by decide) ?_
  refine mm_at (pc' := 74) rfl ?_
  refine mm_imulN 4 24 dX0_begin_74 ?_
  refine mm_as (st' := [.int (nI 96), .ref 94]) rfl ?_
  refine mm_iconst (v := -1) dX0_begin_75 (by decide) ?_
  refine mm_cV2v (dz := d - 1) dX0_begin_76 rfl mzX5_fill ml_X0_53 imX5_fill (by omega) ⟨(Nat.le_of_ble_eq_true rfl), so_94.2⟩ ⟨rfl, rfl⟩ (ct_fill (S := shT 102 99) (d := d - 1) (show rw_is (shT 102 99) 94 320 from ⟨⟨(Nat.le_of_ble_eq_true rfl), so_94.2⟩, (by decide +kernel), ⟨(Nat.le_of_ble_eq_true rfl), sa_95.2⟩, by decide⟩) 96 (by decide) (by omega)) (Nat.le_of_ble_eq_true rfl) (by decide) ?_
  refine mm_at (pc' := 79) rfl ?_
  refine mm_aload_n 0 dX0_begin_79 rfl rfl ?_
  refine mm_getr (b := 96) dX0_begin_80 rfl fk_X0_29 rfl ⟨(Nat.le_of_ble_eq_true rfl), so_87.2⟩ (by decide +kernel) ?_
  refine mm_iconst (v := nI 3) dX0_begin_83 (by decide) ?_
  refine mm_iconst (v := nI 0) dX0_begin_84 (by decide) ?_
  refine mm_cV2v (dz := d - 1) dX0_begin_85 rfl mzX5_fill ml_X0_53 imX5_fill (by omega) ⟨(Nat.le_of_ble_eq_true rfl), so_96.2⟩ ⟨rfl, rfl⟩ (ct_fill (S := shT 102 99) (d := d - 1) (show rw_is (shT 102 99) 96 3 from ⟨⟨(Nat.le_of_ble_eq_true rfl), so_96.2⟩, (by decide +kernel), ⟨(Nat.le_of_ble_eq_true rfl), sa_97.2⟩, by decide⟩) 3 (by decide) (by omega)) (Nat.le_of_ble_eq_true rfl) (by decide) ?_
  refine mm_at (pc' := 88) rfl ?_
  refine mm_aload_n 0 dX0_begin_88 rfl rfl ?_
  refine mm_iconst (v := nI 0) dX0_begin_89 (by decide) ?_
  refine mm_puti dX0_begin_90 rfl fk_X0_59 rfl fv_0_7 ⟨(Nat.le_of_ble_eq_true rfl), so_87.2⟩ ?_
  refine mm_aload_n 0 dX0_begin_93 rfl rfl ?_
  refine mm_iconst (v := nI 0) dX0_begin_94 (by decide) ?_
  refine mm_puti dX0_begin_95 rfl fk_X0_62 rfl fv_0_8 ⟨(Nat.le_of_ble_eq_true rfl), so_87.2⟩ ?_
  exact mm_vret dX0_begin_98 rfl (by decide) ⟨rfl, rfl, rfl⟩
def im_X0_87 (I : mm_I) : mm_I := im_X0_begin_87 (I)
theorem im_X0_87_a {I : mm_I} {x : Nat} (h : 102 ≤ x) : im_X0_87 I x = I x := by unfold im_X0_87; rw [im_X0_begin_87_a (by omega)]
set_option maxRecDepth 100000 in
set_option maxHeartbeats 4000000 in
theorem ini_X0_87 {g : mm_G} {d : Nat} {I : mm_I} (hd : 6 ≤ d) (hz : ∀ x, 87 ≤ x → ∀ k, I x k = 0) : mm_Ct g zX0_init d (14, 737) [.ref 87] (shT 88 85) I (fun r S' I' => r = none ∧ S' = shT 102 99 ∧ I' = im_X0_87 I) := by
  refine mm_begin (ls := [(0, .ref 87)]) (Nat.le_of_ble_eq_true rfl) rfl rfl ?_
  refine mm_aload_n 0 dX0_init_0 rfl rfl ?_
  refine mm_obj dX0_init_1 rfl ml_X0_3 jm_obj (by omega) (Nat.le_of_ble_eq_true rfl) ?_
  refine mm_at (pc' := 4) rfl ?_
  refine mm_aload_n 0 dX0_init_4 rfl rfl ?_
  refine mm_newT (ci := 5) (C := RX5) (T := TX5) (n' := 89) (Al' := (1, 2)) dX0_init_5 rfl rfl mm_wX5 mm_tX5 cn_X0_9 mm_iX5 mm_dX5 (by decide) (by decide) rfl rfl so_88.2 (by decide +kernel) (hz 88 (by decide)) rfl rfl ?_
  refine mm_dup dX0_init_8 rfl ?_
  refine mm_bipush (v := nI 80) dX0_init_9 (by decide) ?_
  refine mm_callI1 (dz := d - 1) (Mz := (1, 80)) (Al' := (2, 82)) dX0_init_11 rfl mzX5_init ml_X0_11 imX5_init ⟨rfl, rfl⟩ (by omega) (ini_X5 (a := 88) (t := 85) (t' := 86) (m := 80) (n1 := 89) (n2 := 90) (by omega) (fun x hx => hz x (by omega)) (by decide) (by decide) rfl rfl rfl so_88.2 sa_89.2 (by decide +kernel) (by decide +kernel) (by decide +kernel)) (Nat.le_of_ble_eq_true rfl) (by decide) rfl rfl rfl ?_
  refine mm_at (pc' := 14) rfl ?_
  refine mm_putrT (t' := 87) dX0_init_14 rfl rfl fk_X0_14 (fun C T N h => by cases h; exact ⟨rfl, rfl⟩) rfl ⟨(Nat.le_of_ble_eq_true rfl), so_87.2⟩ (Or.inl (Nat.le_of_ble_eq_true rfl)) (by decide +kernel) (by decide +kernel) rfl ?_
  refine mm_aload_n 0 dX0_init_17 rfl rfl ?_
  refine mm_newT (ci := 5) (C := RX5) (T := TX5) (n' := 91) (Al' := (3, 84)) dX0_init_18 rfl rfl mm_wX5 mm_tX5 cn_X0_9 mm_iX5 mm_dX5 (by decide) (by decide) rfl rfl so_90.2 (by decide +kernel) (hz 90 (by decide)) rfl rfl ?_
  refine mm_dup dX0_init_21 rfl ?_
  refine mm_bipush (v := nI 80) dX0_init_22 (by decide) ?_
  refine mm_callI1 (dz := d - 1) (Mz := (1, 80)) (Al' := (4, 164)) dX0_init_24 rfl mzX5_init ml_X0_11 imX5_init ⟨rfl, rfl⟩ (by omega) (ini_X5 (a := 90) (t := 87) (t' := 88) (m := 80) (n1 := 91) (n2 := 92) (by omega) (fun x hx => hz x (by omega)) (by decide) (by decide) rfl rfl rfl so_90.2 sa_91.2 (by decide +kernel) (by decide +kernel) (by decide +kernel)) (Nat.le_of_ble_eq_true rfl) (by decide) rfl rfl rfl ?_
  refine mm_at (pc' := 27) rfl ?_
  refine mm_putrT (t' := 89) dX0_init_27 rfl rfl fk_X0_20 (fun C T N h => by cases h; exact ⟨rfl, rfl⟩) rfl ⟨(Nat.le_of_ble_eq_true rfl), so_87.2⟩ (Or.inl (Nat.le_of_ble_eq_true rfl)) (by decide +kernel) (by decide +kernel) rfl ?_
  refine mm_aload_n 0 dX0_init_30 rfl rfl ?_
  refine mm_newT (ci := 5) (C := RX5) (T := TX5) (n' := 93) (Al' := (5, 166)) dX0_init_31 rfl rfl mm_wX5 mm_tX5 cn_X0_9 mm_iX5 mm_dX5 (by decide) (by decide) rfl rfl so_92.2 (by decide +kernel) (hz 92 (by decide)) rfl rfl ?_
  refine mm_dup dX0_init_34 rfl ?_
  refine mm_bipush (v := nI 80) dX0_init_35 (by decide) ?_
  refine mm_callI1 (dz := d - 1) (Mz := (1, 80)) (Al' := (6, 246)) dX0_init_37 rfl mzX5_init ml_X0_11 imX5_init ⟨rfl, rfl⟩ (by omega) (ini_X5 (a := 92) (t := 89) (t' := 90) (m := 80) (n1 := 93) (n2 := 94) (by omega) (fun x hx => hz x (by omega)) (by decide) (by decide) rfl rfl rfl so_92.2 sa_93.2 (by decide +kernel) (by decide +kernel) (by decide +kernel)) (Nat.le_of_ble_eq_true rfl) (by decide) rfl rfl rfl ?_
  refine mm_at (pc' := 40) rfl ?_
  refine mm_putrT (t' := 91) dX0_init_40 rfl rfl fk_X0_23 (fun C T N h => by cases h; exact ⟨rfl, rfl⟩) rfl ⟨(Nat.le_of_ble_eq_true rfl), so_87.2⟩ (Or.inl (Nat.le_of_ble_eq_true rfl)) (by decide +kernel) (by decide +kernel) rfl ?_
  refine mm_aload_n 0 dX0_init_43 rfl rfl ?_
  refine mm_newT (ci := 5) (C := RX5) (T := TX5) (n' := 95) (Al' := (7, 248)) dX0_init_44 rfl rfl mm_wX5 mm_tX5 cn_X0_9 mm_iX5 mm_dX5 (by decide) (by decide) rfl rfl so_94.2 (by decide +kernel) (hz 94 (by decide)) rfl rfl ?_
  refine mm_dup dX0_init_47 rfl ?_
  refine mm_sipush (v := nI 320) dX0_init_48 (by decide) ?_
  refine mm_callI1 (dz := d - 1) (Mz := (1, 320)) (Al' := (8, 568)) dX0_init_51 rfl mzX5_init ml_X0_11 imX5_init ⟨rfl, rfl⟩ (by omega) (ini_X5 (a := 94) (t := 91) (t' := 92) (m := 320) (n1 := 95) (n2 := 96) (by omega) (fun x hx => hz x (by omega)) (by decide) (by decide) rfl rfl rfl so_94.2 sa_95.2 (by decide +kernel) (by decide +kernel) (by decide +kernel)) (Nat.le_of_ble_eq_true rfl) (by decide) rfl rfl rfl ?_
  refine mm_at (pc' := 54) rfl ?_
  refine mm_putrT (t' := 93) dX0_init_54 rfl rfl fk_X0_26 (fun C T N h => by cases h; exact ⟨rfl, rfl⟩) rfl ⟨(Nat.le_of_ble_eq_true rfl), so_87.2⟩ (Or.inl (Nat.le_of_ble_eq_true rfl)) (by decide +kernel) (by decide +kernel) rfl ?_
  refine mm_aload_n 0 dX0_init_57 rfl rfl ?_
  refine mm_newT (ci := 5) (C := RX5) (T := TX5) (n' := 97) (Al' := (9, 570)) dX0_init_58 rfl rfl mm_wX5 mm_tX5 cn_X0_9 mm_iX5 mm_dX5 (by decide) (by decide) rfl rfl so_96.2 (by decide +kernel) (hz 96 (by decide)) rfl rfl ?_
  refine mm_dup dX0_init_61 rfl ?_
  refine mm_iconst (v := nI 3) dX0_init_62 (by decide) ?_
  refine mm_callI1 (dz := d - 1) (Mz := (1, 3)) (Al' := (10, 573)) dX0_init_63 rfl mzX5_init ml_X0_11 imX5_init ⟨rfl, rfl⟩ (by omega) (ini_X5 (a := 96) (t := 93) (t' := 94) (m := 3) (n1 := 97) (n2 := 98) (by omega) (fun x hx => hz x (by omega)) (by decide) (by decide) rfl rfl rfl so_96.2 sa_97.2 (by decide +kernel) (by decide +kernel) (by decide +kernel)) (Nat.le_of_ble_eq_true rfl) (by decide) rfl rfl rfl ?_
  refine mm_at (pc' := 66) rfl ?_
  refine mm_putrT (t' := 95) dX0_init_66 rfl rfl fk_X0_29 (fun C T N h => by cases h; exact ⟨rfl, rfl⟩) rfl ⟨(Nat.le_of_ble_eq_true rfl), so_87.2⟩ (Or.inl (Nat.le_of_ble_eq_true rfl)) (by decide +kernel) (by decide +kernel) rfl ?_
  refine mm_aload_n 0 dX0_init_69 rfl rfl ?_
  refine mm_newT (ci := 5) (C := RX5) (T := TX5) (n' := 99) (Al' := (11, 575)) dX0_init_70 rfl rfl mm_wX5 mm_tX5 cn_X0_9 mm_iX5 mm_dX5 (by decide) (by decide) rfl rfl so_98.2 (by decide +kernel) (hz 98 (by decide)) rfl rfl ?_
  refine mm_dup dX0_init_73 rfl ?_
  refine mm_bipush (v := nI 80) dX0_init_74 (by decide) ?_
  refine mm_callI1 (dz := d - 1) (Mz := (1, 80)) (Al' := (12, 655)) dX0_init_76 rfl mzX5_init ml_X0_11 imX5_init ⟨rfl, rfl⟩ (by omega) (ini_X5 (a := 98) (t := 95) (t' := 96) (m := 80) (n1 := 99) (n2 := 100) (by omega) (fun x hx => hz x (by omega)) (by decide) (by decide) rfl rfl rfl so_98.2 sa_99.2 (by decide +kernel) (by decide +kernel) (by decide +kernel)) (Nat.le_of_ble_eq_true rfl) (by decide) rfl rfl rfl ?_
  refine mm_at (pc' := 79) rfl ?_
  refine mm_putrT (t' := 97) dX0_init_79 rfl rfl fk_X0_32 (fun C T N h => by cases h; exact ⟨rfl, rfl⟩) rfl ⟨(Nat.le_of_ble_eq_true rfl), so_87.2⟩ (Or.inl (Nat.le_of_ble_eq_true rfl)) (by decide +kernel) (by decide +kernel) rfl ?_
  refine mm_aload_n 0 dX0_init_82 rfl rfl ?_
  refine mm_newT (ci := 5) (C := RX5) (T := TX5) (n' := 101) (Al' := (13, 657)) dX0_init_83 rfl rfl mm_wX5 mm_tX5 cn_X0_9 mm_iX5 mm_dX5 (by decide) (by decide) rfl rfl so_100.2 (by decide +kernel) (hz 100 (by decide)) rfl rfl ?_
  refine mm_dup dX0_init_86 rfl ?_
  refine mm_bipush (v := nI 80) dX0_init_87 (by decide) ?_
  refine mm_callI1 (dz := d - 1) (Mz := (1, 80)) (Al' := (14, 737)) dX0_init_89 rfl mzX5_init ml_X0_11 imX5_init ⟨rfl, rfl⟩ (by omega) (ini_X5 (a := 100) (t := 97) (t' := 98) (m := 80) (n1 := 101) (n2 := 102) (by omega) (fun x hx => hz x (by omega)) (by decide) (by decide) rfl rfl rfl so_100.2 sa_101.2 (by decide +kernel) (by decide +kernel) (by decide +kernel)) (Nat.le_of_ble_eq_true rfl) (by decide) rfl rfl rfl ?_
  refine mm_at (pc' := 92) rfl ?_
  refine mm_putrT (t' := 99) dX0_init_92 rfl rfl fk_X0_35 (fun C T N h => by cases h; exact ⟨rfl, rfl⟩) rfl ⟨(Nat.le_of_ble_eq_true rfl), so_87.2⟩ (Or.inl (Nat.le_of_ble_eq_true rfl)) (by decide +kernel) (by decide +kernel) rfl ?_
  refine mm_aload_n 0 dX0_init_95 rfl rfl ?_
  refine mm_bipush (v := nI 6) dX0_init_96 (by decide) ?_
  refine mm_iconst (v := nI 4) dX0_init_98 (by decide) ?_
  refine mm_cV2v (dz := d - 1) dX0_init_99 rfl mzX0_begin ml_X0_38 imX0_begin (by omega) ⟨(Nat.le_of_ble_eq_true rfl), so_87.2⟩ ⟨rfl, rfl⟩ (ini_X0_begin_87 (by omega)) (Nat.le_of_ble_eq_true rfl) (by decide) ?_
  refine mm_at (pc' := 102) rfl ?_
  exact mm_vret dX0_init_102 rfl (by decide) ⟨rfl, rfl, rfl⟩
def im_X3_102 (I : mm_I) : mm_I := mm_up (mm_up (mm_up (mm_up (mm_up (mm_up (mm_up (mm_up (I) 102 0 (nI 0)) 102 1 (nI 14)) 102 2 (nI 14)) 102 3 (nI 100)) 102 4 (nI 10)) 102 5 (nI 3)) 102 6 (nI 0)) 102 7 (nI 0)
theorem im_X3_102_a {I : mm_I} {x : Nat} (h : 107 ≤ x) : im_X3_102 I x = I x := by unfold im_X3_102; rw [mm_up_a (by omega), mm_up_a (by omega), mm_up_a (by omega), mm_up_a (by omega), mm_up_a (by omega), mm_up_a (by omega), mm_up_a (by omega), mm_up_a (by omega)]
set_option maxRecDepth 100000 in
set_option maxHeartbeats 4000000 in
theorem ini_X3_102 {g : mm_G} {d : Nat} {I : mm_I} (hd : 4 ≤ d) (hz : ∀ x, 102 ≤ x → ∀ k, I x k = 0) : mm_Ct g zX3_init d (4, 20) [.ref 102] (shT 103 100) I (fun r S' I' => r = none ∧ S' = shT 107 104 ∧ I' = im_X3_102 I) := by
  refine mm_begin (ls := [(0, .ref 102)]) (Nat.le_of_ble_eq_true rfl) rfl rfl ?_
  refine mm_aload_n 0 dX3_init_0 rfl rfl ?_
  refine mm_obj dX3_init_1 rfl ml_X3_3 jm_obj (by omega) (Nat.le_of_ble_eq_true rfl) ?_
  refine mm_at (pc' := 4) rfl ?_
  refine mm_aload_n 0 dX3_init_4 rfl rfl ?_
  refine mm_newT (ci := 5) (C := RX5) (T := TX5) (n' := 104) (Al' := (1, 2)) dX3_init_5 rfl rfl mm_wX5 mm_tX5 cn_X3_9 mm_iX5 mm_dX5 (by decide) (by decide) rfl rfl so_103.2 (by decide +kernel) (hz 103 (by decide)) rfl rfl ?_
  refine mm_dup dX3_init_8 rfl ?_
  refine mm_bipush (v := nI 8) dX3_init_9 (by decide) ?_
  refine mm_callI1 (dz := d - 1) (Mz := (1, 8)) (Al' := (2, 10)) dX3_init_11 rfl mzX5_init ml_X3_11 imX5_init ⟨rfl, rfl⟩ (by omega) (ini_X5 (a := 103) (t := 100) (t' := 101) (m := 8) (n1 := 104) (n2 := 105) (by omega) (fun x hx => hz x (by omega)) (by decide) (by decide) rfl rfl rfl so_103.2 sa_104.2 (by decide +kernel) (by decide +kernel) (by decide +kernel)) (Nat.le_of_ble_eq_true rfl) (by decide) rfl rfl rfl ?_
  refine mm_at (pc' := 14) rfl ?_
  refine mm_putrT (t' := 102) dX3_init_14 rfl rfl fk_X3_14 (fun C T N h => by cases h; exact ⟨rfl, rfl⟩) rfl ⟨(Nat.le_of_ble_eq_true rfl), so_102.2⟩ (Or.inl (Nat.le_of_ble_eq_true rfl)) (by decide +kernel) (by decide +kernel) rfl ?_
  refine mm_aload_n 0 dX3_init_17 rfl rfl ?_
  refine mm_newT (ci := 5) (C := RX5) (T := TX5) (n' := 106) (Al' := (3, 12)) dX3_init_18 rfl rfl mm_wX5 mm_tX5 cn_X3_9 mm_iX5 mm_dX5 (by decide) (by decide) rfl rfl so_105.2 (by decide +kernel) (hz 105 (by decide)) rfl rfl ?_
  refine mm_dup dX3_init_21 rfl ?_
  refine mm_bipush (v := nI 8) dX3_init_22 (by decide) ?_
  refine mm_callI1 (dz := d - 1) (Mz := (1, 8)) (Al' := (4, 20)) dX3_init_24 rfl mzX5_init ml_X3_11 imX5_init ⟨rfl, rfl⟩ (by omega) (ini_X5 (a := 105) (t := 102) (t' := 103) (m := 8) (n1 := 106) (n2 := 107) (by omega) (fun x hx => hz x (by omega)) (by decide) (by decide) rfl rfl rfl so_105.2 sa_106.2 (by decide +kernel) (by decide +kernel) (by decide +kernel)) (Nat.le_of_ble_eq_true rfl) (by decide) rfl rfl rfl ?_
  refine mm_at (pc' := 27) rfl ?_
  refine mm_putrT (t' := 104) dX3_init_27 rfl rfl fk_X3_20 (fun C T N h => by cases h; exact ⟨rfl, rfl⟩) rfl ⟨(Nat.le_of_ble_eq_true rfl), so_102.2⟩ (Or.inl (Nat.le_of_ble_eq_true rfl)) (by decide +kernel) (by decide +kernel) rfl ?_
  refine mm_aload_n 0 dX3_init_30 rfl rfl ?_
  refine mm_iconst (v := nI 0) dX3_init_31 (by decide) ?_
  refine mm_puti dX3_init_32 rfl fk_X3_23 rfl fv_3_0 ⟨(Nat.le_of_ble_eq_true rfl), so_102.2⟩ ?_
  refine mm_aload_n 0 dX3_init_35 rfl rfl ?_
  refine mm_bipush (v := nI 14) dX3_init_36 (by decide) ?_
  refine mm_puti dX3_init_38 rfl fk_X3_27 rfl fv_3_1 ⟨(Nat.le_of_ble_eq_true rfl), so_102.2⟩ ?_
  refine mm_aload_n 0 dX3_init_41 rfl rfl ?_
  refine mm_bipush (v := nI 14) dX3_init_42 (by decide) ?_
  refine mm_puti dX3_init_44 rfl fk_X3_30 rfl fv_3_2 ⟨(Nat.le_of_ble_eq_true rfl), so_102.2⟩ ?_
  refine mm_aload_n 0 dX3_init_47 rfl rfl ?_
  refine mm_bipush (v := nI 100) dX3_init_48 (by decide) ?_
  refine mm_puti dX3_init_50 rfl fk_X3_33 rfl fv_3_3 ⟨(Nat.le_of_ble_eq_true rfl), so_102.2⟩ ?_
  refine mm_aload_n 0 dX3_init_53 rfl rfl ?_
  refine mm_bipush (v := nI 10) dX3_init_54 (by decide) ?_
  refine mm_puti dX3_init_56 rfl fk_X3_36 rfl fv_3_4 ⟨(Nat.le_of_ble_eq_true rfl), so_102.2⟩ ?_
  refine mm_aload_n 0 dX3_init_59 rfl rfl ?_
  refine mm_iconst (v := nI 3) dX3_init_60 (by decide) ?_
  refine mm_puti dX3_init_61 rfl fk_X3_39 rfl fv_3_5 ⟨(Nat.le_of_ble_eq_true rfl), so_102.2⟩ ?_
  refine mm_aload_n 0 dX3_init_64 rfl rfl ?_
  refine mm_iconst (v := nI 0) dX3_init_65 (by decide) ?_
  refine mm_puti dX3_init_66 rfl fk_X3_42 rfl fv_3_6 ⟨(Nat.le_of_ble_eq_true rfl), so_102.2⟩ ?_
  refine mm_aload_n 0 dX3_init_69 rfl rfl ?_
  refine mm_iconst (v := nI 0) dX3_init_70 (by decide) ?_
  refine mm_puti dX3_init_71 rfl fk_X3_45 rfl fv_3_7 ⟨(Nat.le_of_ble_eq_true rfl), so_102.2⟩ ?_
  exact mm_vret dX3_init_74 rfl (by decide) ⟨rfl, rfl, rfl⟩
set_option maxRecDepth 100000 in
set_option maxHeartbeats 4000000 in
theorem ini_X10_107 {g : mm_G} {d : Nat} {I : mm_I} (hd : 4 ≤ d) (hz : ∀ x, 107 ≤ x → ∀ k, I x k = 0) : mm_Ct g zX10_init d (12, 48) [.ref 107] (shT 108 105) I (fun r S' I' => r = none ∧ S' = shT 120 117 ∧ I' = I) := by
  refine mm_begin (ls := [(0, .ref 107)]) (Nat.le_of_ble_eq_true rfl) rfl rfl ?_
  refine mm_aload_n 0 dX10_init_0 rfl rfl ?_
  refine mm_obj dX10_init_1 rfl ml_X10_3 jm_obj (by omega) (Nat.le_of_ble_eq_true rfl) ?_
  refine mm_at (pc' := 4) rfl ?_
  refine mm_aload_n 0 dX10_init_4 rfl rfl ?_
  refine mm_newT (ci := 5) (C := RX5) (T := TX5) (n' := 109) (Al' := (1, 2)) dX10_init_5 rfl rfl mm_wX5 mm_tX5 cn_X10_9 mm_iX5 mm_dX5 (by decide) (by decide) rfl rfl so_108.2 (by decide +kernel) (hz 108 (by decide)) rfl rfl ?_
  refine mm_dup dX10_init_8 rfl ?_
  refine mm_bipush (v := nI 6) dX10_init_9 (by decide) ?_
  refine mm_callI1 (dz := d - 1) (Mz := (1, 6)) (Al' := (2, 8)) dX10_init_11 rfl mzX5_init ml_X10_11 imX5_init ⟨rfl, rfl⟩ (by omega) (ini_X5 (a := 108) (t := 105) (t' := 106) (m := 6) (n1 := 109) (n2 := 110) (by omega) (fun x hx => hz x (by omega)) (by decide) (by decide) rfl rfl rfl so_108.2 sa_109.2 (by decide +kernel) (by decide +kernel) (by decide +kernel)) (Nat.le_of_ble_eq_true rfl) (by decide) rfl rfl rfl ?_
  refine mm_at (pc' := 14) rfl ?_
  refine mm_putrT (t' := 107) dX10_init_14 rfl rfl fk_X10_14 (fun C T N h => by cases h; exact ⟨rfl, rfl⟩) rfl ⟨(Nat.le_of_ble_eq_true rfl), so_107.2⟩ (Or.inl (Nat.le_of_ble_eq_true rfl)) (by decide +kernel) (by decide +kernel) rfl ?_
  refine mm_aload_n 0 dX10_init_17 rfl rfl ?_
  refine mm_newT (ci := 5) (C := RX5) (T := TX5) (n' := 111) (Al' := (3, 10)) dX10_init_18 rfl rfl mm_wX5 mm_tX5 cn_X10_9 mm_iX5 mm_dX5 (by decide) (by decide) rfl rfl so_110.2 (by decide +kernel) (hz 110 (by decide)) rfl rfl ?_
  refine mm_dup dX10_init_21 rfl ?_
  refine mm_bipush (v := nI 6) dX10_init_22 (by decide) ?_
  refine mm_callI1 (dz := d - 1) (Mz := (1, 6)) (Al' := (4, 16)) dX10_init_24 rfl mzX5_init ml_X10_11 imX5_init ⟨rfl, rfl⟩ (by omega) (ini_X5 (a := 110) (t := 107) (t' := 108) (m := 6) (n1 := 111) (n2 := 112) (by omega) (fun x hx => hz x (by omega)) (by decide) (by decide) rfl rfl rfl so_110.2 sa_111.2 (by decide +kernel) (by decide +kernel) (by decide +kernel)) (Nat.le_of_ble_eq_true rfl) (by decide) rfl rfl rfl ?_
  refine mm_at (pc' := 27) rfl ?_
  refine mm_putrT (t' := 109) dX10_init_27 rfl rfl fk_X10_20 (fun C T N h => by cases h; exact ⟨rfl, rfl⟩) rfl ⟨(Nat.le_of_ble_eq_true rfl), so_107.2⟩ (Or.inl (Nat.le_of_ble_eq_true rfl)) (by decide +kernel) (by decide +kernel) rfl ?_
  refine mm_aload_n 0 dX10_init_30 rfl rfl ?_
  refine mm_newT (ci := 5) (C := RX5) (T := TX5) (n' := 113) (Al' := (5, 18)) dX10_init_31 rfl rfl mm_wX5 mm_tX5 cn_X10_9 mm_iX5 mm_dX5 (by decide) (by decide) rfl rfl so_112.2 (by decide +kernel) (hz 112 (by decide)) rfl rfl ?_
  refine mm_dup dX10_init_34 rfl ?_
  refine mm_bipush (v := nI 6) dX10_init_35 (by decide) ?_
  refine mm_callI1 (dz := d - 1) (Mz := (1, 6)) (Al' := (6, 24)) dX10_init_37 rfl mzX5_init ml_X10_11 imX5_init ⟨rfl, rfl⟩ (by omega) (ini_X5 (a := 112) (t := 109) (t' := 110) (m := 6) (n1 := 113) (n2 := 114) (by omega) (fun x hx => hz x (by omega)) (by decide) (by decide) rfl rfl rfl so_112.2 sa_113.2 (by decide +kernel) (by decide +kernel) (by decide +kernel)) (Nat.le_of_ble_eq_true rfl) (by decide) rfl rfl rfl ?_
  refine mm_at (pc' := 40) rfl ?_
  refine mm_putrT (t' := 111) dX10_init_40 rfl rfl fk_X10_23 (fun C T N h => by cases h; exact ⟨rfl, rfl⟩) rfl ⟨(Nat.le_of_ble_eq_true rfl), so_107.2⟩ (Or.inl (Nat.le_of_ble_eq_true rfl)) (by decide +kernel) (by decide +kernel) rfl ?_
  refine mm_aload_n 0 dX10_init_43 rfl rfl ?_
  refine mm_newT (ci := 5) (C := RX5) (T := TX5) (n' := 115) (Al' := (7, 26)) dX10_init_44 rfl rfl mm_wX5 mm_tX5 cn_X10_9 mm_iX5 mm_dX5 (by decide) (by decide) rfl rfl so_114.2 (by decide +kernel) (hz 114 (by decide)) rfl rfl ?_
  refine mm_dup dX10_init_47 rfl ?_
  refine mm_bipush (v := nI 6) dX10_init_48 (by decide) ?_
  refine mm_callI1 (dz := d - 1) (Mz := (1, 6)) (Al' := (8, 32)) dX10_init_50 rfl mzX5_init ml_X10_11 imX5_init ⟨rfl, rfl⟩ (by omega) (ini_X5 (a := 114) (t := 111) (t' := 112) (m := 6) (n1 := 115) (n2 := 116) (by omega) (fun x hx => hz x (by omega)) (by decide) (by decide) rfl rfl rfl so_114.2 sa_115.2 (by decide +kernel) (by decide +kernel) (by decide +kernel)) (Nat.le_of_ble_eq_true rfl) (by decide) rfl rfl rfl ?_
  refine mm_at (pc' := 53) rfl ?_
  refine mm_putrT (t' := 113) dX10_init_53 rfl rfl fk_X10_26 (fun C T N h => by cases h; exact ⟨rfl, rfl⟩) rfl ⟨(Nat.le_of_ble_eq_true rfl), so_107.2⟩ (Or.inl (Nat.le_of_ble_eq_true rfl)) (by decide +kernel) (by decide +kernel) rfl ?_
  refine mm_aload_n 0 dX10_init_56 rfl rfl ?_
  refine mm_newT (ci := 5) (C := RX5) (T := TX5) (n' := 117) (Al' := (9, 34)) dX10_init_57 rfl rfl mm_wX5 mm_tX5 cn_X10_9 mm_iX5 mm_dX5 (by decide) (by decide) rfl rfl so_116.2 (by decide +kernel) (hz 116 (by decide)) rfl rfl ?_
  refine mm_dup dX10_init_60 rfl ?_
  refine mm_bipush (v := nI 6) dX10_init_61 (by decide) ?_
  refine mm_callI1 (dz := d - 1) (Mz := (1, 6)) (Al' := (10, 40)) dX10_init_63 rfl mzX5_init ml_X10_11 imX5_init ⟨rfl, rfl⟩ (by omega) (ini_X5 (a := 116) (t := 113) (t' := 114) (m := 6) (n1 := 117) (n2 := 118) (by omega) (fun x hx => hz x (by omega)) (by decide) (by decide) rfl rfl rfl so_116.2 sa_117.2 (by decide +kernel) (by decide +kernel) (by decide +kernel)) (Nat.le_of_ble_eq_true rfl) (by decide) rfl rfl rfl ?_
  refine mm_at (pc' := 66) rfl ?_
  refine mm_putrT (t' := 115) dX10_init_66 rfl rfl fk_X10_29 (fun C T N h => by cases h; exact ⟨rfl, rfl⟩) rfl ⟨(Nat.le_of_ble_eq_true rfl), so_107.2⟩ (Or.inl (Nat.le_of_ble_eq_true rfl)) (by decide +kernel) (by decide +kernel) rfl ?_
  refine mm_aload_n 0 dX10_init_69 rfl rfl ?_
  refine mm_newT (ci := 5) (C := RX5) (T := TX5) (n' := 119) (Al' := (11, 42)) dX10_init_70 rfl rfl mm_wX5 mm_tX5 cn_X10_9 mm_iX5 mm_dX5 (by decide) (by decide) rfl rfl so_118.2 (by decide +kernel) (hz 118 (by decide)) rfl rfl ?_
  refine mm_dup dX10_init_73 rfl ?_
  refine mm_bipush (v := nI 6) dX10_init_74 (by decide) ?_
  refine mm_callI1 (dz := d - 1) (Mz := (1, 6)) (Al' := (12, 48)) dX10_init_76 rfl mzX5_init ml_X10_11 imX5_init ⟨rfl, rfl⟩ (by omega) (ini_X5 (a := 118) (t := 115) (t' := 116) (m := 6) (n1 := 119) (n2 := 120) (by omega) (fun x hx => hz x (by omega)) (by decide) (by decide) rfl rfl rfl so_118.2 sa_119.2 (by decide +kernel) (by decide +kernel) (by decide +kernel)) (Nat.le_of_ble_eq_true rfl) (by decide) rfl rfl rfl ?_
  refine mm_at (pc' := 79) rfl ?_
  refine mm_putrT (t' := 117) dX10_init_79 rfl rfl fk_X10_32 (fun C T N h => by cases h; exact ⟨rfl, rfl⟩) rfl ⟨(Nat.le_of_ble_eq_true rfl), so_107.2⟩ (Or.inl (Nat.le_of_ble_eq_true rfl)) (by decide +kernel) (by decide +kernel) rfl ?_
  exact mm_vret dX10_init_82 rfl (by decide) ⟨rfl, rfl, rfl⟩
def im_X1_beginScript_121 (I : mm_I) : mm_I := rw_fl (mm_up (mm_up (mm_up (I) 121 6 (-1)) 121 7 (nI 0)) 122 1 (nI 4)) 123 (nI 0) 4
theorem im_X1_beginScript_121_a {I : mm_I} {x : Nat} (h : 124 ≤ x) : im_X1_beginScript_121 I x = I x := by unfold im_X1_beginScript_121; rw [rw_fl_na (by omega), mm_up_a (by omega), mm_up_a (by omega), mm_up_a (by omega)]
set_option maxRecDepth 100000 in
set_option maxHeartbeats 4000000 in
theorem ini_X1_beginScript_121 {g : mm_G} {d : Nat} {I : mm_I} (hd : 4 ≤ d) : mm_Cv g zX1_beginScript d [.ref 121, .int (-1)] (shT 124 121) I (im_X1_beginScript_121 I) := by
  refine mm_begin (ls := [(0, .ref 121), (1, .int (-1))]) (Nat.le_of_ble_eq_true rfl) rfl rfl ?_
  refine mm_aload_n 0 dX1_beginScript_0 rfl rfl ?_
  refine mm_iload_n 1 dX1_beginScript_1 rfl rfl ?_
  refine mm_puti dX1_beginScript_2 rfl fk_X1_48 rfl fv_1_6 ⟨(Nat.le_of_ble_eq_true rfl), so_121.2⟩ ?_
  refine mm_aload_n 0 dX1_beginScript_5 rfl rfl ?_
  refine mm_iconst (v := nI 0) dX1_beginScript_6 (by decide) ?_
  refine mm_puti dX1_beginScript_7 rfl fk_X1_51 rfl fv_1_7 ⟨(Nat.le_of_ble_eq_true rfl), so_121.2⟩ ?_
  refine mm_aload_n 0 dX1_beginScript_10 rfl rfl ?_
  refine mm_getr (b := 122) dX1_beginScript_11 rfl fk_X1_16 rfl ⟨(Nat.le_of_ble_eq_true rfl), so_121.2⟩ (by decide +kernel) ?_
  refine mm_iconst (v := nI 4) dX1_beginScript_14 (by decide) ?_
  refine mm_iconst (v := nI 0) dX1_beginScript_15 (by decide) ?_
  refine mm_cV2v (dz := d - 1) dX1_beginScript_16 rfl mzX5_fill ml_X1_66 imX5_fill (by omega) ⟨(Nat.le_of_ble_eq_true rfl), so_122.2⟩ ⟨rfl, rfl⟩ (ct_fill (S := shT 124 121) (d := d - 1) (show rw_is (shT 124 121) 122 4 from ⟨⟨(Nat.le_of_ble_eq_true rfl), so_122.2⟩, (by decide +kernel), ⟨(Nat.le_of_ble_eq_true rfl), sa_123.2⟩, by decide⟩) 4 (by decide) (by omega)) (Nat.le_of_ble_eq_true rfl) (by decide) ?_
  refine mm_at (pc' := 19) rfl ?_
  exact mm_vret dX1_beginScript_19 rfl (by decide) ⟨rfl, rfl, rfl⟩
def im_X1_begin_121 (I : mm_I) : mm_I := im_X1_beginScript_121 (mm_up (mm_up (mm_up (mm_up (mm_up (mm_up (I) 121 0 (nI 0)) 121 1 (nI 0)) 121 2 (nI 50)) 121 3 (nI 0)) 121 4 (nI 0)) 121 5 (nI 0))
theorem im_X1_begin_121_a {I : mm_I} {x : Nat} (h : 124 ≤ x) : im_X1_begin_121 I x = I x := by unfold im_X1_begin_121; rw [im_X1_beginScript_121_a (by omega), mm_up_a (by omega), mm_up_a (by omega), mm_up_a (by omega), mm_up_a (by omega), mm_up_a (by omega), mm_up_a (by omega)]
set_option maxRecDepth 100000 in
set_option maxHeartbeats 4000000 in
theorem ini_X1_begin_121 {g : mm_G} {d : Nat} {I : mm_I} (hd : 5 ≤ d) : mm_Cv g zX1_begin d [.ref 121, .int (nI 0), .int (nI 0)] (shT 124 121) I (im_X1_begin_121 I) := by
  refine mm_begin (ls := [(0, .ref 121), (1, .int (nI 0)), (2, .int (nI 0))]) (Nat.le_of_ble_eq_true rfl) rfl rfl ?_
  refine mm_aload_n 0 dX1_begin_0 rfl rfl ?_
  refine mm_iload_n 1 dX1_begin_1 rfl rfl ?_
  refine mm_puti dX1_begin_2 rfl fk_X1_26 rfl fv_1_0 ⟨(Nat.le_of_ble_eq_true rfl), so_121.2⟩ ?_
  refine mm_aload_n 0 dX1_begin_5 rfl rfl ?_
  refine mm_iload_n 2 dX1_begin_6 rfl rfl ?_
  refine mm_puti dX1_begin_7 rfl fk_X1_30 rfl fv_1_1 ⟨(Nat.le_of_ble_eq_true rfl), so_121.2⟩ ?_
  refine mm_aload_n 0 dX1_begin_10 rfl rfl ?_
  refine mm_bipush (v := nI 50) dX1_begin_11 (by decide) ?_
  refine mm_puti dX1_begin_13 rfl fk_X1_33 rfl fv_1_2 ⟨(Nat.le_of_ble_eq_true rfl), so_121.2⟩ ?_
  refine mm_aload_n 0 dX1_begin_16 rfl rfl ?_
  refine mm_iconst (v := nI 0) dX1_begin_17 (by decide) ?_
  refine mm_puti dX1_begin_18 rfl fk_X1_36 rfl fv_1_3 ⟨(Nat.le_of_ble_eq_true rfl), so_121.2⟩ ?_
  refine mm_aload_n 0 dX1_begin_21 rfl rfl ?_
  refine mm_iconst (v := nI 0) dX1_begin_22 (by decide) ?_
  refine mm_puti dX1_begin_23 rfl fk_X1_39 rfl fv_1_4 ⟨(Nat.le_of_ble_eq_true rfl), so_121.2⟩ ?_
  refine mm_aload_n 0 dX1_begin_26 rfl rfl ?_
  refine mm_iconst (v := nI 0) dX1_begin_27 (by decide) ?_
  refine mm_puti dX1_begin_28 rfl fk_X1_42 rfl fv_1_5 ⟨(Nat.le_of_ble_eq_true rfl), so_121.2⟩ ?_
  refine mm_aload_n 0 dX1_begin_31 rfl rfl ?_
  refine mm_iconst (v := -1) dX1_begin_32 (by decide) ?_
  refine mm_cV1v (dz := d - 1) dX1_begin_33 rfl mzX1_beginScript ml_X1_45 imX1_beginScript (by omega) ⟨(Nat.le_of_ble_eq_true rfl), so_121.2⟩ ⟨rfl, rfl⟩ (ini_X1_beginScript_121 (by omega)) (Nat.le_of_ble_eq_true rfl) (by decide) ?_
  refine mm_at (pc' := 36) rfl ?_
  exact mm_vret dX1_begin_36 rfl (by decide) ⟨rfl, rfl, rfl⟩
def im_X1_121 (I : mm_I) : mm_I := im_X1_begin_121 (I)
theorem im_X1_121_a {I : mm_I} {x : Nat} (h : 124 ≤ x) : im_X1_121 I x = I x := by unfold im_X1_121; rw [im_X1_begin_121_a (by omega)]
set_option maxRecDepth 100000 in
set_option maxHeartbeats 4000000 in
theorem ini_X1_121 {g : mm_G} {d : Nat} {I : mm_I} (hd : 6 ≤ d) (hz : ∀ x, 121 ≤ x → ∀ k, I x k = 0) : mm_Ct g zX1_init d (2, 6) [.ref 121] (shT 122 119) I (fun r S' I' => r = none ∧ S' = shT 124 121 ∧ I' = im_X1_121 I) := by
  refine mm_begin (ls := [(0, .ref 121)]) (Nat.le_of_ble_eq_true rfl) rfl rfl ?_
  refine mm_aload_n 0 dX1_init_0 rfl rfl ?_
  refine mm_obj dX1_init_1 rfl ml_X1_3 jm_obj (by omega) (Nat.le_of_ble_eq_true rfl) ?_
  refine mm_at (pc' := 4) rfl ?_
  refine mm_aload_n 0 dX1_init_4 rfl rfl ?_
  refine mm_newT (ci := 5) (C := RX5) (T := TX5) (n' := 123) (Al' := (1, 2)) dX1_init_5 rfl rfl mm_wX5 mm_tX5 cn_X1_9 mm_iX5 mm_dX5 (by decide) (by decide) rfl rfl so_122.2 (by decide +kernel) (hz 122 (by decide)) rfl rfl ?_
  refine mm_dup dX1_init_8 rfl ?_
  refine mm_iconst (v := nI 4) dX1_init_9 (by decide) ?_
  refine mm_callI1 (dz := d - 1) (Mz := (1, 4)) (Al' := (2, 6)) dX1_init_10 rfl mzX5_init ml_X1_13 imX5_init ⟨rfl, rfl⟩ (by omega) (ini_X5 (a := 122) (t := 119) (t' := 120) (m := 4) (n1 := 123) (n2 := 124) (by omega) (fun x hx => hz x (by omega)) (by decide) (by decide) rfl rfl rfl so_122.2 sa_123.2 (by decide +kernel) (by decide +kernel) (by decide +kernel)) (Nat.le_of_ble_eq_true rfl) (by decide) rfl rfl rfl ?_
  refine mm_at (pc' := 13) rfl ?_
  refine mm_putrT (t' := 121) dX1_init_13 rfl rfl fk_X1_16 (fun C T N h => by cases h; exact ⟨rfl, rfl⟩) rfl ⟨(Nat.le_of_ble_eq_true rfl), so_121.2⟩ (Or.inl (Nat.le_of_ble_eq_true rfl)) (by decide +kernel) (by decide +kernel) rfl ?_
  refine mm_aload_n 0 dX1_init_16 rfl rfl ?_
  refine mm_iconst (v := nI 0) dX1_init_17 (by decide) ?_
  refine mm_iconst (v := nI 0) dX1_init_18 (by decide) ?_
  refine mm_cV2v (dz := d - 1) dX1_init_19 rfl mzX1_begin ml_X1_22 imX1_begin (by omega) ⟨(Nat.le_of_ble_eq_true rfl), so_121.2⟩ ⟨rfl, rfl⟩ (ini_X1_begin_121 (by omega)) (Nat.le_of_ble_eq_true rfl) (by decide) ?_
  refine mm_at (pc' := 22) rfl ?_
  exact mm_vret dX1_init_22 rfl (by decide) ⟨rfl, rfl, rfl⟩
def im_X1_beginScript_124 (I : mm_I) : mm_I := rw_fl (mm_up (mm_up (mm_up (I) 124 6 (-1)) 124 7 (nI 0)) 125 1 (nI 4)) 126 (nI 0) 4
theorem im_X1_beginScript_124_a {I : mm_I} {x : Nat} (h : 127 ≤ x) : im_X1_beginScript_124 I x = I x := by unfold im_X1_beginScript_124; rw [rw_fl_na (by omega), mm_up_a (by omega), mm_up_a (by omega), mm_up_a (by omega)]
set_option maxRecDepth 100000 in
set_option maxHeartbeats 4000000 in
theorem ini_X1_beginScript_124 {g : mm_G} {d : Nat} {I : mm_I} (hd : 4 ≤ d) : mm_Cv g zX1_beginScript d [.ref 124, .int (-1)] (shT 127 124) I (im_X1_beginScript_124 I) := by
  refine mm_begin (ls := [(0, .ref 124), (1, .int (-1))]) (Nat.le_of_ble_eq_true rfl) rfl rfl ?_
  refine mm_aload_n 0 dX1_beginScript_0 rfl rfl ?_
  refine mm_iload_n 1 dX1_beginScript_1 rfl rfl ?_
  refine mm_puti dX1_beginScript_2 rfl fk_X1_48 rfl fv_1_6 ⟨(Nat.le_of_ble_eq_true rfl), so_124.2⟩ ?_
  refine mm_aload_n 0 dX1_beginScript_5 rfl rfl ?_
  refine mm_iconst (v := nI 0) dX1_beginScript_6 (by decide) ?_
  refine mm_puti dX1_beginScript_7 rfl fk_X1_51 rfl fv_1_7 ⟨(Nat.le_of_ble_eq_true rfl), so_124.2⟩ ?_
  refine mm_aload_n 0 dX1_beginScript_10 rfl rfl ?_
  refine mm_getr (b := 125) dX1_beginScript_11 rfl fk_X1_16 rfl ⟨(Nat.le_of_ble_eq_true rfl), so_124.2⟩ (by decide +kernel) ?_
  refine mm_iconst (v := nI 4) dX1_beginScript_14 (by decide) ?_
  refine mm_iconst (v := nI 0) dX1_beginScript_15 (by decide) ?_
  refine mm_cV2v (dz := d - 1) dX1_beginScript_16 rfl mzX5_fill ml_X1_66 imX5_fill (by omega) ⟨(Nat.le_of_ble_eq_true rfl), so_125.2⟩ ⟨rfl, rfl⟩ (ct_fill (S := shT 127 124) (d := d - 1) (show rw_is (shT 127 124) 125 4 from ⟨⟨(Nat.le_of_ble_eq_true rfl), so_125.2⟩, (by decide +kernel), ⟨(Nat.le_of_ble_eq_true rfl), sa_126.2⟩, by decide⟩) 4 (by decide) (by omega)) (Nat.le_of_ble_eq_true rfl) (by decide) ?_
  refine mm_at (pc' := 19) rfl ?_
  exact mm_vret dX1_beginScript_19 rfl (by decide) ⟨rfl, rfl, rfl⟩
def im_X1_begin_124 (I : mm_I) : mm_I := im_X1_beginScript_124 (mm_up (mm_up (mm_up (mm_up (mm_up (mm_up (I) 124 0 (nI 0)) 124 1 (nI 0)) 124 2 (nI 50)) 124 3 (nI 0)) 124 4 (nI 0)) 124 5 (nI 0))
theorem im_X1_begin_124_a {I : mm_I} {x : Nat} (h : 127 ≤ x) : im_X1_begin_124 I x = I x := by unfold im_X1_begin_124; rw [im_X1_beginScript_124_a (by omega), mm_up_a (by omega), mm_up_a (by omega), mm_up_a (by omega), mm_up_a (by omega), mm_up_a (by omega), mm_up_a (by omega)]
set_option maxRecDepth 100000 in
set_option maxHeartbeats 4000000 in
theorem ini_X1_begin_124 {g : mm_G} {d : Nat} {I : mm_I} (hd : 5 ≤ d) : mm_Cv g zX1_begin d [.ref 124, .int (nI 0), .int (nI 0)] (shT 127 124) I (im_X1_begin_124 I) := by
  refine mm_begin (ls := [(0, .ref 124), (1, .int (nI 0)), (2, .int (nI 0))]) (Nat.le_of_ble_eq_true rfl) rfl rfl ?_
  refine mm_aload_n 0 dX1_begin_0 rfl rfl ?_
  refine mm_iload_n 1 dX1_begin_1 rfl rfl ?_
  refine mm_puti dX1_begin_2 rfl fk_X1_26 rfl fv_1_0 ⟨(Nat.le_of_ble_eq_true rfl), so_124.2⟩ ?_
  refine mm_aload_n 0 dX1_begin_5 rfl rfl ?_
  refine mm_iload_n 2 dX1_begin_6 rfl rfl ?_
  refine mm_puti dX1_begin_7 rfl fk_X1_30 rfl fv_1_1 ⟨(Nat.le_of_ble_eq_true rfl), so_124.2⟩ ?_
  refine mm_aload_n 0 dX1_begin_10 rfl rfl ?_
  refine mm_bipush (v := nI 50) dX1_begin_11 (by decide) ?_
  refine mm_puti dX1_begin_13 rfl fk_X1_33 rfl fv_1_2 ⟨(Nat.le_of_ble_eq_true rfl), so_124.2⟩ ?_
  refine mm_aload_n 0 dX1_begin_16 rfl rfl ?_
  refine mm_iconst (v := nI 0) dX1_begin_17 (by decide) ?_
  refine mm_puti dX1_begin_18 rfl fk_X1_36 rfl fv_1_3 ⟨(Nat.le_of_ble_eq_true rfl), so_124.2⟩ ?_
  refine mm_aload_n 0 dX1_begin_21 rfl rfl ?_
  refine mm_iconst (v := nI 0) dX1_begin_22 (by decide) ?_
  refine mm_puti dX1_begin_23 rfl fk_X1_39 rfl fv_1_4 ⟨(Nat.le_of_ble_eq_true rfl), so_124.2⟩ ?_
  refine mm_aload_n 0 dX1_begin_26 rfl rfl ?_
  refine mm_iconst (v := nI 0) dX1_begin_27 (by decide) ?_
  refine mm_puti dX1_begin_28 rfl fk_X1_42 rfl fv_1_5 ⟨(Nat.le_of_ble_eq_true rfl), so_124.2⟩ ?_
  refine mm_aload_n 0 dX1_begin_31 rfl rfl ?_
  refine mm_iconst (v := -1) dX1_begin_32 (by decide) ?_
  refine mm_cV1v (dz := d - 1) dX1_begin_33 rfl mzX1_beginScript ml_X1_45 imX1_beginScript (by omega) ⟨(Nat.le_of_ble_eq_true rfl), so_124.2⟩ ⟨rfl, rfl⟩ (ini_X1_beginScript_124 (by omega)) (Nat.le_of_ble_eq_true rfl) (by decide) ?_
  refine mm_at (pc' := 36) rfl ?_
  exact mm_vret dX1_begin_36 rfl (by decide) ⟨rfl, rfl, rfl⟩
def im_X1_124 (I : mm_I) : mm_I := im_X1_begin_124 (I)
theorem im_X1_124_a {I : mm_I} {x : Nat} (h : 127 ≤ x) : im_X1_124 I x = I x := by unfold im_X1_124; rw [im_X1_begin_124_a (by omega)]
set_option maxRecDepth 100000 in
set_option maxHeartbeats 4000000 in
theorem ini_X1_124 {g : mm_G} {d : Nat} {I : mm_I} (hd : 6 ≤ d) (hz : ∀ x, 124 ≤ x → ∀ k, I x k = 0) : mm_Ct g zX1_init d (2, 6) [.ref 124] (shT 125 122) I (fun r S' I' => r = none ∧ S' = shT 127 124 ∧ I' = im_X1_124 I) := by
  refine mm_begin (ls := [(0, .ref 124)]) (Nat.le_of_ble_eq_true rfl) rfl rfl ?_
  refine mm_aload_n 0 dX1_init_0 rfl rfl ?_
  refine mm_obj dX1_init_1 rfl ml_X1_3 jm_obj (by omega) (Nat.le_of_ble_eq_true rfl) ?_
  refine mm_at (pc' := 4) rfl ?_
  refine mm_aload_n 0 dX1_init_4 rfl rfl ?_
  refine mm_newT (ci := 5) (C := RX5) (T := TX5) (n' := 126) (Al' := (1, 2)) dX1_init_5 rfl rfl mm_wX5 mm_tX5 cn_X1_9 mm_iX5 mm_dX5 (by decide) (by decide) rfl rfl so_125.2 (by decide +kernel) (hz 125 (by decide)) rfl rfl ?_
  refine mm_dup dX1_init_8 rfl ?_
  refine mm_iconst (v := nI 4) dX1_init_9 (by decide) ?_
  refine mm_callI1 (dz := d - 1) (Mz := (1, 4)) (Al' := (2, 6)) dX1_init_10 rfl mzX5_init ml_X1_13 imX5_init ⟨rfl, rfl⟩ (by omega) (ini_X5 (a := 125) (t := 122) (t' := 123) (m := 4) (n1 := 126) (n2 := 127) (by omega) (fun x hx => hz x (by omega)) (by decide) (by decide) rfl rfl rfl so_125.2 sa_126.2 (by decide +kernel) (by decide +kernel) (by decide +kernel)) (Nat.le_of_ble_eq_true rfl) (by decide) rfl rfl rfl ?_
  refine mm_at (pc' := 13) rfl ?_
  refine mm_putrT (t' := 124) dX1_init_13 rfl rfl fk_X1_16 (fun C T N h => by cases h; exact ⟨rfl, rfl⟩) rfl ⟨(Nat.le_of_ble_eq_true rfl), so_124.2⟩ (Or.inl (Nat.le_of_ble_eq_true rfl)) (by decide +kernel) (by decide +kernel) rfl ?_
  refine mm_aload_n 0 dX1_init_16 rfl rfl ?_
  refine mm_iconst (v := nI 0) dX1_init_17 (by decide) ?_
  refine mm_iconst (v := nI 0) dX1_init_18 (by decide) ?_
  refine mm_cV2v (dz := d - 1) dX1_init_19 rfl mzX1_begin ml_X1_22 imX1_begin (by omega) ⟨(Nat.le_of_ble_eq_true rfl), so_124.2⟩ ⟨rfl, rfl⟩ (ini_X1_begin_124 (by omega)) (Nat.le_of_ble_eq_true rfl) (by decide) ?_
  refine mm_at (pc' := 22) rfl ?_
  exact mm_vret dX1_init_22 rfl (by decide) ⟨rfl, rfl, rfl⟩
def im_X1_beginScript_127 (I : mm_I) : mm_I := rw_fl (mm_up (mm_up (mm_up (I) 127 6 (-1)) 127 7 (nI 0)) 128 1 (nI 4)) 129 (nI 0) 4
theorem im_X1_beginScript_127_a {I : mm_I} {x : Nat} (h : 130 ≤ x) : im_X1_beginScript_127 I x = I x := by unfold im_X1_beginScript_127; rw [rw_fl_na (by omega), mm_up_a (by omega), mm_up_a (by omega), mm_up_a (by omega)]
set_option maxRecDepth 100000 in
set_option maxHeartbeats 4000000 in
theorem ini_X1_beginScript_127 {g : mm_G} {d : Nat} {I : mm_I} (hd : 4 ≤ d) : mm_Cv g zX1_beginScript d [.ref 127, .int (-1)] (shT 130 127) I (im_X1_beginScript_127 I) := by
  refine mm_begin (ls := [(0, .ref 127), (1, .int (-1))]) (Nat.le_of_ble_eq_true rfl) rfl rfl ?_
  refine mm_aload_n 0 dX1_beginScript_0 rfl rfl ?_
  refine mm_iload_n 1 dX1_beginScript_1 rfl rfl ?_
  refine mm_puti dX1_beginScript_2 rfl fk_X1_48 rfl fv_1_6 ⟨(Nat.le_of_ble_eq_true rfl), so_127.2⟩ ?_
  refine mm_aload_n 0 dX1_beginScript_5 rfl rfl ?_
  refine mm_iconst (v := nI 0) dX1_beginScript_6 (by decide) ?_
  refine mm_puti dX1_beginScript_7 rfl fk_X1_51 rfl fv_1_7 ⟨(Nat.le_of_ble_eq_true rfl), so_127.2⟩ ?_
  refine mm_aload_n 0 dX1_beginScript_10 rfl rfl ?_
  refine mm_getr (b := 128) dX1_beginScript_11 rfl fk_X1_16 rfl ⟨(Nat.le_of_ble_eq_true rfl), so_127.2⟩ (by decide +kernel) ?_
  refine mm_iconst (v := nI 4) dX1_beginScript_14 (by decide) ?_
  refine mm_iconst (v := nI 0) dX1_beginScript_15 (by decide) ?_
  refine mm_cV2v (dz := d - 1) dX1_beginScript_16 rfl mzX5_fill ml_X1_66 imX5_fill (by omega) ⟨(Nat.le_of_ble_eq_true rfl), so_128.2⟩ ⟨rfl, rfl⟩ (ct_fill (S := shT 130 127) (d := d - 1) (show rw_is (shT 130 127) 128 4 from ⟨⟨(Nat.le_of_ble_eq_true rfl), so_128.2⟩, (by decide +kernel), ⟨(Nat.le_of_ble_eq_true rfl), sa_129.2⟩, by decide⟩) 4 (by decide) (by omega)) (Nat.le_of_ble_eq_true rfl) (by decide) ?_
  refine mm_at (pc' := 19) rfl ?_
  exact mm_vret dX1_beginScript_19 rfl (by decide) ⟨rfl, rfl, rfl⟩
def im_X1_begin_127 (I : mm_I) : mm_I := im_X1_beginScript_127 (mm_up (mm_up (mm_up (mm_up (mm_up (mm_up (I) 127 0 (nI 0)) 127 1 (nI 0)) 127 2 (nI 50)) 127 3 (nI 0)) 127 4 (nI 0)) 127 5 (nI 0))
theorem im_X1_begin_127_a {I : mm_I} {x : Nat} (h : 130 ≤ x) : im_X1_begin_127 I x = I x := by unfold im_X1_begin_127; rw [im_X1_beginScript_127_a (by omega), mm_up_a (by omega), mm_up_a (by omega), mm_up_a (by omega), mm_up_a (by omega), mm_up_a (by omega), mm_up_a (by omega)]
set_option maxRecDepth 100000 in
set_option maxHeartbeats 4000000 in
theorem ini_X1_begin_127 {g : mm_G} {d : Nat} {I : mm_I} (hd : 5 ≤ d) : mm_Cv g zX1_begin d [.ref 127, .int (nI 0), .int (nI 0)] (shT 130 127) I (im_X1_begin_127 I) := by
  refine mm_begin (ls := [(0, .ref 127), (1, .int (nI 0)), (2, .int (nI 0))]) (Nat.le_of_ble_eq_true rfl) rfl rfl ?_
  refine mm_aload_n 0 dX1_begin_0 rfl rfl ?_
  refine mm_iload_n 1 dX1_begin_1 rfl rfl ?_
  refine mm_puti dX1_begin_2 rfl fk_X1_26 rfl fv_1_0 ⟨(Nat.le_of_ble_eq_true rfl), so_127.2⟩ ?_
  refine mm_aload_n 0 dX1_begin_5 rfl rfl ?_
  refine mm_iload_n 2 dX1_begin_6 rfl rfl ?_
  refine mm_puti dX1_begin_7 rfl fk_X1_30 rfl fv_1_1 ⟨(Nat.le_of_ble_eq_true rfl), so_127.2⟩ ?_
  refine mm_aload_n 0 dX1_begin_10 rfl rfl ?_
  refine mm_bipush (v := nI 50) dX1_begin_11 (by decide) ?_
  refine mm_puti dX1_begin_13 rfl fk_X1_33 rfl fv_1_2 ⟨(Nat.le_of_ble_eq_true rfl), so_127.2⟩ ?_
  refine mm_aload_n 0 dX1_begin_16 rfl rfl ?_
  refine mm_iconst (v := nI 0) dX1_begin_17 (by decide) ?_
  refine mm_puti dX1_begin_18 rfl fk_X1_36 rfl fv_1_3 ⟨(Nat.le_of_ble_eq_true rfl), so_127.2⟩ ?_
  refine mm_aload_n 0 dX1_begin_21 rfl rfl ?_
  refine mm_iconst (v := nI 0) dX1_begin_22 (by decide) ?_
  refine mm_puti dX1_begin_23 rfl fk_X1_39 rfl fv_1_4 ⟨(Nat.le_of_ble_eq_true rfl), so_127.2⟩ ?_
  refine mm_aload_n 0 dX1_begin_26 rfl rfl ?_
  refine mm_iconst (v := nI 0) dX1_begin_27 (by decide) ?_
  refine mm_puti dX1_begin_28 rfl fk_X1_42 rfl fv_1_5 ⟨(Nat.le_of_ble_eq_true rfl), so_127.2⟩ ?_
  refine mm_aload_n 0 dX1_begin_31 rfl rfl ?_
  refine mm_iconst (v := -1) dX1_begin_32 (by decide) ?_
  refine mm_cV1v (dz := d - 1) dX1_begin_33 rfl mzX1_beginScript ml_X1_45 imX1_beginScript (by omega) ⟨(Nat.le_of_ble_eq_true rfl), so_127.2⟩ ⟨rfl, rfl⟩ (ini_X1_beginScript_127 (by omega)) (Nat.le_of_ble_eq_true rfl) (by decide) ?_
  refine mm_at (pc' := 36) rfl ?_
  exact mm_vret dX1_begin_36 rfl (by decide) ⟨rfl, rfl, rfl⟩
def im_X1_127 (I : mm_I) : mm_I := im_X1_begin_127 (I)
theorem im_X1_127_a {I : mm_I} {x : Nat} (h : 130 ≤ x) : im_X1_127 I x = I x := by unfold im_X1_127; rw [im_X1_begin_127_a (by omega)]
set_option maxRecDepth 100000 in
set_option maxHeartbeats 4000000 in
theorem ini_X1_127 {g : mm_G} {d : Nat} {I : mm_I} (hd : 6 ≤ d) (hz : ∀ x, 127 ≤ x → ∀ k, I x k = 0) : mm_Ct g zX1_init d (2, 6) [.ref 127] (shT 128 125) I (fun r S' I' => r = none ∧ S' = shT 130 127 ∧ I' = im_X1_127 I) := by
  refine mm_begin (ls := [(0, .ref 127)]) (Nat.le_of_ble_eq_true rfl) rfl rfl ?_
  refine mm_aload_n 0 dX1_init_0 rfl rfl ?_
  refine mm_obj dX1_init_1 rfl ml_X1_3 jm_obj (by omega) (Nat.le_of_ble_eq_true rfl) ?_
  refine mm_at (pc' := 4) rfl ?_
  refine mm_aload_n 0 dX1_init_4 rfl rfl ?_
  refine mm_newT (ci := 5) (C := RX5) (T := TX5) (n' := 129) (Al' := (1, 2)) dX1_init_5 rfl rfl mm_wX5 mm_tX5 cn_X1_9 mm_iX5 mm_dX5 (by decide) (by decide) rfl rfl so_128.2 (by decide +kernel) (hz 128 (by decide)) rfl rfl ?_
  refine mm_dup dX1_init_8 rfl ?_
  refine mm_iconst (v := nI 4) dX1_init_9 (by decide) ?_
  refine mm_callI1 (dz := d - 1) (Mz := (1, 4)) (Al' := (2, 6)) dX1_init_10 rfl mzX5_init ml_X1_13 imX5_init ⟨rfl, rfl⟩ (by omega) (ini_X5 (a := 128) (t := 125) (t' := 126) (m := 4) (n1 := 129) (n2 := 130) (by omega) (fun x hx => hz x (by omega)) (by decide) (by decide) rfl rfl rfl so_128.2 sa_129.2 (by decide +kernel) (by decide +kernel) (by decide +kernel)) (Nat.le_of_ble_eq_true rfl) (by decide) rfl rfl rfl ?_
  refine mm_at (pc' := 13) rfl ?_
  refine mm_putrT (t' := 127) dX1_init_13 rfl rfl fk_X1_16 (fun C T N h => by cases h; exact ⟨rfl, rfl⟩) rfl ⟨(Nat.le_of_ble_eq_true rfl), so_127.2⟩ (Or.inl (Nat.le_of_ble_eq_true rfl)) (by decide +kernel) (by decide +kernel) rfl ?_
  refine mm_aload_n 0 dX1_init_16 rfl rfl ?_
  refine mm_iconst (v := nI 0) dX1_init_17 (by decide) ?_
  refine mm_iconst (v := nI 0) dX1_init_18 (by decide) ?_
  refine mm_cV2v (dz := d - 1) dX1_init_19 rfl mzX1_begin ml_X1_22 imX1_begin (by omega) ⟨(Nat.le_of_ble_eq_true rfl), so_127.2⟩ ⟨rfl, rfl⟩ (ini_X1_begin_127 (by omega)) (Nat.le_of_ble_eq_true rfl) (by decide) ?_
  refine mm_at (pc' := 22) rfl ?_
  exact mm_vret dX1_init_22 rfl (by decide) ⟨rfl, rfl, rfl⟩
def im_X1_beginScript_130 (I : mm_I) : mm_I := rw_fl (mm_up (mm_up (mm_up (I) 130 6 (-1)) 130 7 (nI 0)) 131 1 (nI 4)) 132 (nI 0) 4
theorem im_X1_beginScript_130_a {I : mm_I} {x : Nat} (h : 133 ≤ x) : im_X1_beginScript_130 I x = I x := by unfold im_X1_beginScript_130; rw [rw_fl_na (by omega), mm_up_a (by omega), mm_up_a (by omega), mm_up_a (by omega)]
set_option maxRecDepth 100000 in
set_option maxHeartbeats 4000000 in
theorem ini_X1_beginScript_130 {g : mm_G} {d : Nat} {I : mm_I} (hd : 4 ≤ d) : mm_Cv g zX1_beginScript d [.ref 130, .int (-1)] (shT 133 130) I (im_X1_beginScript_130 I) := by
  refine mm_begin (ls := [(0, .ref 130), (1, .int (-1))]) (Nat.le_of_ble_eq_true rfl) rfl rfl ?_
  refine mm_aload_n 0 dX1_beginScript_0 rfl rfl ?_
  refine mm_iload_n 1 dX1_beginScript_1 rfl rfl ?_
  refine mm_puti dX1_beginScript_2 rfl fk_X1_48 rfl fv_1_6 ⟨(Nat.le_of_ble_eq_true rfl), so_130.2⟩ ?_
  refine mm_aload_n 0 dX1_beginScript_5 rfl rfl ?_
  refine mm_iconst (v := nI 0) dX1_beginScript_6 (by decide) ?_
  refine mm_puti dX1_beginScript_7 rfl fk_X1_51 rfl fv_1_7 ⟨(Nat.le_of_ble_eq_true rfl), so_130.2⟩ ?_
  refine mm_aload_n 0 dX1_beginScript_10 rfl rfl ?_
  refine mm_getr (b := 131) dX1_beginScript_11 rfl fk_X1_16 rfl ⟨(Nat.le_of_ble_eq_true rfl), so_130.2⟩ (by decide +kernel) ?_
  refine mm_iconst (v := nI 4) dX1_beginScript_14 (by decide) ?_
  refine mm_iconst (v := nI 0) dX1_beginScript_15 (by decide) ?_
  refine mm_cV2v (dz := d - 1) dX1_beginScript_16 rfl mzX5_fill ml_X1_66 imX5_fill (by omega) ⟨(Nat.le_of_ble_eq_true rfl), so_131.2⟩ ⟨rfl, rfl⟩ (ct_fill (S := shT 133 130) (d := d - 1) (show rw_is (shT 133 130) 131 4 from ⟨⟨(Nat.le_of_ble_eq_true rfl), so_131.2⟩, (by decide +kernel), ⟨(Nat.le_of_ble_eq_true rfl), sa_132.2⟩, by decide⟩) 4 (by decide) (by omega)) (Nat.le_of_ble_eq_true rfl) (by decide) ?_
  refine mm_at (pc' := 19) rfl ?_
  exact mm_vret dX1_beginScript_19 rfl (by decide) ⟨rfl, rfl, rfl⟩
def im_X1_begin_130 (I : mm_I) : mm_I := im_X1_beginScript_130 (mm_up (mm_up (mm_up (mm_up (mm_up (mm_up (I) 130 0 (nI 0)) 130 1 (nI 0)) 130 2 (nI 50)) 130 3 (nI 0)) 130 4 (nI 0)) 130 5 (nI 0))
theorem im_X1_begin_130_a {I : mm_I} {x : Nat} (h : 133 ≤ x) : im_X1_begin_130 I x = I x := by unfold im_X1_begin_130; rw [im_X1_beginScript_130_a (by omega), mm_up_a (by omega), mm_up_a (by omega), mm_up_a (by omega), mm_up_a (by omega), mm_up_a (by omega), mm_up_a (by omega)]
set_option maxRecDepth 100000 in
set_option maxHeartbeats 4000000 in
theorem ini_X1_begin_130 {g : mm_G} {d : Nat} {I : mm_I} (hd : 5 ≤ d) : mm_Cv g zX1_begin d [.ref 130, .int (nI 0), .int (nI 0)] (shT 133 130) I (im_X1_begin_130 I) := by
  refine mm_begin (ls := [(0, .ref 130), (1, .int (nI 0)), (2, .int (nI 0))]) (Nat.le_of_ble_eq_true rfl) rfl rfl ?_
  refine mm_aload_n 0 dX1_begin_0 rfl rfl ?_
  refine mm_iload_n 1 dX1_begin_1 rfl rfl ?_
  refine mm_puti dX1_begin_2 rfl fk_X1_26 rfl fv_1_0 ⟨(Nat.le_of_ble_eq_true rfl), so_130.2⟩ ?_
  refine mm_aload_n 0 dX1_begin_5 rfl rfl ?_
  refine mm_iload_n 2 dX1_begin_6 rfl rfl ?_
  refine mm_puti dX1_begin_7 rfl fk_X1_30 rfl fv_1_1 ⟨(Nat.le_of_ble_eq_true rfl), so_130.2⟩ ?_
  refine mm_aload_n 0 dX1_begin_10 rfl rfl ?_
  refine mm_bipush (v := nI 50) dX1_begin_11 (by decide) ?_
  refine mm_puti dX1_begin_13 rfl fk_X1_33 rfl fv_1_2 ⟨(Nat.le_of_ble_eq_true rfl), so_130.2⟩ ?_
  refine mm_aload_n 0 dX1_begin_16 rfl rfl ?_
  refine mm_iconst (v := nI 0) dX1_begin_17 (by decide) ?_
  refine mm_puti dX1_begin_18 rfl fk_X1_36 rfl fv_1_3 ⟨(Nat.le_of_ble_eq_true rfl), so_130.2⟩ ?_
  refine mm_aload_n 0 dX1_begin_21 rfl rfl ?_
  refine mm_iconst (v := nI 0) dX1_begin_22 (by decide) ?_
  refine mm_puti dX1_begin_23 rfl fk_X1_39 rfl fv_1_4 ⟨(Nat.le_of_ble_eq_true rfl), so_130.2⟩ ?_
  refine mm_aload_n 0 dX1_begin_26 rfl rfl ?_
  refine mm_iconst (v := nI 0) dX1_begin_27 (by decide) ?_
  refine mm_puti dX1_begin_28 rfl fk_X1_42 rfl fv_1_5 ⟨(Nat.le_of_ble_eq_true rfl), so_130.2⟩ ?_
  refine mm_aload_n 0 dX1_begin_31 rfl rfl ?_
  refine mm_iconst (v := -1) dX1_begin_32 (by decide) ?_
  refine mm_cV1v (dz := d - 1) dX1_begin_33 rfl mzX1_beginScript ml_X1_45 imX1_beginScript (by omega) ⟨(Nat.le_of_ble_eq_true rfl), so_130.2⟩ ⟨rfl, rfl⟩ (ini_X1_beginScript_130 (by omega)) (Nat.le_of_ble_eq_true rfl) (by decide) ?_
  refine mm_at (pc' := 36) rfl ?_
  exact mm_vret dX1_begin_36 rfl (by decide) ⟨rfl, rfl, rfl⟩
def im_X1_130 (I : mm_I) : mm_I := im_X1_begin_130 (I)
theorem im_X1_130_a {I : mm_I} {x : Nat} (h : 133 ≤ x) : im_X1_130 I x = I x := by unfold im_X1_130; rw [im_X1_begin_130_a (by omega)]
set_option maxRecDepth 100000 in
set_option maxHeartbeats 4000000 in
theorem ini_X1_130 {g : mm_G} {d : Nat} {I : mm_I} (hd : 6 ≤ d) (hz : ∀ x, 130 ≤ x → ∀ k, I x k = 0) : mm_Ct g zX1_init d (2, 6) [.ref 130] (shT 131 128) I (fun r S' I' => r = none ∧ S' = shT 133 130 ∧ I' = im_X1_130 I) := by
  refine mm_begin (ls := [(0, .ref 130)]) (Nat.le_of_ble_eq_true rfl) rfl rfl ?_
  refine mm_aload_n 0 dX1_init_0 rfl rfl ?_
  refine mm_obj dX1_init_1 rfl ml_X1_3 jm_obj (by omega) (Nat.le_of_ble_eq_true rfl) ?_
  refine mm_at (pc' := 4) rfl ?_
  refine mm_aload_n 0 dX1_init_4 rfl rfl ?_
  refine mm_newT (ci := 5) (C := RX5) (T := TX5) (n' := 132) (Al' := (1, 2)) dX1_init_5 rfl rfl mm_wX5 mm_tX5 cn_X1_9 mm_iX5 mm_dX5 (by decide) (by decide) rfl rfl so_131.2 (by decide +kernel) (hz 131 (by decide)) rfl rfl ?_
  refine mm_dup dX1_init_8 rfl ?_
  refine mm_iconst (v := nI 4) dX1_init_9 (by decide) ?_
  refine mm_callI1 (dz := d - 1) (Mz := (1, 4)) (Al' := (2, 6)) dX1_init_10 rfl mzX5_init ml_X1_13 imX5_init ⟨rfl, rfl⟩ (by omega) (ini_X5 (a := 131) (t := 128) (t' := 129) (m := 4) (n1 := 132) (n2 := 133) (by omega) (fun x hx => hz x (by omega)) (by decide) (by decide) rfl rfl rfl so_131.2 sa_132.2 (by decide +kernel) (by decide +kernel) (by decide +kernel)) (Nat.le_of_ble_eq_true rfl) (by decide) rfl rfl rfl ?_
  refine mm_at (pc' := 13) rfl ?_
  refine mm_putrT (t' := 130) dX1_init_13 rfl rfl fk_X1_16 (fun C T N h => by cases h; exact ⟨rfl, rfl⟩) rfl ⟨(Nat.le_of_ble_eq_true rfl), so_130.2⟩ (Or.inl (Nat.le_of_ble_eq_true rfl)) (by decide +kernel) (by decide +kernel) rfl ?_
  refine mm_aload_n 0 dX1_init_16 rfl rfl ?_
  refine mm_iconst (v := nI 0) dX1_init_17 (by decide) ?_
  refine mm_iconst (v := nI 0) dX1_init_18 (by decide) ?_
  refine mm_cV2v (dz := d - 1) dX1_init_19 rfl mzX1_begin ml_X1_22 imX1_begin (by omega) ⟨(Nat.le_of_ble_eq_true rfl), so_130.2⟩ ⟨rfl, rfl⟩ (ini_X1_begin_130 (by omega)) (Nat.le_of_ble_eq_true rfl) (by decide) ?_
  refine mm_at (pc' := 22) rfl ?_
  exact mm_vret dX1_init_22 rfl (by decide) ⟨rfl, rfl, rfl⟩
def im_X1_beginScript_133 (I : mm_I) : mm_I := rw_fl (mm_up (mm_up (mm_up (I) 133 6 (-1)) 133 7 (nI 0)) 134 1 (nI 4)) 135 (nI 0) 4
theorem im_X1_beginScript_133_a {I : mm_I} {x : Nat} (h : 136 ≤ x) : im_X1_beginScript_133 I x = I x := by unfold im_X1_beginScript_133; rw [rw_fl_na (by omega), mm_up_a (by omega), mm_up_a (by omega), mm_up_a (by omega)]
set_option maxRecDepth 100000 in
set_option maxHeartbeats 4000000 in
theorem ini_X1_beginScript_133 {g : mm_G} {d : Nat} {I : mm_I} (hd : 4 ≤ d) : mm_Cv g zX1_beginScript d [.ref 133, .int (-1)] (shT 136 133) I (im_X1_beginScript_133 I) := by
  refine mm_begin (ls := [(0, .ref 133), (1, .int (-1))]) (Nat.le_of_ble_eq_true rfl) rfl rfl ?_
  refine mm_aload_n 0 dX1_beginScript_0 rfl rfl ?_
  refine mm_iload_n 1 dX1_beginScript_1 rfl rfl ?_
  refine mm_puti dX1_beginScript_2 rfl fk_X1_48 rfl fv_1_6 ⟨(Nat.le_of_ble_eq_true rfl), so_133.2⟩ ?_
  refine mm_aload_n 0 dX1_beginScript_5 rfl rfl ?_
  refine mm_iconst (v := nI 0) dX1_beginScript_6 (by decide) ?_
  refine mm_puti dX1_beginScript_7 rfl fk_X1_51 rfl fv_1_7 ⟨(Nat.le_of_ble_eq_true rfl), so_133.2⟩ ?_
  refine mm_aload_n 0 dX1_beginScript_10 rfl rfl ?_
  refine mm_getr (b := 134) dX1_beginScript_11 rfl fk_X1_16 rfl ⟨(Nat.le_of_ble_eq_true rfl), so_133.2⟩ (by decide +kernel) ?_
  refine mm_iconst (v := nI 4) dX1_beginScript_14 (by decide) ?_
  refine mm_iconst (v := nI 0) dX1_beginScript_15 (by decide) ?_
  refine mm_cV2v (dz := d - 1) dX1_beginScript_16 rfl mzX5_fill ml_X1_66 imX5_fill (by omega) ⟨(Nat.le_of_ble_eq_true rfl), so_134.2⟩ ⟨rfl, rfl⟩ (ct_fill (S := shT 136 133) (d := d - 1) (show rw_is (shT 136 133) 134 4 from ⟨⟨(Nat.le_of_ble_eq_true rfl), so_134.2⟩, (by decide +kernel), ⟨(Nat.le_of_ble_eq_true rfl), sa_135.2⟩, by decide⟩) 4 (by decide) (by omega)) (Nat.le_of_ble_eq_true rfl) (by decide) ?_
  refine mm_at (pc' := 19) rfl ?_
  exact mm_vret dX1_beginScript_19 rfl (by decide) ⟨rfl, rfl, rfl⟩
def im_X1_begin_133 (I : mm_I) : mm_I := im_X1_beginScript_133 (mm_up (mm_up (mm_up (mm_up (mm_up (mm_up (I) 133 0 (nI 0)) 133 1 (nI 0)) 133 2 (nI 50)) 133 3 (nI 0)) 133 4 (nI 0)) 133 5 (nI 0))
theorem im_X1_begin_133_a {I : mm_I} {x : Nat} (h : 136 ≤ x) : im_X1_begin_133 I x = I x := by unfold im_X1_begin_133; rw [im_X1_beginScript_133_a (by omega), mm_up_a (by omega), mm_up_a (by omega), mm_up_a (by omega), mm_up_a (by omega), mm_up_a (by omega), mm_up_a (by omega)]
set_option maxRecDepth 100000 in
set_option maxHeartbeats 4000000 in
theorem ini_X1_begin_133 {g : mm_G} {d : Nat} {I : mm_I} (hd : 5 ≤ d) : mm_Cv g zX1_begin d [.ref 133, .int (nI 0), .int (nI 0)] (shT 136 133) I (im_X1_begin_133 I) := by
  refine mm_begin (ls := [(0, .ref 133), (1, .int (nI 0)), (2, .int (nI 0))]) (Nat.le_of_ble_eq_true rfl) rfl rfl ?_
  refine mm_aload_n 0 dX1_begin_0 rfl rfl ?_
  refine mm_iload_n 1 dX1_begin_1 rfl rfl ?_
  refine mm_puti dX1_begin_2 rfl fk_X1_26 rfl fv_1_0 ⟨(Nat.le_of_ble_eq_true rfl), so_133.2⟩ ?_
  refine mm_aload_n 0 dX1_begin_5 rfl rfl ?_
  refine mm_iload_n 2 dX1_begin_6 rfl rfl ?_
  refine mm_puti dX1_begin_7 rfl fk_X1_30 rfl fv_1_1 ⟨(Nat.le_of_ble_eq_true rfl), so_133.2⟩ ?_
  refine mm_aload_n 0 dX1_begin_10 rfl rfl ?_
  refine mm_bipush (v := nI 50) dX1_begin_11 (by decide) ?_
  refine mm_puti dX1_begin_13 rfl fk_X1_33 rfl fv_1_2 ⟨(Nat.le_of_ble_eq_true rfl), so_133.2⟩ ?_
  refine mm_aload_n 0 dX1_begin_16 rfl rfl ?_
  refine mm_iconst (v := nI 0) dX1_begin_17 (by decide) ?_
  refine mm_puti dX1_begin_18 rfl fk_X1_36 rfl fv_1_3 ⟨(Nat.le_of_ble_eq_true rfl), so_133.2⟩ ?_
  refine mm_aload_n 0 dX1_begin_21 rfl rfl ?_
  refine mm_iconst (v := nI 0) dX1_begin_22 (by decide) ?_
  refine mm_puti dX1_begin_23 rfl fk_X1_39 rfl fv_1_4 ⟨(Nat.le_of_ble_eq_true rfl), so_133.2⟩ ?_
  refine mm_aload_n 0 dX1_begin_26 rfl rfl ?_
  refine mm_iconst (v := nI 0) dX1_begin_27 (by decide) ?_
  refine mm_puti dX1_begin_28 rfl fk_X1_42 rfl fv_1_5 ⟨(Nat.le_of_ble_eq_true rfl), so_133.2⟩ ?_
  refine mm_aload_n 0 dX1_begin_31 rfl rfl ?_
  refine mm_iconst (v := -1) dX1_begin_32 (by decide) ?_
  refine mm_cV1v (dz := d - 1) dX1_begin_33 rfl mzX1_beginScript ml_X1_45 imX1_beginScript (by omega) ⟨(Nat.le_of_ble_eq_true rfl), so_133.2⟩ ⟨rfl, rfl⟩ (ini_X1_beginScript_133 (by omega)) (Nat.le_of_ble_eq_true rfl) (by decide) ?_
  refine mm_at (pc' := 36) rfl ?_
  exact mm_vret dX1_begin_36 rfl (by decide) ⟨rfl, rfl, rfl⟩
def im_X1_133 (I : mm_I) : mm_I := im_X1_begin_133 (I)
theorem im_X1_133_a {I : mm_I} {x : Nat} (h : 136 ≤ x) : im_X1_133 I x = I x := by unfold im_X1_133; rw [im_X1_begin_133_a (by omega)]
set_option maxRecDepth 100000 in
set_option maxHeartbeats 4000000 in
theorem ini_X1_133 {g : mm_G} {d : Nat} {I : mm_I} (hd : 6 ≤ d) (hz : ∀ x, 133 ≤ x → ∀ k, I x k = 0) : mm_Ct g zX1_init d (2, 6) [.ref 133] (shT 134 131) I (fun r S' I' => r = none ∧ S' = shT 136 133 ∧ I' = im_X1_133 I) := by
  refine mm_begin (ls := [(0, .ref 133)]) (Nat.le_of_ble_eq_true rfl) rfl rfl ?_
  refine mm_aload_n 0 dX1_init_0 rfl rfl ?_
  refine mm_obj dX1_init_1 rfl ml_X1_3 jm_obj (by omega) (Nat.le_of_ble_eq_true rfl) ?_
  refine mm_at (pc' := 4) rfl ?_
  refine mm_aload_n 0 dX1_init_4 rfl rfl ?_
  refine mm_newT (ci := 5) (C := RX5) (T := TX5) (n' := 135) (Al' := (1, 2)) dX1_init_5 rfl rfl mm_wX5 mm_tX5 cn_X1_9 mm_iX5 mm_dX5 (by decide) (by decide) rfl rfl so_134.2 (by decide +kernel) (hz 134 (by decide)) rfl rfl ?_
  refine mm_dup dX1_init_8 rfl ?_
  refine mm_iconst (v := nI 4) dX1_init_9 (by decide) ?_
  refine mm_callI1 (dz := d - 1) (Mz := (1, 4)) (Al' := (2, 6)) dX1_init_10 rfl mzX5_init ml_X1_13 imX5_init ⟨rfl, rfl⟩ (by omega) (ini_X5 (a := 134) (t := 131) (t' := 132) (m := 4) (n1 := 135) (n2 := 136) (by omega) (fun x hx => hz x (by omega)) (by decide) (by decide) rfl rfl rfl so_134.2 sa_135.2 (by decide +kernel) (by decide +kernel) (by decide +kernel)) (Nat.le_of_ble_eq_true rfl) (by decide) rfl rfl rfl ?_
  refine mm_at (pc' := 13) rfl ?_
  refine mm_putrT (t' := 133) dX1_init_13 rfl rfl fk_X1_16 (fun C T N h => by cases h; exact ⟨rfl, rfl⟩) rfl ⟨(Nat.le_of_ble_eq_true rfl), so_133.2⟩ (Or.inl (Nat.le_of_ble_eq_true rfl)) (by decide +kernel) (by decide +kernel) rfl ?_
  refine mm_aload_n 0 dX1_init_16 rfl rfl ?_
  refine mm_iconst (v := nI 0) dX1_init_17 (by decide) ?_
  refine mm_iconst (v := nI 0) dX1_init_18 (by decide) ?_
  refine mm_cV2v (dz := d - 1) dX1_init_19 rfl mzX1_begin ml_X1_22 imX1_begin (by omega) ⟨(Nat.le_of_ble_eq_true rfl), so_133.2⟩ ⟨rfl, rfl⟩ (ini_X1_begin_133 (by omega)) (Nat.le_of_ble_eq_true rfl) (by decide) ?_
  refine mm_at (pc' := 22) rfl ?_
  exact mm_vret dX1_init_22 rfl (by decide) ⟨rfl, rfl, rfl⟩
set_option maxRecDepth 100000 in
set_option maxHeartbeats 4000000 in
theorem ini_X4_137 {g : mm_G} {d : Nat} {I : mm_I} (hd : 4 ≤ d) (hz : ∀ x, 137 ≤ x → ∀ k, I x k = 0) : mm_Ct g zX4_init d (4, 220) [.ref 137] (shT 138 135) I (fun r S' I' => r = none ∧ S' = shT 142 139 ∧ I' = I) := by
  refine mm_begin (ls := [(0, .ref 137)]) (Nat.le_of_ble_eq_true rfl) rfl rfl ?_
  refine mm_aload_n 0 dX4_init_0 rfl rfl ?_
  refine mm_obj dX4_init_1 rfl ml_X4_3 jm_obj (by omega) (Nat.le_of_ble_eq_true rfl) ?_
  refine mm_at (pc' := 4) rfl ?_
  refine mm_aload_n 0 dX4_init_4 rfl rfl ?_
  refine mm_newT (ci := 5) (C := RX5) (T := TX5) (n' := 139) (Al' := (1, 2)) dX4_init_5 rfl rfl mm_wX5 mm_tX5 cn_X4_9 mm_iX5 mm_dX5 (by decide) (by decide) rfl rfl so_138.2 (by decide +kernel) (hz 138 (by decide)) rfl rfl ?_
  refine mm_dup dX4_init_8 rfl ?_
  refine mm_bipush (v := nI 120) dX4_init_9 (by decide) ?_
  refine mm_callI1 (dz := d - 1) (Mz := (1, 120)) (Al' := (2, 122)) dX4_init_11 rfl mzX5_init ml_X4_13 imX5_init ⟨rfl, rfl⟩ (by omega) (ini_X5 (a := 138) (t := 135) (t' := 136) (m := 120) (n1 := 139) (n2 := 140) (by omega) (fun x hx => hz x (by omega)) (by decide) (by decide) rfl rfl rfl so_138.2 sa_139.2 (by decide +kernel) (by decide +kernel) (by decide +kernel)) (Nat.le_of_ble_eq_true rfl) (by decide) rfl rfl rfl ?_
  refine mm_at (pc' := 14) rfl ?_
  refine mm_putrT (t' := 137) dX4_init_14 rfl rfl fk_X4_16 (fun C T N h => by cases h; exact ⟨rfl, rfl⟩) rfl ⟨(Nat.le_of_ble_eq_true rfl), so_137.2⟩ (Or.inl (Nat.le_of_ble_eq_true rfl)) (by decide +kernel) (by decide +kernel) rfl ?_
  refine mm_aload_n 0 dX4_init_17 rfl rfl ?_
  refine mm_newT (ci := 5) (C := RX5) (T := TX5) (n' := 141) (Al' := (3, 124)) dX4_init_18 rfl rfl mm_wX5 mm_tX5 cn_X4_9 mm_iX5 mm_dX5 (by decide) (by decide) rfl rfl so_140.2 (by decide +kernel) (hz 140 (by decide)) rfl rfl ?_
  refine mm_dup dX4_init_21 rfl ?_
  refine mm_bipush (v := nI 96) dX4_init_22 (by decide) ?_
  refine mm_callI1 (dz := d - 1) (Mz := (1, 96)) (Al' := (4, 220)) dX4_init_24 rfl mzX5_init ml_X4_13 imX5_init ⟨rfl, rfl⟩ (by omega) (ini_X5 (a := 140) (t := 137) (t' := 138) (m := 96) (n1 := 141) (n2 := 142) (by omega) (fun x hx => hz x (by omega)) (by decide) (by decide) rfl rfl rfl so_140.2 sa_141.2 (by decide +kernel) (by decide +kernel) (by decide +kernel)) (Nat.le_of_ble_eq_true rfl) (by decide) rfl rfl rfl ?_
  refine mm_at (pc' := 27) rfl ?_
  refine mm_putrT (t' := 139) dX4_init_27 rfl rfl fk_X4_20 (fun C T N h => by cases h; exact ⟨rfl, rfl⟩) rfl ⟨(Nat.le_of_ble_eq_true rfl), so_137.2⟩ (Or.inl (Nat.le_of_ble_eq_true rfl)) (by decide +kernel) (by decide +kernel) rfl ?_
  refine mm_aload_n 0 dX4_init_30 rfl rfl ?_
  refine mm_iconst (v := nI 0) dX4_init_31 (by decide) ?_
  refine mm_puti dX4_init_32 rfl fk_X4_23 rfl fv_4_2 ⟨(Nat.le_of_ble_eq_true rfl), so_137.2⟩ ?_
  rw [mm_up_id (show I 137 2 = nI 0 from hz 137 (by decide) 2)]
  exact mm_vret dX4_init_35 rfl (by decide) ⟨rfl, rfl, rfl⟩
set_option maxRecDepth 100000 in
set_option maxHeartbeats 4000000 in
theorem ini_X4_142 {g : mm_G} {d : Nat} {I : mm_I} (hd : 4 ≤ d) (hz : ∀ x, 142 ≤ x → ∀ k, I x k = 0) : mm_Ct g zX4_init d (4, 220) [.ref 142] (shT 143 140) I (fun r S' I' => r = none ∧ S' = shT 147 144 ∧ I' = I) := by
  refine mm_begin (ls := [(0, .ref 142)]) (Nat.le_of_ble_eq_true rfl) rfl rfl ?_
  refine mm_aload_n 0 dX4_init_0 rfl rfl ?_
  refine mm_obj dX4_init_1 rfl ml_X4_3 jm_obj (by omega) (Nat.le_of_ble_eq_true rfl) ?_
  refine mm_at (pc' := 4) rfl ?_
  refine mm_aload_n 0 dX4_init_4 rfl rfl ?_
  refine mm_newT (ci := 5) (C := RX5) (T := TX5) (n' := 144) (Al' := (1, 2)) dX4_init_5 rfl rfl mm_wX5 mm_tX5 cn_X4_9 mm_iX5 mm_dX5 (by decide) (by decide) rfl rfl so_143.2 (by decide +kernel) (hz 143 (by decide)) rfl rfl ?_
  refine mm_dup dX4_init_8 rfl ?_
  refine mm_bipush (v := nI 120) dX4_init_9 (by decide) ?_
  refine mm_callI1 (dz := d - 1) (Mz := (1, 120)) (Al' := (2, 122)) dX4_init_11 rfl mzX5_init ml_X4_13 imX5_init ⟨rfl, rfl⟩ (by omega) (ini_X5 (a := 143) (t := 140) (t' := 141) (m := 120) (n1 := 144) (n2 := 145) (by omega) (fun x hx => hz x (by omega)) (by decide) (by decide) rfl rfl rfl so_143.2 sa_144.2 (by decide +kernel) (by decide +kernel) (by decide +kernel)) (Nat.le_of_ble_eq_true rfl) (by decide) rfl rfl rfl ?_
  refine mm_at (pc' := 14) rfl ?_
  refine mm_putrT (t' := 142) dX4_init_14 rfl rfl fk_X4_16 (fun C T N h => by cases h; exact ⟨rfl, rfl⟩) rfl ⟨(Nat.le_of_ble_eq_true rfl), so_142.2⟩ (Or.inl (Nat.le_of_ble_eq_true rfl)) (by decide +kernel) (by decide +kernel) rfl ?_
  refine mm_aload_n 0 dX4_init_17 rfl rfl ?_
  refine mm_newT (ci := 5) (C := RX5) (T := TX5) (n' := 146) (Al' := (3, 124)) dX4_init_18 rfl rfl mm_wX5 mm_tX5 cn_X4_9 mm_iX5 mm_dX5 (by decide) (by decide) rfl rfl so_145.2 (by decide +kernel) (hz 145 (by decide)) rfl rfl ?_
  refine mm_dup dX4_init_21 rfl ?_
  refine mm_bipush (v := nI 96) dX4_init_22 (by decide) ?_
  refine mm_callI1 (dz := d - 1) (Mz := (1, 96)) (Al' := (4, 220)) dX4_init_24 rfl mzX5_init ml_X4_13 imX5_init ⟨rfl, rfl⟩ (by omega) (ini_X5 (a := 145) (t := 142) (t' := 143) (m := 96) (n1 := 146) (n2 := 147) (by omega) (fun x hx => hz x (by omega)) (by decide) (by decide) rfl rfl rfl so_145.2 sa_146.2 (by decide +kernel) (by decide +kernel) (by decide +kernel)) (Nat.le_of_ble_eq_true rfl) (by decide) rfl rfl rfl ?_
  refine mm_at (pc' := 27) rfl ?_
  refine mm_putrT (t' := 144) dX4_init_27 rfl rfl fk_X4_20 (fun C T N h => by cases h; exact ⟨rfl, rfl⟩) rfl ⟨(Nat.le_of_ble_eq_true rfl), so_142.2⟩ (Or.inl (Nat.le_of_ble_eq_true rfl)) (by decide +kernel) (by decide +kernel) rfl ?_
  refine mm_aload_n 0 dX4_init_30 rfl rfl ?_
  refine mm_iconst (v := nI 0) dX4_init_31 (by decide) ?_
  refine mm_puti dX4_init_32 rfl fk_X4_23 rfl fv_4_2 ⟨(Nat.le_of_ble_eq_true rfl), so_142.2⟩ ?_
  rw [mm_up_id (show I 142 2 = nI 0 from hz 142 (by decide) 2)]
  exact mm_vret dX4_init_35 rfl (by decide) ⟨rfl, rfl, rfl⟩
set_option maxRecDepth 100000 in
set_option maxHeartbeats 4000000 in
theorem ini_X4_147 {g : mm_G} {d : Nat} {I : mm_I} (hd : 4 ≤ d) (hz : ∀ x, 147 ≤ x → ∀ k, I x k = 0) : mm_Ct g zX4_init d (4, 220) [.ref 147] (shT 148 145) I (fun r S' I' => r = none ∧ S' = shT 152 149 ∧ I' = I) := by
  refine mm_begin (ls := [(0, .ref 147)]) (Nat.le_of_ble_eq_true rfl) rfl rfl ?_
  refine mm_aload_n 0 dX4_init_0 rfl rfl ?_
  refine mm_obj dX4_init_1 rfl ml_X4_3 jm_obj (by omega) (Nat.le_of_ble_eq_true rfl) ?_
  refine mm_at (pc' := 4) rfl ?_
  refine mm_aload_n 0 dX4_init_4 rfl rfl ?_
  refine mm_newT (ci := 5) (C := RX5) (T := TX5) (n' := 149) (Al' := (1, 2)) dX4_init_5 rfl rfl mm_wX5 mm_tX5 cn_X4_9 mm_iX5 mm_dX5 (by decide) (by decide) rfl rfl so_148.2 (by decide +kernel) (hz 148 (by decide)) rfl rfl ?_
  refine mm_dup dX4_init_8 rfl ?_
  refine mm_bipush (v := nI 120) dX4_init_9 (by decide) ?_
  refine mm_callI1 (dz := d - 1) (Mz := (1, 120)) (Al' := (2, 122)) dX4_init_11 rfl mzX5_init ml_X4_13 imX5_init ⟨rfl, rfl⟩ (by omega) (ini_X5 (a := 148) (t := 145) (t' := 146) (m := 120) (n1 := 149) (n2 := 150) (by omega) (fun x hx => hz x (by omega)) (by decide) (by decide) rfl rfl rfl so_148.2 sa_149.2 (by decide +kernel) (by decide +kernel) (by decide +kernel)) (Nat.le_of_ble_eq_true rfl) (by decide) rfl rfl rfl ?_
  refine mm_at (pc' := 14) rfl ?_
  refine mm_putrT (t' := 147) dX4_init_14 rfl rfl fk_X4_16 (fun C T N h => by cases h; exact ⟨rfl, rfl⟩) rfl ⟨(Nat.le_of_ble_eq_true rfl), so_147.2⟩ (Or.inl (Nat.le_of_ble_eq_true rfl)) (by decide +kernel) (by decide +kernel) rfl ?_
  refine mm_aload_n 0 dX4_init_17 rfl rfl ?_
  refine mm_newT (ci := 5) (C := RX5) (T := TX5) (n' := 151) (Al' := (3, 124)) dX4_init_18 rfl rfl mm_wX5 mm_tX5 cn_X4_9 mm_iX5 mm_dX5 (by decide) (by decide) rfl rfl so_150.2 (by decide +kernel) (hz 150 (by decide)) rfl rfl ?_
  refine mm_dup dX4_init_21 rfl ?_
  refine mm_bipush (v := nI 96) dX4_init_22 (by decide) ?_
  refine mm_callI1 (dz := d - 1) (Mz := (1, 96)) (Al' := (4, 220)) dX4_init_24 rfl mzX5_init ml_X4_13 imX5_init ⟨rfl, rfl⟩ (by omega) (ini_X5 (a := 150) (t := 147) (t' := 148) (m := 96) (n1 := 151) (n2 := 152) (by omega) (fun x hx => hz x (by omega)) (by decide) (by decide) rfl rfl rfl so_150.2 sa_151.2 (by decide +kernel) (by decide +kernel) (by decide +kernel)) (Nat.le_of_ble_eq_true rfl) (by decide) rfl rfl rfl ?_
  refine mm_at (pc' := 27) rfl ?_
  refine mm_putrT (t' := 149) dX4_init_27 rfl rfl fk_X4_20 (fun C T N h => by cases h; exact ⟨rfl, rfl⟩) rfl ⟨(Nat.le_of_ble_eq_true rfl), so_147.2⟩ (Or.inl (Nat.le_of_ble_eq_true rfl)) (by decide +kernel) (by decide +kernel) rfl ?_
  refine mm_aload_n 0 dX4_init_30 rfl rfl ?_
  refine mm_iconst (v := nI 0) dX4_init_31 (by decide) ?_
  refine mm_puti dX4_init_32 rfl fk_X4_23 rfl fv_4_2 ⟨(Nat.le_of_ble_eq_true rfl), so_147.2⟩ ?_
  rw [mm_up_id (show I 147 2 = nI 0 from hz 147 (by decide) 2)]
  exact mm_vret dX4_init_35 rfl (by decide) ⟨rfl, rfl, rfl⟩
set_option maxRecDepth 100000 in
set_option maxHeartbeats 4000000 in
theorem ini_X4_152 {g : mm_G} {d : Nat} {I : mm_I} (hd : 4 ≤ d) (hz : ∀ x, 152 ≤ x → ∀ k, I x k = 0) : mm_Ct g zX4_init d (4, 220) [.ref 152] (shT 153 150) I (fun r S' I' => r = none ∧ S' = shT 157 154 ∧ I' = I) := by
  refine mm_begin (ls := [(0, .ref 152)]) (Nat.le_of_ble_eq_true rfl) rfl rfl ?_
  refine mm_aload_n 0 dX4_init_0 rfl rfl ?_
  refine mm_obj dX4_init_1 rfl ml_X4_3 jm_obj (by omega) (Nat.le_of_ble_eq_true rfl) ?_
  refine mm_at (pc' := 4) rfl ?_
  refine mm_aload_n 0 dX4_init_4 rfl rfl ?_
  refine mm_newT (ci := 5) (C := RX5) (T := TX5) (n' := 154) (Al' := (1, 2)) dX4_init_5 rfl rfl mm_wX5 mm_tX5 cn_X4_9 mm_iX5 mm_dX5 (by decide) (by decide) rfl rfl so_153.2 (by decide +kernel) (hz 153 (by decide)) rfl rfl ?_
  refine mm_dup dX4_init_8 rfl ?_
  refine mm_bipush (v := nI 120) dX4_init_9 (by decide) ?_
  refine mm_callI1 (dz := d - 1) (Mz := (1, 120)) (Al' := (2, 122)) dX4_init_11 rfl mzX5_init ml_X4_13 imX5_init ⟨rfl, rfl⟩ (by omega) (ini_X5 (a := 153) (t := 150) (t' := 151) (m := 120) (n1 := 154) (n2 := 155) (by omega) (fun x hx => hz x (by omega)) (by decide) (by decide) rfl rfl rfl so_153.2 sa_154.2 (by decide +kernel) (by decide +kernel) (by decide +kernel)) (Nat.le_of_ble_eq_true rfl) (by decide) rfl rfl rfl ?_
  refine mm_at (pc' := 14) rfl ?_
  refine mm_putrT (t' := 152) dX4_init_14 rfl rfl fk_X4_16 (fun C T N h => by cases h; exact ⟨rfl, rfl⟩) rfl ⟨(Nat.le_of_ble_eq_true rfl), so_152.2⟩ (Or.inl (Nat.le_of_ble_eq_true rfl)) (by decide +kernel) (by decide +kernel) rfl ?_
  refine mm_aload_n 0 dX4_init_17 rfl rfl ?_
  refine mm_newT (ci := 5) (C := RX5) (T := TX5) (n' := 156) (Al' := (3, 124)) dX4_init_18 rfl rfl mm_wX5 mm_tX5 cn_X4_9 mm_iX5 mm_dX5 (by decide) (by decide) rfl rfl so_155.2 (by decide +kernel) (hz 155 (by decide)) rfl rfl ?_
  refine mm_dup dX4_init_21 rfl ?_
  refine mm_bipush (v := nI 96) dX4_init_22 (by decide) ?_
  refine mm_callI1 (dz := d - 1) (Mz := (1, 96)) (Al' := (4, 220)) dX4_init_24 rfl mzX5_init ml_X4_13 imX5_init ⟨rfl, rfl⟩ (by omega) (ini_X5 (a := 155) (t := 152) (t' := 153) (m := 96) (n1 := 156) (n2 := 157) (by omega) (fun x hx => hz x (by omega)) (by decide) (by decide) rfl rfl rfl so_155.2 sa_156.2 (by decide +kernel) (by decide +kernel) (by decide +kernel)) (Nat.le_of_ble_eq_true rfl) (by decide) rfl rfl rfl ?_
  refine mm_at (pc' := 27) rfl ?_
  refine mm_putrT (t' := 154) dX4_init_27 rfl rfl fk_X4_20 (fun C T N h => by cases h; exact ⟨rfl, rfl⟩) rfl ⟨(Nat.le_of_ble_eq_true rfl), so_152.2⟩ (Or.inl (Nat.le_of_ble_eq_true rfl)) (by decide +kernel) (by decide +kernel) rfl ?_
  refine mm_aload_n 0 dX4_init_30 rfl rfl ?_
  refine mm_iconst (v := nI 0) dX4_init_31 (by decide) ?_
  refine mm_puti dX4_init_32 rfl fk_X4_23 rfl fv_4_2 ⟨(Nat.le_of_ble_eq_true rfl), so_152.2⟩ ?_
  rw [mm_up_id (show I 152 2 = nI 0 from hz 152 (by decide) 2)]
  exact mm_vret dX4_init_35 rfl (by decide) ⟨rfl, rfl, rfl⟩
set_option maxRecDepth 100000 in
set_option maxHeartbeats 4000000 in
theorem ini_X4_157 {g : mm_G} {d : Nat} {I : mm_I} (hd : 4 ≤ d) (hz : ∀ x, 157 ≤ x → ∀ k, I x k = 0) : mm_Ct g zX4_init d (4, 220) [.ref 157] (shT 158 155) I (fun r S' I' => r = none ∧ S' = shT 162 159 ∧ I' = I) := by
  refine mm_begin (ls := [(0, .ref 157)]) (Nat.le_of_ble_eq_true rfl) rfl rfl ?_
  refine mm_aload_n 0 dX4_init_0 rfl rfl ?_
  refine mm_obj dX4_init_1 rfl ml_X4_3 jm_obj (by omega) (Nat.le_of_ble_eq_true rfl) ?_
  refine mm_at (pc' := 4) rfl ?_
  refine mm_aload_n 0 dX4_init_4 rfl rfl ?_
  refine mm_newT (ci := 5) (C := RX5) (T := TX5) (n' := 159) (Al' := (1, 2)) dX4_init_5 rfl rfl mm_wX5 mm_tX5 cn_X4_9 mm_iX5 mm_dX5 (by decide) (by decide) rfl rfl so_158.2 (by decide +kernel) (hz 158 (by decide)) rfl rfl ?_
  refine mm_dup dX4_init_8 rfl ?_
  refine mm_bipush (v := nI 120) dX4_init_9 (by decide) ?_
  refine mm_callI1 (dz := d - 1) (Mz := (1, 120)) (Al' := (2, 122)) dX4_init_11 rfl mzX5_init ml_X4_13 imX5_init ⟨rfl, rfl⟩ (by omega) (ini_X5 (a := 158) (t := 155) (t' := 156) (m := 120) (n1 := 159) (n2 := 160) (by omega) (fun x hx => hz x (by omega)) (by decide) (by decide) rfl rfl rfl so_158.2 sa_159.2 (by decide +kernel) (by decide +kernel) (by decide +kernel)) (Nat.le_of_ble_eq_true rfl) (by decide) rfl rfl rfl ?_
  refine mm_at (pc' := 14) rfl ?_
  refine mm_putrT (t' := 157) dX4_init_14 rfl rfl fk_X4_16 (fun C T N h => by cases h; exact ⟨rfl, rfl⟩) rfl ⟨(Nat.le_of_ble_eq_true rfl), so_157.2⟩ (Or.inl (Nat.le_of_ble_eq_true rfl)) (by decide +kernel) (by decide +kernel) rfl ?_
  refine mm_aload_n 0 dX4_init_17 rfl rfl ?_
  refine mm_newT (ci := 5) (C := RX5) (T := TX5) (n' := 161) (Al' := (3, 124)) dX4_init_18 rfl rfl mm_wX5 mm_tX5 cn_X4_9 mm_iX5 mm_dX5 (by decide) (by decide) rfl rfl so_160.2 (by decide +kernel) (hz 160 (by decide)) rfl rfl ?_
  refine mm_dup dX4_init_21 rfl ?_
  refine mm_bipush (v := nI 96) dX4_init_22 (by decide) ?_
  refine mm_callI1 (dz := d - 1) (Mz := (1, 96)) (Al' := (4, 220)) dX4_init_24 rfl mzX5_init ml_X4_13 imX5_init ⟨rfl, rfl⟩ (by omega) (ini_X5 (a := 160) (t := 157) (t' := 158) (m := 96) (n1 := 161) (n2 := 162) (by omega) (fun x hx => hz x (by omega)) (by decide) (by decide) rfl rfl rfl so_160.2 sa_161.2 (by decide +kernel) (by decide +kernel) (by decide +kernel)) (Nat.le_of_ble_eq_true rfl) (by decide) rfl rfl rfl ?_
  refine mm_at (pc' := 27) rfl ?_
  refine mm_putrT (t' := 159) dX4_init_27 rfl rfl fk_X4_20 (fun C T N h => by cases h; exact ⟨rfl, rfl⟩) rfl ⟨(Nat.le_of_ble_eq_true rfl), so_157.2⟩ (Or.inl (Nat.le_of_ble_eq_true rfl)) (by decide +kernel) (by decide +kernel) rfl ?_
  refine mm_aload_n 0 dX4_init_30 rfl rfl ?_
  refine mm_iconst (v := nI 0) dX4_init_31 (by decide) ?_
  refine mm_puti dX4_init_32 rfl fk_X4_23 rfl fv_4_2 ⟨(Nat.le_of_ble_eq_true rfl), so_157.2⟩ ?_
  rw [mm_up_id (show I 157 2 = nI 0 from hz 157 (by decide) 2)]
  exact mm_vret dX4_init_35 rfl (by decide) ⟨rfl, rfl, rfl⟩
set_option maxRecDepth 100000 in
set_option maxHeartbeats 4000000 in
theorem ini_X4_162 {g : mm_G} {d : Nat} {I : mm_I} (hd : 4 ≤ d) (hz : ∀ x, 162 ≤ x → ∀ k, I x k = 0) : mm_Ct g zX4_init d (4, 220) [.ref 162] (shT 163 160) I (fun r S' I' => r = none ∧ S' = shT 167 164 ∧ I' = I) := by
  refine mm_begin (ls := [(0, .ref 162)]) (Nat.le_of_ble_eq_true rfl) rfl rfl ?_
  refine mm_aload_n 0 dX4_init_0 rfl rfl ?_
  refine mm_obj dX4_init_1 rfl ml_X4_3 jm_obj (by omega) (Nat.le_of_ble_eq_true rfl) ?_
  refine mm_at (pc' := 4) rfl ?_
  refine mm_aload_n 0 dX4_init_4 rfl rfl ?_
  refine mm_newT (ci := 5) (C := RX5) (T := TX5) (n' := 164) (Al' := (1, 2)) dX4_init_5 rfl rfl mm_wX5 mm_tX5 cn_X4_9 mm_iX5 mm_dX5 (by decide) (by decide) rfl rfl so_163.2 (by decide +kernel) (hz 163 (by decide)) rfl rfl ?_
  refine mm_dup dX4_init_8 rfl ?_
  refine mm_bipush (v := nI 120) dX4_init_9 (by decide) ?_
  refine mm_callI1 (dz := d - 1) (Mz := (1, 120)) (Al' := (2, 122)) dX4_init_11 rfl mzX5_init ml_X4_13 imX5_init ⟨rfl, rfl⟩ (by omega) (ini_X5 (a := 163) (t := 160) (t' := 161) (m := 120) (n1 := 164) (n2 := 165) (by omega) (fun x hx => hz x (by omega)) (by decide) (by decide) rfl rfl rfl so_163.2 sa_164.2 (by decide +kernel) (by decide +kernel) (by decide +kernel)) (Nat.le_of_ble_eq_true rfl) (by decide) rfl rfl rfl ?_
  refine mm_at (pc' := 14) rfl ?_
  refine mm_putrT (t' := 162) dX4_init_14 rfl rfl fk_X4_16 (fun C T N h => by cases h; exact ⟨rfl, rfl⟩) rfl ⟨(Nat.le_of_ble_eq_true rfl), so_162.2⟩ (Or.inl (Nat.le_of_ble_eq_true rfl)) (by decide +kernel) (by decide +kernel) rfl ?_
  refine mm_aload_n 0 dX4_init_17 rfl rfl ?_
  refine mm_newT (ci := 5) (C := RX5) (T := TX5) (n' := 166) (Al' := (3, 124)) dX4_init_18 rfl rfl mm_wX5 mm_tX5 cn_X4_9 mm_iX5 mm_dX5 (by decide) (by decide) rfl rfl so_165.2 (by decide +kernel) (hz 165 (by decide)) rfl rfl ?_
  refine mm_dup dX4_init_21 rfl ?_
  refine mm_bipush (v := nI 96) dX4_init_22 (by decide) ?_
  refine mm_callI1 (dz := d - 1) (Mz := (1, 96)) (Al' := (4, 220)) dX4_init_24 rfl mzX5_init ml_X4_13 imX5_init ⟨rfl, rfl⟩ (by omega) (ini_X5 (a := 165) (t := 162) (t' := 163) (m := 96) (n1 := 166) (n2 := 167) (by omega) (fun x hx => hz x (by omega)) (by decide) (by decide) rfl rfl rfl so_165.2 sa_166.2 (by decide +kernel) (by decide +kernel) (by decide +kernel)) (Nat.le_of_ble_eq_true rfl) (by decide) rfl rfl rfl ?_
  refine mm_at (pc' := 27) rfl ?_
  refine mm_putrT (t' := 164) dX4_init_27 rfl rfl fk_X4_20 (fun C T N h => by cases h; exact ⟨rfl, rfl⟩) rfl ⟨(Nat.le_of_ble_eq_true rfl), so_162.2⟩ (Or.inl (Nat.le_of_ble_eq_true rfl)) (by decide +kernel) (by decide +kernel) rfl ?_
  refine mm_aload_n 0 dX4_init_30 rfl rfl ?_
  refine mm_iconst (v := nI 0) dX4_init_31 (by decide) ?_
  refine mm_puti dX4_init_32 rfl fk_X4_23 rfl fv_4_2 ⟨(Nat.le_of_ble_eq_true rfl), so_162.2⟩ ?_
  rw [mm_up_id (show I 162 2 = nI 0 from hz 162 (by decide) 2)]
  exact mm_vret dX4_init_35 rfl (by decide) ⟨rfl, rfl, rfl⟩
def im_X8_86 (I : mm_I) : mm_I := mm_up (im_X1_133 (im_X1_130 (im_X1_127 (im_X1_124 (im_X1_121 (im_X3_102 (im_X0_87 (I)))))))) 86 4 (nI 0)
theorem im_X8_86_a {I : mm_I} {x : Nat} (h : 171 ≤ x) : im_X8_86 I x = I x := by unfold im_X8_86; rw [mm_up_a (by omega), im_X1_133_a (by omega), im_X1_130_a (by omega), im_X1_127_a (by omega), im_X1_124_a (by omega), im_X1_121_a (by omega), im_X3_102_a (by omega), im_X0_87_a (by omega)]
set_option maxRecDepth 100000 in
set_option maxHeartbeats 4000000 in
theorem ini_X8_86 {g : mm_G} {d : Nat} {I : mm_I} (hd : 9 ≤ d) (hz : ∀ x, 86 ≤ x → ∀ k, I x k = 0) : mm_Ct g zX8_init d (84, 2601) [.ref 86] (shT 87 85) I (fun r S' I' => r = none ∧ S' = shT 171 169 ∧ I' = im_X8_86 I) := by
  refine mm_begin (ls := [(0, .ref 86)]) (Nat.le_of_ble_eq_true rfl) rfl rfl ?_
  refine mm_aload_n 0 dX8_init_0 rfl rfl ?_
  refine mm_obj dX8_init_1 rfl ml_X8_3 jm_obj (by omega) (Nat.le_of_ble_eq_true rfl) ?_
  refine mm_at (pc' := 4) rfl ?_
  refine mm_aload_n 0 dX8_init_4 rfl rfl ?_
  refine mm_newT (ci := 0) (C := RX0) (T := TX0) (n' := 88) (Al' := (1, 11)) dX8_init_5 rfl rfl mm_wX0 mm_tX0 cn_X8_9 mm_iX0 mm_dX0 (by decide) (by decide) rfl rfl so_87.2 (by decide +kernel) (hz 87 (by decide)) rfl rfl ?_
  refine mm_dup dX8_init_8 rfl ?_
  refine mm_callI0 (dz := d - 1) (Mz := (14, 737)) (Al' := (15, 748)) dX8_init_9 rfl mzX0_init ml_X8_11 imX0_init ⟨rfl, rfl⟩ (by omega) (ini_X0_87 (by omega) (fun x hx => hz x (by omega))) (Nat.le_of_ble_eq_true rfl) (by decide) rfl rfl rfl ?_
  refine mm_at (pc' := 12) rfl ?_
  refine mm_putrT (t' := 100) dX8_init_12 rfl rfl fk_X8_12 (fun C T N h => by cases h; exact ⟨rfl, rfl⟩) rfl ⟨(Nat.le_of_ble_eq_true rfl), so_86.2⟩ (Or.inl (Nat.le_of_ble_eq_true rfl)) (by decide +kernel) (by decide +kernel) rfl ?_
  refine mm_aload_n 0 dX8_init_15 rfl rfl ?_
  refine mm_newT (ci := 3) (C := RX3) (T := TX3) (n' := 103) (Al' := (16, 758)) dX8_init_16 rfl rfl mm_wX3 mm_tX3 cn_X8_18 mm_iX3 mm_dX3 (by decide) (by decide) rfl rfl so_102.2 (by decide +kernel) (fun k => by rw [im_X0_87_a (by decide)]; exact hz 102 (by decide) k) rfl rfl ?_
  refine mm_dup dX8_init_19 rfl ?_
  refine mm_callI0 (dz := d - 1) (Mz := (4, 20)) (Al' := (20, 778)) dX8_init_20 rfl mzX3_init ml_X8_20 imX3_init ⟨rfl, rfl⟩ (by omega) (ini_X3_102 (by omega) (fun x hx k => by rw [im_X0_87_a (by omega)]; exact hz x (by omega) k)) (Nat.le_of_ble_eq_true rfl) (by decide) rfl rfl rfl ?_
  refine mm_at (pc' := 23) rfl ?_
  refine mm_putrT (t' := 105) dX8_init_23 rfl rfl fk_X8_21 (fun C T N h => by cases h; exact ⟨rfl, rfl⟩) rfl ⟨(Nat.le_of_ble_eq_true rfl), so_86.2⟩ (Or.inl (Nat.le_of_ble_eq_true rfl)) (by decide +kernel) (by decide +kernel) rfl ?_
  refine mm_aload_n 0 dX8_init_26 rfl rfl ?_
  refine mm_newT (ci := 10) (C := RX10) (T := TX10) (n' := 108) (Al' := (21, 789)) dX8_init_27 rfl rfl mm_wX10 mm_tX10 cn_X8_25 mm_iX10 mm_dX10 (by decide) (by decide) rfl rfl so_107.2 (by decide +kernel) (fun k => by rw [im_X3_102_a (by decide), im_X0_87_a (by decide)]; exact hz 107 (by decide) k) rfl rfl ?_
  refine mm_dup dX8_init_30 rfl ?_
  refine mm_callI0 (dz := d - 1) (Mz := (12, 48)) (Al' := (33, 837)) dX8_init_31 rfl mzX10_init ml_X8_27 imX10_init ⟨rfl, rfl⟩ (by omega) (ini_X10_107 (by omega) (fun x hx k => by rw [im_X3_102_a (by omega), im_X0_87_a (by omega)]; exact hz x (by omega) k)) (Nat.le_of_ble_eq_true rfl) (by decide) rfl rfl rfl ?_
  refine mm_at (pc' := 34) rfl ?_
  refine mm_putrT (t' := 118) dX8_init_34 rfl rfl fk_X8_28 (fun C T N h => by cases h; exact ⟨rfl, rfl⟩) rfl ⟨(Nat.le_of_ble_eq_true rfl), so_86.2⟩ (Or.inl (Nat.le_of_ble_eq_true rfl)) (by decide +kernel) (by decide +kernel) rfl ?_
  refine mm_aload_n 0 dX8_init_37 rfl rfl ?_
  refine mm_iconst (v := nI 5) dX8_init_38 (by decide) ?_
  refine mm_newqT (q := 1) (n := 120) (m := 5) (n' := 121) (Al' := (34, 842)) dX8_init_39 rfl (by decide) cn_X8_32 (by decide) (by decide) (by decide) rfl rfl sq_120.2 (by decide +kernel) (fun k => by rw [im_X3_102_a (by decide), im_X0_87_a (by decide)]; exact hz 120 (by decide) k) rfl rfl ?_
  refine mm_putrT (t' := 119) dX8_init_42 rfl rfl fk_X8_34 (fun C T N h => by cases h; exact ⟨rfl, rfl⟩) rfl ⟨(Nat.le_of_ble_eq_true rfl), so_86.2⟩ (Or.inl (Nat.le_of_ble_eq_true rfl)) (by decide +kernel) (by decide +kernel) rfl ?_
  refine mm_iconst (v := nI 0) dX8_init_45 (by decide) ?_
  refine mm_istore_n (ls' := [(1, .int (nI 0)), (0, .ref 86)]) dX8_init_46 rfl (by decide) rfl ?_
  refine mm_iload_n 0 dX8_init_47 rfl rfl ?_
  refine mm_aload_n 1 dX8_init_48 rfl rfl ?_
  refine mm_getr (b := 120) dX8_init_49 rfl fk_X8_34 rfl ⟨(Nat.le_of_ble_eq_true rfl), so_86.2⟩ (by decide +kernel) ?_
  refine mm_alenR (q := 1) (n := 5) dX8_init_52 ⟨(Nat.le_of_ble_eq_true rfl), sq_120.2⟩ ?_
  refine mm_icmp_geN 0 5 (tgt := 75) dX8_init_53 (by decide) (by decide) (by decide) (fun c => absurd c (by decide)) (fun _ => ?_)
  refine mm_at (pc' := 56) rfl ?_
  refine mm_aload_n 1 dX8_init_56 rfl rfl ?_
  refine mm_getr (b := 120) dX8_init_57 rfl fk_X8_34 rfl ⟨(Nat.le_of_ble_eq_true rfl), so_86.2⟩ (by decide +kernel) ?_
  refine mm_iload_n 0 dX8_init_60 rfl rfl ?_
  refine mm_newT (ci := 1) (C := RX1) (T := TX1) (n' := 122) (Al' := (35, 851)) dX8_init_61 rfl rfl mm_wX1 mm_tX1 cn_X8_32 mm_iX1 mm_dX1 (by decide) (by decide) rfl rfl so_121.2 (by decide +kernel) (fun k => by rw [im_X3_102_a (by decide), im_X0_87_a (by decide)]; exact hz 121 (by decide) k) rfl rfl ?_
  refine mm_dup dX8_init_64 rfl ?_
  refine mm_callI0 (dz := d - 1) (Mz := (2, 6)) (Al' := (37, 857)) dX8_init_65 rfl mzX1_init ml_X8_38 imX1_init ⟨rfl, rfl⟩ (by omega) (ini_X1_121 (by omega) (fun x hx k => by rw [im_X3_102_a (by omega), im_X0_87_a (by omega)]; exact hz x (by omega) k)) (Nat.le_of_ble_eq_true rfl) (by decide) rfl rfl rfl ?_
  refine mm_at (pc' := 68) rfl ?_
  refine mm_aastT (q := 1) (m := 5) (i := 0) (t' := 122) dX8_init_68 ⟨(Nat.le_of_ble_eq_true rfl), sq_120.2⟩ (by decide) ⟨⟨(Nat.le_of_ble_eq_true rfl), so_121.2⟩, _, _, rfl⟩ (by decide +kernel) (by decide +kernel) rfl ?_
  refine mm_iincN (ls' := [(1, .int (nI 1)), (0, .ref 86)]) 0 0 1 dX8_init_69 rfl (by decide) (by decide) rfl ?_
  refine mm_goto (tgt := 47) dX8_init_72 (by decide) ?_
  refine mm_iload_n 0 dX8_init_47 rfl rfl ?_
  refine mm_aload_n 1 dX8_init_48 rfl rfl ?_
  refine mm_getr (b := 120) dX8_init_49 rfl fk_X8_34 rfl ⟨(Nat.le_of_ble_eq_true rfl), so_86.2⟩ (by decide +kernel) ?_
  refine mm_alenR (q := 1) (n := 5) dX8_init_52 ⟨(Nat.le_of_ble_eq_true rfl), sq_120.2⟩ ?_
  refine mm_icmp_geN 1 5 (tgt := 75) dX8_init_53 (by decide) (by decide) (by decide) (fun c => absurd c (by decide)) (fun _ => ?_)
  refine mm_at (pc' := 56) rfl ?_
  refine mm_aload_n 1 dX8_init_56 rfl rfl ?_
  refine mm_getr (b := 120) dX8_init_57 rfl fk_X8_34 rfl ⟨(Nat.le_of_ble_eq_true rfl), so_86.2⟩ (by decide +kernel) ?_
  refine mm_iload_n 0 dX8_init_60 rfl rfl ?_
  refine mm_newT (ci := 1) (C := RX1) (T := TX1) (n' := 125) (Al' := (38, 866)) dX8_init_61 rfl rfl mm_wX1 mm_tX1 cn_X8_32 mm_iX1 mm_dX1 (by decide) (by decide) rfl rfl so_124.2 (by decide +kernel) (fun k => by rw [im_X1_121_a (by decide), im_X3_102_a (by decide), im_X0_87_a (by decide)]; exact hz 124 (by decide) k) rfl rfl ?_
  refine mm_dup dX8_init_64 rfl ?_
  refine mm_callI0 (dz := d - 1) (Mz := (2, 6)) (Al' := (40, 872)) dX8_init_65 rfl mzX1_init ml_X8_38 imX1_init ⟨rfl, rfl⟩ (by omega) (ini_X1_124 (by omega) (fun x hx k => by rw [im_X1_121_a (by omega), im_X3_102_a (by omega), im_X0_87_a (by omega)]; exact hz x (by omega) k)) (Nat.le_of_ble_eq_true rfl) (by decide) rfl rfl rfl ?_
  refine mm_at (pc' := 68) rfl ?_
  refine mm_aastT (q := 1) (m := 5) (i := 1) (t' := 125) dX8_init_68 ⟨(Nat.le_of_ble_eq_true rfl), sq_120.2⟩ (by decide) ⟨⟨(Nat.le_of_ble_eq_true rfl), so_124.2⟩, _, _, rfl⟩ (by decide +kernel) (by decide +kernel) rfl ?_
  refine mm_iincN (ls' := [(1, .int (nI 2)), (0, .ref 86)]) 0 1 1 dX8_init_69 rfl (by decide) (by decide) rfl ?_
  refine mm_goto (tgt := 47) dX8_init_72 (by decide) ?_
  refine mm_iload_n 0 dX8_init_47 rfl rfl ?_
  refine mm_aload_n 1 dX8_init_48 rfl rfl ?_
  refine mm_getr (b := 120) dX8_init_49 rfl fk_X8_34 rfl ⟨(Nat.le_of_ble_eq_true rfl), so_86.2⟩ (by decide +kernel) ?_
  refine mm_alenR (q := 1) (n := 5) dX8_init_52 ⟨(Nat.le_of_ble_eq_true rfl), sq_120.2⟩ ?_
  refine mm_icmp_geN 2 5 (tgt := 75) dX8_init_53 (by decide) (by decide) (by decide) (fun c => absurd c (by decide)) (fun _ => ?_)
  refine mm_at (pc' := 56) rfl ?_
  refine mm_aload_n 1 dX8_init_56 rfl rfl ?_
  refine mm_getr (b := 120) dX8_init_57 rfl fk_X8_34 rfl ⟨(Nat.le_of_ble_eq_true rfl), so_86.2⟩ (by decide +kernel) ?_
  refine mm_iload_n 0 dX8_init_60 rfl rfl ?_
  refine mm_newT (ci := 1) (C := RX1) (T := TX1) (n' := 128) (Al' := (41, 881)) dX8_init_61 rfl rfl mm_wX1 mm_tX1 cn_X8_32 mm_iX1 mm_dX1 (by decide) (by decide) rfl rfl so_127.2 (by decide +kernel) (fun k => by rw [im_X1_124_a (by decide), im_X1_121_a (by decide), im_X3_102_a (by decide), im_X0_87_a (by decide)]; exact hz 127 (by decide) k) rfl rfl ?_
  refine mm_dup dX8_init_64 rfl ?_
  refine mm_callI0 (dz := d - 1) (Mz := (2, 6)) (Al' := (43, 887)) dX8_init_65 rfl mzX1_init ml_X8_38 imX1_init ⟨rfl, rfl⟩ (by omega) (ini_X1_127 (by omega) (fun x hx k => by rw [im_X1_124_a (by omega), im_X1_121_a (by omega), im_X3_102_a (by omega), im_X0_87_a (by omega)]; exact hz x (by omega) k)) (Nat.le_of_ble_eq_true rfl) (by decide) rfl rfl rfl ?_
  refine mm_at (pc' := 68) rfl ?_
  refine mm_aastT (q := 1) (m := 5) (i := 2) (t' := 128) dX8_init_68 ⟨(Nat.le_of_ble_eq_true rfl), sq_120.2⟩ (by decide) ⟨⟨(Nat.le_of_ble_eq_true rfl), so_127.2⟩, _, _, rfl⟩ (by decide +kernel) (by decide +kernel) rfl ?_
  refine mm_iincN (ls' := [(1, .int (nI 3)), (0, .ref 86)]) 0 2 1 dX8_init_69 rfl (by decide) (by decide) rfl ?_
  refine mm_goto (tgt := 47) dX8_init_72 (by decide) ?_
  refine mm_iload_n 0 dX8_init_47 rfl rfl ?_
  refine mm_aload_n 1 dX8_init_48 rfl rfl ?_
  refine mm_getr (b := 120) dX8_init_49 rfl fk_X8_34 rfl ⟨(Nat.le_of_ble_eq_true rfl), so_86.2⟩ (by decide +kernel) ?_
  refine mm_alenR (q := 1) (n := 5) dX8_init_52 ⟨(Nat.le_of_ble_eq_true rfl), sq_120.2⟩ ?_
  refine mm_icmp_geN 3 5 (tgt := 75) dX8_init_53 (by decide) (by decide) (by decide) (fun c => absurd c (by decide)) (fun _ => ?_)
  refine mm_at (pc' := 56) rfl ?_
  refine mm_aload_n 1 dX8_init_56 rfl rfl ?_
  refine mm_getr (b := 120) dX8_init_57 rfl fk_X8_34 rfl ⟨(Nat.le_of_ble_eq_true rfl), so_86.2⟩ (by decide +kernel) ?_
  refine mm_iload_n 0 dX8_init_60 rfl rfl ?_
  refine mm_newT (ci := 1) (C := RX1) (T := TX1) (n' := 131) (Al' := (44, 896)) dX8_init_61 rfl rfl mm_wX1 mm_tX1 cn_X8_32 mm_iX1 mm_dX1 (by decide) (by decide) rfl rfl so_130.2 (by decide +kernel) (fun k => by rw [im_X1_127_a (by decide), im_X1_124_a (by decide), im_X1_121_a (by decide), im_X3_102_a (by decide), im_X0_87_a (by decide)]; exact hz 130 (by decide) k) rfl rfl ?_
  refine mm_dup dX8_init_64 rfl ?_
  refine mm_callI0 (dz := d - 1) (Mz := (2, 6)) (Al' := (46, 902)) dX8_init_65 rfl mzX1_init ml_X8_38 imX1_init ⟨rfl, rfl⟩ (by omega) (ini_X1_130 (by omega) (fun x hx k => by rw [im_X1_127_a (by omega), im_X1_124_a (by omega), im_X1_121_a (by omega), im_X3_102_a (by omega), im_X0_87_a (by omega)]; exact hz x (by omega) k)) (Nat.le_of_ble_eq_true rfl) (by decide) rfl rfl rfl ?_
  refine mm_at (pc' := 68) rfl ?_
  refine mm_aastT (q := 1) (m := 5) (i := 3) (t' := 131) dX8_init_68 ⟨(Nat.le_of_ble_eq_true rfl), sq_120.2⟩ (by decide) ⟨⟨(Nat.le_of_ble_eq_true rfl), so_130.2⟩, _, _, rfl⟩ (by decide +kernel) (by decide +kernel) rfl ?_
  refine mm_iincN (ls' := [(1, .int (nI 4)), (0, .ref 86)]) 0 3 1 dX8_init_69 rfl (by decide) (by decide) rfl ?_
  refine mm_goto (tgt := 47) dX8_init_72 (by decide) ?_
  refine mm_iload_n 0 dX8_init_47 rfl rfl ?_
  refine mm_aload_n 1 dX8_init_48 rfl rfl ?_
  refine mm_getr (b := 120) dX8_init_49 rfl fk_X8_34 rfl ⟨(Nat.le_of_ble_eq_true rfl), so_86.2⟩ (by decide +kernel) ?_
  refine mm_alenR (q := 1) (n := 5) dX8_init_52 ⟨(Nat.le_of_ble_eq_true rfl), sq_120.2⟩ ?_
  refine mm_icmp_geN 4 5 (tgt := 75) dX8_init_53 (by decide) (by decide) (by decide) (fun c => absurd c (by decide)) (fun _ => ?_)
  refine mm_at (pc' := 56) rfl ?_
  refine mm_aload_n 1 dX8_init_56 rfl rfl ?_
  refine mm_getr (b := 120) dX8_init_57 rfl fk_X8_34 rfl ⟨(Nat.le_of_ble_eq_true rfl), so_86.2⟩ (by decide +kernel) ?_
  refine mm_iload_n 0 dX8_init_60 rfl rfl ?_
  refine mm_newT (ci := 1) (C := RX1) (T := TX1) (n' := 134) (Al' := (47, 911)) dX8_init_61 rfl rfl mm_wX1 mm_tX1 cn_X8_32 mm_iX1 mm_dX1 (by decide) (by decide) rfl rfl so_133.2 (by decide +kernel) (fun k => by rw [im_X1_130_a (by decide), im_X1_127_a (by decide), im_X1_124_a (by decide), im_X1_121_a (by decide), im_X3_102_a (by decide), im_X0_87_a (by decide)]; exact hz 133 (by decide) k) rfl rfl ?_
  refine mm_dup dX8_init_64 rfl ?_
  refine mm_callI0 (dz := d - 1) (Mz := (2, 6)) (Al' := (49, 917)) dX8_init_65 rfl mzX1_init ml_X8_38 imX1_init ⟨rfl, rfl⟩ (by omega) (ini_X1_133 (by omega) (fun x hx k => by rw [im_X1_130_a (by omega), im_X1_127_a (by omega), im_X1_124_a (by omega), im_X1_121_a (by omega), im_X3_102_a (by omega), im_X0_87_a (by omega)]; exact hz x (by omega) k)) (Nat.le_of_ble_eq_true rfl) (by decide) rfl rfl rfl ?_
  refine mm_at (pc' := 68) rfl ?_
  refine mm_aastT (q := 1) (m := 5) (i := 4) (t' := 134) dX8_init_68 ⟨(Nat.le_of_ble_eq_true rfl), sq_120.2⟩ (by decide) ⟨⟨(Nat.le_of_ble_eq_true rfl), so_133.2⟩, _, _, rfl⟩ (by decide +kernel) (by decide +kernel) rfl ?_
  refine mm_iincN (ls' := [(1, .int (nI 5)), (0, .ref 86)]) 0 4 1 dX8_init_69 rfl (by decide) (by decide) rfl ?_
  refine mm_goto (tgt := 47) dX8_init_72 (by decide) ?_
  refine mm_iload_n 0 dX8_init_47 rfl rfl ?_
  refine mm_aload_n 1 dX8_init_48 rfl rfl ?_
  refine mm_getr (b := 120) dX8_init_49 rfl fk_X8_34 rfl ⟨(Nat.le_of_ble_eq_true rfl), so_86.2⟩ (by decide +kernel) ?_
  refine mm_alenR (q := 1) (n := 5) dX8_init_52 ⟨(Nat.le_of_ble_eq_true rfl), sq_120.2⟩ ?_
  refine mm_icmp_geN 5 5 (tgt := 75) dX8_init_53 (by decide) (by decide) (by decide) (fun _ => ?_) (fun c => absurd c (by decide))
  refine mm_aload_n 1 dX8_init_75 rfl rfl ?_
  refine mm_iconst (v := nI 0) dX8_init_76 (by decide) ?_
  refine mm_puti dX8_init_77 rfl fk_X8_39 rfl fv_8_4 ⟨(Nat.le_of_ble_eq_true rfl), so_86.2⟩ ?_
  refine mm_aload_n 1 dX8_init_80 rfl rfl ?_
  refine mm_bipush (v := nI 6) dX8_init_81 (by decide) ?_
  refine mm_newqT (q := 4) (n := 136) (m := 6) (n' := 137) (Al' := (50, 923)) dX8_init_83 rfl (by decide) cn_X8_43 (by decide) (by decide) (by decide) rfl rfl sq_136.2 (by decide +kernel) (fun k => by rw [mm_up_a (by decide), im_X1_133_a (by decide), im_X1_130_a (by decide), im_X1_127_a (by decide), im_X1_124_a (by decide), im_X1_121_a (by decide), im_X3_102_a (by decide), im_X0_87_a (by decide)]; exact hz 136 (by decide) k) rfl rfl ?_
  refine mm_putrT (t' := 135) dX8_init_86 rfl rfl fk_X8_45 (fun C T N h => by cases h; exact ⟨rfl, rfl⟩) rfl ⟨(Nat.le_of_ble_eq_true rfl), so_86.2⟩ (Or.inl (Nat.le_of_ble_eq_true rfl)) (by decide +kernel) (by decide +kernel) rfl ?_
  refine mm_iconst (v := nI 0) dX8_init_89 (by decide) ?_
  refine mm_istore_n (ls' := [(1, .int (nI 0)), (0, .ref 86)]) dX8_init_90 rfl (by decide) rfl ?_
  refine mm_iload_n 0 dX8_init_91 rfl rfl ?_
  refine mm_aload_n 1 dX8_init_92 rfl rfl ?_
  refine mm_getr (b := 136) dX8_init_93 rfl fk_X8_45 rfl ⟨(Nat.le_of_ble_eq_true rfl), so_86.2⟩ (by decide +kernel) ?_
  refine mm_alenR (q := 4) (n := 6) dX8_init_96 ⟨(Nat.le_of_ble_eq_true rfl), sq_136.2⟩ ?_
  refine mm_icmp_geN 0 6 (tgt := 119) dX8_init_97 (by decide) (by decide) (by decide) (fun c => absurd c (by decide)) (fun _ => ?_)
  refine mm_at (pc' := 100) rfl ?_
  refine mm_aload_n 1 dX8_init_100 rfl rfl ?_
  refine mm_getr (b := 136) dX8_init_101 rfl fk_X8_45 rfl ⟨(Nat.le_of_ble_eq_true rfl), so_86.2⟩ (by decide +kernel) ?_
  refine mm_iload_n 0 dX8_init_104 rfl rfl ?_
  refine mm_newT (ci := 4) (C := RX4) (T := TX4) (n' := 138) (Al' := (51, 926)) dX8_init_105 rfl rfl mm_wX4 mm_tX4 cn_X8_43 mm_iX4 mm_dX4 (by decide) (by decide) rfl rfl so_137.2 (by decide +kernel) (fun k => by rw [mm_up_a (by decide), im_X1_133_a (by decide), im_X1_130_a (by decide), im_X1_127_a (by decide), im_X1_124_a (by decide), im_X1_121_a (by decide), im_X3_102_a (by decide), im_X0_87_a (by decide)]; exact hz 137 (by decide) k) rfl rfl ?_
  refine mm_dup dX8_init_108 rfl ?_
  refine mm_callI0 (dz := d - 1) (Mz := (4, 220)) (Al' := (55, 1146)) dX8_init_109 rfl mzX4_init ml_X8_49 imX4_init ⟨rfl, rfl⟩ (by omega) (ini_X4_137 (by omega) (fun x hx k => by rw [mm_up_a (by omega), im_X1_133_a (by omega), im_X1_130_a (by omega), im_X1_127_a (by omega), im_X1_124_a (by omega), im_X1_121_a (by omega), im_X3_102_a (by omega), im_X0_87_a (by omega)]; exact hz x (by omega) k)) (Nat.le_of_ble_eq_true rfl) (by decide) rfl rfl rfl ?_
  refine mm_at (pc' := 112) rfl ?_
  refine mm_aastT (q := 4) (m := 6) (i := 0) (t' := 140) dX8_init_112 ⟨(Nat.le_of_ble_eq_true rfl), sq_136.2⟩ (by decide) ⟨⟨(Nat.le_of_ble_eq_true rfl), so_137.2⟩, _, _, rfl⟩ (by decide +kernel) (by decide +kernel) rfl ?_
  refine mm_iincN (ls' := [(1, .int (nI 1)), (0, .ref 86)]) 0 0 1 dX8_init_113 rfl (by decide) (by decide) rfl ?_
  refine mm_goto (tgt := 91) dX8_init_116 (by decide) ?_
  refine mm_iload_n 0 dX8_init_91 rfl rfl ?_
  refine mm_aload_n 1 dX8_init_92 rfl rfl ?_
  refine mm_getr (b := 136) dX8_init_93 rfl fk_X8_45 rfl ⟨(Nat.le_of_ble_eq_true rfl), so_86.2⟩ (by decide +kernel) ?_
  refine mm_alenR (q := 4) (n := 6) dX8_init_96 ⟨(Nat.le_of_ble_eq_true rfl), sq_136.2⟩ ?_
  refine mm_icmp_geN 1 6 (tgt := 119) dX8_init_97 (by decide) (by decide) (by decide) (fun c => absurd c (by decide)) (fun _ => ?_)
  refine mm_at (pc' := 100) rfl ?_
  refine mm_aload_n 1 dX8_init_100 rfl rfl ?_
  refine mm_getr (b := 136) dX8_init_101 rfl fk_X8_45 rfl ⟨(Nat.le_of_ble_eq_true rfl), so_86.2⟩ (by decide +kernel) ?_
  refine mm_iload_n 0 dX8_init_104 rfl rfl ?_
  refine mm_newT (ci := 4) (C := RX4) (T := TX4) (n' := 143) (Al' := (56, 1149)) dX8_init_105 rfl rfl mm_wX4 mm_tX4 cn_X8_43 mm_iX4 mm_dX4 (by decide) (by decide) rfl rfl so_142.2 (by decide +kernel) (fun k => by rw [mm_up_a (by decide), im_X1_133_a (by decide), im_X1_130_a (by decide), im_X1_127_a (by decide), im_X1_124_a (by decide), im_X1_121_a (by decide), im_X3_102_a (by decide), im_X0_87_a (by decide)]; exact hz 142 (by decide) k) rfl rfl ?_
  refine mm_dup dX8_init_108 rfl ?_
  refine mm_callI0 (dz := d - 1) (Mz := (4, 220)) (Al' := (60, 1369)) dX8_init_109 rfl mzX4_init ml_X8_49 imX4_init ⟨rfl, rfl⟩ (by omega) (ini_X4_142 (by omega) (fun x hx k => by rw [mm_up_a (by omega), im_X1_133_a (by omega), im_X1_130_a (by omega), im_X1_127_a (by omega), im_X1_124_a (by omega), im_X1_121_a (by omega), im_X3_102_a (by omega), im_X0_87_a (by omega)]; exact hz x (by omega) k)) (Nat.le_of_ble_eq_true rfl) (by decide) rfl rfl rfl ?_
  refine mm_at (pc' := 112) rfl ?_
  refine mm_aastT (q := 4) (m := 6) (i := 1) (t' := 145) dX8_init_112 ⟨(Nat.le_of_ble_eq_true rfl), sq_136.2⟩ (by decide) ⟨⟨(Nat.le_of_ble_eq_true rfl), so_142.2⟩, _, _, rfl⟩ (by decide +kernel) (by decide +kernel) rfl ?_
  refine mm_iincN (ls' := [(1, .int (nI 2)), (0, .ref 86)]) 0 1 1 dX8_init_113 rfl (by decide) (by decide) rfl ?_
  refine mm_goto (tgt := 91) dX8_init_116 (by decide) ?_
  refine mm_iload_n 0 dX8_init_91 rfl rfl ?_
  refine mm_aload_n 1 dX8_init_92 rfl rfl ?_
  refine mm_getr (b := 136) dX8_init_93 rfl fk_X8_45 rfl ⟨(Nat.le_of_ble_eq_true rfl), so_86.2⟩ (by decide +kernel) ?_
  refine mm_alenR (q := 4) (n := 6) dX8_init_96 ⟨(Nat.le_of_ble_eq_true rfl), sq_136.2⟩ ?_
  refine mm_icmp_geN 2 6 (tgt := 119) dX8_init_97 (by decide) (by decide) (by decide) (fun c => absurd c (by decide)) (fun _ => ?_)
  refine mm_at (pc' := 100) rfl ?_
  refine mm_aload_n 1 dX8_init_100 rfl rfl ?_
  refine mm_getr (b := 136) dX8_init_101 rfl fk_X8_45 rfl ⟨(Nat.le_of_ble_eq_true rfl), so_86.2⟩ (by decide +kernel) ?_
  refine mm_iload_n 0 dX8_init_104 rfl rfl ?_
  refine mm_newT (ci := 4) (C := RX4) (T := TX4) (n' := 148) (Al' := (61, 1372)) dX8_init_105 rfl rfl mm_wX4 mm_tX4 cn_X8_43 mm_iX4 mm_dX4 (by decide) (by decide) rfl rfl so_147.2 (by decide +kernel) (fun k => by rw [mm_up_a (by decide), im_X1_133_a (by decide), im_X1_130_a (by decide), im_X1_127_a (by decide), im_X1_124_a (by decide), im_X1_121_a (by decide), im_X3_102_a (by decide), im_X0_87_a (by decide)]; exact hz 147 (by decide) k) rfl rfl ?_
  refine mm_dup dX8_init_108 rfl ?_
  refine mm_callI0 (dz := d - 1) (Mz := (4, 220)) (Al' := (65, 1592)) dX8_init_109 rfl mzX4_init ml_X8_49 imX4_init ⟨rfl, rfl⟩ (by omega) (ini_X4_147 (by omega) (fun x hx k => by rw [mm_up_a (by omega), im_X1_133_a (by omega), im_X1_130_a (by omega), im_X1_127_a (by omega), im_X1_124_a (by omega), im_X1_121_a (by omega), im_X3_102_a (by omega), im_X0_87_a (by omega)]; exact hz x (by omega) k)) (Nat.le_of_ble_eq_true rfl) (by decide) rfl rfl rfl ?_
  refine mm_at (pc' := 112) rfl ?_
  refine mm_aastT (q := 4) (m := 6) (i := 2) (t' := 150) dX8_init_112 ⟨(Nat.le_of_ble_eq_true rfl), sq_136.2⟩ (by decide) ⟨⟨(Nat.le_of_ble_eq_true rfl), so_147.2⟩, _, _, rfl⟩ (by decide +kernel) (by decide +kernel) rfl ?_
  refine mm_iincN (ls' := [(1, .int (nI 3)), (0, .ref 86)]) 0 2 1 dX8_init_113 rfl (by decide) (by decide) rfl ?_
  refine mm_goto (tgt := 91) dX8_init_116 (by decide) ?_
  refine mm_iload_n 0 dX8_init_91 rfl rfl ?_
  refine mm_aload_n 1 dX8_init_92 rfl rfl ?_
  refine mm_getr (b := 136) dX8_init_93 rfl fk_X8_45 rfl ⟨(Nat.le_of_ble_eq_true rfl), so_86.2⟩ (by decide +kernel) ?_
  refine mm_alenR (q := 4) (n := 6) dX8_init_96 ⟨(Nat.le_of_ble_eq_true rfl), sq_136.2⟩ ?_
  refine mm_icmp_geN 3 6 (tgt := 119) dX8_init_97 (by decide) (by decide) (by decide) (fun c => absurd c (by decide)) (fun _ => ?_)
  refine mm_at (pc' := 100) rfl ?_
  refine mm_aload_n 1 dX8_init_100 rfl rfl ?_
  refine mm_getr (b := 136) dX8_init_101 rfl fk_X8_45 rfl ⟨(Nat.le_of_ble_eq_true rfl), so_86.2⟩ (by decide +kernel) ?_
  refine mm_iload_n 0 dX8_init_104 rfl rfl ?_
  refine mm_newT (ci := 4) (C := RX4) (T := TX4) (n' := 153) (Al' := (66, 1595)) dX8_init_105 rfl rfl mm_wX4 mm_tX4 cn_X8_43 mm_iX4 mm_dX4 (by decide) (by decide) rfl rfl so_152.2 (by decide +kernel) (fun k => by rw [mm_up_a (by decide), im_X1_133_a (by decide), im_X1_130_a (by decide), im_X1_127_a (by decide), im_X1_124_a (by decide), im_X1_121_a (by decide), im_X3_102_a (by decide), im_X0_87_a (by decide)]; exact hz 152 (by decide) k) rfl rfl ?_
  refine mm_dup dX8_init_108 rfl ?_
  refine mm_callI0 (dz := d - 1) (Mz := (4, 220)) (Al' := (70, 1815)) dX8_init_109 rfl mzX4_init ml_X8_49 imX4_init ⟨rfl, rfl⟩ (by omega) (ini_X4_152 (by omega) (fun x hx k => by rw [mm_up_a (by omega), im_X1_133_a (by omega), im_X1_130_a (by omega), im_X1_127_a (by omega), im_X1_124_a (by omega), im_X1_121_a (by omega), im_X3_102_a (by omega), im_X0_87_a (by omega)]; exact hz x (by omega) k)) (Nat.le_of_ble_eq_true rfl) (by decide) rfl rfl rfl ?_
  refine mm_at (pc' := 112) rfl ?_
  refine mm_aastT (q := 4) (m := 6) (i := 3) (t' := 155) dX8_init_112 ⟨(Nat.le_of_ble_eq_true rfl), sq_136.2⟩ (by decide) ⟨⟨(Nat.le_of_ble_eq_true rfl), so_152.2⟩, _, _, rfl⟩ (by decide +kernel) (by decide +kernel) rfl ?_
  refine mm_iincN (ls' := [(1, .int (nI 4)), (0, .ref 86)]) 0 3 1 dX8_init_113 rfl (by decide) (by decide) rfl ?_
  refine mm_goto (tgt := 91) dX8_init_116 (by decide) ?_
  refine mm_iload_n 0 dX8_init_91 rfl rfl ?_
  refine mm_aload_n 1 dX8_init_92 rfl rfl ?_
  refine mm_getr (b := 136) dX8_init_93 rfl fk_X8_45 rfl ⟨(Nat.le_of_ble_eq_true rfl), so_86.2⟩ (by decide +kernel) ?_
  refine mm_alenR (q := 4) (n := 6) dX8_init_96 ⟨(Nat.le_of_ble_eq_true rfl), sq_136.2⟩ ?_
  refine mm_icmp_geN 4 6 (tgt := 119) dX8_init_97 (by decide) (by decide) (by decide) (fun c => absurd c (by decide)) (fun _ => ?_)
  refine mm_at (pc' := 100) rfl ?_
  refine mm_aload_n 1 dX8_init_100 rfl rfl ?_
  refine mm_getr (b := 136) dX8_init_101 rfl fk_X8_45 rfl ⟨(Nat.le_of_ble_eq_true rfl), so_86.2⟩ (by decide +kernel) ?_
  refine mm_iload_n 0 dX8_init_104 rfl rfl ?_
  refine mm_newT (ci := 4) (C := RX4) (T := TX4) (n' := 158) (Al' := (71, 1818)) dX8_init_105 rfl rfl mm_wX4 mm_tX4 cn_X8_43 mm_iX4 mm_dX4 (by decide) (by decide) rfl rfl so_157.2 (by decide +kernel) (fun k => by rw [mm_up_a (by decide), im_X1_133_a (by decide), im_X1_130_a (by decide), im_X1_127_a (by decide), im_X1_124_a (by decide), im_X1_121_a (by decide), im_X3_102_a (by decide), im_X0_87_a (by decide)]; exact hz 157 (by decide) k) rfl rfl ?_
  refine mm_dup dX8_init_108 rfl ?_
  refine mm_callI0 (dz := d - 1) (Mz := (4, 220)) (Al' := (75, 2038)) dX8_init_109 rfl mzX4_init ml_X8_49 imX4_init ⟨rfl, rfl⟩ (by omega) (ini_X4_157 (by omega) (fun x hx k => by rw [mm_up_a (by omega), im_X1_133_a (by omega), im_X1_130_a (by omega), im_X1_127_a (by omega), im_X1_124_a (by omega), im_X1_121_a (by omega), im_X3_102_a (by omega), im_X0_87_a (by omega)]; exact hz x (by omega) k)) (Nat.le_of_ble_eq_true rfl) (by decide) rfl rfl rfl ?_
  refine mm_at (pc' := 112) rfl ?_
  refine mm_aastT (q := 4) (m := 6) (i := 4) (t' := 160) dX8_init_112 ⟨(Nat.le_of_ble_eq_true rfl), sq_136.2⟩ (by decide) ⟨⟨(Nat.le_of_ble_eq_true rfl), so_157.2⟩, _, _, rfl⟩ (by decide +kernel) (by decide +kernel) rfl ?_
  refine mm_iincN (ls' := [(1, .int (nI 5)), (0, .ref 86)]) 0 4 1 dX8_init_113 rfl (by decide) (by decide) rfl ?_
  refine mm_goto (tgt := 91) dX8_init_116 (by decide) ?_
  refine mm_iload_n 0 dX8_init_91 rfl rfl ?_
  refine mm_aload_n 1 dX8_init_92 rfl rfl ?_
  refine mm_getr (b := 136) dX8_init_93 rfl fk_X8_45 rfl ⟨(Nat.le_of_ble_eq_true rfl), so_86.2⟩ (by decide +kernel) ?_
  refine mm_alenR (q := 4) (n := 6) dX8_init_96 ⟨(Nat.le_of_ble_eq_true rfl), sq_136.2⟩ ?_
  refine mm_icmp_geN 5 6 (tgt := 119) dX8_init_97 (by decide) (by decide) (by decide) (fun c => absurd c (by decide)) (fun _ => ?_)
  refine mm_at (pc' := 100) rfl ?_
  refine mm_aload_n 1 dX8_init_100 rfl rfl ?_
  refine mm_getr (b := 136) dX8_init_101 rfl fk_X8_45 rfl ⟨(Nat.le_of_ble_eq_true rfl), so_86.2⟩ (by decide +kernel) ?_
  refine mm_iload_n 0 dX8_init_104 rfl rfl ?_
  refine mm_newT (ci := 4) (C := RX4) (T := TX4) (n' := 163) (Al' := (76, 2041)) dX8_init_105 rfl rfl mm_wX4 mm_tX4 cn_X8_43 mm_iX4 mm_dX4 (by decide) (by decide) rfl rfl so_162.2 (by decide +kernel) (fun k => by rw [mm_up_a (by decide), im_X1_133_a (by decide), im_X1_130_a (by decide), im_X1_127_a (by decide), im_X1_124_a (by decide), im_X1_121_a (by decide), im_X3_102_a (by decide), im_X0_87_a (by decide)]; exact hz 162 (by decide) k) rfl rfl ?_
  refine mm_dup dX8_init_108 rfl ?_
  refine mm_callI0 (dz := d - 1) (Mz := (4, 220)) (Al' := (80, 2261)) dX8_init_109 rfl mzX4_init ml_X8_49 imX4_init ⟨rfl, rfl⟩ (by omega) (ini_X4_162 (by omega) (fun x hx k => by rw [mm_up_a (by omega), im_X1_133_a (by omega), im_X1_130_a (by omega), im_X1_127_a (by omega), im_X1_124_a (by omega), im_X1_121_a (by omega), im_X3_102_a (by omega), im_X0_87_a (by omega)]; exact hz x (by omega) k)) (Nat.le_of_ble_eq_true rfl) (by decide) rfl rfl rfl ?_
  refine mm_at (pc' := 112) rfl ?_
  refine mm_aastT (q := 4) (m := 6) (i := 5) (t' := 165) dX8_init_112 ⟨(Nat.le_of_ble_eq_true rfl), sq_136.2⟩ (by decide) ⟨⟨(Nat.le_of_ble_eq_true rfl), so_162.2⟩, _, _, rfl⟩ (by decide +kernel) (by decide +kernel) rfl ?_
  refine mm_iincN (ls' := [(1, .int (nI 6)), (0, .ref 86)]) 0 5 1 dX8_init_113 rfl (by decide) (by decide) rfl ?_
  refine mm_goto (tgt := 91) dX8_init_116 (by decide) ?_
  refine mm_iload_n 0 dX8_init_91 rfl rfl ?_
  refine mm_aload_n 1 dX8_init_92 rfl rfl ?_
  refine mm_getr (b := 136) dX8_init_93 rfl fk_X8_45 rfl ⟨(Nat.le_of_ble_eq_true rfl), so_86.2⟩ (by decide +kernel) ?_
  refine mm_alenR (q := 4) (n := 6) dX8_init_96 ⟨(Nat.le_of_ble_eq_true rfl), sq_136.2⟩ ?_
  refine mm_icmp_geN 6 6 (tgt := 119) dX8_init_97 (by decide) (by decide) (by decide) (fun _ => ?_) (fun c => absurd c (by decide))
  refine mm_aload_n 1 dX8_init_119 rfl rfl ?_
  refine mm_newT (ci := 5) (C := RX5) (T := TX5) (n' := 168) (Al' := (81, 2263)) dX8_init_120 rfl rfl mm_wX5 mm_tX5 cn_X8_50 mm_iX5 mm_dX5 (by decide) (by decide) rfl rfl so_167.2 (by decide +kernel) (fun k => by rw [mm_up_a (by decide), im_X1_133_a (by decide), im_X1_130_a (by decide), im_X1_127_a (by decide), im_X1_124_a (by decide), im_X1_121_a (by decide), im_X3_102_a (by decide), im_X0_87_a (by decide)]; exact hz 167 (by decide) k) rfl rfl ?_
  refine mm_dup dX8_init_123 rfl ?_
  refine mm_bipush (v := nI 36) dX8_init_124 (by decide) ?_
  refine mm_callI1 (dz := d - 1) (Mz := (1, 36)) (Al' := (82, 2299)) dX8_init_126 rfl mzX5_init ml_X8_52 imX5_init ⟨rfl, rfl⟩ (by omega) (ini_X5 (a := 167) (t := 165) (t' := 166) (m := 36) (n1 := 168) (n2 := 169) (by omega) (fun x hx k => by rw [mm_up_a (by omega), im_X1_133_a (by omega), im_X1_130_a (by omega), im_X1_127_a (by omega), im_X1_124_a (by omega), im_X1_121_a (by omega), im_X3_102_a (by omega), im_X0_87_a (by omega)]; exact hz x (by omega) k) (by decide) (by decide) rfl rfl rfl so_167.2 sa_168.2 (by decide +kernel) (by decide +kernel) (by decide +kernel)) (Nat.le_of_ble_eq_true rfl) (by decide) rfl rfl rfl ?_
  refine mm_at (pc' := 129) rfl ?_
  refine mm_putrT (t' := 167) dX8_init_129 rfl rfl fk_X8_55 (fun C T N h => by cases h; exact ⟨rfl, rfl⟩) rfl ⟨(Nat.le_of_ble_eq_true rfl), so_86.2⟩ (Or.inl (Nat.le_of_ble_eq_true rfl)) (by decide +kernel) (by decide +kernel) rfl ?_
  refine mm_aload_n 1 dX8_init_132 rfl rfl ?_
  refine mm_newT (ci := 5) (C := RX5) (T := TX5) (n' := 170) (Al' := (83, 2301)) dX8_init_133 rfl rfl mm_wX5 mm_tX5 cn_X8_50 mm_iX5 mm_dX5 (by decide) (by decide) rfl rfl so_169.2 (by decide +kernel) (fun k => by rw [mm_up_a (by decide), im_X1_133_a (by decide), im_X1_130_a (by decide), im_X1_127_a (by decide), im_X1_124_a (by decide), im_X1_121_a (by decide), im_X3_102_a (by decide), im_X0_87_a (by decide)]; exact hz 169 (by decide) k) rfl rfl ?_
  refine mm_dup dX8_init_136 rfl ?_
  refine mm_sipush (v := nI 300) dX8_init_137 (by decide) ?_
  refine mm_callI1 (dz := d - 1) (Mz := (1, 300)) (Al' := (84, 2601)) dX8_init_140 rfl mzX5_init ml_X8_52 imX5_init ⟨rfl, rfl⟩ (by omega) (ini_X5 (a := 169) (t := 167) (t' := 168) (m := 300) (n1 := 170) (n2 := 171) (by omega) (fun x hx k => by rw [mm_up_a (by omega), im_X1_133_a (by omega), im_X1_130_a (by omega), im_X1_127_a (by omega), im_X1_124_a (by omega), im_X1_121_a (by omega), im_X3_102_a (by omega), im_X0_87_a (by omega)]; exact hz x (by omega) k) (by decide) (by decide) rfl rfl rfl so_169.2 sa_170.2 (by decide +kernel) (by decide +kernel) (by decide +kernel)) (Nat.le_of_ble_eq_true rfl) (by decide) rfl rfl rfl ?_
  refine mm_at (pc' := 143) rfl ?_
  refine mm_putrT (t' := 169) dX8_init_143 rfl rfl fk_X8_59 (fun C T N h => by cases h; exact ⟨rfl, rfl⟩) rfl ⟨(Nat.le_of_ble_eq_true rfl), so_86.2⟩ (Or.inl (Nat.le_of_ble_eq_true rfl)) (by decide +kernel) (by decide +kernel) rfl ?_
  exact mm_vret dX8_init_146 rfl (by decide) ⟨rfl, rfl, rfl⟩
set_option maxRecDepth 100000 in
set_option maxHeartbeats 4000000 in
theorem ini_X6_171 {g : mm_G} {d : Nat} {I : mm_I} (hd : 4 ≤ d) (hz : ∀ x, 171 ≤ x → ∀ k, I x k = 0) : mm_Ct g zX6_init d (2, 98) [.ref 171, .ref 1] (shT 172 170) I (fun r S' I' => r = none ∧ S' = shT 174 173 ∧ I' = I) := by
  refine mm_begin (ls := [(0, .ref 171), (1, .ref 1)]) (Nat.le_of_ble_eq_true rfl) rfl rfl ?_
  refine mm_aload_n 0 dX6_init_0 rfl rfl ?_
  refine mm_obj dX6_init_1 rfl ml_X6_3 jm_obj (by omega) (Nat.le_of_ble_eq_true rfl) ?_
  refine mm_at (pc' := 4) rfl ?_
  refine mm_aload_n 0 dX6_init_4 rfl rfl ?_
  refine mm_aload_n 1 dX6_init_5 rfl rfl ?_
  refine mm_putrT (t' := 171) dX6_init_6 rfl rfl fk_X6_9 (fun C T N h => by cases h; exact ⟨rfl, rfl⟩) rfl ⟨(Nat.le_of_ble_eq_true rfl), so_171.2⟩ (Or.inl (Nat.le_of_ble_eq_true rfl)) (by decide +kernel) (by decide +kernel) rfl ?_
  refine mm_aload_n 0 dX6_init_9 rfl rfl ?_
  refine mm_newT (ci := 5) (C := RX5) (T := TX5) (n' := 173) (Al' := (1, 2)) dX6_init_10 rfl rfl mm_wX5 mm_tX5 cn_X6_15 mm_iX5 mm_dX5 (by decide) (by decide) rfl rfl so_172.2 (by decide +kernel) (hz 172 (by decide)) rfl rfl ?_
  refine mm_dup dX6_init_13 rfl ?_
  refine mm_bipush (v := nI 96) dX6_init_14 (by decide) ?_
  refine mm_callI1 (dz := d - 1) (Mz := (1, 96)) (Al' := (2, 98)) dX6_init_16 rfl mzX5_init ml_X6_17 imX5_init ⟨rfl, rfl⟩ (by omega) (ini_X5 (a := 172) (t := 171) (t' := 172) (m := 96) (n1 := 173) (n2 := 174) (by omega) (fun x hx => hz x (by omega)) (by decide) (by decide) rfl rfl rfl so_172.2 sa_173.2 (by decide +kernel) (by decide +kernel) (by decide +kernel)) (Nat.le_of_ble_eq_true rfl) (by decide) rfl rfl rfl ?_
  refine mm_at (pc' := 19) rfl ?_
  refine mm_putrT (t' := 173) dX6_init_19 rfl rfl fk_X6_20 (fun C T N h => by cases h; exact ⟨rfl, rfl⟩) rfl ⟨(Nat.le_of_ble_eq_true rfl), so_171.2⟩ (Or.inl (Nat.le_of_ble_eq_true rfl)) (by decide +kernel) (by decide +kernel) rfl ?_
  exact mm_vret dX6_init_22 rfl (by decide) ⟨rfl, rfl, rfl⟩
set_option maxRecDepth 100000 in
set_option maxHeartbeats 4000000 in
theorem ini_X9_177 {g : mm_G} {d : Nat} {I : mm_I} (hd : 4 ≤ d) (hz : ∀ x, 177 ≤ x → ∀ k, I x k = 0) : mm_Ct g zX9_init d (6, 297) [.ref 177, .ref 174] (shT 178 176) I (fun r S' I' => r = none ∧ S' = shT 184 183 ∧ I' = I) := by
  refine mm_begin (ls := [(0, .ref 177), (1, .ref 174)]) (Nat.le_of_ble_eq_true rfl) rfl rfl ?_
  refine mm_aload_n 0 dX9_init_0 rfl rfl ?_
  refine mm_obj dX9_init_1 rfl ml_X9_3 jm_obj (by omega) (Nat.le_of_ble_eq_true rfl) ?_
  refine mm_at (pc' := 4) rfl ?_
  refine mm_aload_n 0 dX9_init_4 rfl rfl ?_
  refine mm_aload_n 1 dX9_init_5 rfl rfl ?_
  refine mm_putrT (t' := 177) dX9_init_6 rfl rfl fk_X9_9 (fun C T N h => by cases h; exact ⟨rfl, rfl⟩) rfl ⟨(Nat.le_of_ble_eq_true rfl), so_177.2⟩ (Or.inl (Nat.le_of_ble_eq_true rfl)) (by decide +kernel) (by decide +kernel) rfl ?_
  refine mm_aload_n 0 dX9_init_9 rfl rfl ?_
  refine mm_newT (ci := 5) (C := RX5) (T := TX5) (n' := 179) (Al' := (1, 2)) dX9_init_10 rfl rfl mm_wX5 mm_tX5 cn_X9_15 mm_iX5 mm_dX5 (by decide) (by decide) rfl rfl so_178.2 (by decide +kernel) (hz 178 (by decide)) rfl rfl ?_
  refine mm_dup dX9_init_13 rfl ?_
  refine mm_bipush (v := nI 97) dX9_init_14 (by decide) ?_
  refine mm_callI1 (dz := d - 1) (Mz := (1, 97)) (Al' := (2, 99)) dX9_init_16 rfl mzX5_init ml_X9_17 imX5_init ⟨rfl, rfl⟩ (by omega) (ini_X5 (a := 178) (t := 177) (t' := 178) (m := 97) (n1 := 179) (n2 := 180) (by omega) (fun x hx => hz x (by omega)) (by decide) (by decide) rfl rfl rfl so_178.2 sa_179.2 (by decide +kernel) (by decide +kernel) (by decide +kernel)) (Nat.le_of_ble_eq_true rfl) (by decide) rfl rfl rfl ?_
  refine mm_at (pc' := 19) rfl ?_
  refine mm_putrT (t' := 179) dX9_init_19 rfl rfl fk_X9_20 (fun C T N h => by cases h; exact ⟨rfl, rfl⟩) rfl ⟨(Nat.le_of_ble_eq_true rfl), so_177.2⟩ (Or.inl (Nat.le_of_ble_eq_true rfl)) (by decide +kernel) (by decide +kernel) rfl ?_
  refine mm_aload_n 0 dX9_init_22 rfl rfl ?_
  refine mm_newT (ci := 5) (C := RX5) (T := TX5) (n' := 181) (Al' := (3, 101)) dX9_init_23 rfl rfl mm_wX5 mm_tX5 cn_X9_15 mm_iX5 mm_dX5 (by decide) (by decide) rfl rfl so_180.2 (by decide +kernel) (hz 180 (by decide)) rfl rfl ?_
  refine mm_dup dX9_init_26 rfl ?_
  refine mm_bipush (v := nI 97) dX9_init_27 (by decide) ?_
  refine mm_callI1 (dz := d - 1) (Mz := (1, 97)) (Al' := (4, 198)) dX9_init_29 rfl mzX5_init ml_X9_17 imX5_init ⟨rfl, rfl⟩ (by omega) (ini_X5 (a := 180) (t := 179) (t' := 180) (m := 97) (n1 := 181) (n2 := 182) (by omega) (fun x hx => hz x (by omega)) (by decide) (by decide) rfl rfl rfl so_180.2 sa_181.2 (by decide +kernel) (by decide +kernel) (by decide +kernel)) (Nat.le_of_ble_eq_true rfl) (by decide) rfl rfl rfl ?_
  refine mm_at (pc' := 32) rfl ?_
  refine mm_putrT (t' := 181) dX9_init_32 rfl rfl fk_X9_23 (fun C T N h => by cases h; exact ⟨rfl, rfl⟩) rfl ⟨(Nat.le_of_ble_eq_true rfl), so_177.2⟩ (Or.inl (Nat.le_of_ble_eq_true rfl)) (by decide +kernel) (by decide +kernel) rfl ?_
  refine mm_aload_n 0 dX9_init_35 rfl rfl ?_
  refine mm_newT (ci := 5) (C := RX5) (T := TX5) (n' := 183) (Al' := (5, 200)) dX9_init_36 rfl rfl mm_wX5 mm_tX5 cn_X9_15 mm_iX5 mm_dX5 (by decide) (by decide) rfl rfl so_182.2 (by decide +kernel) (hz 182 (by decide)) rfl rfl ?_
  refine mm_dup dX9_init_39 rfl ?_
  refine mm_bipush (v := nI 97) dX9_init_40 (by decide) ?_
  refine mm_callI1 (dz := d - 1) (Mz := (1, 97)) (Al' := (6, 297)) dX9_init_42 rfl mzX5_init ml_X9_17 imX5_init ⟨rfl, rfl⟩ (by omega) (ini_X5 (a := 182) (t := 181) (t' := 182) (m := 97) (n1 := 183) (n2 := 184) (by omega) (fun x hx => hz x (by omega)) (by decide) (by decide) rfl rfl rfl so_182.2 sa_183.2 (by decide +kernel) (by decide +kernel) (by decide +kernel)) (Nat.le_of_ble_eq_true rfl) (by decide) rfl rfl rfl ?_
  refine mm_at (pc' := 45) rfl ?_
  refine mm_putrT (t' := 183) dX9_init_45 rfl rfl fk_X9_26 (fun C T N h => by cases h; exact ⟨rfl, rfl⟩) rfl ⟨(Nat.le_of_ble_eq_true rfl), so_177.2⟩ (Or.inl (Nat.le_of_ble_eq_true rfl)) (by decide +kernel) (by decide +kernel) rfl ?_
  exact mm_vret dX9_init_48 rfl (by decide) ⟨rfl, rfl, rfl⟩
set_option maxRecDepth 100000 in
set_option maxHeartbeats 4000000 in
theorem ini_X4_184 {g : mm_G} {d : Nat} {I : mm_I} (hd : 4 ≤ d) (hz : ∀ x, 184 ≤ x → ∀ k, I x k = 0) : mm_Ct g zX4_init d (4, 220) [.ref 184] (shT 185 184) I (fun r S' I' => r = none ∧ S' = shT 189 188 ∧ I' = I) := by
  refine mm_begin (ls := [(0, .ref 184)]) (Nat.le_of_ble_eq_true rfl) rfl rfl ?_
  refine mm_aload_n 0 dX4_init_0 rfl rfl ?_
  refine mm_obj dX4_init_1 rfl ml_X4_3 jm_obj (by omega) (Nat.le_of_ble_eq_true rfl) ?_
  refine mm_at (pc' := 4) rfl ?_
  refine mm_aload_n 0 dX4_init_4 rfl rfl ?_
  refine mm_newT (ci := 5) (C := RX5) (T := TX5) (n' := 186) (Al' := (1, 2)) dX4_init_5 rfl rfl mm_wX5 mm_tX5 cn_X4_9 mm_iX5 mm_dX5 (by decide) (by decide) rfl rfl so_185.2 (by decide +kernel) (hz 185 (by decide)) rfl rfl ?_
  refine mm_dup dX4_init_8 rfl ?_
  refine mm_bipush (v := nI 120) dX4_init_9 (by decide) ?_
  refine mm_callI1 (dz := d - 1) (Mz := (1, 120)) (Al' := (2, 122)) dX4_init_11 rfl mzX5_init ml_X4_13 imX5_init ⟨rfl, rfl⟩ (by omega) (ini_X5 (a := 185) (t := 184) (t' := 185) (m := 120) (n1 := 186) (n2 := 187) (by omega) (fun x hx => hz x (by omega)) (by decide) (by decide) rfl rfl rfl so_185.2 sa_186.2 (by decide +kernel) (by decide +kernel) (by decide +kernel)) (Nat.le_of_ble_eq_true rfl) (by decide) rfl rfl rfl ?_
  refine mm_at (pc' := 14) rfl ?_
  refine mm_putrT (t' := 186) dX4_init_14 rfl rfl fk_X4_16 (fun C T N h => by cases h; exact ⟨rfl, rfl⟩) rfl ⟨(Nat.le_of_ble_eq_true rfl), so_184.2⟩ (Or.inl (Nat.le_of_ble_eq_true rfl)) (by decide +kernel) (by decide +kernel) rfl ?_
  refine mm_aload_n 0 dX4_init_17 rfl rfl ?_
  refine mm_newT (ci := 5) (C := RX5) (T := TX5) (n' := 188) (Al' := (3, 124)) dX4_init_18 rfl rfl mm_wX5 mm_tX5 cn_X4_9 mm_iX5 mm_dX5 (by decide) (by decide) rfl rfl so_187.2 (by decide +kernel) (hz 187 (by decide)) rfl rfl ?_
  refine mm_dup dX4_init_21 rfl ?_
  refine mm_bipush (v := nI 96) dX4_init_22 (by decide) ?_
  refine mm_callI1 (dz := d - 1) (Mz := (1, 96)) (Al' := (4, 220)) dX4_init_24 rfl mzX5_init ml_X4_13 imX5_init ⟨rfl, rfl⟩ (by omega) (ini_X5 (a := 187) (t := 186) (t' := 187) (m := 96) (n1 := 188) (n2 := 189) (by omega) (fun x hx => hz x (by omega)) (by decide) (by decide) rfl rfl rfl so_187.2 sa_188.2 (by decide +kernel) (by decide +kernel) (by decide +kernel)) (Nat.le_of_ble_eq_true rfl) (by decide) rfl rfl rfl ?_
  refine mm_at (pc' := 27) rfl ?_
  refine mm_putrT (t' := 188) dX4_init_27 rfl rfl fk_X4_20 (fun C T N h => by cases h; exact ⟨rfl, rfl⟩) rfl ⟨(Nat.le_of_ble_eq_true rfl), so_184.2⟩ (Or.inl (Nat.le_of_ble_eq_true rfl)) (by decide +kernel) (by decide +kernel) rfl ?_
  refine mm_aload_n 0 dX4_init_30 rfl rfl ?_
  refine mm_iconst (v := nI 0) dX4_init_31 (by decide) ?_
  refine mm_puti dX4_init_32 rfl fk_X4_23 rfl fv_4_2 ⟨(Nat.le_of_ble_eq_true rfl), so_184.2⟩ ?_
  rw [mm_up_id (show I 184 2 = nI 0 from hz 184 (by decide) 2)]
  exact mm_vret dX4_init_35 rfl (by decide) ⟨rfl, rfl, rfl⟩
set_option maxRecDepth 100000 in
set_option maxHeartbeats 4000000 in
theorem ini_X2_176 {g : mm_G} {d : Nat} {I : mm_I} (hd : 6 ≤ d) (hz : ∀ x, 176 ≤ x → ∀ k, I x k = 0) : mm_Ct g zX2_init d (14, 530) [.ref 176, .ref 174] (shT 177 176) I (fun r S' I' => r = none ∧ S' = shT 191 191 ∧ I' = I) := by
  refine mm_begin (ls := [(0, .ref 176), (1, .ref 174)]) (Nat.le_of_ble_eq_true rfl) rfl rfl ?_
  refine mm_aload_n 0 dX2_init_0 rfl rfl ?_
  refine mm_obj dX2_init_1 rfl ml_X2_3 jm_obj (by omega) (Nat.le_of_ble_eq_true rfl) ?_
  refine mm_at (pc' := 4) rfl ?_
  refine mm_aload_n 0 dX2_init_4 rfl rfl ?_
  refine mm_newT (ci := 9) (C := RX9) (T := TX9) (n' := 178) (Al' := (1, 4)) dX2_init_5 rfl rfl mm_wX9 mm_tX9 cn_X2_9 mm_iX9 mm_dX9 (by decide) (by decide) rfl rfl so_177.2 (by decide +kernel) (hz 177 (by decide)) rfl rfl ?_
  refine mm_dup dX2_init_8 rfl ?_
  refine mm_aload_n 1 dX2_init_9 rfl rfl ?_
  refine mm_callI1 (dz := d - 1) (Mz := (6, 297)) (Al' := (7, 301)) dX2_init_10 rfl mzX9_init ml_X2_11 imX9_init ⟨rfl, rfl⟩ (by omega) (ini_X9_177 (by omega) (fun x hx => hz x (by omega))) (Nat.le_of_ble_eq_true rfl) (by decide) rfl rfl rfl ?_
  refine mm_at (pc' := 13) rfl ?_
  refine mm_putrT (t' := 184) dX2_init_13 rfl rfl fk_X2_14 (fun C T N h => by cases h; exact ⟨rfl, rfl⟩) rfl ⟨(Nat.le_of_ble_eq_true rfl), so_176.2⟩ (Or.inl (Nat.le_of_ble_eq_true rfl)) (by decide +kernel) (by decide +kernel) rfl ?_
  refine mm_aload_n 0 dX2_init_16 rfl rfl ?_
  refine mm_newT (ci := 4) (C := RX4) (T := TX4) (n' := 185) (Al' := (8, 304)) dX2_init_17 rfl rfl mm_wX4 mm_tX4 cn_X2_20 mm_iX4 mm_dX4 (by decide) (by decide) rfl rfl so_184.2 (by decide +kernel) (hz 184 (by decide)) rfl rfl ?_
  refine mm_dup dX2_init_20 rfl ?_
  refine mm_callI0 (dz := d - 1) (Mz := (4, 220)) (Al' := (12, 524)) dX2_init_21 rfl mzX4_init ml_X2_22 imX4_init ⟨rfl, rfl⟩ (by omega) (ini_X4_184 (by omega) (fun x hx => hz x (by omega))) (Nat.le_of_ble_eq_true rfl) (by decide) rfl rfl rfl ?_
  refine mm_at (pc' := 24) rfl ?_
  refine mm_putrT (t' := 189) dX2_init_24 rfl rfl fk_X2_23 (fun C T N h => by cases h; exact ⟨rfl, rfl⟩) rfl ⟨(Nat.le_of_ble_eq_true rfl), so_176.2⟩ (Or.inl (Nat.le_of_ble_eq_true rfl)) (by decide +kernel) (by decide +kernel) rfl ?_
  refine mm_aload_n 0 dX2_init_27 rfl rfl ?_
  refine mm_newT (ci := 5) (C := RX5) (T := TX5) (n' := 190) (Al' := (13, 526)) dX2_init_28 rfl rfl mm_wX5 mm_tX5 cn_X2_27 mm_iX5 mm_dX5 (by decide) (by decide) rfl rfl so_189.2 (by decide +kernel) (hz 189 (by decide)) rfl rfl ?_
  refine mm_dup dX2_init_31 rfl ?_
  refine mm_iconst (v := nI 4) dX2_init_32 (by decide) ?_
  refine mm_callI1 (dz := d - 1) (Mz := (1, 4)) (Al' := (14, 530)) dX2_init_33 rfl mzX5_init ml_X2_29 imX5_init ⟨rfl, rfl⟩ (by omega) (ini_X5 (a := 189) (t := 189) (t' := 190) (m := 4) (n1 := 190) (n2 := 191) (by omega) (fun x hx => hz x (by omega)) (by decide) (by decide) rfl rfl rfl so_189.2 sa_190.2 (by decide +kernel) (by decide +kernel) (by decide +kernel)) (Nat.le_of_ble_eq_true rfl) (by decide) rfl rfl rfl ?_
  refine mm_at (pc' := 36) rfl ?_
  refine mm_putrT (t' := 191) dX2_init_36 rfl rfl fk_X2_32 (fun C T N h => by cases h; exact ⟨rfl, rfl⟩) rfl ⟨(Nat.le_of_ble_eq_true rfl), so_176.2⟩ (Or.inl (Nat.le_of_ble_eq_true rfl)) (by decide +kernel) (by decide +kernel) rfl ?_
  exact mm_vret dX2_init_39 rfl (by decide) ⟨rfl, rfl, rfl⟩
set_option maxRecDepth 100000 in
set_option maxHeartbeats 4000000 in
theorem ini_X7_195 {g : mm_G} {d : Nat} {I : mm_I} (hd : 4 ≤ d) (hz : ∀ x, 195 ≤ x → ∀ k, I x k = 0) : mm_Ct g zX7_init d (4, 164) [.ref 195] (shT 196 196) I (fun r S' I' => r = none ∧ S' = shT 200 200 ∧ I' = I) := by
  refine mm_begin (ls := [(0, .ref 195)]) (Nat.le_of_ble_eq_true rfl) rfl rfl ?_
  refine mm_aload_n 0 dX7_init_0 rfl rfl ?_
  refine mm_obj dX7_init_1 rfl ml_X7_3 jm_obj (by omega) (Nat.le_of_ble_eq_true rfl) ?_
  refine mm_at (pc' := 4) rfl ?_
  refine mm_aload_n 0 dX7_init_4 rfl rfl ?_
  refine mm_newT (ci := 5) (C := RX5) (T := TX5) (n' := 197) (Al' := (1, 2)) dX7_init_5 rfl rfl mm_wX5 mm_tX5 cn_X7_9 mm_iX5 mm_dX5 (by decide) (by decide) rfl rfl so_196.2 (by decide +kernel) (hz 196 (by decide)) rfl rfl ?_
  refine mm_dup dX7_init_8 rfl ?_
  refine mm_bipush (v := nI 80) dX7_init_9 (by decide) ?_
  refine mm_callI1 (dz := d - 1) (Mz := (1, 80)) (Al' := (2, 82)) dX7_init_11 rfl mzX5_init ml_X7_11 imX5_init ⟨rfl, rfl⟩ (by omega) (ini_X5 (a := 196) (t := 196) (t' := 197) (m := 80) (n1 := 197) (n2 := 198) (by omega) (fun x hx => hz x (by omega)) (by decide) (by decide) rfl rfl rfl so_196.2 sa_197.2 (by decide +kernel) (by decide +kernel) (by decide +kernel)) (Nat.le_of_ble_eq_true rfl) (by decide) rfl rfl rfl ?_
  refine mm_at (pc' := 14) rfl ?_
  refine mm_putrT (t' := 198) dX7_init_14 rfl rfl fk_X7_14 (fun C T N h => by cases h; exact ⟨rfl, rfl⟩) rfl ⟨(Nat.le_of_ble_eq_true rfl), so_195.2⟩ (Or.inl (Nat.le_of_ble_eq_true rfl)) (by decide +kernel) (by decide +kernel) rfl ?_
  refine mm_aload_n 0 dX7_init_17 rfl rfl ?_
  refine mm_newT (ci := 5) (C := RX5) (T := TX5) (n' := 199) (Al' := (3, 84)) dX7_init_18 rfl rfl mm_wX5 mm_tX5 cn_X7_9 mm_iX5 mm_dX5 (by decide) (by decide) rfl rfl so_198.2 (by decide +kernel) (hz 198 (by decide)) rfl rfl ?_
  refine mm_dup dX7_init_21 rfl ?_
  refine mm_bipush (v := nI 80) dX7_init_22 (by decide) ?_
  refine mm_callI1 (dz := d - 1) (Mz := (1, 80)) (Al' := (4, 164)) dX7_init_24 rfl mzX5_init ml_X7_11 imX5_init ⟨rfl, rfl⟩ (by omega) (ini_X5 (a := 198) (t := 198) (t' := 199) (m := 80) (n1 := 199) (n2 := 200) (by omega) (fun x hx => hz x (by omega)) (by decide) (by decide) rfl rfl rfl so_198.2 sa_199.2 (by decide +kernel) (by decide +kernel) (by decide +kernel)) (Nat.le_of_ble_eq_true rfl) (by decide) rfl rfl rfl ?_
  refine mm_at (pc' := 27) rfl ?_
  refine mm_putrT (t' := 200) dX7_init_27 rfl rfl fk_X7_20 (fun C T N h => by cases h; exact ⟨rfl, rfl⟩) rfl ⟨(Nat.le_of_ble_eq_true rfl), so_195.2⟩ (Or.inl (Nat.le_of_ble_eq_true rfl)) (by decide +kernel) (by decide +kernel) rfl ?_
  refine mm_aload_n 0 dX7_init_30 rfl rfl ?_
  refine mm_iconst (v := nI 0) dX7_init_31 (by decide) ?_
  refine mm_puti dX7_init_32 rfl fk_X7_23 rfl fv_7_2 ⟨(Nat.le_of_ble_eq_true rfl), so_195.2⟩ ?_
  rw [mm_up_id (show I 195 2 = nI 0 from hz 195 (by decide) 2)]
  exact mm_vret dX7_init_35 rfl (by decide) ⟨rfl, rfl, rfl⟩
def im_X11_0 (I : mm_I) : mm_I := mm_up (im_X8_86 (im_X8_1 (I))) 0 2 (nI 0)
theorem im_X11_0_a {I : mm_I} {x : Nat} (h : 200 ≤ x) : im_X11_0 I x = I x := by unfold im_X11_0; rw [mm_up_a (by omega), im_X8_86_a (by omega), im_X8_1_a (by omega)]
set_option maxRecDepth 100000 in
set_option maxHeartbeats 4000000 in
theorem ini_X11_0 {g : mm_G} {d : Nat} {I : mm_I} (hd : 12 ≤ d) (hz : ∀ x, 0 ≤ x → ∀ k, I x k = 0) : mm_Ct g zX11_init d (199, 6272) [.ref 0] (shT 1 0) I (fun r S' I' => r = none ∧ S' = shT 200 201 ∧ I' = im_X11_0 I) := by
  refine mm_begin (ls := [(0, .ref 0)]) (Nat.le_of_ble_eq_true rfl) rfl rfl ?_
  refine mm_aload_n 0 dX11_init_0 rfl rfl ?_
  refine mm_obj dX11_init_1 rfl ml_X11_1 jm_obj (by omega) (Nat.le_of_ble_eq_true rfl) ?_
  refine mm_at (pc' := 4) rfl ?_
  refine mm_aload_n 0 dX11_init_4 rfl rfl ?_
  refine mm_newT (ci := 8) (C := RX8) (T := TX8) (n' := 2) (Al' := (1, 8)) dX11_init_5 rfl rfl mm_wX8 mm_tX8 cn_X11_7 mm_iX8 mm_dX8 (by decide) (by decide) rfl rfl so_1.2 (by decide +kernel) (hz 1 (by decide)) rfl rfl ?_
  refine mm_dup dX11_init_8 rfl ?_
  refine mm_callI0 (dz := d - 1) (Mz := (84, 2601)) (Al' := (85, 2609)) dX11_init_9 rfl mzX8_init ml_X11_9 imX8_init ⟨rfl, rfl⟩ (by omega) (ini_X8_1 (by omega) (fun x hx => hz x (by omega))) (Nat.le_of_ble_eq_true rfl) (by decide) rfl rfl rfl ?_
  refine mm_at (pc' := 12) rfl ?_
  refine mm_putrT (t' := 85) dX11_init_12 rfl rfl fk_X11_10 (fun C T N h => by cases h; exact ⟨rfl, rfl⟩) rfl ⟨(Nat.le_of_ble_eq_true rfl), so_0.2⟩ (Or.inl (Nat.le_of_ble_eq_true rfl)) (by decide +kernel) (by decide +kernel) rfl ?_
  refine mm_aload_n 0 dX11_init_15 rfl rfl ?_
  refine mm_newT (ci := 8) (C := RX8) (T := TX8) (n' := 87) (Al' := (86, 2617)) dX11_init_16 rfl rfl mm_wX8 mm_tX8 cn_X11_7 mm_iX8 mm_dX8 (by decide) (by decide) rfl rfl so_86.2 (by decide +kernel) (fun k => by rw [im_X8_1_a (by decide)]; exact hz 86 (by decide) k) rfl rfl ?_
  refine mm_dup dX11_init_19 rfl ?_
  refine mm_callI0 (dz := d - 1) (Mz := (84, 2601)) (Al' := (170, 5218)) dX11_init_20 rfl mzX8_init ml_X11_9 imX8_init ⟨rfl, rfl⟩ (by omega) (ini_X8_86 (by omega) (fun x hx k => by rw [im_X8_1_a (by omega)]; exact hz x (by omega) k)) (Nat.le_of_ble_eq_true rfl) (by decide) rfl rfl rfl ?_
  refine mm_at (pc' := 23) rfl ?_
  refine mm_putrT (t' := 170) dX11_init_23 rfl rfl fk_X11_16 (fun C T N h => by cases h; exact ⟨rfl, rfl⟩) rfl ⟨(Nat.le_of_ble_eq_true rfl), so_0.2⟩ (Or.inl (Nat.le_of_ble_eq_true rfl)) (by decide +kernel) (by decide +kernel) rfl ?_
  refine mm_aload_n 0 dX11_init_26 rfl rfl ?_
  refine mm_iconst (v := nI 0) dX11_init_27 (by decide) ?_
  refine mm_putz dX11_init_28 rfl fk_X11_19 rfl fv_11_2 (Or.inl (by decide)) ⟨(Nat.le_of_ble_eq_true rfl), so_0.2⟩ ?_
  refine mm_aload_n 0 dX11_init_31 rfl rfl ?_
  refine mm_newT (ci := 6) (C := RX6) (T := TX6) (n' := 172) (Al' := (171, 5220)) dX11_init_32 rfl rfl mm_wX6 mm_tX6 cn_X11_23 mm_iX6 mm_dX6 (by decide) (by decide) rfl rfl so_171.2 (by decide +kernel) (fun k => by rw [mm_up_a (by decide), im_X8_86_a (by decide), im_X8_1_a (by decide)]; exact hz 171 (by decide) k) rfl rfl ?_
  refine mm_dup dX11_init_35 rfl ?_
  refine mm_aload_n 0 dX11_init_36 rfl rfl ?_
  refine mm_getr (b := 1) dX11_init_37 rfl fk_X11_10 rfl ⟨(Nat.le_of_ble_eq_true rfl), so_0.2⟩ (by decide +kernel) ?_
  refine mm_callI1 (dz := d - 1) (Mz := (2, 98)) (Al' := (173, 5318)) dX11_init_40 rfl mzX6_init ml_X11_25 imX6_init ⟨rfl, rfl⟩ (by omega) (ini_X6_171 (by omega) (fun x hx k => by rw [mm_up_a (by omega), im_X8_86_a (by omega), im_X8_1_a (by omega)]; exact hz x (by omega) k)) (Nat.le_of_ble_eq_true rfl) (by decide) rfl rfl rfl ?_
  refine mm_at (pc' := 43) rfl ?_
  refine mm_putrT (t' := 174) dX11_init_43 rfl rfl fk_X11_28 (fun C T N h => by cases h; exact ⟨rfl, rfl⟩) rfl ⟨(Nat.le_of_ble_eq_true rfl), so_0.2⟩ (Or.inl (Nat.le_of_ble_eq_true rfl)) (by decide +kernel) (by decide +kernel) rfl ?_
  refine mm_aload_n 0 dX11_init_46 rfl rfl ?_
  refine mm_newT (ci := 5) (C := RX5) (T := TX5) (n' := 175) (Al' := (174, 5320)) dX11_init_47 rfl rfl mm_wX5 mm_tX5 cn_X11_32 mm_iX5 mm_dX5 (by decide) (by decide) rfl rfl so_174.2 (by decide +kernel) (fun k => by rw [mm_up_a (by decide), im_X8_86_a (by decide), im_X8_1_a (by decide)]; exact hz 174 (by decide) k) rfl rfl ?_
  refine mm_dup dX11_init_50 rfl ?_
  refine mm_bipush (v := nI 96) dX11_init_51 (by decide) ?_
  refine mm_callI1 (dz := d - 1) (Mz := (1, 96)) (Al' := (175, 5416)) dX11_init_53 rfl mzX5_init ml_X11_34 imX5_init ⟨rfl, rfl⟩ (by omega) (ini_X5 (a := 174) (t := 174) (t' := 175) (m := 96) (n1 := 175) (n2 := 176) (by omega) (fun x hx k => by rw [mm_up_a (by omega), im_X8_86_a (by omega), im_X8_1_a (by omega)]; exact hz x (by omega) k) (by decide) (by decide) rfl rfl rfl so_174.2 sa_175.2 (by decide +kernel) (by decide +kernel) (by decide +kernel)) (Nat.le_of_ble_eq_true rfl) (by decide) rfl rfl rfl ?_
  refine mm_at (pc' := 56) rfl ?_
  refine mm_putrT (t' := 176) dX11_init_56 rfl rfl fk_X11_37 (fun C T N h => by cases h; exact ⟨rfl, rfl⟩) rfl ⟨(Nat.le_of_ble_eq_true rfl), so_0.2⟩ (Or.inl (Nat.le_of_ble_eq_true rfl)) (by decide +kernel) (by decide +kernel) rfl ?_
  refine mm_aload_n 0 dX11_init_59 rfl rfl ?_
  refine mm_newT (ci := 2) (C := RX2) (T := TX2) (n' := 177) (Al' := (176, 5423)) dX11_init_60 rfl rfl mm_wX2 mm_tX2 cn_X11_41 mm_iX2 mm_dX2 (by decide) (by decide) rfl rfl so_176.2 (by decide +kernel) (fun k => by rw [mm_up_a (by decide), im_X8_86_a (by decide), im_X8_1_a (by decide)]; exact hz 176 (by decide) k) rfl rfl ?_
  refine mm_dup dX11_init_63 rfl ?_
  refine mm_aload_n 0 dX11_init_64 rfl rfl ?_
  refine mm_getr (b := 174) dX11_init_65 rfl fk_X11_37 rfl ⟨(Nat.le_of_ble_eq_true rfl), so_0.2⟩ (by decide +kernel) ?_
  refine mm_callI1 (dz := d - 1) (Mz := (14, 530)) (Al' := (190, 5953)) dX11_init_68 rfl mzX2_init ml_X11_43 imX2_init ⟨rfl, rfl⟩ (by omega) (ini_X2_176 (by omega) (fun x hx k => by rw [mm_up_a (by omega), im_X8_86_a (by omega), im_X8_1_a (by omega)]; exact hz x (by omega) k)) (Nat.le_of_ble_eq_true rfl) (by decide) rfl rfl rfl ?_
  refine mm_at (pc' := 71) rfl ?_
  refine mm_putrT (t' := 192) dX11_init_71 rfl rfl fk_X11_46 (fun C T N h => by cases h; exact ⟨rfl, rfl⟩) rfl ⟨(Nat.le_of_ble_eq_true rfl), so_0.2⟩ (Or.inl (Nat.le_of_ble_eq_true rfl)) (by decide +kernel) (by decide +kernel) rfl ?_
  refine mm_aload_n 0 dX11_init_74 rfl rfl ?_
  refine mm_newT (ci := 5) (C := RX5) (T := TX5) (n' := 192) (Al' := (191, 5955)) dX11_init_75 rfl rfl mm_wX5 mm_tX5 cn_X11_32 mm_iX5 mm_dX5 (by decide) (by decide) rfl rfl so_191.2 (by decide +kernel) (fun k => by rw [mm_up_a (by decide), im_X8_86_a (by decide), im_X8_1_a (by decide)]; exact hz 191 (by decide) k) rfl rfl ?_
  refine mm_dup dX11_init_78 rfl ?_
  refine mm_bipush (v := nI 100) dX11_init_79 (by decide) ?_
  refine mm_callI1 (dz := d - 1) (Mz := (1, 100)) (Al' := (192, 6055)) dX11_init_81 rfl mzX5_init ml_X11_34 imX5_init ⟨rfl, rfl⟩ (by omega) (ini_X5 (a := 191) (t := 192) (t' := 193) (m := 100) (n1 := 192) (n2 := 193) (by omega) (fun x hx k => by rw [mm_up_a (by omega), im_X8_86_a (by omega), im_X8_1_a (by omega)]; exact hz x (by omega) k) (by decide) (by decide) rfl rfl rfl so_191.2 sa_192.2 (by decide +kernel) (by decide +kernel) (by decide +kernel)) (Nat.le_of_ble_eq_true rfl) (by decide) rfl rfl rfl ?_
  refine mm_at (pc' := 84) rfl ?_
  refine mm_putrT (t' := 194) dX11_init_84 rfl rfl fk_X11_50 (fun C T N h => by cases h; exact ⟨rfl, rfl⟩) rfl ⟨(Nat.le_of_ble_eq_true rfl), so_0.2⟩ (Or.inl (Nat.le_of_ble_eq_true rfl)) (by decide +kernel) (by decide +kernel) rfl ?_
  refine mm_aload_n 0 dX11_init_87 rfl rfl ?_
  refine mm_newT (ci := 5) (C := RX5) (T := TX5) (n' := 194) (Al' := (193, 6057)) dX11_init_88 rfl rfl mm_wX5 mm_tX5 cn_X11_32 mm_iX5 mm_dX5 (by decide) (by decide) rfl rfl so_193.2 (by decide +kernel) (fun k => by rw [mm_up_a (by decide), im_X8_86_a (by decide), im_X8_1_a (by decide)]; exact hz 193 (by decide) k) rfl rfl ?_
  refine mm_dup dX11_init_91 rfl ?_
  refine mm_bipush (v := nI 48) dX11_init_92 (by decide) ?_
  refine mm_callI1 (dz := d - 1) (Mz := (1, 48)) (Al' := (194, 6105)) dX11_init_94 rfl mzX5_init ml_X11_34 imX5_init ⟨rfl, rfl⟩ (by omega) (ini_X5 (a := 193) (t := 194) (t' := 195) (m := 48) (n1 := 194) (n2 := 195) (by omega) (fun x hx k => by rw [mm_up_a (by omega), im_X8_86_a (by omega), im_X8_1_a (by omega)]; exact hz x (by omega) k) (by decide) (by decide) rfl rfl rfl so_193.2 sa_194.2 (by decide +kernel) (by decide +kernel) (by decide +kernel)) (Nat.le_of_ble_eq_true rfl) (by decide) rfl rfl rfl ?_
  refine mm_at (pc' := 97) rfl ?_
  refine mm_putrT (t' := 196) dX11_init_97 rfl rfl fk_X11_53 (fun C T N h => by cases h; exact ⟨rfl, rfl⟩) rfl ⟨(Nat.le_of_ble_eq_true rfl), so_0.2⟩ (Or.inl (Nat.le_of_ble_eq_true rfl)) (by decide +kernel) (by decide +kernel) rfl ?_
  refine mm_aload_n 0 dX11_init_100 rfl rfl ?_
  refine mm_newT (ci := 7) (C := RX7) (T := TX7) (n' := 196) (Al' := (195, 6108)) dX11_init_101 rfl rfl mm_wX7 mm_tX7 cn_X11_56 mm_iX7 mm_dX7 (by decide) (by decide) rfl rfl so_195.2 (by decide +kernel) (fun k => by rw [mm_up_a (by decide), im_X8_86_a (by decide), im_X8_1_a (by decide)]; exact hz 195 (by decide) k) rfl rfl ?_
  refine mm_dup dX11_init_104 rfl ?_
  refine mm_callI0 (dz := d - 1) (Mz := (4, 164)) (Al' := (199, 6272)) dX11_init_105 rfl mzX7_init ml_X11_58 imX7_init ⟨rfl, rfl⟩ (by omega) (ini_X7_195 (by omega) (fun x hx k => by rw [mm_up_a (by omega), im_X8_86_a (by omega), im_X8_1_a (by omega)]; exact hz x (by omega) k)) (Nat.le_of_ble_eq_true rfl) (by decide) rfl rfl rfl ?_
  refine mm_at (pc' := 108) rfl ?_
  refine mm_putrT (t' := 201) dX11_init_108 rfl rfl fk_X11_59 (fun C T N h => by cases h; exact ⟨rfl, rfl⟩) rfl ⟨(Nat.le_of_ble_eq_true rfl), so_0.2⟩ (Or.inl (Nat.le_of_ble_eq_true rfl)) (by decide +kernel) (by decide +kernel) rfl ?_
  exact mm_vret dX11_init_111 rfl (by decide) ⟨rfl, rfl, rfl⟩
