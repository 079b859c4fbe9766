/-! THE CLASS: what begins anew -/
def bsM (I : mm_I) (a : Nat) (x : Int32) : mm_I := rw_fl (mm_up (mm_up (mm_up I a 6 x) a 7 0) (a + 1) 1 (nI 4)) (a + 1 + 1) 0 4
def mbM (I : mm_I) (a : Nat) (x y : Int32) : mm_I := bsM (mm_up (mm_up (mm_up (mm_up (mm_up (mm_up I a 0 x) a 1 y) a 2 50) a 3 0) a 4 0) a 5 0) a (-1)
def mc_S (S : mm_Sh) (a : Nat) : Prop := mm_ob S a 1 ∧ S.2.2 a 8 = some (a + 1) ∧ rw_is S (a + 1) 4
def flM (I : mm_I) (a : Nat) (v : Int32) (k : Nat) : mm_I := rw_fl (mm_up I a 1 (nI k)) (a + 1) v k
def gbM (I : mm_I) (a w h : Nat) : mm_I := mm_up (mm_up (flM (flM (flM (mm_up (flM (mm_up (flM (mm_up (mm_up I a 0 (nI w)) a 1 (nI h)) (a + 1) 0 (w * h)) (a + 1 + 1) 0 4) (a + 3) 20 (w * h)) (a + 3 + 1) 0 0) (a + 5) 0 (w * h)) (a + 7) (-1) (4 * (w * h))) (a + 9) 0 3) a 7 0) a 8 0
def gr_S (S : mm_Sh) (a : Nat) : Prop := mm_ob S a 0 ∧ S.2.2 a 2 = some (a + 1) ∧ S.2.2 a 3 = some (a + 3) ∧ S.2.2 a 4 = some (a + 5) ∧ S.2.2 a 5 = some (a + 7) ∧ S.2.2 a 6 = some (a + 9) ∧ rw_is S (a + 1) 80 ∧ rw_is S (a + 3) 80 ∧ rw_is S (a + 5) 80 ∧ rw_is S (a + 7) 320 ∧ rw_is S (a + 9) 3
def rnM (I : mm_I) (w h : Nat) : mm_I := mm_up (mm_up (mm_up (gbM I 2 w h) 1 4 0) 82 1 0) 84 1 0
theorem gr_2 : gr_S sh_S 2 := ⟨so_2, sr_2_2, sr_2_3, sr_2_4, sr_2_5, sr_2_6, rw_3, rw_5, rw_7, rw_9, rw_11⟩
theorem mc_m {m : Nat} (h : m < 5) : mc_S sh_S (36 + 3 * m) := ⟨(sm_1 h).1, by rw [(sm_1 h).2.1, show 37 + 3 * m = 36 + 3 * m + 1 by omega], by have := (sm_1 h).2.2.1; rw [show 36 + 3 * m + 1 = 37 + 3 * m by omega]; exact this⟩
set_option maxRecDepth 100000 in
set_option maxHeartbeats 600000 in
theorem ct_bs {g : mm_G} {S : mm_Sh} {I : mm_I} {a d : Nat} {x : Int32} (hS : mc_S S a) (hd : 2 ≤ d) : mm_Cv g zX1_beginScript d [.ref a, .int (x)] S I (bsM I a x) := by
  obtain ⟨h1, h2, h3⟩ := id hS
  refine mm_Cv_of (fun Q hq => ?_)
  refine mm_begin (ls := [(0, .ref a), (1, .int (x))]) (Nat.le_of_ble_eq_true rfl) rfl rfl ?_
  refine mm_aload_n 0 dX1_beginScript_0 rfl rfl ?_
  refine mm_iload_n 1 dX1_beginScript_1 rfl rfl ?_
  refine mm_puti dX1_beginScript_2 rfl fk_X1_48 rfl fv_1_6 h1 ?_
  refine mm_aload_n 0 dX1_beginScript_5 rfl rfl ?_
  refine mm_iconst (v := 0) dX1_beginScript_6 rfl ?_
  refine mm_puti dX1_beginScript_7 rfl fk_X1_51 rfl fv_1_7 h1 ?_
  refine mm_aload_n 0 dX1_beginScript_10 rfl rfl ?_
  refine mm_getr (b := a + 1) dX1_beginScript_11 rfl fk_X1_16 rfl h1 h2 ?_
  refine mm_at (pc' := 14) rfl ?_
  refine mm_iconst (v := 4) dX1_beginScript_14 rfl ?_
  refine mm_iconst (v := 0) dX1_beginScript_15 rfl ?_
  refine mm_cV2v (dz := d - 1) dX1_beginScript_16 rfl mzX5_fill ml_X1_66 imX5_fill (by omega) (h3).1 ⟨rfl, rfl⟩ (ct_fill h3 (4) (by omega) (by omega)) (Nat.le_of_ble_eq_true rfl) ⟨Nat.le_refl _, Nat.le_refl _⟩ ?_
  refine mm_vret dX1_beginScript_19 rfl ⟨Nat.le_refl _, Nat.le_refl _⟩ ?_
  exact hq
set_option maxRecDepth 100000 in
set_option maxHeartbeats 600000 in
theorem ct_mb {g : mm_G} {S : mm_Sh} {I : mm_I} {a d : Nat} {x y : Int32} (hS : mc_S S a) (hd : 3 ≤ d) : mm_Cv g zX1_begin d [.ref a, .int (x), .int (y)] S I (mbM I a x y) := by
  obtain ⟨h1, h2, h3⟩ := id hS
  refine mm_Cv_of (fun Q hq => ?_)
  refine mm_begin (ls := [(0, .ref a), (1, .int (x)), (2, .int (y))]) (Nat.le_of_ble_eq_true rfl) rfl rfl ?_
  refine mm_aload_n 0 dX1_begin_0 rfl rfl ?_
  refine mm_iload_n 1 dX1_begin_1 rfl rfl ?_
  refine mm_puti dX1_begin_2 rfl fk_X1_26 rfl fv_1_0 h1 ?_
  refine mm_aload_n 0 dX1_begin_5 rfl rfl ?_
  refine mm_iload_n 2 dX1_begin_6 rfl rfl ?_
  refine mm_puti dX1_begin_7 rfl fk_X1_30 rfl fv_1_1 h1 ?_
  refine mm_aload_n 0 dX1_begin_10 rfl rfl ?_
  refine mm_bipush (v := 50) dX1_begin_11 rfl ?_
  refine mm_at (pc' := 13) rfl ?_
  refine mm_puti dX1_begin_13 rfl fk_X1_33 rfl fv_1_2 h1 ?_
  refine mm_aload_n 0 dX1_begin_16 rfl rfl ?_
  refine mm_iconst (v := 0) dX1_begin_17 rfl ?_
  refine mm_puti dX1_begin_18 rfl fk_X1_36 rfl fv_1_3 h1 ?_
  refine mm_aload_n 0 dX1_begin_21 rfl rfl ?_
  refine mm_iconst (v := 0) dX1_begin_22 rfl ?_
  refine mm_puti dX1_begin_23 rfl fk_X1_39 rfl fv_1_4 h1 ?_
  refine mm_aload_n 0 dX1_begin_26 rfl rfl ?_
  refine mm_at (pc' := 27) rfl ?_
  refine mm_iconst (v := 0) dX1_begin_27 rfl ?_
  refine mm_puti dX1_begin_28 rfl fk_X1_42 rfl fv_1_5 h1 ?_
  refine mm_aload_n 0 dX1_begin_31 rfl rfl ?_
  refine mm_iconst (v := -1) dX1_begin_32 rfl ?_
  refine mm_cV1v (dz := d - 1) dX1_begin_33 rfl mzX1_beginScript ml_X1_45 imX1_beginScript (by omega) h1 ⟨rfl, rfl⟩ (ct_bs hS (by omega)) (Nat.le_of_ble_eq_true rfl) ⟨Nat.le_refl _, Nat.le_refl _⟩ ?_
  refine mm_vret dX1_begin_36 rfl ⟨Nat.le_refl _, Nat.le_refl _⟩ ?_
  exact hq
set_option maxRecDepth 100000 in
set_option maxHeartbeats 600000 in
theorem ct_gc {g : mm_G} {S : mm_Sh} {I : mm_I} {a d : Nat} {w h : Nat} (h1 : mm_ob S a 0) (h2 : I a 0 = nI w) (h3 : I a 1 = nI h) : mm_Ci g zX0_cells d [.ref a] S I (nI (w * h)) I := by
  refine mm_Ci_of (fun Q hq => ?_)
  refine mm_begin (ls := [(0, .ref a)]) (Nat.le_of_ble_eq_true rfl) rfl rfl ?_
  refine mm_aload_n 0 dX0_cells_0 rfl rfl ?_
  refine mm_geti dX0_cells_1 rfl fk_X0_42 rfl h1 ?_
  refine mm_top (v := nI (w)) h2 ?_
  refine mm_aload_n 0 dX0_cells_4 rfl rfl ?_
  refine mm_geti dX0_cells_5 rfl fk_X0_46 rfl h1 ?_
  refine mm_top (v := nI (h)) h3 ?_
  refine mm_imulN (w) (h) dX0_cells_8 ?_
  refine mm_iret dX0_cells_9 rfl ⟨Nat.le_refl _, Nat.le_refl _⟩ ?_
  exact hq
set_option maxRecDepth 100000 in
set_option maxHeartbeats 600000 in
theorem ct_gb {g : mm_G} {S : mm_Sh} {I : mm_I} {a d : Nat} {w h : Nat} (hS : gr_S S a) (hc : w * h ≤ 80) (hd : 2 ≤ d) : mm_Cv g zX0_begin d [.ref a, .int (nI (w)), .int (nI (h))] S I (gbM I a w h) := by
  obtain ⟨h1, f1, f3, f5, f7, f9, r1, r3, r5, r7, r9⟩ := id hS
  refine mm_Cv_of (fun Q hq => ?_)
  refine mm_begin (ls := [(0, .ref a), (1, .int (nI (w))), (2, .int (nI (h)))]) (Nat.le_of_ble_eq_true rfl) rfl rfl ?_
  refine mm_aload_n 0 dX0_begin_0 rfl rfl ?_
  refine mm_iload_n 1 dX0_begin_1 rfl rfl ?_
  refine mm_puti dX0_begin_2 rfl fk_X0_42 rfl fv_0_0 h1 ?_
  refine mm_aload_n 0 dX0_begin_5 rfl rfl ?_
  refine mm_iload_n 2 dX0_begin_6 rfl rfl ?_
  refine mm_puti dX0_begin_7 rfl fk_X0_46 rfl fv_0_1 h1 ?_
  refine mm_aload_n 0 dX0_begin_10 rfl rfl ?_
  refine mm_getr (b := a + 1) dX0_begin_11 rfl fk_X0_14 rfl h1 f1 ?_
  refine mm_at (pc' := 14) rfl ?_
  refine mm_aload_n 0 dX0_begin_14 rfl rfl ?_
  refine mm_cV0i (dz := d - 1) dX0_begin_15 rfl mzX0_cells ml_X0_49 imX0_cells (by omega) h1 ⟨rfl, rfl⟩ (ct_gc (w := w) (h := h) h1 (by simp [mm_up, flM, rw_fl, Nat.add_assoc]) (by simp [mm_up, flM, rw_fl, Nat.add_assoc])) (Nat.le_of_ble_eq_true rfl) ⟨Nat.le_refl _, Nat.le_refl _⟩ ?_
  refine mm_iconst (v := 0) dX0_begin_18 rfl ?_
  refine mm_cV2v (dz := d - 1) dX0_begin_19 rfl mzX5_fill ml_X0_53 imX5_fill (by omega) (r1).1 ⟨rfl, rfl⟩ (ct_fill r1 (w * h) (by omega) (by omega)) (Nat.le_of_ble_eq_true rfl) ⟨Nat.le_refl _, Nat.le_refl _⟩ ?_
  refine mm_aload_n 0 dX0_begin_22 rfl rfl ?_
  refine mm_getr (b := a + 1) dX0_begin_23 rfl fk_X0_14 rfl h1 f1 ?_
  refine mm_iconst (v := 0) dX0_begin_26 rfl ?_
  refine mm_iconst (v := 4) dX0_begin_27 rfl ?_
  refine mm_at (pc' := 28) rfl ?_
  refine mm_cV2v (dz := d - 1) dX0_begin_28 rfl mzX5_set ml_X0_56 imX5_set (by omega) (r1).1 ⟨rfl, rfl⟩ (ct_set r1 (0) (by omega)) (Nat.le_of_ble_eq_true rfl) ⟨Nat.le_refl _, Nat.le_refl _⟩ ?_
  refine mm_aload_n 0 dX0_begin_31 rfl rfl ?_
  refine mm_getr (b := a + 3) dX0_begin_32 rfl fk_X0_20 rfl h1 f3 ?_
  refine mm_aload_n 0 dX0_begin_35 rfl rfl ?_
  refine mm_cV0i (dz := d - 1) dX0_begin_36 rfl mzX0_cells ml_X0_49 imX0_cells (by omega) h1 ⟨rfl, rfl⟩ (ct_gc (w := w) (h := h) h1 (by simp [mm_up, flM, rw_fl, Nat.add_assoc]) (by simp [mm_up, flM, rw_fl, Nat.add_assoc])) (Nat.le_of_ble_eq_true rfl) ⟨Nat.le_refl _, Nat.le_refl _⟩ ?_
  refine mm_bipush (v := 20) dX0_begin_39 rfl ?_
  refine mm_cV2v (dz := d - 1) dX0_begin_41 rfl mzX5_fill ml_X0_53 imX5_fill (by omega) (r3).1 ⟨rfl, rfl⟩ (ct_fill r3 (w * h) (by omega) (by omega)) (Nat.le_of_ble_eq_true rfl) ⟨Nat.le_refl _, Nat.le_refl _⟩ ?_
  refine mm_aload_n 0 dX0_begin_44 rfl rfl ?_
  refine mm_at (pc' := 45) rfl ?_
  refine mm_getr (b := a + 3) dX0_begin_45 rfl fk_X0_20 rfl h1 f3 ?_
  refine mm_iconst (v := 0) dX0_begin_48 rfl ?_
  refine mm_iconst (v := 0) dX0_begin_49 rfl ?_
  refine mm_cV2v (dz := d - 1) dX0_begin_50 rfl mzX5_set ml_X0_56 imX5_set (by omega) (r3).1 ⟨rfl, rfl⟩ (ct_set r3 (0) (by omega)) (Nat.le_of_ble_eq_true rfl) ⟨Nat.le_refl _, Nat.le_refl _⟩ ?_
  refine mm_aload_n 0 dX0_begin_53 rfl rfl ?_
  refine mm_getr (b := a + 5) dX0_begin_54 rfl fk_X0_23 rfl h1 f5 ?_
  refine mm_aload_n 0 dX0_begin_57 rfl rfl ?_
  refine mm_cV0i (dz := d - 1) dX0_begin_58 rfl mzX0_cells ml_X0_49 imX0_cells (by omega) h1 ⟨rfl, rfl⟩ (ct_gc (w := w) (h := h) h1 (by simp [mm_up, flM, rw_fl, Nat.add_assoc]) (by simp [mm_up, flM, rw_fl, Nat.add_assoc])) (Nat.le_of_ble_eq_true rfl) ⟨Nat.le_refl _, Nat.le_refl _⟩ ?_
  refine mm_at (pc' := 61) rfl ?_
  refine mm_iconst (v := 0) dX0_begin_61 rfl ?_
  refine mm_cV2v (dz := d - 1) dX0_begin_62 rfl mzX5_fill ml_X0_53 imX5_fill (by omega) (r5).1 ⟨rfl, rfl⟩ (ct_fill r5 (w * h) (by omega) (by omega)) (Nat.le_of_ble_eq_true rfl) ⟨Nat.le_refl _, Nat.le_refl _⟩ ?_
  refine mm_aload_n 0 dX0_begin_65 rfl rfl ?_
  refine mm_getr (b := a + 7) dX0_begin_66 rfl fk_X0_26 rfl h1 f7 ?_
  refine mm_iconst (v := 4) dX0_begin_69 rfl ?_
  refine mm_aload_n 0 dX0_begin_70 rfl rfl ?_
  refine mm_cV0i (dz := d - 1) dX0_begin_71 rfl mzX0_cells ml_X0_49 imX0_cells (by omega) h1 ⟨rfl, rfl⟩ (ct_gc (w := w) (h := h) h1 (by simp [mm_up, flM, rw_fl, Nat.add_assoc]) (by simp [mm_up, flM, rw_fl, Nat.add_assoc])) (Nat.le_of_ble_eq_true rfl) ⟨Nat.le_refl _, Nat.le_refl _⟩ ?_
  refine mm_imulN (4) (w * h) dX0_begin_74 ?_
  refine mm_at (pc' := 75) rfl ?_
  refine mm_iconst (v := -1) dX0_begin_75 rfl ?_
  refine mm_cV2v (dz := d - 1) dX0_begin_76 rfl mzX5_fill ml_X0_53 imX5_fill (by omega) (r7).1 ⟨rfl, rfl⟩ (ct_fill r7 (4 * (w * h)) (by omega) (by omega)) (Nat.le_of_ble_eq_true rfl) ⟨Nat.le_refl _, Nat.le_refl _⟩ ?_
  refine mm_aload_n 0 dX0_begin_79 rfl rfl ?_
  refine mm_getr (b := a + 9) dX0_begin_80 rfl fk_X0_29 rfl h1 f9 ?_
  refine mm_iconst (v := 3) dX0_begin_83 rfl ?_
  refine mm_iconst (v := 0) dX0_begin_84 rfl ?_
  refine mm_cV2v (dz := d - 1) dX0_begin_85 rfl mzX5_fill ml_X0_53 imX5_fill (by omega) (r9).1 ⟨rfl, rfl⟩ (ct_fill r9 (3) (by omega) (by omega)) (Nat.le_of_ble_eq_true rfl) ⟨Nat.le_refl _, Nat.le_refl _⟩ ?_
  refine mm_aload_n 0 dX0_begin_88 rfl rfl ?_
  refine mm_at (pc' := 89) rfl ?_
  refine mm_iconst (v := 0) dX0_begin_89 rfl ?_
  refine mm_puti dX0_begin_90 rfl fk_X0_59 rfl fv_0_7 h1 ?_
  refine mm_aload_n 0 dX0_begin_93 rfl rfl ?_
  refine mm_iconst (v := 0) dX0_begin_94 rfl ?_
  refine mm_puti dX0_begin_95 rfl fk_X0_62 rfl fv_0_8 h1 ?_
  refine mm_vret dX0_begin_98 rfl ⟨Nat.le_refl _, Nat.le_refl _⟩ ?_
  exact hq
theorem ct_gb2 {g : mm_G} {I : mm_I} {d w h : Nat} (hc : w * h ≤ 80) (hd : 2 ≤ d) : mm_Cv g zX0_begin d [.ref 2, .int (nI w), .int (nI h)] sh_S I (gbM I 2 w h) := ct_gb gr_2 hc hd
set_option maxRecDepth 100000 in
set_option maxHeartbeats 600000 in
theorem ct_rn {g : mm_G} {I : mm_I} {d w h : Nat} (hc : w * h ≤ 80) (hd : 3 ≤ d) : mm_Cv g zX8_renew d [.ref 1, .int (nI w), .int (nI h)] sh_S I (rnM I w h) := by
  refine mm_Cv_of (fun Q hq => ?_)
  refine mm_begin (ls := [(0, .ref 1), (1, .int (nI (w))), (2, .int (nI (h)))]) (Nat.le_of_ble_eq_true rfl) rfl rfl ?_
  refine mm_aload_n 0 dX8_renew_0 rfl rfl ?_
  refine mm_getr (b := 2) dX8_renew_1 rfl fk_X8_12 rfl so_1 sr_1_0 ?_
  refine mm_iload_n 1 dX8_renew_4 rfl rfl ?_
  refine mm_iload_n 2 dX8_renew_5 rfl rfl ?_
  refine mm_cV2v (dz := d - 1) dX8_renew_6 rfl mzX0_begin ml_X8_62 imX0_begin (by omega) so_2 ⟨rfl, rfl⟩ (ct_gb2 hc (by omega)) (Nat.le_of_ble_eq_true rfl) ⟨Nat.le_refl _, Nat.le_refl _⟩ ?_
  refine mm_aload_n 0 dX8_renew_9 rfl rfl ?_
  refine mm_iconst (v := 0) dX8_renew_10 rfl ?_
  refine mm_puti dX8_renew_11 rfl fk_X8_39 rfl fv_8_4 so_1 ?_
  refine mm_at (pc' := 14) rfl ?_
  refine mm_aload_n 0 dX8_renew_14 rfl rfl ?_
  refine mm_getr (b := 82) dX8_renew_15 rfl fk_X8_55 rfl so_1 sr_1_6 ?_
  refine mm_iconst (v := 0) dX8_renew_18 rfl ?_
  refine mm_cV1v (dz := d - 1) dX8_renew_19 rfl mzX5_shorten ml_X8_66 imX5_shorten (by omega) so_82 ⟨rfl, rfl⟩ (ct_short0 rw_82 (by omega)) (Nat.le_of_ble_eq_true rfl) ⟨Nat.le_refl _, Nat.le_refl _⟩ ?_
  refine mm_aload_n 0 dX8_renew_22 rfl rfl ?_
  refine mm_getr (b := 84) dX8_renew_23 rfl fk_X8_59 rfl so_1 sr_1_7 ?_
  refine mm_iconst (v := 0) dX8_renew_26 rfl ?_
  refine mm_cV1v (dz := d - 1) dX8_renew_27 rfl mzX5_shorten ml_X8_66 imX5_shorten (by omega) so_84 ⟨rfl, rfl⟩ (ct_short0 rw_84 (by omega)) (Nat.le_of_ble_eq_true rfl) ⟨Nat.le_refl _, Nat.le_refl _⟩ ?_
  refine mm_at (pc' := 30) rfl ?_
  refine mm_vret dX8_renew_30 rfl ⟨Nat.le_refl _, Nat.le_refl _⟩ ?_
  exact hq
set_option maxRecDepth 100000 in
set_option maxHeartbeats 600000 in
theorem cb_groundB {g : mm_G} {I : mm_I} {d : Nat} {a b : Int32} (hx : ¬ sp_wi a 2 10 ∨ ¬ sp_wi b 2 8) (hd : 1 ≤ d) : mm_Ci g zX11_ground d [.ref 0, .int a, .int b] sh_S I (-1000000001) I := by
  refine mm_Ci_of (fun Q hq => ?_)
  refine mm_begin (ls := [(0, .ref 0), (1, .int (a)), (2, .int (b))]) (Nat.le_of_ble_eq_true rfl) rfl rfl ?_
  refine mm_iload_n 1 dX11_ground_0 rfl rfl ?_
  refine mm_iconst (v := 2) dX11_ground_1 rfl ?_
  refine mm_bipush (v := 10) dX11_ground_2 rfl ?_
  refine mm_cS3i (dz := d - 1) dX11_ground_4 rfl mzX11_within ml_X11_63 imX11_within (by omega) cx_within (Nat.le_of_ble_eq_true rfl) ⟨Nat.le_refl _, Nat.le_refl _⟩ ?_
  refine mm_if_eqB (tgt := 20) dX11_ground_7 (by decide) (fun c7 => ?_) (fun c7 => ?_)
  · refine mm_ldc dX11_ground_20 rfl kc_X11_67 ?_
    refine mm_iret dX11_ground_22 rfl ⟨Nat.le_refl _, Nat.le_refl _⟩ ?_
    exact hq
  · refine mm_iload_n 2 dX11_ground_10 rfl rfl ?_
    refine mm_iconst (v := 2) dX11_ground_11 rfl ?_
    refine mm_bipush (v := 8) dX11_ground_12 rfl ?_
    refine mm_cS3i (dz := d - 1) dX11_ground_14 rfl mzX11_within ml_X11_63 imX11_within (by omega) cx_within (Nat.le_of_ble_eq_true rfl) ⟨Nat.le_refl _, Nat.le_refl _⟩ ?_
    refine mm_if_neB (tgt := 23) dX11_ground_17 (by decide) (fun c17 => ?_) (fun c17 => ?_)
    · exact absurd hx (by intro q; rcases q with q | q; exact q c7; exact q c17)
    · refine mm_ldc dX11_ground_20 rfl kc_X11_67 ?_
      refine mm_iret dX11_ground_22 rfl ⟨Nat.le_refl _, Nat.le_refl _⟩ ?_
      exact hq
set_option maxRecDepth 100000 in
set_option maxHeartbeats 600000 in
theorem cb_ground {g : mm_G} {I : mm_I} {d w h : Nat} (hw : 2 ≤ w ∧ w ≤ 10) (hh : 2 ≤ h ∧ h ≤ 8) (hd : 4 ≤ d) : mm_Ci g zX11_ground d [.ref 0, .int (nI w), .int (nI h)] sh_S I (nI (w * h)) (rnM I w h) := by
  have hc : w * h ≤ 80 := Nat.mul_le_mul hw.2 hh.2
  have hx1 : sp_wi (nI w) 2 10 := (show sp_wi (nI w) (nI 2) (nI 10) from ⟨(nI_leI (by omega) (by omega)).mpr hw.1, (nI_leI (by omega) (by omega)).mpr hw.2⟩)
  have hx2 : sp_wi (nI h) 2 8 := (show sp_wi (nI h) (nI 2) (nI 8) from ⟨(nI_leI (by omega) (by omega)).mpr hh.1, (nI_leI (by omega) (by omega)).mpr hh.2⟩)
  refine mm_Ci_of (fun Q hq => ?_)
  refine mm_begin (ls := [(0, .ref 0), (1, .int (nI (w))), (2, .int (nI (h)))]) (Nat.le_of_ble_eq_true rfl) rfl rfl ?_
  refine mm_iload_n 1 dX11_ground_0 rfl rfl ?_
  refine mm_iconst (v := 2) dX11_ground_1 rfl ?_
  refine mm_bipush (v := 10) dX11_ground_2 rfl ?_
  refine mm_cS3i (dz := d - 1) dX11_ground_4 rfl mzX11_within ml_X11_63 imX11_within (by omega) cx_within (Nat.le_of_ble_eq_true rfl) ⟨Nat.le_refl _, Nat.le_refl _⟩ ?_
  refine mm_if_eqB (tgt := 20) dX11_ground_7 (by decide) (fun c7 => ?_) (fun c7 => ?_)
  · first | exact absurd hx1 c7 | exact absurd hx2 c17
  · refine mm_iload_n 2 dX11_ground_10 rfl rfl ?_
    refine mm_iconst (v := 2) dX11_ground_11 rfl ?_
    refine mm_bipush (v := 8) dX11_ground_12 rfl ?_
    refine mm_cS3i (dz := d - 1) dX11_ground_14 rfl mzX11_within ml_X11_63 imX11_within (by omega) cx_within (Nat.le_of_ble_eq_true rfl) ⟨Nat.le_refl _, Nat.le_refl _⟩ ?_
    refine mm_if_neB (tgt := 23) dX11_ground_17 (by decide) (fun c17 => ?_) (fun c17 => ?_)
    · refine mm_aload_n 0 dX11_ground_23 rfl rfl ?_
      refine mm_getr (b := 1) dX11_ground_24 rfl fk_X11_10 rfl so_0 sr_0_0 ?_
      refine mm_iload_n 1 dX11_ground_27 rfl rfl ?_
      refine mm_iload_n 2 dX11_ground_28 rfl rfl ?_
      refine mm_cV2v (dz := d - 1) dX11_ground_29 rfl mzX8_renew ml_X11_68 imX8_renew (by omega) so_1 ⟨rfl, rfl⟩ (ct_rn hc (by omega)) (Nat.le_of_ble_eq_true rfl) ⟨Nat.le_refl _, Nat.le_refl _⟩ ?_
      refine mm_aload_n 0 dX11_ground_32 rfl rfl ?_
      refine mm_getr (b := 1) dX11_ground_33 rfl fk_X11_10 rfl so_0 sr_0_0 ?_
      refine mm_getr (b := 2) dX11_ground_36 rfl fk_X11_72 rfl so_1 sr_1_0 ?_
      refine mm_at (pc' := 39) rfl ?_
      refine mm_cV0i (dz := d - 1) dX11_ground_39 rfl mzX0_cells ml_X11_76 imX0_cells (by omega) so_2 ⟨rfl, rfl⟩ (ct_gc (w := w) (h := h) so_2 (by simp [rnM, gbM, mm_up, flM, rw_fl]) (by simp [rnM, gbM, mm_up, flM, rw_fl])) (Nat.le_of_ble_eq_true rfl) ⟨Nat.le_refl _, Nat.le_refl _⟩ ?_
      refine mm_iret dX11_ground_42 rfl ⟨Nat.le_refl _, Nat.le_refl _⟩ ?_
      exact hq
    · first | exact absurd hx1 c7 | exact absurd hx2 c17
