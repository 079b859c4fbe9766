/-! THE CLASS: clear, has -/
set_option maxRecDepth 100000 in
set_option maxHeartbeats 600000 in
theorem cg_empty {g : mm_G} {d : Nat} {w h n l k o r : Nat} {A : mm_I} {N : Nat → Int32} (hz : zOK (w * h) n l k o r) (hW : mo_W N w h) (hd : 2 ≤ d) : mm_Cv g zX10_empty d [.ref 22] sh_S (cN (w * h) n l k o r A N) (kM (cN (w * h) n l k o r A N)) := by
  obtain ⟨hz1, hz2, hz3, hz4, hz5, hz6⟩ := id hz
  have hc := mo_W_c hW
  obtain ⟨-, -, hw1, hw2, hh1, hh2⟩ := id hW
  refine mm_Cv_of (fun Q hq => ?_)
  refine mm_begin (ls := [(0, .ref 22)]) (Nat.le_of_ble_eq_true rfl) rfl rfl ?_
  refine mm_aload_n 0 dX10_empty_0 rfl rfl ?_
  refine mm_getr (b := 23) dX10_empty_1 rfl fk_X10_14 rfl so_22 sr_22_0 ?_
  refine mm_iconst (v := 0) dX10_empty_4 rfl ?_
  refine mm_cV1v (dz := d - 1) dX10_empty_5 rfl mzX5_shorten ml_X10_39 imX5_shorten (by omega) so_23 ⟨rfl, rfl⟩ (ct_short0 rw_23 (by omega)) (Nat.le_of_ble_eq_true rfl) ⟨Nat.le_refl _, Nat.le_refl _⟩ ?_
  refine mm_aload_n 0 dX10_empty_8 rfl rfl ?_
  refine mm_getr (b := 25) dX10_empty_9 rfl fk_X10_20 rfl so_22 sr_22_1 ?_
  refine mm_iconst (v := 0) dX10_empty_12 rfl ?_
  refine mm_cV1v (dz := d - 1) dX10_empty_13 rfl mzX5_shorten ml_X10_39 imX5_shorten (by omega) so_25 ⟨rfl, rfl⟩ (ct_short0 rw_25 (by omega)) (Nat.le_of_ble_eq_true rfl) ⟨Nat.le_refl _, Nat.le_refl _⟩ ?_
  refine mm_at (pc' := 16) rfl ?_
  refine mm_aload_n 0 dX10_empty_16 rfl rfl ?_
  refine mm_getr (b := 27) dX10_empty_17 rfl fk_X10_23 rfl so_22 sr_22_2 ?_
  refine mm_iconst (v := 0) dX10_empty_20 rfl ?_
  refine mm_cV1v (dz := d - 1) dX10_empty_21 rfl mzX5_shorten ml_X10_39 imX5_shorten (by omega) so_27 ⟨rfl, rfl⟩ (ct_short0 rw_27 (by omega)) (Nat.le_of_ble_eq_true rfl) ⟨Nat.le_refl _, Nat.le_refl _⟩ ?_
  refine mm_aload_n 0 dX10_empty_24 rfl rfl ?_
  refine mm_getr (b := 29) dX10_empty_25 rfl fk_X10_26 rfl so_22 sr_22_3 ?_
  refine mm_iconst (v := 0) dX10_empty_28 rfl ?_
  refine mm_cV1v (dz := d - 1) dX10_empty_29 rfl mzX5_shorten ml_X10_39 imX5_shorten (by omega) so_29 ⟨rfl, rfl⟩ (ct_short0 rw_29 (by omega)) (Nat.le_of_ble_eq_true rfl) ⟨Nat.le_refl _, Nat.le_refl _⟩ ?_
  refine mm_at (pc' := 32) rfl ?_
  refine mm_vret dX10_empty_32 rfl ⟨Nat.le_refl _, Nat.le_refl _⟩ ?_
  exact hq
set_option maxRecDepth 100000 in
set_option maxHeartbeats 600000 in
theorem cb_clear {g : mm_G} {d : Nat} {w h n l k o r : Nat} {A : mm_I} {N : Nat → Int32} (hz : zOK (w * h) n l k o r) (hW : mo_W N w h) {J : mm_I} (hJ : J 201 = N) (hD : mo_D N n) (hK : mo_K N (w * h)) (hk : N 19 = nI k) (hd : 3 ≤ d) : mm_Ci g zX11_clear d [.ref 0] sh_S (cN (w * h) n l k o r A N) ((op_clear J).1) (cN (w * h) n l 0 o r (kM (cN (w * h) n l k o r A N)) ((op_clear J).2 201)) := by
  obtain ⟨hz1, hz2, hz3, hz4, hz5, hz6⟩ := id hz
  have hc := mo_W_c hW
  obtain ⟨-, -, hw1, hw2, hh1, hh2⟩ := id hW
  refine mm_Ci_of (fun Q hq => ?_)
  refine mm_begin (ls := [(0, .ref 0)]) (Nat.le_of_ble_eq_true rfl) rfl rfl ?_
  refine mm_aload_n 0 dX11_clear_0 rfl rfl ?_
  refine mm_getr (b := 1) dX11_clear_1 rfl fk_X11_10 rfl so_0 sr_0_0 ?_
  refine mm_getr (b := 22) dX11_clear_4 rfl fk_X11_309 rfl so_1 sr_1_2 ?_
  refine mm_cV0i (dz := d - 1) dX11_clear_7 rfl mzX10_many ml_X11_313 imX10_many (by omega) so_22 ⟨rfl, rfl⟩ (cg_works hz hW (by omega)) (Nat.le_of_ble_eq_true rfl) ⟨Nat.le_refl _, Nat.le_refl _⟩ ?_
  refine mm_istore_n (ls' := [(1, .int (nI (k))), (0, .ref 0)]) dX11_clear_10 rfl (by decide) rfl ?_
  refine mm_aload_n 1 dX11_clear_11 rfl rfl ?_
  refine mm_getr (b := 1) dX11_clear_12 rfl fk_X11_10 rfl so_0 sr_0_0 ?_
  refine mm_getr (b := 22) dX11_clear_15 rfl fk_X11_309 rfl so_1 sr_1_2 ?_
  refine mm_at (pc' := 18) rfl ?_
  refine mm_cV0v (dz := d - 1) dX11_clear_18 rfl mzX10_empty ml_X11_321 imX10_empty (by omega) so_22 ⟨rfl, rfl⟩ (cg_empty hz hW (by omega)) (Nat.le_of_ble_eq_true rfl) ⟨Nat.le_refl _, Nat.le_refl _⟩ ?_
  refine mm_iload_n 0 dX11_clear_21 rfl rfl ?_
  refine mm_iret dX11_clear_22 rfl ⟨Nat.le_refl _, Nat.le_refl _⟩ ?_
  subst hJ; exact mm_l2c (F := fun N => cN (w * h) n l 0 o r (kM (cN (w * h) n l k o r A (J 201))) N) (by unfold op_clear; rw [hk]) (by rw [up_201]; exact cN_clear.symm) hq
/- -/
