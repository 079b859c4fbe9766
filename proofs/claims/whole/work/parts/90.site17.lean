/-! THE CLASS: shine, pay -/
set_option maxRecDepth 100000 in
set_option maxHeartbeats 600000 in
theorem cg_shine {g : mm_G} {d : Nat} {w h n l k o r : Nat} {A : mm_I} {N : Nat → Int32} (hz : zOK (w * h) n l k o r) (hW : mo_W N w h) (hd : 1 ≤ d) : mm_Cv g zX3_shine d [.ref 17] sh_S (cN (w * h) n l k o r A N) (cN (w * h) n l k o r A (upd N 4 (sp_min 9999 (N 4 + N 5)))) := by
  obtain ⟨hz1, hz2, hz3, hz4, hz5, hz6⟩ := id hz
  have hc := mo_W_c hW
  obtain ⟨-, -, hw1, hw2, hh1, hh2⟩ := id hW
  refine mm_Cv_of (fun Q hq => ?_)
  refine mm_begin (ls := [(0, .ref 17)]) (Nat.le_of_ble_eq_true rfl) rfl rfl ?_
  refine mm_aload_n 0 dX3_shine_0 rfl rfl ?_
  refine mm_sipush (v := 9999) dX3_shine_1 rfl ?_
  refine mm_aload_n 0 dX3_shine_4 rfl rfl ?_
  refine mm_geti dX3_shine_5 rfl fk_X3_33 rfl so_17 ?_
  refine mm_top (v := N 4) (cN_r (lo_at17.trans rfl)) ?_
  refine mm_aload_n 0 dX3_shine_8 rfl rfl ?_
  refine mm_geti dX3_shine_9 rfl fk_X3_36 rfl so_17 ?_
  refine mm_top (v := N 5) (cN_r (lo_at17.trans rfl)) ?_
  refine mm_iadd dX3_shine_12 ?_
  refine mm_min dX3_shine_13 rfl ml_X3_70 jm_min (by omega) (Nat.le_of_ble_eq_true rfl) ⟨Nat.le_refl _, Nat.le_refl _⟩ ?_
  refine mm_at (pc' := 16) rfl ?_
  refine mm_puti dX3_shine_16 rfl fk_X3_33 rfl fv_3_3 so_17 ?_
  refine mm_vret dX3_shine_19 rfl ⟨Nat.le_refl _, Nat.le_refl _⟩ ?_
  rw [← show mm_up (cN (w * h) n l k o r A N) 17 3 (sp_min 9999 (N 4 + N 5)) = cN (w * h) n l k o r A (upd N 4 (sp_min 9999 (N 4 + N 5))) from cN_up hz (lo_at17.trans rfl) (sn_up (by omega) hz.1)] at hq; exact hq
set_option maxRecDepth 100000 in
set_option maxHeartbeats 600000 in
theorem cg_pay {g : mm_G} {d : Nat} {w h n l k o r : Nat} {A : mm_I} {N : Nat → Int32} (hz : zOK (w * h) n l k o r) (hW : mo_W N w h) {m : Nat} (hm : m < n) {x y : Int32} (hd : 2 ≤ d) : mm_Cv g zX1_pay d [.ref (36 + 3 * m), .int (x), .int (y)] sh_S (cN (w * h) n l k o r A N) (cN (w * h) n l k o r A (upd (upd N (630 + 40 * m + 2) (if 0 < N (630 + 40 * m + 2) - x then N (630 + 40 * m + 2) - x else 0)) (630 + 40 * m + 3) (sp_min 100 (N (630 + 40 * m + 3) + y)))) := by
  obtain ⟨hz1, hz2, hz3, hz4, hz5, hz6⟩ := id hz
  have hc := mo_W_c hW
  obtain ⟨-, -, hw1, hw2, hh1, hh2⟩ := id hW
  have hW2 : mo_W (upd N (630 + 40 * m + 2) (if 0 < N (630 + 40 * m + 2) - x then N (630 + 40 * m + 2) - x else 0)) w h := ⟨by unfold upd; rw [if_neg (by omega)]; exact hW.1, by unfold upd; rw [if_neg (by omega)]; exact hW.2.1, hW.2.2⟩
  refine mm_Cv_of (fun Q hq => ?_)
  refine mm_begin (ls := [(0, .ref (36 + 3 * m)), (1, .int (x)), (2, .int (y))]) (Nat.le_of_ble_eq_true rfl) rfl rfl ?_
  refine mm_aload_n 0 dX1_pay_0 rfl rfl ?_
  refine mm_iconst (v := 0) dX1_pay_1 rfl ?_
  refine mm_aload_n 0 dX1_pay_2 rfl rfl ?_
  refine mm_geti dX1_pay_3 rfl fk_X1_33 rfl (sm_1 (show m < 5 by omega)).1 ?_
  refine mm_top (v := N (630 + 40 * m + 2)) (s_m (by omega) (by omega) (by omega)) ?_
  refine mm_iload_n 1 dX1_pay_6 rfl rfl ?_
  refine mm_isub dX1_pay_7 ?_
  refine mm_max dX1_pay_8 rfl ml_X1_75 jm_max (by omega) (Nat.le_of_ble_eq_true rfl) ⟨Nat.le_refl _, Nat.le_refl _⟩ ?_
  refine mm_puti dX1_pay_11 rfl fk_X1_33 rfl fv_1_2 (sm_1 (show m < 5 by omega)).1 ?_
  refine mm_at (pc' := 14) rfl ?_
  refine mm_mem (J := cN (w * h) n l k o r A (upd N (630 + 40 * m + 2) (if 0 < N (630 + 40 * m + 2) - x then N (630 + 40 * m + 2) - x else 0))) (s_mu hz hm (by omega)) ?_
  refine mm_aload_n 0 dX1_pay_14 rfl rfl ?_
  refine mm_iload_n 2 dX1_pay_15 rfl rfl ?_
  refine mm_cV1i (dz := d - 1) dX1_pay_16 rfl mzX1_addWear ml_X1_78 imX1_addWear (by omega) (sm_1 (show m < 5 by omega)).1 ⟨rfl, rfl⟩ (cg_wear hz hW2 (m := m) hm (by omega)) (Nat.le_of_ble_eq_true rfl) ⟨Nat.le_refl _, Nat.le_refl _⟩ ?_
  refine mm_pop dX1_pay_19 rfl ?_
  refine mm_vret dX1_pay_20 rfl ⟨Nat.le_refl _, Nat.le_refl _⟩ ?_
  rw [show (upd N (630 + 40 * m + 2) (if 0 < N (630 + 40 * m + 2) - x then N (630 + 40 * m + 2) - x else 0)) (630 + 40 * m + 3) = N (630 + 40 * m + 3) by unfold upd; rw [if_neg (by omega)]]; exact hq
