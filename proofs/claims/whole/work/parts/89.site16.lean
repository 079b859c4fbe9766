/-! THE CLASS: ORDERS and REPORTS, how many -/
theorem s_o {c n l k o r : Nat} {A : mm_I} {N : Nat → Int32} : cN c n l k o r A N 82 1 = nI (3 * o) := by
  refine cN_c ?_ (by unfold cn_; rw [if_neg (by omega), if_neg (by omega), if_pos ⟨rfl, rfl⟩])
  rw [lo_ato (by omega) (by omega) (by omega) (by omega) (by omega) (by omega) (by omega) (by omega) (by omega) (by omega) (by omega) (by omega) (by omega) (by omega) (by omega), if_neg (by omega)]
theorem s_r {c n l k o r : Nat} {A : mm_I} {N : Nat → Int32} (hn : n ≤ 5) : cN c n l k o r A N 84 1 = nI (6 * r) := by
  refine cN_c ?_ (by unfold cn_; rw [if_neg (by omega), if_neg (by omega), if_neg (by omega), if_pos ⟨rfl, rfl⟩])
  rw [lo_ato (by omega) (by omega) (by omega) (by omega) (by omega) (by omega) (by omega) (by omega) (by omega) (by omega) (by omega) (by omega) (by omega) (by omega) (by omega), if_neg (by omega)]
set_option maxRecDepth 100000 in
set_option maxHeartbeats 600000 in
theorem cg_orders {g : mm_G} {d : Nat} {w h n l k o r : Nat} {A : mm_I} {N : Nat → Int32} (hz : zOK (w * h) n l k o r) (hW : mo_W N w h) (hd : 1 ≤ d) : mm_Ci g zX8_ordersOnWay d [.ref 1] sh_S (cN (w * h) n l k o r A N) (nI o) (cN (w * h) n l k o r A N) := by
  obtain ⟨hz1, hz2, hz3, hz4, hz5, hz6⟩ := id hz
  have hc := mo_W_c hW
  obtain ⟨-, -, hw1, hw2, hh1, hh2⟩ := id hW
  refine mm_Ci_of (fun Q hq => ?_)
  refine mm_begin (ls := [(0, .ref 1)]) (Nat.le_of_ble_eq_true rfl) rfl rfl ?_
  refine mm_aload_n 0 dX8_ordersOnWay_0 rfl rfl ?_
  refine mm_getr (b := 82) dX8_ordersOnWay_1 rfl fk_X8_55 rfl so_1 sr_1_6 ?_
  refine mm_cV0i (dz := d - 1) dX8_ordersOnWay_4 rfl mzX5_size ml_X8_109 imX5_size (by omega) so_82 ⟨rfl, rfl⟩ (ct_size rw_82) (Nat.le_of_ble_eq_true rfl) ⟨Nat.le_refl _, Nat.le_refl _⟩ ?_
  refine mm_top (v := nI (3 * o)) s_o ?_
  refine mm_iconst (v := 3) dX8_ordersOnWay_7 rfl ?_
  refine mm_idivN (3 * o) (3) dX8_ordersOnWay_8 (by omega) (by omega) (by omega) ?_
  refine mm_iret dX8_ordersOnWay_9 rfl ⟨Nat.le_refl _, Nat.le_refl _⟩ ?_
  rw [show 3 * o / 3 = o by omega]; exact hq
set_option maxRecDepth 100000 in
set_option maxHeartbeats 600000 in
theorem cg_reports {g : mm_G} {d : Nat} {w h n l k o r : Nat} {A : mm_I} {N : Nat → Int32} (hz : zOK (w * h) n l k o r) (hW : mo_W N w h) (hd : 1 ≤ d) : mm_Ci g zX8_reportsOnWay d [.ref 1] sh_S (cN (w * h) n l k o r A N) (nI r) (cN (w * h) n l k o r A N) := by
  obtain ⟨hz1, hz2, hz3, hz4, hz5, hz6⟩ := id hz
  have hc := mo_W_c hW
  obtain ⟨-, -, hw1, hw2, hh1, hh2⟩ := id hW
  refine mm_Ci_of (fun Q hq => ?_)
  refine mm_begin (ls := [(0, .ref 1)]) (Nat.le_of_ble_eq_true rfl) rfl rfl ?_
  refine mm_aload_n 0 dX8_reportsOnWay_0 rfl rfl ?_
  refine mm_getr (b := 84) dX8_reportsOnWay_1 rfl fk_X8_59 rfl so_1 sr_1_7 ?_
  refine mm_cV0i (dz := d - 1) dX8_reportsOnWay_4 rfl mzX5_size ml_X8_109 imX5_size (by omega) so_84 ⟨rfl, rfl⟩ (ct_size rw_84) (Nat.le_of_ble_eq_true rfl) ⟨Nat.le_refl _, Nat.le_refl _⟩ ?_
  refine mm_top (v := nI (6 * r)) (s_r hz2) ?_
  refine mm_bipush (v := 6) dX8_reportsOnWay_7 rfl ?_
  refine mm_idivN (6 * r) (6) dX8_reportsOnWay_9 (by omega) (by omega) (by omega) ?_
  refine mm_iret dX8_reportsOnWay_10 rfl ⟨Nat.le_refl _, Nat.le_refl _⟩ ?_
  rw [show 6 * r / 6 = r by omega]; exact hq
