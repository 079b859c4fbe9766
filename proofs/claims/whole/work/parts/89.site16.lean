/-! THE CLASS: ORDERS and REPORTS, how many -/
theorem s_o {c n l k o r : Nat} {A : mm_I} {N : Nat → Int32} : cN c n l k o r A N 82 1 = nI (3 * o) := by
  refine cN_c ?_ (by unfold cn_; rw [if_neg (by omega), if_neg (by omega), if_pos ⟨rfl, rfl⟩])
  rw [lo_ato (by omega) (by omega) (by omega) (by omega) (by omega) (by omega) (by omega) (by omega) (by omega) (by omega) (by omega) (by omega) (by omega) (by omega) (by omega), if_neg (by omega)]
theorem s_r {c n l k o r : Nat} {A : mm_I} {N : Nat → Int32} (hn : n ≤ 5) : cN c n l k o r A N 84 1 = nI (6 * r) := by
  refine cN_c ?_ (by unfold cn_; rw [if_neg (by omega), if_neg (by omega), if_neg (by omega), if_pos ⟨rfl, rfl⟩])
  rw [lo_ato (by omega) (by omega) (by omega) (by omega) (by omega) (by omega) (by omega) (by omega) (by omega) (by omega) (by omega) (by omega) (by omega) (by omega) (by omega), if_neg (by omega)]
set_option maxRecDepth 100000 in
set_option maxHeartbeats 600000 in
theorem cg_orders {g : mm_G} {d : Nat} {w h n l k o r : Nat} {A : mm_I} {N : Nat → Int32} (hz : zOK (w * h) n l k o r) (hW : mo_W N w h) (hd : 1 ≤ d) : mm_Ci g zX8_ordersOnWay d [.ref 1] sh_S (cN (w * h) n l k o r A N) (nI o) (cN (w * h) n l k o r A N) := by
  obtain ⟨hz1, hz2, hz3, hz4, hz5, hz6⟩ := id hz
  have hc := mo_W_c hW
  obtain ⟨-, -, hw1, hw2, hh1, hh2⟩ := id hW
  refine mm_Ci_of (fun Q hq => ?_)
  refine mm_begin (ls := [(0, .ref 1)]) (Nat.le_of_ble_eq_true rfl) rfl rfl ?_
  refine mm_aload_n 0 dX8_ordersOnWay_0 rfl rfl ?_
  refine mm_getr (b := 82) dX8_ordersOnWay_1 rfl fk_X8_55 rfl so_1 sr_1_6 ?_
  refine mm_cV0i (dz := d - 1) dX8_ordersOnWay_4 rfl mzX5_size ml_X8_109 imX5_size (by omega) so_82 ⟨rfl, rfl⟩ (ct_size rw_82) (Nat.le_of_ble_eq_true rfl) ⟨Nat.le_refl _, Nat.le_refl _⟩ ?_
  refine mm_top (v := nI (3 * o)) s_o ?_
  refine mm_iconst (v := 3) dX8_ordersOnWay_7 rfl ?_
  refine mm_idivN (3 * o) (3) dX8_ordersOnWay_8 (by omega) (by omega) (by omega) ?_
  refine mm_iret dX8_ordersOnWay_9 rfl ⟨Nat.le_refl _, Nat.le_refl _⟩ ?_
  rw [show 3 * o / 3 = o by omega]; exact hq
set_option maxRecDepth 100000 in
set_option maxHeartbeats 600000 in
theorem cg_reports {g : mm_G} {d : Nat} {w h n l k o r : Nat} {A : mm_I} {N : Nat → Int32} (hz : zOK (w * h) n l k o r) (hW : mo_W N w h) (hd : 1 ≤ d) : mm_Ci g zX8_reportsOnWay d [.ref 1] sh_S (cN (w * h) n l k o r A N) (nI r) (cN (w * h) n l k o r A N) := by
  obtain ⟨hz1, hz2, hz3, hz4, hz5, hz6⟩ := id hz
  have hc := mo_W_c hW
  obtain ⟨-, -, hw1, hw2, hh1, hh2⟩ := id hW
  refine mm_Ci_of (fun Q hq => ?_)
  refine mm_begin (ls := [(0, .ref 1)]) (Nat.le_of_ble_eq_true rfl) rfl rfl ?_
  refine mm_aload_n 0 dX8_reportsOnWay_0 rfl rfl ?_
  refine mm_getr (b := 84) dX8_reportsOnWay_1 rfl fk_X8_59 rfl so_1 sr_1_7 ?_
  refine mm_cV0i (dz := d - 1) dX8_reportsOnWay_4 rfl mzX5_size ml_X8_109 imX5_size (by omega) so_84 ⟨rfl, rfl⟩ (ct_size rw_84) (Nat.le_of_ble_eq_true rfl) ⟨Nat.le_refl _, Nat.le_refl _⟩ ?_
  refine mm_top (v := nI (6 * r)) (s_r hz2) ?_
  refine mm_bipush (v := 6) dX8_reportsOnWay_7 rfl ?_
  refine mm_idivN (6 * r) (6) dX8_reportsOnWay_9 (by omega) (by omega) (by omega) ?_
  refine mm_iret dX8_reportsOnWay_10 rfl ⟨Nat.le_refl _, Nat.le_refl _⟩ ?_
  rw [show 6 * r / 6 = r by omega]; exact hq
set_option maxRecDepth 100000 in
set_option maxHeartbeats 600000 in
theorem cb_order {g : mm_G} {d : Nat} {w h n l k o r : Nat} {A : mm_I} {N : Nat → Int32} (hz : zOK (w * h) n l k o r) (hW : mo_W N w h) {J : mm_I} (hJ : J 201 = N) (hD : mo_D N n) (hK : mo_K N (w * h)) {x v : Int32} (hd : 3 ≤ d) : mm_Ci g zX11_order d [.ref 0, .int (x), .int (v)] sh_S (cN (w * h) n l k o r A N) (op_order o J x v) (cN (w * h) n l k o r A N) := by
  obtain ⟨hz1, hz2, hz3, hz4, hz5, hz6⟩ := id hz
  have hc := mo_W_c hW
  obtain ⟨-, -, hw1, hw2, hh1, hh2⟩ := id hW
  refine mm_Ci_of (fun Q hq => ?_)
  refine mm_begin (ls := [(0, .ref 0), (1, .int (x)), (2, .int (v))]) (Nat.le_of_ble_eq_true rfl) rfl rfl ?_
  refine mm_iload_n 1 dX11_order_0 rfl rfl ?_
  refine mm_if_lt (tgt := 13) dX11_order_1 (by decide) (fun c1 => ?_) (fun c1 => ?_)
  · refine mm_ldc dX11_order_13 rfl kc_X11_67 ?_
    refine mm_iret dX11_order_15 rfl ⟨Nat.le_refl _, Nat.le_refl _⟩ ?_
    subst hJ; exact mm_l1 (by unfold op_order; rw [if_pos (by first | exact Or.inl c1 | exact Or.inr (c10))]) hq
  · refine mm_iload_n 2 dX11_order_4 rfl rfl ?_
    refine mm_iconst (v := 0) dX11_order_5 rfl ?_
    refine mm_iconst (v := 2) dX11_order_6 rfl ?_
    refine mm_cS3i (dz := d - 1) dX11_order_7 rfl mzX11_within ml_X11_63 imX11_within (by omega) cx_within (Nat.le_of_ble_eq_true rfl) ⟨Nat.le_refl _, Nat.le_refl _⟩ ?_
    refine mm_if_neB (tgt := 16) dX11_order_10 (by decide) (fun c10 => ?_) (fun c10 => ?_)
    · obtain ⟨y, hy, rfl⟩ := nI_of c1
      obtain ⟨j, hkj, rfl⟩ := sp_wi_n 0 2 (by decide) (by decide) c10
      refine mm_iload_n 1 dX11_order_16 rfl rfl ?_
      refine mm_aload_n 0 dX11_order_17 rfl rfl ?_
      refine mm_getr (b := 1) dX11_order_18 rfl fk_X11_10 rfl so_0 sr_0_0 ?_
      refine mm_cV0i (dz := d - 1) dX11_order_21 rfl mzX8_ordersOnWay ml_X11_273 imX8_ordersOnWay (by omega) so_1 ⟨rfl, rfl⟩ (cg_orders hz hW (by omega)) (Nat.le_of_ble_eq_true rfl) ⟨Nat.le_refl _, Nat.le_refl _⟩ ?_
      refine mm_icmp_ltN (y) (o) (tgt := 30) dX11_order_24 (by decide) (by omega) (by omega) (fun c24 => ?_) (fun c24 => ?_)
      · refine mm_aload_n 0 dX11_order_30 rfl rfl ?_
        refine mm_getr (b := 1) dX11_order_31 rfl fk_X11_10 rfl so_0 sr_0_0 ?_
        refine mm_getr (b := 82) dX11_order_34 rfl fk_X11_279 rfl so_1 sr_1_6 ?_
        refine mm_iload_n 1 dX11_order_37 rfl rfl ?_
        refine mm_iconst (v := 3) dX11_order_38 rfl ?_
        refine mm_imulN (y) (3) dX11_order_39 ?_
        refine mm_iload_n 2 dX11_order_40 rfl rfl ?_
        refine mm_iaddN (y * 3) (j) dX11_order_41 ?_
        refine mm_at (pc' := 42) rfl ?_
        refine mm_cV1i (dz := d - 1) dX11_order_42 rfl mzX5_at ml_X11_102 imX5_at (by omega) so_82 ⟨rfl, rfl⟩ (ct_at rw_82 ((y * 3) + j) (by omega)) (Nat.le_of_ble_eq_true rfl) ⟨Nat.le_refl _, Nat.le_refl _⟩ ?_
        refine mm_top (v := N (830 + ((y * 3) + j))) (cN_r (lo_at83.trans (if_pos (by omega)))) ?_
        refine mm_iret dX11_order_45 rfl ⟨Nat.le_refl _, Nat.le_refl _⟩ ?_
        subst hJ; exact mm_l1 (by unfold op_order; rw [if_neg (by intro q; rcases q with q | q; exact absurd q c1; exact q c10), if_neg (fun q => by have := (nI_leI (by omega) hy).mp q; omega), vv_nI hy, vv_nI (by omega), show 830 + 3 * y + j = 830 + (y * 3 + j) by omega]) hq
      · refine mm_ldc dX11_order_27 rfl kc_X11_229 ?_
        refine mm_iret dX11_order_29 rfl ⟨Nat.le_refl _, Nat.le_refl _⟩ ?_
        subst hJ; exact mm_l1 (by unfold op_order; rw [if_neg (by intro q; rcases q with q | q; exact absurd q c1; exact q c10), if_pos ((nI_leI (by omega) hy).mpr (by omega))]) hq
    · refine mm_ldc dX11_order_13 rfl kc_X11_67 ?_
      refine mm_iret dX11_order_15 rfl ⟨Nat.le_refl _, Nat.le_refl _⟩ ?_
      subst hJ; exact mm_l1 (by unfold op_order; rw [if_pos (by first | exact Or.inl c1 | exact Or.inr (c10))]) hq
