/-! THE CLASS: the ROWS of THE PLAN -/
theorem vt_mono {N r : Nat → Int32} {i j : Nat} (h : i ≤ j) : vt N r i ≤ vt N r j := by
  induction j with
  | zero => rw [show i = 0 by omega]; exact Nat.le_refl _
  | succ j ih =>
    by_cases e : i = j + 1
    · rw [e]; exact Nat.le_refl _
    · have := ih (by omega)
      show _ ≤ vt N r j + _
      omega
set_option maxRecDepth 100000 in
set_option maxHeartbeats 600000 in
theorem dk_lr8 {g : mm_G} {d : Nat} {w h n l k o r : Nat} {A : mm_I} {N : Nat → Int32} (hz : zOK (w * h) n l k o r) (hW : mo_W N w h) {Q : Option Value → mm_Sh → mm_I → Prop} {W best : Nat → Int32} {up : Int32} {many bm n_ : Nat} (hn24 : n_ ≤ 24) (hY : mo_Y N k) (hPV : PV N k up n_ bm best) (h33 : A 33 1 = nI bm) (hb6 : bm ≤ 6) (h34 : ∀ i, i < bm → A 34 i = best i) (h228 : A 22 8 = up) (h227 : A 22 7 = nI n_) {i x hx : Nat} (hi : i < bm) (hxk : x < k) (ew : best i = nI x) (hx1 : 1 ≤ hx) (hx9 : hx ≤ 9) (ex : N (606 + x) = nI hx) (hst : ∀ j, j < hx → (hp_r N W up many bm best (vt N best i + j)).1 = (sk_pd (vbk N up best i) (vpn N best i) (up + N (612 + x)) j, vpn N best i, i, nI (hx - j))) (hpos : 0 ≤ sk_pd (vbk N up best i) (vpn N best i) (up + N (612 + x)) hx) (hvt : vt N best i + hx ≤ n_) (hd : 2 ≤ d) (hx98 : ∀ A2, dU A2 (Dp N W best up many bm) (2 * (vt N best i + hx)) → dF A A2 → mm_Ex g zX10_listRows d (0, 0) (0, 0) sh_S (cN (w * h) n l k o r A2 N) 98 [(8, .int (nI (hx))), (7, .int (nI (x))), (6, .int (nI (i))), (5, .int (nI (vt N best i))), (4, .int (vpn N best i)), (3, .int (sk_pd (vbk N up best i) (vpn N best i) (up + N (612 + x)) hx)), (0, .ref 22), (1, .ref 17), (2, .ref 193)] [] Q) : ∀ (mf j : Nat) (A1 : mm_I), j ≤ hx → dU A1 (Dp N W best up many bm) (2 * (vt N best i + j)) → dF A A1 → hx - j < mf → mm_Ex g zX10_listRows d (0, 0) (0, 0) sh_S (cN (w * h) n l k o r A1 N) 43 [(8, .int (nI (j))), (7, .int (nI (x))), (6, .int (nI (i))), (5, .int (nI (vt N best i))), (4, .int (vpn N best i)), (3, .int (sk_pd (vbk N up best i) (vpn N best i) (up + N (612 + x)) j)), (0, .ref 22), (1, .ref 17), (2, .ref 193)] [] Q := by
  obtain ⟨hz1, hz2, hz3, hz4, hz5, hz6⟩ := id hz
  have hc := mo_W_c hW
  obtain ⟨-, -, hw1, hw2, hh1, hh2⟩ := id hW
  intro mf
  induction mf with
  | zero => intro j A1 hj hU hF hmz; exact absurd hmz (Nat.not_lt_zero _)
  | succ mf ih =>
    intro j A1 hj hU hF hmz
    refine mm_iload 0 dX10_listRows_43 rfl ?_
    refine mm_aload_n 6 dX10_listRows_45 rfl rfl ?_
    refine mm_getr (b := 23) dX10_listRows_46 rfl fk_X10_14 rfl so_22 sr_22_0 ?_
    refine mm_iload 1 dX10_listRows_49 rfl ?_
    refine mm_cV1i (dz := d - 1) dX10_listRows_51 rfl mzX5_at ml_X10_104 imX5_at (by omega) so_23 ⟨rfl, rfl⟩ (ct_at rw_23 (x) (by omega)) (Nat.le_of_ble_eq_true rfl) ⟨Nat.le_refl _, Nat.le_refl _⟩ ?_
    refine mm_top (v := nI (hx)) ((cN_r (lo_at24.trans (if_pos (by omega)))).trans ex) ?_
    refine mm_icmp_geN (j) (hx) (tgt := 98) dX10_listRows_54 (by decide) (by omega) (by omega) (fun c54 => ?_) (fun c54 => ?_)
    · have e : j = hx := by omega
      subst e; exact mm_sub [0, 1, 2, 3, 4, 5, 6, 7, 8] rfl (hx98 A1 hU hF)
    · refine mm_iload_n 5 dX10_listRows_57 rfl rfl ?_
      refine mm_iload 4 dX10_listRows_58 rfl ?_
      refine mm_iconst (v := 1) dX10_listRows_60 rfl ?_
      refine mm_aload_n 6 dX10_listRows_61 rfl rfl ?_
      refine mm_geti dX10_listRows_62 rfl fk_X10_63 rfl so_22 ?_
      refine mm_top (v := up) ((cN_off hz2 (by decide)).trans ((congrFun (hF 22 (by decide)) 8).trans h228)) ?_
      refine mm_aload_n 6 dX10_listRows_65 rfl rfl ?_
      refine mm_getr (b := 25) dX10_listRows_66 rfl fk_X10_20 rfl so_22 sr_22_1 ?_
      refine mm_at (pc' := 69) rfl ?_
      refine mm_iload 1 dX10_listRows_69 rfl ?_
      refine mm_cV1i (dz := d - 1) dX10_listRows_71 rfl mzX5_at ml_X10_104 imX5_at (by omega) so_25 ⟨rfl, rfl⟩ (ct_at rw_25 (x) (by omega)) (Nat.le_of_ble_eq_true rfl) ⟨Nat.le_refl _, Nat.le_refl _⟩ ?_
      refine mm_top (v := N (612 + x)) (cN_r (lo_at26.trans (if_pos (by omega)))) ?_
      refine mm_iadd dX10_listRows_74 ?_
      refine mm_cS4i (dz := d - 1) dX10_listRows_75 rfl mzX10_live ml_X10_100 imX10_live (by omega) (cg_live (by omega)) (Nat.le_of_ble_eq_true rfl) ⟨Nat.le_refl _, Nat.le_refl _⟩ ?_
      refine mm_top (v := sk_pd (vbk N up best i) (vpn N best i) (up + N (612 + x)) (j + 1)) (en_1 (pd_pos hpos (by omega))) ?_
      refine mm_istore_n (ls' := [(3, .int (sk_pd (vbk N up best i) (vpn N best i) (up + N (612 + x)) (j + 1))), (8, .int (nI (j))), (7, .int (nI (x))), (6, .int (nI (i))), (5, .int (nI (vt N best i))), (4, .int (vpn N best i)), (0, .ref 22), (1, .ref 17), (2, .ref 193)]) dX10_listRows_78 rfl (by decide) rfl ?_
      refine mm_aload_n 8 dX10_listRows_79 rfl rfl ?_
      refine mm_iload 2 dX10_listRows_80 rfl ?_
      refine mm_cV1i (dz := d - 1) dX10_listRows_82 rfl mzX5_add ml_X10_46 imX5_add (by omega) so_193 ⟨rfl, rfl⟩ (ct_add rw_193 (2 * (vt N best i + j)) (by exact (cN_off hz2 (by decide)).trans hU.1) (by omega)) (Nat.le_of_ble_eq_true rfl) ⟨Nat.le_refl _, Nat.le_refl _⟩ ?_
      refine mm_at (pc' := 85) rfl ?_
      refine mm_pop dX10_listRows_85 rfl ?_
      refine mm_aload_n 8 dX10_listRows_86 rfl rfl ?_
      refine mm_iload_n 0 dX10_listRows_87 rfl rfl ?_
      refine mm_cV1i (dz := d - 1) dX10_listRows_88 rfl mzX5_add ml_X10_46 imX5_add (by omega) so_193 ⟨rfl, rfl⟩ (ct_add rw_193 (2 * (vt N best i + j) + 1) (by exact mm_up_at) (by omega)) (Nat.le_of_ble_eq_true rfl) ⟨Nat.le_refl _, Nat.le_refl _⟩ ?_
      refine mm_pop dX10_listRows_91 rfl ?_
      refine mm_iincN (ls' := [(8, .int (nI (j + 1))), (3, .int (sk_pd (vbk N up best i) (vpn N best i) (up + N (612 + x)) (j + 1))), (7, .int (nI (x))), (6, .int (nI (i))), (5, .int (nI (vt N best i))), (4, .int (vpn N best i)), (0, .ref 22), (1, .ref 17), (2, .ref 193)]) 1 (j) 1 dX10_listRows_92 rfl rfl (by decide) rfl ?_
      refine mm_goto (tgt := 43) dX10_listRows_95 (by decide) ?_
      have hD := Dp_0 (hst j (by omega))
      have ehw : hp_w bm best i = nI x := by unfold hp_w; rw [if_pos hi, ew]
      have u1 := dU_a hU (v := nI x) (by rw [hD.1, ehw])
      have u2 := dU_a u1 (v := sk_pd (vbk N up best i) (vpn N best i) (up + N (612 + x)) (j + 1)) (by rw [hD.2, ehw, hp_bw (by omega), ← pd_s (pd_pos hpos (by omega))])
      have hh := ih (j + 1) _ (by omega) (by rw [show 2 * (vt N best i + (j + 1)) = 2 * (vt N best i + j) + 1 + 1 by omega]; exact u2) (dF_u (dF_u hF)) (by omega)
      rw [cN_dof hz2 (by decide), cN_dof hz2 (by decide), cN_dof hz2 (by decide), cN_dof hz2 (by decide)]
      exact mm_sub [0, 2, 3, 4, 5, 1, 6, 7, 8] rfl hh
set_option maxRecDepth 100000 in
set_option maxHeartbeats 600000 in
theorem dk_lr6 {g : mm_G} {d : Nat} {w h n l k o r : Nat} {A : mm_I} {N : Nat → Int32} (hz : zOK (w * h) n l k o r) (hW : mo_W N w h) {Q : Option Value → mm_Sh → mm_I → Prop} {W best : Nat → Int32} {up : Int32} {many bm n_ : Nat} (hn24 : n_ ≤ 24) (hY : mo_Y N k) (hPV : PV N k up n_ bm best) (h33 : A 33 1 = nI bm) (hb6 : bm ≤ 6) (h34 : ∀ i, i < bm → A 34 i = best i) (h228 : A 22 8 = up) (h227 : A 22 7 = nI n_) (hd : 2 ≤ d) (hx132 : ∀ A2, dU A2 (Dp N W best up many bm) (2 * vt N best bm) → dF A A2 → mm_Ex g zX10_listRows d (0, 0) (0, 0) sh_S (cN (w * h) n l k o r A2 N) 132 [(6, .int (nI (bm))), (5, .int (nI (vt N best bm))), (4, .int (vpn N best bm)), (3, .int (vbk N up best bm)), (0, .ref 22), (1, .ref 17), (2, .ref 193)] [] Q) : ∀ (mf i : Nat) (A1 : mm_I), i ≤ bm → dU A1 (Dp N W best up many bm) (2 * vt N best i) → dF A A1 → bm - i < mf → mm_Ex g zX10_listRows d (0, 0) (0, 0) sh_S (cN (w * h) n l k o r A1 N) 17 [(6, .int (nI (i))), (5, .int (nI (vt N best i))), (4, .int (vpn N best i)), (3, .int (vbk N up best i)), (0, .ref 22), (1, .ref 17), (2, .ref 193)] [] Q := by
  obtain ⟨hz1, hz2, hz3, hz4, hz5, hz6⟩ := id hz
  have hc := mo_W_c hW
  obtain ⟨-, -, hw1, hw2, hh1, hh2⟩ := id hW
  intro mf
  induction mf with
  | zero => intro i A1 hi hU hF hmz; exact absurd hmz (Nat.not_lt_zero _)
  | succ mf ih =>
    intro i A1 hi hU hF hmz
    refine mm_iload 0 dX10_listRows_17 rfl ?_
    refine mm_aload_n 4 dX10_listRows_19 rfl rfl ?_
    refine mm_getr (b := 33) dX10_listRows_20 rfl fk_X10_32 rfl so_22 sr_22_5 ?_
    refine mm_cV0i (dz := d - 1) dX10_listRows_23 rfl mzX5_size ml_X10_42 imX5_size (by omega) so_33 ⟨rfl, rfl⟩ (ct_size rw_33) (Nat.le_of_ble_eq_true rfl) ⟨Nat.le_refl _, Nat.le_refl _⟩ ?_
    refine mm_top (v := nI (bm)) ((cN_off hz2 (by decide)).trans ((congrFun (hF 33 (by decide)) 1).trans h33)) ?_
    refine mm_icmp_geN (i) (bm) (tgt := 132) dX10_listRows_26 (by decide) (by omega) (by omega) (fun c26 => ?_) (fun c26 => ?_)
    · have e : i = bm := by omega
      subst e; exact mm_sub [0, 1, 2, 3, 4, 5, 6] rfl (hx132 A1 hU hF)
    · have hi2 : i < bm := by omega
      obtain ⟨x, hxk, ew⟩ := hPV.1 i hi2
      obtain ⟨hx, hx1, hx9, ex⟩ := hY x hxk
      have h0 := hp_at (W := W) (many := many) (show k ≤ 6 by omega) hn24 hY hPV i (by omega)
      rw [if_pos hi2, ew, vv_nI (by omega), ex] at h0
      have evb : vbk N up best (i + 1) = sk_en (vbk N up best i) (vpn N best i) (up + N (612 + x)) (nI hx) := by
        show sk_en _ _ (up + N (612 + vv (best i))) (N (606 + vv (best i))) = _
        rw [ew, vv_nI (by omega), ex]
      have hb := hPV.2.1 i hi2
      rw [evb] at hb
      have hp := en_p (by omega) hb
      have hst := hp_stay (W := W) (many := many) (show k ≤ 6 by omega) hn24 hY hPV hi2 hxk ew hx1 hx9 ex h0 hp.2
      have et : vt N best (i + 1) = vt N best i + hx := by
        show vt N best i + vv (N (606 + vv (best i))) = _
        rw [ew, vv_nI (by omega), ex, vv_nI (by omega)]
      have hvt : vt N best i + hx ≤ n_ := by
        have q1 := vt_mono (N := N) (r := best) (show i + 1 ≤ bm by omega)
        have q2 := hPV.2.2
        omega
      have epn : vpn N best (i + 1) = vpn N best i + N (618 + x) := by
        show vpn N best i + N (618 + vv (best i)) = _
        rw [ew, vv_nI (by omega)]
      refine mm_aload_n 4 dX10_listRows_29 rfl rfl ?_
      refine mm_getr (b := 33) dX10_listRows_30 rfl fk_X10_32 rfl so_22 sr_22_5 ?_
      refine mm_iload 0 dX10_listRows_33 rfl ?_
      refine mm_cV1i (dz := d - 1) dX10_listRows_35 rfl mzX5_at ml_X10_104 imX5_at (by omega) so_33 ⟨rfl, rfl⟩ (ct_at rw_33 (i) (by omega)) (Nat.le_of_ble_eq_true rfl) ⟨Nat.le_refl _, Nat.le_refl _⟩ ?_
      refine mm_top (v := nI (x)) ((cN_off hz2 (by decide)).trans ((congrFun (hF 34 (by decide)) i).trans ((h34 i (by omega)).trans ew))) ?_
      refine mm_istore (ls' := [(7, .int (nI (x))), (6, .int (nI (i))), (5, .int (nI (vt N best i))), (4, .int (vpn N best i)), (3, .int (vbk N up best i)), (0, .ref 22), (1, .ref 17), (2, .ref 193)]) dX10_listRows_38 (by decide) rfl ?_
      refine mm_iconst (v := 0) dX10_listRows_40 rfl ?_
      refine mm_istore (ls' := [(8, .int (0)), (7, .int (nI (x))), (6, .int (nI (i))), (5, .int (nI (vt N best i))), (4, .int (vpn N best i)), (3, .int (vbk N up best i)), (0, .ref 22), (1, .ref 17), (2, .ref 193)]) dX10_listRows_41 (by decide) rfl ?_
      refine mm_at (pc' := 43) rfl ?_
      refine mm_sub [0, 1, 2, 3, 4, 5, 6, 7, 8] rfl (dk_lr8 hz hW hn24 hY hPV h33 hb6 h34 h228 h227 hi2 hxk ew hx1 hx9 ex hst hp.2 hvt hd (fun A2 h1 h2 => ?_) (hx + 1) 0 A1 (Nat.zero_le _) hU hF (by omega))
      refine mm_iload 3 dX10_listRows_98 rfl ?_
      refine mm_aload_n 6 dX10_listRows_100 rfl rfl ?_
      refine mm_getr (b := 23) dX10_listRows_101 rfl fk_X10_14 rfl so_22 sr_22_0 ?_
      refine mm_iload 1 dX10_listRows_104 rfl ?_
      refine mm_cV1i (dz := d - 1) dX10_listRows_106 rfl mzX5_at ml_X10_104 imX5_at (by omega) so_23 ⟨rfl, rfl⟩ (ct_at rw_23 (x) (by omega)) (Nat.le_of_ble_eq_true rfl) ⟨Nat.le_refl _, Nat.le_refl _⟩ ?_
      refine mm_top (v := nI (hx)) ((cN_r (lo_at24.trans (if_pos (by omega)))).trans ex) ?_
      refine mm_iaddN (vt N best i) (hx) dX10_listRows_109 ?_
      refine mm_istore (ls' := [(5, .int (nI ((vt N best i) + hx))), (8, .int (nI (hx))), (7, .int (nI (x))), (6, .int (nI (i))), (4, .int (vpn N best i)), (3, .int (sk_pd (vbk N up best i) (vpn N best i) (up + N (612 + x)) hx)), (0, .ref 22), (1, .ref 17), (2, .ref 193)]) dX10_listRows_110 (by decide) rfl ?_
      refine mm_iload 4 dX10_listRows_112 rfl ?_
      refine mm_at (pc' := 114) rfl ?_
      refine mm_aload_n 6 dX10_listRows_114 rfl rfl ?_
      refine mm_getr (b := 27) dX10_listRows_115 rfl fk_X10_23 rfl so_22 sr_22_2 ?_
      refine mm_iload 2 dX10_listRows_118 rfl ?_
      refine mm_cV1i (dz := d - 1) dX10_listRows_120 rfl mzX5_at ml_X10_104 imX5_at (by omega) so_27 ⟨rfl, rfl⟩ (ct_at rw_27 (x) (by omega)) (Nat.le_of_ble_eq_true rfl) ⟨Nat.le_refl _, Nat.le_refl _⟩ ?_
      refine mm_top (v := N (618 + x)) (cN_r (lo_at28.trans (if_pos (by omega)))) ?_
      refine mm_iadd dX10_listRows_123 ?_
      refine mm_istore (ls' := [(4, .int ((vpn N best i) + (N (618 + x)))), (5, .int (nI ((vt N best i) + hx))), (8, .int (nI (hx))), (7, .int (nI (x))), (6, .int (nI (i))), (3, .int (sk_pd (vbk N up best i) (vpn N best i) (up + N (612 + x)) hx)), (0, .ref 22), (1, .ref 17), (2, .ref 193)]) dX10_listRows_124 (by decide) rfl ?_
      refine mm_iincN (ls' := [(6, .int (nI (i + 1))), (4, .int ((vpn N best i) + (N (618 + x)))), (5, .int (nI ((vt N best i) + hx))), (8, .int (nI (hx))), (7, .int (nI (x))), (3, .int (sk_pd (vbk N up best i) (vpn N best i) (up + N (612 + x)) hx)), (0, .ref 22), (1, .ref 17), (2, .ref 193)]) 4 (i) 1 dX10_listRows_126 rfl rfl (by decide) rfl ?_
      refine mm_goto (tgt := 17) dX10_listRows_129 (by decide) ?_
      have hh := ih (i + 1) A2 (by omega) (by rw [et]; exact h1) h2 (by omega)
      rw [evb, hp.1, epn, et] at hh
      exact mm_sub [0, 2, 1, 5, 6, 7, 8] rfl hh
set_option maxRecDepth 100000 in
set_option maxHeartbeats 600000 in
theorem dk_lrr {g : mm_G} {d : Nat} {w h n l k o r : Nat} {A : mm_I} {N : Nat → Int32} (hz : zOK (w * h) n l k o r) (hW : mo_W N w h) {Q : Option Value → mm_Sh → mm_I → Prop} {W best : Nat → Int32} {up : Int32} {many bm n_ : Nat} (hn24 : n_ ≤ 24) (hY : mo_Y N k) (hPV : PV N k up n_ bm best) (h33 : A 33 1 = nI bm) (hb6 : bm ≤ 6) (h34 : ∀ i, i < bm → A 34 i = best i) (h228 : A 22 8 = up) (h227 : A 22 7 = nI n_) {y : Nat} (hy : vt N best bm + y = n_) (hpos : 0 ≤ sk_pd (vbk N up best bm) (vpn N best bm) (up + 0) y) (hd : 2 ≤ d) (hq : ∀ A2, dU A2 (Dp N W best up many bm) (2 * n_) → dF A A2 → Q none sh_S (cN (w * h) n l k o r A2 N)) : ∀ (mf j : Nat) (A1 : mm_I), j ≤ y → dU A1 (Dp N W best up many bm) (2 * (vt N best bm + j)) → dF A A1 → y - j < mf → mm_Ex g zX10_listRows d (0, 0) (0, 0) sh_S (cN (w * h) n l k o r A1 N) 136 [(6, .int (nI (vt N best bm + j))), (5, .int (nI (vt N best bm))), (4, .int (vpn N best bm)), (3, .int (sk_pd (vbk N up best bm) (vpn N best bm) (up + 0) j)), (0, .ref 22), (1, .ref 17), (2, .ref 193)] [] Q := by
  obtain ⟨hz1, hz2, hz3, hz4, hz5, hz6⟩ := id hz
  have hc := mo_W_c hW
  obtain ⟨-, -, hw1, hw2, hh1, hh2⟩ := id hW
  intro mf
  induction mf with
  | zero => intro j A1 hj hU hF hmz; exact absurd hmz (Nat.not_lt_zero _)
  | succ mf ih =>
    intro j A1 hj hU hF hmz
    refine mm_iload 0 dX10_listRows_136 rfl ?_
    refine mm_aload_n 4 dX10_listRows_138 rfl rfl ?_
    refine mm_geti dX10_listRows_139 rfl fk_X10_53 rfl so_22 ?_
    refine mm_top (v := nI (n_)) ((cN_off hz2 (by decide)).trans ((congrFun (hF 22 (by decide)) 7).trans h227)) ?_
    refine mm_icmp_geN (vt N best bm + j) (n_) (tgt := 175) dX10_listRows_142 (by decide) (by omega) (by omega) (fun c142 => ?_) (fun c142 => ?_)
    · refine mm_vret dX10_listRows_175 rfl ⟨Nat.le_refl _, Nat.le_refl _⟩ ?_
      have e : j = y := by omega
      subst e
      exact hq A1 (by rw [show 2 * n_ = 2 * (vt N best bm + j) by omega]; exact hU) hF
    · refine mm_iload_n 3 dX10_listRows_145 rfl rfl ?_
      refine mm_iload 2 dX10_listRows_146 rfl ?_
      refine mm_iconst (v := 1) dX10_listRows_148 rfl ?_
      refine mm_aload_n 4 dX10_listRows_149 rfl rfl ?_
      refine mm_geti dX10_listRows_150 rfl fk_X10_63 rfl so_22 ?_
      refine mm_top (v := up) ((cN_off hz2 (by decide)).trans ((congrFun (hF 22 (by decide)) 8).trans h228)) ?_
      refine mm_cS4i (dz := d - 1) dX10_listRows_153 rfl mzX10_live ml_X10_100 imX10_live (by omega) (cg_live (by omega)) (Nat.le_of_ble_eq_true rfl) ⟨Nat.le_refl _, Nat.le_refl _⟩ ?_
      refine mm_top (v := sk_pd (vbk N up best bm) (vpn N best bm) (up + 0) (j + 1)) (by have q := en_1 (c := up + 0) (pd_pos hpos (show j + 1 ≤ y by omega)); rw [show sk_en (sk_pd (vbk N up best bm) (vpn N best bm) (up + 0) j) (vpn N best bm) up 1 = sk_en (sk_pd (vbk N up best bm) (vpn N best bm) (up + 0) j) (vpn N best bm) (up + 0) 1 by rw [Int32.add_zero]]; exact q) ?_
      refine mm_istore_n (ls' := [(3, .int (sk_pd (vbk N up best bm) (vpn N best bm) (up + 0) (j + 1))), (6, .int (nI (vt N best bm + j))), (5, .int (nI (vt N best bm))), (4, .int (vpn N best bm)), (0, .ref 22), (1, .ref 17), (2, .ref 193)]) dX10_listRows_156 rfl (by decide) rfl ?_
      refine mm_at (pc' := 157) rfl ?_
      refine mm_aload_n 6 dX10_listRows_157 rfl rfl ?_
      refine mm_iconst (v := -1) dX10_listRows_158 rfl ?_
      refine mm_cV1i (dz := d - 1) dX10_listRows_159 rfl mzX5_add ml_X10_46 imX5_add (by omega) so_193 ⟨rfl, rfl⟩ (ct_add rw_193 (2 * (vt N best bm + j)) (by exact (cN_off hz2 (by decide)).trans hU.1) (by omega)) (Nat.le_of_ble_eq_true rfl) ⟨Nat.le_refl _, Nat.le_refl _⟩ ?_
      refine mm_pop dX10_listRows_162 rfl ?_
      refine mm_aload_n 6 dX10_listRows_163 rfl rfl ?_
      refine mm_iload_n 0 dX10_listRows_164 rfl rfl ?_
      refine mm_cV1i (dz := d - 1) dX10_listRows_165 rfl mzX5_add ml_X10_46 imX5_add (by omega) so_193 ⟨rfl, rfl⟩ (ct_add rw_193 (2 * (vt N best bm + j) + 1) (by exact mm_up_at) (by omega)) (Nat.le_of_ble_eq_true rfl) ⟨Nat.le_refl _, Nat.le_refl _⟩ ?_
      refine mm_pop dX10_listRows_168 rfl ?_
      refine mm_at (pc' := 169) rfl ?_
      refine mm_iincN (ls' := [(6, .int (nI (vt N best bm + j + 1))), (3, .int (sk_pd (vbk N up best bm) (vpn N best bm) (up + 0) (j + 1))), (5, .int (nI (vt N best bm))), (4, .int (vpn N best bm)), (0, .ref 22), (1, .ref 17), (2, .ref 193)]) 1 (vt N best bm + j) 1 dX10_listRows_169 rfl rfl (by decide) rfl ?_
      refine mm_goto (tgt := 136) dX10_listRows_172 (by decide) ?_
      obtain ⟨z, hst⟩ := hp_rest (W := W) (many := many) (show k ≤ 6 by omega) hn24 hY hPV hpos j (by omega)
      have hD := Dp_0 hst
      have ehw : hp_w bm best bm = -1 := by unfold hp_w; rw [if_neg (by omega)]
      have u1 := dU_a hU (v := -1) (by rw [hD.1, ehw])
      have u2 := dU_a u1 (v := sk_pd (vbk N up best bm) (vpn N best bm) (up + 0) (j + 1)) (by rw [hD.2, ehw, hp_bn, ← pd_s (pd_pos hpos (by omega))])
      have hh := ih (j + 1) _ (by omega) (by rw [show 2 * (vt N best bm + (j + 1)) = 2 * (vt N best bm + j) + 1 + 1 by omega]; exact u2) (dF_u (dF_u hF)) (by omega)
      rw [cN_dof hz2 (by decide), cN_dof hz2 (by decide), cN_dof hz2 (by decide), cN_dof hz2 (by decide)]
      exact mm_sub [0, 2, 3, 1, 4, 5, 6] rfl hh
set_option maxRecDepth 100000 in
set_option maxHeartbeats 600000 in
theorem cg_lr {g : mm_G} {d : Nat} {w h n l k o r : Nat} {A : mm_I} {N : Nat → Int32} (hz : zOK (w * h) n l k o r) (hW : mo_W N w h) {W best : Nat → Int32} {up : Int32} {many bm n_ : Nat} (hn24 : n_ ≤ 24) (hY : mo_Y N k) (hPV : PV N k up n_ bm best) (h33 : A 33 1 = nI bm) (hb6 : bm ≤ 6) (h34 : ∀ i, i < bm → A 34 i = best i) (h228 : A 22 8 = up) (h227 : A 22 7 = nI n_) (h0 : A 193 1 = 0) (hpos : 0 ≤ sk_en (vbk N up best bm) (vpn N best bm) (up + 0) (nI n_ - nI (vt N best bm))) (hd : 2 ≤ d) : mm_Dv g zX10_listRows d [.ref 22, .ref 17, .ref 193] sh_S (cN (w * h) n l k o r A N) (fun J => ∃ A2, J = cN (w * h) n l k o r A2 N ∧ dU A2 (Dp N W best up many bm) (2 * n_) ∧ dF A A2) := by
  obtain ⟨hz1, hz2, hz3, hz4, hz5, hz6⟩ := id hz
  have hc := mo_W_c hW
  obtain ⟨-, -, hw1, hw2, hh1, hh2⟩ := id hW
  refine mm_Dv_of (fun Q hq => ?_)
  have hle := hPV.2.2
  rw [pk_sub hle] at hpos
  have hp := (en_p (by omega) hpos).2
  refine mm_begin (ls := [(0, .ref 22), (1, .ref 17), (2, .ref 193)]) (Nat.le_of_ble_eq_true rfl) rfl rfl ?_
  refine mm_aload_n 1 dX10_listRows_0 rfl rfl ?_
  refine mm_geti dX10_listRows_1 rfl fk_X10_76 rfl so_17 ?_
  refine mm_top (v := N 4) (cN_r (x := 4) (lo_at17.trans rfl)) ?_
  refine mm_istore_n (ls' := [(3, .int (N 4)), (0, .ref 22), (1, .ref 17), (2, .ref 193)]) dX10_listRows_4 rfl (by decide) rfl ?_
  refine mm_aload_n 2 dX10_listRows_5 rfl rfl ?_
  refine mm_geti dX10_listRows_6 rfl fk_X10_79 rfl so_17 ?_
  refine mm_top (v := N 5) (cN_r (x := 5) (lo_at17.trans rfl)) ?_
  refine mm_istore (ls' := [(4, .int (N 5)), (3, .int (N 4)), (0, .ref 22), (1, .ref 17), (2, .ref 193)]) dX10_listRows_9 (by decide) rfl ?_
  refine mm_iconst (v := 0) dX10_listRows_11 rfl ?_
  refine mm_istore (ls' := [(5, .int (0)), (4, .int (N 5)), (3, .int (N 4)), (0, .ref 22), (1, .ref 17), (2, .ref 193)]) dX10_listRows_12 (by decide) rfl ?_
  refine mm_at (pc' := 14) rfl ?_
  refine mm_iconst (v := 0) dX10_listRows_14 rfl ?_
  refine mm_istore (ls' := [(6, .int (0)), (5, .int (0)), (4, .int (N 5)), (3, .int (N 4)), (0, .ref 22), (1, .ref 17), (2, .ref 193)]) dX10_listRows_15 (by decide) rfl ?_
  refine mm_sub [0, 1, 2, 3, 4, 5, 6] rfl (dk_lr6 hz hW hn24 hY hPV h33 hb6 h34 h228 h227 hd (fun A2 h1 h2 => ?_) (W := W) (best := best) (up := up) (many := many) (bm + 1) 0 A (Nat.zero_le _) ⟨h0, fun t ht => absurd ht (Nat.not_lt_zero t)⟩ (fun _ _ => rfl) (by omega))
  refine mm_iload 1 dX10_listRows_132 rfl ?_
  refine mm_istore (ls' := [(6, .int (nI (vt N best bm))), (5, .int (nI (vt N best bm))), (4, .int (vpn N best bm)), (3, .int (vbk N up best bm)), (0, .ref 22), (1, .ref 17), (2, .ref 193)]) dX10_listRows_134 (by decide) rfl ?_
  exact mm_sub [0, 1, 2, 3, 4, 5, 6] rfl (dk_lrr hz hW hn24 hY hPV h33 hb6 h34 h228 h227 (y := n_ - vt N best bm) (by omega) hp hd (fun A3 h3 h4 => hq _ ⟨A3, rfl, h3, h4⟩) (n_ + 1) 0 A2 (Nat.zero_le _) h1 h2 (by omega))
