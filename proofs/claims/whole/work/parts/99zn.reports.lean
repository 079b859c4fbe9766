/-! THE CLASS: REPORTS come and go -/
theorem cN_re {c n l k o r : Nat} (hz : zOK c n l k o r) {A : mm_I} {N : Nat → Int32} {i : Nat} {v : Int32} (hi : i < 6 * r) : mm_up (cN c n l k o r A N) 85 i v = cN c n l k o r A (upd N (866 + i) v) := cN_up hz (lo_at85.trans (if_pos hi)) (sn_up (by omega) hz.1)
theorem s_re {c n l k o r : Nat} {A : mm_I} {N : Nat → Int32} {i : Nat} (hi : i < 6 * r) : cN c n l k o r A N 85 i = N (866 + i) := cN_r (lo_at85.trans (if_pos hi))
theorem rc_mp_201 {K : mm_I} {c : Nat} {f : Nat → Int32} : rc_mp K c f 201 = mp_ (K 201) c (f 1) (f 2) (f 3) (f 4) := by
  unfold rc_mp mp_
  rw [up_201, up_201, up_201, up_201, Nat.add_zero]
def mo_Rn (N : Nat → Int32) (c r : Nat) : Prop := ∀ i, i < r → (∃ x, x < c ∧ N (866 + 6 * i) = nI x) ∧ 0 ≤ N (866 + 6 * i + 4)
theorem Rn_R {N : Nat → Int32} {c r : Nat} (h : mo_Rn N c r) (hc : c ≤ 80) : mo_R N r := fun i hi => by
  obtain ⟨⟨x, h1, h2⟩, -⟩ := h i hi
  exact ⟨x, by omega, h2⟩
/-- a REPORT that stays moves up -/
theorem cp_r {c n l k o r : Nat} (hz : zOK c n l k o r) {A J : mm_I} {i s : Nat} (hi : i < r) (hs : s ≤ i) {K : mm_I} (hK : ∀ j, j < 6 → K 201 (866 + 6 * i + j) = J 201 (866 + 6 * i + j)) : mm_cp (cN c n l k o r A (K 201)) 85 85 (6 * i) (6 * s) 6 = cN c n l k o r A (rc_mv K s (fun j => J 201 (866 + 6 * i + j)) 201) := by
  unfold rc_mv
  rw [cp_s, cp_s, cp_s, cp_s, cp_s, cp_s, cp_0, s_re (by omega), s_re (by omega), s_re (by omega), s_re (by omega), s_re (by omega), s_re (by omega), cN_re hz (by omega), cN_re hz (by omega), cN_re hz (by omega), cN_re hz (by omega), cN_re hz (by omega), cN_re hz (by omega), up_201, up_201, up_201, up_201, up_201, up_201]
  rw [show 866 + (6 * i + 0) = 866 + 6 * i + 0 by omega, show 866 + (6 * i + 1) = 866 + 6 * i + 1 by omega, show 866 + (6 * i + 2) = 866 + 6 * i + 2 by omega, show 866 + (6 * i + 3) = 866 + 6 * i + 3 by omega, show 866 + (6 * i + 4) = 866 + 6 * i + 4 by omega, show 866 + (6 * i + 5) = 866 + 6 * i + 5 by omega, show 866 + (6 * s + 0) = 866 + 6 * s + 0 by omega, show 866 + (6 * s + 1) = 866 + 6 * s + 1 by omega, show 866 + (6 * s + 2) = 866 + 6 * s + 2 by omega, show 866 + (6 * s + 3) = 866 + 6 * s + 3 by omega, show 866 + (6 * s + 4) = 866 + 6 * s + 4 by omega, show 866 + (6 * s + 5) = 866 + 6 * s + 5 by omega, hK 0 (by decide), hK 1 (by decide), hK 2 (by decide), hK 3 (by decide), hK 4 (by decide), hK 5 (by decide)]
set_option maxRecDepth 100000 in
set_option maxHeartbeats 600000 in
theorem lg_br {g : mm_G} {d : Nat} {w h n l k o r : Nat} {A : mm_I} {N : Nat → Int32} (hz : zOK (w * h) n l k o r) (hW : mo_W N w h) {Q : Option Value → mm_Sh → mm_I → Prop} {J : mm_I} (hJ : J 201 = N) (hR : mo_Rn N (w * h) r) (hd : 3 ≤ d) (hq : Q none sh_S (mm_up (cN (w * h) n l k o r A ((rc J r).1 201)) 84 1 (nI (6 * (rc J r).2)))) : ∀ (mf i : Nat), i ≤ r → r - i < mf → mm_Ex g zX6_bringReports d (0, 0) (0, 0) sh_S (cN (w * h) n l k o r A ((rc J i).1 201)) 12 [(3, .int (nI (6 * i))), (2, .int (nI (6 * (rc J i).2))), (1, .ref 84), (0, .ref 171)] [] Q := by
  obtain ⟨hz1, hz2, hz3, hz4, hz5, hz6⟩ := id hz
  have hc := mo_W_c hW
  obtain ⟨-, -, hw1, hw2, hh1, hh2⟩ := id hW
  rw [← hJ] at hR hW
  have hR8 := Rn_R hR hz1
  intro mf
  induction mf with
  | zero => intro i hi hmz; exact absurd hmz (Nat.not_lt_zero _)
  | succ mf ih =>
    intro i hi hmz
    have hle := rc_le (J := J) i
    have hWi : mo_W ((rc J i).1 201) w h := ⟨(rc_ne hR8 i hi (by omega)).trans hW.1, (rc_ne hR8 i hi (by omega)).trans hW.2.1, hW.2.2⟩
    have h7 : (rc J i).1 201 7 = J 201 7 := rc_ne hR8 i hi (by omega)
    have hJi : ∀ j, j < 6 → (rc J i).1 201 (866 + 6 * i + j) = J 201 (866 + 6 * i + j) := fun j hj => rc_ne hR8 i hi (by omega)
    refine mm_iload_n 0 dX6_bringReports_12 rfl rfl ?_
    refine mm_aload_n 2 dX6_bringReports_13 rfl rfl ?_
    refine mm_cV0i (dz := d - 1) dX6_bringReports_14 rfl mzX5_size ml_X6_72 imX5_size (by omega) so_84 ⟨rfl, rfl⟩ (ct_size rw_84) (Nat.le_of_ble_eq_true rfl) ⟨Nat.le_refl _, Nat.le_refl _⟩ ?_
    refine mm_top (v := nI (6 * r)) (s_r hz2) ?_
    refine mm_icmp_geN (6 * i) (6 * r) (tgt := 104) dX6_bringReports_17 (by decide) (by omega) (by omega) (fun c17 => ?_) (fun c17 => ?_)
    · refine mm_aload_n 2 dX6_bringReports_104 rfl rfl ?_
      refine mm_iload_n 1 dX6_bringReports_105 rfl rfl ?_
      refine mm_cV1v (dz := d - 1) dX6_bringReports_106 rfl mzX5_shorten ml_X6_88 imX5_shorten (by omega) so_84 ⟨rfl, rfl⟩ (ct_shorten rw_84 (6 * r) (6 * (rc J i).2) (s_r hz2) (by omega) (by omega) (by omega)) (Nat.le_of_ble_eq_true rfl) ⟨Nat.le_refl _, Nat.le_refl _⟩ ?_
      refine mm_vret dX6_bringReports_109 rfl ⟨Nat.le_refl _, Nat.le_refl _⟩ ?_
      have e : i = r := by omega
      subst e; exact hq
    · obtain ⟨⟨x, hx, ex⟩, ht⟩ := hR i (by omega)
      refine mm_aload_n 2 dX6_bringReports_20 rfl rfl ?_
      refine mm_iload_n 0 dX6_bringReports_21 rfl rfl ?_
      refine mm_iconst (v := 5) dX6_bringReports_22 rfl ?_
      refine mm_iaddN (6 * i) (5) dX6_bringReports_23 ?_
      refine mm_cV1i (dz := d - 1) dX6_bringReports_24 rfl mzX5_at ml_X6_76 imX5_at (by omega) so_84 ⟨rfl, rfl⟩ (ct_at rw_84 ((6 * i) + 5) (by omega)) (Nat.le_of_ble_eq_true rfl) ⟨Nat.le_refl _, Nat.le_refl _⟩ ?_
      refine mm_top (v := J 201 (866 + 6 * i + 5)) ((s_re (by omega)).trans (hJi 5 (by decide))) ?_
      refine mm_aload_n 3 dX6_bringReports_27 rfl rfl ?_
      refine mm_getr (b := 1) dX6_bringReports_28 rfl fk_X6_9 rfl so_171 sr_171_0 ?_
      refine mm_at (pc' := 31) rfl ?_
      refine mm_getr (b := 17) dX6_bringReports_31 rfl fk_X6_30 rfl so_1 sr_1_1 ?_
      refine mm_geti dX6_bringReports_34 rfl fk_X6_66 rfl so_17 ?_
      refine mm_top (v := J 201 7) (s_tk.trans h7) ?_
      refine mm_icmp_ne (tgt := 86) dX6_bringReports_37 (by decide) (fun c37 => ?_) (fun c37 => ?_)
      · refine mm_aload_n 2 dX6_bringReports_86 rfl rfl ?_
        refine mm_aload_n 2 dX6_bringReports_87 rfl rfl ?_
        refine mm_iload_n 0 dX6_bringReports_88 rfl rfl ?_
        refine mm_iload_n 1 dX6_bringReports_89 rfl rfl ?_
        refine mm_bipush (v := 6) dX6_bringReports_90 rfl ?_
        refine mm_cV4v (dz := d - 1) dX6_bringReports_92 rfl mzX5_take ml_X6_84 imX5_take (by omega) so_84 ⟨rfl, rfl⟩ (ct_take rw_84 rw_84 (6 * i) (6 * (rc J i).2) 6 (by omega) (by omega) (by omega)) (Nat.le_of_ble_eq_true rfl) ⟨Nat.le_refl _, Nat.le_refl _⟩ ?_
        refine mm_iincN (ls' := [(2, .int (nI (6 * (rc J i).2 + 6))), (3, .int (nI (6 * i))), (1, .ref 84), (0, .ref 171)]) 1 (6 * (rc J i).2) 6 dX6_bringReports_95 rfl rfl (by decide) rfl ?_
        refine mm_iincN (ls' := [(3, .int (nI (6 * i + 6))), (2, .int (nI (6 * (rc J i).2 + 6))), (1, .ref 84), (0, .ref 171)]) 1 (6 * i) 6 dX6_bringReports_98 rfl rfl (by decide) rfl ?_
        refine mm_at (pc' := 101) rfl ?_
        refine mm_goto (tgt := 12) dX6_bringReports_101 (by decide) ?_
        have e1 : rc J (i + 1) = (rc_mv (rc J i).1 (rc J i).2 (fun j => J 201 (866 + 6 * i + j)), (rc J i).2 + 1) := by rw [rc, if_neg c37]
        rw [cp_r hz (by omega) hle hJi]
        have hh := ih (i + 1) (by omega) (by omega)
        rw [e1] at hh
        exact mm_sub [0, 1, 2, 3] rfl hh
      · refine mm_aload_n 3 dX6_bringReports_40 rfl rfl ?_
        refine mm_getr (b := 1) dX6_bringReports_41 rfl fk_X6_9 rfl so_171 sr_171_0 ?_
        refine mm_getr (b := 2) dX6_bringReports_44 rfl fk_X6_108 rfl so_1 sr_1_0 ?_
        refine mm_aload_n 2 dX6_bringReports_47 rfl rfl ?_
        refine mm_iload_n 0 dX6_bringReports_48 rfl rfl ?_
        refine mm_cV1i (dz := d - 1) dX6_bringReports_49 rfl mzX5_at ml_X6_76 imX5_at (by omega) so_84 ⟨rfl, rfl⟩ (ct_at rw_84 (6 * i) (by omega)) (Nat.le_of_ble_eq_true rfl) ⟨Nat.le_refl _, Nat.le_refl _⟩ ?_
        refine mm_top (v := nI (x)) ((s_re (by omega)).trans ((hJi 0 (by decide)).trans ex)) ?_
        refine mm_aload_n 2 dX6_bringReports_52 rfl rfl ?_
        refine mm_at (pc' := 53) rfl ?_
        refine mm_iload_n 0 dX6_bringReports_53 rfl rfl ?_
        refine mm_iconst (v := 1) dX6_bringReports_54 rfl ?_
        refine mm_iaddN (6 * i) (1) dX6_bringReports_55 ?_
        refine mm_cV1i (dz := d - 1) dX6_bringReports_56 rfl mzX5_at ml_X6_76 imX5_at (by omega) so_84 ⟨rfl, rfl⟩ (ct_at rw_84 ((6 * i) + 1) (by omega)) (Nat.le_of_ble_eq_true rfl) ⟨Nat.le_refl _, Nat.le_refl _⟩ ?_
        refine mm_top (v := J 201 (866 + 6 * i + 1)) ((s_re (by omega)).trans (hJi 1 (by decide))) ?_
        refine mm_aload_n 2 dX6_bringReports_59 rfl rfl ?_
        refine mm_iload_n 0 dX6_bringReports_60 rfl rfl ?_
        refine mm_iconst (v := 2) dX6_bringReports_61 rfl ?_
        refine mm_iaddN (6 * i) (2) dX6_bringReports_62 ?_
        refine mm_at (pc' := 63) rfl ?_
        refine mm_cV1i (dz := d - 1) dX6_bringReports_63 rfl mzX5_at ml_X6_76 imX5_at (by omega) so_84 ⟨rfl, rfl⟩ (ct_at rw_84 ((6 * i) + 2) (by omega)) (Nat.le_of_ble_eq_true rfl) ⟨Nat.le_refl _, Nat.le_refl _⟩ ?_
        refine mm_top (v := J 201 (866 + 6 * i + 2)) ((s_re (by omega)).trans (hJi 2 (by decide))) ?_
        refine mm_aload_n 2 dX6_bringReports_66 rfl rfl ?_
        refine mm_iload_n 0 dX6_bringReports_67 rfl rfl ?_
        refine mm_iconst (v := 3) dX6_bringReports_68 rfl ?_
        refine mm_iaddN (6 * i) (3) dX6_bringReports_69 ?_
        refine mm_cV1i (dz := d - 1) dX6_bringReports_70 rfl mzX5_at ml_X6_76 imX5_at (by omega) so_84 ⟨rfl, rfl⟩ (ct_at rw_84 ((6 * i) + 3) (by omega)) (Nat.le_of_ble_eq_true rfl) ⟨Nat.le_refl _, Nat.le_refl _⟩ ?_
        refine mm_top (v := J 201 (866 + 6 * i + 3)) ((s_re (by omega)).trans (hJi 3 (by decide))) ?_
        refine mm_aload_n 2 dX6_bringReports_73 rfl rfl ?_
        refine mm_iload_n 0 dX6_bringReports_74 rfl rfl ?_
        refine mm_at (pc' := 75) rfl ?_
        refine mm_iconst (v := 4) dX6_bringReports_75 rfl ?_
        refine mm_iaddN (6 * i) (4) dX6_bringReports_76 ?_
        refine mm_cV1i (dz := d - 1) dX6_bringReports_77 rfl mzX5_at ml_X6_76 imX5_at (by omega) so_84 ⟨rfl, rfl⟩ (ct_at rw_84 ((6 * i) + 4) (by omega)) (Nat.le_of_ble_eq_true rfl) ⟨Nat.le_refl _, Nat.le_refl _⟩ ?_
        refine mm_top (v := J 201 (866 + 6 * i + 4)) ((s_re (by omega)).trans (hJi 4 (by decide))) ?_
        refine mm_cV5v (dz := d - 1) dX6_bringReports_80 rfl mzX0_learn ml_X6_112 imX0_learn (by omega) so_2 ⟨rfl, rfl⟩ (cg_learn hz hWi (c := x) hx ht (by omega)) (Nat.le_of_ble_eq_true rfl) ⟨Nat.le_refl _, Nat.le_refl _⟩ ?_
        refine mm_goto (tgt := 98) dX6_bringReports_83 (by decide) ?_
        refine mm_iincN (ls' := [(3, .int (nI (6 * i + 6))), (2, .int (nI (6 * (rc J i).2))), (1, .ref 84), (0, .ref 171)]) 0 (6 * i) 6 dX6_bringReports_98 rfl rfl (by decide) rfl ?_
        refine mm_goto (tgt := 12) dX6_bringReports_101 (by decide) ?_
        have e1 : rc J (i + 1) = (rc_mp (rc J i).1 x (fun j => J 201 (866 + 6 * i + j)), (rc J i).2) := by rw [rc, if_pos c37, ex, vv_nI (by omega)]
        have hh := ih (i + 1) (by omega) (by omega)
        rw [e1] at hh
        rw [show mp_ ((rc J i).1 201) x (J 201 (866 + 6 * i + 1)) (J 201 (866 + 6 * i + 2)) (J 201 (866 + 6 * i + 3)) (J 201 (866 + 6 * i + 4)) = rc_mp (rc J i).1 x (fun j => J 201 (866 + 6 * i + j)) 201 from (rc_mp_201 (f := fun j => J 201 (866 + 6 * i + j))).symm]
        exact mm_sub [0, 1, 2, 3] rfl hh
set_option maxRecDepth 100000 in
set_option maxHeartbeats 600000 in
theorem cg_br {g : mm_G} {d : Nat} {w h n l k o r : Nat} {A : mm_I} {N : Nat → Int32} (hz : zOK (w * h) n l k o r) (hW : mo_W N w h) {J : mm_I} (hJ : J 201 = N) (hR : mo_Rn N (w * h) r) (hd : 3 ≤ d) : mm_Cv g zX6_bringReports d [.ref 171] sh_S (cN (w * h) n l k o r A N) (mm_up (cN (w * h) n l k o r A ((rc J r).1 201)) 84 1 (nI (6 * (rc J r).2))) := by
  obtain ⟨hz1, hz2, hz3, hz4, hz5, hz6⟩ := id hz
  have hc := mo_W_c hW
  obtain ⟨-, -, hw1, hw2, hh1, hh2⟩ := id hW
  refine mm_Cv_of (fun Q hq => ?_)
  refine mm_begin (ls := [(0, .ref 171)]) (Nat.le_of_ble_eq_true rfl) rfl rfl ?_
  refine mm_aload_n 0 dX6_bringReports_0 rfl rfl ?_
  refine mm_getr (b := 1) dX6_bringReports_1 rfl fk_X6_9 rfl so_171 sr_171_0 ?_
  refine mm_getr (b := 84) dX6_bringReports_4 rfl fk_X6_105 rfl so_1 sr_1_7 ?_
  refine mm_astore_n (ls' := [(1, .ref 84), (0, .ref 171)]) dX6_bringReports_7 rfl (by decide) rfl ?_
  refine mm_iconst (v := 0) dX6_bringReports_8 rfl ?_
  refine mm_istore_n (ls' := [(2, .int (0)), (1, .ref 84), (0, .ref 171)]) dX6_bringReports_9 rfl (by decide) rfl ?_
  refine mm_iconst (v := 0) dX6_bringReports_10 rfl ?_
  refine mm_istore_n (ls' := [(3, .int (0)), (2, .int (0)), (1, .ref 84), (0, .ref 171)]) dX6_bringReports_11 rfl (by decide) rfl ?_
  refine mm_at (pc' := 12) rfl ?_
  exact mm_sub [0, 1, 2, 3] rfl (mm_mem (J := cN (w * h) n l k o r A ((rc J 0).1 201)) (by show _ = cN (w * h) n l k o r A (J 201); rw [hJ]) (lg_br hz hW hJ hR hd hq (r + 1) 0 (Nat.zero_le _) (by omega)))
set_option maxRecDepth 100000 in
set_option maxHeartbeats 600000 in
theorem cg_srB {g : mm_G} {d : Nat} {w h n l k o r : Nat} {A : mm_I} {N : Nat → Int32} (hz : zOK (w * h) n l k o r) (hW : mo_W N w h) {m : Nat} (hm : m < n) (hb : 100 ≤ N (630 + 40 * m + 3)) (hd : 1 ≤ d) : mm_Cv g zX6_sendReport d [.ref 171, .ref (36 + 3 * m)] sh_S (cN (w * h) n l k o r A N) (cN (w * h) n l k o r A N) := by
  obtain ⟨hz1, hz2, hz3, hz4, hz5, hz6⟩ := id hz
  have hc := mo_W_c hW
  obtain ⟨-, -, hw1, hw2, hh1, hh2⟩ := id hW
  refine mm_Cv_of (fun Q hq => ?_)
  refine mm_begin (ls := [(0, .ref 171), (1, .ref (36 + 3 * m))]) (Nat.le_of_ble_eq_true rfl) rfl rfl ?_
  refine mm_aload_n 1 dX6_sendReport_0 rfl rfl ?_
  refine mm_ifnull dX6_sendReport_1 ?_
  refine mm_aload_n 1 dX6_sendReport_4 rfl rfl ?_
  refine mm_cV0i (dz := d - 1) dX6_sendReport_5 rfl mzX1_isBroken ml_X6_118 imX1_isBroken (by omega) (sm_1 (show m < 5 by omega)).1 ⟨rfl, rfl⟩ (cg_broken hz hW (m := m) (by omega)) (Nat.le_of_ble_eq_true rfl) ⟨Nat.le_refl _, Nat.le_refl _⟩ ?_
  refine mm_if_eqB (tgt := 12) dX6_sendReport_8 (by decide) (fun c8 => ?_) (fun c8 => ?_)
  · exact absurd hb c8
  · refine mm_vret dX6_sendReport_11 rfl ⟨Nat.le_refl _, Nat.le_refl _⟩ ?_
    exact hq
set_option maxRecDepth 100000 in
set_option maxHeartbeats 600000 in
theorem cg_sr0 {g : mm_G} {d : Nat} {w h n l k o r : Nat} {A : mm_I} {N : Nat → Int32} (hz : zOK (w * h) n l k o r) (hW : mo_W N w h) {m c : Nat} (hm : m < n) (hb : ¬ 100 ≤ N (630 + 40 * m + 3)) (h1 : N (630 + 40 * m + 1) = nI c) (hcc : c < w * h) (h6 : N 6 = 0) (ht : 0 ≤ N 7) (hd : 2 ≤ d) : mm_Cv g zX6_sendReport d [.ref 171, .ref (36 + 3 * m)] sh_S (cN (w * h) n l k o r A N) (cN (w * h) n l k o r A (mp_ N c (N (30 + c)) (N (110 + c)) (N (190 + c)) (N 7))) := by
  obtain ⟨hz1, hz2, hz3, hz4, hz5, hz6⟩ := id hz
  have hc := mo_W_c hW
  obtain ⟨-, -, hw1, hw2, hh1, hh2⟩ := id hW
  refine mm_Cv_of (fun Q hq => ?_)
  refine mm_begin (ls := [(0, .ref 171), (1, .ref (36 + 3 * m))]) (Nat.le_of_ble_eq_true rfl) rfl rfl ?_
  refine mm_aload_n 1 dX6_sendReport_0 rfl rfl ?_
  refine mm_ifnull dX6_sendReport_1 ?_
  refine mm_aload_n 1 dX6_sendReport_4 rfl rfl ?_
  refine mm_cV0i (dz := d - 1) dX6_sendReport_5 rfl mzX1_isBroken ml_X6_118 imX1_isBroken (by omega) (sm_1 (show m < 5 by omega)).1 ⟨rfl, rfl⟩ (cg_broken hz hW (m := m) (by omega)) (Nat.le_of_ble_eq_true rfl) ⟨Nat.le_refl _, Nat.le_refl _⟩ ?_
  refine mm_if_eqB (tgt := 12) dX6_sendReport_8 (by decide) (fun c8 => ?_) (fun c8 => ?_)
  · refine mm_aload_n 0 dX6_sendReport_12 rfl rfl ?_
    refine mm_getr (b := 1) dX6_sendReport_13 rfl fk_X6_9 rfl so_171 sr_171_0 ?_
    refine mm_getr (b := 2) dX6_sendReport_16 rfl fk_X6_108 rfl so_1 sr_1_0 ?_
    refine mm_astore_n (ls' := [(2, .ref 2), (0, .ref 171), (1, .ref (36 + 3 * m))]) dX6_sendReport_19 rfl (by decide) rfl ?_
    refine mm_aload_n 2 dX6_sendReport_20 rfl rfl ?_
    refine mm_geti dX6_sendReport_21 rfl fk_X6_124 rfl (sm_1 (show m < 5 by omega)).1 ?_
    refine mm_top (v := nI (c)) ((cN_r ((lo_atm (by omega)).trans (if_pos ⟨by omega, by omega⟩))).trans h1) ?_
    refine mm_istore_n (ls' := [(3, .int (nI (c))), (2, .ref 2), (0, .ref 171), (1, .ref (36 + 3 * m))]) dX6_sendReport_24 rfl (by decide) rfl ?_
    refine mm_aload_n 2 dX6_sendReport_25 rfl rfl ?_
    refine mm_at (pc' := 26) rfl ?_
    refine mm_getr (b := 1) dX6_sendReport_26 rfl fk_X6_9 rfl so_171 sr_171_0 ?_
    refine mm_getr (b := 17) dX6_sendReport_29 rfl fk_X6_30 rfl so_1 sr_1_1 ?_
    refine mm_geti dX6_sendReport_32 rfl fk_X6_66 rfl so_17 ?_
    refine mm_top (v := N 7) s_tk ?_
    refine mm_istore (ls' := [(4, .int (N 7)), (3, .int (nI (c))), (2, .ref 2), (0, .ref 171), (1, .ref (36 + 3 * m))]) dX6_sendReport_35 (by decide) rfl ?_
    refine mm_aload_n 3 dX6_sendReport_37 rfl rfl ?_
    refine mm_getr (b := 1) dX6_sendReport_38 rfl fk_X6_9 rfl so_171 sr_171_0 ?_
    refine mm_getr (b := 17) dX6_sendReport_41 rfl fk_X6_30 rfl so_1 sr_1_1 ?_
    refine mm_geti dX6_sendReport_44 rfl fk_X6_127 rfl so_17 ?_
    refine mm_at (pc' := 47) rfl ?_
    refine mm_top (v := N 6) (cN_r (lo_at17.trans rfl)) ?_
    refine mm_if_ne (tgt := 82) dX6_sendReport_47 (by decide) (fun c47 => ?_) (fun c47 => ?_)
    · exact absurd h6 c47
    · refine mm_aload_n 2 dX6_sendReport_50 rfl rfl ?_
      refine mm_iload_n 1 dX6_sendReport_51 rfl rfl ?_
      refine mm_aload_n 2 dX6_sendReport_52 rfl rfl ?_
      refine mm_getr (b := 3) dX6_sendReport_53 rfl fk_X6_130 rfl so_2 sr_2_2 ?_
      refine mm_iload_n 1 dX6_sendReport_56 rfl rfl ?_
      refine mm_cV1i (dz := d - 1) dX6_sendReport_57 rfl mzX5_at ml_X6_76 imX5_at (by omega) so_3 ⟨rfl, rfl⟩ (ct_at rw_3 (c) (by omega)) (Nat.le_of_ble_eq_true rfl) ⟨Nat.le_refl _, Nat.le_refl _⟩ ?_
      refine mm_top (v := N (30 + c)) (s_kind (by omega)) ?_
      refine mm_aload_n 2 dX6_sendReport_60 rfl rfl ?_
      refine mm_at (pc' := 61) rfl ?_
      refine mm_getr (b := 5) dX6_sendReport_61 rfl fk_X6_133 rfl so_2 sr_2_3 ?_
      refine mm_iload_n 1 dX6_sendReport_64 rfl rfl ?_
      refine mm_cV1i (dz := d - 1) dX6_sendReport_65 rfl mzX5_at ml_X6_76 imX5_at (by omega) so_5 ⟨rfl, rfl⟩ (ct_at rw_5 (c) (by omega)) (Nat.le_of_ble_eq_true rfl) ⟨Nat.le_refl _, Nat.le_refl _⟩ ?_
      refine mm_top (v := N (110 + c)) (s_dust (by omega)) ?_
      refine mm_aload_n 2 dX6_sendReport_68 rfl rfl ?_
      refine mm_getr (b := 7) dX6_sendReport_69 rfl fk_X6_136 rfl so_2 sr_2_4 ?_
      refine mm_iload_n 1 dX6_sendReport_72 rfl rfl ?_
      refine mm_cV1i (dz := d - 1) dX6_sendReport_73 rfl mzX5_at ml_X6_76 imX5_at (by omega) so_7 ⟨rfl, rfl⟩ (ct_at rw_7 (c) (by omega)) (Nat.le_of_ble_eq_true rfl) ⟨Nat.le_refl _, Nat.le_refl _⟩ ?_
      refine mm_top (v := N (190 + c)) (s_ice (by omega)) ?_
      refine mm_iload 0 dX6_sendReport_76 rfl ?_
      refine mm_at (pc' := 78) rfl ?_
      refine mm_cV5v (dz := d - 1) dX6_sendReport_78 rfl mzX0_learn ml_X6_112 imX0_learn (by omega) so_2 ⟨rfl, rfl⟩ (cg_learn hz hW (c := c) hcc ht (by omega)) (Nat.le_of_ble_eq_true rfl) ⟨Nat.le_refl _, Nat.le_refl _⟩ ?_
      refine mm_vret dX6_sendReport_81 rfl ⟨Nat.le_refl _, Nat.le_refl _⟩ ?_
      exact hq
  · exact absurd c8 hb
set_option maxRecDepth 100000 in
set_option maxHeartbeats 600000 in
theorem cg_sr1 {g : mm_G} {d : Nat} {w h n l k o r : Nat} {A : mm_I} {N : Nat → Int32} (hz : zOK (w * h) n l k o r) (hW : mo_W N w h) {m c : Nat} (hm : m < n) (hb : ¬ 100 ≤ N (630 + 40 * m + 3)) (h1 : N (630 + 40 * m + 1) = nI c) (hcc : c < w * h) (h6 : ¬ N 6 = 0) (hr : r < 50) (hd : 2 ≤ d) : mm_Cv g zX6_sendReport d [.ref 171, .ref (36 + 3 * m)] sh_S (cN (w * h) n l k o r A N) (mm_up (mm_up (mm_up (mm_up (mm_up (mm_up (mm_up (mm_up (mm_up (mm_up (mm_up (mm_up (cN (w * h) n l k o r A N) 85 (6 * r + 0) (nI c)) 84 1 (nI (6 * r + 0 + 1))) 85 (6 * r + 1) (N (30 + c))) 84 1 (nI (6 * r + 1 + 1))) 85 (6 * r + 2) (N (110 + c))) 84 1 (nI (6 * r + 2 + 1))) 85 (6 * r + 3) (N (190 + c))) 84 1 (nI (6 * r + 3 + 1))) 85 (6 * r + 4) (N 7)) 84 1 (nI (6 * r + 4 + 1))) 85 (6 * r + 5) (N 7 + N 6)) 84 1 (nI (6 * r + 5 + 1))) := by
  obtain ⟨hz1, hz2, hz3, hz4, hz5, hz6⟩ := id hz
  have hc := mo_W_c hW
  obtain ⟨-, -, hw1, hw2, hh1, hh2⟩ := id hW
  refine mm_Cv_of (fun Q hq => ?_)
  refine mm_begin (ls := [(0, .ref 171), (1, .ref (36 + 3 * m))]) (Nat.le_of_ble_eq_true rfl) rfl rfl ?_
  refine mm_aload_n 1 dX6_sendReport_0 rfl rfl ?_
  refine mm_ifnull dX6_sendReport_1 ?_
  refine mm_aload_n 1 dX6_sendReport_4 rfl rfl ?_
  refine mm_cV0i (dz := d - 1) dX6_sendReport_5 rfl mzX1_isBroken ml_X6_118 imX1_isBroken (by omega) (sm_1 (show m < 5 by omega)).1 ⟨rfl, rfl⟩ (cg_broken hz hW (m := m) (by omega)) (Nat.le_of_ble_eq_true rfl) ⟨Nat.le_refl _, Nat.le_refl _⟩ ?_
  refine mm_if_eqB (tgt := 12) dX6_sendReport_8 (by decide) (fun c8 => ?_) (fun c8 => ?_)
  · refine mm_aload_n 0 dX6_sendReport_12 rfl rfl ?_
    refine mm_getr (b := 1) dX6_sendReport_13 rfl fk_X6_9 rfl so_171 sr_171_0 ?_
    refine mm_getr (b := 2) dX6_sendReport_16 rfl fk_X6_108 rfl so_1 sr_1_0 ?_
    refine mm_astore_n (ls' := [(2, .ref 2), (0, .ref 171), (1, .ref (36 + 3 * m))]) dX6_sendReport_19 rfl (by decide) rfl ?_
    refine mm_aload_n 2 dX6_sendReport_20 rfl rfl ?_
    refine mm_geti dX6_sendReport_21 rfl fk_X6_124 rfl (sm_1 (show m < 5 by omega)).1 ?_
    refine mm_top (v := nI (c)) ((cN_r ((lo_atm (by omega)).trans (if_pos ⟨by omega, by omega⟩))).trans h1) ?_
    refine mm_istore_n (ls' := [(3, .int (nI (c))), (2, .ref 2), (0, .ref 171), (1, .ref (36 + 3 * m))]) dX6_sendReport_24 rfl (by decide) rfl ?_
    refine mm_aload_n 2 dX6_sendReport_25 rfl rfl ?_
    refine mm_at (pc' := 26) rfl ?_
    refine mm_getr (b := 1) dX6_sendReport_26 rfl fk_X6_9 rfl so_171 sr_171_0 ?_
    refine mm_getr (b := 17) dX6_sendReport_29 rfl fk_X6_30 rfl so_1 sr_1_1 ?_
    refine mm_geti dX6_sendReport_32 rfl fk_X6_66 rfl so_17 ?_
    refine mm_top (v := N 7) s_tk ?_
    refine mm_istore (ls' := [(4, .int (N 7)), (3, .int (nI (c))), (2, .ref 2), (0, .ref 171), (1, .ref (36 + 3 * m))]) dX6_sendReport_35 (by decide) rfl ?_
    refine mm_aload_n 3 dX6_sendReport_37 rfl rfl ?_
    refine mm_getr (b := 1) dX6_sendReport_38 rfl fk_X6_9 rfl so_171 sr_171_0 ?_
    refine mm_getr (b := 17) dX6_sendReport_41 rfl fk_X6_30 rfl so_1 sr_1_1 ?_
    refine mm_geti dX6_sendReport_44 rfl fk_X6_127 rfl so_17 ?_
    refine mm_at (pc' := 47) rfl ?_
    refine mm_top (v := N 6) (cN_r (lo_at17.trans rfl)) ?_
    refine mm_if_ne (tgt := 82) dX6_sendReport_47 (by decide) (fun c47 => ?_) (fun c47 => ?_)
    · refine mm_aload_n 3 dX6_sendReport_82 rfl rfl ?_
      refine mm_getr (b := 1) dX6_sendReport_83 rfl fk_X6_9 rfl so_171 sr_171_0 ?_
      refine mm_getr (b := 84) dX6_sendReport_86 rfl fk_X6_105 rfl so_1 sr_1_7 ?_
      refine mm_iload_n 1 dX6_sendReport_89 rfl rfl ?_
      refine mm_cV1i (dz := d - 1) dX6_sendReport_90 rfl mzX5_add ml_X6_139 imX5_add (by omega) so_84 ⟨rfl, rfl⟩ (ct_add rw_84 (6 * r + 0) (by exact s_r hz2) (by omega)) (Nat.le_of_ble_eq_true rfl) ⟨Nat.le_refl _, Nat.le_refl _⟩ ?_
      refine mm_pop dX6_sendReport_93 rfl ?_
      refine mm_aload_n 3 dX6_sendReport_94 rfl rfl ?_
      refine mm_getr (b := 1) dX6_sendReport_95 rfl fk_X6_9 rfl so_171 sr_171_0 ?_
      refine mm_at (pc' := 98) rfl ?_
      refine mm_getr (b := 84) dX6_sendReport_98 rfl fk_X6_105 rfl so_1 sr_1_7 ?_
      refine mm_aload_n 2 dX6_sendReport_101 rfl rfl ?_
      refine mm_getr (b := 3) dX6_sendReport_102 rfl fk_X6_130 rfl so_2 sr_2_2 ?_
      refine mm_iload_n 1 dX6_sendReport_105 rfl rfl ?_
      refine mm_cV1i (dz := d - 1) dX6_sendReport_106 rfl mzX5_at ml_X6_76 imX5_at (by omega) so_3 ⟨rfl, rfl⟩ (ct_at rw_3 (c) (by omega)) (Nat.le_of_ble_eq_true rfl) ⟨Nat.le_refl _, Nat.le_refl _⟩ ?_
      refine mm_top (v := (cN (w * h) n l k o r A N) 4 c) (by rw [mm_up_ne (by decide), mm_up_ne (by decide)]) ?_
      refine mm_top (v := N (30 + c)) (s_kind (by omega)) ?_
      refine mm_cV1i (dz := d - 1) dX6_sendReport_109 rfl mzX5_add ml_X6_139 imX5_add (by omega) so_84 ⟨rfl, rfl⟩ (ct_add rw_84 (6 * r + 1) (by exact mm_up_at) (by omega)) (Nat.le_of_ble_eq_true rfl) ⟨Nat.le_refl _, Nat.le_refl _⟩ ?_
      refine mm_pop dX6_sendReport_112 rfl ?_
      refine mm_aload_n 3 dX6_sendReport_113 rfl rfl ?_
      refine mm_at (pc' := 114) rfl ?_
      refine mm_getr (b := 1) dX6_sendReport_114 rfl fk_X6_9 rfl so_171 sr_171_0 ?_
      refine mm_getr (b := 84) dX6_sendReport_117 rfl fk_X6_105 rfl so_1 sr_1_7 ?_
      refine mm_aload_n 2 dX6_sendReport_120 rfl rfl ?_
      refine mm_getr (b := 5) dX6_sendReport_121 rfl fk_X6_133 rfl so_2 sr_2_3 ?_
      refine mm_iload_n 1 dX6_sendReport_124 rfl rfl ?_
      refine mm_cV1i (dz := d - 1) dX6_sendReport_125 rfl mzX5_at ml_X6_76 imX5_at (by omega) so_5 ⟨rfl, rfl⟩ (ct_at rw_5 (c) (by omega)) (Nat.le_of_ble_eq_true rfl) ⟨Nat.le_refl _, Nat.le_refl _⟩ ?_
      refine mm_top (v := (cN (w * h) n l k o r A N) 6 c) (by rw [mm_up_ne (by decide), mm_up_ne (by decide), mm_up_ne (by decide), mm_up_ne (by decide)]) ?_
      refine mm_top (v := N (110 + c)) (s_dust (by omega)) ?_
      refine mm_cV1i (dz := d - 1) dX6_sendReport_128 rfl mzX5_add ml_X6_139 imX5_add (by omega) so_84 ⟨rfl, rfl⟩ (ct_add rw_84 (6 * r + 2) (by exact mm_up_at) (by omega)) (Nat.le_of_ble_eq_true rfl) ⟨Nat.le_refl _, Nat.le_refl _⟩ ?_
      refine mm_pop dX6_sendReport_131 rfl ?_
      refine mm_at (pc' := 132) rfl ?_
      refine mm_aload_n 3 dX6_sendReport_132 rfl rfl ?_
      refine mm_getr (b := 1) dX6_sendReport_133 rfl fk_X6_9 rfl so_171 sr_171_0 ?_
      refine mm_getr (b := 84) dX6_sendReport_136 rfl fk_X6_105 rfl so_1 sr_1_7 ?_
      refine mm_aload_n 2 dX6_sendReport_139 rfl rfl ?_
      refine mm_getr (b := 7) dX6_sendReport_140 rfl fk_X6_136 rfl so_2 sr_2_4 ?_
      refine mm_iload_n 1 dX6_sendReport_143 rfl rfl ?_
      refine mm_cV1i (dz := d - 1) dX6_sendReport_144 rfl mzX5_at ml_X6_76 imX5_at (by omega) so_7 ⟨rfl, rfl⟩ (ct_at rw_7 (c) (by omega)) (Nat.le_of_ble_eq_true rfl) ⟨Nat.le_refl _, Nat.le_refl _⟩ ?_
      refine mm_top (v := (cN (w * h) n l k o r A N) 8 c) (by rw [mm_up_ne (by decide), mm_up_ne (by decide), mm_up_ne (by decide), mm_up_ne (by decide), mm_up_ne (by decide), mm_up_ne (by decide)]) ?_
      refine mm_top (v := N (190 + c)) (s_ice (by omega)) ?_
      refine mm_cV1i (dz := d - 1) dX6_sendReport_147 rfl mzX5_add ml_X6_139 imX5_add (by omega) so_84 ⟨rfl, rfl⟩ (ct_add rw_84 (6 * r + 3) (by exact mm_up_at) (by omega)) (Nat.le_of_ble_eq_true rfl) ⟨Nat.le_refl _, Nat.le_refl _⟩ ?_
      refine mm_at (pc' := 150) rfl ?_
      refine mm_pop dX6_sendReport_150 rfl ?_
      refine mm_aload_n 3 dX6_sendReport_151 rfl rfl ?_
      refine mm_getr (b := 1) dX6_sendReport_152 rfl fk_X6_9 rfl so_171 sr_171_0 ?_
      refine mm_getr (b := 84) dX6_sendReport_155 rfl fk_X6_105 rfl so_1 sr_1_7 ?_
      refine mm_iload 0 dX6_sendReport_158 rfl ?_
      refine mm_cV1i (dz := d - 1) dX6_sendReport_160 rfl mzX5_add ml_X6_139 imX5_add (by omega) so_84 ⟨rfl, rfl⟩ (ct_add rw_84 (6 * r + 4) (by exact mm_up_at) (by omega)) (Nat.le_of_ble_eq_true rfl) ⟨Nat.le_refl _, Nat.le_refl _⟩ ?_
      refine mm_pop dX6_sendReport_163 rfl ?_
      refine mm_aload_n 3 dX6_sendReport_164 rfl rfl ?_
      refine mm_at (pc' := 165) rfl ?_
      refine mm_getr (b := 1) dX6_sendReport_165 rfl fk_X6_9 rfl so_171 sr_171_0 ?_
      refine mm_getr (b := 84) dX6_sendReport_168 rfl fk_X6_105 rfl so_1 sr_1_7 ?_
      refine mm_iload 0 dX6_sendReport_171 rfl ?_
      refine mm_aload_n 3 dX6_sendReport_173 rfl rfl ?_
      refine mm_getr (b := 1) dX6_sendReport_174 rfl fk_X6_9 rfl so_171 sr_171_0 ?_
      refine mm_getr (b := 17) dX6_sendReport_177 rfl fk_X6_30 rfl so_1 sr_1_1 ?_
      refine mm_geti dX6_sendReport_180 rfl fk_X6_127 rfl so_17 ?_
      refine mm_top (v := (cN (w * h) n l k o r A N) 17 5) (by rw [mm_up_ne (by decide), mm_up_ne (by decide), mm_up_ne (by decide), mm_up_ne (by decide), mm_up_ne (by decide), mm_up_ne (by decide), mm_up_ne (by decide), mm_up_ne (by decide), mm_up_ne (by decide), mm_up_ne (by decide)]) ?_
      refine mm_top (v := N 6) (cN_r (lo_at17.trans rfl)) ?_
      refine mm_iadd dX6_sendReport_183 ?_
      refine mm_at (pc' := 184) rfl ?_
      refine mm_cV1i (dz := d - 1) dX6_sendReport_184 rfl mzX5_add ml_X6_139 imX5_add (by omega) so_84 ⟨rfl, rfl⟩ (ct_add rw_84 (6 * r + 5) (by exact mm_up_at) (by omega)) (Nat.le_of_ble_eq_true rfl) ⟨Nat.le_refl _, Nat.le_refl _⟩ ?_
      refine mm_pop dX6_sendReport_187 rfl ?_
      refine mm_vret dX6_sendReport_188 rfl ⟨Nat.le_refl _, Nat.le_refl _⟩ ?_
      exact hq
    · exact absurd c47 h6
  · exact absurd c8 hb
