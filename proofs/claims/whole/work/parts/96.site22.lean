/-! THE CLASS: machine, send -/
theorem isC_of {w h c : Nat} (hc : w * h ≤ 80) (h2 : c < w * h) : sp_isC w h (nI c) := ⟨Int32.not_lt.mp (nI_pos (by omega)), (nI_ltI (by omega) (by omega)).mpr h2⟩
set_option maxRecDepth 100000 in
set_option maxHeartbeats 600000 in
theorem ct_wk {g : mm_G} {I : mm_I} {d : Nat} {n m : Nat} (hn : I 1 4 = nI n) (hn5 : n ≤ 5) (hm : m < n) : mm_Cr g zX8_worker d [.ref 1, .int (nI m)] sh_S I (.ref (36 + 3 * m)) I := by
  refine mm_Cr_of (fun Q hq => ?_)
  refine mm_begin (ls := [(0, .ref 1), (1, .int (nI (m)))]) (Nat.le_of_ble_eq_true rfl) rfl rfl ?_
  refine mm_iload_n 1 dX8_worker_0 rfl rfl ?_
  refine mm_if_ltN (m) (tgt := 30) dX8_worker_1 (by decide) (by omega) ?_
  refine mm_iload_n 1 dX8_worker_4 rfl rfl ?_
  refine mm_aload_n 0 dX8_worker_5 rfl rfl ?_
  refine mm_geti dX8_worker_6 rfl fk_X8_39 rfl so_1 ?_
  refine mm_top (v := nI (n)) hn ?_
  refine mm_icmp_geN (m) (n) (tgt := 30) dX8_worker_9 (by decide) (by omega) (by omega) (fun c9 => ?_) (fun c9 => ?_)
  · refine mm_null dX8_worker_30 ?_
    refine mm_aret dX8_worker_31 rfl (Or.inl ⟨_, rfl⟩) (Or.inl rfl) ⟨Nat.le_refl _, Nat.le_refl _⟩ ?_
    first | exact hq | (exfalso; omega)
  · refine mm_iload_n 1 dX8_worker_12 rfl rfl ?_
    refine mm_aload_n 0 dX8_worker_13 rfl rfl ?_
    refine mm_getr (b := 35) dX8_worker_14 rfl fk_X8_34 rfl so_1 sr_1_3 ?_
    refine mm_alenR dX8_worker_17 sq_35 ?_
    refine mm_icmp_geN (m) (5) (tgt := 30) dX8_worker_18 (by decide) (by omega) (by omega) (fun c18 => ?_) (fun c18 => ?_)
    · refine mm_null dX8_worker_30 ?_
      refine mm_aret dX8_worker_31 rfl (Or.inl ⟨_, rfl⟩) (Or.inl rfl) ⟨Nat.le_refl _, Nat.le_refl _⟩ ?_
      first | exact hq | (exfalso; omega)
    · refine mm_aload_n 0 dX8_worker_21 rfl rfl ?_
      refine mm_getr (b := 35) dX8_worker_22 rfl fk_X8_34 rfl so_1 sr_1_3 ?_
      refine mm_iload_n 1 dX8_worker_25 rfl rfl ?_
      refine mm_aaldN (b := 36 + 3 * m) (m) dX8_worker_26 sq_35 (by omega) (by omega) (sm_1 (show m < 5 by omega)).2.2.2 ?_
      refine mm_goto (tgt := 31) dX8_worker_27 (by decide) ?_
      refine mm_aret dX8_worker_31 rfl (Or.inl ⟨_, rfl⟩) (Or.inr ⟨_, rfl⟩) ⟨Nat.le_refl _, Nat.le_refl _⟩ ?_
      first | exact hq | (exfalso; omega)
theorem am_n {I : mm_I} {n : Nat} {x y : Int32} (h : n < 5) : mbM (mm_up I 1 4 (nI (n + 1))) (36 + 3 * n) x y 1 4 = nI (n + 1) := by
  simp [mbM, bsM, rw_fl, mm_up, show ¬ (1 = 36 + 3 * n + 1 + 1) by omega, show ¬ (1 = 36 + 3 * n + 1) by omega, show ¬ (1 = 36 + 3 * n) by omega]
set_option maxRecDepth 100000 in
set_option maxHeartbeats 600000 in
theorem ct_am {g : mm_G} {I : mm_I} {d : Nat} {n : Nat} {x y : Int32} (hn : I 1 4 = nI n) (hn5 : n < 5) (hd : 4 ≤ d) : mm_Ci g zX8_addMachine d [.ref 1, .int x, .int y] sh_S I (nI n) (mbM (mm_up (I) 1 4 (nI (n + 1))) (36 + 3 * n) x y) := by
  refine mm_Ci_of (fun Q hq => ?_)
  refine mm_begin (ls := [(0, .ref 1), (1, .int (x)), (2, .int (y))]) (Nat.le_of_ble_eq_true rfl) rfl rfl ?_
  refine mm_aload_n 0 dX8_addMachine_0 rfl rfl ?_
  refine mm_dup dX8_addMachine_1 rfl ?_
  refine mm_geti dX8_addMachine_2 rfl fk_X8_39 rfl so_1 ?_
  refine mm_top (v := nI (n)) hn ?_
  refine mm_iconst (v := 1) dX8_addMachine_5 rfl ?_
  refine mm_iaddN (n) (1) dX8_addMachine_6 ?_
  refine mm_puti dX8_addMachine_7 rfl fk_X8_39 rfl fv_8_4 so_1 ?_
  refine mm_aload_n 0 dX8_addMachine_10 rfl rfl ?_
  refine mm_aload_n 0 dX8_addMachine_11 rfl rfl ?_
  refine mm_at (pc' := 12) rfl ?_
  refine mm_geti dX8_addMachine_12 rfl fk_X8_39 rfl so_1 ?_
  refine mm_top (v := nI (n + 1)) (by rw [mm_up_at]) ?_
  refine mm_iconst (v := 1) dX8_addMachine_15 rfl ?_
  refine mm_isubN (n + 1) (1) dX8_addMachine_16 (by omega) ?_
  refine mm_top (v := nI n) (by rw [show n + 1 - 1 = n by omega]) ?_
  refine mm_cV1r (dz := d - 1) dX8_addMachine_17 rfl mzX8_worker ml_X8_79 imX8_worker (by omega) so_1 ⟨rfl, rfl⟩ (ct_wk (n := n + 1) (m := n) mm_up_at (by omega) (by omega)) (Nat.le_of_ble_eq_true rfl) ⟨Nat.le_refl _, Nat.le_refl _⟩ ?_
  refine mm_astore_n (ls' := [(3, .ref (36 + 3 * n)), (0, .ref 1), (1, .int (x)), (2, .int (y))]) dX8_addMachine_20 rfl (by decide) rfl ?_
  refine mm_aload_n 0 dX8_addMachine_21 rfl rfl ?_
  refine mm_ifnull dX8_addMachine_22 ?_
  refine mm_aload_n 0 dX8_addMachine_25 rfl rfl ?_
  refine mm_at (pc' := 26) rfl ?_
  refine mm_iload_n 2 dX8_addMachine_26 rfl rfl ?_
  refine mm_iload_n 3 dX8_addMachine_27 rfl rfl ?_
  refine mm_cV2v (dz := d - 1) dX8_addMachine_28 rfl mzX1_begin ml_X8_99 imX1_begin (by omega) (sm_1 (show n < 5 by omega)).1 ⟨rfl, rfl⟩ (ct_mb (mc_m hn5) (by omega)) (Nat.le_of_ble_eq_true rfl) ⟨Nat.le_refl _, Nat.le_refl _⟩ ?_
  refine mm_aload_n 1 dX8_addMachine_31 rfl rfl ?_
  refine mm_geti dX8_addMachine_32 rfl fk_X8_39 rfl so_1 ?_
  refine mm_top (v := nI (n + 1)) (am_n hn5) ?_
  refine mm_iconst (v := 1) dX8_addMachine_35 rfl ?_
  refine mm_isubN (n + 1) (1) dX8_addMachine_36 (by omega) ?_
  refine mm_iret dX8_addMachine_37 rfl ⟨Nat.le_refl _, Nat.le_refl _⟩ ?_
  rw [show n + 1 - 1 = n by omega]; exact hq
set_option maxRecDepth 100000 in
set_option maxHeartbeats 600000 in
theorem cb_machB {g : mm_G} {d : Nat} {w h n l k o r : Nat} {A : mm_I} {N : Nat → Int32} (hz : zOK (w * h) n l k o r) (hW : mo_W N w h) {x c : Int32} (hx : ¬ sp_wi x 0 3 ∨ ¬ sp_isC w h c) (hd : 2 ≤ d) : mm_Ci g zX11_machine d [.ref 0, .int (x), .int (c)] sh_S (cN (w * h) n l k o r A N) (-1000000001) (cN (w * h) n l k o r A N) := by
  obtain ⟨hz1, hz2, hz3, hz4, hz5, hz6⟩ := id hz
  have hc := mo_W_c hW
  obtain ⟨-, -, hw1, hw2, hh1, hh2⟩ := id hW
  refine mm_Ci_of (fun Q hq => ?_)
  refine mm_begin (ls := [(0, .ref 0), (1, .int (x)), (2, .int (c))]) (Nat.le_of_ble_eq_true rfl) rfl rfl ?_
  refine mm_iload_n 1 dX11_machine_0 rfl rfl ?_
  refine mm_iconst (v := 0) dX11_machine_1 rfl ?_
  refine mm_iconst (v := 3) dX11_machine_2 rfl ?_
  refine mm_cS3i (dz := d - 1) dX11_machine_3 rfl mzX11_within ml_X11_63 imX11_within (by omega) cx_within (Nat.le_of_ble_eq_true rfl) ⟨Nat.le_refl _, Nat.le_refl _⟩ ?_
  refine mm_if_eqB (tgt := 23) dX11_machine_6 (by decide) (fun c6 => ?_) (fun c6 => ?_)
  · refine mm_ldc dX11_machine_23 rfl kc_X11_67 ?_
    refine mm_iret dX11_machine_25 rfl ⟨Nat.le_refl _, Nat.le_refl _⟩ ?_
    exact hq
  · refine mm_aload_n 0 dX11_machine_9 rfl rfl ?_
    refine mm_getr (b := 1) dX11_machine_10 rfl fk_X11_10 rfl so_0 sr_0_0 ?_
    refine mm_getr (b := 2) dX11_machine_13 rfl fk_X11_72 rfl so_1 sr_1_0 ?_
    refine mm_iload_n 2 dX11_machine_16 rfl rfl ?_
    refine mm_cV1i (dz := d - 1) dX11_machine_17 rfl mzX0_holds ml_X11_82 imX0_holds (by omega) so_2 ⟨rfl, rfl⟩ (cg_holds hz hW (by omega)) (Nat.le_of_ble_eq_true rfl) ⟨Nat.le_refl _, Nat.le_refl _⟩ ?_
    refine mm_if_neB (tgt := 26) dX11_machine_20 (by decide) (fun c20 => ?_) (fun c20 => ?_)
    · exact absurd hx (by intro q; rcases q with q | q; exact q c6; exact q c20)
    · refine mm_ldc dX11_machine_23 rfl kc_X11_67 ?_
      refine mm_iret dX11_machine_25 rfl ⟨Nat.le_refl _, Nat.le_refl _⟩ ?_
      exact hq
set_option maxRecDepth 100000 in
set_option maxHeartbeats 600000 in
theorem cb_machN {g : mm_G} {d : Nat} {w h n l k o r : Nat} {A : mm_I} {N : Nat → Int32} (hz : zOK (w * h) n l k o r) (hW : mo_W N w h) {x : Int32} {c : Nat} (h1 : sp_wi x 0 3) (h2 : c < w * h) (hD : mo_D N n) (hx : N (30 + c) = 1 ∨ 0 ≤ sp_mo N (nI c) n) (hd : 3 ≤ d) : mm_Ci g zX11_machine d [.ref 0, .int (x), .int (nI (c))] sh_S (cN (w * h) n l k o r A N) (-1000000002) (cN (w * h) n l k o r A N) := by
  obtain ⟨hz1, hz2, hz3, hz4, hz5, hz6⟩ := id hz
  have hc := mo_W_c hW
  obtain ⟨-, -, hw1, hw2, hh1, hh2⟩ := id hW
  have h3 := isC_of hc.2 h2
  refine mm_Ci_of (fun Q hq => ?_)
  refine mm_begin (ls := [(0, .ref 0), (1, .int (x)), (2, .int (nI (c)))]) (Nat.le_of_ble_eq_true rfl) rfl rfl ?_
  refine mm_iload_n 1 dX11_machine_0 rfl rfl ?_
  refine mm_iconst (v := 0) dX11_machine_1 rfl ?_
  refine mm_iconst (v := 3) dX11_machine_2 rfl ?_
  refine mm_cS3i (dz := d - 1) dX11_machine_3 rfl mzX11_within ml_X11_63 imX11_within (by omega) cx_within (Nat.le_of_ble_eq_true rfl) ⟨Nat.le_refl _, Nat.le_refl _⟩ ?_
  refine mm_if_eqB (tgt := 23) dX11_machine_6 (by decide) (fun c6 => ?_) (fun c6 => ?_)
  · first | exact absurd h1 c6 | exact absurd h3 c20
  · refine mm_aload_n 0 dX11_machine_9 rfl rfl ?_
    refine mm_getr (b := 1) dX11_machine_10 rfl fk_X11_10 rfl so_0 sr_0_0 ?_
    refine mm_getr (b := 2) dX11_machine_13 rfl fk_X11_72 rfl so_1 sr_1_0 ?_
    refine mm_iload_n 2 dX11_machine_16 rfl rfl ?_
    refine mm_cV1i (dz := d - 1) dX11_machine_17 rfl mzX0_holds ml_X11_82 imX0_holds (by omega) so_2 ⟨rfl, rfl⟩ (cg_holds hz hW (by omega)) (Nat.le_of_ble_eq_true rfl) ⟨Nat.le_refl _, Nat.le_refl _⟩ ?_
    refine mm_if_neB (tgt := 26) dX11_machine_20 (by decide) (fun c20 => ?_) (fun c20 => ?_)
    · refine mm_aload_n 0 dX11_machine_26 rfl rfl ?_
      refine mm_getr (b := 1) dX11_machine_27 rfl fk_X11_10 rfl so_0 sr_0_0 ?_
      refine mm_getr (b := 2) dX11_machine_30 rfl fk_X11_72 rfl so_1 sr_1_0 ?_
      refine mm_iload_n 2 dX11_machine_33 rfl rfl ?_
      refine mm_cV1i (dz := d - 1) dX11_machine_34 rfl mzX0_isOpen ml_X11_194 imX0_isOpen (by omega) so_2 ⟨rfl, rfl⟩ (cg_isOpen hz hW (c := c) (by omega) (by omega)) (Nat.le_of_ble_eq_true rfl) ⟨Nat.le_refl _, Nat.le_refl _⟩ ?_
      refine mm_if_eqB (tgt := 51) dX11_machine_37 (by decide) (fun c37 => ?_) (fun c37 => ?_)
      · refine mm_ldc dX11_machine_51 rfl kc_X11_90 ?_
        refine mm_iret dX11_machine_53 rfl ⟨Nat.le_refl _, Nat.le_refl _⟩ ?_
        exact hq
      · refine mm_aload_n 0 dX11_machine_40 rfl rfl ?_
        refine mm_getr (b := 1) dX11_machine_41 rfl fk_X11_10 rfl so_0 sr_0_0 ?_
        refine mm_iload_n 2 dX11_machine_44 rfl rfl ?_
        refine mm_cV1i (dz := d - 1) dX11_machine_45 rfl mzX8_machineOn ml_X11_86 imX8_machineOn (by omega) so_1 ⟨rfl, rfl⟩ (cg_mo hz hW hD (by omega)) (Nat.le_of_ble_eq_true rfl) ⟨Nat.le_refl _, Nat.le_refl _⟩ ?_
        refine mm_if_lt (tgt := 54) dX11_machine_48 (by decide) (fun c48 => ?_) (fun c48 => ?_)
        · exact absurd hx (by intro q; rcases q with q | q; exact absurd q (by simpa using c37); exact absurd c48 (Int32.not_lt.mpr q))
        · refine mm_ldc dX11_machine_51 rfl kc_X11_90 ?_
          refine mm_iret dX11_machine_53 rfl ⟨Nat.le_refl _, Nat.le_refl _⟩ ?_
          exact hq
    · first | exact absurd h1 c6 | exact absurd h3 c20
set_option maxRecDepth 100000 in
set_option maxHeartbeats 600000 in
theorem cb_machF {g : mm_G} {d : Nat} {w h n l k o r : Nat} {A : mm_I} {N : Nat → Int32} (hz : zOK (w * h) n l k o r) (hW : mo_W N w h) {x : Int32} {c : Nat} (h1 : sp_wi x 0 3) (h2 : c < w * h) (hD : mo_D N n) (hx : ¬ (N (30 + c) = 1 ∨ 0 ≤ sp_mo N (nI c) n)) (hn5 : n = 5) (hd : 3 ≤ d) : mm_Ci g zX11_machine d [.ref 0, .int (x), .int (nI (c))] sh_S (cN (w * h) n l k o r A N) (-1000000003) (cN (w * h) n l k o r A N) := by
  obtain ⟨hz1, hz2, hz3, hz4, hz5, hz6⟩ := id hz
  have hc := mo_W_c hW
  obtain ⟨-, -, hw1, hw2, hh1, hh2⟩ := id hW
  have h3 := isC_of hc.2 h2
  refine mm_Ci_of (fun Q hq => ?_)
  refine mm_begin (ls := [(0, .ref 0), (1, .int (x)), (2, .int (nI (c)))]) (Nat.le_of_ble_eq_true rfl) rfl rfl ?_
  refine mm_iload_n 1 dX11_machine_0 rfl rfl ?_
  refine mm_iconst (v := 0) dX11_machine_1 rfl ?_
  refine mm_iconst (v := 3) dX11_machine_2 rfl ?_
  refine mm_cS3i (dz := d - 1) dX11_machine_3 rfl mzX11_within ml_X11_63 imX11_within (by omega) cx_within (Nat.le_of_ble_eq_true rfl) ⟨Nat.le_refl _, Nat.le_refl _⟩ ?_
  refine mm_if_eqB (tgt := 23) dX11_machine_6 (by decide) (fun c6 => ?_) (fun c6 => ?_)
  · first | exact absurd h1 c6 | exact absurd h3 c20
  · refine mm_aload_n 0 dX11_machine_9 rfl rfl ?_
    refine mm_getr (b := 1) dX11_machine_10 rfl fk_X11_10 rfl so_0 sr_0_0 ?_
    refine mm_getr (b := 2) dX11_machine_13 rfl fk_X11_72 rfl so_1 sr_1_0 ?_
    refine mm_iload_n 2 dX11_machine_16 rfl rfl ?_
    refine mm_cV1i (dz := d - 1) dX11_machine_17 rfl mzX0_holds ml_X11_82 imX0_holds (by omega) so_2 ⟨rfl, rfl⟩ (cg_holds hz hW (by omega)) (Nat.le_of_ble_eq_true rfl) ⟨Nat.le_refl _, Nat.le_refl _⟩ ?_
    refine mm_if_neB (tgt := 26) dX11_machine_20 (by decide) (fun c20 => ?_) (fun c20 => ?_)
    · refine mm_aload_n 0 dX11_machine_26 rfl rfl ?_
      refine mm_getr (b := 1) dX11_machine_27 rfl fk_X11_10 rfl so_0 sr_0_0 ?_
      refine mm_getr (b := 2) dX11_machine_30 rfl fk_X11_72 rfl so_1 sr_1_0 ?_
      refine mm_iload_n 2 dX11_machine_33 rfl rfl ?_
      refine mm_cV1i (dz := d - 1) dX11_machine_34 rfl mzX0_isOpen ml_X11_194 imX0_isOpen (by omega) so_2 ⟨rfl, rfl⟩ (cg_isOpen hz hW (c := c) (by omega) (by omega)) (Nat.le_of_ble_eq_true rfl) ⟨Nat.le_refl _, Nat.le_refl _⟩ ?_
      refine mm_if_eqB (tgt := 51) dX11_machine_37 (by decide) (fun c37 => ?_) (fun c37 => ?_)
      · exfalso; apply hx; first | exact Or.inl (by simpa using c37) | exact Or.inr (Int32.not_lt.mp c48)
      · refine mm_aload_n 0 dX11_machine_40 rfl rfl ?_
        refine mm_getr (b := 1) dX11_machine_41 rfl fk_X11_10 rfl so_0 sr_0_0 ?_
        refine mm_iload_n 2 dX11_machine_44 rfl rfl ?_
        refine mm_cV1i (dz := d - 1) dX11_machine_45 rfl mzX8_machineOn ml_X11_86 imX8_machineOn (by omega) so_1 ⟨rfl, rfl⟩ (cg_mo hz hW hD (by omega)) (Nat.le_of_ble_eq_true rfl) ⟨Nat.le_refl _, Nat.le_refl _⟩ ?_
        refine mm_if_lt (tgt := 54) dX11_machine_48 (by decide) (fun c48 => ?_) (fun c48 => ?_)
        · refine mm_aload_n 0 dX11_machine_54 rfl rfl ?_
          refine mm_getr (b := 1) dX11_machine_55 rfl fk_X11_10 rfl so_0 sr_0_0 ?_
          refine mm_geti dX11_machine_58 rfl fk_X11_197 rfl so_1 ?_
          refine mm_top (v := nI (n)) s_n ?_
          refine mm_iconst (v := 5) dX11_machine_61 rfl ?_
          refine mm_icmp_ltN (n) (5) (tgt := 68) dX11_machine_62 (by decide) (by omega) (by omega) (fun c62 => ?_) (fun c62 => ?_)
          · exfalso; omega
          · refine mm_ldc dX11_machine_65 rfl kc_X11_170 ?_
            refine mm_iret dX11_machine_67 rfl ⟨Nat.le_refl _, Nat.le_refl _⟩ ?_
            exact hq
        · exfalso; apply hx; first | exact Or.inl (by simpa using c37) | exact Or.inr (Int32.not_lt.mp c48)
    · first | exact absurd h1 c6 | exact absurd h3 c20
set_option maxRecDepth 100000 in
set_option maxHeartbeats 600000 in
theorem cb_mach {g : mm_G} {d : Nat} {w h n l k o r : Nat} {A : mm_I} {N : Nat → Int32} (hz : zOK (w * h) n l k o r) (hW : mo_W N w h) {x : Int32} {c : Nat} (h1 : sp_wi x 0 3) (h2 : c < w * h) (hD : mo_D N n) (hx : ¬ (N (30 + c) = 1 ∨ 0 ≤ sp_mo N (nI c) n)) (hn5 : n < 5) (hd : 5 ≤ d) : mm_Ci g zX11_machine d [.ref 0, .int (x), .int (nI (c))] sh_S (cN (w * h) n l k o r A N) (nI n) (mbM (mm_up (cN (w * h) n l k o r A N) 1 4 (nI (n + 1))) (36 + 3 * n) x (nI c)) := by
  obtain ⟨hz1, hz2, hz3, hz4, hz5, hz6⟩ := id hz
  have hc := mo_W_c hW
  obtain ⟨-, -, hw1, hw2, hh1, hh2⟩ := id hW
  have h3 := isC_of hc.2 h2
  refine mm_Ci_of (fun Q hq => ?_)
  refine mm_begin (ls := [(0, .ref 0), (1, .int (x)), (2, .int (nI (c)))]) (Nat.le_of_ble_eq_true rfl) rfl rfl ?_
  refine mm_iload_n 1 dX11_machine_0 rfl rfl ?_
  refine mm_iconst (v := 0) dX11_machine_1 rfl ?_
  refine mm_iconst (v := 3) dX11_machine_2 rfl ?_
  refine mm_cS3i (dz := d - 1) dX11_machine_3 rfl mzX11_within ml_X11_63 imX11_within (by omega) cx_within (Nat.le_of_ble_eq_true rfl) ⟨Nat.le_refl _, Nat.le_refl _⟩ ?_
  refine mm_if_eqB (tgt := 23) dX11_machine_6 (by decide) (fun c6 => ?_) (fun c6 => ?_)
  · first | exact absurd h1 c6 | exact absurd h3 c20
  · refine mm_aload_n 0 dX11_machine_9 rfl rfl ?_
    refine mm_getr (b := 1) dX11_machine_10 rfl fk_X11_10 rfl so_0 sr_0_0 ?_
    refine mm_getr (b := 2) dX11_machine_13 rfl fk_X11_72 rfl so_1 sr_1_0 ?_
    refine mm_iload_n 2 dX11_machine_16 rfl rfl ?_
    refine mm_cV1i (dz := d - 1) dX11_machine_17 rfl mzX0_holds ml_X11_82 imX0_holds (by omega) so_2 ⟨rfl, rfl⟩ (cg_holds hz hW (by omega)) (Nat.le_of_ble_eq_true rfl) ⟨Nat.le_refl _, Nat.le_refl _⟩ ?_
    refine mm_if_neB (tgt := 26) dX11_machine_20 (by decide) (fun c20 => ?_) (fun c20 => ?_)
    · refine mm_aload_n 0 dX11_machine_26 rfl rfl ?_
      refine mm_getr (b := 1) dX11_machine_27 rfl fk_X11_10 rfl so_0 sr_0_0 ?_
      refine mm_getr (b := 2) dX11_machine_30 rfl fk_X11_72 rfl so_1 sr_1_0 ?_
      refine mm_iload_n 2 dX11_machine_33 rfl rfl ?_
      refine mm_cV1i (dz := d - 1) dX11_machine_34 rfl mzX0_isOpen ml_X11_194 imX0_isOpen (by omega) so_2 ⟨rfl, rfl⟩ (cg_isOpen hz hW (c := c) (by omega) (by omega)) (Nat.le_of_ble_eq_true rfl) ⟨Nat.le_refl _, Nat.le_refl _⟩ ?_
      refine mm_if_eqB (tgt := 51) dX11_machine_37 (by decide) (fun c37 => ?_) (fun c37 => ?_)
      · exfalso; apply hx; first | exact Or.inl (by simpa using c37) | exact Or.inr (Int32.not_lt.mp c48)
      · refine mm_aload_n 0 dX11_machine_40 rfl rfl ?_
        refine mm_getr (b := 1) dX11_machine_41 rfl fk_X11_10 rfl so_0 sr_0_0 ?_
        refine mm_iload_n 2 dX11_machine_44 rfl rfl ?_
        refine mm_cV1i (dz := d - 1) dX11_machine_45 rfl mzX8_machineOn ml_X11_86 imX8_machineOn (by omega) so_1 ⟨rfl, rfl⟩ (cg_mo hz hW hD (by omega)) (Nat.le_of_ble_eq_true rfl) ⟨Nat.le_refl _, Nat.le_refl _⟩ ?_
        refine mm_if_lt (tgt := 54) dX11_machine_48 (by decide) (fun c48 => ?_) (fun c48 => ?_)
        · refine mm_aload_n 0 dX11_machine_54 rfl rfl ?_
          refine mm_getr (b := 1) dX11_machine_55 rfl fk_X11_10 rfl so_0 sr_0_0 ?_
          refine mm_geti dX11_machine_58 rfl fk_X11_197 rfl so_1 ?_
          refine mm_top (v := nI (n)) s_n ?_
          refine mm_iconst (v := 5) dX11_machine_61 rfl ?_
          refine mm_icmp_ltN (n) (5) (tgt := 68) dX11_machine_62 (by decide) (by omega) (by omega) (fun c62 => ?_) (fun c62 => ?_)
          · refine mm_aload_n 0 dX11_machine_68 rfl rfl ?_
            refine mm_getr (b := 1) dX11_machine_69 rfl fk_X11_10 rfl so_0 sr_0_0 ?_
            refine mm_iload_n 1 dX11_machine_72 rfl rfl ?_
            refine mm_iload_n 2 dX11_machine_73 rfl rfl ?_
            refine mm_cV2i (dz := d - 1) dX11_machine_74 rfl mzX8_addMachine ml_X11_200 imX8_addMachine (by omega) so_1 ⟨rfl, rfl⟩ (ct_am s_n hn5 (by omega)) (Nat.le_of_ble_eq_true rfl) ⟨Nat.le_refl _, Nat.le_refl _⟩ ?_
            refine mm_iret dX11_machine_77 rfl ⟨Nat.le_refl _, Nat.le_refl _⟩ ?_
            exact hq
          · exfalso; omega
        · exfalso; apply hx; first | exact Or.inl (by simpa using c37) | exact Or.inr (Int32.not_lt.mp c48)
    · first | exact absurd h1 c6 | exact absurd h3 c20
set_option maxRecDepth 100000 in
set_option maxHeartbeats 600000 in
theorem cg_ao {g : mm_G} {d : Nat} {w h n l k o r : Nat} {A : mm_I} {N : Nat → Int32} (hz : zOK (w * h) n l k o r) (hW : mo_W N w h) {x y : Int32} (ho : o < 12) (hd : 2 ≤ d) : mm_Ci g zX8_addOrder d [.ref 1, .int (x), .int (y)] sh_S (cN (w * h) n l k o r A N) (N 7 + N 6) (mm_up (mm_up (mm_up (mm_up (mm_up (mm_up (cN (w * h) n l k o r A N) 83 (3 * o + 0) x) 82 1 (nI (3 * o + 0 + 1))) 83 (3 * o + 1) y) 82 1 (nI (3 * o + 1 + 1))) 83 (3 * o + 2) (N 7 + N 6)) 82 1 (nI (3 * o + 2 + 1))) := by
  obtain ⟨hz1, hz2, hz3, hz4, hz5, hz6⟩ := id hz
  have hc := mo_W_c hW
  obtain ⟨-, -, hw1, hw2, hh1, hh2⟩ := id hW
  refine mm_Ci_of (fun Q hq => ?_)
  refine mm_begin (ls := [(0, .ref 1), (1, .int (x)), (2, .int (y))]) (Nat.le_of_ble_eq_true rfl) rfl rfl ?_
  refine mm_aload_n 0 dX8_addOrder_0 rfl rfl ?_
  refine mm_getr (b := 17) dX8_addOrder_1 rfl fk_X8_21 rfl so_1 sr_1_1 ?_
  refine mm_geti dX8_addOrder_4 rfl fk_X8_113 rfl so_17 ?_
  refine mm_top (v := N 7) (cN_r (lo_at17.trans rfl)) ?_
  refine mm_aload_n 0 dX8_addOrder_7 rfl rfl ?_
  refine mm_getr (b := 17) dX8_addOrder_8 rfl fk_X8_21 rfl so_1 sr_1_1 ?_
  refine mm_geti dX8_addOrder_11 rfl fk_X8_116 rfl so_17 ?_
  refine mm_top (v := N 6) (cN_r (lo_at17.trans rfl)) ?_
  refine mm_iadd dX8_addOrder_14 ?_
  refine mm_istore_n (ls' := [(3, .int ((N 7) + (N 6))), (0, .ref 1), (1, .int (x)), (2, .int (y))]) dX8_addOrder_15 rfl (by decide) rfl ?_
  refine mm_at (pc' := 16) rfl ?_
  refine mm_aload_n 1 dX8_addOrder_16 rfl rfl ?_
  refine mm_getr (b := 82) dX8_addOrder_17 rfl fk_X8_55 rfl so_1 sr_1_6 ?_
  refine mm_iload_n 2 dX8_addOrder_20 rfl rfl ?_
  refine mm_cV1i (dz := d - 1) dX8_addOrder_21 rfl mzX5_add ml_X8_119 imX5_add (by omega) so_82 ⟨rfl, rfl⟩ (ct_add rw_82 (3 * o + 0) (by exact s_o) (by omega)) (Nat.le_of_ble_eq_true rfl) ⟨Nat.le_refl _, Nat.le_refl _⟩ ?_
  refine mm_pop dX8_addOrder_24 rfl ?_
  refine mm_aload_n 1 dX8_addOrder_25 rfl rfl ?_
  refine mm_getr (b := 82) dX8_addOrder_26 rfl fk_X8_55 rfl so_1 sr_1_6 ?_
  refine mm_iload_n 3 dX8_addOrder_29 rfl rfl ?_
  refine mm_at (pc' := 30) rfl ?_
  refine mm_cV1i (dz := d - 1) dX8_addOrder_30 rfl mzX5_add ml_X8_119 imX5_add (by omega) so_82 ⟨rfl, rfl⟩ (ct_add rw_82 (3 * o + 1) (by exact mm_up_at) (by omega)) (Nat.le_of_ble_eq_true rfl) ⟨Nat.le_refl _, Nat.le_refl _⟩ ?_
  refine mm_pop dX8_addOrder_33 rfl ?_
  refine mm_aload_n 1 dX8_addOrder_34 rfl rfl ?_
  refine mm_getr (b := 82) dX8_addOrder_35 rfl fk_X8_55 rfl so_1 sr_1_6 ?_
  refine mm_iload_n 0 dX8_addOrder_38 rfl rfl ?_
  refine mm_cV1i (dz := d - 1) dX8_addOrder_39 rfl mzX5_add ml_X8_119 imX5_add (by omega) so_82 ⟨rfl, rfl⟩ (ct_add rw_82 (3 * o + 2) (by exact mm_up_at) (by omega)) (Nat.le_of_ble_eq_true rfl) ⟨Nat.le_refl _, Nat.le_refl _⟩ ?_
  refine mm_pop dX8_addOrder_42 rfl ?_
  refine mm_iload_n 0 dX8_addOrder_43 rfl rfl ?_
  refine mm_at (pc' := 44) rfl ?_
  refine mm_iret dX8_addOrder_44 rfl ⟨Nat.le_refl _, Nat.le_refl _⟩ ?_
  exact hq
set_option maxRecDepth 100000 in
set_option maxHeartbeats 600000 in
theorem cb_sendB1 {g : mm_G} {d : Nat} {w h n l k o r : Nat} {A : mm_I} {N : Nat → Int32} (hz : zOK (w * h) n l k o r) (hW : mo_W N w h) {m p : Int32} (hm : ¬ sp_isM n m) (hp : ¬ sp_wi p 0 5) (hd : 1 ≤ d) : mm_Ci g zX11_send d [.ref 0, .int (m), .int (p)] sh_S (cN (w * h) n l k o r A N) (-1000000001) (cN (w * h) n l k o r A N) := by
  obtain ⟨hz1, hz2, hz3, hz4, hz5, hz6⟩ := id hz
  have hc := mo_W_c hW
  obtain ⟨-, -, hw1, hw2, hh1, hh2⟩ := id hW
  refine mm_Ci_of (fun Q hq => ?_)
  refine mm_begin (ls := [(0, .ref 0), (1, .int (m)), (2, .int (p))]) (Nat.le_of_ble_eq_true rfl) rfl rfl ?_
  refine mm_aload_n 0 dX11_send_0 rfl rfl ?_
  refine mm_getr (b := 1) dX11_send_1 rfl fk_X11_10 rfl so_0 sr_0_0 ?_
  refine mm_iload_n 2 dX11_send_4 rfl rfl ?_
  refine mm_cV1r (dz := d - 1) dX11_send_5 rfl mzX8_script ml_X11_245 imX8_script (by omega) so_1 ⟨rfl, rfl⟩ (cg_scriptN hz hW hp) (Nat.le_of_ble_eq_true rfl) ⟨Nat.le_refl _, Nat.le_refl _⟩ ?_
  refine mm_astoreN_n (ls' := [(3, .null), (0, .ref 0), (1, .int (m)), (2, .int (p))]) dX11_send_8 rfl (by decide) rfl ?_
  refine mm_aload_n 1 dX11_send_9 rfl rfl ?_
  refine mm_getr (b := 1) dX11_send_10 rfl fk_X11_10 rfl so_0 sr_0_0 ?_
  refine mm_iload_n 2 dX11_send_13 rfl rfl ?_
  refine mm_at (pc' := 14) rfl ?_
  refine mm_cV1r (dz := d - 1) dX11_send_14 rfl mzX8_worker ml_X11_203 imX8_worker (by omega) so_1 ⟨rfl, rfl⟩ (cg_workerN hz hW hm) (Nat.le_of_ble_eq_true rfl) ⟨Nat.le_refl _, Nat.le_refl _⟩ ?_
  refine mm_ifnullN (tgt := 24) dX11_send_17 (by decide) ?_
  refine mm_ldc dX11_send_24 rfl kc_X11_67 ?_
  refine mm_iret dX11_send_26 rfl ⟨Nat.le_refl _, Nat.le_refl _⟩ ?_
  exact hq
set_option maxRecDepth 100000 in
set_option maxHeartbeats 600000 in
theorem cb_sendB2 {g : mm_G} {d : Nat} {w h n l k o r : Nat} {A : mm_I} {N : Nat → Int32} (hz : zOK (w * h) n l k o r) (hW : mo_W N w h) {m : Int32} {p : Nat} (hm : ¬ sp_isM n m) (hp : p < 6) (hd : 1 ≤ d) : mm_Ci g zX11_send d [.ref 0, .int (m), .int (nI (p))] sh_S (cN (w * h) n l k o r A N) (-1000000001) (cN (w * h) n l k o r A N) := by
  obtain ⟨hz1, hz2, hz3, hz4, hz5, hz6⟩ := id hz
  have hc := mo_W_c hW
  obtain ⟨-, -, hw1, hw2, hh1, hh2⟩ := id hW
  refine mm_Ci_of (fun Q hq => ?_)
  refine mm_begin (ls := [(0, .ref 0), (1, .int (m)), (2, .int (nI (p)))]) (Nat.le_of_ble_eq_true rfl) rfl rfl ?_
  refine mm_aload_n 0 dX11_send_0 rfl rfl ?_
  refine mm_getr (b := 1) dX11_send_1 rfl fk_X11_10 rfl so_0 sr_0_0 ?_
  refine mm_iload_n 2 dX11_send_4 rfl rfl ?_
  refine mm_cV1r (dz := d - 1) dX11_send_5 rfl mzX8_script ml_X11_245 imX8_script (by omega) so_1 ⟨rfl, rfl⟩ (cg_script hz hW (p := p) (by omega)) (Nat.le_of_ble_eq_true rfl) ⟨Nat.le_refl _, Nat.le_refl _⟩ ?_
  refine mm_astore_n (ls' := [(3, .ref (52 + 5 * p)), (0, .ref 0), (1, .int (m)), (2, .int (nI (p)))]) dX11_send_8 rfl (by decide) rfl ?_
  refine mm_aload_n 1 dX11_send_9 rfl rfl ?_
  refine mm_getr (b := 1) dX11_send_10 rfl fk_X11_10 rfl so_0 sr_0_0 ?_
  refine mm_iload_n 2 dX11_send_13 rfl rfl ?_
  refine mm_at (pc' := 14) rfl ?_
  refine mm_cV1r (dz := d - 1) dX11_send_14 rfl mzX8_worker ml_X11_203 imX8_worker (by omega) so_1 ⟨rfl, rfl⟩ (cg_workerN hz hW hm) (Nat.le_of_ble_eq_true rfl) ⟨Nat.le_refl _, Nat.le_refl _⟩ ?_
  refine mm_ifnullN (tgt := 24) dX11_send_17 (by decide) ?_
  refine mm_ldc dX11_send_24 rfl kc_X11_67 ?_
  refine mm_iret dX11_send_26 rfl ⟨Nat.le_refl _, Nat.le_refl _⟩ ?_
  exact hq
set_option maxRecDepth 100000 in
set_option maxHeartbeats 600000 in
theorem cb_sendB3 {g : mm_G} {d : Nat} {w h n l k o r : Nat} {A : mm_I} {N : Nat → Int32} (hz : zOK (w * h) n l k o r) (hW : mo_W N w h) {m : Nat} {p : Int32} (hm : m < n) (hp : ¬ sp_wi p 0 5) (hd : 1 ≤ d) : mm_Ci g zX11_send d [.ref 0, .int (nI (m)), .int (p)] sh_S (cN (w * h) n l k o r A N) (-1000000001) (cN (w * h) n l k o r A N) := by
  obtain ⟨hz1, hz2, hz3, hz4, hz5, hz6⟩ := id hz
  have hc := mo_W_c hW
  obtain ⟨-, -, hw1, hw2, hh1, hh2⟩ := id hW
  refine mm_Ci_of (fun Q hq => ?_)
  refine mm_begin (ls := [(0, .ref 0), (1, .int (nI (m))), (2, .int (p))]) (Nat.le_of_ble_eq_true rfl) rfl rfl ?_
  refine mm_aload_n 0 dX11_send_0 rfl rfl ?_
  refine mm_getr (b := 1) dX11_send_1 rfl fk_X11_10 rfl so_0 sr_0_0 ?_
  refine mm_iload_n 2 dX11_send_4 rfl rfl ?_
  refine mm_cV1r (dz := d - 1) dX11_send_5 rfl mzX8_script ml_X11_245 imX8_script (by omega) so_1 ⟨rfl, rfl⟩ (cg_scriptN hz hW hp) (Nat.le_of_ble_eq_true rfl) ⟨Nat.le_refl _, Nat.le_refl _⟩ ?_
  refine mm_astoreN_n (ls' := [(3, .null), (0, .ref 0), (1, .int (nI (m))), (2, .int (p))]) dX11_send_8 rfl (by decide) rfl ?_
  refine mm_aload_n 1 dX11_send_9 rfl rfl ?_
  refine mm_getr (b := 1) dX11_send_10 rfl fk_X11_10 rfl so_0 sr_0_0 ?_
  refine mm_iload_n 2 dX11_send_13 rfl rfl ?_
  refine mm_at (pc' := 14) rfl ?_
  refine mm_cV1r (dz := d - 1) dX11_send_14 rfl mzX8_worker ml_X11_203 imX8_worker (by omega) so_1 ⟨rfl, rfl⟩ (cg_worker hz hW (m := m) (by omega)) (Nat.le_of_ble_eq_true rfl) ⟨Nat.le_refl _, Nat.le_refl _⟩ ?_
  refine mm_ifnull dX11_send_17 ?_
  refine mm_aloadN_n 0 dX11_send_20 rfl rfl ?_
  refine mm_ifnonnullN dX11_send_21 ?_
  refine mm_ldc dX11_send_24 rfl kc_X11_67 ?_
  refine mm_iret dX11_send_26 rfl ⟨Nat.le_refl _, Nat.le_refl _⟩ ?_
  exact hq
set_option maxRecDepth 100000 in
set_option maxHeartbeats 600000 in
theorem cb_sendN {g : mm_G} {d : Nat} {w h n l k o r : Nat} {A : mm_I} {N : Nat → Int32} (hz : zOK (w * h) n l k o r) (hW : mo_W N w h) {m p : Nat} (hm : m < n) (hp : p < 6) (h0 : A (52 + 5 * p) 2 = 0) (hd : 2 ≤ d) : mm_Ci g zX11_send d [.ref 0, .int (nI (m)), .int (nI (p))] sh_S (cN (w * h) n l k o r A N) (-1000000002) (cN (w * h) n l k o r A N) := by
  obtain ⟨hz1, hz2, hz3, hz4, hz5, hz6⟩ := id hz
  have hc := mo_W_c hW
  obtain ⟨-, -, hw1, hw2, hh1, hh2⟩ := id hW
  refine mm_Ci_of (fun Q hq => ?_)
  refine mm_begin (ls := [(0, .ref 0), (1, .int (nI (m))), (2, .int (nI (p)))]) (Nat.le_of_ble_eq_true rfl) rfl rfl ?_
  refine mm_aload_n 0 dX11_send_0 rfl rfl ?_
  refine mm_getr (b := 1) dX11_send_1 rfl fk_X11_10 rfl so_0 sr_0_0 ?_
  refine mm_iload_n 2 dX11_send_4 rfl rfl ?_
  refine mm_cV1r (dz := d - 1) dX11_send_5 rfl mzX8_script ml_X11_245 imX8_script (by omega) so_1 ⟨rfl, rfl⟩ (cg_script hz hW (p := p) (by omega)) (Nat.le_of_ble_eq_true rfl) ⟨Nat.le_refl _, Nat.le_refl _⟩ ?_
  refine mm_astore_n (ls' := [(3, .ref (52 + 5 * p)), (0, .ref 0), (1, .int (nI (m))), (2, .int (nI (p)))]) dX11_send_8 rfl (by decide) rfl ?_
  refine mm_aload_n 1 dX11_send_9 rfl rfl ?_
  refine mm_getr (b := 1) dX11_send_10 rfl fk_X11_10 rfl so_0 sr_0_0 ?_
  refine mm_iload_n 2 dX11_send_13 rfl rfl ?_
  refine mm_at (pc' := 14) rfl ?_
  refine mm_cV1r (dz := d - 1) dX11_send_14 rfl mzX8_worker ml_X11_203 imX8_worker (by omega) so_1 ⟨rfl, rfl⟩ (cg_worker hz hW (m := m) (by omega)) (Nat.le_of_ble_eq_true rfl) ⟨Nat.le_refl _, Nat.le_refl _⟩ ?_
  refine mm_ifnull dX11_send_17 ?_
  refine mm_aload_n 0 dX11_send_20 rfl rfl ?_
  refine mm_ifnonnull (tgt := 27) dX11_send_21 (by decide) ?_
  refine mm_aload_n 0 dX11_send_27 rfl rfl ?_
  refine mm_cV0i (dz := d - 1) dX11_send_28 rfl mzX4_isEmpty ml_X11_270 imX4_isEmpty (by omega) (sp_1 (show p < 6 by omega)).1 ⟨rfl, rfl⟩ (cg_pempty hz hW (p := p) (by omega)) (Nat.le_of_ble_eq_true rfl) ⟨Nat.le_refl _, Nat.le_refl _⟩ ?_
  refine mm_if_eqB (tgt := 37) dX11_send_31 (by decide) (fun c31 => ?_) (fun c31 => ?_)
  · exact absurd h0 c31
  · refine mm_ldc dX11_send_34 rfl kc_X11_90 ?_
    refine mm_iret dX11_send_36 rfl ⟨Nat.le_refl _, Nat.le_refl _⟩ ?_
    exact hq
set_option maxRecDepth 100000 in
set_option maxHeartbeats 600000 in
theorem cb_sendF {g : mm_G} {d : Nat} {w h n l k o r : Nat} {A : mm_I} {N : Nat → Int32} (hz : zOK (w * h) n l k o r) (hW : mo_W N w h) {m p : Nat} (hm : m < n) (hp : p < 6) (h0 : ¬ A (52 + 5 * p) 2 = 0) (ho : o = 12) (hd : 2 ≤ d) : mm_Ci g zX11_send d [.ref 0, .int (nI (m)), .int (nI (p))] sh_S (cN (w * h) n l k o r A N) (-1000000003) (cN (w * h) n l k o r A N) := by
  obtain ⟨hz1, hz2, hz3, hz4, hz5, hz6⟩ := id hz
  have hc := mo_W_c hW
  obtain ⟨-, -, hw1, hw2, hh1, hh2⟩ := id hW
  refine mm_Ci_of (fun Q hq => ?_)
  refine mm_begin (ls := [(0, .ref 0), (1, .int (nI (m))), (2, .int (nI (p)))]) (Nat.le_of_ble_eq_true rfl) rfl rfl ?_
  refine mm_aload_n 0 dX11_send_0 rfl rfl ?_
  refine mm_getr (b := 1) dX11_send_1 rfl fk_X11_10 rfl so_0 sr_0_0 ?_
  refine mm_iload_n 2 dX11_send_4 rfl rfl ?_
  refine mm_cV1r (dz := d - 1) dX11_send_5 rfl mzX8_script ml_X11_245 imX8_script (by omega) so_1 ⟨rfl, rfl⟩ (cg_script hz hW (p := p) (by omega)) (Nat.le_of_ble_eq_true rfl) ⟨Nat.le_refl _, Nat.le_refl _⟩ ?_
  refine mm_astore_n (ls' := [(3, .ref (52 + 5 * p)), (0, .ref 0), (1, .int (nI (m))), (2, .int (nI (p)))]) dX11_send_8 rfl (by decide) rfl ?_
  refine mm_aload_n 1 dX11_send_9 rfl rfl ?_
  refine mm_getr (b := 1) dX11_send_10 rfl fk_X11_10 rfl so_0 sr_0_0 ?_
  refine mm_iload_n 2 dX11_send_13 rfl rfl ?_
  refine mm_at (pc' := 14) rfl ?_
  refine mm_cV1r (dz := d - 1) dX11_send_14 rfl mzX8_worker ml_X11_203 imX8_worker (by omega) so_1 ⟨rfl, rfl⟩ (cg_worker hz hW (m := m) (by omega)) (Nat.le_of_ble_eq_true rfl) ⟨Nat.le_refl _, Nat.le_refl _⟩ ?_
  refine mm_ifnull dX11_send_17 ?_
  refine mm_aload_n 0 dX11_send_20 rfl rfl ?_
  refine mm_ifnonnull (tgt := 27) dX11_send_21 (by decide) ?_
  refine mm_aload_n 0 dX11_send_27 rfl rfl ?_
  refine mm_cV0i (dz := d - 1) dX11_send_28 rfl mzX4_isEmpty ml_X11_270 imX4_isEmpty (by omega) (sp_1 (show p < 6 by omega)).1 ⟨rfl, rfl⟩ (cg_pempty hz hW (p := p) (by omega)) (Nat.le_of_ble_eq_true rfl) ⟨Nat.le_refl _, Nat.le_refl _⟩ ?_
  refine mm_if_eqB (tgt := 37) dX11_send_31 (by decide) (fun c31 => ?_) (fun c31 => ?_)
  · refine mm_aload_n 1 dX11_send_37 rfl rfl ?_
    refine mm_getr (b := 1) dX11_send_38 rfl fk_X11_10 rfl so_0 sr_0_0 ?_
    refine mm_cV0i (dz := d - 1) dX11_send_41 rfl mzX8_ordersOnWay ml_X11_273 imX8_ordersOnWay (by omega) so_1 ⟨rfl, rfl⟩ (cg_orders hz hW (by omega)) (Nat.le_of_ble_eq_true rfl) ⟨Nat.le_refl _, Nat.le_refl _⟩ ?_
    refine mm_bipush (v := 12) dX11_send_44 rfl ?_
    refine mm_icmp_ltN (o) (12) (tgt := 52) dX11_send_46 (by decide) (by omega) (by omega) (fun c46 => ?_) (fun c46 => ?_)
    · exfalso; omega
    · refine mm_ldc dX11_send_49 rfl kc_X11_170 ?_
      refine mm_iret dX11_send_51 rfl ⟨Nat.le_refl _, Nat.le_refl _⟩ ?_
      exact hq
  · exact absurd c31 h0
set_option maxRecDepth 100000 in
set_option maxHeartbeats 600000 in
theorem cb_send {g : mm_G} {d : Nat} {w h n l k o r : Nat} {A : mm_I} {N : Nat → Int32} (hz : zOK (w * h) n l k o r) (hW : mo_W N w h) {m p : Nat} (hm : m < n) (hp : p < 6) (h0 : ¬ A (52 + 5 * p) 2 = 0) (ho : o < 12) (hd : 3 ≤ d) : mm_Ci g zX11_send d [.ref 0, .int (nI (m)), .int (nI (p))] sh_S (cN (w * h) n l k o r A N) (N 7 + N 6) (mm_up (mm_up (mm_up (mm_up (mm_up (mm_up (cN (w * h) n l k o r A N) 83 (3 * o + 0) (nI m)) 82 1 (nI (3 * o + 0 + 1))) 83 (3 * o + 1) (nI p)) 82 1 (nI (3 * o + 1 + 1))) 83 (3 * o + 2) (N 7 + N 6)) 82 1 (nI (3 * o + 2 + 1))) := by
  obtain ⟨hz1, hz2, hz3, hz4, hz5, hz6⟩ := id hz
  have hc := mo_W_c hW
  obtain ⟨-, -, hw1, hw2, hh1, hh2⟩ := id hW
  refine mm_Ci_of (fun Q hq => ?_)
  refine mm_begin (ls := [(0, .ref 0), (1, .int (nI (m))), (2, .int (nI (p)))]) (Nat.le_of_ble_eq_true rfl) rfl rfl ?_
  refine mm_aload_n 0 dX11_send_0 rfl rfl ?_
  refine mm_getr (b := 1) dX11_send_1 rfl fk_X11_10 rfl so_0 sr_0_0 ?_
  refine mm_iload_n 2 dX11_send_4 rfl rfl ?_
  refine mm_cV1r (dz := d - 1) dX11_send_5 rfl mzX8_script ml_X11_245 imX8_script (by omega) so_1 ⟨rfl, rfl⟩ (cg_script hz hW (p := p) (by omega)) (Nat.le_of_ble_eq_true rfl) ⟨Nat.le_refl _, Nat.le_refl _⟩ ?_
  refine mm_astore_n (ls' := [(3, .ref (52 + 5 * p)), (0, .ref 0), (1, .int (nI (m))), (2, .int (nI (p)))]) dX11_send_8 rfl (by decide) rfl ?_
  refine mm_aload_n 1 dX11_send_9 rfl rfl ?_
  refine mm_getr (b := 1) dX11_send_10 rfl fk_X11_10 rfl so_0 sr_0_0 ?_
  refine mm_iload_n 2 dX11_send_13 rfl rfl ?_
  refine mm_at (pc' := 14) rfl ?_
  refine mm_cV1r (dz := d - 1) dX11_send_14 rfl mzX8_worker ml_X11_203 imX8_worker (by omega) so_1 ⟨rfl, rfl⟩ (cg_worker hz hW (m := m) (by omega)) (Nat.le_of_ble_eq_true rfl) ⟨Nat.le_refl _, Nat.le_refl _⟩ ?_
  refine mm_ifnull dX11_send_17 ?_
  refine mm_aload_n 0 dX11_send_20 rfl rfl ?_
  refine mm_ifnonnull (tgt := 27) dX11_send_21 (by decide) ?_
  refine mm_aload_n 0 dX11_send_27 rfl rfl ?_
  refine mm_cV0i (dz := d - 1) dX11_send_28 rfl mzX4_isEmpty ml_X11_270 imX4_isEmpty (by omega) (sp_1 (show p < 6 by omega)).1 ⟨rfl, rfl⟩ (cg_pempty hz hW (p := p) (by omega)) (Nat.le_of_ble_eq_true rfl) ⟨Nat.le_refl _, Nat.le_refl _⟩ ?_
  refine mm_if_eqB (tgt := 37) dX11_send_31 (by decide) (fun c31 => ?_) (fun c31 => ?_)
  · refine mm_aload_n 1 dX11_send_37 rfl rfl ?_
    refine mm_getr (b := 1) dX11_send_38 rfl fk_X11_10 rfl so_0 sr_0_0 ?_
    refine mm_cV0i (dz := d - 1) dX11_send_41 rfl mzX8_ordersOnWay ml_X11_273 imX8_ordersOnWay (by omega) so_1 ⟨rfl, rfl⟩ (cg_orders hz hW (by omega)) (Nat.le_of_ble_eq_true rfl) ⟨Nat.le_refl _, Nat.le_refl _⟩ ?_
    refine mm_bipush (v := 12) dX11_send_44 rfl ?_
    refine mm_icmp_ltN (o) (12) (tgt := 52) dX11_send_46 (by decide) (by omega) (by omega) (fun c46 => ?_) (fun c46 => ?_)
    · refine mm_aload_n 1 dX11_send_52 rfl rfl ?_
      refine mm_getr (b := 1) dX11_send_53 rfl fk_X11_10 rfl so_0 sr_0_0 ?_
      refine mm_iload_n 2 dX11_send_56 rfl rfl ?_
      refine mm_iload_n 3 dX11_send_57 rfl rfl ?_
      refine mm_cV2i (dz := d - 1) dX11_send_58 rfl mzX8_addOrder ml_X11_276 imX8_addOrder (by omega) so_1 ⟨rfl, rfl⟩ (cg_ao hz hW ho (by omega)) (Nat.le_of_ble_eq_true rfl) ⟨Nat.le_refl _, Nat.le_refl _⟩ ?_
      refine mm_iret dX11_send_61 rfl ⟨Nat.le_refl _, Nat.le_refl _⟩ ?_
      exact hq
    · exfalso; omega
  · exact absurd c31 h0
