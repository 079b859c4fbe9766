/-! THE CLASS: its MACHINES, what they have; small words -/
theorem s_mu {c n l k o r : Nat} (hz : zOK c n l k o r) {A : mm_I} {N : Nat → Int32} {m i : Nat} {v : Int32} (hm : m < n) (hi : i < 7) : mm_up (cN c n l k o r A N) (36 + 3 * m) i v = cN c n l k o r A (upd N (630 + 40 * m + i) v) := cN_up hz ((lo_atm (by have := hz.2.1; omega)).trans (if_pos ⟨hm, hi⟩)) (sn_up (by omega) hz.1)
set_option maxRecDepth 100000 in
set_option maxHeartbeats 600000 in
theorem cx_within {g : mm_G} {S : mm_Sh} {I : mm_I} {d : Nat} {v a b : Int32} : mm_Ci g zX11_within d [.int v, .int a, .int b] S I (if sp_wi v a b then 1 else 0) I := by
  refine mm_Ci_of (fun Q hq => ?_)
  refine mm_begin (ls := [(0, .int (v)), (1, .int (a)), (2, .int (b))]) (Nat.le_of_ble_eq_true rfl) rfl rfl ?_
  refine mm_iload_n 0 dX11_within_0 rfl rfl ?_
  refine mm_iload_n 1 dX11_within_1 rfl rfl ?_
  refine mm_icmp_lt (tgt := 14) dX11_within_2 (by decide) (fun c2 => ?_) (fun c2 => ?_)
  · refine mm_iconst (v := 0) dX11_within_14 rfl ?_
    refine mm_zret dX11_within_15 rfl (by decide) ⟨Nat.le_refl _, Nat.le_refl _⟩ ?_
    rw [if_neg (by first | exact ⟨Int32.not_lt.mp c2, Int32.not_lt.mp c7⟩ | exact fun q => absurd q.1 (Int32.not_le.mpr c2) | exact fun q => absurd q.2 (Int32.not_le.mpr c7))] at hq; exact hq
  · refine mm_iload_n 0 dX11_within_5 rfl rfl ?_
    refine mm_iload_n 2 dX11_within_6 rfl rfl ?_
    refine mm_icmp_gt (tgt := 14) dX11_within_7 (by decide) (fun c7 => ?_) (fun c7 => ?_)
    · refine mm_iconst (v := 0) dX11_within_14 rfl ?_
      refine mm_zret dX11_within_15 rfl (by decide) ⟨Nat.le_refl _, Nat.le_refl _⟩ ?_
      rw [if_neg (by first | exact ⟨Int32.not_lt.mp c2, Int32.not_lt.mp c7⟩ | exact fun q => absurd q.1 (Int32.not_le.mpr c2) | exact fun q => absurd q.2 (Int32.not_le.mpr c7))] at hq; exact hq
    · refine mm_iconst (v := 1) dX11_within_10 rfl ?_
      refine mm_goto (tgt := 15) dX11_within_11 (by decide) ?_
      refine mm_zret dX11_within_15 rfl (by decide) ⟨Nat.le_refl _, Nat.le_refl _⟩ ?_
      rw [if_pos (by first | exact ⟨Int32.not_lt.mp c2, Int32.not_lt.mp c7⟩ | exact fun q => absurd q.1 (Int32.not_le.mpr c2) | exact fun q => absurd q.2 (Int32.not_le.mpr c7))] at hq; exact hq
set_option maxRecDepth 100000 in
set_option maxHeartbeats 600000 in
theorem cx_asBit {g : mm_G} {S : mm_Sh} {I : mm_I} {d : Nat} {P : Prop} [Decidable P] : mm_Ci g zX11_asBit d [.int (if P then 1 else 0)] S I (if P then 1 else 0) I := by
  refine mm_Ci_of (fun Q hq => ?_)
  refine mm_begin (ls := [(0, .int (if P then 1 else 0))]) (Nat.le_of_ble_eq_true rfl) rfl rfl ?_
  refine mm_iload_n 0 dX11_asBit_0 rfl rfl ?_
  refine mm_if_eqB (tgt := 8) dX11_asBit_1 (by decide) (fun c1 => ?_) (fun c1 => ?_)
  · refine mm_iconst (v := 0) dX11_asBit_8 rfl ?_
    refine mm_iret dX11_asBit_9 rfl ⟨Nat.le_refl _, Nat.le_refl _⟩ ?_
    rw [if_neg c1] at hq; exact hq
  · refine mm_iconst (v := 1) dX11_asBit_4 rfl ?_
    refine mm_goto (tgt := 9) dX11_asBit_5 (by decide) ?_
    refine mm_iret dX11_asBit_9 rfl ⟨Nat.le_refl _, Nat.le_refl _⟩ ?_
    rw [if_pos c1] at hq; exact hq
set_option maxRecDepth 100000 in
set_option maxHeartbeats 600000 in
theorem cx_orNone {g : mm_G} {S : mm_Sh} {I : mm_I} {d : Nat} {x : Int32} : mm_Ci g zX11_orNone d [.int x] S I (if x < 0 then -1000000005 else x) I := by
  refine mm_Ci_of (fun Q hq => ?_)
  refine mm_begin (ls := [(0, .int (x))]) (Nat.le_of_ble_eq_true rfl) rfl rfl ?_
  refine mm_iload_n 0 dX11_orNone_0 rfl rfl ?_
  refine mm_if_ge (tgt := 9) dX11_orNone_1 (by decide) (fun c1 => ?_) (fun c1 => ?_)
  · refine mm_iload_n 0 dX11_orNone_9 rfl rfl ?_
    refine mm_iret dX11_orNone_10 rfl ⟨Nat.le_refl _, Nat.le_refl _⟩ ?_
    rw [if_neg (by first | exact c1 | exact Int32.not_lt.mpr c1 | exact Int32.not_le.mp c1)] at hq; exact hq
  · refine mm_ldc dX11_orNone_4 rfl kc_X11_229 ?_
    refine mm_goto (tgt := 10) dX11_orNone_6 (by decide) ?_
    refine mm_iret dX11_orNone_10 rfl ⟨Nat.le_refl _, Nat.le_refl _⟩ ?_
    rw [if_pos (by first | exact c1 | exact Int32.not_lt.mpr c1 | exact Int32.not_le.mp c1)] at hq; exact hq
set_option maxRecDepth 100000 in
set_option maxHeartbeats 600000 in
theorem cg_mIsA {g : mm_G} {d : Nat} {w h n l k o r : Nat} {A : mm_I} {N : Nat → Int32} (hz : zOK (w * h) n l k o r) (hW : mo_W N w h) {m : Nat} (hm : m < n) {kind : Int32} (hk : sp_wi (N (630 + 40 * m + 0)) 0 3) (hd : 1 ≤ d) : mm_Ci g zX1_isA d [.ref (36 + 3 * m), .int (kind)] sh_S (cN (w * h) n l k o r A N) (if sp_mk (N (630 + 40 * m + 0)) kind then 1 else 0) (cN (w * h) n l k o r A N) := by
  obtain ⟨hz1, hz2, hz3, hz4, hz5, hz6⟩ := id hz
  have hc := mo_W_c hW
  obtain ⟨-, -, hw1, hw2, hh1, hh2⟩ := id hW
  refine mm_Ci_of (fun Q hq => ?_)
  refine mm_begin (ls := [(0, .ref (36 + 3 * m)), (1, .int (kind))]) (Nat.le_of_ble_eq_true rfl) rfl rfl ?_
  refine mm_getsN (j := 2) dX1_isA_0 rfl (by decide) (by decide) ?_
  refine mm_aload_n 0 dX1_isA_3 rfl rfl ?_
  refine mm_geti dX1_isA_4 rfl fk_X1_26 rfl (sm_1 (show m < 5 by omega)).1 ?_
  refine mm_top (v := N (630 + 40 * m + 0)) (s_m (by omega) (by omega) (by omega)) ?_
  refine mm_iload_n 1 dX1_isA_7 rfl rfl ?_
  refine mm_cN3i (dz := d - 1) dX1_isA_8 rfl mzX11_isUnder (by decide) imX11_isUnder (by omega) (cu_mach (by assumption)) (Nat.le_of_ble_eq_true rfl) ⟨Nat.le_refl _, Nat.le_refl _⟩ ?_
  refine mm_zret dX1_isA_11 rfl mm_b01 ⟨Nat.le_refl _, Nat.le_refl _⟩ ?_
  exact hq
set_option maxRecDepth 100000 in
set_option maxHeartbeats 600000 in
theorem cg_broken {g : mm_G} {d : Nat} {w h n l k o r : Nat} {A : mm_I} {N : Nat → Int32} (hz : zOK (w * h) n l k o r) (hW : mo_W N w h) {m : Nat} (hm : m < n) : mm_Ci g zX1_isBroken d [.ref (36 + 3 * m)] sh_S (cN (w * h) n l k o r A N) (if 100 ≤ N (630 + 40 * m + 3) then 1 else 0) (cN (w * h) n l k o r A N) := by
  obtain ⟨hz1, hz2, hz3, hz4, hz5, hz6⟩ := id hz
  have hc := mo_W_c hW
  obtain ⟨-, -, hw1, hw2, hh1, hh2⟩ := id hW
  refine mm_Ci_of (fun Q hq => ?_)
  refine mm_begin (ls := [(0, .ref (36 + 3 * m))]) (Nat.le_of_ble_eq_true rfl) rfl rfl ?_
  refine mm_aload_n 0 dX1_isBroken_0 rfl rfl ?_
  refine mm_geti dX1_isBroken_1 rfl fk_X1_36 rfl (sm_1 (show m < 5 by omega)).1 ?_
  refine mm_top (v := N (630 + 40 * m + 3)) (s_m (by omega) (by omega) (by omega)) ?_
  refine mm_bipush (v := 100) dX1_isBroken_4 rfl ?_
  refine mm_icmp_lt (tgt := 13) dX1_isBroken_6 (by decide) (fun c6 => ?_) (fun c6 => ?_)
  · refine mm_iconst (v := 0) dX1_isBroken_13 rfl ?_
    refine mm_zret dX1_isBroken_14 rfl (by decide) ⟨Nat.le_refl _, Nat.le_refl _⟩ ?_
    rw [if_neg (by first | exact Int32.not_lt.mp c6 | exact Int32.not_le.mpr c6)] at hq; exact hq
  · refine mm_iconst (v := 1) dX1_isBroken_9 rfl ?_
    refine mm_goto (tgt := 14) dX1_isBroken_10 (by decide) ?_
    refine mm_zret dX1_isBroken_14 rfl (by decide) ⟨Nat.le_refl _, Nat.le_refl _⟩ ?_
    rw [if_pos (by first | exact Int32.not_lt.mp c6 | exact Int32.not_le.mpr c6)] at hq; exact hq
set_option maxRecDepth 100000 in
set_option maxHeartbeats 600000 in
theorem cg_charge {g : mm_G} {d : Nat} {w h n l k o r : Nat} {A : mm_I} {N : Nat → Int32} (hz : zOK (w * h) n l k o r) (hW : mo_W N w h) {m : Nat} (hm : m < n) {x : Int32} (hd : 1 ≤ d) : mm_Cv g zX1_addCharge d [.ref (36 + 3 * m), .int (x)] sh_S (cN (w * h) n l k o r A N) (cN (w * h) n l k o r A (upd N (630 + 40 * m + 2) (sp_min 100 (N (630 + 40 * m + 2) + x)))) := by
  obtain ⟨hz1, hz2, hz3, hz4, hz5, hz6⟩ := id hz
  have hc := mo_W_c hW
  obtain ⟨-, -, hw1, hw2, hh1, hh2⟩ := id hW
  refine mm_Cv_of (fun Q hq => ?_)
  refine mm_begin (ls := [(0, .ref (36 + 3 * m)), (1, .int (x))]) (Nat.le_of_ble_eq_true rfl) rfl rfl ?_
  refine mm_aload_n 0 dX1_addCharge_0 rfl rfl ?_
  refine mm_bipush (v := 100) dX1_addCharge_1 rfl ?_
  refine mm_aload_n 0 dX1_addCharge_3 rfl rfl ?_
  refine mm_geti dX1_addCharge_4 rfl fk_X1_33 rfl (sm_1 (show m < 5 by omega)).1 ?_
  refine mm_top (v := N (630 + 40 * m + 2)) (s_m (by omega) (by omega) (by omega)) ?_
  refine mm_iload_n 1 dX1_addCharge_7 rfl rfl ?_
  refine mm_iadd dX1_addCharge_8 ?_
  refine mm_min dX1_addCharge_9 rfl ml_X1_69 jm_min (by omega) (Nat.le_of_ble_eq_true rfl) ⟨Nat.le_refl _, Nat.le_refl _⟩ ?_
  refine mm_puti dX1_addCharge_12 rfl fk_X1_33 rfl fv_1_2 (sm_1 (show m < 5 by omega)).1 ?_
  refine mm_at (pc' := 15) rfl ?_
  refine mm_vret dX1_addCharge_15 rfl ⟨Nat.le_refl _, Nat.le_refl _⟩ ?_
  rw [← s_mu hz hm (by omega)] at hq; exact hq
set_option maxRecDepth 100000 in
set_option maxHeartbeats 600000 in
theorem cg_wear {g : mm_G} {d : Nat} {w h n l k o r : Nat} {A : mm_I} {N : Nat → Int32} (hz : zOK (w * h) n l k o r) (hW : mo_W N w h) {m : Nat} (hm : m < n) {x : Int32} (hd : 1 ≤ d) : mm_Ci g zX1_addWear d [.ref (36 + 3 * m), .int (x)] sh_S (cN (w * h) n l k o r A N) (sp_min 100 (N (630 + 40 * m + 3) + x) - N (630 + 40 * m + 3)) (cN (w * h) n l k o r A (upd N (630 + 40 * m + 3) (sp_min 100 (N (630 + 40 * m + 3) + x)))) := by
  obtain ⟨hz1, hz2, hz3, hz4, hz5, hz6⟩ := id hz
  have hc := mo_W_c hW
  obtain ⟨-, -, hw1, hw2, hh1, hh2⟩ := id hW
  refine mm_Ci_of (fun Q hq => ?_)
  refine mm_begin (ls := [(0, .ref (36 + 3 * m)), (1, .int (x))]) (Nat.le_of_ble_eq_true rfl) rfl rfl ?_
  refine mm_aload_n 0 dX1_addWear_0 rfl rfl ?_
  refine mm_geti dX1_addWear_1 rfl fk_X1_36 rfl (sm_1 (show m < 5 by omega)).1 ?_
  refine mm_top (v := N (630 + 40 * m + 3)) (s_m (by omega) (by omega) (by omega)) ?_
  refine mm_istore_n (ls' := [(2, .int (N (630 + 40 * m + 3))), (0, .ref (36 + 3 * m)), (1, .int (x))]) dX1_addWear_4 rfl (by decide) rfl ?_
  refine mm_aload_n 1 dX1_addWear_5 rfl rfl ?_
  refine mm_bipush (v := 100) dX1_addWear_6 rfl ?_
  refine mm_aload_n 1 dX1_addWear_8 rfl rfl ?_
  refine mm_geti dX1_addWear_9 rfl fk_X1_36 rfl (sm_1 (show m < 5 by omega)).1 ?_
  refine mm_top (v := N (630 + 40 * m + 3)) (s_m (by omega) (by omega) (by omega)) ?_
  refine mm_iload_n 2 dX1_addWear_12 rfl rfl ?_
  refine mm_at (pc' := 13) rfl ?_
  refine mm_iadd dX1_addWear_13 ?_
  refine mm_min dX1_addWear_14 rfl ml_X1_69 jm_min (by omega) (Nat.le_of_ble_eq_true rfl) ⟨Nat.le_refl _, Nat.le_refl _⟩ ?_
  refine mm_puti dX1_addWear_17 rfl fk_X1_36 rfl fv_1_3 (sm_1 (show m < 5 by omega)).1 ?_
  refine mm_aload_n 1 dX1_addWear_20 rfl rfl ?_
  refine mm_geti dX1_addWear_21 rfl fk_X1_36 rfl (sm_1 (show m < 5 by omega)).1 ?_
  refine mm_top (v := if (N (630 + 40 * m + 3)) + x < 100 then (N (630 + 40 * m + 3)) + x else 100) (by rw [mm_up_at]) ?_
  refine mm_iload_n 0 dX1_addWear_24 rfl rfl ?_
  refine mm_isub dX1_addWear_25 ?_
  refine mm_iret dX1_addWear_26 rfl ⟨Nat.le_refl _, Nat.le_refl _⟩ ?_
  rw [← s_mu hz hm (by omega)] at hq; exact hq
