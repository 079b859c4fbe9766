/-! THE CLASS: a MACHINE runs its PROGRAM, or has none -/
set_option maxRecDepth 100000 in
set_option maxHeartbeats 600000 in
theorem cg_rs0 {g : mm_G} {d : Nat} {w h n l k o r : Nat} {A : mm_I} {N : Nat → Int32} (hz : zOK (w * h) n l k o r) (hW : mo_W N w h) {m : Nat} (hm : m < n) (hno : 100 ≤ N (630 + 40 * m + 3) ∨ N (630 + 40 * m + 2) ≤ 0 ∨ N (630 + 40 * m + 6) < 0) (hd : 1 ≤ d) : mm_Cv g zX6_runScript d [.ref 171, .ref (36 + 3 * m)] sh_S (cN (w * h) n l k o r A N) (cN (w * h) n l k o r A N) := by
  obtain ⟨hz1, hz2, hz3, hz4, hz5, hz6⟩ := id hz
  have hc := mo_W_c hW
  obtain ⟨-, -, hw1, hw2, hh1, hh2⟩ := id hW
  refine mm_Cv_of (fun Q hq => ?_)
  refine mm_begin (ls := [(0, .ref 171), (1, .ref (36 + 3 * m))]) (Nat.le_of_ble_eq_true rfl) rfl rfl ?_
  refine mm_aload_n 1 dX6_runScript_0 rfl rfl ?_
  refine mm_ifnull dX6_runScript_1 ?_
  refine mm_aload_n 1 dX6_runScript_4 rfl rfl ?_
  refine mm_cV0i (dz := d - 1) dX6_runScript_5 rfl mzX1_isBroken ml_X6_118 imX1_isBroken (by omega) (sm_1 (show m < 5 by omega)).1 ⟨rfl, rfl⟩ (cg_broken hz hW (m := m) (by omega)) (Nat.le_of_ble_eq_true rfl) ⟨Nat.le_refl _, Nat.le_refl _⟩ ?_
  refine mm_if_neB (tgt := 18) dX6_runScript_8 (by decide) (fun c8 => ?_) (fun c8 => ?_)
  · refine mm_vret dX6_runScript_18 rfl ⟨Nat.le_refl _, Nat.le_refl _⟩ ?_
    exact hq
  · refine mm_aload_n 1 dX6_runScript_11 rfl rfl ?_
    refine mm_geti dX6_runScript_12 rfl fk_X6_143 rfl (sm_1 (show m < 5 by omega)).1 ?_
    refine mm_top (v := N (630 + 40 * m + 2)) (cN_r ((lo_atm (by omega)).trans (if_pos ⟨by omega, by omega⟩))) ?_
    refine mm_if_gt (tgt := 19) dX6_runScript_15 (by decide) (fun c15 => ?_) (fun c15 => ?_)
    · refine mm_aload_n 0 dX6_runScript_19 rfl rfl ?_
      refine mm_getr (b := 1) dX6_runScript_20 rfl fk_X6_9 rfl so_171 sr_171_0 ?_
      refine mm_aload_n 1 dX6_runScript_23 rfl rfl ?_
      refine mm_geti dX6_runScript_24 rfl fk_X6_146 rfl (sm_1 (show m < 5 by omega)).1 ?_
      refine mm_top (v := N (630 + 40 * m + 6)) (cN_r ((lo_atm (by omega)).trans (if_pos ⟨by omega, by omega⟩))) ?_
      refine mm_cV1r (dz := d - 1) dX6_runScript_27 rfl mzX8_script ml_X6_91 imX8_script (by omega) so_1 ⟨rfl, rfl⟩ (cg_scriptN hz hW (by rcases hno with q | q | q; exact absurd q c8; exact absurd q (Int32.not_le.mpr c15); exact fun z => absurd z.1 (Int32.not_le.mpr q))) (Nat.le_of_ble_eq_true rfl) ⟨Nat.le_refl _, Nat.le_refl _⟩ ?_
      refine mm_astoreN_n (ls' := [(2, .null), (0, .ref 171), (1, .ref (36 + 3 * m))]) dX6_runScript_30 rfl (by decide) rfl ?_
      refine mm_aloadN_n 0 dX6_runScript_31 rfl rfl ?_
      refine mm_ifnonnullN dX6_runScript_32 ?_
      refine mm_at (pc' := 35) rfl ?_
      refine mm_vret dX6_runScript_35 rfl ⟨Nat.le_refl _, Nat.le_refl _⟩ ?_
      exact hq
    · refine mm_vret dX6_runScript_18 rfl ⟨Nat.le_refl _, Nat.le_refl _⟩ ?_
      exact hq
set_option maxRecDepth 100000 in
set_option maxHeartbeats 600000 in
theorem cg_rs1 {g : mm_G} {d : Nat} {w h n l k o r : Nat} {A J : mm_I} {N : Nat → Int32} {m p a nS c qq z wh b v la lb x : Nat} {E lv : Nat → Nat} {Aa : Nat → Int32} {CS : List Nat} (hz : zOK (w * h) n l k o r) (hcx : cxN N w h n m c qq z wh b v la lb) (hm : m < n) (hpg : pgX N m p a nS E lv Aa CS) (hJ : J 201 = N) (hb : ¬ 100 ≤ N (630 + 40 * m + 3)) (hA : axA A p a Aa CS) (hpl : A (36 + 3 * m) 7 = nI x) (hx : x ≤ 40) (hR : plR N (A (37 + 3 * m + 1)) m p E lv a Aa nS x) (hd : 7 ≤ d) : mm_Dv g zX6_runScript d [.ref 171, .ref (36 + 3 * m)] sh_S (cN (w * h) n l k o r A N) (fun M => ∃ A', rnP A A' (op_go w h n m c wh p 50 J 201) m p a nS E lv Aa ∧ M = cN (w * h) n l k o r A' (op_go w h n m c wh p 50 J 201)) := by
  obtain ⟨hz1, hz2, hz3, hz4, hz5, hz6⟩ := id hz
  have hc := mo_W_c hcx.1
  obtain ⟨-, -, hw1, hw2, hh1, hh2⟩ := id hcx.1
  have hW := hcx.1
  have hp := hpg.1
  have h6 := hpg.2.2.2.2.1
  have h2 : 0 < N (630 + 40 * m + 2) := by obtain ⟨h2, h3, h4⟩ := hcx.2.2.1; rw [h2]; exact (nI_ltI (a := 0) (by decide) (by omega)).mpr h3
  refine mm_Dv_of (fun Q hq => ?_)
  refine mm_begin (ls := [(0, .ref 171), (1, .ref (36 + 3 * m))]) (Nat.le_of_ble_eq_true rfl) rfl rfl ?_
  refine mm_aload_n 1 dX6_runScript_0 rfl rfl ?_
  refine mm_ifnull dX6_runScript_1 ?_
  refine mm_aload_n 1 dX6_runScript_4 rfl rfl ?_
  refine mm_cV0i (dz := d - 1) dX6_runScript_5 rfl mzX1_isBroken ml_X6_118 imX1_isBroken (by omega) (sm_1 (show m < 5 by omega)).1 ⟨rfl, rfl⟩ (cg_broken hz hW (m := m) (by omega)) (Nat.le_of_ble_eq_true rfl) ⟨Nat.le_refl _, Nat.le_refl _⟩ ?_
  refine mm_if_neB (tgt := 18) dX6_runScript_8 (by decide) (fun c8 => ?_) (fun c8 => ?_)
  · first | exact absurd c8 hb | exact absurd h2 c15
  · refine mm_aload_n 1 dX6_runScript_11 rfl rfl ?_
    refine mm_geti dX6_runScript_12 rfl fk_X6_143 rfl (sm_1 (show m < 5 by omega)).1 ?_
    refine mm_top (v := N (630 + 40 * m + 2)) (cN_r ((lo_atm (by omega)).trans (if_pos ⟨by omega, by omega⟩))) ?_
    refine mm_if_gt (tgt := 19) dX6_runScript_15 (by decide) (fun c15 => ?_) (fun c15 => ?_)
    · refine mm_aload_n 0 dX6_runScript_19 rfl rfl ?_
      refine mm_getr (b := 1) dX6_runScript_20 rfl fk_X6_9 rfl so_171 sr_171_0 ?_
      refine mm_aload_n 1 dX6_runScript_23 rfl rfl ?_
      refine mm_geti dX6_runScript_24 rfl fk_X6_146 rfl (sm_1 (show m < 5 by omega)).1 ?_
      refine mm_top (v := nI (p)) ((cN_r ((lo_atm (by omega)).trans (if_pos ⟨by omega, by omega⟩))).trans h6) ?_
      refine mm_cV1r (dz := d - 1) dX6_runScript_27 rfl mzX8_script ml_X6_91 imX8_script (by omega) so_1 ⟨rfl, rfl⟩ (cg_script hz hW (p := p) (by omega)) (Nat.le_of_ble_eq_true rfl) ⟨Nat.le_refl _, Nat.le_refl _⟩ ?_
      refine mm_astore_n (ls' := [(2, .ref (52 + 5 * p)), (0, .ref 171), (1, .ref (36 + 3 * m))]) dX6_runScript_30 rfl (by decide) rfl ?_
      refine mm_aload_n 0 dX6_runScript_31 rfl rfl ?_
      refine mm_ifnonnull (tgt := 36) dX6_runScript_32 (by decide) ?_
      refine mm_iconst (v := 0) dX6_runScript_36 rfl ?_
      refine mm_istore_n (ls' := [(3, .int (0)), (2, .ref (52 + 5 * p)), (0, .ref 171), (1, .ref (36 + 3 * m))]) dX6_runScript_37 rfl (by decide) rfl ?_
      refine mm_iconst (v := 0) dX6_runScript_38 rfl ?_
      refine mm_istore (ls' := [(4, .int (0)), (3, .int (0)), (2, .ref (52 + 5 * p)), (0, .ref 171), (1, .ref (36 + 3 * m))]) dX6_runScript_39 (by decide) rfl ?_
      exact mm_sub [0, 1, 3, 4, 2] rfl (rn_all (A0 := A) hz hcx hm hpg hd 50 0 0 x A J rfl (Nat.zero_le _) hA (fun y _ => by rw [hJ]) hpl hx (by rw [hJ]; exact hR) (fun _ _ => rfl) (fun A' hP => hq _ ⟨A', hP, rfl⟩))
    · first | exact absurd c8 hb | exact absurd h2 c15
