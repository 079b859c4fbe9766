/-! THE CLASS: steps, the next step -/
set_option maxRecDepth 100000 in
set_option maxHeartbeats 600000 in
theorem cb_stepsB {g : mm_G} {d : Nat} {w h n l k o r : Nat} {A : mm_I} {N : Nat → Int32} (hz : zOK (w * h) n l k o r) (hW : mo_W N w h) {c t : Int32} (hx : ¬ sp_isC w h c ∨ ¬ sp_isC w h t) (hd : 2 ≤ d) : mm_Ci g zX11_steps d [.ref 0, .int (c), .int (t)] sh_S (cN (w * h) n l k o r A N) (-1000000001) (cN (w * h) n l k o r A N) := by
  obtain ⟨hz1, hz2, hz3, hz4, hz5, hz6⟩ := id hz
  have hc := mo_W_c hW
  obtain ⟨-, -, hw1, hw2, hh1, hh2⟩ := id hW
  refine mm_Ci_of (fun Q hq => ?_)
  refine mm_begin (ls := [(0, .ref 0), (1, .int (c)), (2, .int (t))]) (Nat.le_of_ble_eq_true rfl) rfl rfl ?_
  refine mm_aload_n 0 dX11_steps_0 rfl rfl ?_
  refine mm_getr (b := 1) dX11_steps_1 rfl fk_X11_10 rfl so_0 sr_0_0 ?_
  refine mm_getr (b := 2) dX11_steps_4 rfl fk_X11_72 rfl so_1 sr_1_0 ?_
  refine mm_iload_n 1 dX11_steps_7 rfl rfl ?_
  refine mm_cV1i (dz := d - 1) dX11_steps_8 rfl mzX0_holds ml_X11_82 imX0_holds (by omega) so_2 ⟨rfl, rfl⟩ (cg_holds hz hW (by omega)) (Nat.le_of_ble_eq_true rfl) ⟨Nat.le_refl _, Nat.le_refl _⟩ ?_
  refine mm_if_eqB (tgt := 28) dX11_steps_11 (by decide) (fun c11 => ?_) (fun c11 => ?_)
  · refine mm_ldc dX11_steps_28 rfl kc_X11_67 ?_
    refine mm_iret dX11_steps_30 rfl ⟨Nat.le_refl _, Nat.le_refl _⟩ ?_
    exact hq
  · refine mm_aload_n 0 dX11_steps_14 rfl rfl ?_
    refine mm_getr (b := 1) dX11_steps_15 rfl fk_X11_10 rfl so_0 sr_0_0 ?_
    refine mm_getr (b := 2) dX11_steps_18 rfl fk_X11_72 rfl so_1 sr_1_0 ?_
    refine mm_iload_n 2 dX11_steps_21 rfl rfl ?_
    refine mm_cV1i (dz := d - 1) dX11_steps_22 rfl mzX0_holds ml_X11_82 imX0_holds (by omega) so_2 ⟨rfl, rfl⟩ (cg_holds hz hW (by omega)) (Nat.le_of_ble_eq_true rfl) ⟨Nat.le_refl _, Nat.le_refl _⟩ ?_
    refine mm_if_neB (tgt := 31) dX11_steps_25 (by decide) (fun c25 => ?_) (fun c25 => ?_)
    · exact absurd hx (by intro q; rcases q with q | q; exact q c11; exact q c25)
    · refine mm_ldc dX11_steps_28 rfl kc_X11_67 ?_
      refine mm_iret dX11_steps_30 rfl ⟨Nat.le_refl _, Nat.le_refl _⟩ ?_
      exact hq
set_option maxRecDepth 100000 in
set_option maxHeartbeats 600000 in
theorem cb_steps1 {g : mm_G} {d : Nat} {w h n l k o r : Nat} {A : mm_I} {N : Nat → Int32} (hz : zOK (w * h) n l k o r) (hW : mo_W N w h) {c t : Nat} (h1 : c < w * h) (h2 : t < w * h) (hd : 3 ≤ d) : mm_Ci g zX11_steps d [.ref 0, .int (nI (c)), .int (nI (t))] sh_S (cN (w * h) n l k o r A N) (if (bc_r A N w h t).1 c < 0 then -1000000005 else (bc_r A N w h t).1 c) (cN (w * h) n l k o r (bcM A N w h t) N) := by
  obtain ⟨hz1, hz2, hz3, hz4, hz5, hz6⟩ := id hz
  have hc := mo_W_c hW
  obtain ⟨-, -, hw1, hw2, hh1, hh2⟩ := id hW
  have h3 := isC_of hc.2 h1
  have h4 := isC_of hc.2 h2
  refine mm_Ci_of (fun Q hq => ?_)
  refine mm_begin (ls := [(0, .ref 0), (1, .int (nI (c))), (2, .int (nI (t)))]) (Nat.le_of_ble_eq_true rfl) rfl rfl ?_
  refine mm_aload_n 0 dX11_steps_0 rfl rfl ?_
  refine mm_getr (b := 1) dX11_steps_1 rfl fk_X11_10 rfl so_0 sr_0_0 ?_
  refine mm_getr (b := 2) dX11_steps_4 rfl fk_X11_72 rfl so_1 sr_1_0 ?_
  refine mm_iload_n 1 dX11_steps_7 rfl rfl ?_
  refine mm_cV1i (dz := d - 1) dX11_steps_8 rfl mzX0_holds ml_X11_82 imX0_holds (by omega) so_2 ⟨rfl, rfl⟩ (cg_holds hz hW (by omega)) (Nat.le_of_ble_eq_true rfl) ⟨Nat.le_refl _, Nat.le_refl _⟩ ?_
  refine mm_if_eqB (tgt := 28) dX11_steps_11 (by decide) (fun c11 => ?_) (fun c11 => ?_)
  · first | exact absurd h3 c11 | exact absurd h4 c25
  · refine mm_aload_n 0 dX11_steps_14 rfl rfl ?_
    refine mm_getr (b := 1) dX11_steps_15 rfl fk_X11_10 rfl so_0 sr_0_0 ?_
    refine mm_getr (b := 2) dX11_steps_18 rfl fk_X11_72 rfl so_1 sr_1_0 ?_
    refine mm_iload_n 2 dX11_steps_21 rfl rfl ?_
    refine mm_cV1i (dz := d - 1) dX11_steps_22 rfl mzX0_holds ml_X11_82 imX0_holds (by omega) so_2 ⟨rfl, rfl⟩ (cg_holds hz hW (by omega)) (Nat.le_of_ble_eq_true rfl) ⟨Nat.le_refl _, Nat.le_refl _⟩ ?_
    refine mm_if_neB (tgt := 31) dX11_steps_25 (by decide) (fun c25 => ?_) (fun c25 => ?_)
    · refine mm_aload_n 0 dX11_steps_31 rfl rfl ?_
      refine mm_getr (b := 1) dX11_steps_32 rfl fk_X11_10 rfl so_0 sr_0_0 ?_
      refine mm_getr (b := 2) dX11_steps_35 rfl fk_X11_72 rfl so_1 sr_1_0 ?_
      refine mm_iload_n 2 dX11_steps_38 rfl rfl ?_
      refine mm_cV1v (dz := d - 1) dX11_steps_39 rfl mzX0_measure ml_X11_142 imX0_measure (by omega) so_2 ⟨rfl, rfl⟩ (cg_meas hz hW (t := t) (by omega) (by omega)) (Nat.le_of_ble_eq_true rfl) ⟨Nat.le_refl _, Nat.le_refl _⟩ ?_
      refine mm_aload_n 0 dX11_steps_42 rfl rfl ?_
      refine mm_getr (b := 1) dX11_steps_43 rfl fk_X11_10 rfl so_0 sr_0_0 ?_
      refine mm_getr (b := 2) dX11_steps_46 rfl fk_X11_72 rfl so_1 sr_1_0 ?_
      refine mm_at (pc' := 49) rfl ?_
      refine mm_getr (b := 13) dX11_steps_49 rfl fk_X11_145 rfl so_2 sr_2_9 ?_
      refine mm_iload_n 1 dX11_steps_52 rfl rfl ?_
      refine mm_cV1i (dz := d - 1) dX11_steps_53 rfl mzX5_at ml_X11_102 imX5_at (by omega) so_13 ⟨rfl, rfl⟩ (ct_at rw_13 (c) (by omega)) (Nat.le_of_ble_eq_true rfl) ⟨Nat.le_refl _, Nat.le_refl _⟩ ?_
      refine mm_top (v := (bc_r A N w h t).1 c) (cN_off hz2 (by decide)) ?_
      refine mm_cS1i (dz := d - 1) dX11_steps_56 rfl mzX11_orNone ml_X11_111 imX11_orNone (by omega) cx_orNone (Nat.le_of_ble_eq_true rfl) ⟨Nat.le_refl _, Nat.le_refl _⟩ ?_
      refine mm_iret dX11_steps_59 rfl ⟨Nat.le_refl _, Nat.le_refl _⟩ ?_
      exact hq
    · first | exact absurd h3 c11 | exact absurd h4 c25
theorem cb_steps {g : mm_G} {d : Nat} {w h n l k o r : Nat} {A : mm_I} {N : Nat → Int32} (hz : zOK (w * h) n l k o r) (hW : mo_W N w h) {J : mm_I} (hJ : J 201 = N) {c t : Nat} (h1 : c < w * h) (h2 : t < w * h) (hd : 3 ≤ d) : mm_Ci g zX11_steps d [.ref 0, .int (nI c), .int (nI t)] sh_S (cN (w * h) n l k o r A N) (op_steps w h J (nI c) (nI t)).1 (cN (w * h) n l k o r (bcM A N w h t) N) := by
  have hc := mo_W_c hW
  have e := cb_steps1 (g := g) (d := d) (A := A) hz hW h1 h2 hd
  have hr := (bc_r_R (A := A) (show 0 < w by have := hW.2.2.1; omega) hc.2 h2 hJ).2.2 c h1
  rw [hr] at e
  unfold op_steps
  rw [if_neg (by intro q; rcases q with q | q; exact q (isC_of hc.2 h1); exact q (isC_of hc.2 h2)), vv_nI (by omega), vv_nI (by omega)]
  by_cases c1 : (bf_r J w h t).1 c < 0
  · rw [if_pos c1] at e ⊢; exact e
  · rw [if_neg c1] at e ⊢; exact e
set_option maxRecDepth 100000 in
set_option maxHeartbeats 600000 in
theorem dk_stp {g : mm_G} {d : Nat} {w h n l k o r : Nat} {A : mm_I} {N : Nat → Int32} (hz : zOK (w * h) n l k o r) (hW : mo_W N w h) {Q : Option Value → mm_Sh → mm_I → Prop} {c t : Nat} (hcc : c < w * h) (ht : t < w * h) (hd : 2 ≤ d) (hq : Q (some (.int (gs_b (bc_r A N w h t).1 w h c 4))) sh_S (cN (w * h) n l k o r (bcM A N w h t) N)) : ∀ (m : Nat) (y : Nat), (y ≤ 4) → 4 - y < m → mm_Ex g zX0_stepTowards d (0, 0) (0, 0) sh_S (cN (w * h) n l k o r (bcM A N w h t) N) 10 [(4, .int (nI y)), (3, .int (gs_b (bc_r A N w h t).1 w h c y)), (0, .ref 2), (1, .int (nI c)), (2, .int (nI t))] [] Q := by
  obtain ⟨hz1, hz2, hz3, hz4, hz5, hz6⟩ := id hz
  have hc := mo_W_c hW
  obtain ⟨-, -, hw1, hw2, hh1, hh2⟩ := id hW
  intro m
  induction m with
  | zero => intro y hy hmz; exact absurd hmz (Nat.not_lt_zero _)
  | succ m ih =>
    intro y hy hmz
    by_cases hy4 : y = 4
    · subst hy4
      refine mm_iload 0 dX0_stepTowards_10 rfl ?_
      refine mm_iconst (v := 4) dX0_stepTowards_12 rfl ?_
      refine mm_icmp_geN 4 4 (tgt := 75) dX0_stepTowards_13 (by decide) (by decide) (by decide) (fun _ => ?_) (fun q => absurd q (by decide))
      refine mm_iload_n 1 dX0_stepTowards_75 rfl rfl ?_
      refine mm_iret dX0_stepTowards_76 rfl ⟨Nat.le_refl _, Nat.le_refl _⟩ ?_
      exact hq
    have step : gs_b (bc_r A N w h t).1 w h c (y + 1) = if 0 ≤ sp_be w h c y ∧ 0 ≤ (bc_r A N w h t).1 (vv (sp_be w h c y)) ∧ (gs_b (bc_r A N w h t).1 w h c y < 0 ∨ (bc_r A N w h t).1 (vv (sp_be w h c y)) < (bc_r A N w h t).1 (vv (gs_b (bc_r A N w h t).1 w h c y))) then sp_be w h c y else gs_b (bc_r A N w h t).1 w h c y := rfl
    have hh := ih (y + 1) (by omega) (by omega)
    rcases gs_in (f := (bc_r A N w h t).1) (show 0 < w by omega) hcc y with eb | ⟨b, hb, eb⟩
    · rw [eb] at step ⊢
      rcases sp_be_in (way := y) (show 0 < w by omega) hcc with ec | ⟨x, hxn, ec⟩
      · refine mm_iload 0 dX0_stepTowards_10 rfl ?_
        refine mm_iconst (v := 4) dX0_stepTowards_12 rfl ?_
        refine mm_icmp_geN (y) (4) (tgt := 75) dX0_stepTowards_13 (by decide) (by omega) (by omega) (fun c13 => ?_) (fun c13 => ?_)
        · exact absurd c13 (by omega)
        · refine mm_aload_n 2 dX0_stepTowards_16 rfl rfl ?_
          refine mm_iload_n 3 dX0_stepTowards_17 rfl rfl ?_
          refine mm_iload 0 dX0_stepTowards_18 rfl ?_
          refine mm_cV2i (dz := d - 1) dX0_stepTowards_20 rfl mzX0_beside ml_X0_105 imX0_beside (by omega) so_2 ⟨rfl, rfl⟩ (show mm_Ci g zX0_beside (d - 1) [.ref 2, .int (nI c), .int (nI y)] sh_S (cN (w * h) n l k o r (bcM A N w h t) N) (-1) (cN (w * h) n l k o r (bcM A N w h t) N) from ec ▸ cg_beside hz hW (c := c) (y := y) (by omega) (by omega) (by omega)) (Nat.le_of_ble_eq_true rfl) ⟨Nat.le_refl _, Nat.le_refl _⟩ ?_
          refine mm_istore (ls' := [(5, .int (-1)), (4, .int (nI (y))), (3, .int (-1)), (0, .ref 2), (1, .int (nI (c))), (2, .int (nI (t)))]) dX0_stepTowards_23 (by decide) rfl ?_
          refine mm_iload 0 dX0_stepTowards_25 rfl ?_
          refine mm_if_lt (tgt := 69) dX0_stepTowards_27 (by decide) (fun _ => ?_) (fun q => absurd (by decide) q)
          refine mm_iincN (ls' := [(4, .int (nI (y + 1))), (5, .int (-1)), (3, .int (-1)), (0, .ref 2), (1, .int (nI (c))), (2, .int (nI (t)))]) 1 (y) 1 dX0_stepTowards_69 rfl rfl (by decide) rfl ?_
          refine mm_goto (tgt := 10) dX0_stepTowards_72 (by decide) ?_
          rw [step, if_neg (by rw [ec]; exact fun q => absurd q.1 (by decide))] at hh
          exact mm_sub [0, 2, 3, 4, 5] rfl hh
      · refine mm_iload 0 dX0_stepTowards_10 rfl ?_
        refine mm_iconst (v := 4) dX0_stepTowards_12 rfl ?_
        refine mm_icmp_geN (y) (4) (tgt := 75) dX0_stepTowards_13 (by decide) (by omega) (by omega) (fun c13 => ?_) (fun c13 => ?_)
        · exact absurd c13 (by omega)
        · refine mm_aload_n 2 dX0_stepTowards_16 rfl rfl ?_
          refine mm_iload_n 3 dX0_stepTowards_17 rfl rfl ?_
          refine mm_iload 0 dX0_stepTowards_18 rfl ?_
          refine mm_cV2i (dz := d - 1) dX0_stepTowards_20 rfl mzX0_beside ml_X0_105 imX0_beside (by omega) so_2 ⟨rfl, rfl⟩ (show mm_Ci g zX0_beside (d - 1) [.ref 2, .int (nI c), .int (nI y)] sh_S (cN (w * h) n l k o r (bcM A N w h t) N) (nI (x)) (cN (w * h) n l k o r (bcM A N w h t) N) from ec ▸ cg_beside hz hW (c := c) (y := y) (by omega) (by omega) (by omega)) (Nat.le_of_ble_eq_true rfl) ⟨Nat.le_refl _, Nat.le_refl _⟩ ?_
          refine mm_istore (ls' := [(5, .int (nI (x))), (4, .int (nI (y))), (3, .int (-1)), (0, .ref 2), (1, .int (nI (c))), (2, .int (nI (t)))]) dX0_stepTowards_23 (by decide) rfl ?_
          refine mm_iload 0 dX0_stepTowards_25 rfl ?_
          refine mm_if_ltN (x) (tgt := 69) dX0_stepTowards_27 (by decide) (by omega) ?_
          refine mm_at (pc' := 30) rfl ?_
          refine mm_aload_n 3 dX0_stepTowards_30 rfl rfl ?_
          refine mm_getr (b := 13) dX0_stepTowards_31 rfl fk_X0_32 rfl so_2 sr_2_9 ?_
          refine mm_iload 0 dX0_stepTowards_34 rfl ?_
          refine mm_cV1i (dz := d - 1) dX0_stepTowards_36 rfl mzX5_at ml_X0_73 imX5_at (by omega) so_13 ⟨rfl, rfl⟩ (ct_at rw_13 (x) (by omega)) (Nat.le_of_ble_eq_true rfl) ⟨Nat.le_refl _, Nat.le_refl _⟩ ?_
          refine mm_top (v := (bc_r A N w h t).1 x) (cN_off hz2 (by decide)) ?_
          refine mm_if_lt (tgt := 69) dX0_stepTowards_39 (by decide) (fun c39 => ?_) (fun c39 => ?_)
          · refine mm_iincN (ls' := [(4, .int (nI (y + 1))), (5, .int (nI (x))), (3, .int (-1)), (0, .ref 2), (1, .int (nI (c))), (2, .int (nI (t)))]) 1 (y) 1 dX0_stepTowards_69 rfl rfl (by decide) rfl ?_
            refine mm_goto (tgt := 10) dX0_stepTowards_72 (by decide) ?_
            rw [step, if_neg (by rw [ec, vv_nI (by omega)]; rintro ⟨q1, q2, q3⟩; first | exact absurd q2 (Int32.not_le.mpr c39) | (rcases q3 with q3 | q3; exact absurd q3 (nI_pos (by omega)); rw [vv_nI (by omega)] at q3; first | exact absurd q3 (Int32.not_lt.mpr c63) | exact absurd q3 c63))] at hh
            exact mm_sub [0, 2, 3, 4, 5] rfl hh
          · refine mm_iload_n 2 dX0_stepTowards_42 rfl rfl ?_
            refine mm_if_lt (tgt := 66) dX0_stepTowards_43 (by decide) (fun _ => ?_) (fun q => absurd (by decide) q)
            refine mm_iload 0 dX0_stepTowards_66 rfl ?_
            refine mm_istore_n (ls' := [(3, .int (nI (x))), (5, .int (nI (x))), (4, .int (nI (y))), (0, .ref 2), (1, .int (nI (c))), (2, .int (nI (t)))]) dX0_stepTowards_68 rfl (by decide) rfl ?_
            refine mm_iincN (ls' := [(4, .int (nI (y + 1))), (3, .int (nI (x))), (5, .int (nI (x))), (0, .ref 2), (1, .int (nI (c))), (2, .int (nI (t)))]) 2 (y) 1 dX0_stepTowards_69 rfl rfl (by decide) rfl ?_
            refine mm_goto (tgt := 10) dX0_stepTowards_72 (by decide) ?_
            rw [step, if_pos ⟨by rw [ec]; exact Int32.not_lt.mp (nI_pos (by omega)), by rw [ec, vv_nI (by omega)]; first | exact c39 | exact Int32.not_lt.mp c39, by first | exact Or.inl (by decide) | exact Or.inr (by rw [ec, vv_nI (by omega), vv_nI (by omega)]; first | exact c63 | exact Int32.not_le.mp c63)⟩, ec] at hh
            exact mm_sub [0, 1, 3, 4, 5] rfl hh
    · rw [eb] at step ⊢
      rcases sp_be_in (way := y) (show 0 < w by omega) hcc with ec | ⟨x, hxn, ec⟩
      · refine mm_iload 0 dX0_stepTowards_10 rfl ?_
        refine mm_iconst (v := 4) dX0_stepTowards_12 rfl ?_
        refine mm_icmp_geN (y) (4) (tgt := 75) dX0_stepTowards_13 (by decide) (by omega) (by omega) (fun c13 => ?_) (fun c13 => ?_)
        · exact absurd c13 (by omega)
        · refine mm_aload_n 2 dX0_stepTowards_16 rfl rfl ?_
          refine mm_iload_n 3 dX0_stepTowards_17 rfl rfl ?_
          refine mm_iload 0 dX0_stepTowards_18 rfl ?_
          refine mm_cV2i (dz := d - 1) dX0_stepTowards_20 rfl mzX0_beside ml_X0_105 imX0_beside (by omega) so_2 ⟨rfl, rfl⟩ (show mm_Ci g zX0_beside (d - 1) [.ref 2, .int (nI c), .int (nI y)] sh_S (cN (w * h) n l k o r (bcM A N w h t) N) (-1) (cN (w * h) n l k o r (bcM A N w h t) N) from ec ▸ cg_beside hz hW (c := c) (y := y) (by omega) (by omega) (by omega)) (Nat.le_of_ble_eq_true rfl) ⟨Nat.le_refl _, Nat.le_refl _⟩ ?_
          refine mm_istore (ls' := [(5, .int (-1)), (4, .int (nI (y))), (3, .int (nI (b))), (0, .ref 2), (1, .int (nI (c))), (2, .int (nI (t)))]) dX0_stepTowards_23 (by decide) rfl ?_
          refine mm_iload 0 dX0_stepTowards_25 rfl ?_
          refine mm_if_lt (tgt := 69) dX0_stepTowards_27 (by decide) (fun _ => ?_) (fun q => absurd (by decide) q)
          refine mm_iincN (ls' := [(4, .int (nI (y + 1))), (5, .int (-1)), (3, .int (nI (b))), (0, .ref 2), (1, .int (nI (c))), (2, .int (nI (t)))]) 1 (y) 1 dX0_stepTowards_69 rfl rfl (by decide) rfl ?_
          refine mm_goto (tgt := 10) dX0_stepTowards_72 (by decide) ?_
          rw [step, if_neg (by rw [ec]; exact fun q => absurd q.1 (by decide))] at hh
          exact mm_sub [0, 2, 3, 4, 5] rfl hh
      · refine mm_iload 0 dX0_stepTowards_10 rfl ?_
        refine mm_iconst (v := 4) dX0_stepTowards_12 rfl ?_
        refine mm_icmp_geN (y) (4) (tgt := 75) dX0_stepTowards_13 (by decide) (by omega) (by omega) (fun c13 => ?_) (fun c13 => ?_)
        · exact absurd c13 (by omega)
        · refine mm_aload_n 2 dX0_stepTowards_16 rfl rfl ?_
          refine mm_iload_n 3 dX0_stepTowards_17 rfl rfl ?_
          refine mm_iload 0 dX0_stepTowards_18 rfl ?_
          refine mm_cV2i (dz := d - 1) dX0_stepTowards_20 rfl mzX0_beside ml_X0_105 imX0_beside (by omega) so_2 ⟨rfl, rfl⟩ (show mm_Ci g zX0_beside (d - 1) [.ref 2, .int (nI c), .int (nI y)] sh_S (cN (w * h) n l k o r (bcM A N w h t) N) (nI (x)) (cN (w * h) n l k o r (bcM A N w h t) N) from ec ▸ cg_beside hz hW (c := c) (y := y) (by omega) (by omega) (by omega)) (Nat.le_of_ble_eq_true rfl) ⟨Nat.le_refl _, Nat.le_refl _⟩ ?_
          refine mm_istore (ls' := [(5, .int (nI (x))), (4, .int (nI (y))), (3, .int (nI (b))), (0, .ref 2), (1, .int (nI (c))), (2, .int (nI (t)))]) dX0_stepTowards_23 (by decide) rfl ?_
          refine mm_iload 0 dX0_stepTowards_25 rfl ?_
          refine mm_if_ltN (x) (tgt := 69) dX0_stepTowards_27 (by decide) (by omega) ?_
          refine mm_at (pc' := 30) rfl ?_
          refine mm_aload_n 3 dX0_stepTowards_30 rfl rfl ?_
          refine mm_getr (b := 13) dX0_stepTowards_31 rfl fk_X0_32 rfl so_2 sr_2_9 ?_
          refine mm_iload 0 dX0_stepTowards_34 rfl ?_
          refine mm_cV1i (dz := d - 1) dX0_stepTowards_36 rfl mzX5_at ml_X0_73 imX5_at (by omega) so_13 ⟨rfl, rfl⟩ (ct_at rw_13 (x) (by omega)) (Nat.le_of_ble_eq_true rfl) ⟨Nat.le_refl _, Nat.le_refl _⟩ ?_
          refine mm_top (v := (bc_r A N w h t).1 x) (cN_off hz2 (by decide)) ?_
          refine mm_if_lt (tgt := 69) dX0_stepTowards_39 (by decide) (fun c39 => ?_) (fun c39 => ?_)
          · refine mm_iincN (ls' := [(4, .int (nI (y + 1))), (5, .int (nI (x))), (3, .int (nI (b))), (0, .ref 2), (1, .int (nI (c))), (2, .int (nI (t)))]) 1 (y) 1 dX0_stepTowards_69 rfl rfl (by decide) rfl ?_
            refine mm_goto (tgt := 10) dX0_stepTowards_72 (by decide) ?_
            rw [step, if_neg (by rw [ec, vv_nI (by omega)]; rintro ⟨q1, q2, q3⟩; first | exact absurd q2 (Int32.not_le.mpr c39) | (rcases q3 with q3 | q3; exact absurd q3 (nI_pos (by omega)); rw [vv_nI (by omega)] at q3; first | exact absurd q3 (Int32.not_lt.mpr c63) | exact absurd q3 c63))] at hh
            exact mm_sub [0, 2, 3, 4, 5] rfl hh
          · refine mm_iload_n 2 dX0_stepTowards_42 rfl rfl ?_
            refine mm_if_ltN (b) (tgt := 66) dX0_stepTowards_43 (by decide) (by omega) ?_
            refine mm_aload_n 3 dX0_stepTowards_46 rfl rfl ?_
            refine mm_getr (b := 13) dX0_stepTowards_47 rfl fk_X0_32 rfl so_2 sr_2_9 ?_
            refine mm_iload 0 dX0_stepTowards_50 rfl ?_
            refine mm_cV1i (dz := d - 1) dX0_stepTowards_52 rfl mzX5_at ml_X0_73 imX5_at (by omega) so_13 ⟨rfl, rfl⟩ (ct_at rw_13 (x) (by omega)) (Nat.le_of_ble_eq_true rfl) ⟨Nat.le_refl _, Nat.le_refl _⟩ ?_
            refine mm_top (v := (bc_r A N w h t).1 x) (cN_off hz2 (by decide)) ?_
            refine mm_aload_n 3 dX0_stepTowards_55 rfl rfl ?_
            refine mm_at (pc' := 56) rfl ?_
            refine mm_getr (b := 13) dX0_stepTowards_56 rfl fk_X0_32 rfl so_2 sr_2_9 ?_
            refine mm_iload_n 2 dX0_stepTowards_59 rfl rfl ?_
            refine mm_cV1i (dz := d - 1) dX0_stepTowards_60 rfl mzX5_at ml_X0_73 imX5_at (by omega) so_13 ⟨rfl, rfl⟩ (ct_at rw_13 (b) (by omega)) (Nat.le_of_ble_eq_true rfl) ⟨Nat.le_refl _, Nat.le_refl _⟩ ?_
            refine mm_top (v := (bc_r A N w h t).1 b) (cN_off hz2 (by decide)) ?_
            refine mm_icmp_ge (tgt := 69) dX0_stepTowards_63 (by decide) (fun c63 => ?_) (fun c63 => ?_)
            · refine mm_iincN (ls' := [(4, .int (nI (y + 1))), (5, .int (nI (x))), (3, .int (nI (b))), (0, .ref 2), (1, .int (nI (c))), (2, .int (nI (t)))]) 1 (y) 1 dX0_stepTowards_69 rfl rfl (by decide) rfl ?_
              refine mm_goto (tgt := 10) dX0_stepTowards_72 (by decide) ?_
              rw [step, if_neg (by rw [ec, vv_nI (by omega)]; rintro ⟨q1, q2, q3⟩; first | exact absurd q2 (Int32.not_le.mpr c39) | (rcases q3 with q3 | q3; exact absurd q3 (nI_pos (by omega)); rw [vv_nI (by omega)] at q3; first | exact absurd q3 (Int32.not_lt.mpr c63) | exact absurd q3 c63))] at hh
              exact mm_sub [0, 2, 3, 4, 5] rfl hh
            · refine mm_iload 0 dX0_stepTowards_66 rfl ?_
              refine mm_istore_n (ls' := [(3, .int (nI (x))), (5, .int (nI (x))), (4, .int (nI (y))), (0, .ref 2), (1, .int (nI (c))), (2, .int (nI (t)))]) dX0_stepTowards_68 rfl (by decide) rfl ?_
              refine mm_iincN (ls' := [(4, .int (nI (y + 1))), (3, .int (nI (x))), (5, .int (nI (x))), (0, .ref 2), (1, .int (nI (c))), (2, .int (nI (t)))]) 2 (y) 1 dX0_stepTowards_69 rfl rfl (by decide) rfl ?_
              refine mm_goto (tgt := 10) dX0_stepTowards_72 (by decide) ?_
              rw [step, if_pos ⟨by rw [ec]; exact Int32.not_lt.mp (nI_pos (by omega)), by rw [ec, vv_nI (by omega)]; first | exact c39 | exact Int32.not_lt.mp c39, by first | exact Or.inl (by decide) | exact Or.inr (by rw [ec, vv_nI (by omega), vv_nI (by omega)]; first | exact c63 | exact Int32.not_le.mp c63)⟩, ec] at hh
              exact mm_sub [0, 1, 3, 4, 5] rfl hh
set_option maxRecDepth 100000 in
set_option maxHeartbeats 600000 in
theorem cg_step1 {g : mm_G} {d : Nat} {w h n l k o r : Nat} {A : mm_I} {N : Nat → Int32} (hz : zOK (w * h) n l k o r) (hW : mo_W N w h) {c t : Nat} (hcc : c < w * h) (ht : t < w * h) (hd : 3 ≤ d) : mm_Ci g zX0_stepTowards d [.ref 2, .int (nI (c)), .int (nI (t))] sh_S (cN (w * h) n l k o r A N) (gs_b (bc_r A N w h t).1 w h c 4) (cN (w * h) n l k o r (bcM A N w h t) N) := by
  obtain ⟨hz1, hz2, hz3, hz4, hz5, hz6⟩ := id hz
  have hc := mo_W_c hW
  obtain ⟨-, -, hw1, hw2, hh1, hh2⟩ := id hW
  refine mm_Ci_of (fun Q hq => ?_)
  refine mm_begin (ls := [(0, .ref 2), (1, .int (nI (c))), (2, .int (nI (t)))]) (Nat.le_of_ble_eq_true rfl) rfl rfl ?_
  refine mm_aload_n 0 dX0_stepTowards_0 rfl rfl ?_
  refine mm_iload_n 2 dX0_stepTowards_1 rfl rfl ?_
  refine mm_cV1v (dz := d - 1) dX0_stepTowards_2 rfl mzX0_measure ml_X0_109 imX0_measure (by omega) so_2 ⟨rfl, rfl⟩ (cg_meas hz hW (t := t) (by omega) (by omega)) (Nat.le_of_ble_eq_true rfl) ⟨Nat.le_refl _, Nat.le_refl _⟩ ?_
  refine mm_iconst (v := -1) dX0_stepTowards_5 rfl ?_
  refine mm_istore_n (ls' := [(3, .int (-1)), (0, .ref 2), (1, .int (nI (c))), (2, .int (nI (t)))]) dX0_stepTowards_6 rfl (by decide) rfl ?_
  refine mm_iconst (v := 0) dX0_stepTowards_7 rfl ?_
  refine mm_istore (ls' := [(4, .int (0)), (3, .int (-1)), (0, .ref 2), (1, .int (nI (c))), (2, .int (nI (t)))]) dX0_stepTowards_8 (by decide) rfl ?_
  exact mm_sub [0, 1, 2, 3, 4] rfl (dk_stp hz hW hcc ht (by omega) hq 5 0 (by omega) (by omega))
theorem gs_R {f f' : Nat → Int32} {w h c : Nat} (hw : 0 < w) (hc : c < w * h) (hn : w * h ≤ 80) (R : ∀ x, x < w * h → f x = f' x) : ∀ y, gs_b f w h c y = gs_b f' w h c y := by
  intro y
  induction y with
  | zero => rfl
  | succ y ih =>
    unfold gs_b
    rw [ih]
    rcases sp_be_in (way := y) hw hc with e | ⟨x, hx, e⟩
    · rw [if_neg (by rw [e]; exact fun q => absurd q.1 (by decide)), if_neg (by rw [e]; exact fun q => absurd q.1 (by decide))]
    · rw [e, vv_nI (by omega), R x hx]
      rcases gs_in (f := f') hw hc y with e2 | ⟨b, hb, e2⟩
      · have q : ∀ P : Prop, (gs_b f' w h c y < 0 ∨ P) ↔ True := fun P => ⟨fun _ => trivial, fun _ => Or.inl (by rw [e2]; decide)⟩
        simp only [q]
      · rw [e2, vv_nI (by omega), R b hb]
theorem cg_step {g : mm_G} {d : Nat} {w h n l k o r : Nat} {A : mm_I} {N : Nat → Int32} (hz : zOK (w * h) n l k o r) (hW : mo_W N w h) {J : mm_I} (hJ : J 201 = N) {c t : Nat} (hcc : c < w * h) (ht : t < w * h) (hd : 3 ≤ d) : mm_Ci g zX0_stepTowards d [.ref 2, .int (nI c), .int (nI t)] sh_S (cN (w * h) n l k o r A N) (gs_b (bf_r J w h t).1 w h c 4) (cN (w * h) n l k o r (bcM A N w h t) N) := by
  have hc := mo_W_c hW
  have e := cg_step1 (g := g) (d := d) (A := A) hz hW hcc ht hd
  have hw : 0 < w := by have := hW.2.2.1; omega
  rw [gs_R hw hcc hc.2 (bc_r_R (A := A) hw hc.2 ht hJ).2.2 4] at e
  exact e
