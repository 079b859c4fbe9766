/-! THE CLASS: PROGRAMS, how many; ORDERS -/
set_option maxRecDepth 100000 in
set_option maxHeartbeats 600000 in
theorem cg_script {g : mm_G} {d : Nat} {w h n l k o r : Nat} {A : mm_I} {N : Nat → Int32} (hz : zOK (w * h) n l k o r) (hW : mo_W N w h) {p : Nat} (hp : p < 6) : mm_Cr g zX8_script d [.ref 1, .int (nI (p))] sh_S (cN (w * h) n l k o r A N) (.ref (52 + 5 * p)) (cN (w * h) n l k o r A N) := by
  obtain ⟨hz1, hz2, hz3, hz4, hz5, hz6⟩ := id hz
  have hc := mo_W_c hW
  obtain ⟨-, -, hw1, hw2, hh1, hh2⟩ := id hW
  refine mm_Cr_of (fun Q hq => ?_)
  refine mm_begin (ls := [(0, .ref 1), (1, .int (nI (p)))]) (Nat.le_of_ble_eq_true rfl) rfl rfl ?_
  refine mm_iload_n 1 dX8_script_0 rfl rfl ?_
  refine mm_if_ltN (p) (tgt := 22) dX8_script_1 (by decide) (by omega) ?_
  refine mm_iload_n 1 dX8_script_4 rfl rfl ?_
  refine mm_aload_n 0 dX8_script_5 rfl rfl ?_
  refine mm_getr (b := 51) dX8_script_6 rfl fk_X8_45 rfl so_1 sr_1_5 ?_
  refine mm_alenR dX8_script_9 sq_51 ?_
  refine mm_icmp_geN (p) (6) (tgt := 22) dX8_script_10 (by decide) (by omega) (by omega) (fun c10 => ?_) (fun c10 => ?_)
  · refine mm_null dX8_script_22 ?_
    refine mm_aret dX8_script_23 rfl (Or.inl ⟨_, rfl⟩) (Or.inl rfl) ⟨Nat.le_refl _, Nat.le_refl _⟩ ?_
    first | exact hq | (exfalso; omega)
  · refine mm_aload_n 0 dX8_script_13 rfl rfl ?_
    refine mm_getr (b := 51) dX8_script_14 rfl fk_X8_45 rfl so_1 sr_1_5 ?_
    refine mm_iload_n 1 dX8_script_17 rfl rfl ?_
    refine mm_aaldN (b := 52 + 5 * p) (p) dX8_script_18 sq_51 (by omega) (by omega) (sp_1 (show p < 6 by omega)).2.2.2.2.2 ?_
    refine mm_goto (tgt := 23) dX8_script_19 (by decide) ?_
    refine mm_aret dX8_script_23 rfl (Or.inl ⟨_, rfl⟩) (Or.inr ⟨_, rfl⟩) ⟨Nat.le_refl _, Nat.le_refl _⟩ ?_
    first | exact hq | (exfalso; omega)
set_option maxRecDepth 100000 in
set_option maxHeartbeats 600000 in
theorem cg_scriptN {g : mm_G} {d : Nat} {w h n l k o r : Nat} {A : mm_I} {N : Nat → Int32} (hz : zOK (w * h) n l k o r) (hW : mo_W N w h) {p : Int32} (hp : ¬ sp_wi p 0 5) : mm_Cr g zX8_script d [.ref 1, .int (p)] sh_S (cN (w * h) n l k o r A N) (.null) (cN (w * h) n l k o r A N) := by
  obtain ⟨hz1, hz2, hz3, hz4, hz5, hz6⟩ := id hz
  have hc := mo_W_c hW
  obtain ⟨-, -, hw1, hw2, hh1, hh2⟩ := id hW
  refine mm_Cr_of (fun Q hq => ?_)
  refine mm_begin (ls := [(0, .ref 1), (1, .int (p))]) (Nat.le_of_ble_eq_true rfl) rfl rfl ?_
  refine mm_iload_n 1 dX8_script_0 rfl rfl ?_
  refine mm_if_lt (tgt := 22) dX8_script_1 (by decide) (fun c1 => ?_) (fun c1 => ?_)
  · refine mm_null dX8_script_22 ?_
    refine mm_aret dX8_script_23 rfl (Or.inl ⟨_, rfl⟩) (Or.inl rfl) ⟨Nat.le_refl _, Nat.le_refl _⟩ ?_
    exact hq
  · refine mm_iload_n 1 dX8_script_4 rfl rfl ?_
    refine mm_aload_n 0 dX8_script_5 rfl rfl ?_
    refine mm_getr (b := 51) dX8_script_6 rfl fk_X8_45 rfl so_1 sr_1_5 ?_
    refine mm_alenR dX8_script_9 sq_51 ?_
    refine mm_icmp_ge (tgt := 22) dX8_script_10 (by decide) (fun c10 => ?_) (fun c10 => ?_)
    · refine mm_null dX8_script_22 ?_
      refine mm_aret dX8_script_23 rfl (Or.inl ⟨_, rfl⟩) (Or.inl rfl) ⟨Nat.le_refl _, Nat.le_refl _⟩ ?_
      exact hq
    · exact absurd ⟨Int32.not_lt.mp c1, Int32.not_lt.mp (fun q => c10 (by have := Int32.lt_iff_toInt_lt.mp q; exact Int32.le_iff_toInt_le.mpr (by have e : (5 : Int32).toInt = 5 := rfl; have e2 : (nI 6).toInt = 6 := rfl; omega)))⟩ hp
set_option maxRecDepth 100000 in
set_option maxHeartbeats 600000 in
theorem cg_pempty {g : mm_G} {d : Nat} {w h n l k o r : Nat} {A : mm_I} {N : Nat → Int32} (hz : zOK (w * h) n l k o r) (hW : mo_W N w h) {p : Nat} (hp : p < 6) : mm_Ci g zX4_isEmpty d [.ref (52 + 5 * p)] sh_S (cN (w * h) n l k o r A N) (if A (52 + 5 * p) 2 = 0 then 1 else 0) (cN (w * h) n l k o r A N) := by
  obtain ⟨hz1, hz2, hz3, hz4, hz5, hz6⟩ := id hz
  have hc := mo_W_c hW
  obtain ⟨-, -, hw1, hw2, hh1, hh2⟩ := id hW
  refine mm_Ci_of (fun Q hq => ?_)
  refine mm_begin (ls := [(0, .ref (52 + 5 * p))]) (Nat.le_of_ble_eq_true rfl) rfl rfl ?_
  refine mm_aload_n 0 dX4_isEmpty_0 rfl rfl ?_
  refine mm_geti dX4_isEmpty_1 rfl fk_X4_23 rfl (sp_1 (show p < 6 by omega)).1 ?_
  refine mm_top (v := A (52 + 5 * p) 2) (cN_off hz2 (by omega)) ?_
  refine mm_if_ne (tgt := 11) dX4_isEmpty_4 (by decide) (fun c4 => ?_) (fun c4 => ?_)
  · refine mm_iconst (v := 0) dX4_isEmpty_11 rfl ?_
    refine mm_zret dX4_isEmpty_12 rfl (by decide) ⟨Nat.le_refl _, Nat.le_refl _⟩ ?_
    rw [if_neg c4] at hq; exact hq
  · refine mm_iconst (v := 1) dX4_isEmpty_7 rfl ?_
    refine mm_goto (tgt := 12) dX4_isEmpty_8 (by decide) ?_
    refine mm_zret dX4_isEmpty_12 rfl (by decide) ⟨Nat.le_refl _, Nat.le_refl _⟩ ?_
    rw [if_pos c4] at hq; exact hq
set_option maxRecDepth 100000 in
set_option maxHeartbeats 600000 in
theorem lg_pc {g : mm_G} {d : Nat} {w h n l k o r : Nat} {A : mm_I} {N : Nat → Int32} (hz : zOK (w * h) n l k o r) (hW : mo_W N w h) {Q : Option Value → mm_Sh → mm_I → Prop} (hS : ∀ p, p < 6 → A (52 + 5 * p) 2 = N (1226 + 418 * p)) (hd : 1 ≤ d) (hq : Q (some (.int (sp_pc N 6))) sh_S (cN (w * h) n l k o r A N)) : ∀ (m : Nat) (i : Nat), (i ≤ 6) → 6 - i < m → mm_Ex g zX8_scriptsTold d (0, 0) (0, 0) sh_S (cN (w * h) n l k o r A N) 4 [(2, .int (nI (i))), (1, .int (sp_pc N i)), (0, .ref 1)] [] Q := by
  obtain ⟨hz1, hz2, hz3, hz4, hz5, hz6⟩ := id hz
  have hc := mo_W_c hW
  obtain ⟨-, -, hw1, hw2, hh1, hh2⟩ := id hW
  intro m
  induction m with
  | zero => intro i hi hmz; exact absurd hmz (Nat.not_lt_zero _)
  | succ m ih =>
    intro i hi hmz
    refine mm_iload_n 0 dX8_scriptsTold_4 rfl rfl ?_
    refine mm_bipush (v := 6) dX8_scriptsTold_5 rfl ?_
    refine mm_icmp_geN (i) (6) (tgt := 36) dX8_scriptsTold_7 (by decide) (by omega) (by omega) (fun c7 => ?_) (fun c7 => ?_)
    · refine mm_iload_n 1 dX8_scriptsTold_36 rfl rfl ?_
      refine mm_iret dX8_scriptsTold_37 rfl ⟨Nat.le_refl _, Nat.le_refl _⟩ ?_
      rw [show i = 6 by omega]; exact hq
    · refine mm_aload_n 2 dX8_scriptsTold_10 rfl rfl ?_
      refine mm_iload_n 0 dX8_scriptsTold_11 rfl rfl ?_
      refine mm_cV1r (dz := d - 1) dX8_scriptsTold_12 rfl mzX8_script ml_X8_86 imX8_script (by omega) so_1 ⟨rfl, rfl⟩ (cg_script hz hW (p := i) (by omega)) (Nat.le_of_ble_eq_true rfl) ⟨Nat.le_refl _, Nat.le_refl _⟩ ?_
      refine mm_astore_n (ls' := [(3, .ref (52 + 5 * i)), (2, .int (nI (i))), (1, .int (sp_pc N i)), (0, .ref 1)]) dX8_scriptsTold_15 rfl (by decide) rfl ?_
      refine mm_aload_n 0 dX8_scriptsTold_16 rfl rfl ?_
      refine mm_ifnull dX8_scriptsTold_17 ?_
      refine mm_aload_n 0 dX8_scriptsTold_20 rfl rfl ?_
      refine mm_at (pc' := 21) rfl ?_
      refine mm_cV0i (dz := d - 1) dX8_scriptsTold_21 rfl mzX4_isEmpty ml_X8_105 imX4_isEmpty (by omega) (sp_1 (show i < 6 by omega)).1 ⟨rfl, rfl⟩ (cg_pempty hz hW (p := i) (by omega)) (Nat.le_of_ble_eq_true rfl) ⟨Nat.le_refl _, Nat.le_refl _⟩ ?_
      refine mm_if_neB (tgt := 30) dX8_scriptsTold_24 (by decide) (fun c24 => ?_) (fun c24 => ?_)
      · refine mm_iincN (ls' := [(2, .int (nI (i + 1))), (3, .ref (52 + 5 * i)), (1, .int (sp_pc N i)), (0, .ref 1)]) 1 (i) 1 dX8_scriptsTold_30 rfl rfl (by decide) rfl ?_
        refine mm_goto (tgt := 4) dX8_scriptsTold_33 (by decide) ?_
        have hh := ih (i + 1) (by omega) (by omega)
        rw [show sp_pc N (i + 1) = sp_pc N i by show sp_pc N i + (if ¬ N (1226 + (418 * i)) = 0 then 1 else 0) = _; rw [← hS i (by omega), if_neg (fun q => q c24), Int32.add_zero]] at hh
        exact mm_sub [0, 2, 3] rfl hh
      · refine mm_iinc (v := sp_pc N i + (1)) (ls' := [(1, .int (sp_pc N i + (1))), (3, .ref (52 + 5 * i)), (2, .int (nI (i))), (0, .ref 1)]) 2 dX8_scriptsTold_27 rfl rfl (by decide) rfl ?_
        refine mm_iincN (ls' := [(2, .int (nI (i + 1))), (1, .int (sp_pc N i + (1))), (3, .ref (52 + 5 * i)), (0, .ref 1)]) 2 (i) 1 dX8_scriptsTold_30 rfl rfl (by decide) rfl ?_
        refine mm_goto (tgt := 4) dX8_scriptsTold_33 (by decide) ?_
        have hh := ih (i + 1) (by omega) (by omega)
        rw [show sp_pc N (i + 1) = sp_pc N i + (1) by show sp_pc N i + (if ¬ N (1226 + (418 * i)) = 0 then 1 else 0) = _; rw [← hS i (by omega), if_pos c24]] at hh
        exact mm_sub [0, 1, 3] rfl hh
set_option maxRecDepth 100000 in
set_option maxHeartbeats 600000 in
theorem cg_told {g : mm_G} {d : Nat} {w h n l k o r : Nat} {A : mm_I} {N : Nat → Int32} (hz : zOK (w * h) n l k o r) (hW : mo_W N w h) (hS : ∀ p, p < 6 → A (52 + 5 * p) 2 = N (1226 + 418 * p)) (hd : 2 ≤ d) : mm_Ci g zX8_scriptsTold d [.ref 1] sh_S (cN (w * h) n l k o r A N) (sp_pc N 6) (cN (w * h) n l k o r A N) := by
  obtain ⟨hz1, hz2, hz3, hz4, hz5, hz6⟩ := id hz
  have hc := mo_W_c hW
  obtain ⟨-, -, hw1, hw2, hh1, hh2⟩ := id hW
  refine mm_Ci_of (fun Q hq => ?_)
  refine mm_begin (ls := [(0, .ref 1)]) (Nat.le_of_ble_eq_true rfl) rfl rfl ?_
  refine mm_iconst (v := 0) dX8_scriptsTold_0 rfl ?_
  refine mm_istore_n (ls' := [(1, .int (0)), (0, .ref 1)]) dX8_scriptsTold_1 rfl (by decide) rfl ?_
  refine mm_iconst (v := 0) dX8_scriptsTold_2 rfl ?_
  refine mm_istore_n (ls' := [(2, .int (0)), (1, .int (0)), (0, .ref 1)]) dX8_scriptsTold_3 rfl (by decide) rfl ?_
  exact lg_pc hz hW hS (by omega) hq 7 0 (by omega) (by omega)
set_option maxRecDepth 100000 in
set_option maxHeartbeats 600000 in
theorem cb_count {g : mm_G} {d : Nat} {w h n l k o r : Nat} {A : mm_I} {N : Nat → Int32} (hz : zOK (w * h) n l k o r) (hW : mo_W N w h) {J : mm_I} (hJ : J 201 = N) (hD : mo_D N n) (hK : mo_K N (w * h)) (hS : ∀ p, p < 6 → A (52 + 5 * p) 2 = N (1226 + 418 * p)) (h15 : J 201 15 = nI l) (h16 : J 201 16 = nI n) (h17 : J 201 17 = nI o) (h18 : J 201 18 = nI r) (h19 : J 201 19 = nI k) (hwt : J 200 5 = A 191 1) (htp : J 200 4 = A 174 1) {x : Int32} (hd : 3 ≤ d) : mm_Ci g zX11_count d [.ref 0, .int (x)] sh_S (cN (w * h) n l k o r A N) (op_count w h J x) (cN (w * h) n l k o r A N) := by
  obtain ⟨hz1, hz2, hz3, hz4, hz5, hz6⟩ := id hz
  have hc := mo_W_c hW
  obtain ⟨-, -, hw1, hw2, hh1, hh2⟩ := id hW
  refine mm_Ci_of (fun Q hq => ?_)
  refine mm_begin (ls := [(0, .ref 0), (1, .int (x))]) (Nat.le_of_ble_eq_true rfl) rfl rfl ?_
  refine mm_iload_n 1 dX11_count_0 rfl rfl ?_
  by_cases e1_0 : (x) = 0
  · refine mm_tabIn (0) (tgt := 52) dX11_count_1 e1_0 (by decide) (by decide) rfl (by decide) ?_
    refine mm_aload_n 0 dX11_count_52 rfl rfl ?_
    refine mm_getr (b := 1) dX11_count_53 rfl fk_X11_10 rfl so_0 sr_0_0 ?_
    refine mm_getr (b := 2) dX11_count_56 rfl fk_X11_72 rfl so_1 sr_1_0 ?_
    refine mm_cV0i (dz := d - 1) dX11_count_59 rfl mzX0_cells ml_X11_76 imX0_cells (by omega) so_2 ⟨rfl, rfl⟩ (cg_cells hz hW) (Nat.le_of_ble_eq_true rfl) ⟨Nat.le_refl _, Nat.le_refl _⟩ ?_
    refine mm_iret dX11_count_62 rfl ⟨Nat.le_refl _, Nat.le_refl _⟩ ?_
    subst hJ; subst e1_0; exact mm_l1 (by unfold op_count; rw [if_pos (by decide)]) hq
  by_cases e1_1 : (x) = 1
  · refine mm_tabIn (1) (tgt := 63) dX11_count_1 e1_1 (by decide) (by decide) rfl (by decide) ?_
    refine mm_aload_n 0 dX11_count_63 rfl rfl ?_
    refine mm_getr (b := 1) dX11_count_64 rfl fk_X11_10 rfl so_0 sr_0_0 ?_
    refine mm_geti dX11_count_67 rfl fk_X11_197 rfl so_1 ?_
    refine mm_top (v := nI (n)) s_n ?_
    refine mm_iret dX11_count_70 rfl ⟨Nat.le_refl _, Nat.le_refl _⟩ ?_
    subst hJ; subst e1_1; exact mm_l1 (by unfold op_count; rw [if_neg (by decide), if_pos (by decide), h16]) hq
  by_cases e1_2 : (x) = 2
  · refine mm_tabIn (2) (tgt := 71) dX11_count_1 e1_2 (by decide) (by decide) rfl (by decide) ?_
    refine mm_aload_n 0 dX11_count_71 rfl rfl ?_
    refine mm_getr (b := 1) dX11_count_72 rfl fk_X11_10 rfl so_0 sr_0_0 ?_
    refine mm_getr (b := 17) dX11_count_75 rfl fk_X11_158 rfl so_1 sr_1_1 ?_
    refine mm_cV0i (dz := d - 1) dX11_count_78 rfl mzX3_loads ml_X11_167 imX3_loads (by omega) so_17 ⟨rfl, rfl⟩ (cg_loads hz hW (by omega)) (Nat.le_of_ble_eq_true rfl) ⟨Nat.le_refl _, Nat.le_refl _⟩ ?_
    refine mm_iret dX11_count_81 rfl ⟨Nat.le_refl _, Nat.le_refl _⟩ ?_
    subst hJ; subst e1_2; exact mm_l1 (by unfold op_count; rw [if_neg (by decide), if_neg (by decide), if_pos (by decide), h15]) hq
  by_cases e1_3 : (x) = 3
  · refine mm_tabIn (3) (tgt := 82) dX11_count_1 e1_3 (by decide) (by decide) rfl (by decide) ?_
    refine mm_aload_n 0 dX11_count_82 rfl rfl ?_
    refine mm_getr (b := 1) dX11_count_83 rfl fk_X11_10 rfl so_0 sr_0_0 ?_
    refine mm_cV0i (dz := d - 1) dX11_count_86 rfl mzX8_scriptsTold ml_X11_352 imX8_scriptsTold (by omega) so_1 ⟨rfl, rfl⟩ (cg_told hz hW hS (by omega)) (Nat.le_of_ble_eq_true rfl) ⟨Nat.le_refl _, Nat.le_refl _⟩ ?_
    refine mm_iret dX11_count_89 rfl ⟨Nat.le_refl _, Nat.le_refl _⟩ ?_
    subst hJ; subst e1_3; exact mm_l1 (by unfold op_count; rw [if_neg (by decide), if_neg (by decide), if_neg (by decide), if_pos (by decide)]) hq
  by_cases e1_4 : (x) = 4
  · refine mm_tabIn (4) (tgt := 90) dX11_count_1 e1_4 (by decide) (by decide) rfl (by decide) ?_
    refine mm_aload_n 0 dX11_count_90 rfl rfl ?_
    refine mm_getr (b := 1) dX11_count_91 rfl fk_X11_10 rfl so_0 sr_0_0 ?_
    refine mm_cV0i (dz := d - 1) dX11_count_94 rfl mzX8_ordersOnWay ml_X11_273 imX8_ordersOnWay (by omega) so_1 ⟨rfl, rfl⟩ (cg_orders hz hW (by omega)) (Nat.le_of_ble_eq_true rfl) ⟨Nat.le_refl _, Nat.le_refl _⟩ ?_
    refine mm_iret dX11_count_97 rfl ⟨Nat.le_refl _, Nat.le_refl _⟩ ?_
    subst hJ; subst e1_4; exact mm_l1 (by unfold op_count; rw [if_neg (by decide), if_neg (by decide), if_neg (by decide), if_neg (by decide), if_pos (by decide), h17]) hq
  by_cases e1_5 : (x) = 5
  · refine mm_tabIn (5) (tgt := 98) dX11_count_1 e1_5 (by decide) (by decide) rfl (by decide) ?_
    refine mm_aload_n 0 dX11_count_98 rfl rfl ?_
    refine mm_getr (b := 1) dX11_count_99 rfl fk_X11_10 rfl so_0 sr_0_0 ?_
    refine mm_cV0i (dz := d - 1) dX11_count_102 rfl mzX8_reportsOnWay ml_X11_355 imX8_reportsOnWay (by omega) so_1 ⟨rfl, rfl⟩ (cg_reports hz hW (by omega)) (Nat.le_of_ble_eq_true rfl) ⟨Nat.le_refl _, Nat.le_refl _⟩ ?_
    refine mm_iret dX11_count_105 rfl ⟨Nat.le_refl _, Nat.le_refl _⟩ ?_
    subst hJ; subst e1_5; exact mm_l1 (by unfold op_count; rw [if_neg (by decide), if_neg (by decide), if_neg (by decide), if_neg (by decide), if_neg (by decide), if_pos (by decide), h18]) hq
  by_cases e1_6 : (x) = 6
  · refine mm_tabIn (6) (tgt := 106) dX11_count_1 e1_6 (by decide) (by decide) rfl (by decide) ?_
    refine mm_aload_n 0 dX11_count_106 rfl rfl ?_
    refine mm_getr (b := 1) dX11_count_107 rfl fk_X11_10 rfl so_0 sr_0_0 ?_
    refine mm_getr (b := 22) dX11_count_110 rfl fk_X11_309 rfl so_1 sr_1_2 ?_
    refine mm_cV0i (dz := d - 1) dX11_count_113 rfl mzX10_many ml_X11_313 imX10_many (by omega) so_22 ⟨rfl, rfl⟩ (cg_works hz hW (by omega)) (Nat.le_of_ble_eq_true rfl) ⟨Nat.le_refl _, Nat.le_refl _⟩ ?_
    refine mm_iret dX11_count_116 rfl ⟨Nat.le_refl _, Nat.le_refl _⟩ ?_
    subst hJ; subst e1_6; exact mm_l1 (by unfold op_count; rw [if_neg (by decide), if_neg (by decide), if_neg (by decide), if_neg (by decide), if_neg (by decide), if_neg (by decide), if_pos (by decide), h19]) hq
  by_cases e1_7 : (x) = 7
  · refine mm_tabIn (7) (tgt := 117) dX11_count_1 e1_7 (by decide) (by decide) rfl (by decide) ?_
    refine mm_aload_n 0 dX11_count_117 rfl rfl ?_
    refine mm_getr (b := 191) dX11_count_118 rfl fk_X11_50 rfl so_0 sr_0_6 ?_
    refine mm_cV0i (dz := d - 1) dX11_count_121 rfl mzX5_size ml_X11_236 imX5_size (by omega) so_191 ⟨rfl, rfl⟩ (ct_size rw_191) (Nat.le_of_ble_eq_true rfl) ⟨Nat.le_refl _, Nat.le_refl _⟩ ?_
    refine mm_top (v := A 191 1) (cN_off hz2 (by decide)) ?_
    refine mm_iret dX11_count_124 rfl ⟨Nat.le_refl _, Nat.le_refl _⟩ ?_
    subst hJ; subst e1_7; exact mm_l1 (by unfold op_count; rw [if_neg (by decide), if_neg (by decide), if_neg (by decide), if_neg (by decide), if_neg (by decide), if_neg (by decide), if_neg (by decide), if_pos (by decide), hwt]) hq
  by_cases e1_8 : (x) = 8
  · refine mm_tabIn (8) (tgt := 125) dX11_count_1 e1_8 (by decide) (by decide) rfl (by decide) ?_
    refine mm_aload_n 0 dX11_count_125 rfl rfl ?_
    refine mm_getr (b := 174) dX11_count_126 rfl fk_X11_37 rfl so_0 sr_0_4 ?_
    refine mm_cV0i (dz := d - 1) dX11_count_129 rfl mzX5_size ml_X11_236 imX5_size (by omega) so_174 ⟨rfl, rfl⟩ (ct_size rw_174) (Nat.le_of_ble_eq_true rfl) ⟨Nat.le_refl _, Nat.le_refl _⟩ ?_
    refine mm_top (v := A 174 1) (cN_off hz2 (by decide)) ?_
    refine mm_iret dX11_count_132 rfl ⟨Nat.le_refl _, Nat.le_refl _⟩ ?_
    subst hJ; subst e1_8; exact mm_l1 (by unfold op_count; rw [if_neg (by decide), if_neg (by decide), if_neg (by decide), if_neg (by decide), if_neg (by decide), if_neg (by decide), if_neg (by decide), if_neg (by decide), if_pos (by decide), htp]) hq
  refine mm_tabOut 0 9 (tgt := 133) dX11_count_1 rfl (by decide) (by intro k hk q; rcases (show k = 0 ∨ k = 1 ∨ k = 2 ∨ k = 3 ∨ k = 4 ∨ k = 5 ∨ k = 6 ∨ k = 7 ∨ k = 8 by omega) with rfl | rfl | rfl | rfl | rfl | rfl | rfl | rfl | rfl <;> first | exact e1_0 q | exact e1_1 q | exact e1_2 q | exact e1_3 q | exact e1_4 q | exact e1_5 q | exact e1_6 q | exact e1_7 q | exact e1_8 q) (by decide) ?_
  refine mm_ldc dX11_count_133 rfl kc_X11_67 ?_
  refine mm_iret dX11_count_135 rfl ⟨Nat.le_refl _, Nat.le_refl _⟩ ?_
  subst hJ; exact mm_l1 (by unfold op_count; rw [if_neg e1_0, if_neg e1_1, if_neg e1_2, if_neg e1_3, if_neg e1_4, if_neg e1_5, if_neg e1_6, if_neg e1_7, if_neg e1_8]) hq
