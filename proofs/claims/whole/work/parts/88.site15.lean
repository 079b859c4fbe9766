/-! THE CLASS: clear, has -/
set_option maxRecDepth 100000 in
set_option maxHeartbeats 600000 in
theorem cg_empty {g : mm_G} {d : Nat} {w h n l k o r : Nat} {A : mm_I} {N : Nat → Int32} (hz : zOK (w * h) n l k o r) (hW : mo_W N w h) (hd : 2 ≤ d) : mm_Cv g zX10_empty d [.ref 22] sh_S (cN (w * h) n l k o r A N) (kM (cN (w * h) n l k o r A N)) := by
  obtain ⟨hz1, hz2, hz3, hz4, hz5, hz6⟩ := id hz
  have hc := mo_W_c hW
  obtain ⟨-, -, hw1, hw2, hh1, hh2⟩ := id hW
  refine mm_Cv_of (fun Q hq => ?_)
  refine mm_begin (ls := [(0, .ref 22)]) (Nat.le_of_ble_eq_true rfl) rfl rfl ?_
  refine mm_aload_n 0 dX10_empty_0 rfl rfl ?_
  refine mm_getr (b := 23) dX10_empty_1 rfl fk_X10_14 rfl so_22 sr_22_0 ?_
  refine mm_iconst (v := 0) dX10_empty_4 rfl ?_
  refine mm_cV1v (dz := d - 1) dX10_empty_5 rfl mzX5_shorten ml_X10_39 imX5_shorten (by omega) so_23 ⟨rfl, rfl⟩ (ct_short0 rw_23 (by omega)) (Nat.le_of_ble_eq_true rfl) ⟨Nat.le_refl _, Nat.le_refl _⟩ ?_
  refine mm_aload_n 0 dX10_empty_8 rfl rfl ?_
  refine mm_getr (b := 25) dX10_empty_9 rfl fk_X10_20 rfl so_22 sr_22_1 ?_
  refine mm_iconst (v := 0) dX10_empty_12 rfl ?_
  refine mm_cV1v (dz := d - 1) dX10_empty_13 rfl mzX5_shorten ml_X10_39 imX5_shorten (by omega) so_25 ⟨rfl, rfl⟩ (ct_short0 rw_25 (by omega)) (Nat.le_of_ble_eq_true rfl) ⟨Nat.le_refl _, Nat.le_refl _⟩ ?_
  refine mm_at (pc' := 16) rfl ?_
  refine mm_aload_n 0 dX10_empty_16 rfl rfl ?_
  refine mm_getr (b := 27) dX10_empty_17 rfl fk_X10_23 rfl so_22 sr_22_2 ?_
  refine mm_iconst (v := 0) dX10_empty_20 rfl ?_
  refine mm_cV1v (dz := d - 1) dX10_empty_21 rfl mzX5_shorten ml_X10_39 imX5_shorten (by omega) so_27 ⟨rfl, rfl⟩ (ct_short0 rw_27 (by omega)) (Nat.le_of_ble_eq_true rfl) ⟨Nat.le_refl _, Nat.le_refl _⟩ ?_
  refine mm_aload_n 0 dX10_empty_24 rfl rfl ?_
  refine mm_getr (b := 29) dX10_empty_25 rfl fk_X10_26 rfl so_22 sr_22_3 ?_
  refine mm_iconst (v := 0) dX10_empty_28 rfl ?_
  refine mm_cV1v (dz := d - 1) dX10_empty_29 rfl mzX5_shorten ml_X10_39 imX5_shorten (by omega) so_29 ⟨rfl, rfl⟩ (ct_short0 rw_29 (by omega)) (Nat.le_of_ble_eq_true rfl) ⟨Nat.le_refl _, Nat.le_refl _⟩ ?_
  refine mm_at (pc' := 32) rfl ?_
  refine mm_vret dX10_empty_32 rfl ⟨Nat.le_refl _, Nat.le_refl _⟩ ?_
  exact hq
set_option maxRecDepth 100000 in
set_option maxHeartbeats 600000 in
theorem cb_clear {g : mm_G} {d : Nat} {w h n l k o r : Nat} {A : mm_I} {N : Nat → Int32} (hz : zOK (w * h) n l k o r) (hW : mo_W N w h) {J : mm_I} (hJ : J 201 = N) (hD : mo_D N n) (hK : mo_K N (w * h)) (hk : N 19 = nI k) (hd : 3 ≤ d) : mm_Ci g zX11_clear d [.ref 0] sh_S (cN (w * h) n l k o r A N) ((op_clear J).1) (cN (w * h) n l 0 o r (kM (cN (w * h) n l k o r A N)) ((op_clear J).2 201)) := by
  obtain ⟨hz1, hz2, hz3, hz4, hz5, hz6⟩ := id hz
  have hc := mo_W_c hW
  obtain ⟨-, -, hw1, hw2, hh1, hh2⟩ := id hW
  refine mm_Ci_of (fun Q hq => ?_)
  refine mm_begin (ls := [(0, .ref 0)]) (Nat.le_of_ble_eq_true rfl) rfl rfl ?_
  refine mm_aload_n 0 dX11_clear_0 rfl rfl ?_
  refine mm_getr (b := 1) dX11_clear_1 rfl fk_X11_10 rfl so_0 sr_0_0 ?_
  refine mm_getr (b := 22) dX11_clear_4 rfl fk_X11_309 rfl so_1 sr_1_2 ?_
  refine mm_cV0i (dz := d - 1) dX11_clear_7 rfl mzX10_many ml_X11_313 imX10_many (by omega) so_22 ⟨rfl, rfl⟩ (cg_works hz hW (by omega)) (Nat.le_of_ble_eq_true rfl) ⟨Nat.le_refl _, Nat.le_refl _⟩ ?_
  refine mm_istore_n (ls' := [(1, .int (nI (k))), (0, .ref 0)]) dX11_clear_10 rfl (by decide) rfl ?_
  refine mm_aload_n 1 dX11_clear_11 rfl rfl ?_
  refine mm_getr (b := 1) dX11_clear_12 rfl fk_X11_10 rfl so_0 sr_0_0 ?_
  refine mm_getr (b := 22) dX11_clear_15 rfl fk_X11_309 rfl so_1 sr_1_2 ?_
  refine mm_at (pc' := 18) rfl ?_
  refine mm_cV0v (dz := d - 1) dX11_clear_18 rfl mzX10_empty ml_X11_321 imX10_empty (by omega) so_22 ⟨rfl, rfl⟩ (cg_empty hz hW (by omega)) (Nat.le_of_ble_eq_true rfl) ⟨Nat.le_refl _, Nat.le_refl _⟩ ?_
  refine mm_iload_n 0 dX11_clear_21 rfl rfl ?_
  refine mm_iret dX11_clear_22 rfl ⟨Nat.le_refl _, Nat.le_refl _⟩ ?_
  subst hJ; exact mm_l2c (F := fun N => cN (w * h) n l 0 o r (kM (cN (w * h) n l k o r A (J 201))) N) (by unfold op_clear; rw [hk]) (by rw [up_201]; exact cN_clear.symm) hq
/-- what MACHINES have is in its bounds -/
def mo_B (N : Nat → Int32) (n : Nat) : Prop := ∀ i, i < n → (∃ x, x ≤ 10 ∧ N (630 + 40 * i + 4) = nI x) ∧ ∃ x, x ≤ 100 ∧ N (630 + 40 * i + 3) = nI x
theorem car_0 {y : Int32} (h : ∃ x, x ≤ 10 ∧ y = nI x) (h2 : y ≤ 0) : y = 0 := by
  obtain ⟨x, hx, rfl⟩ := h
  have hh : ∀ x, x ≤ 10 → nI x ≤ 0 → nI x = 0 := by decide +kernel
  exact hh x hx h2
theorem wear_c {y : Int32} (h : ∃ x, x ≤ 100 ∧ y = nI x) : y = 100 ↔ 100 ≤ y := by
  obtain ⟨x, hx, rfl⟩ := h
  have hh : ∀ x, x ≤ 100 → (nI x = 100 ↔ (100 : Int32) ≤ nI x) := by decide +kernel
  exact hh x hx
set_option maxRecDepth 100000 in
set_option maxHeartbeats 600000 in
theorem cb_has_v {g : mm_G} {d : Nat} {w h n l k o r : Nat} {A : mm_I} {N : Nat → Int32} (hz : zOK (w * h) n l k o r) (hW : mo_W N w h) {J : mm_I} (hJ : J 201 = N) (hD : mo_D N n) (hK : mo_K N (w * h)) (hP : mo_B N n) {m : Nat} (hm : m < n) {x : Int32} (hd : 3 ≤ d) : mm_Ci g zX11_has d [.ref 0, .int (nI (m)), .int (x)] sh_S (cN (w * h) n l k o r A N) (op_has n J (nI m) x) (cN (w * h) n l k o r A N) := by
  obtain ⟨hz1, hz2, hz3, hz4, hz5, hz6⟩ := id hz
  have hc := mo_W_c hW
  obtain ⟨-, -, hw1, hw2, hh1, hh2⟩ := id hW
  have hsm := isM_of hz2 hm
  have hcr := (hP _ hm).1
  have hwr := (hP _ hm).2
  refine mm_Ci_of (fun Q hq => ?_)
  refine mm_begin (ls := [(0, .ref 0), (1, .int (nI (m))), (2, .int (x))]) (Nat.le_of_ble_eq_true rfl) rfl rfl ?_
  refine mm_aload_n 0 dX11_has_0 rfl rfl ?_
  refine mm_getr (b := 1) dX11_has_1 rfl fk_X11_10 rfl so_0 sr_0_0 ?_
  refine mm_iload_n 1 dX11_has_4 rfl rfl ?_
  refine mm_cV1r (dz := d - 1) dX11_has_5 rfl mzX8_worker ml_X11_203 imX8_worker (by omega) so_1 ⟨rfl, rfl⟩ (cg_worker hz hW (m := m) (by omega)) (Nat.le_of_ble_eq_true rfl) ⟨Nat.le_refl _, Nat.le_refl _⟩ ?_
  refine mm_astore_n (ls' := [(3, .ref (36 + 3 * m)), (0, .ref 0), (1, .int (nI (m))), (2, .int (x))]) dX11_has_8 rfl (by decide) rfl ?_
  refine mm_aload_n 0 dX11_has_9 rfl rfl ?_
  refine mm_ifnonnull (tgt := 16) dX11_has_10 (by decide) ?_
  refine mm_iload_n 3 dX11_has_16 rfl rfl ?_
  by_cases e17_0 : (x) = 0
  · refine mm_tabIn (0) (tgt := 64) dX11_has_17 e17_0 (by decide) (by decide) rfl (by decide) ?_
    refine mm_aload_n 0 dX11_has_64 rfl rfl ?_
    refine mm_geti dX11_has_65 rfl fk_X11_217 rfl (sm_1 (show m < 5 by omega)).1 ?_
    refine mm_top (v := N (630 + 40 * m + 0)) (s_m (by omega) (by omega) (by omega)) ?_
    refine mm_iret dX11_has_68 rfl ⟨Nat.le_refl _, Nat.le_refl _⟩ ?_
    subst hJ; subst e17_0; exact mm_l1 (by unfold op_has; rw [if_neg (fun q => q hsm), if_pos ⟨by decide, by decide⟩, vv_nI (by omega)]; rfl) hq
  by_cases e17_1 : (x) = 1
  · refine mm_tabIn (1) (tgt := 69) dX11_has_17 e17_1 (by decide) (by decide) rfl (by decide) ?_
    refine mm_aload_n 0 dX11_has_69 rfl rfl ?_
    refine mm_geti dX11_has_70 rfl fk_X11_220 rfl (sm_1 (show m < 5 by omega)).1 ?_
    refine mm_top (v := N (630 + 40 * m + 1)) (s_m (by omega) (by omega) (by omega)) ?_
    refine mm_iret dX11_has_73 rfl ⟨Nat.le_refl _, Nat.le_refl _⟩ ?_
    subst hJ; subst e17_1; exact mm_l1 (by unfold op_has; rw [if_neg (fun q => q hsm), if_pos ⟨by decide, by decide⟩, vv_nI (by omega)]; rfl) hq
  by_cases e17_2 : (x) = 2
  · refine mm_tabIn (2) (tgt := 74) dX11_has_17 e17_2 (by decide) (by decide) rfl (by decide) ?_
    refine mm_aload_n 0 dX11_has_74 rfl rfl ?_
    refine mm_geti dX11_has_75 rfl fk_X11_211 rfl (sm_1 (show m < 5 by omega)).1 ?_
    refine mm_top (v := N (630 + 40 * m + 2)) (s_m (by omega) (by omega) (by omega)) ?_
    refine mm_iret dX11_has_78 rfl ⟨Nat.le_refl _, Nat.le_refl _⟩ ?_
    subst hJ; subst e17_2; exact mm_l1 (by unfold op_has; rw [if_neg (fun q => q hsm), if_pos ⟨by decide, by decide⟩, vv_nI (by omega)]; rfl) hq
  by_cases e17_3 : (x) = 3
  · refine mm_tabIn (3) (tgt := 79) dX11_has_17 e17_3 (by decide) (by decide) rfl (by decide) ?_
    refine mm_aload_n 0 dX11_has_79 rfl rfl ?_
    refine mm_geti dX11_has_80 rfl fk_X11_214 rfl (sm_1 (show m < 5 by omega)).1 ?_
    refine mm_top (v := N (630 + 40 * m + 3)) (s_m (by omega) (by omega) (by omega)) ?_
    refine mm_iret dX11_has_83 rfl ⟨Nat.le_refl _, Nat.le_refl _⟩ ?_
    subst hJ; subst e17_3; exact mm_l1 (by unfold op_has; rw [if_neg (fun q => q hsm), if_pos ⟨by decide, by decide⟩, vv_nI (by omega)]; rfl) hq
  by_cases e17_4 : (x) = 4
  · refine mm_tabIn (4) (tgt := 84) dX11_has_17 e17_4 (by decide) (by decide) rfl (by decide) ?_
    refine mm_aload_n 0 dX11_has_84 rfl rfl ?_
    refine mm_geti dX11_has_85 rfl fk_X11_223 rfl (sm_1 (show m < 5 by omega)).1 ?_
    refine mm_top (v := N (630 + 40 * m + 4)) (s_m (by omega) (by omega) (by omega)) ?_
    refine mm_iret dX11_has_88 rfl ⟨Nat.le_refl _, Nat.le_refl _⟩ ?_
    subst hJ; subst e17_4; exact mm_l1 (by unfold op_has; rw [if_neg (fun q => q hsm), if_pos ⟨by decide, by decide⟩, vv_nI (by omega)]; rfl) hq
  by_cases e17_5 : (x) = 5
  · refine mm_tabIn (5) (tgt := 89) dX11_has_17 e17_5 (by decide) (by decide) rfl (by decide) ?_
    refine mm_aload_n 0 dX11_has_89 rfl rfl ?_
    refine mm_geti dX11_has_90 rfl fk_X11_223 rfl (sm_1 (show m < 5 by omega)).1 ?_
    refine mm_top (v := N (630 + 40 * m + 4)) (s_m (by omega) (by omega) (by omega)) ?_
    refine mm_if_le (tgt := 103) dX11_has_93 (by decide) (fun c93 => ?_) (fun c93 => ?_)
    · refine mm_ldc dX11_has_103 rfl kc_X11_229 ?_
      refine mm_iret dX11_has_105 rfl ⟨Nat.le_refl _, Nat.le_refl _⟩ ?_
      subst hJ; subst e17_5; exact mm_l1 (by unfold op_has; rw [if_neg (fun q => q hsm), if_neg (by decide), if_pos (by decide), vv_nI (by omega), if_pos (car_0 hcr c93)]) hq
    · refine mm_aload_n 0 dX11_has_96 rfl rfl ?_
      refine mm_geti dX11_has_97 rfl fk_X11_226 rfl (sm_1 (show m < 5 by omega)).1 ?_
      refine mm_top (v := N (630 + 40 * m + 5)) (s_m (by omega) (by omega) (by omega)) ?_
      refine mm_goto (tgt := 105) dX11_has_100 (by decide) ?_
      refine mm_iret dX11_has_105 rfl ⟨Nat.le_refl _, Nat.le_refl _⟩ ?_
      subst hJ; subst e17_5; exact mm_l1 (by unfold op_has; rw [if_neg (fun q => q hsm), if_neg (by decide), if_pos (by decide), vv_nI (by omega), if_neg (fun q => by rw [q] at c93; exact absurd c93 (by decide))]) hq
  by_cases e17_6 : (x) = 6
  · refine mm_tabIn (6) (tgt := 106) dX11_has_17 e17_6 (by decide) (by decide) rfl (by decide) ?_
    refine mm_aload_n 0 dX11_has_106 rfl rfl ?_
    refine mm_geti dX11_has_107 rfl fk_X11_230 rfl (sm_1 (show m < 5 by omega)).1 ?_
    refine mm_top (v := N (630 + 40 * m + 6)) (s_m (by omega) (by omega) (by omega)) ?_
    refine mm_cS1i (dz := d - 1) dX11_has_110 rfl mzX11_orNone ml_X11_111 imX11_orNone (by omega) cx_orNone (Nat.le_of_ble_eq_true rfl) ⟨Nat.le_refl _, Nat.le_refl _⟩ ?_
    refine mm_iret dX11_has_113 rfl ⟨Nat.le_refl _, Nat.le_refl _⟩ ?_
    subst hJ; subst e17_6; exact mm_l1 (by unfold op_has; rw [if_neg (fun q => q hsm), if_neg (by decide), if_neg (by decide), if_pos (by decide), vv_nI (by omega)]) hq
  by_cases e17_7 : (x) = 7
  · refine mm_tabIn (7) (tgt := 114) dX11_has_17 e17_7 (by decide) (by decide) rfl (by decide) ?_
    refine mm_aload_n 0 dX11_has_114 rfl rfl ?_
    refine mm_cV0i (dz := d - 1) dX11_has_115 rfl mzX1_isBroken ml_X11_233 imX1_isBroken (by omega) (sm_1 (show m < 5 by omega)).1 ⟨rfl, rfl⟩ (cg_broken hz hW (m := m) hm) (Nat.le_of_ble_eq_true rfl) ⟨Nat.le_refl _, Nat.le_refl _⟩ ?_
    refine mm_cS1i (dz := d - 1) dX11_has_118 rfl mzX11_asBit ml_X11_118 imX11_asBit (by omega) cx_asBit (Nat.le_of_ble_eq_true rfl) ⟨Nat.le_refl _, Nat.le_refl _⟩ ?_
    refine mm_iret dX11_has_121 rfl ⟨Nat.le_refl _, Nat.le_refl _⟩ ?_
    subst hJ; subst e17_7; exact mm_l1 (by unfold op_has; rw [if_neg (fun q => q hsm), if_neg (by decide), if_neg (by decide), if_neg (by decide), if_pos (by decide), vv_nI (by omega)]; exact mm_iff (wear_c hwr)) hq
  refine mm_tabOut 0 8 (tgt := 122) dX11_has_17 rfl (by decide) (by intro k hk q; rcases (show k = 0 ∨ k = 1 ∨ k = 2 ∨ k = 3 ∨ k = 4 ∨ k = 5 ∨ k = 6 ∨ k = 7 by omega) with rfl | rfl | rfl | rfl | rfl | rfl | rfl | rfl <;> first | exact e17_0 q | exact e17_1 q | exact e17_2 q | exact e17_3 q | exact e17_4 q | exact e17_5 q | exact e17_6 q | exact e17_7 q) (by decide) ?_
  refine mm_ldc dX11_has_122 rfl kc_X11_67 ?_
  refine mm_iret dX11_has_124 rfl ⟨Nat.le_refl _, Nat.le_refl _⟩ ?_
  subst hJ; exact mm_l1 (by unfold op_has; rw [if_neg (fun q => q hsm), if_neg (fun q => by obtain ⟨j, hj, rfl⟩ := sp_wi_nat 4 (by decide) q; rcases show j = 0 ∨ j = 1 ∨ j = 2 ∨ j = 3 ∨ j = 4 by omega with e | e | e | e | e <;> subst e <;> first | exact e17_0 rfl | exact e17_1 rfl | exact e17_2 rfl | exact e17_3 rfl | exact e17_4 rfl), if_neg e17_5, if_neg e17_6, if_neg e17_7]) hq
set_option maxRecDepth 100000 in
set_option maxHeartbeats 600000 in
theorem cb_has_n {g : mm_G} {d : Nat} {w h n l k o r : Nat} {A : mm_I} {N : Nat → Int32} (hz : zOK (w * h) n l k o r) (hW : mo_W N w h) {J : mm_I} (hJ : J 201 = N) (hD : mo_D N n) (hK : mo_K N (w * h)) (hP : mo_B N n) {m : Int32} (hm : ¬ sp_isM n m) {x : Int32} (hd : 3 ≤ d) : mm_Ci g zX11_has d [.ref 0, .int (m), .int (x)] sh_S (cN (w * h) n l k o r A N) (op_has n J m x) (cN (w * h) n l k o r A N) := by
  obtain ⟨hz1, hz2, hz3, hz4, hz5, hz6⟩ := id hz
  have hc := mo_W_c hW
  obtain ⟨-, -, hw1, hw2, hh1, hh2⟩ := id hW
  refine mm_Ci_of (fun Q hq => ?_)
  refine mm_begin (ls := [(0, .ref 0), (1, .int (m)), (2, .int (x))]) (Nat.le_of_ble_eq_true rfl) rfl rfl ?_
  refine mm_aload_n 0 dX11_has_0 rfl rfl ?_
  refine mm_getr (b := 1) dX11_has_1 rfl fk_X11_10 rfl so_0 sr_0_0 ?_
  refine mm_iload_n 1 dX11_has_4 rfl rfl ?_
  refine mm_cV1r (dz := d - 1) dX11_has_5 rfl mzX8_worker ml_X11_203 imX8_worker (by omega) so_1 ⟨rfl, rfl⟩ (cg_workerN hz hW hm) (Nat.le_of_ble_eq_true rfl) ⟨Nat.le_refl _, Nat.le_refl _⟩ ?_
  refine mm_astoreN_n (ls' := [(3, .null), (0, .ref 0), (1, .int (m)), (2, .int (x))]) dX11_has_8 rfl (by decide) rfl ?_
  refine mm_aloadN_n 0 dX11_has_9 rfl rfl ?_
  refine mm_ifnonnullN dX11_has_10 ?_
  refine mm_ldc dX11_has_13 rfl kc_X11_67 ?_
  refine mm_at (pc' := 15) rfl ?_
  refine mm_iret dX11_has_15 rfl ⟨Nat.le_refl _, Nat.le_refl _⟩ ?_
  subst hJ; exact mm_l1 (by unfold op_has; rw [if_pos hm]) hq
theorem cb_has {g : mm_G} {d : Nat} {w h n l k o r : Nat} {A : mm_I} {N : Nat → Int32} (hz : zOK (w * h) n l k o r) (hW : mo_W N w h) {J : mm_I} (hJ : J 201 = N) (hD : mo_D N n) (hK : mo_K N (w * h)) (hP : mo_B N n) {m : Int32} {x : Int32} (hd : 3 ≤ d) : mm_Ci g zX11_has d [.ref 0, .int m, .int x] sh_S (cN (w * h) n l k o r A N) (op_has n J m x) (cN (w * h) n l k o r A N) := by
  by_cases hm : sp_isM n m
  · obtain ⟨j, hj, rfl⟩ := sp_isM_nat (by have := hz.2.1; omega) hm
    exact cb_has_v hz hW hJ hD hK hP hj hd
  · exact cb_has_n hz hW hJ hD hK hP hm hd
