/-! THE CLASS: plan, planned -/
def fw (s : sk_S) : Int32 := if s.2.1 = true then (-1000000004) else if s.2.2.1 < 0 then (-1000000002) else s.2.2.1
theorem fw_1 {s : sk_S} (c : s.2.1 = true) : fw s = (-1000000004) ∧ fp_w s = (-1000000004) := ⟨if_pos c, if_pos c⟩
theorem fw_2 {s : sk_S} (c : ¬ s.2.1 = true) (q : s.2.2.1 < 0) : fw s = (-1000000002) ∧ fp_w s = (-1000000002) := ⟨(if_neg c).trans (if_pos q), (if_neg c).trans (if_neg (Int32.not_le.mpr q))⟩
theorem fw_3 {s : sk_S} (c : ¬ s.2.1 = true) (q : ¬ s.2.2.1 < 0) : fw s = s.2.2.1 ∧ fp_w s = 0 := ⟨(if_neg c).trans (if_neg q), (if_neg c).trans (if_pos (Int32.not_lt.mp q))⟩
theorem fw_n {s : sk_S} (h : fw s < 0) : ¬ fp_w s = 0 ∧ fw s = fp_w s := by
  by_cases c : s.2.1 = true
  · have := fw_1 c; rw [this.1, this.2]; exact ⟨by decide, rfl⟩
  · by_cases q : s.2.2.1 < 0
    · have := fw_2 c q; rw [this.1, this.2]; exact ⟨by decide, rfl⟩
    · rw [(fw_3 c q).1] at h; exact absurd h q
theorem fw_p {s : sk_S} (h : ¬ fw s < 0) : fp_w s = 0 ∧ fw s = s.2.2.1 := by
  by_cases c : s.2.1 = true
  · rw [(fw_1 c).1] at h; exact absurd (by decide) h
  · by_cases q : s.2.2.1 < 0
    · rw [(fw_2 c q).1] at h; exact absurd (by decide) h
    · exact ⟨(fw_3 c q).2, (fw_3 c q).1⟩
set_option maxRecDepth 100000 in
set_option maxHeartbeats 600000 in
theorem cg_find {g : mm_G} {d : Nat} {w h n l k o r : Nat} {A : mm_I} {N : Nat → Int32} (hz : zOK (w * h) n l k o r) (hW : mo_W N w h) {x : Int32} {q : Nat} (hq2 : q ≤ 20000) (hd : 17 ≤ d) : mm_Di g zX10_find d [.ref 22, .int x, .int (nI q), .ref 17] sh_S (cN (w * h) n l k o r A N) (fun r_ J => r_ = fw (fp_s N l k x (nI q)) ∧ ∃ A2, J = cN (w * h) n l k o r A2 N ∧ wE A2 x (sp_pb N 0 l) (fp_s N l k x (nI q)) 0 (fun _ => 0) ∧ wF A A2) := by
  obtain ⟨hz1, hz2, hz3, hz4, hz5, hz6⟩ := id hz
  have hc := mo_W_c hW
  obtain ⟨-, -, hw1, hw2, hh1, hh2⟩ := id hW
  have hE0 : wE (mm_up (mm_up (mm_up (mm_up (mm_up (mm_up (mm_up A 22 7 x) 22 8 (sp_pb N 0 l)) 22 9 (nI q)) 22 10 0) 22 6 (-1)) 31 1 0) 33 1 0) x (sp_pb N 0 l) (q, false, -1, 0, fun _ => 0) 0 (fun _ => 0) := ⟨rfl, hq2, rfl, rfl, ⟨rfl, Nat.zero_le _, fun i hi => absurd hi (Nat.not_lt_zero _)⟩, ⟨rfl, fun i hi => absurd hi (Nat.not_lt_zero _)⟩, rfl, rfl⟩
  have hF0 : wF A (mm_up (mm_up (mm_up (mm_up (mm_up (mm_up (mm_up A 22 7 x) 22 8 (sp_pb N 0 l)) 22 9 (nI q)) 22 10 0) 22 6 (-1)) 31 1 0) 33 1 0) := wF_u (wF_u (wF_u (wF_u (wF_u (wF_u (wF_u (wF_r A) (by omega)) (by omega)) (by omega)) (by omega)) (by omega)) (by omega)) (by omega)
  have efs : fp_s N l k x (nI q) = sk N (sp_pb N 0 l) x k 6 0 (fun _ => 0) 0 0 (N 4) (N 5) (q, false, -1, 0, fun _ => 0) := by unfold fp_s; rw [vv_nI (by omega)]
  refine mm_Di_of (fun Q hq => ?_)
  refine mm_begin (ls := [(0, .ref 22), (1, .int (x)), (2, .int (nI (q))), (3, .ref 17)]) (Nat.le_of_ble_eq_true rfl) rfl rfl ?_
  refine mm_aload_n 0 dX10_find_0 rfl rfl ?_
  refine mm_iload_n 1 dX10_find_1 rfl rfl ?_
  refine mm_puti dX10_find_2 rfl fk_X10_53 rfl fv_10_7 so_22 ?_
  refine mm_mem (J := cN (w * h) n l k o r (mm_up A 22 7 x) N) (cN_dof hz2 (by decide)) ?_
  refine mm_aload_n 0 dX10_find_5 rfl rfl ?_
  refine mm_aload_n 3 dX10_find_6 rfl rfl ?_
  refine mm_iconst (v := 0) dX10_find_7 rfl ?_
  refine mm_cV1i (dz := d - 1) dX10_find_8 rfl mzX3_taken ml_X10_57 imX3_taken (by omega) so_17 ⟨rfl, rfl⟩ (cg_pb hz hW (by omega)) (Nat.le_of_ble_eq_true rfl) ⟨Nat.le_refl _, Nat.le_refl _⟩ ?_
  refine mm_puti dX10_find_11 rfl fk_X10_63 rfl fv_10_8 so_22 ?_
  refine mm_at (pc' := 14) rfl ?_
  refine mm_aload_n 0 dX10_find_14 rfl rfl ?_
  refine mm_iload_n 2 dX10_find_15 rfl rfl ?_
  refine mm_puti dX10_find_16 rfl fk_X10_66 rfl fv_10_9 so_22 ?_
  refine mm_aload_n 0 dX10_find_19 rfl rfl ?_
  refine mm_iconst (v := 0) dX10_find_20 rfl ?_
  refine mm_putz dX10_find_21 rfl fk_X10_69 rfl fv_10_10 (by decide) so_22 ?_
  refine mm_aload_n 0 dX10_find_24 rfl rfl ?_
  refine mm_iconst (v := -1) dX10_find_25 rfl ?_
  refine mm_at (pc' := 26) rfl ?_
  refine mm_puti dX10_find_26 rfl fk_X10_73 rfl fv_10_6 so_22 ?_
  refine mm_aload_n 0 dX10_find_29 rfl rfl ?_
  refine mm_getr (b := 31) dX10_find_30 rfl fk_X10_29 rfl so_22 sr_22_4 ?_
  refine mm_iconst (v := 0) dX10_find_33 rfl ?_
  refine mm_cV1v (dz := d - 1) dX10_find_34 rfl mzX5_shorten ml_X10_39 imX5_shorten (by omega) so_31 ⟨rfl, rfl⟩ (ct_short0 rw_31 (by omega)) (Nat.le_of_ble_eq_true rfl) ⟨Nat.le_refl _, Nat.le_refl _⟩ ?_
  refine mm_aload_n 0 dX10_find_37 rfl rfl ?_
  refine mm_getr (b := 33) dX10_find_38 rfl fk_X10_32 rfl so_22 sr_22_5 ?_
  refine mm_iconst (v := 0) dX10_find_41 rfl ?_
  refine mm_at (pc' := 42) rfl ?_
  refine mm_cV1v (dz := d - 1) dX10_find_42 rfl mzX5_shorten ml_X10_39 imX5_shorten (by omega) so_33 ⟨rfl, rfl⟩ (ct_short0 rw_33 (by omega)) (Nat.le_of_ble_eq_true rfl) ⟨Nat.le_refl _, Nat.le_refl _⟩ ?_
  refine mm_mem (J := cN (w * h) n l k o r (mm_up (mm_up (mm_up (mm_up (mm_up (mm_up (mm_up A 22 7 x) 22 8 (sp_pb N 0 l)) 22 9 (nI q)) 22 10 0) 22 6 (-1)) 31 1 0) 33 1 0) N) (by rw [cN_dof hz2 (by decide), cN_dof hz2 (by decide), cN_dof hz2 (by decide), cN_dof hz2 (by decide), cN_dof hz2 (by decide), cN_dof hz2 (by decide)]) ?_
  refine mm_aload_n 0 dX10_find_45 rfl rfl ?_
  refine mm_iconst (v := 0) dX10_find_46 rfl ?_
  refine mm_iconst (v := 0) dX10_find_47 rfl ?_
  refine mm_aload_n 3 dX10_find_48 rfl rfl ?_
  refine mm_geti dX10_find_49 rfl fk_X10_76 rfl so_17 ?_
  refine mm_top (v := N 4) (cN_r (lo_at17.trans rfl)) ?_
  refine mm_aload_n 3 dX10_find_52 rfl rfl ?_
  refine mm_geti dX10_find_53 rfl fk_X10_79 rfl so_17 ?_
  refine mm_at (pc' := 56) rfl ?_
  refine mm_top (v := N 5) (cN_r (lo_at17.trans rfl)) ?_
  refine mm_dV4v (dz := d - 1) dX10_find_56 rfl mzX10_seek ml_X10_82 imX10_seek (by omega) so_22 ⟨rfl, rfl⟩ (cg_seek hz hW 6 0 (fun _ => 0) 0 0 (N 4) (N 5) _ _ (d - 1) rfl (by omega) (sk_cn_0 hz4) hE0 (by omega)) (Nat.le_of_ble_eq_true rfl) ⟨Nat.le_refl _, Nat.le_refl _⟩ (fun J2 hJ2 => ?_)
  obtain ⟨A2, rfl, hE2, hF2⟩ := hJ2
  rw [← efs] at hE2
  refine mm_aload_n 0 dX10_find_59 rfl rfl ?_
  refine mm_geti dX10_find_60 rfl fk_X10_69 rfl so_22 ?_
  refine mm_top (v := if (fp_s N l k x (nI q)).2.1 = true then 1 else 0) ((cN_off hz2 (by decide)).trans hE2.2.2.1) ?_
  refine mm_if_eqB (tgt := 69) dX10_find_63 (by decide) (fun c63 => ?_) (fun c63 => ?_)
  · refine mm_aload_n 0 dX10_find_69 rfl rfl ?_
    refine mm_geti dX10_find_70 rfl fk_X10_73 rfl so_22 ?_
    refine mm_top (v := (fp_s N l k x (nI q)).2.2.1) ((cN_off hz2 (by decide)).trans hE2.2.2.2.1) ?_
    refine mm_if_ge (tgt := 81) dX10_find_73 (by decide) (fun c73 => ?_) (fun c73 => ?_)
    · refine mm_aload_n 0 dX10_find_81 rfl rfl ?_
      refine mm_geti dX10_find_82 rfl fk_X10_73 rfl so_22 ?_
      refine mm_top (v := (fp_s N l k x (nI q)).2.2.1) ((cN_off hz2 (by decide)).trans hE2.2.2.2.1) ?_
      refine mm_iret dX10_find_85 rfl ⟨Nat.le_refl _, Nat.le_refl _⟩ ?_
      exact hq _ _ ⟨by unfold fw; rw [if_neg c63, if_neg (by first | exact Int32.not_lt.mpr c73 | exact c73)], A2, rfl, hE2, wF_t hF0 hF2⟩
    · refine mm_ldc dX10_find_76 rfl kc_X10_87 ?_
      refine mm_goto (tgt := 85) dX10_find_78 (by decide) ?_
      refine mm_iret dX10_find_85 rfl ⟨Nat.le_refl _, Nat.le_refl _⟩ ?_
      exact hq _ _ ⟨by unfold fw; rw [if_neg c63, if_pos (by first | exact c73 | exact Int32.not_le.mp c73)], A2, rfl, hE2, wF_t hF0 hF2⟩
  · refine mm_ldc dX10_find_66 rfl kc_X10_86 ?_
    refine mm_iret dX10_find_68 rfl ⟨Nat.le_refl _, Nat.le_refl _⟩ ?_
    exact hq _ _ ⟨by unfold fw; rw [if_pos c63], A2, rfl, hE2, wF_t hF0 hF2⟩
set_option maxRecDepth 100000 in
set_option maxHeartbeats 600000 in
theorem cb_plan {g : mm_G} {d : Nat} {w h n l k o r : Nat} {A : mm_I} {N : Nat → Int32} (hz : zOK (w * h) n l k o r) (hW : mo_W N w h) {J0 : mm_I} (hJ : J0 201 = N) {x y : Int32} (hd : 18 ≤ d) : mm_Di g zX11_plan d [.ref 0, .int (x), .int (y)] sh_S (cN (w * h) n l k o r A N) (fun r_ J => r_ = op_plan l k J0 x y ∧ ∃ A2, J = cN (w * h) n l k o r A2 N ∧ wF A A2) := by
  obtain ⟨hz1, hz2, hz3, hz4, hz5, hz6⟩ := id hz
  have hc := mo_W_c hW
  obtain ⟨-, -, hw1, hw2, hh1, hh2⟩ := id hW
  refine mm_Di_of (fun Q hq => ?_)
  refine mm_begin (ls := [(0, .ref 0), (1, .int (x)), (2, .int (y))]) (Nat.le_of_ble_eq_true rfl) rfl rfl ?_
  refine mm_iload_n 1 dX11_plan_0 rfl rfl ?_
  refine mm_iconst (v := 1) dX11_plan_1 rfl ?_
  refine mm_bipush (v := 24) dX11_plan_2 rfl ?_
  refine mm_cS3i (dz := d - 1) dX11_plan_4 rfl mzX11_within ml_X11_63 imX11_within (by omega) cx_within (Nat.le_of_ble_eq_true rfl) ⟨Nat.le_refl _, Nat.le_refl _⟩ ?_
  refine mm_if_eqB (tgt := 21) dX11_plan_7 (by decide) (fun c7 => ?_) (fun c7 => ?_)
  · refine mm_ldc dX11_plan_21 rfl kc_X11_67 ?_
    refine mm_iret dX11_plan_23 rfl ⟨Nat.le_refl _, Nat.le_refl _⟩ ?_
    exact hq _ _ ⟨by subst hJ; unfold op_plan; rw [if_neg (fun q => by first | exact c7 q.1 | exact c18 q.2)], A, rfl, wF_r A⟩
  · refine mm_iload_n 2 dX11_plan_10 rfl rfl ?_
    refine mm_iconst (v := 1) dX11_plan_11 rfl ?_
    refine mm_sipush (v := 20000) dX11_plan_12 rfl ?_
    refine mm_cS3i (dz := d - 1) dX11_plan_15 rfl mzX11_within ml_X11_63 imX11_within (by omega) cx_within (Nat.le_of_ble_eq_true rfl) ⟨Nat.le_refl _, Nat.le_refl _⟩ ?_
    refine mm_if_neB (tgt := 24) dX11_plan_18 (by decide) (fun c18 => ?_) (fun c18 => ?_)
    · obtain ⟨q, hqq, rfl⟩ := sp_wi_n 1 20000 (by decide) (by decide) c18
      refine mm_aload_n 0 dX11_plan_24 rfl rfl ?_
      refine mm_getr (b := 1) dX11_plan_25 rfl fk_X11_10 rfl so_0 sr_0_0 ?_
      refine mm_getr (b := 22) dX11_plan_28 rfl fk_X11_309 rfl so_1 sr_1_2 ?_
      refine mm_iload_n 1 dX11_plan_31 rfl rfl ?_
      refine mm_iload_n 2 dX11_plan_32 rfl rfl ?_
      refine mm_aload_n 0 dX11_plan_33 rfl rfl ?_
      refine mm_getr (b := 1) dX11_plan_34 rfl fk_X11_10 rfl so_0 sr_0_0 ?_
      refine mm_getr (b := 17) dX11_plan_37 rfl fk_X11_158 rfl so_1 sr_1_1 ?_
      refine mm_at (pc' := 40) rfl ?_
      refine mm_dV3i (dz := d - 1) dX11_plan_40 rfl mzX10_find ml_X11_322 imX10_find (by omega) so_22 ⟨rfl, rfl⟩ (cg_find hz hW (x := x) (q := q) (by omega) (by omega)) (Nat.le_of_ble_eq_true rfl) ⟨Nat.le_refl _, Nat.le_refl _⟩ (fun rr J2 hJ2 => ?_)
      obtain ⟨hr_, A2, rfl, hE2, hF2⟩ := hJ2
      subst hr_
      refine mm_iret dX11_plan_43 rfl ⟨Nat.le_refl _, Nat.le_refl _⟩ ?_
      refine hq _ _ ⟨?_, A2, rfl, hF2⟩
      subst hJ; unfold op_plan; rw [if_pos ⟨c7, c18⟩]
      by_cases c : fw (fp_s (J0 201) l k x (nI q)) < 0
      · rw [if_neg (fw_n c).1]; exact (fw_n c).2
      · rw [if_pos (fw_p c).1]; exact (fw_p c).2
    · refine mm_ldc dX11_plan_21 rfl kc_X11_67 ?_
      refine mm_iret dX11_plan_23 rfl ⟨Nat.le_refl _, Nat.le_refl _⟩ ?_
      exact hq _ _ ⟨by subst hJ; unfold op_plan; rw [if_neg (fun q => by first | exact c7 q.1 | exact c18 q.2)], A, rfl, wF_r A⟩
set_option maxRecDepth 100000 in
set_option maxHeartbeats 600000 in
theorem cb_planned {g : mm_G} {d : Nat} {w h n l k o r : Nat} {A : mm_I} {N : Nat → Int32} (hz : zOK (w * h) n l k o r) (hW : mo_W N w h) {J0 : mm_I} (hJ : J0 201 = N) {x y z : Int32} (hd : 18 ≤ d) : mm_Di g zX11_planned d [.ref 0, .int (x), .int (y), .int (z)] sh_S (cN (w * h) n l k o r A N) (fun r_ J => r_ = op_planned l k J0 x y z ∧ ∃ A2, J = cN (w * h) n l k o r A2 N ∧ wF A A2) := by
  obtain ⟨hz1, hz2, hz3, hz4, hz5, hz6⟩ := id hz
  have hc := mo_W_c hW
  obtain ⟨-, -, hw1, hw2, hh1, hh2⟩ := id hW
  refine mm_Di_of (fun Q hq => ?_)
  refine mm_begin (ls := [(0, .ref 0), (1, .int (x)), (2, .int (y)), (3, .int (z))]) (Nat.le_of_ble_eq_true rfl) rfl rfl ?_
  refine mm_iload_n 1 dX11_planned_0 rfl rfl ?_
  refine mm_iconst (v := 1) dX11_planned_1 rfl ?_
  refine mm_bipush (v := 24) dX11_planned_2 rfl ?_
  refine mm_cS3i (dz := d - 1) dX11_planned_4 rfl mzX11_within ml_X11_63 imX11_within (by omega) cx_within (Nat.le_of_ble_eq_true rfl) ⟨Nat.le_refl _, Nat.le_refl _⟩ ?_
  refine mm_if_eqB (tgt := 25) dX11_planned_7 (by decide) (fun c7 => ?_) (fun c7 => ?_)
  · refine mm_ldc dX11_planned_25 rfl kc_X11_67 ?_
    refine mm_iret dX11_planned_27 rfl ⟨Nat.le_refl _, Nat.le_refl _⟩ ?_
    exact hq _ _ ⟨by subst hJ; unfold op_planned; first | rw [if_pos (Int32.not_le.mp c22)] | (by_cases c : z < 0; rw [if_pos c]; rw [if_neg c, if_neg (fun q => by first | exact c7 q.1 | exact c18 q.2)]), A, rfl, wF_r A⟩
  · refine mm_iload_n 2 dX11_planned_10 rfl rfl ?_
    refine mm_iconst (v := 1) dX11_planned_11 rfl ?_
    refine mm_sipush (v := 20000) dX11_planned_12 rfl ?_
    refine mm_cS3i (dz := d - 1) dX11_planned_15 rfl mzX11_within ml_X11_63 imX11_within (by omega) cx_within (Nat.le_of_ble_eq_true rfl) ⟨Nat.le_refl _, Nat.le_refl _⟩ ?_
    refine mm_if_eqB (tgt := 25) dX11_planned_18 (by decide) (fun c18 => ?_) (fun c18 => ?_)
    · refine mm_ldc dX11_planned_25 rfl kc_X11_67 ?_
      refine mm_iret dX11_planned_27 rfl ⟨Nat.le_refl _, Nat.le_refl _⟩ ?_
      exact hq _ _ ⟨by subst hJ; unfold op_planned; first | rw [if_pos (Int32.not_le.mp c22)] | (by_cases c : z < 0; rw [if_pos c]; rw [if_neg c, if_neg (fun q => by first | exact c7 q.1 | exact c18 q.2)]), A, rfl, wF_r A⟩
    · refine mm_iload_n 3 dX11_planned_21 rfl rfl ?_
      refine mm_if_ge (tgt := 28) dX11_planned_22 (by decide) (fun c22 => ?_) (fun c22 => ?_)
      · obtain ⟨q, hqq, rfl⟩ := sp_wi_n 1 20000 (by decide) (by decide) c18
        obtain ⟨e, he, rfl⟩ := nI_of (Int32.not_lt.mpr c22)
        refine mm_aload_n 0 dX11_planned_28 rfl rfl ?_
        refine mm_getr (b := 1) dX11_planned_29 rfl fk_X11_10 rfl so_0 sr_0_0 ?_
        refine mm_getr (b := 22) dX11_planned_32 rfl fk_X11_309 rfl so_1 sr_1_2 ?_
        refine mm_iload_n 1 dX11_planned_35 rfl rfl ?_
        refine mm_iload_n 2 dX11_planned_36 rfl rfl ?_
        refine mm_aload_n 0 dX11_planned_37 rfl rfl ?_
        refine mm_getr (b := 1) dX11_planned_38 rfl fk_X11_10 rfl so_0 sr_0_0 ?_
        refine mm_getr (b := 17) dX11_planned_41 rfl fk_X11_158 rfl so_1 sr_1_1 ?_
        refine mm_at (pc' := 44) rfl ?_
        refine mm_dV3i (dz := d - 1) dX11_planned_44 rfl mzX10_find ml_X11_322 imX10_find (by omega) so_22 ⟨rfl, rfl⟩ (cg_find hz hW (x := x) (q := q) (by omega) (by omega)) (Nat.le_of_ble_eq_true rfl) ⟨Nat.le_refl _, Nat.le_refl _⟩ (fun rr J2 hJ2 => ?_)
        obtain ⟨hr_, A2, rfl, hE2, hF2⟩ := hJ2
        subst hr_
        have hb6 := hE2.2.2.2.2.1.2.1
        refine mm_istore (ls' := [(4, .int (fw (fp_s N l k x (nI q)))), (0, .ref 0), (1, .int (x)), (2, .int (nI (q))), (3, .int (nI (e)))]) dX11_planned_47 (by decide) rfl ?_
        refine mm_iload 0 dX11_planned_49 rfl ?_
        refine mm_if_ge (tgt := 57) dX11_planned_51 (by decide) (fun c51 => ?_) (fun c51 => ?_)
        · refine mm_iload_n 4 dX11_planned_57 rfl rfl ?_
          refine mm_aload_n 1 dX11_planned_58 rfl rfl ?_
          refine mm_getr (b := 1) dX11_planned_59 rfl fk_X11_10 rfl so_0 sr_0_0 ?_
          refine mm_getr (b := 22) dX11_planned_62 rfl fk_X11_309 rfl so_1 sr_1_2 ?_
          refine mm_getr (b := 33) dX11_planned_65 rfl fk_X11_326 rfl so_22 sr_22_5 ?_
          refine mm_cV0i (dz := d - 1) dX11_planned_68 rfl mzX5_size ml_X11_236 imX5_size (by omega) so_33 ⟨rfl, rfl⟩ (ct_size rw_33) (Nat.le_of_ble_eq_true rfl) ⟨Nat.le_refl _, Nat.le_refl _⟩ ?_
          refine mm_top (v := nI ((fp_s N l k x (nI q)).2.2.2.1)) ((cN_off hz2 (by decide)).trans hE2.2.2.2.2.1.1) ?_
          refine mm_icmp_geN (e) ((fp_s N l k x (nI q)).2.2.2.1) (tgt := 91) dX11_planned_71 (by decide) (by omega) (by omega) (fun c71 => ?_) (fun c71 => ?_)
          · refine mm_ldc dX11_planned_91 rfl kc_X11_229 ?_
            refine mm_iret dX11_planned_93 rfl ⟨Nat.le_refl _, Nat.le_refl _⟩ ?_
            refine hq _ _ ⟨?_, A2, rfl, hF2⟩
            subst hJ; unfold op_planned; rw [if_neg (nI_pos he), if_pos ⟨c7, c18⟩, if_pos (fw_p (by first | exact c51 | exact Int32.not_lt.mpr c51)).1, if_neg (fun q => by have := (nI_ltI he (by omega)).mp q; omega)]
          · refine mm_aload_n 1 dX11_planned_74 rfl rfl ?_
            refine mm_getr (b := 1) dX11_planned_75 rfl fk_X11_10 rfl so_0 sr_0_0 ?_
            refine mm_getr (b := 22) dX11_planned_78 rfl fk_X11_309 rfl so_1 sr_1_2 ?_
            refine mm_getr (b := 33) dX11_planned_81 rfl fk_X11_326 rfl so_22 sr_22_5 ?_
            refine mm_iload_n 4 dX11_planned_84 rfl rfl ?_
            refine mm_cV1i (dz := d - 1) dX11_planned_85 rfl mzX5_at ml_X11_102 imX5_at (by omega) so_33 ⟨rfl, rfl⟩ (ct_at rw_33 (e) (by omega)) (Nat.le_of_ble_eq_true rfl) ⟨Nat.le_refl _, Nat.le_refl _⟩ ?_
            refine mm_top (v := (fp_s N l k x (nI q)).2.2.2.2 e) ((cN_off hz2 (by decide)).trans (hE2.2.2.2.2.1.2.2 _ (by omega))) ?_
            refine mm_goto (tgt := 93) dX11_planned_88 (by decide) ?_
            refine mm_iret dX11_planned_93 rfl ⟨Nat.le_refl _, Nat.le_refl _⟩ ?_
            refine hq _ _ ⟨?_, A2, rfl, hF2⟩
            subst hJ; unfold op_planned; rw [if_neg (nI_pos he), if_pos ⟨c7, c18⟩, if_pos (fw_p (by first | exact c51 | exact Int32.not_lt.mpr c51)).1, if_pos ((nI_ltI he (by omega)).mpr (by omega)), vv_nI he]
        · refine mm_iload 0 dX11_planned_54 rfl ?_
          refine mm_iret dX11_planned_56 rfl ⟨Nat.le_refl _, Nat.le_refl _⟩ ?_
          refine hq _ _ ⟨?_, A2, rfl, hF2⟩
          subst hJ; unfold op_planned; rw [if_neg (nI_pos he), if_pos ⟨c7, c18⟩, if_neg (fw_n (by first | exact c51 | exact Int32.not_le.mp c51)).1]; exact (fw_n (by first | exact c51 | exact Int32.not_le.mp c51)).2
      · refine mm_ldc dX11_planned_25 rfl kc_X11_67 ?_
        refine mm_iret dX11_planned_27 rfl ⟨Nat.le_refl _, Nat.le_refl _⟩ ?_
        exact hq _ _ ⟨by subst hJ; unfold op_planned; first | rw [if_pos (Int32.not_le.mp c22)] | (by_cases c : z < 0; rw [if_pos c]; rw [if_neg c, if_neg (fun q => by first | exact c7 q.1 | exact c18 q.2)]), A, rfl, wF_r A⟩
