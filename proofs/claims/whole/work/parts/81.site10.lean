/-! THE CLASS: its rules and LOADS -/
set_option maxRecDepth 100000 in
set_option maxHeartbeats 600000 in
theorem cb_rule0 {g : mm_G} {d : Nat} {w h n l k o r : Nat} {A : mm_I} {N : Nat → Int32} (hz : zOK (w * h) n l k o r) (hW : mo_W N w h) {J : mm_I} (hJ : J 201 = N) (hD : mo_D N n) (hK : mo_K N (w * h)) {v : Int32} (hd : 2 ≤ d) : mm_Ci g zX11_rule d [.ref 0, .int (nI (0)), .int (v)] sh_S (cN (w * h) n l k o r A N) ((op_rule J (nI 0) v).1) (cN (w * h) n l k o r A ((op_rule J (nI 0) v).2 201)) := by
  obtain ⟨hz1, hz2, hz3, hz4, hz5, hz6⟩ := id hz
  have hc := mo_W_c hW
  obtain ⟨-, -, hw1, hw2, hh1, hh2⟩ := id hW
  refine mm_Ci_of (fun Q hq => ?_)
  refine mm_begin (ls := [(0, .ref 0), (1, .int (nI (0))), (2, .int (v))]) (Nat.le_of_ble_eq_true rfl) rfl rfl ?_
  refine mm_iload_n 1 dX11_rule_0 rfl rfl ?_
  refine mm_if_ltN (0) (tgt := 20) dX11_rule_1 (by decide) (by omega) ?_
  refine mm_iload_n 1 dX11_rule_4 rfl rfl ?_
  refine mm_gets (j := 3) dX11_rule_5 rfl fs_X11_151 (by decide) ?_
  refine mm_alenK (j := 3) dX11_rule_8 rfl ?_
  refine mm_icmp_ge (tgt := 20) dX11_rule_9 (by decide) (fun q => absurd q (by decide)) (fun _ => ?_)
  refine mm_iload_n 1 dX11_rule_12 rfl rfl ?_
  refine mm_gets (j := 4) dX11_rule_13 rfl fs_X11_155 (by decide) ?_
  refine mm_alenK (j := 4) dX11_rule_16 rfl ?_
  refine mm_icmp_lt (tgt := 23) dX11_rule_17 (by decide) (fun _ => ?_) (fun q => absurd (by decide) q)
  refine mm_iload_n 2 dX11_rule_23 rfl rfl ?_
  refine mm_gets (j := 3) dX11_rule_24 rfl fs_X11_151 (by decide) ?_
  refine mm_iload_n 1 dX11_rule_27 rfl rfl ?_
  refine mm_ialdKN (0) dX11_rule_28 rfl (by omega) (by omega) ?_
  refine mm_top (v := 1) rfl ?_
  refine mm_gets (j := 4) dX11_rule_29 rfl fs_X11_155 (by decide) ?_
  refine mm_iload_n 1 dX11_rule_32 rfl rfl ?_
  refine mm_ialdKN (0) dX11_rule_33 rfl (by omega) (by omega) ?_
  refine mm_top (v := 24) rfl ?_
  refine mm_cS3i (dz := d - 1) dX11_rule_34 rfl mzX11_within ml_X11_63 imX11_within (by omega) cx_within (Nat.le_of_ble_eq_true rfl) ⟨Nat.le_refl _, Nat.le_refl _⟩ ?_
  refine mm_at (pc' := 37) rfl ?_
  refine mm_if_neB (tgt := 43) dX11_rule_37 (by decide) (fun c37 => ?_) (fun c37 => ?_)
  · refine mm_aload_n 0 dX11_rule_43 rfl rfl ?_
    refine mm_getr (b := 1) dX11_rule_44 rfl fk_X11_10 rfl so_0 sr_0_0 ?_
    refine mm_getr (b := 17) dX11_rule_47 rfl fk_X11_158 rfl so_1 sr_1_1 ?_
    refine mm_iload_n 1 dX11_rule_50 rfl rfl ?_
    refine mm_iload_n 2 dX11_rule_51 rfl rfl ?_
    refine mm_cV2i (dz := d - 1) dX11_rule_52 rfl mzX3_change ml_X11_162 imX3_change (by omega) so_17 ⟨rfl, rfl⟩ (cg_change hz hW (j := 0) (by omega)) (Nat.le_of_ble_eq_true rfl) ⟨Nat.le_refl _, Nat.le_refl _⟩ ?_
    refine mm_iret dX11_rule_55 rfl ⟨Nat.le_refl _, Nat.le_refl _⟩ ?_
    subst hJ; exact mm_l2c (F := fun N => cN (w * h) n l k o r A N) (by unfold op_rule; rw [if_neg (fun q => q (Or.inl ⟨by decide, c37⟩)), vv_nI (by omega)]) (by rw [up_201]) hq
  · refine mm_ldc dX11_rule_40 rfl kc_X11_67 ?_
    refine mm_iret dX11_rule_42 rfl ⟨Nat.le_refl _, Nat.le_refl _⟩ ?_
    subst hJ; exact mm_l2c (F := fun N => cN (w * h) n l k o r A N) (by unfold op_rule; rw [if_pos (fun q => by rcases q with q | q | q | q | q; exact c37 q.2; exact absurd q.1 (by decide); exact absurd q.1 (by decide); exact absurd q.1 (by decide); exact absurd q.1 (by decide))]) rfl hq
set_option maxRecDepth 100000 in
set_option maxHeartbeats 600000 in
theorem cb_rule1 {g : mm_G} {d : Nat} {w h n l k o r : Nat} {A : mm_I} {N : Nat → Int32} (hz : zOK (w * h) n l k o r) (hW : mo_W N w h) {J : mm_I} (hJ : J 201 = N) (hD : mo_D N n) (hK : mo_K N (w * h)) {v : Int32} (hd : 2 ≤ d) : mm_Ci g zX11_rule d [.ref 0, .int (nI (1)), .int (v)] sh_S (cN (w * h) n l k o r A N) ((op_rule J (nI 1) v).1) (cN (w * h) n l k o r A ((op_rule J (nI 1) v).2 201)) := by
  obtain ⟨hz1, hz2, hz3, hz4, hz5, hz6⟩ := id hz
  have hc := mo_W_c hW
  obtain ⟨-, -, hw1, hw2, hh1, hh2⟩ := id hW
  refine mm_Ci_of (fun Q hq => ?_)
  refine mm_begin (ls := [(0, .ref 0), (1, .int (nI (1))), (2, .int (v))]) (Nat.le_of_ble_eq_true rfl) rfl rfl ?_
  refine mm_iload_n 1 dX11_rule_0 rfl rfl ?_
  refine mm_if_ltN (1) (tgt := 20) dX11_rule_1 (by decide) (by omega) ?_
  refine mm_iload_n 1 dX11_rule_4 rfl rfl ?_
  refine mm_gets (j := 3) dX11_rule_5 rfl fs_X11_151 (by decide) ?_
  refine mm_alenK (j := 3) dX11_rule_8 rfl ?_
  refine mm_icmp_ge (tgt := 20) dX11_rule_9 (by decide) (fun q => absurd q (by decide)) (fun _ => ?_)
  refine mm_iload_n 1 dX11_rule_12 rfl rfl ?_
  refine mm_gets (j := 4) dX11_rule_13 rfl fs_X11_155 (by decide) ?_
  refine mm_alenK (j := 4) dX11_rule_16 rfl ?_
  refine mm_icmp_lt (tgt := 23) dX11_rule_17 (by decide) (fun _ => ?_) (fun q => absurd (by decide) q)
  refine mm_iload_n 2 dX11_rule_23 rfl rfl ?_
  refine mm_gets (j := 3) dX11_rule_24 rfl fs_X11_151 (by decide) ?_
  refine mm_iload_n 1 dX11_rule_27 rfl rfl ?_
  refine mm_ialdKN (1) dX11_rule_28 rfl (by omega) (by omega) ?_
  refine mm_top (v := 0) rfl ?_
  refine mm_gets (j := 4) dX11_rule_29 rfl fs_X11_155 (by decide) ?_
  refine mm_iload_n 1 dX11_rule_32 rfl rfl ?_
  refine mm_ialdKN (1) dX11_rule_33 rfl (by omega) (by omega) ?_
  refine mm_top (v := 24) rfl ?_
  refine mm_cS3i (dz := d - 1) dX11_rule_34 rfl mzX11_within ml_X11_63 imX11_within (by omega) cx_within (Nat.le_of_ble_eq_true rfl) ⟨Nat.le_refl _, Nat.le_refl _⟩ ?_
  refine mm_at (pc' := 37) rfl ?_
  refine mm_if_neB (tgt := 43) dX11_rule_37 (by decide) (fun c37 => ?_) (fun c37 => ?_)
  · refine mm_aload_n 0 dX11_rule_43 rfl rfl ?_
    refine mm_getr (b := 1) dX11_rule_44 rfl fk_X11_10 rfl so_0 sr_0_0 ?_
    refine mm_getr (b := 17) dX11_rule_47 rfl fk_X11_158 rfl so_1 sr_1_1 ?_
    refine mm_iload_n 1 dX11_rule_50 rfl rfl ?_
    refine mm_iload_n 2 dX11_rule_51 rfl rfl ?_
    refine mm_cV2i (dz := d - 1) dX11_rule_52 rfl mzX3_change ml_X11_162 imX3_change (by omega) so_17 ⟨rfl, rfl⟩ (cg_change hz hW (j := 1) (by omega)) (Nat.le_of_ble_eq_true rfl) ⟨Nat.le_refl _, Nat.le_refl _⟩ ?_
    refine mm_iret dX11_rule_55 rfl ⟨Nat.le_refl _, Nat.le_refl _⟩ ?_
    subst hJ; exact mm_l2c (F := fun N => cN (w * h) n l k o r A N) (by unfold op_rule; rw [if_neg (fun q => q (Or.inr (Or.inl ⟨by decide, c37⟩))), vv_nI (by omega)]) (by rw [up_201]) hq
  · refine mm_ldc dX11_rule_40 rfl kc_X11_67 ?_
    refine mm_iret dX11_rule_42 rfl ⟨Nat.le_refl _, Nat.le_refl _⟩ ?_
    subst hJ; exact mm_l2c (F := fun N => cN (w * h) n l k o r A N) (by unfold op_rule; rw [if_pos (fun q => by rcases q with q | q | q | q | q; exact absurd q.1 (by decide); exact c37 q.2; exact absurd q.1 (by decide); exact absurd q.1 (by decide); exact absurd q.1 (by decide))]) rfl hq
set_option maxRecDepth 100000 in
set_option maxHeartbeats 600000 in
theorem cb_rule2 {g : mm_G} {d : Nat} {w h n l k o r : Nat} {A : mm_I} {N : Nat → Int32} (hz : zOK (w * h) n l k o r) (hW : mo_W N w h) {J : mm_I} (hJ : J 201 = N) (hD : mo_D N n) (hK : mo_K N (w * h)) {v : Int32} (hd : 2 ≤ d) : mm_Ci g zX11_rule d [.ref 0, .int (nI (2)), .int (v)] sh_S (cN (w * h) n l k o r A N) ((op_rule J (nI 2) v).1) (cN (w * h) n l k o r A ((op_rule J (nI 2) v).2 201)) := by
  obtain ⟨hz1, hz2, hz3, hz4, hz5, hz6⟩ := id hz
  have hc := mo_W_c hW
  obtain ⟨-, -, hw1, hw2, hh1, hh2⟩ := id hW
  refine mm_Ci_of (fun Q hq => ?_)
  refine mm_begin (ls := [(0, .ref 0), (1, .int (nI (2))), (2, .int (v))]) (Nat.le_of_ble_eq_true rfl) rfl rfl ?_
  refine mm_iload_n 1 dX11_rule_0 rfl rfl ?_
  refine mm_if_ltN (2) (tgt := 20) dX11_rule_1 (by decide) (by omega) ?_
  refine mm_iload_n 1 dX11_rule_4 rfl rfl ?_
  refine mm_gets (j := 3) dX11_rule_5 rfl fs_X11_151 (by decide) ?_
  refine mm_alenK (j := 3) dX11_rule_8 rfl ?_
  refine mm_icmp_ge (tgt := 20) dX11_rule_9 (by decide) (fun q => absurd q (by decide)) (fun _ => ?_)
  refine mm_iload_n 1 dX11_rule_12 rfl rfl ?_
  refine mm_gets (j := 4) dX11_rule_13 rfl fs_X11_155 (by decide) ?_
  refine mm_alenK (j := 4) dX11_rule_16 rfl ?_
  refine mm_icmp_lt (tgt := 23) dX11_rule_17 (by decide) (fun _ => ?_) (fun q => absurd (by decide) q)
  refine mm_iload_n 2 dX11_rule_23 rfl rfl ?_
  refine mm_gets (j := 3) dX11_rule_24 rfl fs_X11_151 (by decide) ?_
  refine mm_iload_n 1 dX11_rule_27 rfl rfl ?_
  refine mm_ialdKN (2) dX11_rule_28 rfl (by omega) (by omega) ?_
  refine mm_top (v := 0) rfl ?_
  refine mm_gets (j := 4) dX11_rule_29 rfl fs_X11_155 (by decide) ?_
  refine mm_iload_n 1 dX11_rule_32 rfl rfl ?_
  refine mm_ialdKN (2) dX11_rule_33 rfl (by omega) (by omega) ?_
  refine mm_top (v := 9999) rfl ?_
  refine mm_cS3i (dz := d - 1) dX11_rule_34 rfl mzX11_within ml_X11_63 imX11_within (by omega) cx_within (Nat.le_of_ble_eq_true rfl) ⟨Nat.le_refl _, Nat.le_refl _⟩ ?_
  refine mm_at (pc' := 37) rfl ?_
  refine mm_if_neB (tgt := 43) dX11_rule_37 (by decide) (fun c37 => ?_) (fun c37 => ?_)
  · refine mm_aload_n 0 dX11_rule_43 rfl rfl ?_
    refine mm_getr (b := 1) dX11_rule_44 rfl fk_X11_10 rfl so_0 sr_0_0 ?_
    refine mm_getr (b := 17) dX11_rule_47 rfl fk_X11_158 rfl so_1 sr_1_1 ?_
    refine mm_iload_n 1 dX11_rule_50 rfl rfl ?_
    refine mm_iload_n 2 dX11_rule_51 rfl rfl ?_
    refine mm_cV2i (dz := d - 1) dX11_rule_52 rfl mzX3_change ml_X11_162 imX3_change (by omega) so_17 ⟨rfl, rfl⟩ (cg_change hz hW (j := 2) (by omega)) (Nat.le_of_ble_eq_true rfl) ⟨Nat.le_refl _, Nat.le_refl _⟩ ?_
    refine mm_iret dX11_rule_55 rfl ⟨Nat.le_refl _, Nat.le_refl _⟩ ?_
    subst hJ; exact mm_l2c (F := fun N => cN (w * h) n l k o r A N) (by unfold op_rule; rw [if_neg (fun q => q (Or.inr (Or.inr (Or.inl ⟨by decide, c37⟩)))), vv_nI (by omega)]) (by rw [up_201]) hq
  · refine mm_ldc dX11_rule_40 rfl kc_X11_67 ?_
    refine mm_iret dX11_rule_42 rfl ⟨Nat.le_refl _, Nat.le_refl _⟩ ?_
    subst hJ; exact mm_l2c (F := fun N => cN (w * h) n l k o r A N) (by unfold op_rule; rw [if_pos (fun q => by rcases q with q | q | q | q | q; exact absurd q.1 (by decide); exact absurd q.1 (by decide); exact c37 q.2; exact absurd q.1 (by decide); exact absurd q.1 (by decide))]) rfl hq
set_option maxRecDepth 100000 in
set_option maxHeartbeats 600000 in
theorem cb_rule3 {g : mm_G} {d : Nat} {w h n l k o r : Nat} {A : mm_I} {N : Nat → Int32} (hz : zOK (w * h) n l k o r) (hW : mo_W N w h) {J : mm_I} (hJ : J 201 = N) (hD : mo_D N n) (hK : mo_K N (w * h)) {v : Int32} (hd : 2 ≤ d) : mm_Ci g zX11_rule d [.ref 0, .int (nI (3)), .int (v)] sh_S (cN (w * h) n l k o r A N) ((op_rule J (nI 3) v).1) (cN (w * h) n l k o r A ((op_rule J (nI 3) v).2 201)) := by
  obtain ⟨hz1, hz2, hz3, hz4, hz5, hz6⟩ := id hz
  have hc := mo_W_c hW
  obtain ⟨-, -, hw1, hw2, hh1, hh2⟩ := id hW
  refine mm_Ci_of (fun Q hq => ?_)
  refine mm_begin (ls := [(0, .ref 0), (1, .int (nI (3))), (2, .int (v))]) (Nat.le_of_ble_eq_true rfl) rfl rfl ?_
  refine mm_iload_n 1 dX11_rule_0 rfl rfl ?_
  refine mm_if_ltN (3) (tgt := 20) dX11_rule_1 (by decide) (by omega) ?_
  refine mm_iload_n 1 dX11_rule_4 rfl rfl ?_
  refine mm_gets (j := 3) dX11_rule_5 rfl fs_X11_151 (by decide) ?_
  refine mm_alenK (j := 3) dX11_rule_8 rfl ?_
  refine mm_icmp_ge (tgt := 20) dX11_rule_9 (by decide) (fun q => absurd q (by decide)) (fun _ => ?_)
  refine mm_iload_n 1 dX11_rule_12 rfl rfl ?_
  refine mm_gets (j := 4) dX11_rule_13 rfl fs_X11_155 (by decide) ?_
  refine mm_alenK (j := 4) dX11_rule_16 rfl ?_
  refine mm_icmp_lt (tgt := 23) dX11_rule_17 (by decide) (fun _ => ?_) (fun q => absurd (by decide) q)
  refine mm_iload_n 2 dX11_rule_23 rfl rfl ?_
  refine mm_gets (j := 3) dX11_rule_24 rfl fs_X11_151 (by decide) ?_
  refine mm_iload_n 1 dX11_rule_27 rfl rfl ?_
  refine mm_ialdKN (3) dX11_rule_28 rfl (by omega) (by omega) ?_
  refine mm_top (v := 0) rfl ?_
  refine mm_gets (j := 4) dX11_rule_29 rfl fs_X11_155 (by decide) ?_
  refine mm_iload_n 1 dX11_rule_32 rfl rfl ?_
  refine mm_ialdKN (3) dX11_rule_33 rfl (by omega) (by omega) ?_
  refine mm_top (v := 99) rfl ?_
  refine mm_cS3i (dz := d - 1) dX11_rule_34 rfl mzX11_within ml_X11_63 imX11_within (by omega) cx_within (Nat.le_of_ble_eq_true rfl) ⟨Nat.le_refl _, Nat.le_refl _⟩ ?_
  refine mm_at (pc' := 37) rfl ?_
  refine mm_if_neB (tgt := 43) dX11_rule_37 (by decide) (fun c37 => ?_) (fun c37 => ?_)
  · refine mm_aload_n 0 dX11_rule_43 rfl rfl ?_
    refine mm_getr (b := 1) dX11_rule_44 rfl fk_X11_10 rfl so_0 sr_0_0 ?_
    refine mm_getr (b := 17) dX11_rule_47 rfl fk_X11_158 rfl so_1 sr_1_1 ?_
    refine mm_iload_n 1 dX11_rule_50 rfl rfl ?_
    refine mm_iload_n 2 dX11_rule_51 rfl rfl ?_
    refine mm_cV2i (dz := d - 1) dX11_rule_52 rfl mzX3_change ml_X11_162 imX3_change (by omega) so_17 ⟨rfl, rfl⟩ (cg_change hz hW (j := 3) (by omega)) (Nat.le_of_ble_eq_true rfl) ⟨Nat.le_refl _, Nat.le_refl _⟩ ?_
    refine mm_iret dX11_rule_55 rfl ⟨Nat.le_refl _, Nat.le_refl _⟩ ?_
    subst hJ; exact mm_l2c (F := fun N => cN (w * h) n l k o r A N) (by unfold op_rule; rw [if_neg (fun q => q (Or.inr (Or.inr (Or.inr (Or.inl ⟨by decide, c37⟩))))), vv_nI (by omega)]) (by rw [up_201]) hq
  · refine mm_ldc dX11_rule_40 rfl kc_X11_67 ?_
    refine mm_iret dX11_rule_42 rfl ⟨Nat.le_refl _, Nat.le_refl _⟩ ?_
    subst hJ; exact mm_l2c (F := fun N => cN (w * h) n l k o r A N) (by unfold op_rule; rw [if_pos (fun q => by rcases q with q | q | q | q | q; exact absurd q.1 (by decide); exact absurd q.1 (by decide); exact absurd q.1 (by decide); exact c37 q.2; exact absurd q.1 (by decide))]) rfl hq
set_option maxRecDepth 100000 in
set_option maxHeartbeats 600000 in
theorem cb_rule4 {g : mm_G} {d : Nat} {w h n l k o r : Nat} {A : mm_I} {N : Nat → Int32} (hz : zOK (w * h) n l k o r) (hW : mo_W N w h) {J : mm_I} (hJ : J 201 = N) (hD : mo_D N n) (hK : mo_K N (w * h)) {v : Int32} (hd : 2 ≤ d) : mm_Ci g zX11_rule d [.ref 0, .int (nI (4)), .int (v)] sh_S (cN (w * h) n l k o r A N) ((op_rule J (nI 4) v).1) (cN (w * h) n l k o r A ((op_rule J (nI 4) v).2 201)) := by
  obtain ⟨hz1, hz2, hz3, hz4, hz5, hz6⟩ := id hz
  have hc := mo_W_c hW
  obtain ⟨-, -, hw1, hw2, hh1, hh2⟩ := id hW
  refine mm_Ci_of (fun Q hq => ?_)
  refine mm_begin (ls := [(0, .ref 0), (1, .int (nI (4))), (2, .int (v))]) (Nat.le_of_ble_eq_true rfl) rfl rfl ?_
  refine mm_iload_n 1 dX11_rule_0 rfl rfl ?_
  refine mm_if_ltN (4) (tgt := 20) dX11_rule_1 (by decide) (by omega) ?_
  refine mm_iload_n 1 dX11_rule_4 rfl rfl ?_
  refine mm_gets (j := 3) dX11_rule_5 rfl fs_X11_151 (by decide) ?_
  refine mm_alenK (j := 3) dX11_rule_8 rfl ?_
  refine mm_icmp_ge (tgt := 20) dX11_rule_9 (by decide) (fun q => absurd q (by decide)) (fun _ => ?_)
  refine mm_iload_n 1 dX11_rule_12 rfl rfl ?_
  refine mm_gets (j := 4) dX11_rule_13 rfl fs_X11_155 (by decide) ?_
  refine mm_alenK (j := 4) dX11_rule_16 rfl ?_
  refine mm_icmp_lt (tgt := 23) dX11_rule_17 (by decide) (fun _ => ?_) (fun q => absurd (by decide) q)
  refine mm_iload_n 2 dX11_rule_23 rfl rfl ?_
  refine mm_gets (j := 3) dX11_rule_24 rfl fs_X11_151 (by decide) ?_
  refine mm_iload_n 1 dX11_rule_27 rfl rfl ?_
  refine mm_ialdKN (4) dX11_rule_28 rfl (by omega) (by omega) ?_
  refine mm_top (v := 0) rfl ?_
  refine mm_gets (j := 4) dX11_rule_29 rfl fs_X11_155 (by decide) ?_
  refine mm_iload_n 1 dX11_rule_32 rfl rfl ?_
  refine mm_ialdKN (4) dX11_rule_33 rfl (by omega) (by omega) ?_
  refine mm_top (v := 9) rfl ?_
  refine mm_cS3i (dz := d - 1) dX11_rule_34 rfl mzX11_within ml_X11_63 imX11_within (by omega) cx_within (Nat.le_of_ble_eq_true rfl) ⟨Nat.le_refl _, Nat.le_refl _⟩ ?_
  refine mm_at (pc' := 37) rfl ?_
  refine mm_if_neB (tgt := 43) dX11_rule_37 (by decide) (fun c37 => ?_) (fun c37 => ?_)
  · refine mm_aload_n 0 dX11_rule_43 rfl rfl ?_
    refine mm_getr (b := 1) dX11_rule_44 rfl fk_X11_10 rfl so_0 sr_0_0 ?_
    refine mm_getr (b := 17) dX11_rule_47 rfl fk_X11_158 rfl so_1 sr_1_1 ?_
    refine mm_iload_n 1 dX11_rule_50 rfl rfl ?_
    refine mm_iload_n 2 dX11_rule_51 rfl rfl ?_
    refine mm_cV2i (dz := d - 1) dX11_rule_52 rfl mzX3_change ml_X11_162 imX3_change (by omega) so_17 ⟨rfl, rfl⟩ (cg_change hz hW (j := 4) (by omega)) (Nat.le_of_ble_eq_true rfl) ⟨Nat.le_refl _, Nat.le_refl _⟩ ?_
    refine mm_iret dX11_rule_55 rfl ⟨Nat.le_refl _, Nat.le_refl _⟩ ?_
    subst hJ; exact mm_l2c (F := fun N => cN (w * h) n l k o r A N) (by unfold op_rule; rw [if_neg (fun q => q (Or.inr (Or.inr (Or.inr (Or.inr (⟨by decide, c37⟩)))))), vv_nI (by omega)]) (by rw [up_201]) hq
  · refine mm_ldc dX11_rule_40 rfl kc_X11_67 ?_
    refine mm_iret dX11_rule_42 rfl ⟨Nat.le_refl _, Nat.le_refl _⟩ ?_
    subst hJ; exact mm_l2c (F := fun N => cN (w * h) n l k o r A N) (by unfold op_rule; rw [if_pos (fun q => by rcases q with q | q | q | q | q; exact absurd q.1 (by decide); exact absurd q.1 (by decide); exact absurd q.1 (by decide); exact absurd q.1 (by decide); exact c37 q.2)]) rfl hq
set_option maxRecDepth 100000 in
set_option maxHeartbeats 600000 in
theorem cb_ruleN {g : mm_G} {d : Nat} {w h n l k o r : Nat} {A : mm_I} {N : Nat → Int32} (hz : zOK (w * h) n l k o r) (hW : mo_W N w h) {J : mm_I} (hJ : J 201 = N) (hD : mo_D N n) (hK : mo_K N (w * h)) {x v : Int32} (hx : ¬ sp_wi x 0 4) (hd : 2 ≤ d) : mm_Ci g zX11_rule d [.ref 0, .int (x), .int (v)] sh_S (cN (w * h) n l k o r A N) ((op_rule J x v).1) (cN (w * h) n l k o r A ((op_rule J x v).2 201)) := by
  obtain ⟨hz1, hz2, hz3, hz4, hz5, hz6⟩ := id hz
  have hc := mo_W_c hW
  obtain ⟨-, -, hw1, hw2, hh1, hh2⟩ := id hW
  refine mm_Ci_of (fun Q hq => ?_)
  refine mm_begin (ls := [(0, .ref 0), (1, .int (x)), (2, .int (v))]) (Nat.le_of_ble_eq_true rfl) rfl rfl ?_
  refine mm_iload_n 1 dX11_rule_0 rfl rfl ?_
  refine mm_if_lt (tgt := 20) dX11_rule_1 (by decide) (fun c1 => ?_) (fun c1 => ?_)
  · refine mm_ldc dX11_rule_20 rfl kc_X11_67 ?_
    refine mm_iret dX11_rule_22 rfl ⟨Nat.le_refl _, Nat.le_refl _⟩ ?_
    subst hJ; exact mm_l2c (F := fun N => cN (w * h) n l k o r A N) (by unfold op_rule; rw [if_pos (fun q => hx (by rcases q with q | q | q | q | q <;> (rw [q.1]; decide)))]) rfl hq
  · refine mm_iload_n 1 dX11_rule_4 rfl rfl ?_
    refine mm_gets (j := 3) dX11_rule_5 rfl fs_X11_151 (by decide) ?_
    refine mm_alenK (j := 3) dX11_rule_8 rfl ?_
    refine mm_icmp_ge (tgt := 20) dX11_rule_9 (by decide) (fun c9 => ?_) (fun c9 => ?_)
    · refine mm_ldc dX11_rule_20 rfl kc_X11_67 ?_
      refine mm_iret dX11_rule_22 rfl ⟨Nat.le_refl _, Nat.le_refl _⟩ ?_
      subst hJ; exact mm_l2c (F := fun N => cN (w * h) n l k o r A N) (by unfold op_rule; rw [if_pos (fun q => hx (by rcases q with q | q | q | q | q <;> (rw [q.1]; decide)))]) rfl hq
    · exact absurd ⟨Int32.not_lt.mp c1, Int32.not_lt.mp (fun q => c9 (by have := Int32.lt_iff_toInt_lt.mp q; exact Int32.le_iff_toInt_le.mpr (by have e : (4 : Int32).toInt = 4 := rfl; have e2 : (nI 5).toInt = 5 := rfl; omega)))⟩ hx
theorem cb_rule {g : mm_G} {d : Nat} {w h n l k o r : Nat} {A : mm_I} {N : Nat → Int32} (hz : zOK (w * h) n l k o r) (hW : mo_W N w h) {J : mm_I} (hJ : J 201 = N) (hD : mo_D N n) (hK : mo_K N (w * h)) {x v : Int32} (hd : 2 ≤ d) : mm_Ci g zX11_rule d [.ref 0, .int x, .int v] sh_S (cN (w * h) n l k o r A N) (op_rule J x v).1 (cN (w * h) n l k o r A ((op_rule J x v).2 201)) := by
  by_cases hx : sp_wi x 0 4
  · obtain ⟨j, hj, rfl⟩ := sp_wi_nat 4 (by decide) hx
    rcases show j = 0 ∨ j = 1 ∨ j = 2 ∨ j = 3 ∨ j = 4 by omega with e | e | e | e | e <;> subst e
    · exact cb_rule0 hz hW hJ hD hK hd
    · exact cb_rule1 hz hW hJ hD hK hd
    · exact cb_rule2 hz hW hJ hD hK hd
    · exact cb_rule3 hz hW hJ hD hK hd
    · exact cb_rule4 hz hW hJ hD hK hd
  · exact cb_ruleN hz hW hJ hD hK hx hd
