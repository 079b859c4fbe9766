/-! THE CLASS: its power -/
theorem s_l {c n l k o r : Nat} {A : mm_I} {N : Nat → Int32} {a : Nat} (ha : a = 18 ∨ a = 20) : cN c n l k o r A N a 1 = nI l := by
  refine cN_c ?_ (by unfold cn_; rw [if_pos ⟨rfl, ha⟩])
  rw [lo_ato (by omega) (by omega) (by omega) (by omega) (by omega) (by omega) (by omega) (by omega) (by omega) (by omega) (by omega) (by omega) (by omega) (by omega) (by omega), if_neg (by omega)]
theorem cyc_p {N : Nat → Int32} {la lb : Nat} (h2 : N 2 = nI la) (h3 : N 3 = nI lb) (hla : 1 ≤ la ∧ la ≤ 24) (hlb : lb ≤ 24) : 0 < N 2 + N 3 := by
  rw [h2, h3]
  have hh : ∀ a, a ≤ 24 → ∀ b, b ≤ 24 → 1 ≤ a → (0 : Int32) < nI a + nI b := by decide +kernel
  exact hh la (by omega) lb (by omega) hla.1
set_option maxRecDepth 100000 in
set_option maxHeartbeats 600000 in
theorem cg_hour {g : mm_G} {d : Nat} {w h n l k o r : Nat} {A : mm_I} {N : Nat → Int32} (hz : zOK (w * h) n l k o r) (hW : mo_W N w h) {la lb : Nat} (h2 : N 2 = nI la) (h3 : N 3 = nI lb) (hla : 1 ≤ la ∧ la ≤ 24) (hlb : lb ≤ 24) : mm_Ci g zX3_hour d [.ref 17] sh_S (cN (w * h) n l k o r A N) (sp_rest N) (cN (w * h) n l k o r A N) := by
  obtain ⟨hz1, hz2, hz3, hz4, hz5, hz6⟩ := id hz
  have hc := mo_W_c hW
  obtain ⟨-, -, hw1, hw2, hh1, hh2⟩ := id hW
  have hcp := cyc_p h2 h3 hla hlb
  refine mm_Ci_of (fun Q hq => ?_)
  refine mm_begin (ls := [(0, .ref 17)]) (Nat.le_of_ble_eq_true rfl) rfl rfl ?_
  refine mm_aload_n 0 dX3_hour_0 rfl rfl ?_
  refine mm_geti dX3_hour_1 rfl fk_X3_27 rfl so_17 ?_
  refine mm_top (v := N 2) (cN_r (lo_at17.trans rfl)) ?_
  refine mm_aload_n 0 dX3_hour_4 rfl rfl ?_
  refine mm_geti dX3_hour_5 rfl fk_X3_30 rfl so_17 ?_
  refine mm_top (v := N 3) (cN_r (lo_at17.trans rfl)) ?_
  refine mm_iadd dX3_hour_8 ?_
  refine mm_istore_n (ls' := [(1, .int ((N 2) + (N 3))), (0, .ref 17)]) dX3_hour_9 rfl (by decide) rfl ?_
  refine mm_iload_n 0 dX3_hour_10 rfl rfl ?_
  refine mm_if_le (tgt := 23) dX3_hour_11 (by decide) (fun c11 => ?_) (fun c11 => ?_)
  · refine mm_iconst (v := 0) dX3_hour_23 rfl ?_
    refine mm_iret dX3_hour_24 rfl ⟨Nat.le_refl _, Nat.le_refl _⟩ ?_
    first | exact hq | exact absurd hcp (Int32.not_lt.mpr (by assumption))
  · refine mm_aload_n 1 dX3_hour_14 rfl rfl ?_
    refine mm_geti dX3_hour_15 rfl fk_X3_23 rfl so_17 ?_
    refine mm_top (v := N 7) (cN_r (lo_at17.trans rfl)) ?_
    refine mm_iload_n 0 dX3_hour_18 rfl rfl ?_
    refine mm_irem dX3_hour_19 (fun q => by rw [q] at hcp; exact absurd hcp (by decide)) ?_
    refine mm_goto (tgt := 24) dX3_hour_20 (by decide) ?_
    refine mm_iret dX3_hour_24 rfl ⟨Nat.le_refl _, Nat.le_refl _⟩ ?_
    first | exact hq | exact absurd hcp (Int32.not_lt.mpr (by assumption))
set_option maxRecDepth 100000 in
set_option maxHeartbeats 600000 in
theorem cg_light {g : mm_G} {d : Nat} {w h n l k o r : Nat} {A : mm_I} {N : Nat → Int32} (hz : zOK (w * h) n l k o r) (hW : mo_W N w h) {la lb : Nat} (h2 : N 2 = nI la) (h3 : N 3 = nI lb) (hla : 1 ≤ la ∧ la ≤ 24) (hlb : lb ≤ 24) (hd : 1 ≤ d) : mm_Ci g zX3_isLight d [.ref 17] sh_S (cN (w * h) n l k o r A N) (if sp_light N then 1 else 0) (cN (w * h) n l k o r A N) := by
  obtain ⟨hz1, hz2, hz3, hz4, hz5, hz6⟩ := id hz
  have hc := mo_W_c hW
  obtain ⟨-, -, hw1, hw2, hh1, hh2⟩ := id hW
  refine mm_Ci_of (fun Q hq => ?_)
  refine mm_begin (ls := [(0, .ref 17)]) (Nat.le_of_ble_eq_true rfl) rfl rfl ?_
  refine mm_aload_n 0 dX3_isLight_0 rfl rfl ?_
  refine mm_cV0i (dz := d - 1) dX3_isLight_1 rfl mzX3_hour ml_X3_52 imX3_hour (by omega) so_17 ⟨rfl, rfl⟩ (cg_hour hz hW h2 h3 hla hlb) (Nat.le_of_ble_eq_true rfl) ⟨Nat.le_refl _, Nat.le_refl _⟩ ?_
  refine mm_aload_n 0 dX3_isLight_4 rfl rfl ?_
  refine mm_geti dX3_isLight_5 rfl fk_X3_27 rfl so_17 ?_
  refine mm_top (v := N 2) (cN_r (lo_at17.trans rfl)) ?_
  refine mm_icmp_ge (tgt := 15) dX3_isLight_8 (by decide) (fun c8 => ?_) (fun c8 => ?_)
  · refine mm_iconst (v := 0) dX3_isLight_15 rfl ?_
    refine mm_zret dX3_isLight_16 rfl (by decide) ⟨Nat.le_refl _, Nat.le_refl _⟩ ?_
    rw [if_neg (by first | exact Int32.not_le.mp c8 | exact Int32.not_lt.mpr c8)] at hq; exact hq
  · refine mm_iconst (v := 1) dX3_isLight_11 rfl ?_
    refine mm_goto (tgt := 16) dX3_isLight_12 (by decide) ?_
    refine mm_zret dX3_isLight_16 rfl (by decide) ⟨Nat.le_refl _, Nat.le_refl _⟩ ?_
    rw [if_pos (by first | exact Int32.not_le.mp c8 | exact Int32.not_lt.mpr c8)] at hq; exact hq
set_option maxRecDepth 100000 in
set_option maxHeartbeats 600000 in
theorem cb_base {g : mm_G} {d : Nat} {w h n l k o r : Nat} {A : mm_I} {N : Nat → Int32} (hz : zOK (w * h) n l k o r) (hW : mo_W N w h) {J : mm_I} (hJ : J 201 = N) (hD : mo_D N n) (hK : mo_K N (w * h)) {la lb : Nat} (h2 : N 2 = nI la) (h3 : N 3 = nI lb) (hla : 1 ≤ la ∧ la ≤ 24) (hlb : lb ≤ 24) {x : Int32} (hd : 3 ≤ d) : mm_Ci g zX11_base d [.ref 0, .int (x)] sh_S (cN (w * h) n l k o r A N) (op_base J x) (cN (w * h) n l k o r A N) := by
  obtain ⟨hz1, hz2, hz3, hz4, hz5, hz6⟩ := id hz
  have hc := mo_W_c hW
  obtain ⟨-, -, hw1, hw2, hh1, hh2⟩ := id hW
  refine mm_Ci_of (fun Q hq => ?_)
  refine mm_begin (ls := [(0, .ref 0), (1, .int (x))]) (Nat.le_of_ble_eq_true rfl) rfl rfl ?_
  refine mm_aload_n 0 dX11_base_0 rfl rfl ?_
  refine mm_getr (b := 1) dX11_base_1 rfl fk_X11_10 rfl so_0 sr_0_0 ?_
  refine mm_getr (b := 17) dX11_base_4 rfl fk_X11_158 rfl so_1 sr_1_1 ?_
  refine mm_astore_n (ls' := [(2, .ref 17), (0, .ref 0), (1, .int (x))]) dX11_base_7 rfl (by decide) rfl ?_
  refine mm_iload_n 2 dX11_base_8 rfl rfl ?_
  by_cases e9_0 : (x) = 0
  · refine mm_tabIn (0) (tgt := 60) dX11_base_9 e9_0 (by decide) (by decide) rfl (by decide) ?_
    refine mm_aload_n 0 dX11_base_60 rfl rfl ?_
    refine mm_geti dX11_base_61 rfl fk_X11_174 rfl so_17 ?_
    refine mm_top (v := N 7) (cN_r (lo_at17.trans rfl)) ?_
    refine mm_iret dX11_base_64 rfl ⟨Nat.le_refl _, Nat.le_refl _⟩ ?_
    subst hJ; subst e9_0; exact mm_l1 (by unfold op_base; rw [if_pos (by decide)]) hq
  by_cases e9_1 : (x) = 1
  · refine mm_tabIn (1) (tgt := 65) dX11_base_9 e9_1 (by decide) (by decide) rfl (by decide) ?_
    refine mm_aload_n 0 dX11_base_65 rfl rfl ?_
    refine mm_cV0i (dz := d - 1) dX11_base_66 rfl mzX3_isLight ml_X11_178 imX3_isLight (by omega) so_17 ⟨rfl, rfl⟩ (cg_light hz hW h2 h3 hla hlb (by omega)) (Nat.le_of_ble_eq_true rfl) ⟨Nat.le_refl _, Nat.le_refl _⟩ ?_
    refine mm_cS1i (dz := d - 1) dX11_base_69 rfl mzX11_asBit ml_X11_118 imX11_asBit (by omega) cx_asBit (Nat.le_of_ble_eq_true rfl) ⟨Nat.le_refl _, Nat.le_refl _⟩ ?_
    refine mm_iret dX11_base_72 rfl ⟨Nat.le_refl _, Nat.le_refl _⟩ ?_
    subst hJ; subst e9_1; exact mm_l1 (by unfold op_base; rw [if_neg (by decide), if_pos (by decide)]) hq
  by_cases e9_2 : (x) = 2
  · refine mm_tabIn (2) (tgt := 73) dX11_base_9 e9_2 (by decide) (by decide) rfl (by decide) ?_
    refine mm_aload_n 0 dX11_base_73 rfl rfl ?_
    refine mm_geti dX11_base_74 rfl fk_X11_182 rfl so_17 ?_
    refine mm_top (v := N 4) (cN_r (lo_at17.trans rfl)) ?_
    refine mm_iret dX11_base_77 rfl ⟨Nat.le_refl _, Nat.le_refl _⟩ ?_
    subst hJ; subst e9_2; exact mm_l1 (by unfold op_base; rw [if_neg (by decide), if_neg (by decide), if_pos (by decide)]) hq
  by_cases e9_3 : (x) = 3
  · refine mm_tabIn (3) (tgt := 78) dX11_base_9 e9_3 (by decide) (by decide) rfl (by decide) ?_
    refine mm_aload_n 0 dX11_base_78 rfl rfl ?_
    refine mm_geti dX11_base_79 rfl fk_X11_185 rfl so_17 ?_
    refine mm_top (v := N 5) (cN_r (lo_at17.trans rfl)) ?_
    refine mm_iret dX11_base_82 rfl ⟨Nat.le_refl _, Nat.le_refl _⟩ ?_
    subst hJ; subst e9_3; exact mm_l1 (by unfold op_base; rw [if_neg (by decide), if_neg (by decide), if_neg (by decide), if_pos (by decide)]) hq
  by_cases e9_4 : (x) = 4
  · refine mm_tabIn (4) (tgt := 83) dX11_base_9 e9_4 (by decide) (by decide) rfl (by decide) ?_
    refine mm_aload_n 0 dX11_base_83 rfl rfl ?_
    refine mm_geti dX11_base_84 rfl fk_X11_188 rfl so_17 ?_
    refine mm_top (v := N 8) (cN_r (lo_at17.trans rfl)) ?_
    refine mm_iret dX11_base_87 rfl ⟨Nat.le_refl _, Nat.le_refl _⟩ ?_
    subst hJ; subst e9_4; exact mm_l1 (by unfold op_base; rw [if_neg (by decide), if_neg (by decide), if_neg (by decide), if_neg (by decide), if_pos (by decide)]) hq
  by_cases e9_5 : (x) = 5
  · refine mm_tabIn (5) (tgt := 88) dX11_base_9 e9_5 (by decide) (by decide) rfl (by decide) ?_
    refine mm_aload_n 0 dX11_base_88 rfl rfl ?_
    refine mm_geti dX11_base_89 rfl fk_X11_191 rfl so_17 ?_
    refine mm_top (v := N 9) (cN_r (lo_at17.trans rfl)) ?_
    refine mm_iret dX11_base_92 rfl ⟨Nat.le_refl _, Nat.le_refl _⟩ ?_
    subst hJ; subst e9_5; exact mm_l1 (by unfold op_base; rw [if_neg (by decide), if_neg (by decide), if_neg (by decide), if_neg (by decide), if_neg (by decide), if_pos (by decide)]) hq
  by_cases e9_6 : (x) = 6
  · refine mm_tabIn (6) (tgt := 93) dX11_base_9 e9_6 (by decide) (by decide) rfl (by decide) ?_
    refine mm_aload_n 1 dX11_base_93 rfl rfl ?_
    refine mm_getr (b := 1) dX11_base_94 rfl fk_X11_10 rfl so_0 sr_0_0 ?_
    refine mm_getr (b := 2) dX11_base_97 rfl fk_X11_72 rfl so_1 sr_1_0 ?_
    refine mm_getr (b := 11) dX11_base_100 rfl fk_X11_148 rfl so_2 sr_2_6 ?_
    refine mm_iconst (v := 0) dX11_base_103 rfl ?_
    refine mm_cV1i (dz := d - 1) dX11_base_104 rfl mzX5_at ml_X11_102 imX5_at (by omega) so_11 ⟨rfl, rfl⟩ (ct_at rw_11 (0) (by omega)) (Nat.le_of_ble_eq_true rfl) ⟨Nat.le_refl _, Nat.le_refl _⟩ ?_
    refine mm_top (v := N (10 + 0)) (cN_r (lo_at12.trans (if_pos (by omega)))) ?_
    refine mm_iret dX11_base_107 rfl ⟨Nat.le_refl _, Nat.le_refl _⟩ ?_
    subst hJ; subst e9_6; exact mm_l1 (by unfold op_base; rw [if_neg (by decide), if_neg (by decide), if_neg (by decide), if_neg (by decide), if_neg (by decide), if_neg (by decide), if_pos (by decide)]) hq
  by_cases e9_7 : (x) = 7
  · refine mm_tabIn (7) (tgt := 108) dX11_base_9 e9_7 (by decide) (by decide) rfl (by decide) ?_
    refine mm_aload_n 1 dX11_base_108 rfl rfl ?_
    refine mm_getr (b := 1) dX11_base_109 rfl fk_X11_10 rfl so_0 sr_0_0 ?_
    refine mm_getr (b := 2) dX11_base_112 rfl fk_X11_72 rfl so_1 sr_1_0 ?_
    refine mm_getr (b := 11) dX11_base_115 rfl fk_X11_148 rfl so_2 sr_2_6 ?_
    refine mm_iconst (v := 1) dX11_base_118 rfl ?_
    refine mm_cV1i (dz := d - 1) dX11_base_119 rfl mzX5_at ml_X11_102 imX5_at (by omega) so_11 ⟨rfl, rfl⟩ (ct_at rw_11 (1) (by omega)) (Nat.le_of_ble_eq_true rfl) ⟨Nat.le_refl _, Nat.le_refl _⟩ ?_
    refine mm_top (v := N (10 + 1)) (cN_r (lo_at12.trans (if_pos (by omega)))) ?_
    refine mm_iret dX11_base_122 rfl ⟨Nat.le_refl _, Nat.le_refl _⟩ ?_
    subst hJ; subst e9_7; exact mm_l1 (by unfold op_base; rw [if_neg (by decide), if_neg (by decide), if_neg (by decide), if_neg (by decide), if_neg (by decide), if_neg (by decide), if_neg (by decide), if_pos (by decide)]) hq
  by_cases e9_8 : (x) = 8
  · refine mm_tabIn (8) (tgt := 123) dX11_base_9 e9_8 (by decide) (by decide) rfl (by decide) ?_
    refine mm_aload_n 1 dX11_base_123 rfl rfl ?_
    refine mm_getr (b := 1) dX11_base_124 rfl fk_X11_10 rfl so_0 sr_0_0 ?_
    refine mm_getr (b := 2) dX11_base_127 rfl fk_X11_72 rfl so_1 sr_1_0 ?_
    refine mm_getr (b := 11) dX11_base_130 rfl fk_X11_148 rfl so_2 sr_2_6 ?_
    refine mm_iconst (v := 2) dX11_base_133 rfl ?_
    refine mm_cV1i (dz := d - 1) dX11_base_134 rfl mzX5_at ml_X11_102 imX5_at (by omega) so_11 ⟨rfl, rfl⟩ (ct_at rw_11 (2) (by omega)) (Nat.le_of_ble_eq_true rfl) ⟨Nat.le_refl _, Nat.le_refl _⟩ ?_
    refine mm_top (v := N (10 + 2)) (cN_r (lo_at12.trans (if_pos (by omega)))) ?_
    refine mm_iret dX11_base_137 rfl ⟨Nat.le_refl _, Nat.le_refl _⟩ ?_
    subst hJ; subst e9_8; exact mm_l1 (by unfold op_base; rw [if_neg (by decide), if_neg (by decide), if_neg (by decide), if_neg (by decide), if_neg (by decide), if_neg (by decide), if_neg (by decide), if_neg (by decide), if_pos (by decide)]) hq
  refine mm_tabOut 0 9 (tgt := 138) dX11_base_9 rfl (by decide) (by intro k hk q; rcases (show k = 0 ∨ k = 1 ∨ k = 2 ∨ k = 3 ∨ k = 4 ∨ k = 5 ∨ k = 6 ∨ k = 7 ∨ k = 8 by omega) with rfl | rfl | rfl | rfl | rfl | rfl | rfl | rfl | rfl <;> first | exact e9_0 q | exact e9_1 q | exact e9_2 q | exact e9_3 q | exact e9_4 q | exact e9_5 q | exact e9_6 q | exact e9_7 q | exact e9_8 q) (by decide) ?_
  refine mm_ldc dX11_base_138 rfl kc_X11_67 ?_
  refine mm_iret dX11_base_140 rfl ⟨Nat.le_refl _, Nat.le_refl _⟩ ?_
  subst hJ; exact mm_l1 (by unfold op_base; rw [if_neg e9_0, if_neg e9_1, if_neg e9_2, if_neg e9_3, if_neg e9_4, if_neg e9_5, if_neg e9_6, if_neg e9_7, if_neg e9_8]) hq
set_option maxRecDepth 100000 in
set_option maxHeartbeats 600000 in
theorem cg_change {g : mm_G} {d : Nat} {w h n l k o r : Nat} {A : mm_I} {N : Nat → Int32} (hz : zOK (w * h) n l k o r) (hW : mo_W N w h) {j : Nat} {v : Int32} (hj : j ≤ 4) : mm_Ci g zX3_change d [.ref 17, .int (nI (j)), .int (v)] sh_S (cN (w * h) n l k o r A N) (N (2 + j)) (cN (w * h) n l k o r A (upd N (2 + j) v)) := by
  obtain ⟨hz1, hz2, hz3, hz4, hz5, hz6⟩ := id hz
  have hc := mo_W_c hW
  obtain ⟨-, -, hw1, hw2, hh1, hh2⟩ := id hW
  refine mm_Ci_of (fun Q hq => ?_)
  refine mm_begin (ls := [(0, .ref 17), (1, .int (nI (j))), (2, .int (v))]) (Nat.le_of_ble_eq_true rfl) rfl rfl ?_
  refine mm_iload_n 1 dX3_change_0 rfl rfl ?_
  by_cases e1_0 : (j) = 0
  · refine mm_tabIn (0) (tgt := 32) dX3_change_1 (by rw [e1_0]; rfl) (by decide) (by decide) rfl (by decide) ?_
    refine mm_aload_n 0 dX3_change_32 rfl rfl ?_
    refine mm_geti dX3_change_33 rfl fk_X3_27 rfl so_17 ?_
    refine mm_top (v := N 2) (cN_r (lo_at17.trans rfl)) ?_
    refine mm_istore_n (ls' := [(3, .int (N 2)), (0, .ref 17), (1, .int (nI (j))), (2, .int (v))]) dX3_change_36 rfl (by decide) rfl ?_
    refine mm_aload_n 1 dX3_change_37 rfl rfl ?_
    refine mm_iload_n 3 dX3_change_38 rfl rfl ?_
    refine mm_puti dX3_change_39 rfl fk_X3_27 rfl fv_3_1 so_17 ?_
    refine mm_iload_n 0 dX3_change_42 rfl rfl ?_
    refine mm_iret dX3_change_43 rfl ⟨Nat.le_refl _, Nat.le_refl _⟩ ?_
    have e : j = 0 := by omega
    subst e
    rw [← show mm_up (cN (w * h) n l k o r A N) 17 1 v = cN (w * h) n l k o r A (upd N (2 + 0) v) from cN_up hz (lo_at17.trans rfl) (sn_up (by omega) hz.1)] at hq; exact hq
  by_cases e1_1 : (j) = 1
  · refine mm_tabIn (1) (tgt := 44) dX3_change_1 (by rw [e1_1]; rfl) (by decide) (by decide) rfl (by decide) ?_
    refine mm_aload_n 0 dX3_change_44 rfl rfl ?_
    refine mm_geti dX3_change_45 rfl fk_X3_30 rfl so_17 ?_
    refine mm_top (v := N 3) (cN_r (lo_at17.trans rfl)) ?_
    refine mm_istore_n (ls' := [(3, .int (N 3)), (0, .ref 17), (1, .int (nI (j))), (2, .int (v))]) dX3_change_48 rfl (by decide) rfl ?_
    refine mm_aload_n 1 dX3_change_49 rfl rfl ?_
    refine mm_iload_n 3 dX3_change_50 rfl rfl ?_
    refine mm_puti dX3_change_51 rfl fk_X3_30 rfl fv_3_2 so_17 ?_
    refine mm_iload_n 0 dX3_change_54 rfl rfl ?_
    refine mm_iret dX3_change_55 rfl ⟨Nat.le_refl _, Nat.le_refl _⟩ ?_
    have e : j = 1 := by omega
    subst e
    rw [← show mm_up (cN (w * h) n l k o r A N) 17 2 v = cN (w * h) n l k o r A (upd N (2 + 1) v) from cN_up hz (lo_at17.trans rfl) (sn_up (by omega) hz.1)] at hq; exact hq
  by_cases e1_2 : (j) = 2
  · refine mm_tabIn (2) (tgt := 56) dX3_change_1 (by rw [e1_2]; rfl) (by decide) (by decide) rfl (by decide) ?_
    refine mm_aload_n 0 dX3_change_56 rfl rfl ?_
    refine mm_geti dX3_change_57 rfl fk_X3_33 rfl so_17 ?_
    refine mm_top (v := N 4) (cN_r (lo_at17.trans rfl)) ?_
    refine mm_istore_n (ls' := [(3, .int (N 4)), (0, .ref 17), (1, .int (nI (j))), (2, .int (v))]) dX3_change_60 rfl (by decide) rfl ?_
    refine mm_aload_n 1 dX3_change_61 rfl rfl ?_
    refine mm_iload_n 3 dX3_change_62 rfl rfl ?_
    refine mm_puti dX3_change_63 rfl fk_X3_33 rfl fv_3_3 so_17 ?_
    refine mm_iload_n 0 dX3_change_66 rfl rfl ?_
    refine mm_iret dX3_change_67 rfl ⟨Nat.le_refl _, Nat.le_refl _⟩ ?_
    have e : j = 2 := by omega
    subst e
    rw [← show mm_up (cN (w * h) n l k o r A N) 17 3 v = cN (w * h) n l k o r A (upd N (2 + 2) v) from cN_up hz (lo_at17.trans rfl) (sn_up (by omega) hz.1)] at hq; exact hq
  by_cases e1_3 : (j) = 3
  · refine mm_tabIn (3) (tgt := 68) dX3_change_1 (by rw [e1_3]; rfl) (by decide) (by decide) rfl (by decide) ?_
    refine mm_aload_n 0 dX3_change_68 rfl rfl ?_
    refine mm_geti dX3_change_69 rfl fk_X3_36 rfl so_17 ?_
    refine mm_top (v := N 5) (cN_r (lo_at17.trans rfl)) ?_
    refine mm_istore_n (ls' := [(3, .int (N 5)), (0, .ref 17), (1, .int (nI (j))), (2, .int (v))]) dX3_change_72 rfl (by decide) rfl ?_
    refine mm_aload_n 1 dX3_change_73 rfl rfl ?_
    refine mm_iload_n 3 dX3_change_74 rfl rfl ?_
    refine mm_puti dX3_change_75 rfl fk_X3_36 rfl fv_3_4 so_17 ?_
    refine mm_iload_n 0 dX3_change_78 rfl rfl ?_
    refine mm_iret dX3_change_79 rfl ⟨Nat.le_refl _, Nat.le_refl _⟩ ?_
    have e : j = 3 := by omega
    subst e
    rw [← show mm_up (cN (w * h) n l k o r A N) 17 4 v = cN (w * h) n l k o r A (upd N (2 + 3) v) from cN_up hz (lo_at17.trans rfl) (sn_up (by omega) hz.1)] at hq; exact hq
  refine mm_tabOut 0 4 (tgt := 80) dX3_change_1 rfl (by decide) (fun k hk q => by have q := (nI_eq (by omega) (by omega)).mp q; omega) (by decide) ?_
  refine mm_aload_n 0 dX3_change_80 rfl rfl ?_
  refine mm_geti dX3_change_81 rfl fk_X3_39 rfl so_17 ?_
  refine mm_top (v := N 6) (cN_r (lo_at17.trans rfl)) ?_
  refine mm_istore_n (ls' := [(3, .int (N 6)), (0, .ref 17), (1, .int (nI (j))), (2, .int (v))]) dX3_change_84 rfl (by decide) rfl ?_
  refine mm_aload_n 1 dX3_change_85 rfl rfl ?_
  refine mm_iload_n 3 dX3_change_86 rfl rfl ?_
  refine mm_puti dX3_change_87 rfl fk_X3_39 rfl fv_3_5 so_17 ?_
  refine mm_iload_n 0 dX3_change_90 rfl rfl ?_
  refine mm_iret dX3_change_91 rfl ⟨Nat.le_refl _, Nat.le_refl _⟩ ?_
  have e : j = 4 := by omega
  subst e
  rw [← show mm_up (cN (w * h) n l k o r A N) 17 5 v = cN (w * h) n l k o r A (upd N (2 + 4) v) from cN_up hz (lo_at17.trans rfl) (sn_up (by omega) hz.1)] at hq; exact hq
