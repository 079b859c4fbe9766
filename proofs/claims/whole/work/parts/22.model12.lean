/-! THE REFERENCE: what machines do -/
def op_costs (J : mm_I) (m : Nat) (c v : Int32) : mm_I := mm_up (mm_up J 201 (630 + 40 * m + 2) (J 201 (630 + 40 * m + 2) - c)) 201 (630 + 40 * m + 3) (sp_min 100 (J 201 (630 + 40 * m + 3) + v))
def sc_n (J : mm_I) (m a : Nat) : Int32 := sp_min (sp_min 5 (J 201 a)) (10 - J 201 (630 + 40 * m + 4))
abbrev sc_P (J : mm_I) (m a : Nat) (what : Int32) : Prop := sp_mk (J 201 (630 + 40 * m + 0)) 1 ∧ ¬ (0 < J 201 (630 + 40 * m + 4) ∧ ¬ J 201 (630 + 40 * m + 5) = what) ∧ ¬ J 201 (630 + 40 * m + 2) < 3 ∧ 0 < sc_n J m a
def op_sc1 (J : mm_I) (m a : Nat) (what : Int32) : mm_I := if sc_P J m a what then op_costs (mm_up (mm_up (mm_up J 201 a (J 201 a - sc_n J m a)) 201 (630 + 40 * m + 4) (J 201 (630 + 40 * m + 4) + sc_n J m a)) 201 (630 + 40 * m + 5) what) m 3 2 else J
def op_scoops (J : mm_I) (m c : Nat) : mm_I := if J 201 (30 + c) = 2 then op_sc1 J m (190 + c) 1 else op_sc1 J m (110 + c) 0
def op_dr1 (J : mm_I) (m a : Nat) : mm_I := op_costs (mm_up (mm_up J 201 a (J 201 a + J 201 (630 + 40 * m + 4))) 201 (630 + 40 * m + 4) 0) m 1 0
def op_drops (J : mm_I) (m c wh : Nat) : mm_I := if J 201 (630 + 40 * m + 4) = 0 then J else if J 201 (30 + c) = 4 then op_dr1 J m (10 + wh) else if wh = 0 then op_dr1 J m (110 + c) else op_dr1 J m (190 + c)
def op_fuses (J : mm_I) (m c : Nat) : mm_I := if J 201 (630 + 40 * m + 0) = 2 ∧ ¬ J 201 (630 + 40 * m + 2) < 6 ∧ J 201 (30 + c) = 0 ∧ ¬ J 201 (110 + c) < 10 then op_costs (mm_up (mm_up (mm_up J 201 (30 + c) 3) 201 (110 + c) (J 201 (110 + c) - 10)) 201 14 (J 201 14 + 10)) m 6 3 else J
def ch_n (J : mm_I) (m : Nat) : Int32 := sp_min 20 (sp_min (J 201 4) (100 - J 201 (630 + 40 * m + 2)))
def op_charges (J : mm_I) (m c : Nat) : mm_I := if J 201 (30 + c) = 4 then mm_up (mm_up J 201 4 (J 201 4 - ch_n J m)) 201 (630 + 40 * m + 2) (J 201 (630 + 40 * m + 2) + ch_n J m) else J
def op_bl (J : mm_I) (m : Nat) : Nat → mm_I
  | 0 => J
  | s + 1 => mm_up (op_bl J m s) 201 (630 + 40 * m + (8 + s)) (-1)
def op_begin (J : mm_I) (m p : Nat) : mm_I := op_bl (mm_up (mm_up J 201 (630 + 40 * m + 6) (if J 201 (1226 + (418 * p)) = 0 then -1 else nI p)) 201 (630 + 40 * m + 7) 0) m 32
set_option maxRecDepth 100000 in
set_option maxHeartbeats 600000 in
theorem cm_costs {g : mm_G} {I : mm_I} {d : Nat} {m : Nat} (hm5 : m < 5) {c v : Int32} (hd : 1 ≤ d) : mm_Cv g zX12_costs d [.ref 200, .int (nI m), .int c, .int v] sh_S I (op_costs I m c v) := by
  refine mm_Cv_of (fun Q hq => ?_)
  refine mm_begin (ls := [(0, .ref 200), (1, .int (nI (m))), (2, .int (c)), (3, .int (v))]) (Nat.le_of_ble_eq_true rfl) rfl rfl ?_
  refine mm_aload_n 0 dX12_costs_0 rfl rfl ?_
  refine mm_getr (b := 201) dX12_costs_1 rfl fk_X12_9 rfl so_200 sr_200_0 ?_
  refine mm_iload_n 1 dX12_costs_4 rfl rfl ?_
  refine mm_iconst (v := 2) dX12_costs_5 rfl ?_
  refine mm_cS2i (dz := d - 1) dX12_costs_6 rfl mzX12_of ml_X12_87 imX12_of (by omega) (cm_of (m) (2)) (Nat.le_of_ble_eq_true rfl) ⟨Nat.le_refl _, Nat.le_refl _⟩ ?_
  refine mm_dup2 dX12_costs_9 rfl rfl ?_
  refine mm_ialdN (630 + 40 * m + 2) dX12_costs_10 sa_201 (by omega) (by omega) ?_
  refine mm_iload_n 2 dX12_costs_11 rfl rfl ?_
  refine mm_at (pc' := 12) rfl ?_
  refine mm_isub dX12_costs_12 ?_
  refine mm_iastN (630 + 40 * m + 2) dX12_costs_13 sa_201 (by omega) (by omega) ?_
  refine mm_aload_n 0 dX12_costs_14 rfl rfl ?_
  refine mm_getr (b := 201) dX12_costs_15 rfl fk_X12_9 rfl so_200 sr_200_0 ?_
  refine mm_iload_n 1 dX12_costs_18 rfl rfl ?_
  refine mm_iconst (v := 3) dX12_costs_19 rfl ?_
  refine mm_cS2i (dz := d - 1) dX12_costs_20 rfl mzX12_of ml_X12_87 imX12_of (by omega) (cm_of (m) (3)) (Nat.le_of_ble_eq_true rfl) ⟨Nat.le_refl _, Nat.le_refl _⟩ ?_
  refine mm_bipush (v := 100) dX12_costs_23 rfl ?_
  refine mm_at (pc' := 25) rfl ?_
  refine mm_aload_n 0 dX12_costs_25 rfl rfl ?_
  refine mm_getr (b := 201) dX12_costs_26 rfl fk_X12_9 rfl so_200 sr_200_0 ?_
  refine mm_iload_n 1 dX12_costs_29 rfl rfl ?_
  refine mm_iconst (v := 3) dX12_costs_30 rfl ?_
  refine mm_cS2i (dz := d - 1) dX12_costs_31 rfl mzX12_of ml_X12_87 imX12_of (by omega) (cm_of (m) (3)) (Nat.le_of_ble_eq_true rfl) ⟨Nat.le_refl _, Nat.le_refl _⟩ ?_
  refine mm_ialdN (630 + 40 * m + 3) dX12_costs_34 sa_201 (by omega) (by omega) ?_
  refine mm_top (v := I 201 (630 + 40 * m + 3)) (by rw [mm_up_ni (by omega)]) ?_
  refine mm_iload_n 3 dX12_costs_35 rfl rfl ?_
  refine mm_iadd dX12_costs_36 ?_
  refine mm_at (pc' := 37) rfl ?_
  refine mm_min dX12_costs_37 rfl ml_X12_106 jm_min (by omega) (Nat.le_of_ble_eq_true rfl) ⟨Nat.le_refl _, Nat.le_refl _⟩ ?_
  refine mm_iastN (630 + 40 * m + 3) dX12_costs_40 sa_201 (by omega) (by omega) ?_
  refine mm_vret dX12_costs_41 rfl ⟨Nat.le_refl _, Nat.le_refl _⟩ ?_
  exact hq
set_option maxRecDepth 100000 in
set_option maxHeartbeats 600000 in
theorem cm_scoops {g : mm_G} {I : mm_I} {d : Nat} {m : Nat} (hm5 : m < 5) {c : Nat} (hc1 : I 201 (630 + 40 * m + 1) = nI c) (hcl : c < 80) (hd : 2 ≤ d) : mm_Cv g zX12_scoops d [.ref 200, .int (nI m)] sh_S I (op_scoops I m c) := by
  refine mm_Cv_of (fun Q hq => ?_)
  refine mm_begin (ls := [(0, .ref 200), (1, .int (nI (m)))]) (Nat.le_of_ble_eq_true rfl) rfl rfl ?_
  refine mm_aload_n 0 dX12_scoops_0 rfl rfl ?_
  refine mm_getr (b := 201) dX12_scoops_1 rfl fk_X12_9 rfl so_200 sr_200_0 ?_
  refine mm_iload_n 1 dX12_scoops_4 rfl rfl ?_
  refine mm_iconst (v := 1) dX12_scoops_5 rfl ?_
  refine mm_cS2i (dz := d - 1) dX12_scoops_6 rfl mzX12_of ml_X12_87 imX12_of (by omega) (cm_of (m) (1)) (Nat.le_of_ble_eq_true rfl) ⟨Nat.le_refl _, Nat.le_refl _⟩ ?_
  refine mm_ialdN (630 + 40 * m + 1) dX12_scoops_9 sa_201 (by omega) (by omega) ?_
  refine mm_top (v := nI (c)) hc1 ?_
  refine mm_istore_n (ls' := [(2, .int (nI (c))), (0, .ref 200), (1, .int (nI (m)))]) dX12_scoops_10 rfl (by decide) rfl ?_
  refine mm_aload_n 1 dX12_scoops_11 rfl rfl ?_
  refine mm_at (pc' := 12) rfl ?_
  refine mm_getr (b := 201) dX12_scoops_12 rfl fk_X12_9 rfl so_200 sr_200_0 ?_
  refine mm_bipush (v := 30) dX12_scoops_15 rfl ?_
  refine mm_iload_n 0 dX12_scoops_17 rfl rfl ?_
  refine mm_iaddN (30) (c) dX12_scoops_18 ?_
  refine mm_ialdN (30 + c) dX12_scoops_19 sa_201 (by omega) (by omega) ?_
  refine mm_iconst (v := 2) dX12_scoops_20 rfl ?_
  refine mm_icmp_ne (tgt := 28) dX12_scoops_21 (by decide) (fun c21 => ?_) (fun c21 => ?_)
  · refine mm_iconst (v := 0) dX12_scoops_28 rfl ?_
    refine mm_istore_n (ls' := [(3, .int (0)), (2, .int (nI (c))), (0, .ref 200), (1, .int (nI (m)))]) dX12_scoops_29 rfl (by decide) rfl ?_
    refine mm_iload_n 0 dX12_scoops_30 rfl rfl ?_
    refine mm_if_ne (tgt := 41) dX12_scoops_31 (by decide) (fun q => absurd q (by decide)) (fun _ => ?_)
    refine mm_bipush (v := 110) dX12_scoops_34 rfl ?_
    refine mm_iload_n 1 dX12_scoops_36 rfl rfl ?_
    refine mm_iaddN (110) (c) dX12_scoops_37 ?_
    refine mm_goto (tgt := 46) dX12_scoops_38 (by decide) ?_
    refine mm_istore (ls' := [(4, .int (nI (110 + c))), (3, .int (0)), (2, .int (nI (c))), (0, .ref 200), (1, .int (nI (m)))]) dX12_scoops_46 (by decide) rfl ?_
    refine mm_aload_n 3 dX12_scoops_48 rfl rfl ?_
    refine mm_getr (b := 201) dX12_scoops_49 rfl fk_X12_9 rfl so_200 sr_200_0 ?_
    refine mm_iload_n 4 dX12_scoops_52 rfl rfl ?_
    refine mm_iconst (v := 4) dX12_scoops_53 rfl ?_
    refine mm_cS2i (dz := d - 1) dX12_scoops_54 rfl mzX12_of ml_X12_87 imX12_of (by omega) (cm_of (m) (4)) (Nat.le_of_ble_eq_true rfl) ⟨Nat.le_refl _, Nat.le_refl _⟩ ?_
    refine mm_ialdN (630 + 40 * m + 4) dX12_scoops_57 sa_201 (by omega) (by omega) ?_
    refine mm_istore (ls' := [(5, .int (I 201 (630 + 40 * m + 4))), (4, .int (nI (110 + c))), (3, .int (0)), (2, .int (nI (c))), (0, .ref 200), (1, .int (nI (m)))]) dX12_scoops_58 (by decide) rfl ?_
    refine mm_at (pc' := 60) rfl ?_
    refine mm_iconst (v := 5) dX12_scoops_60 rfl ?_
    refine mm_aload_n 4 dX12_scoops_61 rfl rfl ?_
    refine mm_getr (b := 201) dX12_scoops_62 rfl fk_X12_9 rfl so_200 sr_200_0 ?_
    refine mm_iload 1 dX12_scoops_65 rfl ?_
    refine mm_ialdN (110 + c) dX12_scoops_67 sa_201 (by omega) (by omega) ?_
    refine mm_min dX12_scoops_68 rfl ml_X12_106 jm_min (by omega) (Nat.le_of_ble_eq_true rfl) ⟨Nat.le_refl _, Nat.le_refl _⟩ ?_
    refine mm_bipush (v := 10) dX12_scoops_71 rfl ?_
    refine mm_iload 0 dX12_scoops_73 rfl ?_
    refine mm_at (pc' := 75) rfl ?_
    refine mm_isub dX12_scoops_75 ?_
    refine mm_min dX12_scoops_76 rfl ml_X12_106 jm_min (by omega) (Nat.le_of_ble_eq_true rfl) ⟨Nat.le_refl _, Nat.le_refl _⟩ ?_
    refine mm_istore (ls' := [(6, .int (if 10 - (I 201 (630 + 40 * m + 4)) < (if I 201 (110 + c) < 5 then I 201 (110 + c) else 5) then 10 - (I 201 (630 + 40 * m + 4)) else (if I 201 (110 + c) < 5 then I 201 (110 + c) else 5))), (5, .int (I 201 (630 + 40 * m + 4))), (4, .int (nI (110 + c))), (3, .int (0)), (2, .int (nI (c))), (0, .ref 200), (1, .int (nI (m)))]) dX12_scoops_79 (by decide) rfl ?_
    refine mm_aload_n 5 dX12_scoops_81 rfl rfl ?_
    refine mm_iload_n 6 dX12_scoops_82 rfl rfl ?_
    refine mm_iconst (v := 1) dX12_scoops_83 rfl ?_
    refine mm_cV2i (dz := d - 1) dX12_scoops_84 rfl mzX12_isKind ml_X12_132 imX12_isKind (by omega) so_200 ⟨rfl, rfl⟩ (cm_isKind (by omega) (by omega)) (Nat.le_of_ble_eq_true rfl) ⟨Nat.le_refl _, Nat.le_refl _⟩ ?_
    refine mm_if_eqB (tgt := 128) dX12_scoops_87 (by decide) (fun c87 => ?_) (fun c87 => ?_)
    · refine mm_vret dX12_scoops_128 rfl ⟨Nat.le_refl _, Nat.le_refl _⟩ ?_
      exact mm_lv (by unfold op_scoops op_sc1; rw [if_neg c21, if_neg (show ¬ sc_P I m (110 + c) 0 from by rintro ⟨q1, q2, q3, q4⟩; first | exact c87 q1 | exact absurd q4 c125 | exact q3 c120 | exact q2 ⟨c92, c106⟩ | exact q2 ⟨Int32.not_le.mp c92, c106⟩)]) hq
    · refine mm_iload 1 dX12_scoops_90 rfl ?_
      refine mm_if_le (tgt := 109) dX12_scoops_92 (by decide) (fun c92 => ?_) (fun c92 => ?_)
      · refine mm_aload_n 5 dX12_scoops_109 rfl rfl ?_
        refine mm_getr (b := 201) dX12_scoops_110 rfl fk_X12_9 rfl so_200 sr_200_0 ?_
        refine mm_iload_n 6 dX12_scoops_113 rfl rfl ?_
        refine mm_iconst (v := 2) dX12_scoops_114 rfl ?_
        refine mm_cS2i (dz := d - 1) dX12_scoops_115 rfl mzX12_of ml_X12_87 imX12_of (by omega) (cm_of (m) (2)) (Nat.le_of_ble_eq_true rfl) ⟨Nat.le_refl _, Nat.le_refl _⟩ ?_
        refine mm_ialdN (630 + 40 * m + 2) dX12_scoops_118 sa_201 (by omega) (by omega) ?_
        refine mm_iconst (v := 3) dX12_scoops_119 rfl ?_
        refine mm_icmp_lt (tgt := 128) dX12_scoops_120 (by decide) (fun c120 => ?_) (fun c120 => ?_)
        · refine mm_vret dX12_scoops_128 rfl ⟨Nat.le_refl _, Nat.le_refl _⟩ ?_
          exact mm_lv (by unfold op_scoops op_sc1; rw [if_neg c21, if_neg (show ¬ sc_P I m (110 + c) 0 from by rintro ⟨q1, q2, q3, q4⟩; first | exact c87 q1 | exact absurd q4 c125 | exact q3 c120 | exact q2 ⟨c92, c106⟩ | exact q2 ⟨Int32.not_le.mp c92, c106⟩)]) hq
        · refine mm_iload 0 dX12_scoops_123 rfl ?_
          refine mm_if_gt (tgt := 129) dX12_scoops_125 (by decide) (fun c125 => ?_) (fun c125 => ?_)
          · refine mm_aload_n 5 dX12_scoops_129 rfl rfl ?_
            refine mm_getr (b := 201) dX12_scoops_130 rfl fk_X12_9 rfl so_200 sr_200_0 ?_
            refine mm_iload 2 dX12_scoops_133 rfl ?_
            refine mm_dup2 dX12_scoops_135 rfl rfl ?_
            refine mm_ialdN (110 + c) dX12_scoops_136 sa_201 (by omega) (by omega) ?_
            refine mm_iload 0 dX12_scoops_137 rfl ?_
            refine mm_isub dX12_scoops_139 ?_
            refine mm_iastN (110 + c) dX12_scoops_140 sa_201 (by omega) (by omega) ?_
            refine mm_at (pc' := 141) rfl ?_
            refine mm_aload_n 5 dX12_scoops_141 rfl rfl ?_
            refine mm_getr (b := 201) dX12_scoops_142 rfl fk_X12_9 rfl so_200 sr_200_0 ?_
            refine mm_iload_n 6 dX12_scoops_145 rfl rfl ?_
            refine mm_iconst (v := 4) dX12_scoops_146 rfl ?_
            refine mm_cS2i (dz := d - 1) dX12_scoops_147 rfl mzX12_of ml_X12_87 imX12_of (by omega) (cm_of (m) (4)) (Nat.le_of_ble_eq_true rfl) ⟨Nat.le_refl _, Nat.le_refl _⟩ ?_
            refine mm_dup2 dX12_scoops_150 rfl rfl ?_
            refine mm_ialdN (630 + 40 * m + 4) dX12_scoops_151 sa_201 (by omega) (by omega) ?_
            refine mm_top (v := I 201 (630 + 40 * m + 4)) (by rw [mm_up_ni (by omega)]) ?_
            refine mm_iload 0 dX12_scoops_152 rfl ?_
            refine mm_at (pc' := 154) rfl ?_
            refine mm_iadd dX12_scoops_154 ?_
            refine mm_iastN (630 + 40 * m + 4) dX12_scoops_155 sa_201 (by omega) (by omega) ?_
            refine mm_aload_n 5 dX12_scoops_156 rfl rfl ?_
            refine mm_getr (b := 201) dX12_scoops_157 rfl fk_X12_9 rfl so_200 sr_200_0 ?_
            refine mm_iload_n 6 dX12_scoops_160 rfl rfl ?_
            refine mm_iconst (v := 5) dX12_scoops_161 rfl ?_
            refine mm_cS2i (dz := d - 1) dX12_scoops_162 rfl mzX12_of ml_X12_87 imX12_of (by omega) (cm_of (m) (5)) (Nat.le_of_ble_eq_true rfl) ⟨Nat.le_refl _, Nat.le_refl _⟩ ?_
            refine mm_iload_n 3 dX12_scoops_165 rfl rfl ?_
            refine mm_at (pc' := 166) rfl ?_
            refine mm_iastN (630 + 40 * m + 5) dX12_scoops_166 sa_201 (by omega) (by omega) ?_
            refine mm_aload_n 5 dX12_scoops_167 rfl rfl ?_
            refine mm_iload_n 6 dX12_scoops_168 rfl rfl ?_
            refine mm_iconst (v := 3) dX12_scoops_169 rfl ?_
            refine mm_iconst (v := 2) dX12_scoops_170 rfl ?_
            refine mm_cV3v (dz := d - 1) dX12_scoops_171 rfl mzX12_costs ml_X12_298 imX12_costs (by omega) so_200 ⟨rfl, rfl⟩ (cm_costs (by omega) (by omega)) (Nat.le_of_ble_eq_true rfl) ⟨Nat.le_refl _, Nat.le_refl _⟩ ?_
            refine mm_vret dX12_scoops_174 rfl ⟨Nat.le_refl _, Nat.le_refl _⟩ ?_
            exact mm_lv (by unfold op_scoops op_sc1; rw [if_neg c21, if_pos (show sc_P I m (110 + c) 0 from ⟨c87, (by rintro ⟨q1, q2⟩; first | exact q2 c106 | exact absurd q1 (Int32.not_lt.mpr c92)), c120, c125⟩)]; rfl) hq
          · refine mm_vret dX12_scoops_128 rfl ⟨Nat.le_refl _, Nat.le_refl _⟩ ?_
            exact mm_lv (by unfold op_scoops op_sc1; rw [if_neg c21, if_neg (show ¬ sc_P I m (110 + c) 0 from by rintro ⟨q1, q2, q3, q4⟩; first | exact c87 q1 | exact absurd q4 c125 | exact q3 c120 | exact q2 ⟨c92, c106⟩ | exact q2 ⟨Int32.not_le.mp c92, c106⟩)]) hq
      · refine mm_aload_n 5 dX12_scoops_95 rfl rfl ?_
        refine mm_getr (b := 201) dX12_scoops_96 rfl fk_X12_9 rfl so_200 sr_200_0 ?_
        refine mm_iload_n 6 dX12_scoops_99 rfl rfl ?_
        refine mm_iconst (v := 5) dX12_scoops_100 rfl ?_
        refine mm_cS2i (dz := d - 1) dX12_scoops_101 rfl mzX12_of ml_X12_87 imX12_of (by omega) (cm_of (m) (5)) (Nat.le_of_ble_eq_true rfl) ⟨Nat.le_refl _, Nat.le_refl _⟩ ?_
        refine mm_ialdN (630 + 40 * m + 5) dX12_scoops_104 sa_201 (by omega) (by omega) ?_
        refine mm_iload_n 3 dX12_scoops_105 rfl rfl ?_
        refine mm_at (pc' := 106) rfl ?_
        refine mm_icmp_ne (tgt := 128) dX12_scoops_106 (by decide) (fun c106 => ?_) (fun c106 => ?_)
        · refine mm_vret dX12_scoops_128 rfl ⟨Nat.le_refl _, Nat.le_refl _⟩ ?_
          exact mm_lv (by unfold op_scoops op_sc1; rw [if_neg c21, if_neg (show ¬ sc_P I m (110 + c) 0 from by rintro ⟨q1, q2, q3, q4⟩; first | exact c87 q1 | exact absurd q4 c125 | exact q3 c120 | exact q2 ⟨c92, c106⟩ | exact q2 ⟨Int32.not_le.mp c92, c106⟩)]) hq
        · refine mm_aload_n 5 dX12_scoops_109 rfl rfl ?_
          refine mm_getr (b := 201) dX12_scoops_110 rfl fk_X12_9 rfl so_200 sr_200_0 ?_
          refine mm_iload_n 6 dX12_scoops_113 rfl rfl ?_
          refine mm_iconst (v := 2) dX12_scoops_114 rfl ?_
          refine mm_cS2i (dz := d - 1) dX12_scoops_115 rfl mzX12_of ml_X12_87 imX12_of (by omega) (cm_of (m) (2)) (Nat.le_of_ble_eq_true rfl) ⟨Nat.le_refl _, Nat.le_refl _⟩ ?_
          refine mm_ialdN (630 + 40 * m + 2) dX12_scoops_118 sa_201 (by omega) (by omega) ?_
          refine mm_iconst (v := 3) dX12_scoops_119 rfl ?_
          refine mm_at (pc' := 120) rfl ?_
          refine mm_icmp_lt (tgt := 128) dX12_scoops_120 (by decide) (fun c120 => ?_) (fun c120 => ?_)
          · refine mm_vret dX12_scoops_128 rfl ⟨Nat.le_refl _, Nat.le_refl _⟩ ?_
            exact mm_lv (by unfold op_scoops op_sc1; rw [if_neg c21, if_neg (show ¬ sc_P I m (110 + c) 0 from by rintro ⟨q1, q2, q3, q4⟩; first | exact c87 q1 | exact absurd q4 c125 | exact q3 c120 | exact q2 ⟨c92, c106⟩ | exact q2 ⟨Int32.not_le.mp c92, c106⟩)]) hq
          · refine mm_iload 0 dX12_scoops_123 rfl ?_
            refine mm_if_gt (tgt := 129) dX12_scoops_125 (by decide) (fun c125 => ?_) (fun c125 => ?_)
            · refine mm_aload_n 5 dX12_scoops_129 rfl rfl ?_
              refine mm_getr (b := 201) dX12_scoops_130 rfl fk_X12_9 rfl so_200 sr_200_0 ?_
              refine mm_iload 2 dX12_scoops_133 rfl ?_
              refine mm_dup2 dX12_scoops_135 rfl rfl ?_
              refine mm_ialdN (110 + c) dX12_scoops_136 sa_201 (by omega) (by omega) ?_
              refine mm_iload 0 dX12_scoops_137 rfl ?_
              refine mm_isub dX12_scoops_139 ?_
              refine mm_iastN (110 + c) dX12_scoops_140 sa_201 (by omega) (by omega) ?_
              refine mm_at (pc' := 141) rfl ?_
              refine mm_aload_n 5 dX12_scoops_141 rfl rfl ?_
              refine mm_getr (b := 201) dX12_scoops_142 rfl fk_X12_9 rfl so_200 sr_200_0 ?_
              refine mm_iload_n 6 dX12_scoops_145 rfl rfl ?_
              refine mm_iconst (v := 4) dX12_scoops_146 rfl ?_
              refine mm_cS2i (dz := d - 1) dX12_scoops_147 rfl mzX12_of ml_X12_87 imX12_of (by omega) (cm_of (m) (4)) (Nat.le_of_ble_eq_true rfl) ⟨Nat.le_refl _, Nat.le_refl _⟩ ?_
              refine mm_dup2 dX12_scoops_150 rfl rfl ?_
              refine mm_ialdN (630 + 40 * m + 4) dX12_scoops_151 sa_201 (by omega) (by omega) ?_
              refine mm_top (v := I 201 (630 + 40 * m + 4)) (by rw [mm_up_ni (by omega)]) ?_
              refine mm_iload 0 dX12_scoops_152 rfl ?_
              refine mm_at (pc' := 154) rfl ?_
              refine mm_iadd dX12_scoops_154 ?_
              refine mm_iastN (630 + 40 * m + 4) dX12_scoops_155 sa_201 (by omega) (by omega) ?_
              refine mm_aload_n 5 dX12_scoops_156 rfl rfl ?_
              refine mm_getr (b := 201) dX12_scoops_157 rfl fk_X12_9 rfl so_200 sr_200_0 ?_
              refine mm_iload_n 6 dX12_scoops_160 rfl rfl ?_
              refine mm_iconst (v := 5) dX12_scoops_161 rfl ?_
              refine mm_cS2i (dz := d - 1) dX12_scoops_162 rfl mzX12_of ml_X12_87 imX12_of (by omega) (cm_of (m) (5)) (Nat.le_of_ble_eq_true rfl) ⟨Nat.le_refl _, Nat.le_refl _⟩ ?_
              refine mm_iload_n 3 dX12_scoops_165 rfl rfl ?_
              refine mm_at (pc' := 166) rfl ?_
              refine mm_iastN (630 + 40 * m + 5) dX12_scoops_166 sa_201 (by omega) (by omega) ?_
              refine mm_aload_n 5 dX12_scoops_167 rfl rfl ?_
              refine mm_iload_n 6 dX12_scoops_168 rfl rfl ?_
              refine mm_iconst (v := 3) dX12_scoops_169 rfl ?_
              refine mm_iconst (v := 2) dX12_scoops_170 rfl ?_
              refine mm_cV3v (dz := d - 1) dX12_scoops_171 rfl mzX12_costs ml_X12_298 imX12_costs (by omega) so_200 ⟨rfl, rfl⟩ (cm_costs (by omega) (by omega)) (Nat.le_of_ble_eq_true rfl) ⟨Nat.le_refl _, Nat.le_refl _⟩ ?_
              refine mm_vret dX12_scoops_174 rfl ⟨Nat.le_refl _, Nat.le_refl _⟩ ?_
              exact mm_lv (by unfold op_scoops op_sc1; rw [if_neg c21, if_pos (show sc_P I m (110 + c) 0 from ⟨c87, (by rintro ⟨q1, q2⟩; first | exact q2 c106 | exact absurd q1 (Int32.not_lt.mpr c92)), c120, c125⟩)]; rfl) hq
            · refine mm_vret dX12_scoops_128 rfl ⟨Nat.le_refl _, Nat.le_refl _⟩ ?_
              exact mm_lv (by unfold op_scoops op_sc1; rw [if_neg c21, if_neg (show ¬ sc_P I m (110 + c) 0 from by rintro ⟨q1, q2, q3, q4⟩; first | exact c87 q1 | exact absurd q4 c125 | exact q3 c120 | exact q2 ⟨c92, c106⟩ | exact q2 ⟨Int32.not_le.mp c92, c106⟩)]) hq
  · refine mm_iconst (v := 1) dX12_scoops_24 rfl ?_
    refine mm_goto (tgt := 29) dX12_scoops_25 (by decide) ?_
    refine mm_istore_n (ls' := [(3, .int (1)), (2, .int (nI (c))), (0, .ref 200), (1, .int (nI (m)))]) dX12_scoops_29 rfl (by decide) rfl ?_
    refine mm_iload_n 0 dX12_scoops_30 rfl rfl ?_
    refine mm_if_ne (tgt := 41) dX12_scoops_31 (by decide) (fun _ => ?_) (fun q => absurd q (by decide))
    refine mm_sipush (v := 190) dX12_scoops_41 rfl ?_
    refine mm_iload_n 1 dX12_scoops_44 rfl rfl ?_
    refine mm_iaddN (190) (c) dX12_scoops_45 ?_
    refine mm_istore (ls' := [(4, .int (nI (190 + c))), (3, .int (1)), (2, .int (nI (c))), (0, .ref 200), (1, .int (nI (m)))]) dX12_scoops_46 (by decide) rfl ?_
    refine mm_aload_n 3 dX12_scoops_48 rfl rfl ?_
    refine mm_getr (b := 201) dX12_scoops_49 rfl fk_X12_9 rfl so_200 sr_200_0 ?_
    refine mm_iload_n 4 dX12_scoops_52 rfl rfl ?_
    refine mm_iconst (v := 4) dX12_scoops_53 rfl ?_
    refine mm_at (pc' := 54) rfl ?_
    refine mm_cS2i (dz := d - 1) dX12_scoops_54 rfl mzX12_of ml_X12_87 imX12_of (by omega) (cm_of (m) (4)) (Nat.le_of_ble_eq_true rfl) ⟨Nat.le_refl _, Nat.le_refl _⟩ ?_
    refine mm_ialdN (630 + 40 * m + 4) dX12_scoops_57 sa_201 (by omega) (by omega) ?_
    refine mm_istore (ls' := [(5, .int (I 201 (630 + 40 * m + 4))), (4, .int (nI (190 + c))), (3, .int (1)), (2, .int (nI (c))), (0, .ref 200), (1, .int (nI (m)))]) dX12_scoops_58 (by decide) rfl ?_
    refine mm_iconst (v := 5) dX12_scoops_60 rfl ?_
    refine mm_aload_n 4 dX12_scoops_61 rfl rfl ?_
    refine mm_getr (b := 201) dX12_scoops_62 rfl fk_X12_9 rfl so_200 sr_200_0 ?_
    refine mm_iload 1 dX12_scoops_65 rfl ?_
    refine mm_ialdN (190 + c) dX12_scoops_67 sa_201 (by omega) (by omega) ?_
    refine mm_at (pc' := 68) rfl ?_
    refine mm_min dX12_scoops_68 rfl ml_X12_106 jm_min (by omega) (Nat.le_of_ble_eq_true rfl) ⟨Nat.le_refl _, Nat.le_refl _⟩ ?_
    refine mm_bipush (v := 10) dX12_scoops_71 rfl ?_
    refine mm_iload 0 dX12_scoops_73 rfl ?_
    refine mm_isub dX12_scoops_75 ?_
    refine mm_min dX12_scoops_76 rfl ml_X12_106 jm_min (by omega) (Nat.le_of_ble_eq_true rfl) ⟨Nat.le_refl _, Nat.le_refl _⟩ ?_
    refine mm_istore (ls' := [(6, .int (if 10 - (I 201 (630 + 40 * m + 4)) < (if I 201 (190 + c) < 5 then I 201 (190 + c) else 5) then 10 - (I 201 (630 + 40 * m + 4)) else (if I 201 (190 + c) < 5 then I 201 (190 + c) else 5))), (5, .int (I 201 (630 + 40 * m + 4))), (4, .int (nI (190 + c))), (3, .int (1)), (2, .int (nI (c))), (0, .ref 200), (1, .int (nI (m)))]) dX12_scoops_79 (by decide) rfl ?_
    refine mm_aload_n 5 dX12_scoops_81 rfl rfl ?_
    refine mm_iload_n 6 dX12_scoops_82 rfl rfl ?_
    refine mm_at (pc' := 83) rfl ?_
    refine mm_iconst (v := 1) dX12_scoops_83 rfl ?_
    refine mm_cV2i (dz := d - 1) dX12_scoops_84 rfl mzX12_isKind ml_X12_132 imX12_isKind (by omega) so_200 ⟨rfl, rfl⟩ (cm_isKind (by omega) (by omega)) (Nat.le_of_ble_eq_true rfl) ⟨Nat.le_refl _, Nat.le_refl _⟩ ?_
    refine mm_if_eqB (tgt := 128) dX12_scoops_87 (by decide) (fun c87 => ?_) (fun c87 => ?_)
    · refine mm_vret dX12_scoops_128 rfl ⟨Nat.le_refl _, Nat.le_refl _⟩ ?_
      exact mm_lv (by unfold op_scoops op_sc1; rw [if_pos c21, if_neg (show ¬ sc_P I m (190 + c) 1 from by rintro ⟨q1, q2, q3, q4⟩; first | exact c87 q1 | exact absurd q4 c125 | exact q3 c120 | exact q2 ⟨c92, c106⟩ | exact q2 ⟨Int32.not_le.mp c92, c106⟩)]) hq
    · refine mm_iload 1 dX12_scoops_90 rfl ?_
      refine mm_if_le (tgt := 109) dX12_scoops_92 (by decide) (fun c92 => ?_) (fun c92 => ?_)
      · refine mm_aload_n 5 dX12_scoops_109 rfl rfl ?_
        refine mm_getr (b := 201) dX12_scoops_110 rfl fk_X12_9 rfl so_200 sr_200_0 ?_
        refine mm_iload_n 6 dX12_scoops_113 rfl rfl ?_
        refine mm_iconst (v := 2) dX12_scoops_114 rfl ?_
        refine mm_cS2i (dz := d - 1) dX12_scoops_115 rfl mzX12_of ml_X12_87 imX12_of (by omega) (cm_of (m) (2)) (Nat.le_of_ble_eq_true rfl) ⟨Nat.le_refl _, Nat.le_refl _⟩ ?_
        refine mm_ialdN (630 + 40 * m + 2) dX12_scoops_118 sa_201 (by omega) (by omega) ?_
        refine mm_iconst (v := 3) dX12_scoops_119 rfl ?_
        refine mm_icmp_lt (tgt := 128) dX12_scoops_120 (by decide) (fun c120 => ?_) (fun c120 => ?_)
        · refine mm_vret dX12_scoops_128 rfl ⟨Nat.le_refl _, Nat.le_refl _⟩ ?_
          exact mm_lv (by unfold op_scoops op_sc1; rw [if_pos c21, if_neg (show ¬ sc_P I m (190 + c) 1 from by rintro ⟨q1, q2, q3, q4⟩; first | exact c87 q1 | exact absurd q4 c125 | exact q3 c120 | exact q2 ⟨c92, c106⟩ | exact q2 ⟨Int32.not_le.mp c92, c106⟩)]) hq
        · refine mm_iload 0 dX12_scoops_123 rfl ?_
          refine mm_if_gt (tgt := 129) dX12_scoops_125 (by decide) (fun c125 => ?_) (fun c125 => ?_)
          · refine mm_aload_n 5 dX12_scoops_129 rfl rfl ?_
            refine mm_getr (b := 201) dX12_scoops_130 rfl fk_X12_9 rfl so_200 sr_200_0 ?_
            refine mm_iload 2 dX12_scoops_133 rfl ?_
            refine mm_dup2 dX12_scoops_135 rfl rfl ?_
            refine mm_ialdN (190 + c) dX12_scoops_136 sa_201 (by omega) (by omega) ?_
            refine mm_iload 0 dX12_scoops_137 rfl ?_
            refine mm_isub dX12_scoops_139 ?_
            refine mm_iastN (190 + c) dX12_scoops_140 sa_201 (by omega) (by omega) ?_
            refine mm_at (pc' := 141) rfl ?_
            refine mm_aload_n 5 dX12_scoops_141 rfl rfl ?_
            refine mm_getr (b := 201) dX12_scoops_142 rfl fk_X12_9 rfl so_200 sr_200_0 ?_
            refine mm_iload_n 6 dX12_scoops_145 rfl rfl ?_
            refine mm_iconst (v := 4) dX12_scoops_146 rfl ?_
            refine mm_cS2i (dz := d - 1) dX12_scoops_147 rfl mzX12_of ml_X12_87 imX12_of (by omega) (cm_of (m) (4)) (Nat.le_of_ble_eq_true rfl) ⟨Nat.le_refl _, Nat.le_refl _⟩ ?_
            refine mm_dup2 dX12_scoops_150 rfl rfl ?_
            refine mm_ialdN (630 + 40 * m + 4) dX12_scoops_151 sa_201 (by omega) (by omega) ?_
            refine mm_top (v := I 201 (630 + 40 * m + 4)) (by rw [mm_up_ni (by omega)]) ?_
            refine mm_iload 0 dX12_scoops_152 rfl ?_
            refine mm_at (pc' := 154) rfl ?_
            refine mm_iadd dX12_scoops_154 ?_
            refine mm_iastN (630 + 40 * m + 4) dX12_scoops_155 sa_201 (by omega) (by omega) ?_
            refine mm_aload_n 5 dX12_scoops_156 rfl rfl ?_
            refine mm_getr (b := 201) dX12_scoops_157 rfl fk_X12_9 rfl so_200 sr_200_0 ?_
            refine mm_iload_n 6 dX12_scoops_160 rfl rfl ?_
            refine mm_iconst (v := 5) dX12_scoops_161 rfl ?_
            refine mm_cS2i (dz := d - 1) dX12_scoops_162 rfl mzX12_of ml_X12_87 imX12_of (by omega) (cm_of (m) (5)) (Nat.le_of_ble_eq_true rfl) ⟨Nat.le_refl _, Nat.le_refl _⟩ ?_
            refine mm_iload_n 3 dX12_scoops_165 rfl rfl ?_
            refine mm_at (pc' := 166) rfl ?_
            refine mm_iastN (630 + 40 * m + 5) dX12_scoops_166 sa_201 (by omega) (by omega) ?_
            refine mm_aload_n 5 dX12_scoops_167 rfl rfl ?_
            refine mm_iload_n 6 dX12_scoops_168 rfl rfl ?_
            refine mm_iconst (v := 3) dX12_scoops_169 rfl ?_
            refine mm_iconst (v := 2) dX12_scoops_170 rfl ?_
            refine mm_cV3v (dz := d - 1) dX12_scoops_171 rfl mzX12_costs ml_X12_298 imX12_costs (by omega) so_200 ⟨rfl, rfl⟩ (cm_costs (by omega) (by omega)) (Nat.le_of_ble_eq_true rfl) ⟨Nat.le_refl _, Nat.le_refl _⟩ ?_
            refine mm_vret dX12_scoops_174 rfl ⟨Nat.le_refl _, Nat.le_refl _⟩ ?_
            exact mm_lv (by unfold op_scoops op_sc1; rw [if_pos c21, if_pos (show sc_P I m (190 + c) 1 from ⟨c87, (by rintro ⟨q1, q2⟩; first | exact q2 c106 | exact absurd q1 (Int32.not_lt.mpr c92)), c120, c125⟩)]; rfl) hq
          · refine mm_vret dX12_scoops_128 rfl ⟨Nat.le_refl _, Nat.le_refl _⟩ ?_
            exact mm_lv (by unfold op_scoops op_sc1; rw [if_pos c21, if_neg (show ¬ sc_P I m (190 + c) 1 from by rintro ⟨q1, q2, q3, q4⟩; first | exact c87 q1 | exact absurd q4 c125 | exact q3 c120 | exact q2 ⟨c92, c106⟩ | exact q2 ⟨Int32.not_le.mp c92, c106⟩)]) hq
      · refine mm_aload_n 5 dX12_scoops_95 rfl rfl ?_
        refine mm_getr (b := 201) dX12_scoops_96 rfl fk_X12_9 rfl so_200 sr_200_0 ?_
        refine mm_iload_n 6 dX12_scoops_99 rfl rfl ?_
        refine mm_iconst (v := 5) dX12_scoops_100 rfl ?_
        refine mm_cS2i (dz := d - 1) dX12_scoops_101 rfl mzX12_of ml_X12_87 imX12_of (by omega) (cm_of (m) (5)) (Nat.le_of_ble_eq_true rfl) ⟨Nat.le_refl _, Nat.le_refl _⟩ ?_
        refine mm_ialdN (630 + 40 * m + 5) dX12_scoops_104 sa_201 (by omega) (by omega) ?_
        refine mm_iload_n 3 dX12_scoops_105 rfl rfl ?_
        refine mm_at (pc' := 106) rfl ?_
        refine mm_icmp_ne (tgt := 128) dX12_scoops_106 (by decide) (fun c106 => ?_) (fun c106 => ?_)
        · refine mm_vret dX12_scoops_128 rfl ⟨Nat.le_refl _, Nat.le_refl _⟩ ?_
          exact mm_lv (by unfold op_scoops op_sc1; rw [if_pos c21, if_neg (show ¬ sc_P I m (190 + c) 1 from by rintro ⟨q1, q2, q3, q4⟩; first | exact c87 q1 | exact absurd q4 c125 | exact q3 c120 | exact q2 ⟨c92, c106⟩ | exact q2 ⟨Int32.not_le.mp c92, c106⟩)]) hq
        · refine mm_aload_n 5 dX12_scoops_109 rfl rfl ?_
          refine mm_getr (b := 201) dX12_scoops_110 rfl fk_X12_9 rfl so_200 sr_200_0 ?_
          refine mm_iload_n 6 dX12_scoops_113 rfl rfl ?_
          refine mm_iconst (v := 2) dX12_scoops_114 rfl ?_
          refine mm_cS2i (dz := d - 1) dX12_scoops_115 rfl mzX12_of ml_X12_87 imX12_of (by omega) (cm_of (m) (2)) (Nat.le_of_ble_eq_true rfl) ⟨Nat.le_refl _, Nat.le_refl _⟩ ?_
          refine mm_ialdN (630 + 40 * m + 2) dX12_scoops_118 sa_201 (by omega) (by omega) ?_
          refine mm_iconst (v := 3) dX12_scoops_119 rfl ?_
          refine mm_at (pc' := 120) rfl ?_
          refine mm_icmp_lt (tgt := 128) dX12_scoops_120 (by decide) (fun c120 => ?_) (fun c120 => ?_)
          · refine mm_vret dX12_scoops_128 rfl ⟨Nat.le_refl _, Nat.le_refl _⟩ ?_
            exact mm_lv (by unfold op_scoops op_sc1; rw [if_pos c21, if_neg (show ¬ sc_P I m (190 + c) 1 from by rintro ⟨q1, q2, q3, q4⟩; first | exact c87 q1 | exact absurd q4 c125 | exact q3 c120 | exact q2 ⟨c92, c106⟩ | exact q2 ⟨Int32.not_le.mp c92, c106⟩)]) hq
          · refine mm_iload 0 dX12_scoops_123 rfl ?_
            refine mm_if_gt (tgt := 129) dX12_scoops_125 (by decide) (fun c125 => ?_) (fun c125 => ?_)
            · refine mm_aload_n 5 dX12_scoops_129 rfl rfl ?_
              refine mm_getr (b := 201) dX12_scoops_130 rfl fk_X12_9 rfl so_200 sr_200_0 ?_
              refine mm_iload 2 dX12_scoops_133 rfl ?_
              refine mm_dup2 dX12_scoops_135 rfl rfl ?_
              refine mm_ialdN (190 + c) dX12_scoops_136 sa_201 (by omega) (by omega) ?_
              refine mm_iload 0 dX12_scoops_137 rfl ?_
              refine mm_isub dX12_scoops_139 ?_
              refine mm_iastN (190 + c) dX12_scoops_140 sa_201 (by omega) (by omega) ?_
              refine mm_at (pc' := 141) rfl ?_
              refine mm_aload_n 5 dX12_scoops_141 rfl rfl ?_
              refine mm_getr (b := 201) dX12_scoops_142 rfl fk_X12_9 rfl so_200 sr_200_0 ?_
              refine mm_iload_n 6 dX12_scoops_145 rfl rfl ?_
              refine mm_iconst (v := 4) dX12_scoops_146 rfl ?_
              refine mm_cS2i (dz := d - 1) dX12_scoops_147 rfl mzX12_of ml_X12_87 imX12_of (by omega) (cm_of (m) (4)) (Nat.le_of_ble_eq_true rfl) ⟨Nat.le_refl _, Nat.le_refl _⟩ ?_
              refine mm_dup2 dX12_scoops_150 rfl rfl ?_
              refine mm_ialdN (630 + 40 * m + 4) dX12_scoops_151 sa_201 (by omega) (by omega) ?_
              refine mm_top (v := I 201 (630 + 40 * m + 4)) (by rw [mm_up_ni (by omega)]) ?_
              refine mm_iload 0 dX12_scoops_152 rfl ?_
              refine mm_at (pc' := 154) rfl ?_
              refine mm_iadd dX12_scoops_154 ?_
              refine mm_iastN (630 + 40 * m + 4) dX12_scoops_155 sa_201 (by omega) (by omega) ?_
              refine mm_aload_n 5 dX12_scoops_156 rfl rfl ?_
              refine mm_getr (b := 201) dX12_scoops_157 rfl fk_X12_9 rfl so_200 sr_200_0 ?_
              refine mm_iload_n 6 dX12_scoops_160 rfl rfl ?_
              refine mm_iconst (v := 5) dX12_scoops_161 rfl ?_
              refine mm_cS2i (dz := d - 1) dX12_scoops_162 rfl mzX12_of ml_X12_87 imX12_of (by omega) (cm_of (m) (5)) (Nat.le_of_ble_eq_true rfl) ⟨Nat.le_refl _, Nat.le_refl _⟩ ?_
              refine mm_iload_n 3 dX12_scoops_165 rfl rfl ?_
              refine mm_at (pc' := 166) rfl ?_
              refine mm_iastN (630 + 40 * m + 5) dX12_scoops_166 sa_201 (by omega) (by omega) ?_
              refine mm_aload_n 5 dX12_scoops_167 rfl rfl ?_
              refine mm_iload_n 6 dX12_scoops_168 rfl rfl ?_
              refine mm_iconst (v := 3) dX12_scoops_169 rfl ?_
              refine mm_iconst (v := 2) dX12_scoops_170 rfl ?_
              refine mm_cV3v (dz := d - 1) dX12_scoops_171 rfl mzX12_costs ml_X12_298 imX12_costs (by omega) so_200 ⟨rfl, rfl⟩ (cm_costs (by omega) (by omega)) (Nat.le_of_ble_eq_true rfl) ⟨Nat.le_refl _, Nat.le_refl _⟩ ?_
              refine mm_vret dX12_scoops_174 rfl ⟨Nat.le_refl _, Nat.le_refl _⟩ ?_
              exact mm_lv (by unfold op_scoops op_sc1; rw [if_pos c21, if_pos (show sc_P I m (190 + c) 1 from ⟨c87, (by rintro ⟨q1, q2⟩; first | exact q2 c106 | exact absurd q1 (Int32.not_lt.mpr c92)), c120, c125⟩)]; rfl) hq
            · refine mm_vret dX12_scoops_128 rfl ⟨Nat.le_refl _, Nat.le_refl _⟩ ?_
              exact mm_lv (by unfold op_scoops op_sc1; rw [if_pos c21, if_neg (show ¬ sc_P I m (190 + c) 1 from by rintro ⟨q1, q2, q3, q4⟩; first | exact c87 q1 | exact absurd q4 c125 | exact q3 c120 | exact q2 ⟨c92, c106⟩ | exact q2 ⟨Int32.not_le.mp c92, c106⟩)]) hq
set_option maxRecDepth 100000 in
set_option maxHeartbeats 600000 in
theorem cm_drops {g : mm_G} {I : mm_I} {d : Nat} {m : Nat} (hm5 : m < 5) {c : Nat} (hc1 : I 201 (630 + 40 * m + 1) = nI c) (hcl : c < 80) {wh : Nat} (hwh : I 201 (630 + 40 * m + 5) = nI wh) (hwh1 : wh ≤ 1) (hd : 2 ≤ d) : mm_Cv g zX12_drops d [.ref 200, .int (nI m)] sh_S I (op_drops I m c wh) := by
  refine mm_Cv_of (fun Q hq => ?_)
  refine mm_begin (ls := [(0, .ref 200), (1, .int (nI (m)))]) (Nat.le_of_ble_eq_true rfl) rfl rfl ?_
  refine mm_aload_n 0 dX12_drops_0 rfl rfl ?_
  refine mm_getr (b := 201) dX12_drops_1 rfl fk_X12_9 rfl so_200 sr_200_0 ?_
  refine mm_iload_n 1 dX12_drops_4 rfl rfl ?_
  refine mm_iconst (v := 4) dX12_drops_5 rfl ?_
  refine mm_cS2i (dz := d - 1) dX12_drops_6 rfl mzX12_of ml_X12_87 imX12_of (by omega) (cm_of (m) (4)) (Nat.le_of_ble_eq_true rfl) ⟨Nat.le_refl _, Nat.le_refl _⟩ ?_
  refine mm_ialdN (630 + 40 * m + 4) dX12_drops_9 sa_201 (by omega) (by omega) ?_
  refine mm_istore_n (ls' := [(2, .int (I 201 (630 + 40 * m + 4))), (0, .ref 200), (1, .int (nI (m)))]) dX12_drops_10 rfl (by decide) rfl ?_
  refine mm_iload_n 0 dX12_drops_11 rfl rfl ?_
  refine mm_at (pc' := 12) rfl ?_
  refine mm_if_ne (tgt := 16) dX12_drops_12 (by decide) (fun c12 => ?_) (fun c12 => ?_)
  · refine mm_aload_n 1 dX12_drops_16 rfl rfl ?_
    refine mm_getr (b := 201) dX12_drops_17 rfl fk_X12_9 rfl so_200 sr_200_0 ?_
    refine mm_iload_n 2 dX12_drops_20 rfl rfl ?_
    refine mm_iconst (v := 1) dX12_drops_21 rfl ?_
    refine mm_cS2i (dz := d - 1) dX12_drops_22 rfl mzX12_of ml_X12_87 imX12_of (by omega) (cm_of (m) (1)) (Nat.le_of_ble_eq_true rfl) ⟨Nat.le_refl _, Nat.le_refl _⟩ ?_
    refine mm_ialdN (630 + 40 * m + 1) dX12_drops_25 sa_201 (by omega) (by omega) ?_
    refine mm_top (v := nI (c)) hc1 ?_
    refine mm_istore_n (ls' := [(3, .int (nI (c))), (2, .int (I 201 (630 + 40 * m + 4))), (0, .ref 200), (1, .int (nI (m)))]) dX12_drops_26 rfl (by decide) rfl ?_
    refine mm_aload_n 2 dX12_drops_27 rfl rfl ?_
    refine mm_at (pc' := 28) rfl ?_
    refine mm_getr (b := 201) dX12_drops_28 rfl fk_X12_9 rfl so_200 sr_200_0 ?_
    refine mm_iload_n 3 dX12_drops_31 rfl rfl ?_
    refine mm_iconst (v := 5) dX12_drops_32 rfl ?_
    refine mm_cS2i (dz := d - 1) dX12_drops_33 rfl mzX12_of ml_X12_87 imX12_of (by omega) (cm_of (m) (5)) (Nat.le_of_ble_eq_true rfl) ⟨Nat.le_refl _, Nat.le_refl _⟩ ?_
    refine mm_ialdN (630 + 40 * m + 5) dX12_drops_36 sa_201 (by omega) (by omega) ?_
    refine mm_top (v := nI (wh)) hwh ?_
    refine mm_istore (ls' := [(4, .int (nI (wh))), (3, .int (nI (c))), (2, .int (I 201 (630 + 40 * m + 4))), (0, .ref 200), (1, .int (nI (m)))]) dX12_drops_37 (by decide) rfl ?_
    refine mm_aload_n 3 dX12_drops_39 rfl rfl ?_
    refine mm_getr (b := 201) dX12_drops_40 rfl fk_X12_9 rfl so_200 sr_200_0 ?_
    refine mm_at (pc' := 43) rfl ?_
    refine mm_aload_n 3 dX12_drops_43 rfl rfl ?_
    refine mm_getr (b := 201) dX12_drops_44 rfl fk_X12_9 rfl so_200 sr_200_0 ?_
    refine mm_bipush (v := 30) dX12_drops_47 rfl ?_
    refine mm_iload_n 1 dX12_drops_49 rfl rfl ?_
    refine mm_iaddN (30) (c) dX12_drops_50 ?_
    refine mm_ialdN (30 + c) dX12_drops_51 sa_201 (by omega) (by omega) ?_
    refine mm_iconst (v := 4) dX12_drops_52 rfl ?_
    refine mm_icmp_ne (tgt := 64) dX12_drops_53 (by decide) (fun c53 => ?_) (fun c53 => ?_)
    · refine mm_iload 0 dX12_drops_64 rfl ?_
      refine mm_if_neN (wh) (tgt := 76) dX12_drops_66 (by decide) (by omega) (fun c66 => ?_) (fun c66 => ?_)
      · refine mm_sipush (v := 190) dX12_drops_76 rfl ?_
        refine mm_iload_n 1 dX12_drops_79 rfl rfl ?_
        refine mm_iaddN (190) (c) dX12_drops_80 ?_
        refine mm_dup2 dX12_drops_81 rfl rfl ?_
        refine mm_ialdN (190 + c) dX12_drops_82 sa_201 (by omega) (by omega) ?_
        refine mm_iload_n 2 dX12_drops_83 rfl rfl ?_
        refine mm_iadd dX12_drops_84 ?_
        refine mm_iastN (190 + c) dX12_drops_85 sa_201 (by omega) (by omega) ?_
        refine mm_at (pc' := 86) rfl ?_
        refine mm_aload_n 3 dX12_drops_86 rfl rfl ?_
        refine mm_getr (b := 201) dX12_drops_87 rfl fk_X12_9 rfl so_200 sr_200_0 ?_
        refine mm_iload_n 4 dX12_drops_90 rfl rfl ?_
        refine mm_iconst (v := 4) dX12_drops_91 rfl ?_
        refine mm_cS2i (dz := d - 1) dX12_drops_92 rfl mzX12_of ml_X12_87 imX12_of (by omega) (cm_of (m) (4)) (Nat.le_of_ble_eq_true rfl) ⟨Nat.le_refl _, Nat.le_refl _⟩ ?_
        refine mm_iconst (v := 0) dX12_drops_95 rfl ?_
        refine mm_iastN (630 + 40 * m + 4) dX12_drops_96 sa_201 (by omega) (by omega) ?_
        refine mm_aload_n 3 dX12_drops_97 rfl rfl ?_
        refine mm_at (pc' := 98) rfl ?_
        refine mm_iload_n 4 dX12_drops_98 rfl rfl ?_
        refine mm_iconst (v := 1) dX12_drops_99 rfl ?_
        refine mm_iconst (v := 0) dX12_drops_100 rfl ?_
        refine mm_cV3v (dz := d - 1) dX12_drops_101 rfl mzX12_costs ml_X12_298 imX12_costs (by omega) so_200 ⟨rfl, rfl⟩ (cm_costs (by omega) (by omega)) (Nat.le_of_ble_eq_true rfl) ⟨Nat.le_refl _, Nat.le_refl _⟩ ?_
        refine mm_vret dX12_drops_104 rfl ⟨Nat.le_refl _, Nat.le_refl _⟩ ?_
        exact mm_lv (by unfold op_drops; first | rw [if_pos c12] | (rw [if_neg c12]; first | (rw [if_pos c53]; rfl) | (rw [if_neg c53]; first | (rw [if_pos c66]; rfl) | (rw [if_neg c66]; rfl)))) hq
      · refine mm_bipush (v := 110) dX12_drops_69 rfl ?_
        refine mm_iload_n 1 dX12_drops_71 rfl rfl ?_
        refine mm_iaddN (110) (c) dX12_drops_72 ?_
        refine mm_goto (tgt := 81) dX12_drops_73 (by decide) ?_
        refine mm_dup2 dX12_drops_81 rfl rfl ?_
        refine mm_ialdN (110 + c) dX12_drops_82 sa_201 (by omega) (by omega) ?_
        refine mm_iload_n 2 dX12_drops_83 rfl rfl ?_
        refine mm_iadd dX12_drops_84 ?_
        refine mm_iastN (110 + c) dX12_drops_85 sa_201 (by omega) (by omega) ?_
        refine mm_aload_n 3 dX12_drops_86 rfl rfl ?_
        refine mm_getr (b := 201) dX12_drops_87 rfl fk_X12_9 rfl so_200 sr_200_0 ?_
        refine mm_iload_n 4 dX12_drops_90 rfl rfl ?_
        refine mm_at (pc' := 91) rfl ?_
        refine mm_iconst (v := 4) dX12_drops_91 rfl ?_
        refine mm_cS2i (dz := d - 1) dX12_drops_92 rfl mzX12_of ml_X12_87 imX12_of (by omega) (cm_of (m) (4)) (Nat.le_of_ble_eq_true rfl) ⟨Nat.le_refl _, Nat.le_refl _⟩ ?_
        refine mm_iconst (v := 0) dX12_drops_95 rfl ?_
        refine mm_iastN (630 + 40 * m + 4) dX12_drops_96 sa_201 (by omega) (by omega) ?_
        refine mm_aload_n 3 dX12_drops_97 rfl rfl ?_
        refine mm_iload_n 4 dX12_drops_98 rfl rfl ?_
        refine mm_iconst (v := 1) dX12_drops_99 rfl ?_
        refine mm_iconst (v := 0) dX12_drops_100 rfl ?_
        refine mm_at (pc' := 101) rfl ?_
        refine mm_cV3v (dz := d - 1) dX12_drops_101 rfl mzX12_costs ml_X12_298 imX12_costs (by omega) so_200 ⟨rfl, rfl⟩ (cm_costs (by omega) (by omega)) (Nat.le_of_ble_eq_true rfl) ⟨Nat.le_refl _, Nat.le_refl _⟩ ?_
        refine mm_vret dX12_drops_104 rfl ⟨Nat.le_refl _, Nat.le_refl _⟩ ?_
        exact mm_lv (by unfold op_drops; first | rw [if_pos c12] | (rw [if_neg c12]; first | (rw [if_pos c53]; rfl) | (rw [if_neg c53]; first | (rw [if_pos c66]; rfl) | (rw [if_neg c66]; rfl)))) hq
    · refine mm_bipush (v := 10) dX12_drops_56 rfl ?_
      refine mm_iload 0 dX12_drops_58 rfl ?_
      refine mm_iaddN (10) (wh) dX12_drops_60 ?_
      refine mm_goto (tgt := 81) dX12_drops_61 (by decide) ?_
      refine mm_dup2 dX12_drops_81 rfl rfl ?_
      refine mm_ialdN (10 + wh) dX12_drops_82 sa_201 (by omega) (by omega) ?_
      refine mm_iload_n 2 dX12_drops_83 rfl rfl ?_
      refine mm_iadd dX12_drops_84 ?_
      refine mm_iastN (10 + wh) dX12_drops_85 sa_201 (by omega) (by omega) ?_
      refine mm_aload_n 3 dX12_drops_86 rfl rfl ?_
      refine mm_getr (b := 201) dX12_drops_87 rfl fk_X12_9 rfl so_200 sr_200_0 ?_
      refine mm_iload_n 4 dX12_drops_90 rfl rfl ?_
      refine mm_at (pc' := 91) rfl ?_
      refine mm_iconst (v := 4) dX12_drops_91 rfl ?_
      refine mm_cS2i (dz := d - 1) dX12_drops_92 rfl mzX12_of ml_X12_87 imX12_of (by omega) (cm_of (m) (4)) (Nat.le_of_ble_eq_true rfl) ⟨Nat.le_refl _, Nat.le_refl _⟩ ?_
      refine mm_iconst (v := 0) dX12_drops_95 rfl ?_
      refine mm_iastN (630 + 40 * m + 4) dX12_drops_96 sa_201 (by omega) (by omega) ?_
      refine mm_aload_n 3 dX12_drops_97 rfl rfl ?_
      refine mm_iload_n 4 dX12_drops_98 rfl rfl ?_
      refine mm_iconst (v := 1) dX12_drops_99 rfl ?_
      refine mm_iconst (v := 0) dX12_drops_100 rfl ?_
      refine mm_at (pc' := 101) rfl ?_
      refine mm_cV3v (dz := d - 1) dX12_drops_101 rfl mzX12_costs ml_X12_298 imX12_costs (by omega) so_200 ⟨rfl, rfl⟩ (cm_costs (by omega) (by omega)) (Nat.le_of_ble_eq_true rfl) ⟨Nat.le_refl _, Nat.le_refl _⟩ ?_
      refine mm_vret dX12_drops_104 rfl ⟨Nat.le_refl _, Nat.le_refl _⟩ ?_
      exact mm_lv (by unfold op_drops; first | rw [if_pos c12] | (rw [if_neg c12]; first | (rw [if_pos c53]; rfl) | (rw [if_neg c53]; first | (rw [if_pos c66]; rfl) | (rw [if_neg c66]; rfl)))) hq
  · refine mm_vret dX12_drops_15 rfl ⟨Nat.le_refl _, Nat.le_refl _⟩ ?_
    exact mm_lv (by unfold op_drops; first | rw [if_pos c12] | (rw [if_neg c12]; first | (rw [if_pos c53]; rfl) | (rw [if_neg c53]; first | (rw [if_pos c66]; rfl) | (rw [if_neg c66]; rfl)))) hq
set_option maxRecDepth 100000 in
set_option maxHeartbeats 600000 in
theorem cm_fuses {g : mm_G} {I : mm_I} {d : Nat} {m : Nat} (hm5 : m < 5) {c : Nat} (hc1 : I 201 (630 + 40 * m + 1) = nI c) (hcl : c < 80) (hd : 2 ≤ d) : mm_Cv g zX12_fuses d [.ref 200, .int (nI m)] sh_S I (op_fuses I m c) := by
  refine mm_Cv_of (fun Q hq => ?_)
  refine mm_begin (ls := [(0, .ref 200), (1, .int (nI (m)))]) (Nat.le_of_ble_eq_true rfl) rfl rfl ?_
  refine mm_aload_n 0 dX12_fuses_0 rfl rfl ?_
  refine mm_getr (b := 201) dX12_fuses_1 rfl fk_X12_9 rfl so_200 sr_200_0 ?_
  refine mm_iload_n 1 dX12_fuses_4 rfl rfl ?_
  refine mm_iconst (v := 1) dX12_fuses_5 rfl ?_
  refine mm_cS2i (dz := d - 1) dX12_fuses_6 rfl mzX12_of ml_X12_87 imX12_of (by omega) (cm_of (m) (1)) (Nat.le_of_ble_eq_true rfl) ⟨Nat.le_refl _, Nat.le_refl _⟩ ?_
  refine mm_ialdN (630 + 40 * m + 1) dX12_fuses_9 sa_201 (by omega) (by omega) ?_
  refine mm_top (v := nI (c)) hc1 ?_
  refine mm_istore_n (ls' := [(2, .int (nI (c))), (0, .ref 200), (1, .int (nI (m)))]) dX12_fuses_10 rfl (by decide) rfl ?_
  refine mm_aload_n 1 dX12_fuses_11 rfl rfl ?_
  refine mm_at (pc' := 12) rfl ?_
  refine mm_getr (b := 201) dX12_fuses_12 rfl fk_X12_9 rfl so_200 sr_200_0 ?_
  refine mm_iload_n 2 dX12_fuses_15 rfl rfl ?_
  refine mm_iconst (v := 0) dX12_fuses_16 rfl ?_
  refine mm_cS2i (dz := d - 1) dX12_fuses_17 rfl mzX12_of ml_X12_87 imX12_of (by omega) (cm_of (m) (0)) (Nat.le_of_ble_eq_true rfl) ⟨Nat.le_refl _, Nat.le_refl _⟩ ?_
  refine mm_ialdN (630 + 40 * m + 0) dX12_fuses_20 sa_201 (by omega) (by omega) ?_
  refine mm_iconst (v := 2) dX12_fuses_21 rfl ?_
  have K22 : mm_Ex g zX12_fuses d (0, 0) (0, 0) sh_S (I) 71 [(2, .int (nI (c))), (0, .ref 200), (1, .int (nI (m)))] [.int (if ((I 201 (630 + 40 * m + 0)) = (2)) ∧ (¬ ((I 201 (630 + 40 * m + 2)) < (6)) ∧ (((I 201 (30 + c)) = 0) ∧ (¬ ((I 201 (110 + c)) < (10))))) then 1 else 0)] Q := by
    refine mm_istore_n (ls' := [(3, .int (if ((I 201 (630 + 40 * m + 0)) = (2)) ∧ (¬ ((I 201 (630 + 40 * m + 2)) < (6)) ∧ (((I 201 (30 + c)) = 0) ∧ (¬ ((I 201 (110 + c)) < (10))))) then 1 else 0)), (2, .int (nI (c))), (0, .ref 200), (1, .int (nI (m)))]) dX12_fuses_71 rfl (by decide) rfl ?_
    refine mm_iload_n 0 dX12_fuses_72 rfl rfl ?_
    refine mm_if_eqB (tgt := 120) dX12_fuses_73 (by decide) (fun c73 => ?_) (fun c73 => ?_)
    · refine mm_vret dX12_fuses_120 rfl ⟨Nat.le_refl _, Nat.le_refl _⟩ ?_
      exact mm_lv (by unfold op_fuses; first | (rw [if_pos c73]; done) | (rw [if_pos c73]; rfl) | rw [if_neg c73]) hq
    · refine mm_aload_n 2 dX12_fuses_76 rfl rfl ?_
      refine mm_getr (b := 201) dX12_fuses_77 rfl fk_X12_9 rfl so_200 sr_200_0 ?_
      refine mm_bipush (v := 30) dX12_fuses_80 rfl ?_
      refine mm_iload_n 1 dX12_fuses_82 rfl rfl ?_
      refine mm_iaddN (30) (c) dX12_fuses_83 ?_
      refine mm_iconst (v := 3) dX12_fuses_84 rfl ?_
      refine mm_iastN (30 + c) dX12_fuses_85 sa_201 (by omega) (by omega) ?_
      refine mm_at (pc' := 86) rfl ?_
      refine mm_aload_n 2 dX12_fuses_86 rfl rfl ?_
      refine mm_getr (b := 201) dX12_fuses_87 rfl fk_X12_9 rfl so_200 sr_200_0 ?_
      refine mm_bipush (v := 110) dX12_fuses_90 rfl ?_
      refine mm_iload_n 1 dX12_fuses_92 rfl rfl ?_
      refine mm_iaddN (110) (c) dX12_fuses_93 ?_
      refine mm_dup2 dX12_fuses_94 rfl rfl ?_
      refine mm_ialdN (110 + c) dX12_fuses_95 sa_201 (by omega) (by omega) ?_
      refine mm_top (v := I 201 (110 + c)) (by rw [mm_up_ni (by omega)]) ?_
      refine mm_bipush (v := 10) dX12_fuses_96 rfl ?_
      refine mm_at (pc' := 98) rfl ?_
      refine mm_isub dX12_fuses_98 ?_
      refine mm_iastN (110 + c) dX12_fuses_99 sa_201 (by omega) (by omega) ?_
      refine mm_aload_n 2 dX12_fuses_100 rfl rfl ?_
      refine mm_getr (b := 201) dX12_fuses_101 rfl fk_X12_9 rfl so_200 sr_200_0 ?_
      refine mm_bipush (v := 14) dX12_fuses_104 rfl ?_
      refine mm_dup2 dX12_fuses_106 rfl rfl ?_
      refine mm_ialdN (14) dX12_fuses_107 sa_201 (by omega) (by omega) ?_
      refine mm_top (v := I 201 14) (by rw [mm_up_ni (by omega), mm_up_ni (by omega)]) ?_
      refine mm_bipush (v := 10) dX12_fuses_108 rfl ?_
      refine mm_at (pc' := 110) rfl ?_
      refine mm_iadd dX12_fuses_110 ?_
      refine mm_iastN (14) dX12_fuses_111 sa_201 (by omega) (by omega) ?_
      refine mm_aload_n 2 dX12_fuses_112 rfl rfl ?_
      refine mm_iload_n 3 dX12_fuses_113 rfl rfl ?_
      refine mm_bipush (v := 6) dX12_fuses_114 rfl ?_
      refine mm_iconst (v := 3) dX12_fuses_116 rfl ?_
      refine mm_cV3v (dz := d - 1) dX12_fuses_117 rfl mzX12_costs ml_X12_298 imX12_costs (by omega) so_200 ⟨rfl, rfl⟩ (cm_costs (by omega) (by omega)) (Nat.le_of_ble_eq_true rfl) ⟨Nat.le_refl _, Nat.le_refl _⟩ ?_
      refine mm_vret dX12_fuses_120 rfl ⟨Nat.le_refl _, Nat.le_refl _⟩ ?_
      exact mm_lv (by unfold op_fuses; first | (rw [if_pos c73]; done) | (rw [if_pos c73]; rfl) | rw [if_neg c73]) hq
  refine mm_icmp_ne (tgt := 70) dX12_fuses_22 (by decide) (fun c22 => ?_) (fun c22 => ?_)
  · refine mm_iconst (v := 0) dX12_fuses_70 rfl ?_
    exact mm_top (by first | rfl | (simp [c22]; done) | (rw [if_pos (by simp_all)]; done) | (rw [if_neg (by simp_all)]; done) | (rw [if_pos (by omega)]; done) | (rw [if_neg (by omega)]; done)) K22
  · refine mm_aload_n 1 dX12_fuses_25 rfl rfl ?_
    refine mm_getr (b := 201) dX12_fuses_26 rfl fk_X12_9 rfl so_200 sr_200_0 ?_
    refine mm_iload_n 2 dX12_fuses_29 rfl rfl ?_
    refine mm_iconst (v := 2) dX12_fuses_30 rfl ?_
    refine mm_cS2i (dz := d - 1) dX12_fuses_31 rfl mzX12_of ml_X12_87 imX12_of (by omega) (cm_of (m) (2)) (Nat.le_of_ble_eq_true rfl) ⟨Nat.le_refl _, Nat.le_refl _⟩ ?_
    refine mm_ialdN (630 + 40 * m + 2) dX12_fuses_34 sa_201 (by omega) (by omega) ?_
    refine mm_bipush (v := 6) dX12_fuses_35 rfl ?_
    refine mm_icmp_lt (tgt := 70) dX12_fuses_37 (by decide) (fun c37 => ?_) (fun c37 => ?_)
    · refine mm_iconst (v := 0) dX12_fuses_70 rfl ?_
      exact mm_top (by first | rfl | (simp [c22, c37]; done) | (rw [if_pos (by simp_all)]; done) | (rw [if_neg (by simp_all)]; done) | (rw [if_pos (by omega)]; done) | (rw [if_neg (by omega)]; done)) K22
    · refine mm_aload_n 1 dX12_fuses_40 rfl rfl ?_
      refine mm_getr (b := 201) dX12_fuses_41 rfl fk_X12_9 rfl so_200 sr_200_0 ?_
      refine mm_bipush (v := 30) dX12_fuses_44 rfl ?_
      refine mm_iload_n 0 dX12_fuses_46 rfl rfl ?_
      refine mm_iaddN (30) (c) dX12_fuses_47 ?_
      refine mm_ialdN (30 + c) dX12_fuses_48 sa_201 (by omega) (by omega) ?_
      refine mm_if_ne (tgt := 70) dX12_fuses_49 (by decide) (fun c49 => ?_) (fun c49 => ?_)
      · refine mm_iconst (v := 0) dX12_fuses_70 rfl ?_
        exact mm_top (by first | rfl | (simp [c22, c37, c49]; done) | (rw [if_pos (by simp_all)]; done) | (rw [if_neg (by simp_all)]; done) | (rw [if_pos (by omega)]; done) | (rw [if_neg (by omega)]; done)) K22
      · refine mm_aload_n 1 dX12_fuses_52 rfl rfl ?_
        refine mm_getr (b := 201) dX12_fuses_53 rfl fk_X12_9 rfl so_200 sr_200_0 ?_
        refine mm_bipush (v := 110) dX12_fuses_56 rfl ?_
        refine mm_iload_n 0 dX12_fuses_58 rfl rfl ?_
        refine mm_iaddN (110) (c) dX12_fuses_59 ?_
        refine mm_ialdN (110 + c) dX12_fuses_60 sa_201 (by omega) (by omega) ?_
        refine mm_bipush (v := 10) dX12_fuses_61 rfl ?_
        refine mm_icmp_lt (tgt := 70) dX12_fuses_63 (by decide) (fun c63 => ?_) (fun c63 => ?_)
        · refine mm_iconst (v := 0) dX12_fuses_70 rfl ?_
          exact mm_top (by first | rfl | (simp [c22, c37, c49, c63]; done) | (rw [if_pos (by simp_all)]; done) | (rw [if_neg (by simp_all)]; done) | (rw [if_pos (by omega)]; done) | (rw [if_neg (by omega)]; done)) K22
        · refine mm_iconst (v := 1) dX12_fuses_66 rfl ?_
          refine mm_goto (tgt := 71) dX12_fuses_67 (by decide) ?_
          exact mm_top (by first | rfl | (simp [c22, c37, c49, c63]; done) | (rw [if_pos (by simp_all)]; done) | (rw [if_neg (by simp_all)]; done) | (rw [if_pos (by omega)]; done) | (rw [if_neg (by omega)]; done)) K22
set_option maxRecDepth 100000 in
set_option maxHeartbeats 600000 in
theorem cm_charges {g : mm_G} {I : mm_I} {d : Nat} {m : Nat} (hm5 : m < 5) {c : Nat} (hc1 : I 201 (630 + 40 * m + 1) = nI c) (hcl : c < 80) (hd : 1 ≤ d) : mm_Cv g zX12_charges d [.ref 200, .int (nI m)] sh_S I (op_charges I m c) := by
  refine mm_Cv_of (fun Q hq => ?_)
  refine mm_begin (ls := [(0, .ref 200), (1, .int (nI (m)))]) (Nat.le_of_ble_eq_true rfl) rfl rfl ?_
  refine mm_aload_n 0 dX12_charges_0 rfl rfl ?_
  refine mm_getr (b := 201) dX12_charges_1 rfl fk_X12_9 rfl so_200 sr_200_0 ?_
  refine mm_bipush (v := 30) dX12_charges_4 rfl ?_
  refine mm_aload_n 0 dX12_charges_6 rfl rfl ?_
  refine mm_getr (b := 201) dX12_charges_7 rfl fk_X12_9 rfl so_200 sr_200_0 ?_
  refine mm_iload_n 1 dX12_charges_10 rfl rfl ?_
  refine mm_iconst (v := 1) dX12_charges_11 rfl ?_
  refine mm_cS2i (dz := d - 1) dX12_charges_12 rfl mzX12_of ml_X12_87 imX12_of (by omega) (cm_of (m) (1)) (Nat.le_of_ble_eq_true rfl) ⟨Nat.le_refl _, Nat.le_refl _⟩ ?_
  refine mm_at (pc' := 15) rfl ?_
  refine mm_ialdN (630 + 40 * m + 1) dX12_charges_15 sa_201 (by omega) (by omega) ?_
  refine mm_top (v := nI (c)) hc1 ?_
  refine mm_iaddN (30) (c) dX12_charges_16 ?_
  refine mm_ialdN (30 + c) dX12_charges_17 sa_201 (by omega) (by omega) ?_
  refine mm_iconst (v := 4) dX12_charges_18 rfl ?_
  refine mm_icmp_ne (tgt := 74) dX12_charges_19 (by decide) (fun c19 => ?_) (fun c19 => ?_)
  · refine mm_vret dX12_charges_74 rfl ⟨Nat.le_refl _, Nat.le_refl _⟩ ?_
    exact mm_lv (by unfold op_charges; first | (rw [if_pos c19]; done) | (rw [if_pos c19]; rfl) | rw [if_neg c19]) hq
  · refine mm_bipush (v := 20) dX12_charges_22 rfl ?_
    refine mm_aload_n 0 dX12_charges_24 rfl rfl ?_
    refine mm_getr (b := 201) dX12_charges_25 rfl fk_X12_9 rfl so_200 sr_200_0 ?_
    refine mm_iconst (v := 4) dX12_charges_28 rfl ?_
    refine mm_ialdN (4) dX12_charges_29 sa_201 (by omega) (by omega) ?_
    refine mm_bipush (v := 100) dX12_charges_30 rfl ?_
    refine mm_aload_n 0 dX12_charges_32 rfl rfl ?_
    refine mm_at (pc' := 33) rfl ?_
    refine mm_getr (b := 201) dX12_charges_33 rfl fk_X12_9 rfl so_200 sr_200_0 ?_
    refine mm_iload_n 1 dX12_charges_36 rfl rfl ?_
    refine mm_iconst (v := 2) dX12_charges_37 rfl ?_
    refine mm_cS2i (dz := d - 1) dX12_charges_38 rfl mzX12_of ml_X12_87 imX12_of (by omega) (cm_of (m) (2)) (Nat.le_of_ble_eq_true rfl) ⟨Nat.le_refl _, Nat.le_refl _⟩ ?_
    refine mm_ialdN (630 + 40 * m + 2) dX12_charges_41 sa_201 (by omega) (by omega) ?_
    refine mm_isub dX12_charges_42 ?_
    refine mm_min dX12_charges_43 rfl ml_X12_106 jm_min (by omega) (Nat.le_of_ble_eq_true rfl) ⟨Nat.le_refl _, Nat.le_refl _⟩ ?_
    refine mm_min dX12_charges_46 rfl ml_X12_106 jm_min (by omega) (Nat.le_of_ble_eq_true rfl) ⟨Nat.le_refl _, Nat.le_refl _⟩ ?_
    refine mm_at (pc' := 49) rfl ?_
    refine mm_istore_n (ls' := [(2, .int (if (if 100 - (I 201 (630 + 40 * m + 2)) < I 201 4 then 100 - (I 201 (630 + 40 * m + 2)) else I 201 4) < 20 then (if 100 - (I 201 (630 + 40 * m + 2)) < I 201 4 then 100 - (I 201 (630 + 40 * m + 2)) else I 201 4) else 20)), (0, .ref 200), (1, .int (nI (m)))]) dX12_charges_49 rfl (by decide) rfl ?_
    refine mm_aload_n 1 dX12_charges_50 rfl rfl ?_
    refine mm_getr (b := 201) dX12_charges_51 rfl fk_X12_9 rfl so_200 sr_200_0 ?_
    refine mm_iconst (v := 4) dX12_charges_54 rfl ?_
    refine mm_dup2 dX12_charges_55 rfl rfl ?_
    refine mm_ialdN (4) dX12_charges_56 sa_201 (by omega) (by omega) ?_
    refine mm_iload_n 0 dX12_charges_57 rfl rfl ?_
    refine mm_isub dX12_charges_58 ?_
    refine mm_at (pc' := 59) rfl ?_
    refine mm_iastN (4) dX12_charges_59 sa_201 (by omega) (by omega) ?_
    refine mm_aload_n 1 dX12_charges_60 rfl rfl ?_
    refine mm_getr (b := 201) dX12_charges_61 rfl fk_X12_9 rfl so_200 sr_200_0 ?_
    refine mm_iload_n 2 dX12_charges_64 rfl rfl ?_
    refine mm_iconst (v := 2) dX12_charges_65 rfl ?_
    refine mm_cS2i (dz := d - 1) dX12_charges_66 rfl mzX12_of ml_X12_87 imX12_of (by omega) (cm_of (m) (2)) (Nat.le_of_ble_eq_true rfl) ⟨Nat.le_refl _, Nat.le_refl _⟩ ?_
    refine mm_dup2 dX12_charges_69 rfl rfl ?_
    refine mm_ialdN (630 + 40 * m + 2) dX12_charges_70 sa_201 (by omega) (by omega) ?_
    refine mm_at (pc' := 71) rfl ?_
    refine mm_top (v := I 201 (630 + 40 * m + 2)) (by rw [mm_up_ni (by omega)]) ?_
    refine mm_iload_n 0 dX12_charges_71 rfl rfl ?_
    refine mm_iadd dX12_charges_72 ?_
    refine mm_iastN (630 + 40 * m + 2) dX12_charges_73 sa_201 (by omega) (by omega) ?_
    refine mm_vret dX12_charges_74 rfl ⟨Nat.le_refl _, Nat.le_refl _⟩ ?_
    exact mm_lv (by unfold op_charges; first | (rw [if_pos c19]; done) | (rw [if_pos c19]; rfl) | rw [if_neg c19]) hq
set_option maxRecDepth 100000 in
set_option maxHeartbeats 600000 in
theorem lm_begin {g : mm_G} {I : mm_I} {d : Nat} {Q : Option Value → mm_Sh → mm_I → Prop} {m : Nat} (hm5 : m < 5) {x : Int32} (hd : 1 ≤ d) (hq : Q none sh_S (op_bl I m 32)) : ∀ (mf : Nat) (i : Nat), (i ≤ 32) → 32 - i < mf → mm_Ex g zX12_begin d (0, 0) (0, 0) sh_S (op_bl I m i) 38 [(3, .int (nI (i))), (0, .ref 200), (1, .int (nI (m))), (2, .int (x))] [] Q := by
  intro mf
  induction mf with
  | zero => intro i hi hmz; exact absurd hmz (Nat.not_lt_zero _)
  | succ mf ih =>
    intro i hi hmz
    refine mm_iload_n 0 dX12_begin_38 rfl rfl ?_
    refine mm_bipush (v := 32) dX12_begin_39 rfl ?_
    refine mm_icmp_geN (i) (32) (tgt := 64) dX12_begin_41 (by decide) (by omega) (by omega) (fun c41 => ?_) (fun c41 => ?_)
    · refine mm_vret dX12_begin_64 rfl ⟨Nat.le_refl _, Nat.le_refl _⟩ ?_
      exact (show 32 = i by omega) ▸ hq
    · refine mm_aload_n 1 dX12_begin_44 rfl rfl ?_
      refine mm_getr (b := 201) dX12_begin_45 rfl fk_X12_9 rfl so_200 sr_200_0 ?_
      refine mm_iload_n 2 dX12_begin_48 rfl rfl ?_
      refine mm_bipush (v := 8) dX12_begin_49 rfl ?_
      refine mm_iload_n 0 dX12_begin_51 rfl rfl ?_
      refine mm_iaddN (8) (i) dX12_begin_52 ?_
      refine mm_cS2i (dz := d - 1) dX12_begin_53 rfl mzX12_of ml_X12_87 imX12_of (by omega) (cm_of (m) (8 + i)) (Nat.le_of_ble_eq_true rfl) ⟨Nat.le_refl _, Nat.le_refl _⟩ ?_
      refine mm_at (pc' := 56) rfl ?_
      refine mm_iconst (v := -1) dX12_begin_56 rfl ?_
      refine mm_iastN (630 + 40 * m + (8 + i)) dX12_begin_57 sa_201 (by omega) (by omega) ?_
      refine mm_iincN (ls' := [(3, .int (nI (i + 1))), (0, .ref 200), (1, .int (nI (m))), (2, .int (x))]) 0 (i) 1 dX12_begin_58 rfl rfl (by decide) rfl ?_
      refine mm_goto (tgt := 38) dX12_begin_61 (by decide) ?_
      exact ih (i + 1) (by omega) (by omega)
set_option maxRecDepth 100000 in
set_option maxHeartbeats 600000 in
theorem cm_begin {g : mm_G} {I : mm_I} {d : Nat} {m : Nat} (hm5 : m < 5) {p : Nat} (hp : p < 6) (hd : 1 ≤ d) : mm_Cv g zX12_begin d [.ref 200, .int (nI m), .int (nI p)] sh_S I (op_begin I m p) := by
  refine mm_Cv_of (fun Q hq => ?_)
  refine mm_begin (ls := [(0, .ref 200), (1, .int (nI (m))), (2, .int (nI (p)))]) (Nat.le_of_ble_eq_true rfl) rfl rfl ?_
  refine mm_aload_n 0 dX12_begin_0 rfl rfl ?_
  refine mm_getr (b := 201) dX12_begin_1 rfl fk_X12_9 rfl so_200 sr_200_0 ?_
  refine mm_iload_n 1 dX12_begin_4 rfl rfl ?_
  refine mm_bipush (v := 6) dX12_begin_5 rfl ?_
  refine mm_cS2i (dz := d - 1) dX12_begin_7 rfl mzX12_of ml_X12_87 imX12_of (by omega) (cm_of (m) (6)) (Nat.le_of_ble_eq_true rfl) ⟨Nat.le_refl _, Nat.le_refl _⟩ ?_
  refine mm_aload_n 0 dX12_begin_10 rfl rfl ?_
  refine mm_iload_n 2 dX12_begin_11 rfl rfl ?_
  refine mm_cV1i (dz := d - 1) dX12_begin_12 rfl mzX12_isEmpty ml_X12_247 imX12_isEmpty (by omega) so_200 ⟨rfl, rfl⟩ (cm_isEmpty (by omega)) (Nat.le_of_ble_eq_true rfl) ⟨Nat.le_refl _, Nat.le_refl _⟩ ?_
  refine mm_at (pc' := 15) rfl ?_
  have K15 : mm_Ex g zX12_begin d (0, 0) (0, 0) sh_S (I) 23 [(0, .ref 200), (1, .int (nI (m))), (2, .int (nI (p)))] [.int (if I 201 (1226 + (418 * p)) = 0 then -1 else (nI (p))), .int (nI (630 + 40 * m + 6)), .ref 201] Q := by
    refine mm_iastN (630 + 40 * m + 6) dX12_begin_23 sa_201 (by omega) (by omega) ?_
    refine mm_aload_n 0 dX12_begin_24 rfl rfl ?_
    refine mm_getr (b := 201) dX12_begin_25 rfl fk_X12_9 rfl so_200 sr_200_0 ?_
    refine mm_iload_n 1 dX12_begin_28 rfl rfl ?_
    refine mm_bipush (v := 7) dX12_begin_29 rfl ?_
    refine mm_cS2i (dz := d - 1) dX12_begin_31 rfl mzX12_of ml_X12_87 imX12_of (by omega) (cm_of (m) (7)) (Nat.le_of_ble_eq_true rfl) ⟨Nat.le_refl _, Nat.le_refl _⟩ ?_
    refine mm_iconst (v := 0) dX12_begin_34 rfl ?_
    refine mm_iastN (630 + 40 * m + 7) dX12_begin_35 sa_201 (by omega) (by omega) ?_
    refine mm_at (pc' := 36) rfl ?_
    refine mm_iconst (v := 0) dX12_begin_36 rfl ?_
    refine mm_istore_n (ls' := [(3, .int (0)), (0, .ref 200), (1, .int (nI (m))), (2, .int (nI (p)))]) dX12_begin_37 rfl (by decide) rfl ?_
    exact lm_begin hm5 hd hq 33 0 (by omega) (by omega)
  refine mm_if_eqB (tgt := 22) dX12_begin_15 (by decide) (fun c15 => ?_) (fun c15 => ?_)
  · refine mm_iload_n 2 dX12_begin_22 rfl rfl ?_
    exact mm_top (by rw [if_neg c15]) K15
  · refine mm_iconst (v := -1) dX12_begin_18 rfl ?_
    refine mm_goto (tgt := 23) dX12_begin_19 (by decide) ?_
    exact mm_top (by rw [if_pos c15]) K15
