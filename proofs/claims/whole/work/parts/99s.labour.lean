/-! THE CLASS: what MACHINES do -/
theorem mo_Wu {N : Nat → Int32} {w h x : Nat} {v : Int32} (hx : 2 ≤ x) (hW : mo_W N w h) : mo_W (upd N x v) w h := ⟨(upd_n (by omega)).trans hW.1, (upd_n (by omega)).trans hW.2.1, hW.2.2⟩
theorem s_m7u {c n l k o r : Nat} {A : mm_I} {N : Nat → Int32} {m : Nat} {v : Int32} (hn : n ≤ 5) (hm : m < 5) : mm_up (cN c n l k o r A N) (36 + 3 * m) 7 v = cN c n l k o r (mm_up A (36 + 3 * m) 7 v) N := by
  refine cN_dn ?_ ?_
  · rw [lo_ato (by omega) (by omega) (by omega) (by omega) (by omega) (by omega) (by omega) (by omega) (by omega) (by omega) (by omega) (by omega) (by omega) (by omega) (by omega), if_neg (by omega)]
  · unfold cn_; rw [if_neg (by omega), if_neg (by omega), if_neg (by omega), if_neg (by omega), if_neg (by omega)]
theorem s_m7 {c n l k o r : Nat} {A : mm_I} {N : Nat → Int32} {m : Nat} (hn : n ≤ 5) (hm : m < 5) : cN c n l k o r A N (36 + 3 * m) 7 = A (36 + 3 * m) 7 := by
  refine cN_j ?_ ?_
  · rw [lo_ato (by omega) (by omega) (by omega) (by omega) (by omega) (by omega) (by omega) (by omega) (by omega) (by omega) (by omega) (by omega) (by omega) (by omega) (by omega), if_neg (by omega)]
  · unfold cn_; rw [if_neg (by omega), if_neg (by omega), if_neg (by omega), if_neg (by omega), if_neg (by omega)]
theorem kd2 {x : Int32} : sp_kd x 2 ↔ x = 2 := ⟨fun h => by rcases h with h | ⟨h, -⟩ | ⟨h, -⟩; exact h; exact absurd h (by decide); exact absurd h (by decide), fun h => Or.inl h⟩
theorem kd4 {x : Int32} : sp_kd x 4 ↔ x = 4 := ⟨fun h => by rcases h with h | ⟨h, -⟩ | ⟨h, -⟩; exact h; exact absurd h (by decide); exact absurd h (by decide), fun h => Or.inl h⟩
theorem mk2 {x : Int32} : sp_mk x 2 ↔ x = 2 := ⟨fun h => by rcases h with h | h | ⟨h, -⟩; exact absurd h (by decide); exact h; exact absurd h (by decide), fun h => Or.inr (Or.inl h)⟩
theorem mk3 {x : Int32} : sp_mk x 3 ↔ x = 3 := ⟨fun h => by rcases h with h | h | ⟨h, -⟩; exact absurd h (by decide); exact h; exact absurd h (by decide), fun h => Or.inr (Or.inl h)⟩
theorem min3 {a b c : Int32} : sp_min a (sp_min b c) = sp_min (sp_min a b) c := by
  unfold sp_min
  by_cases h1 : c < b <;> by_cases h2 : b < a <;> by_cases h3 : c < a <;> simp only [h1, h2, h3, if_true, if_false] <;> (simp only [Int32.lt_iff_toInt_lt] at h1 h2 h3; first | rfl | (exfalso; omega) | (apply Int32.toInt_inj.mp; omega))
theorem pay_e {X x : Int32} {q y : Nat} (hX : X = nI q) (hx : x = nI y) (hq : q < 2 ^ 31) (h : y ≤ q) : (if 0 < X - x then X - x else 0) = X - x := by
  subst hX hx
  rw [pk_sub h]
  by_cases e : q - y = 0
  · rw [e, if_neg (by decide)]; rfl
  · rw [if_pos]
    have z := (nI_ltI (a := 0) (b := q - y) (by decide) (by omega)).mpr (by omega)
    exact z
theorem costs_201 {K : mm_I} {m : Nat} {c v : Int32} : op_costs K m c v 201 = upd (upd (K 201) (630 + 40 * m + 2) (K 201 (630 + 40 * m + 2) - c)) (630 + 40 * m + 3) (sp_min 100 (K 201 (630 + 40 * m + 3) + v)) := by unfold op_costs; rw [up_201, up_201]
set_option maxRecDepth 100000 in
set_option maxHeartbeats 600000 in
theorem cg_scoop {g : mm_G} {d : Nat} {w h n l k o r : Nat} {A : mm_I} {N : Nat → Int32} (hz : zOK (w * h) n l k o r) (hW : mo_W N w h) {J : mm_I} (hJ : J 201 = N) {m c : Nat} (hm : m < n) (h1 : N (630 + 40 * m + 1) = nI c) (hcc : c < w * h) {q : Nat} (h2 : N (630 + 40 * m + 2) = nI q) (hq100 : q ≤ 100) (hK : mo_K N (w * h)) (hQ : mo_Q N n) (hd : 3 ≤ d) : mm_Cv g zX6_scoop d [.ref 171, .ref (36 + 3 * m)] sh_S (cN (w * h) n l k o r A N) (cN (w * h) n l k o r A (op_scoops J m c 201)) := by
  obtain ⟨hz1, hz2, hz3, hz4, hz5, hz6⟩ := id hz
  have hc := mo_W_c hW
  obtain ⟨-, -, hw1, hw2, hh1, hh2⟩ := id hW
  refine mm_Cv_of (fun Q hq => ?_)
  refine mm_begin (ls := [(0, .ref 171), (1, .ref (36 + 3 * m))]) (Nat.le_of_ble_eq_true rfl) rfl rfl ?_
  refine mm_aload_n 0 dX6_scoop_0 rfl rfl ?_
  refine mm_getr (b := 1) dX6_scoop_1 rfl fk_X6_9 rfl so_171 sr_171_0 ?_
  refine mm_getr (b := 2) dX6_scoop_4 rfl fk_X6_108 rfl so_1 sr_1_0 ?_
  refine mm_aload_n 1 dX6_scoop_7 rfl rfl ?_
  refine mm_geti dX6_scoop_8 rfl fk_X6_124 rfl (sm_1 (show m < 5 by omega)).1 ?_
  refine mm_top (v := N (630 + 40 * m + 1)) (cN_r ((lo_atm (by omega)).trans (if_pos ⟨by omega, by omega⟩))) ?_
  refine mm_top (v := nI (c)) h1 ?_
  refine mm_iconst (v := 2) dX6_scoop_11 rfl ?_
  refine mm_cV2i (dz := d - 1) dX6_scoop_12 rfl mzX0_isA ml_X6_222 imX0_isA (by omega) so_2 ⟨rfl, rfl⟩ (cg_isA hz hW (c := c) (by omega) (hK _ (by omega)) (by omega)) (Nat.le_of_ble_eq_true rfl) ⟨Nat.le_refl _, Nat.le_refl _⟩ ?_
  refine mm_if_eqB (tgt := 22) dX6_scoop_15 (by decide) (fun c15 => ?_) (fun c15 => ?_)
  · refine mm_iconst (v := 0) dX6_scoop_22 rfl ?_
    refine mm_istore_n (ls' := [(2, .int (0)), (0, .ref 171), (1, .ref (36 + 3 * m))]) dX6_scoop_23 rfl (by decide) rfl ?_
    refine mm_aload_n 2 dX6_scoop_24 rfl rfl ?_
    refine mm_geti dX6_scoop_25 rfl fk_X6_232 rfl (sm_1 (show m < 5 by omega)).1 ?_
    refine mm_top (v := N (630 + 40 * m + 4)) (cN_r ((lo_atm (by omega)).trans (if_pos ⟨by omega, by omega⟩))) ?_
    refine mm_if_le (tgt := 43) dX6_scoop_28 (by decide) (fun c28 => ?_) (fun c28 => ?_)
    · refine mm_iconst (v := 0) dX6_scoop_43 rfl ?_
      refine mm_istore_n (ls' := [(3, .int (0)), (2, .int (0)), (0, .ref 171), (1, .ref (36 + 3 * m))]) dX6_scoop_44 rfl (by decide) rfl ?_
      refine mm_aload_n 3 dX6_scoop_45 rfl rfl ?_
      refine mm_iconst (v := 1) dX6_scoop_46 rfl ?_
      refine mm_cV1i (dz := d - 1) dX6_scoop_47 rfl mzX1_isA ml_X6_238 imX1_isA (by omega) (sm_1 (show m < 5 by omega)).1 ⟨rfl, rfl⟩ (cg_mIsA hz hW (m := m) hm (hQ m hm) (by omega)) (Nat.le_of_ble_eq_true rfl) ⟨Nat.le_refl _, Nat.le_refl _⟩ ?_
      refine mm_if_eqB (tgt := 65) dX6_scoop_50 (by decide) (fun c50 => ?_) (fun c50 => ?_)
      · refine mm_vret dX6_scoop_65 rfl ⟨Nat.le_refl _, Nat.le_refl _⟩ ?_
        have e : op_scoops J m c 201 = N := by
          unfold op_scoops
          rw [if_neg (by rw [hJ]; exact fun z => c15 (kd2.mpr z))]
          unfold op_sc1
          rw [if_neg (by
            show ¬ (sp_mk (J 201 (630 + 40 * m + 0)) 1 ∧ ¬ (0 < J 201 (630 + 40 * m + 4) ∧ ¬ J 201 (630 + 40 * m + 5) = _) ∧ ¬ J 201 (630 + 40 * m + 2) < 3 ∧ _)
            rw [hJ]
            rintro ⟨z1, z2, z3, z4⟩
            first | exact c50 z1 | exact z2 ⟨Int32.not_le.mp c28, c36⟩ | exact z3 c62 | exact absurd z4 (Int32.not_lt.mpr c110) | exact absurd (Int32.not_lt.mp z3) c62)]
          exact hJ
        rw [e] at hq; exact hq
      · refine mm_iload_n 0 dX6_scoop_53 rfl rfl ?_
        refine mm_if_ne (tgt := 65) dX6_scoop_54 (by decide) (fun q => absurd q (by decide)) (fun _ => ?_)
        refine mm_aload_n 3 dX6_scoop_57 rfl rfl ?_
        refine mm_geti dX6_scoop_58 rfl fk_X6_143 rfl (sm_1 (show m < 5 by omega)).1 ?_
        refine mm_top (v := N (630 + 40 * m + 2)) (cN_r ((lo_atm (by omega)).trans (if_pos ⟨by omega, by omega⟩))) ?_
        refine mm_iconst (v := 3) dX6_scoop_61 rfl ?_
        refine mm_icmp_ge (tgt := 66) dX6_scoop_62 (by decide) (fun c62 => ?_) (fun c62 => ?_)
        · refine mm_aload_n 2 dX6_scoop_66 rfl rfl ?_
          refine mm_getr (b := 1) dX6_scoop_67 rfl fk_X6_9 rfl so_171 sr_171_0 ?_
          refine mm_getr (b := 2) dX6_scoop_70 rfl fk_X6_108 rfl so_1 sr_1_0 ?_
          refine mm_iload_n 1 dX6_scoop_73 rfl rfl ?_
          refine mm_cV1r (dz := d - 1) dX6_scoop_74 rfl mzX0_kilosOf ml_X6_240 imX0_kilosOf (by omega) so_2 ⟨rfl, rfl⟩ (cg_kil0 hz hW (x := 0) (by decide)) (Nat.le_of_ble_eq_true rfl) ⟨Nat.le_refl _, Nat.le_refl _⟩ ?_
          refine mm_astore (ls' := [(4, .ref 5), (3, .int (0)), (2, .int (0)), (0, .ref 171), (1, .ref (36 + 3 * m))]) dX6_scoop_77 (by decide) rfl ?_
          refine mm_aload 0 dX6_scoop_79 rfl ?_
          refine mm_aload_n 4 dX6_scoop_81 rfl rfl ?_
          refine mm_at (pc' := 82) rfl ?_
          refine mm_geti dX6_scoop_82 rfl fk_X6_124 rfl (sm_1 (show m < 5 by omega)).1 ?_
          refine mm_top (v := N (630 + 40 * m + 1)) (cN_r ((lo_atm (by omega)).trans (if_pos ⟨by omega, by omega⟩))) ?_
          refine mm_top (v := nI (c)) h1 ?_
          refine mm_cV1i (dz := d - 1) dX6_scoop_85 rfl mzX5_at ml_X6_76 imX5_at (by omega) so_5 ⟨rfl, rfl⟩ (ct_at rw_5 (c) (by omega)) (Nat.le_of_ble_eq_true rfl) ⟨Nat.le_refl _, Nat.le_refl _⟩ ?_
          refine mm_top (v := N (110 + c)) (cN_r (lo_at6.trans (if_pos (by omega)))) ?_
          refine mm_istore (ls' := [(5, .int (N (110 + c))), (4, .ref 5), (3, .int (0)), (2, .int (0)), (0, .ref 171), (1, .ref (36 + 3 * m))]) dX6_scoop_88 (by decide) rfl ?_
          refine mm_iconst (v := 5) dX6_scoop_90 rfl ?_
          refine mm_iload 0 dX6_scoop_91 rfl ?_
          refine mm_bipush (v := 10) dX6_scoop_93 rfl ?_
          refine mm_aload_n 5 dX6_scoop_95 rfl rfl ?_
          refine mm_geti dX6_scoop_96 rfl fk_X6_232 rfl (sm_1 (show m < 5 by omega)).1 ?_
          refine mm_at (pc' := 99) rfl ?_
          refine mm_top (v := N (630 + 40 * m + 4)) (cN_r ((lo_atm (by omega)).trans (if_pos ⟨by omega, by omega⟩))) ?_
          refine mm_isub dX6_scoop_99 ?_
          refine mm_min dX6_scoop_100 rfl ml_X6_244 jm_min (by omega) (Nat.le_of_ble_eq_true rfl) ⟨Nat.le_refl _, Nat.le_refl _⟩ ?_
          refine mm_min dX6_scoop_103 rfl ml_X6_244 jm_min (by omega) (Nat.le_of_ble_eq_true rfl) ⟨Nat.le_refl _, Nat.le_refl _⟩ ?_
          refine mm_top (v := sc_n J m (110 + c)) (by unfold sc_n; rw [hJ]; exact min3) ?_
          refine mm_istore (ls' := [(6, .int (sc_n J m (110 + c))), (5, .int (N (110 + c))), (4, .ref 5), (3, .int (0)), (2, .int (0)), (0, .ref 171), (1, .ref (36 + 3 * m))]) dX6_scoop_106 (by decide) rfl ?_
          refine mm_iload 0 dX6_scoop_108 rfl ?_
          refine mm_if_le (tgt := 149) dX6_scoop_110 (by decide) (fun c110 => ?_) (fun c110 => ?_)
          · refine mm_vret dX6_scoop_149 rfl ⟨Nat.le_refl _, Nat.le_refl _⟩ ?_
            have e : op_scoops J m c 201 = N := by
              unfold op_scoops
              rw [if_neg (by rw [hJ]; exact fun z => c15 (kd2.mpr z))]
              unfold op_sc1
              rw [if_neg (by
                show ¬ (sp_mk (J 201 (630 + 40 * m + 0)) 1 ∧ ¬ (0 < J 201 (630 + 40 * m + 4) ∧ ¬ J 201 (630 + 40 * m + 5) = _) ∧ ¬ J 201 (630 + 40 * m + 2) < 3 ∧ _)
                rw [hJ]
                rintro ⟨z1, z2, z3, z4⟩
                first | exact c50 z1 | exact z2 ⟨Int32.not_le.mp c28, c36⟩ | exact z3 c62 | exact absurd z4 (Int32.not_lt.mpr c110) | exact absurd (Int32.not_lt.mp z3) c62)]
              exact hJ
            rw [e] at hq; exact hq
          · refine mm_aload 2 dX6_scoop_113 rfl ?_
            refine mm_aload_n 6 dX6_scoop_115 rfl rfl ?_
            refine mm_geti dX6_scoop_116 rfl fk_X6_124 rfl (sm_1 (show m < 5 by omega)).1 ?_
            refine mm_top (v := N (630 + 40 * m + 1)) (cN_r ((lo_atm (by omega)).trans (if_pos ⟨by omega, by omega⟩))) ?_
            refine mm_top (v := nI (c)) h1 ?_
            refine mm_iload 1 dX6_scoop_119 rfl ?_
            refine mm_iload 0 dX6_scoop_121 rfl ?_
            refine mm_isub dX6_scoop_123 ?_
            refine mm_cV2v (dz := d - 1) dX6_scoop_124 rfl mzX5_set ml_X6_177 imX5_set (by omega) so_5 ⟨rfl, rfl⟩ (ct_set rw_5 (c) (by omega)) (Nat.le_of_ble_eq_true rfl) ⟨Nat.le_refl _, Nat.le_refl _⟩ ?_
            refine mm_at (pc' := 127) rfl ?_
            refine mm_mem (J := cN (w * h) n l k o r A (upd N (110 + c) ((N (110 + c)) - (sc_n J m (110 + c))))) (cN_up hz (lo_at6.trans (if_pos (by omega))) (sn_up (by omega) hz.1)) ?_
            refine mm_aload_n 6 dX6_scoop_127 rfl rfl ?_
            refine mm_dup dX6_scoop_128 rfl ?_
            refine mm_geti dX6_scoop_129 rfl fk_X6_232 rfl (sm_1 (show m < 5 by omega)).1 ?_
            refine mm_top (v := N (630 + 40 * m + 4)) ((cN_r ((lo_atm (by omega)).trans (if_pos ⟨by omega, by omega⟩))).trans (by rw [upd_n (by omega)])) ?_
            refine mm_iload 0 dX6_scoop_132 rfl ?_
            refine mm_iadd dX6_scoop_134 ?_
            refine mm_puti dX6_scoop_135 rfl fk_X6_232 rfl fv_1_4 (sm_1 (show m < 5 by omega)).1 ?_
            refine mm_mem (J := cN (w * h) n l k o r A (upd (upd N (110 + c) ((N (110 + c)) - (sc_n J m (110 + c)))) (630 + 40 * m + 4) ((N (630 + 40 * m + 4)) + (sc_n J m (110 + c))))) (cN_up hz ((lo_atm (by omega)).trans (if_pos ⟨by omega, by omega⟩)) (sn_up (by omega) hz.1)) ?_
            refine mm_aload_n 6 dX6_scoop_138 rfl rfl ?_
            refine mm_iload_n 4 dX6_scoop_139 rfl rfl ?_
            refine mm_at (pc' := 140) rfl ?_
            refine mm_puti dX6_scoop_140 rfl fk_X6_235 rfl fv_1_5 (sm_1 (show m < 5 by omega)).1 ?_
            refine mm_mem (J := cN (w * h) n l k o r A (upd (upd (upd N (110 + c) ((N (110 + c)) - (sc_n J m (110 + c)))) (630 + 40 * m + 4) ((N (630 + 40 * m + 4)) + (sc_n J m (110 + c)))) (630 + 40 * m + 5) 0)) (cN_up hz ((lo_atm (by omega)).trans (if_pos ⟨by omega, by omega⟩)) (sn_up (by omega) hz.1)) ?_
            refine mm_aload_n 6 dX6_scoop_143 rfl rfl ?_
            refine mm_iconst (v := 3) dX6_scoop_144 rfl ?_
            refine mm_iconst (v := 2) dX6_scoop_145 rfl ?_
            refine mm_cV2v (dz := d - 1) dX6_scoop_146 rfl mzX1_pay ml_X6_229 imX1_pay (by omega) (sm_1 (show m < 5 by omega)).1 ⟨rfl, rfl⟩ (cg_pay hz (mo_Wu (by omega) (mo_Wu (by omega) (mo_Wu (by omega) hW))) (m := m) (by omega) (by omega)) (Nat.le_of_ble_eq_true rfl) ⟨Nat.le_refl _, Nat.le_refl _⟩ ?_
            refine mm_vret dX6_scoop_149 rfl ⟨Nat.le_refl _, Nat.le_refl _⟩ ?_
            have eP : sc_P J m (110 + c) 0 := by
              show sp_mk (J 201 (630 + 40 * m + 0)) 1 ∧ _
              rw [hJ]
              refine ⟨c50, ?_, ?_, Int32.not_le.mp c110⟩
              · rintro ⟨z1, z2⟩; first | exact absurd z1 (Int32.not_lt.mpr c28) | exact z2 c36
              · first | exact Int32.not_lt.mpr c62 | exact Int32.not_lt.mpr (Int32.not_lt.mp c62) | exact c62
            have e2 : (if 0 < (upd (upd (upd N (110 + c) ((N (110 + c)) - (sc_n J m (110 + c)))) (630 + 40 * m + 4) ((N (630 + 40 * m + 4)) + (sc_n J m (110 + c)))) (630 + 40 * m + 5) 0) (630 + 40 * m + 2) - 3 then (upd (upd (upd N (110 + c) ((N (110 + c)) - (sc_n J m (110 + c)))) (630 + 40 * m + 4) ((N (630 + 40 * m + 4)) + (sc_n J m (110 + c)))) (630 + 40 * m + 5) 0) (630 + 40 * m + 2) - 3 else 0) = (upd (upd (upd N (110 + c) ((N (110 + c)) - (sc_n J m (110 + c)))) (630 + 40 * m + 4) ((N (630 + 40 * m + 4)) + (sc_n J m (110 + c)))) (630 + 40 * m + 5) 0) (630 + 40 * m + 2) - 3 := pay_e (q := q) (y := 3) (by rw [upd_n (by omega), upd_n (by omega), upd_n (by omega)]; exact h2) rfl (by omega) (by have z := eP.2.2.1; rw [hJ, h2] at z; have z2 : ¬ q < 3 := fun z3 => z ((nI_ltI (by omega) (by decide)).mpr z3); omega)
            have e : op_scoops J m c 201 = (upd (upd (upd (upd (upd N (110 + c) ((N (110 + c)) - (sc_n J m (110 + c)))) (630 + 40 * m + 4) ((N (630 + 40 * m + 4)) + (sc_n J m (110 + c)))) (630 + 40 * m + 5) 0) (630 + 40 * m + 2) ((upd (upd (upd N (110 + c) ((N (110 + c)) - (sc_n J m (110 + c)))) (630 + 40 * m + 4) ((N (630 + 40 * m + 4)) + (sc_n J m (110 + c)))) (630 + 40 * m + 5) 0) (630 + 40 * m + 2) - 3)) (630 + 40 * m + 3) (sp_min 100 ((upd (upd (upd N (110 + c) ((N (110 + c)) - (sc_n J m (110 + c)))) (630 + 40 * m + 4) ((N (630 + 40 * m + 4)) + (sc_n J m (110 + c)))) (630 + 40 * m + 5) 0) (630 + 40 * m + 3) + 2))) := by
              unfold op_scoops
              rw [if_neg (by rw [hJ]; exact fun z => c15 (kd2.mpr z))]
              unfold op_sc1
              rw [if_pos eP, costs_201, up_201, up_201, up_201, hJ]
            rw [e] at hq
            rw [e2]; exact hq
        · refine mm_vret dX6_scoop_65 rfl ⟨Nat.le_refl _, Nat.le_refl _⟩ ?_
          have e : op_scoops J m c 201 = N := by
            unfold op_scoops
            rw [if_neg (by rw [hJ]; exact fun z => c15 (kd2.mpr z))]
            unfold op_sc1
            rw [if_neg (by
              show ¬ (sp_mk (J 201 (630 + 40 * m + 0)) 1 ∧ ¬ (0 < J 201 (630 + 40 * m + 4) ∧ ¬ J 201 (630 + 40 * m + 5) = _) ∧ ¬ J 201 (630 + 40 * m + 2) < 3 ∧ _)
              rw [hJ]
              rintro ⟨z1, z2, z3, z4⟩
              first | exact c50 z1 | exact z2 ⟨Int32.not_le.mp c28, c36⟩ | exact z3 c62 | exact absurd z4 (Int32.not_lt.mpr c110) | exact absurd (Int32.not_lt.mp z3) c62)]
            exact hJ
          rw [e] at hq; exact hq
    · refine mm_aload_n 2 dX6_scoop_31 rfl rfl ?_
      refine mm_geti dX6_scoop_32 rfl fk_X6_235 rfl (sm_1 (show m < 5 by omega)).1 ?_
      refine mm_top (v := N (630 + 40 * m + 5)) (cN_r ((lo_atm (by omega)).trans (if_pos ⟨by omega, by omega⟩))) ?_
      refine mm_iload_n 0 dX6_scoop_35 rfl rfl ?_
      refine mm_icmp_eq (tgt := 43) dX6_scoop_36 (by decide) (fun c36 => ?_) (fun c36 => ?_)
      · refine mm_iconst (v := 0) dX6_scoop_43 rfl ?_
        refine mm_istore_n (ls' := [(3, .int (0)), (2, .int (0)), (0, .ref 171), (1, .ref (36 + 3 * m))]) dX6_scoop_44 rfl (by decide) rfl ?_
        refine mm_aload_n 3 dX6_scoop_45 rfl rfl ?_
        refine mm_iconst (v := 1) dX6_scoop_46 rfl ?_
        refine mm_cV1i (dz := d - 1) dX6_scoop_47 rfl mzX1_isA ml_X6_238 imX1_isA (by omega) (sm_1 (show m < 5 by omega)).1 ⟨rfl, rfl⟩ (cg_mIsA hz hW (m := m) hm (hQ m hm) (by omega)) (Nat.le_of_ble_eq_true rfl) ⟨Nat.le_refl _, Nat.le_refl _⟩ ?_
        refine mm_if_eqB (tgt := 65) dX6_scoop_50 (by decide) (fun c50 => ?_) (fun c50 => ?_)
        · refine mm_vret dX6_scoop_65 rfl ⟨Nat.le_refl _, Nat.le_refl _⟩ ?_
          have e : op_scoops J m c 201 = N := by
            unfold op_scoops
            rw [if_neg (by rw [hJ]; exact fun z => c15 (kd2.mpr z))]
            unfold op_sc1
            rw [if_neg (by
              show ¬ (sp_mk (J 201 (630 + 40 * m + 0)) 1 ∧ ¬ (0 < J 201 (630 + 40 * m + 4) ∧ ¬ J 201 (630 + 40 * m + 5) = _) ∧ ¬ J 201 (630 + 40 * m + 2) < 3 ∧ _)
              rw [hJ]
              rintro ⟨z1, z2, z3, z4⟩
              first | exact c50 z1 | exact z2 ⟨Int32.not_le.mp c28, c36⟩ | exact z3 c62 | exact absurd z4 (Int32.not_lt.mpr c110) | exact absurd (Int32.not_lt.mp z3) c62)]
            exact hJ
          rw [e] at hq; exact hq
        · refine mm_iload_n 0 dX6_scoop_53 rfl rfl ?_
          refine mm_if_ne (tgt := 65) dX6_scoop_54 (by decide) (fun q => absurd q (by decide)) (fun _ => ?_)
          refine mm_aload_n 3 dX6_scoop_57 rfl rfl ?_
          refine mm_geti dX6_scoop_58 rfl fk_X6_143 rfl (sm_1 (show m < 5 by omega)).1 ?_
          refine mm_top (v := N (630 + 40 * m + 2)) (cN_r ((lo_atm (by omega)).trans (if_pos ⟨by omega, by omega⟩))) ?_
          refine mm_iconst (v := 3) dX6_scoop_61 rfl ?_
          refine mm_icmp_ge (tgt := 66) dX6_scoop_62 (by decide) (fun c62 => ?_) (fun c62 => ?_)
          · refine mm_aload_n 2 dX6_scoop_66 rfl rfl ?_
            refine mm_getr (b := 1) dX6_scoop_67 rfl fk_X6_9 rfl so_171 sr_171_0 ?_
            refine mm_getr (b := 2) dX6_scoop_70 rfl fk_X6_108 rfl so_1 sr_1_0 ?_
            refine mm_iload_n 1 dX6_scoop_73 rfl rfl ?_
            refine mm_cV1r (dz := d - 1) dX6_scoop_74 rfl mzX0_kilosOf ml_X6_240 imX0_kilosOf (by omega) so_2 ⟨rfl, rfl⟩ (cg_kil0 hz hW (x := 0) (by decide)) (Nat.le_of_ble_eq_true rfl) ⟨Nat.le_refl _, Nat.le_refl _⟩ ?_
            refine mm_astore (ls' := [(4, .ref 5), (3, .int (0)), (2, .int (0)), (0, .ref 171), (1, .ref (36 + 3 * m))]) dX6_scoop_77 (by decide) rfl ?_
            refine mm_aload 0 dX6_scoop_79 rfl ?_
            refine mm_aload_n 4 dX6_scoop_81 rfl rfl ?_
            refine mm_at (pc' := 82) rfl ?_
            refine mm_geti dX6_scoop_82 rfl fk_X6_124 rfl (sm_1 (show m < 5 by omega)).1 ?_
            refine mm_top (v := N (630 + 40 * m + 1)) (cN_r ((lo_atm (by omega)).trans (if_pos ⟨by omega, by omega⟩))) ?_
            refine mm_top (v := nI (c)) h1 ?_
            refine mm_cV1i (dz := d - 1) dX6_scoop_85 rfl mzX5_at ml_X6_76 imX5_at (by omega) so_5 ⟨rfl, rfl⟩ (ct_at rw_5 (c) (by omega)) (Nat.le_of_ble_eq_true rfl) ⟨Nat.le_refl _, Nat.le_refl _⟩ ?_
            refine mm_top (v := N (110 + c)) (cN_r (lo_at6.trans (if_pos (by omega)))) ?_
            refine mm_istore (ls' := [(5, .int (N (110 + c))), (4, .ref 5), (3, .int (0)), (2, .int (0)), (0, .ref 171), (1, .ref (36 + 3 * m))]) dX6_scoop_88 (by decide) rfl ?_
            refine mm_iconst (v := 5) dX6_scoop_90 rfl ?_
            refine mm_iload 0 dX6_scoop_91 rfl ?_
            refine mm_bipush (v := 10) dX6_scoop_93 rfl ?_
            refine mm_aload_n 5 dX6_scoop_95 rfl rfl ?_
            refine mm_geti dX6_scoop_96 rfl fk_X6_232 rfl (sm_1 (show m < 5 by omega)).1 ?_
            refine mm_at (pc' := 99) rfl ?_
            refine mm_top (v := N (630 + 40 * m + 4)) (cN_r ((lo_atm (by omega)).trans (if_pos ⟨by omega, by omega⟩))) ?_
            refine mm_isub dX6_scoop_99 ?_
            refine mm_min dX6_scoop_100 rfl ml_X6_244 jm_min (by omega) (Nat.le_of_ble_eq_true rfl) ⟨Nat.le_refl _, Nat.le_refl _⟩ ?_
            refine mm_min dX6_scoop_103 rfl ml_X6_244 jm_min (by omega) (Nat.le_of_ble_eq_true rfl) ⟨Nat.le_refl _, Nat.le_refl _⟩ ?_
            refine mm_top (v := sc_n J m (110 + c)) (by unfold sc_n; rw [hJ]; exact min3) ?_
            refine mm_istore (ls' := [(6, .int (sc_n J m (110 + c))), (5, .int (N (110 + c))), (4, .ref 5), (3, .int (0)), (2, .int (0)), (0, .ref 171), (1, .ref (36 + 3 * m))]) dX6_scoop_106 (by decide) rfl ?_
            refine mm_iload 0 dX6_scoop_108 rfl ?_
            refine mm_if_le (tgt := 149) dX6_scoop_110 (by decide) (fun c110 => ?_) (fun c110 => ?_)
            · refine mm_vret dX6_scoop_149 rfl ⟨Nat.le_refl _, Nat.le_refl _⟩ ?_
              have e : op_scoops J m c 201 = N := by
                unfold op_scoops
                rw [if_neg (by rw [hJ]; exact fun z => c15 (kd2.mpr z))]
                unfold op_sc1
                rw [if_neg (by
                  show ¬ (sp_mk (J 201 (630 + 40 * m + 0)) 1 ∧ ¬ (0 < J 201 (630 + 40 * m + 4) ∧ ¬ J 201 (630 + 40 * m + 5) = _) ∧ ¬ J 201 (630 + 40 * m + 2) < 3 ∧ _)
                  rw [hJ]
                  rintro ⟨z1, z2, z3, z4⟩
                  first | exact c50 z1 | exact z2 ⟨Int32.not_le.mp c28, c36⟩ | exact z3 c62 | exact absurd z4 (Int32.not_lt.mpr c110) | exact absurd (Int32.not_lt.mp z3) c62)]
                exact hJ
              rw [e] at hq; exact hq
            · refine mm_aload 2 dX6_scoop_113 rfl ?_
              refine mm_aload_n 6 dX6_scoop_115 rfl rfl ?_
              refine mm_geti dX6_scoop_116 rfl fk_X6_124 rfl (sm_1 (show m < 5 by omega)).1 ?_
              refine mm_top (v := N (630 + 40 * m + 1)) (cN_r ((lo_atm (by omega)).trans (if_pos ⟨by omega, by omega⟩))) ?_
              refine mm_top (v := nI (c)) h1 ?_
              refine mm_iload 1 dX6_scoop_119 rfl ?_
              refine mm_iload 0 dX6_scoop_121 rfl ?_
              refine mm_isub dX6_scoop_123 ?_
              refine mm_cV2v (dz := d - 1) dX6_scoop_124 rfl mzX5_set ml_X6_177 imX5_set (by omega) so_5 ⟨rfl, rfl⟩ (ct_set rw_5 (c) (by omega)) (Nat.le_of_ble_eq_true rfl) ⟨Nat.le_refl _, Nat.le_refl _⟩ ?_
              refine mm_at (pc' := 127) rfl ?_
              refine mm_mem (J := cN (w * h) n l k o r A (upd N (110 + c) ((N (110 + c)) - (sc_n J m (110 + c))))) (cN_up hz (lo_at6.trans (if_pos (by omega))) (sn_up (by omega) hz.1)) ?_
              refine mm_aload_n 6 dX6_scoop_127 rfl rfl ?_
              refine mm_dup dX6_scoop_128 rfl ?_
              refine mm_geti dX6_scoop_129 rfl fk_X6_232 rfl (sm_1 (show m < 5 by omega)).1 ?_
              refine mm_top (v := N (630 + 40 * m + 4)) ((cN_r ((lo_atm (by omega)).trans (if_pos ⟨by omega, by omega⟩))).trans (by rw [upd_n (by omega)])) ?_
              refine mm_iload 0 dX6_scoop_132 rfl ?_
              refine mm_iadd dX6_scoop_134 ?_
              refine mm_puti dX6_scoop_135 rfl fk_X6_232 rfl fv_1_4 (sm_1 (show m < 5 by omega)).1 ?_
              refine mm_mem (J := cN (w * h) n l k o r A (upd (upd N (110 + c) ((N (110 + c)) - (sc_n J m (110 + c)))) (630 + 40 * m + 4) ((N (630 + 40 * m + 4)) + (sc_n J m (110 + c))))) (cN_up hz ((lo_atm (by omega)).trans (if_pos ⟨by omega, by omega⟩)) (sn_up (by omega) hz.1)) ?_
              refine mm_aload_n 6 dX6_scoop_138 rfl rfl ?_
              refine mm_iload_n 4 dX6_scoop_139 rfl rfl ?_
              refine mm_at (pc' := 140) rfl ?_
              refine mm_puti dX6_scoop_140 rfl fk_X6_235 rfl fv_1_5 (sm_1 (show m < 5 by omega)).1 ?_
              refine mm_mem (J := cN (w * h) n l k o r A (upd (upd (upd N (110 + c) ((N (110 + c)) - (sc_n J m (110 + c)))) (630 + 40 * m + 4) ((N (630 + 40 * m + 4)) + (sc_n J m (110 + c)))) (630 + 40 * m + 5) 0)) (cN_up hz ((lo_atm (by omega)).trans (if_pos ⟨by omega, by omega⟩)) (sn_up (by omega) hz.1)) ?_
              refine mm_aload_n 6 dX6_scoop_143 rfl rfl ?_
              refine mm_iconst (v := 3) dX6_scoop_144 rfl ?_
              refine mm_iconst (v := 2) dX6_scoop_145 rfl ?_
              refine mm_cV2v (dz := d - 1) dX6_scoop_146 rfl mzX1_pay ml_X6_229 imX1_pay (by omega) (sm_1 (show m < 5 by omega)).1 ⟨rfl, rfl⟩ (cg_pay hz (mo_Wu (by omega) (mo_Wu (by omega) (mo_Wu (by omega) hW))) (m := m) (by omega) (by omega)) (Nat.le_of_ble_eq_true rfl) ⟨Nat.le_refl _, Nat.le_refl _⟩ ?_
              refine mm_vret dX6_scoop_149 rfl ⟨Nat.le_refl _, Nat.le_refl _⟩ ?_
              have eP : sc_P J m (110 + c) 0 := by
                show sp_mk (J 201 (630 + 40 * m + 0)) 1 ∧ _
                rw [hJ]
                refine ⟨c50, ?_, ?_, Int32.not_le.mp c110⟩
                · rintro ⟨z1, z2⟩; first | exact absurd z1 (Int32.not_lt.mpr c28) | exact z2 c36
                · first | exact Int32.not_lt.mpr c62 | exact Int32.not_lt.mpr (Int32.not_lt.mp c62) | exact c62
              have e2 : (if 0 < (upd (upd (upd N (110 + c) ((N (110 + c)) - (sc_n J m (110 + c)))) (630 + 40 * m + 4) ((N (630 + 40 * m + 4)) + (sc_n J m (110 + c)))) (630 + 40 * m + 5) 0) (630 + 40 * m + 2) - 3 then (upd (upd (upd N (110 + c) ((N (110 + c)) - (sc_n J m (110 + c)))) (630 + 40 * m + 4) ((N (630 + 40 * m + 4)) + (sc_n J m (110 + c)))) (630 + 40 * m + 5) 0) (630 + 40 * m + 2) - 3 else 0) = (upd (upd (upd N (110 + c) ((N (110 + c)) - (sc_n J m (110 + c)))) (630 + 40 * m + 4) ((N (630 + 40 * m + 4)) + (sc_n J m (110 + c)))) (630 + 40 * m + 5) 0) (630 + 40 * m + 2) - 3 := pay_e (q := q) (y := 3) (by rw [upd_n (by omega), upd_n (by omega), upd_n (by omega)]; exact h2) rfl (by omega) (by have z := eP.2.2.1; rw [hJ, h2] at z; have z2 : ¬ q < 3 := fun z3 => z ((nI_ltI (by omega) (by decide)).mpr z3); omega)
              have e : op_scoops J m c 201 = (upd (upd (upd (upd (upd N (110 + c) ((N (110 + c)) - (sc_n J m (110 + c)))) (630 + 40 * m + 4) ((N (630 + 40 * m + 4)) + (sc_n J m (110 + c)))) (630 + 40 * m + 5) 0) (630 + 40 * m + 2) ((upd (upd (upd N (110 + c) ((N (110 + c)) - (sc_n J m (110 + c)))) (630 + 40 * m + 4) ((N (630 + 40 * m + 4)) + (sc_n J m (110 + c)))) (630 + 40 * m + 5) 0) (630 + 40 * m + 2) - 3)) (630 + 40 * m + 3) (sp_min 100 ((upd (upd (upd N (110 + c) ((N (110 + c)) - (sc_n J m (110 + c)))) (630 + 40 * m + 4) ((N (630 + 40 * m + 4)) + (sc_n J m (110 + c)))) (630 + 40 * m + 5) 0) (630 + 40 * m + 3) + 2))) := by
                unfold op_scoops
                rw [if_neg (by rw [hJ]; exact fun z => c15 (kd2.mpr z))]
                unfold op_sc1
                rw [if_pos eP, costs_201, up_201, up_201, up_201, hJ]
              rw [e] at hq
              rw [e2]; exact hq
          · refine mm_vret dX6_scoop_65 rfl ⟨Nat.le_refl _, Nat.le_refl _⟩ ?_
            have e : op_scoops J m c 201 = N := by
              unfold op_scoops
              rw [if_neg (by rw [hJ]; exact fun z => c15 (kd2.mpr z))]
              unfold op_sc1
              rw [if_neg (by
                show ¬ (sp_mk (J 201 (630 + 40 * m + 0)) 1 ∧ ¬ (0 < J 201 (630 + 40 * m + 4) ∧ ¬ J 201 (630 + 40 * m + 5) = _) ∧ ¬ J 201 (630 + 40 * m + 2) < 3 ∧ _)
                rw [hJ]
                rintro ⟨z1, z2, z3, z4⟩
                first | exact c50 z1 | exact z2 ⟨Int32.not_le.mp c28, c36⟩ | exact z3 c62 | exact absurd z4 (Int32.not_lt.mpr c110) | exact absurd (Int32.not_lt.mp z3) c62)]
              exact hJ
            rw [e] at hq; exact hq
      · refine mm_iconst (v := 1) dX6_scoop_39 rfl ?_
        refine mm_goto (tgt := 44) dX6_scoop_40 (by decide) ?_
        refine mm_istore_n (ls' := [(3, .int (1)), (2, .int (0)), (0, .ref 171), (1, .ref (36 + 3 * m))]) dX6_scoop_44 rfl (by decide) rfl ?_
        refine mm_aload_n 3 dX6_scoop_45 rfl rfl ?_
        refine mm_iconst (v := 1) dX6_scoop_46 rfl ?_
        refine mm_cV1i (dz := d - 1) dX6_scoop_47 rfl mzX1_isA ml_X6_238 imX1_isA (by omega) (sm_1 (show m < 5 by omega)).1 ⟨rfl, rfl⟩ (cg_mIsA hz hW (m := m) hm (hQ m hm) (by omega)) (Nat.le_of_ble_eq_true rfl) ⟨Nat.le_refl _, Nat.le_refl _⟩ ?_
        refine mm_if_eqB (tgt := 65) dX6_scoop_50 (by decide) (fun c50 => ?_) (fun c50 => ?_)
        · refine mm_vret dX6_scoop_65 rfl ⟨Nat.le_refl _, Nat.le_refl _⟩ ?_
          have e : op_scoops J m c 201 = N := by
            unfold op_scoops
            rw [if_neg (by rw [hJ]; exact fun z => c15 (kd2.mpr z))]
            unfold op_sc1
            rw [if_neg (by
              show ¬ (sp_mk (J 201 (630 + 40 * m + 0)) 1 ∧ ¬ (0 < J 201 (630 + 40 * m + 4) ∧ ¬ J 201 (630 + 40 * m + 5) = _) ∧ ¬ J 201 (630 + 40 * m + 2) < 3 ∧ _)
              rw [hJ]
              rintro ⟨z1, z2, z3, z4⟩
              first | exact c50 z1 | exact z2 ⟨Int32.not_le.mp c28, c36⟩ | exact z3 c62 | exact absurd z4 (Int32.not_lt.mpr c110) | exact absurd (Int32.not_lt.mp z3) c62)]
            exact hJ
          rw [e] at hq; exact hq
        · refine mm_iload_n 0 dX6_scoop_53 rfl rfl ?_
          refine mm_if_ne (tgt := 65) dX6_scoop_54 (by decide) (fun _ => ?_) (fun q => absurd q (by decide))
          refine mm_vret dX6_scoop_65 rfl ⟨Nat.le_refl _, Nat.le_refl _⟩ ?_
          have e : op_scoops J m c 201 = N := by
            unfold op_scoops
            rw [if_neg (by rw [hJ]; exact fun z => c15 (kd2.mpr z))]
            unfold op_sc1
            rw [if_neg (by
              show ¬ (sp_mk (J 201 (630 + 40 * m + 0)) 1 ∧ ¬ (0 < J 201 (630 + 40 * m + 4) ∧ ¬ J 201 (630 + 40 * m + 5) = _) ∧ ¬ J 201 (630 + 40 * m + 2) < 3 ∧ _)
              rw [hJ]
              rintro ⟨z1, z2, z3, z4⟩
              first | exact c50 z1 | exact z2 ⟨Int32.not_le.mp c28, c36⟩ | exact z3 c62 | exact absurd z4 (Int32.not_lt.mpr c110) | exact absurd (Int32.not_lt.mp z3) c62)]
            exact hJ
          rw [e] at hq; exact hq
  · refine mm_iconst (v := 1) dX6_scoop_18 rfl ?_
    refine mm_goto (tgt := 23) dX6_scoop_19 (by decide) ?_
    refine mm_istore_n (ls' := [(2, .int (1)), (0, .ref 171), (1, .ref (36 + 3 * m))]) dX6_scoop_23 rfl (by decide) rfl ?_
    refine mm_aload_n 2 dX6_scoop_24 rfl rfl ?_
    refine mm_geti dX6_scoop_25 rfl fk_X6_232 rfl (sm_1 (show m < 5 by omega)).1 ?_
    refine mm_top (v := N (630 + 40 * m + 4)) (cN_r ((lo_atm (by omega)).trans (if_pos ⟨by omega, by omega⟩))) ?_
    refine mm_if_le (tgt := 43) dX6_scoop_28 (by decide) (fun c28 => ?_) (fun c28 => ?_)
    · refine mm_iconst (v := 0) dX6_scoop_43 rfl ?_
      refine mm_istore_n (ls' := [(3, .int (0)), (2, .int (1)), (0, .ref 171), (1, .ref (36 + 3 * m))]) dX6_scoop_44 rfl (by decide) rfl ?_
      refine mm_aload_n 3 dX6_scoop_45 rfl rfl ?_
      refine mm_iconst (v := 1) dX6_scoop_46 rfl ?_
      refine mm_cV1i (dz := d - 1) dX6_scoop_47 rfl mzX1_isA ml_X6_238 imX1_isA (by omega) (sm_1 (show m < 5 by omega)).1 ⟨rfl, rfl⟩ (cg_mIsA hz hW (m := m) hm (hQ m hm) (by omega)) (Nat.le_of_ble_eq_true rfl) ⟨Nat.le_refl _, Nat.le_refl _⟩ ?_
      refine mm_if_eqB (tgt := 65) dX6_scoop_50 (by decide) (fun c50 => ?_) (fun c50 => ?_)
      · refine mm_vret dX6_scoop_65 rfl ⟨Nat.le_refl _, Nat.le_refl _⟩ ?_
        have e : op_scoops J m c 201 = N := by
          unfold op_scoops
          rw [if_pos (by rw [hJ]; exact kd2.mp c15)]
          unfold op_sc1
          rw [if_neg (by
            show ¬ (sp_mk (J 201 (630 + 40 * m + 0)) 1 ∧ ¬ (0 < J 201 (630 + 40 * m + 4) ∧ ¬ J 201 (630 + 40 * m + 5) = _) ∧ ¬ J 201 (630 + 40 * m + 2) < 3 ∧ _)
            rw [hJ]
            rintro ⟨z1, z2, z3, z4⟩
            first | exact c50 z1 | exact z2 ⟨Int32.not_le.mp c28, c36⟩ | exact z3 c62 | exact absurd z4 (Int32.not_lt.mpr c110) | exact absurd (Int32.not_lt.mp z3) c62)]
          exact hJ
        rw [e] at hq; exact hq
      · refine mm_iload_n 0 dX6_scoop_53 rfl rfl ?_
        refine mm_if_ne (tgt := 65) dX6_scoop_54 (by decide) (fun q => absurd q (by decide)) (fun _ => ?_)
        refine mm_aload_n 3 dX6_scoop_57 rfl rfl ?_
        refine mm_geti dX6_scoop_58 rfl fk_X6_143 rfl (sm_1 (show m < 5 by omega)).1 ?_
        refine mm_top (v := N (630 + 40 * m + 2)) (cN_r ((lo_atm (by omega)).trans (if_pos ⟨by omega, by omega⟩))) ?_
        refine mm_iconst (v := 3) dX6_scoop_61 rfl ?_
        refine mm_icmp_ge (tgt := 66) dX6_scoop_62 (by decide) (fun c62 => ?_) (fun c62 => ?_)
        · refine mm_aload_n 2 dX6_scoop_66 rfl rfl ?_
          refine mm_getr (b := 1) dX6_scoop_67 rfl fk_X6_9 rfl so_171 sr_171_0 ?_
          refine mm_getr (b := 2) dX6_scoop_70 rfl fk_X6_108 rfl so_1 sr_1_0 ?_
          refine mm_iload_n 1 dX6_scoop_73 rfl rfl ?_
          refine mm_cV1r (dz := d - 1) dX6_scoop_74 rfl mzX0_kilosOf ml_X6_240 imX0_kilosOf (by omega) so_2 ⟨rfl, rfl⟩ (cg_kil1 hz hW) (Nat.le_of_ble_eq_true rfl) ⟨Nat.le_refl _, Nat.le_refl _⟩ ?_
          refine mm_astore (ls' := [(4, .ref 7), (3, .int (0)), (2, .int (1)), (0, .ref 171), (1, .ref (36 + 3 * m))]) dX6_scoop_77 (by decide) rfl ?_
          refine mm_aload 0 dX6_scoop_79 rfl ?_
          refine mm_aload_n 4 dX6_scoop_81 rfl rfl ?_
          refine mm_at (pc' := 82) rfl ?_
          refine mm_geti dX6_scoop_82 rfl fk_X6_124 rfl (sm_1 (show m < 5 by omega)).1 ?_
          refine mm_top (v := N (630 + 40 * m + 1)) (cN_r ((lo_atm (by omega)).trans (if_pos ⟨by omega, by omega⟩))) ?_
          refine mm_top (v := nI (c)) h1 ?_
          refine mm_cV1i (dz := d - 1) dX6_scoop_85 rfl mzX5_at ml_X6_76 imX5_at (by omega) so_7 ⟨rfl, rfl⟩ (ct_at rw_7 (c) (by omega)) (Nat.le_of_ble_eq_true rfl) ⟨Nat.le_refl _, Nat.le_refl _⟩ ?_
          refine mm_top (v := N (190 + c)) (cN_r (lo_at8.trans (if_pos (by omega)))) ?_
          refine mm_istore (ls' := [(5, .int (N (190 + c))), (4, .ref 7), (3, .int (0)), (2, .int (1)), (0, .ref 171), (1, .ref (36 + 3 * m))]) dX6_scoop_88 (by decide) rfl ?_
          refine mm_iconst (v := 5) dX6_scoop_90 rfl ?_
          refine mm_iload 0 dX6_scoop_91 rfl ?_
          refine mm_bipush (v := 10) dX6_scoop_93 rfl ?_
          refine mm_aload_n 5 dX6_scoop_95 rfl rfl ?_
          refine mm_geti dX6_scoop_96 rfl fk_X6_232 rfl (sm_1 (show m < 5 by omega)).1 ?_
          refine mm_at (pc' := 99) rfl ?_
          refine mm_top (v := N (630 + 40 * m + 4)) (cN_r ((lo_atm (by omega)).trans (if_pos ⟨by omega, by omega⟩))) ?_
          refine mm_isub dX6_scoop_99 ?_
          refine mm_min dX6_scoop_100 rfl ml_X6_244 jm_min (by omega) (Nat.le_of_ble_eq_true rfl) ⟨Nat.le_refl _, Nat.le_refl _⟩ ?_
          refine mm_min dX6_scoop_103 rfl ml_X6_244 jm_min (by omega) (Nat.le_of_ble_eq_true rfl) ⟨Nat.le_refl _, Nat.le_refl _⟩ ?_
          refine mm_top (v := sc_n J m (190 + c)) (by unfold sc_n; rw [hJ]; exact min3) ?_
          refine mm_istore (ls' := [(6, .int (sc_n J m (190 + c))), (5, .int (N (190 + c))), (4, .ref 7), (3, .int (0)), (2, .int (1)), (0, .ref 171), (1, .ref (36 + 3 * m))]) dX6_scoop_106 (by decide) rfl ?_
          refine mm_iload 0 dX6_scoop_108 rfl ?_
          refine mm_if_le (tgt := 149) dX6_scoop_110 (by decide) (fun c110 => ?_) (fun c110 => ?_)
          · refine mm_vret dX6_scoop_149 rfl ⟨Nat.le_refl _, Nat.le_refl _⟩ ?_
            have e : op_scoops J m c 201 = N := by
              unfold op_scoops
              rw [if_pos (by rw [hJ]; exact kd2.mp c15)]
              unfold op_sc1
              rw [if_neg (by
                show ¬ (sp_mk (J 201 (630 + 40 * m + 0)) 1 ∧ ¬ (0 < J 201 (630 + 40 * m + 4) ∧ ¬ J 201 (630 + 40 * m + 5) = _) ∧ ¬ J 201 (630 + 40 * m + 2) < 3 ∧ _)
                rw [hJ]
                rintro ⟨z1, z2, z3, z4⟩
                first | exact c50 z1 | exact z2 ⟨Int32.not_le.mp c28, c36⟩ | exact z3 c62 | exact absurd z4 (Int32.not_lt.mpr c110) | exact absurd (Int32.not_lt.mp z3) c62)]
              exact hJ
            rw [e] at hq; exact hq
          · refine mm_aload 2 dX6_scoop_113 rfl ?_
            refine mm_aload_n 6 dX6_scoop_115 rfl rfl ?_
            refine mm_geti dX6_scoop_116 rfl fk_X6_124 rfl (sm_1 (show m < 5 by omega)).1 ?_
            refine mm_top (v := N (630 + 40 * m + 1)) (cN_r ((lo_atm (by omega)).trans (if_pos ⟨by omega, by omega⟩))) ?_
            refine mm_top (v := nI (c)) h1 ?_
            refine mm_iload 1 dX6_scoop_119 rfl ?_
            refine mm_iload 0 dX6_scoop_121 rfl ?_
            refine mm_isub dX6_scoop_123 ?_
            refine mm_cV2v (dz := d - 1) dX6_scoop_124 rfl mzX5_set ml_X6_177 imX5_set (by omega) so_7 ⟨rfl, rfl⟩ (ct_set rw_7 (c) (by omega)) (Nat.le_of_ble_eq_true rfl) ⟨Nat.le_refl _, Nat.le_refl _⟩ ?_
            refine mm_at (pc' := 127) rfl ?_
            refine mm_mem (J := cN (w * h) n l k o r A (upd N (190 + c) ((N (190 + c)) - (sc_n J m (190 + c))))) (cN_up hz (lo_at8.trans (if_pos (by omega))) (sn_up (by omega) hz.1)) ?_
            refine mm_aload_n 6 dX6_scoop_127 rfl rfl ?_
            refine mm_dup dX6_scoop_128 rfl ?_
            refine mm_geti dX6_scoop_129 rfl fk_X6_232 rfl (sm_1 (show m < 5 by omega)).1 ?_
            refine mm_top (v := N (630 + 40 * m + 4)) ((cN_r ((lo_atm (by omega)).trans (if_pos ⟨by omega, by omega⟩))).trans (by rw [upd_n (by omega)])) ?_
            refine mm_iload 0 dX6_scoop_132 rfl ?_
            refine mm_iadd dX6_scoop_134 ?_
            refine mm_puti dX6_scoop_135 rfl fk_X6_232 rfl fv_1_4 (sm_1 (show m < 5 by omega)).1 ?_
            refine mm_mem (J := cN (w * h) n l k o r A (upd (upd N (190 + c) ((N (190 + c)) - (sc_n J m (190 + c)))) (630 + 40 * m + 4) ((N (630 + 40 * m + 4)) + (sc_n J m (190 + c))))) (cN_up hz ((lo_atm (by omega)).trans (if_pos ⟨by omega, by omega⟩)) (sn_up (by omega) hz.1)) ?_
            refine mm_aload_n 6 dX6_scoop_138 rfl rfl ?_
            refine mm_iload_n 4 dX6_scoop_139 rfl rfl ?_
            refine mm_at (pc' := 140) rfl ?_
            refine mm_puti dX6_scoop_140 rfl fk_X6_235 rfl fv_1_5 (sm_1 (show m < 5 by omega)).1 ?_
            refine mm_mem (J := cN (w * h) n l k o r A (upd (upd (upd N (190 + c) ((N (190 + c)) - (sc_n J m (190 + c)))) (630 + 40 * m + 4) ((N (630 + 40 * m + 4)) + (sc_n J m (190 + c)))) (630 + 40 * m + 5) 1)) (cN_up hz ((lo_atm (by omega)).trans (if_pos ⟨by omega, by omega⟩)) (sn_up (by omega) hz.1)) ?_
            refine mm_aload_n 6 dX6_scoop_143 rfl rfl ?_
            refine mm_iconst (v := 3) dX6_scoop_144 rfl ?_
            refine mm_iconst (v := 2) dX6_scoop_145 rfl ?_
            refine mm_cV2v (dz := d - 1) dX6_scoop_146 rfl mzX1_pay ml_X6_229 imX1_pay (by omega) (sm_1 (show m < 5 by omega)).1 ⟨rfl, rfl⟩ (cg_pay hz (mo_Wu (by omega) (mo_Wu (by omega) (mo_Wu (by omega) hW))) (m := m) (by omega) (by omega)) (Nat.le_of_ble_eq_true rfl) ⟨Nat.le_refl _, Nat.le_refl _⟩ ?_
            refine mm_vret dX6_scoop_149 rfl ⟨Nat.le_refl _, Nat.le_refl _⟩ ?_
            have eP : sc_P J m (190 + c) 1 := by
              show sp_mk (J 201 (630 + 40 * m + 0)) 1 ∧ _
              rw [hJ]
              refine ⟨c50, ?_, ?_, Int32.not_le.mp c110⟩
              · rintro ⟨z1, z2⟩; first | exact absurd z1 (Int32.not_lt.mpr c28) | exact z2 c36
              · first | exact Int32.not_lt.mpr c62 | exact Int32.not_lt.mpr (Int32.not_lt.mp c62) | exact c62
            have e2 : (if 0 < (upd (upd (upd N (190 + c) ((N (190 + c)) - (sc_n J m (190 + c)))) (630 + 40 * m + 4) ((N (630 + 40 * m + 4)) + (sc_n J m (190 + c)))) (630 + 40 * m + 5) 1) (630 + 40 * m + 2) - 3 then (upd (upd (upd N (190 + c) ((N (190 + c)) - (sc_n J m (190 + c)))) (630 + 40 * m + 4) ((N (630 + 40 * m + 4)) + (sc_n J m (190 + c)))) (630 + 40 * m + 5) 1) (630 + 40 * m + 2) - 3 else 0) = (upd (upd (upd N (190 + c) ((N (190 + c)) - (sc_n J m (190 + c)))) (630 + 40 * m + 4) ((N (630 + 40 * m + 4)) + (sc_n J m (190 + c)))) (630 + 40 * m + 5) 1) (630 + 40 * m + 2) - 3 := pay_e (q := q) (y := 3) (by rw [upd_n (by omega), upd_n (by omega), upd_n (by omega)]; exact h2) rfl (by omega) (by have z := eP.2.2.1; rw [hJ, h2] at z; have z2 : ¬ q < 3 := fun z3 => z ((nI_ltI (by omega) (by decide)).mpr z3); omega)
            have e : op_scoops J m c 201 = (upd (upd (upd (upd (upd N (190 + c) ((N (190 + c)) - (sc_n J m (190 + c)))) (630 + 40 * m + 4) ((N (630 + 40 * m + 4)) + (sc_n J m (190 + c)))) (630 + 40 * m + 5) 1) (630 + 40 * m + 2) ((upd (upd (upd N (190 + c) ((N (190 + c)) - (sc_n J m (190 + c)))) (630 + 40 * m + 4) ((N (630 + 40 * m + 4)) + (sc_n J m (190 + c)))) (630 + 40 * m + 5) 1) (630 + 40 * m + 2) - 3)) (630 + 40 * m + 3) (sp_min 100 ((upd (upd (upd N (190 + c) ((N (190 + c)) - (sc_n J m (190 + c)))) (630 + 40 * m + 4) ((N (630 + 40 * m + 4)) + (sc_n J m (190 + c)))) (630 + 40 * m + 5) 1) (630 + 40 * m + 3) + 2))) := by
              unfold op_scoops
              rw [if_pos (by rw [hJ]; exact kd2.mp c15)]
              unfold op_sc1
              rw [if_pos eP, costs_201, up_201, up_201, up_201, hJ]
            rw [e] at hq
            rw [e2]; exact hq
        · refine mm_vret dX6_scoop_65 rfl ⟨Nat.le_refl _, Nat.le_refl _⟩ ?_
          have e : op_scoops J m c 201 = N := by
            unfold op_scoops
            rw [if_pos (by rw [hJ]; exact kd2.mp c15)]
            unfold op_sc1
            rw [if_neg (by
              show ¬ (sp_mk (J 201 (630 + 40 * m + 0)) 1 ∧ ¬ (0 < J 201 (630 + 40 * m + 4) ∧ ¬ J 201 (630 + 40 * m + 5) = _) ∧ ¬ J 201 (630 + 40 * m + 2) < 3 ∧ _)
              rw [hJ]
              rintro ⟨z1, z2, z3, z4⟩
              first | exact c50 z1 | exact z2 ⟨Int32.not_le.mp c28, c36⟩ | exact z3 c62 | exact absurd z4 (Int32.not_lt.mpr c110) | exact absurd (Int32.not_lt.mp z3) c62)]
            exact hJ
          rw [e] at hq; exact hq
    · refine mm_aload_n 2 dX6_scoop_31 rfl rfl ?_
      refine mm_geti dX6_scoop_32 rfl fk_X6_235 rfl (sm_1 (show m < 5 by omega)).1 ?_
      refine mm_top (v := N (630 + 40 * m + 5)) (cN_r ((lo_atm (by omega)).trans (if_pos ⟨by omega, by omega⟩))) ?_
      refine mm_iload_n 0 dX6_scoop_35 rfl rfl ?_
      refine mm_icmp_eq (tgt := 43) dX6_scoop_36 (by decide) (fun c36 => ?_) (fun c36 => ?_)
      · refine mm_iconst (v := 0) dX6_scoop_43 rfl ?_
        refine mm_istore_n (ls' := [(3, .int (0)), (2, .int (1)), (0, .ref 171), (1, .ref (36 + 3 * m))]) dX6_scoop_44 rfl (by decide) rfl ?_
        refine mm_aload_n 3 dX6_scoop_45 rfl rfl ?_
        refine mm_iconst (v := 1) dX6_scoop_46 rfl ?_
        refine mm_cV1i (dz := d - 1) dX6_scoop_47 rfl mzX1_isA ml_X6_238 imX1_isA (by omega) (sm_1 (show m < 5 by omega)).1 ⟨rfl, rfl⟩ (cg_mIsA hz hW (m := m) hm (hQ m hm) (by omega)) (Nat.le_of_ble_eq_true rfl) ⟨Nat.le_refl _, Nat.le_refl _⟩ ?_
        refine mm_if_eqB (tgt := 65) dX6_scoop_50 (by decide) (fun c50 => ?_) (fun c50 => ?_)
        · refine mm_vret dX6_scoop_65 rfl ⟨Nat.le_refl _, Nat.le_refl _⟩ ?_
          have e : op_scoops J m c 201 = N := by
            unfold op_scoops
            rw [if_pos (by rw [hJ]; exact kd2.mp c15)]
            unfold op_sc1
            rw [if_neg (by
              show ¬ (sp_mk (J 201 (630 + 40 * m + 0)) 1 ∧ ¬ (0 < J 201 (630 + 40 * m + 4) ∧ ¬ J 201 (630 + 40 * m + 5) = _) ∧ ¬ J 201 (630 + 40 * m + 2) < 3 ∧ _)
              rw [hJ]
              rintro ⟨z1, z2, z3, z4⟩
              first | exact c50 z1 | exact z2 ⟨Int32.not_le.mp c28, c36⟩ | exact z3 c62 | exact absurd z4 (Int32.not_lt.mpr c110) | exact absurd (Int32.not_lt.mp z3) c62)]
            exact hJ
          rw [e] at hq; exact hq
        · refine mm_iload_n 0 dX6_scoop_53 rfl rfl ?_
          refine mm_if_ne (tgt := 65) dX6_scoop_54 (by decide) (fun q => absurd q (by decide)) (fun _ => ?_)
          refine mm_aload_n 3 dX6_scoop_57 rfl rfl ?_
          refine mm_geti dX6_scoop_58 rfl fk_X6_143 rfl (sm_1 (show m < 5 by omega)).1 ?_
          refine mm_top (v := N (630 + 40 * m + 2)) (cN_r ((lo_atm (by omega)).trans (if_pos ⟨by omega, by omega⟩))) ?_
          refine mm_iconst (v := 3) dX6_scoop_61 rfl ?_
          refine mm_icmp_ge (tgt := 66) dX6_scoop_62 (by decide) (fun c62 => ?_) (fun c62 => ?_)
          · refine mm_aload_n 2 dX6_scoop_66 rfl rfl ?_
            refine mm_getr (b := 1) dX6_scoop_67 rfl fk_X6_9 rfl so_171 sr_171_0 ?_
            refine mm_getr (b := 2) dX6_scoop_70 rfl fk_X6_108 rfl so_1 sr_1_0 ?_
            refine mm_iload_n 1 dX6_scoop_73 rfl rfl ?_
            refine mm_cV1r (dz := d - 1) dX6_scoop_74 rfl mzX0_kilosOf ml_X6_240 imX0_kilosOf (by omega) so_2 ⟨rfl, rfl⟩ (cg_kil1 hz hW) (Nat.le_of_ble_eq_true rfl) ⟨Nat.le_refl _, Nat.le_refl _⟩ ?_
            refine mm_astore (ls' := [(4, .ref 7), (3, .int (0)), (2, .int (1)), (0, .ref 171), (1, .ref (36 + 3 * m))]) dX6_scoop_77 (by decide) rfl ?_
            refine mm_aload 0 dX6_scoop_79 rfl ?_
            refine mm_aload_n 4 dX6_scoop_81 rfl rfl ?_
            refine mm_at (pc' := 82) rfl ?_
            refine mm_geti dX6_scoop_82 rfl fk_X6_124 rfl (sm_1 (show m < 5 by omega)).1 ?_
            refine mm_top (v := N (630 + 40 * m + 1)) (cN_r ((lo_atm (by omega)).trans (if_pos ⟨by omega, by omega⟩))) ?_
            refine mm_top (v := nI (c)) h1 ?_
            refine mm_cV1i (dz := d - 1) dX6_scoop_85 rfl mzX5_at ml_X6_76 imX5_at (by omega) so_7 ⟨rfl, rfl⟩ (ct_at rw_7 (c) (by omega)) (Nat.le_of_ble_eq_true rfl) ⟨Nat.le_refl _, Nat.le_refl _⟩ ?_
            refine mm_top (v := N (190 + c)) (cN_r (lo_at8.trans (if_pos (by omega)))) ?_
            refine mm_istore (ls' := [(5, .int (N (190 + c))), (4, .ref 7), (3, .int (0)), (2, .int (1)), (0, .ref 171), (1, .ref (36 + 3 * m))]) dX6_scoop_88 (by decide) rfl ?_
            refine mm_iconst (v := 5) dX6_scoop_90 rfl ?_
            refine mm_iload 0 dX6_scoop_91 rfl ?_
            refine mm_bipush (v := 10) dX6_scoop_93 rfl ?_
            refine mm_aload_n 5 dX6_scoop_95 rfl rfl ?_
            refine mm_geti dX6_scoop_96 rfl fk_X6_232 rfl (sm_1 (show m < 5 by omega)).1 ?_
            refine mm_at (pc' := 99) rfl ?_
            refine mm_top (v := N (630 + 40 * m + 4)) (cN_r ((lo_atm (by omega)).trans (if_pos ⟨by omega, by omega⟩))) ?_
            refine mm_isub dX6_scoop_99 ?_
            refine mm_min dX6_scoop_100 rfl ml_X6_244 jm_min (by omega) (Nat.le_of_ble_eq_true rfl) ⟨Nat.le_refl _, Nat.le_refl _⟩ ?_
            refine mm_min dX6_scoop_103 rfl ml_X6_244 jm_min (by omega) (Nat.le_of_ble_eq_true rfl) ⟨Nat.le_refl _, Nat.le_refl _⟩ ?_
            refine mm_top (v := sc_n J m (190 + c)) (by unfold sc_n; rw [hJ]; exact min3) ?_
            refine mm_istore (ls' := [(6, .int (sc_n J m (190 + c))), (5, .int (N (190 + c))), (4, .ref 7), (3, .int (0)), (2, .int (1)), (0, .ref 171), (1, .ref (36 + 3 * m))]) dX6_scoop_106 (by decide) rfl ?_
            refine mm_iload 0 dX6_scoop_108 rfl ?_
            refine mm_if_le (tgt := 149) dX6_scoop_110 (by decide) (fun c110 => ?_) (fun c110 => ?_)
            · refine mm_vret dX6_scoop_149 rfl ⟨Nat.le_refl _, Nat.le_refl _⟩ ?_
              have e : op_scoops J m c 201 = N := by
                unfold op_scoops
                rw [if_pos (by rw [hJ]; exact kd2.mp c15)]
                unfold op_sc1
                rw [if_neg (by
                  show ¬ (sp_mk (J 201 (630 + 40 * m + 0)) 1 ∧ ¬ (0 < J 201 (630 + 40 * m + 4) ∧ ¬ J 201 (630 + 40 * m + 5) = _) ∧ ¬ J 201 (630 + 40 * m + 2) < 3 ∧ _)
                  rw [hJ]
                  rintro ⟨z1, z2, z3, z4⟩
                  first | exact c50 z1 | exact z2 ⟨Int32.not_le.mp c28, c36⟩ | exact z3 c62 | exact absurd z4 (Int32.not_lt.mpr c110) | exact absurd (Int32.not_lt.mp z3) c62)]
                exact hJ
              rw [e] at hq; exact hq
            · refine mm_aload 2 dX6_scoop_113 rfl ?_
              refine mm_aload_n 6 dX6_scoop_115 rfl rfl ?_
              refine mm_geti dX6_scoop_116 rfl fk_X6_124 rfl (sm_1 (show m < 5 by omega)).1 ?_
              refine mm_top (v := N (630 + 40 * m + 1)) (cN_r ((lo_atm (by omega)).trans (if_pos ⟨by omega, by omega⟩))) ?_
              refine mm_top (v := nI (c)) h1 ?_
              refine mm_iload 1 dX6_scoop_119 rfl ?_
              refine mm_iload 0 dX6_scoop_121 rfl ?_
              refine mm_isub dX6_scoop_123 ?_
              refine mm_cV2v (dz := d - 1) dX6_scoop_124 rfl mzX5_set ml_X6_177 imX5_set (by omega) so_7 ⟨rfl, rfl⟩ (ct_set rw_7 (c) (by omega)) (Nat.le_of_ble_eq_true rfl) ⟨Nat.le_refl _, Nat.le_refl _⟩ ?_
              refine mm_at (pc' := 127) rfl ?_
              refine mm_mem (J := cN (w * h) n l k o r A (upd N (190 + c) ((N (190 + c)) - (sc_n J m (190 + c))))) (cN_up hz (lo_at8.trans (if_pos (by omega))) (sn_up (by omega) hz.1)) ?_
              refine mm_aload_n 6 dX6_scoop_127 rfl rfl ?_
              refine mm_dup dX6_scoop_128 rfl ?_
              refine mm_geti dX6_scoop_129 rfl fk_X6_232 rfl (sm_1 (show m < 5 by omega)).1 ?_
              refine mm_top (v := N (630 + 40 * m + 4)) ((cN_r ((lo_atm (by omega)).trans (if_pos ⟨by omega, by omega⟩))).trans (by rw [upd_n (by omega)])) ?_
              refine mm_iload 0 dX6_scoop_132 rfl ?_
              refine mm_iadd dX6_scoop_134 ?_
              refine mm_puti dX6_scoop_135 rfl fk_X6_232 rfl fv_1_4 (sm_1 (show m < 5 by omega)).1 ?_
              refine mm_mem (J := cN (w * h) n l k o r A (upd (upd N (190 + c) ((N (190 + c)) - (sc_n J m (190 + c)))) (630 + 40 * m + 4) ((N (630 + 40 * m + 4)) + (sc_n J m (190 + c))))) (cN_up hz ((lo_atm (by omega)).trans (if_pos ⟨by omega, by omega⟩)) (sn_up (by omega) hz.1)) ?_
              refine mm_aload_n 6 dX6_scoop_138 rfl rfl ?_
              refine mm_iload_n 4 dX6_scoop_139 rfl rfl ?_
              refine mm_at (pc' := 140) rfl ?_
              refine mm_puti dX6_scoop_140 rfl fk_X6_235 rfl fv_1_5 (sm_1 (show m < 5 by omega)).1 ?_
              refine mm_mem (J := cN (w * h) n l k o r A (upd (upd (upd N (190 + c) ((N (190 + c)) - (sc_n J m (190 + c)))) (630 + 40 * m + 4) ((N (630 + 40 * m + 4)) + (sc_n J m (190 + c)))) (630 + 40 * m + 5) 1)) (cN_up hz ((lo_atm (by omega)).trans (if_pos ⟨by omega, by omega⟩)) (sn_up (by omega) hz.1)) ?_
              refine mm_aload_n 6 dX6_scoop_143 rfl rfl ?_
              refine mm_iconst (v := 3) dX6_scoop_144 rfl ?_
              refine mm_iconst (v := 2) dX6_scoop_145 rfl ?_
              refine mm_cV2v (dz := d - 1) dX6_scoop_146 rfl mzX1_pay ml_X6_229 imX1_pay (by omega) (sm_1 (show m < 5 by omega)).1 ⟨rfl, rfl⟩ (cg_pay hz (mo_Wu (by omega) (mo_Wu (by omega) (mo_Wu (by omega) hW))) (m := m) (by omega) (by omega)) (Nat.le_of_ble_eq_true rfl) ⟨Nat.le_refl _, Nat.le_refl _⟩ ?_
              refine mm_vret dX6_scoop_149 rfl ⟨Nat.le_refl _, Nat.le_refl _⟩ ?_
              have eP : sc_P J m (190 + c) 1 := by
                show sp_mk (J 201 (630 + 40 * m + 0)) 1 ∧ _
                rw [hJ]
                refine ⟨c50, ?_, ?_, Int32.not_le.mp c110⟩
                · rintro ⟨z1, z2⟩; first | exact absurd z1 (Int32.not_lt.mpr c28) | exact z2 c36
                · first | exact Int32.not_lt.mpr c62 | exact Int32.not_lt.mpr (Int32.not_lt.mp c62) | exact c62
              have e2 : (if 0 < (upd (upd (upd N (190 + c) ((N (190 + c)) - (sc_n J m (190 + c)))) (630 + 40 * m + 4) ((N (630 + 40 * m + 4)) + (sc_n J m (190 + c)))) (630 + 40 * m + 5) 1) (630 + 40 * m + 2) - 3 then (upd (upd (upd N (190 + c) ((N (190 + c)) - (sc_n J m (190 + c)))) (630 + 40 * m + 4) ((N (630 + 40 * m + 4)) + (sc_n J m (190 + c)))) (630 + 40 * m + 5) 1) (630 + 40 * m + 2) - 3 else 0) = (upd (upd (upd N (190 + c) ((N (190 + c)) - (sc_n J m (190 + c)))) (630 + 40 * m + 4) ((N (630 + 40 * m + 4)) + (sc_n J m (190 + c)))) (630 + 40 * m + 5) 1) (630 + 40 * m + 2) - 3 := pay_e (q := q) (y := 3) (by rw [upd_n (by omega), upd_n (by omega), upd_n (by omega)]; exact h2) rfl (by omega) (by have z := eP.2.2.1; rw [hJ, h2] at z; have z2 : ¬ q < 3 := fun z3 => z ((nI_ltI (by omega) (by decide)).mpr z3); omega)
              have e : op_scoops J m c 201 = (upd (upd (upd (upd (upd N (190 + c) ((N (190 + c)) - (sc_n J m (190 + c)))) (630 + 40 * m + 4) ((N (630 + 40 * m + 4)) + (sc_n J m (190 + c)))) (630 + 40 * m + 5) 1) (630 + 40 * m + 2) ((upd (upd (upd N (190 + c) ((N (190 + c)) - (sc_n J m (190 + c)))) (630 + 40 * m + 4) ((N (630 + 40 * m + 4)) + (sc_n J m (190 + c)))) (630 + 40 * m + 5) 1) (630 + 40 * m + 2) - 3)) (630 + 40 * m + 3) (sp_min 100 ((upd (upd (upd N (190 + c) ((N (190 + c)) - (sc_n J m (190 + c)))) (630 + 40 * m + 4) ((N (630 + 40 * m + 4)) + (sc_n J m (190 + c)))) (630 + 40 * m + 5) 1) (630 + 40 * m + 3) + 2))) := by
                unfold op_scoops
                rw [if_pos (by rw [hJ]; exact kd2.mp c15)]
                unfold op_sc1
                rw [if_pos eP, costs_201, up_201, up_201, up_201, hJ]
              rw [e] at hq
              rw [e2]; exact hq
          · refine mm_vret dX6_scoop_65 rfl ⟨Nat.le_refl _, Nat.le_refl _⟩ ?_
            have e : op_scoops J m c 201 = N := by
              unfold op_scoops
              rw [if_pos (by rw [hJ]; exact kd2.mp c15)]
              unfold op_sc1
              rw [if_neg (by
                show ¬ (sp_mk (J 201 (630 + 40 * m + 0)) 1 ∧ ¬ (0 < J 201 (630 + 40 * m + 4) ∧ ¬ J 201 (630 + 40 * m + 5) = _) ∧ ¬ J 201 (630 + 40 * m + 2) < 3 ∧ _)
                rw [hJ]
                rintro ⟨z1, z2, z3, z4⟩
                first | exact c50 z1 | exact z2 ⟨Int32.not_le.mp c28, c36⟩ | exact z3 c62 | exact absurd z4 (Int32.not_lt.mpr c110) | exact absurd (Int32.not_lt.mp z3) c62)]
              exact hJ
            rw [e] at hq; exact hq
      · refine mm_iconst (v := 1) dX6_scoop_39 rfl ?_
        refine mm_goto (tgt := 44) dX6_scoop_40 (by decide) ?_
        refine mm_istore_n (ls' := [(3, .int (1)), (2, .int (1)), (0, .ref 171), (1, .ref (36 + 3 * m))]) dX6_scoop_44 rfl (by decide) rfl ?_
        refine mm_aload_n 3 dX6_scoop_45 rfl rfl ?_
        refine mm_iconst (v := 1) dX6_scoop_46 rfl ?_
        refine mm_cV1i (dz := d - 1) dX6_scoop_47 rfl mzX1_isA ml_X6_238 imX1_isA (by omega) (sm_1 (show m < 5 by omega)).1 ⟨rfl, rfl⟩ (cg_mIsA hz hW (m := m) hm (hQ m hm) (by omega)) (Nat.le_of_ble_eq_true rfl) ⟨Nat.le_refl _, Nat.le_refl _⟩ ?_
        refine mm_if_eqB (tgt := 65) dX6_scoop_50 (by decide) (fun c50 => ?_) (fun c50 => ?_)
        · refine mm_vret dX6_scoop_65 rfl ⟨Nat.le_refl _, Nat.le_refl _⟩ ?_
          have e : op_scoops J m c 201 = N := by
            unfold op_scoops
            rw [if_pos (by rw [hJ]; exact kd2.mp c15)]
            unfold op_sc1
            rw [if_neg (by
              show ¬ (sp_mk (J 201 (630 + 40 * m + 0)) 1 ∧ ¬ (0 < J 201 (630 + 40 * m + 4) ∧ ¬ J 201 (630 + 40 * m + 5) = _) ∧ ¬ J 201 (630 + 40 * m + 2) < 3 ∧ _)
              rw [hJ]
              rintro ⟨z1, z2, z3, z4⟩
              first | exact c50 z1 | exact z2 ⟨Int32.not_le.mp c28, c36⟩ | exact z3 c62 | exact absurd z4 (Int32.not_lt.mpr c110) | exact absurd (Int32.not_lt.mp z3) c62)]
            exact hJ
          rw [e] at hq; exact hq
        · refine mm_iload_n 0 dX6_scoop_53 rfl rfl ?_
          refine mm_if_ne (tgt := 65) dX6_scoop_54 (by decide) (fun _ => ?_) (fun q => absurd q (by decide))
          refine mm_vret dX6_scoop_65 rfl ⟨Nat.le_refl _, Nat.le_refl _⟩ ?_
          have e : op_scoops J m c 201 = N := by
            unfold op_scoops
            rw [if_pos (by rw [hJ]; exact kd2.mp c15)]
            unfold op_sc1
            rw [if_neg (by
              show ¬ (sp_mk (J 201 (630 + 40 * m + 0)) 1 ∧ ¬ (0 < J 201 (630 + 40 * m + 4) ∧ ¬ J 201 (630 + 40 * m + 5) = _) ∧ ¬ J 201 (630 + 40 * m + 2) < 3 ∧ _)
              rw [hJ]
              rintro ⟨z1, z2, z3, z4⟩
              first | exact c50 z1 | exact z2 ⟨Int32.not_le.mp c28, c36⟩ | exact z3 c62 | exact absurd z4 (Int32.not_lt.mpr c110) | exact absurd (Int32.not_lt.mp z3) c62)]
            exact hJ
          rw [e] at hq; exact hq
set_option maxRecDepth 100000 in
set_option maxHeartbeats 600000 in
theorem cg_fuse {g : mm_G} {d : Nat} {w h n l k o r : Nat} {A : mm_I} {N : Nat → Int32} (hz : zOK (w * h) n l k o r) (hW : mo_W N w h) {J : mm_I} (hJ : J 201 = N) {m c : Nat} (hm : m < n) (h1 : N (630 + 40 * m + 1) = nI c) (hcc : c < w * h) {q : Nat} (h2 : N (630 + 40 * m + 2) = nI q) (hq100 : q ≤ 100) (hK : mo_K N (w * h)) (hQ : mo_Q N n) (hd : 3 ≤ d) : mm_Cv g zX6_fuse d [.ref 171, .ref (36 + 3 * m)] sh_S (cN (w * h) n l k o r A N) (cN (w * h) n l k o r A (op_fuses J m c 201)) := by
  obtain ⟨hz1, hz2, hz3, hz4, hz5, hz6⟩ := id hz
  have hc := mo_W_c hW
  obtain ⟨-, -, hw1, hw2, hh1, hh2⟩ := id hW
  refine mm_Cv_of (fun Q hq => ?_)
  refine mm_begin (ls := [(0, .ref 171), (1, .ref (36 + 3 * m))]) (Nat.le_of_ble_eq_true rfl) rfl rfl ?_
  refine mm_aload_n 0 dX6_fuse_0 rfl rfl ?_
  refine mm_getr (b := 1) dX6_fuse_1 rfl fk_X6_9 rfl so_171 sr_171_0 ?_
  refine mm_getr (b := 2) dX6_fuse_4 rfl fk_X6_108 rfl so_1 sr_1_0 ?_
  refine mm_astore_n (ls' := [(2, .ref 2), (0, .ref 171), (1, .ref (36 + 3 * m))]) dX6_fuse_7 rfl (by decide) rfl ?_
  refine mm_aload_n 2 dX6_fuse_8 rfl rfl ?_
  refine mm_geti dX6_fuse_9 rfl fk_X6_124 rfl (sm_1 (show m < 5 by omega)).1 ?_
  refine mm_top (v := N (630 + 40 * m + 1)) (cN_r ((lo_atm (by omega)).trans (if_pos ⟨by omega, by omega⟩))) ?_
  refine mm_top (v := nI (c)) h1 ?_
  refine mm_istore_n (ls' := [(3, .int (nI (c))), (2, .ref 2), (0, .ref 171), (1, .ref (36 + 3 * m))]) dX6_fuse_12 rfl (by decide) rfl ?_
  refine mm_aload_n 1 dX6_fuse_13 rfl rfl ?_
  refine mm_at (pc' := 14) rfl ?_
  refine mm_getr (b := 3) dX6_fuse_14 rfl fk_X6_130 rfl so_2 sr_2_2 ?_
  refine mm_iload_n 0 dX6_fuse_17 rfl rfl ?_
  refine mm_cV1i (dz := d - 1) dX6_fuse_18 rfl mzX5_at ml_X6_76 imX5_at (by omega) so_3 ⟨rfl, rfl⟩ (ct_at rw_3 (c) (by omega)) (Nat.le_of_ble_eq_true rfl) ⟨Nat.le_refl _, Nat.le_refl _⟩ ?_
  refine mm_top (v := N (30 + c)) (cN_r (lo_at4.trans (if_pos (by omega)))) ?_
  refine mm_if_ne (tgt := 41) dX6_fuse_21 (by decide) (fun c21 => ?_) (fun c21 => ?_)
  · refine mm_iconst (v := 0) dX6_fuse_41 rfl ?_
    refine mm_istore (ls' := [(4, .int (0)), (3, .int (nI (c))), (2, .ref 2), (0, .ref 171), (1, .ref (36 + 3 * m))]) dX6_fuse_42 (by decide) rfl ?_
    refine mm_aload_n 4 dX6_fuse_44 rfl rfl ?_
    refine mm_iconst (v := 2) dX6_fuse_45 rfl ?_
    refine mm_cV1i (dz := d - 1) dX6_fuse_46 rfl mzX1_isA ml_X6_238 imX1_isA (by omega) (sm_1 (show m < 5 by omega)).1 ⟨rfl, rfl⟩ (cg_mIsA hz hW (m := m) hm (hQ m hm) (by omega)) (Nat.le_of_ble_eq_true rfl) ⟨Nat.le_refl _, Nat.le_refl _⟩ ?_
    refine mm_if_eqB (tgt := 112) dX6_fuse_49 (by decide) (fun c49 => ?_) (fun c49 => ?_)
    · refine mm_vret dX6_fuse_112 rfl ⟨Nat.le_refl _, Nat.le_refl _⟩ ?_
      have e : op_fuses J m c 201 = N := by
        unfold op_fuses
        rw [if_neg (by
          rw [hJ]
          rintro ⟨z1, z2, z3, z4⟩
          first | exact c49 (mk2.mpr z1) | exact z2 c58 | exact absurd (Int32.not_lt.mp z2) c58 | exact c21 z3 | exact z4 c34 | exact absurd (Int32.not_lt.mp z4) c34)]
        exact hJ
      rw [e] at hq; exact hq
    · refine mm_aload_n 4 dX6_fuse_52 rfl rfl ?_
      refine mm_geti dX6_fuse_53 rfl fk_X6_143 rfl (sm_1 (show m < 5 by omega)).1 ?_
      refine mm_top (v := N (630 + 40 * m + 2)) (cN_r ((lo_atm (by omega)).trans (if_pos ⟨by omega, by omega⟩))) ?_
      refine mm_bipush (v := 6) dX6_fuse_56 rfl ?_
      refine mm_icmp_lt (tgt := 112) dX6_fuse_58 (by decide) (fun c58 => ?_) (fun c58 => ?_)
      · refine mm_vret dX6_fuse_112 rfl ⟨Nat.le_refl _, Nat.le_refl _⟩ ?_
        have e : op_fuses J m c 201 = N := by
          unfold op_fuses
          rw [if_neg (by
            rw [hJ]
            rintro ⟨z1, z2, z3, z4⟩
            first | exact c49 (mk2.mpr z1) | exact z2 c58 | exact absurd (Int32.not_lt.mp z2) c58 | exact c21 z3 | exact z4 c34 | exact absurd (Int32.not_lt.mp z4) c34)]
          exact hJ
        rw [e] at hq; exact hq
      · refine mm_iload 0 dX6_fuse_61 rfl ?_
        refine mm_if_eq (tgt := 112) dX6_fuse_63 (by decide) (fun _ => ?_) (fun q => absurd (by decide) q)
        refine mm_vret dX6_fuse_112 rfl ⟨Nat.le_refl _, Nat.le_refl _⟩ ?_
        have e : op_fuses J m c 201 = N := by
          unfold op_fuses
          rw [if_neg (by
            rw [hJ]
            rintro ⟨z1, z2, z3, z4⟩
            first | exact c49 (mk2.mpr z1) | exact z2 c58 | exact absurd (Int32.not_lt.mp z2) c58 | exact c21 z3 | exact z4 c34 | exact absurd (Int32.not_lt.mp z4) c34)]
          exact hJ
        rw [e] at hq; exact hq
  · refine mm_aload_n 1 dX6_fuse_24 rfl rfl ?_
    refine mm_getr (b := 5) dX6_fuse_25 rfl fk_X6_133 rfl so_2 sr_2_3 ?_
    refine mm_iload_n 0 dX6_fuse_28 rfl rfl ?_
    refine mm_cV1i (dz := d - 1) dX6_fuse_29 rfl mzX5_at ml_X6_76 imX5_at (by omega) so_5 ⟨rfl, rfl⟩ (ct_at rw_5 (c) (by omega)) (Nat.le_of_ble_eq_true rfl) ⟨Nat.le_refl _, Nat.le_refl _⟩ ?_
    refine mm_top (v := N (110 + c)) (cN_r (lo_at6.trans (if_pos (by omega)))) ?_
    refine mm_bipush (v := 10) dX6_fuse_32 rfl ?_
    refine mm_icmp_lt (tgt := 41) dX6_fuse_34 (by decide) (fun c34 => ?_) (fun c34 => ?_)
    · refine mm_iconst (v := 0) dX6_fuse_41 rfl ?_
      refine mm_istore (ls' := [(4, .int (0)), (3, .int (nI (c))), (2, .ref 2), (0, .ref 171), (1, .ref (36 + 3 * m))]) dX6_fuse_42 (by decide) rfl ?_
      refine mm_aload_n 4 dX6_fuse_44 rfl rfl ?_
      refine mm_iconst (v := 2) dX6_fuse_45 rfl ?_
      refine mm_cV1i (dz := d - 1) dX6_fuse_46 rfl mzX1_isA ml_X6_238 imX1_isA (by omega) (sm_1 (show m < 5 by omega)).1 ⟨rfl, rfl⟩ (cg_mIsA hz hW (m := m) hm (hQ m hm) (by omega)) (Nat.le_of_ble_eq_true rfl) ⟨Nat.le_refl _, Nat.le_refl _⟩ ?_
      refine mm_if_eqB (tgt := 112) dX6_fuse_49 (by decide) (fun c49 => ?_) (fun c49 => ?_)
      · refine mm_vret dX6_fuse_112 rfl ⟨Nat.le_refl _, Nat.le_refl _⟩ ?_
        have e : op_fuses J m c 201 = N := by
          unfold op_fuses
          rw [if_neg (by
            rw [hJ]
            rintro ⟨z1, z2, z3, z4⟩
            first | exact c49 (mk2.mpr z1) | exact z2 c58 | exact absurd (Int32.not_lt.mp z2) c58 | exact c21 z3 | exact z4 c34 | exact absurd (Int32.not_lt.mp z4) c34)]
          exact hJ
        rw [e] at hq; exact hq
      · refine mm_aload_n 4 dX6_fuse_52 rfl rfl ?_
        refine mm_geti dX6_fuse_53 rfl fk_X6_143 rfl (sm_1 (show m < 5 by omega)).1 ?_
        refine mm_top (v := N (630 + 40 * m + 2)) (cN_r ((lo_atm (by omega)).trans (if_pos ⟨by omega, by omega⟩))) ?_
        refine mm_bipush (v := 6) dX6_fuse_56 rfl ?_
        refine mm_icmp_lt (tgt := 112) dX6_fuse_58 (by decide) (fun c58 => ?_) (fun c58 => ?_)
        · refine mm_vret dX6_fuse_112 rfl ⟨Nat.le_refl _, Nat.le_refl _⟩ ?_
          have e : op_fuses J m c 201 = N := by
            unfold op_fuses
            rw [if_neg (by
              rw [hJ]
              rintro ⟨z1, z2, z3, z4⟩
              first | exact c49 (mk2.mpr z1) | exact z2 c58 | exact absurd (Int32.not_lt.mp z2) c58 | exact c21 z3 | exact z4 c34 | exact absurd (Int32.not_lt.mp z4) c34)]
            exact hJ
          rw [e] at hq; exact hq
        · refine mm_iload 0 dX6_fuse_61 rfl ?_
          refine mm_if_eq (tgt := 112) dX6_fuse_63 (by decide) (fun _ => ?_) (fun q => absurd (by decide) q)
          refine mm_vret dX6_fuse_112 rfl ⟨Nat.le_refl _, Nat.le_refl _⟩ ?_
          have e : op_fuses J m c 201 = N := by
            unfold op_fuses
            rw [if_neg (by
              rw [hJ]
              rintro ⟨z1, z2, z3, z4⟩
              first | exact c49 (mk2.mpr z1) | exact z2 c58 | exact absurd (Int32.not_lt.mp z2) c58 | exact c21 z3 | exact z4 c34 | exact absurd (Int32.not_lt.mp z4) c34)]
            exact hJ
          rw [e] at hq; exact hq
    · refine mm_iconst (v := 1) dX6_fuse_37 rfl ?_
      refine mm_goto (tgt := 42) dX6_fuse_38 (by decide) ?_
      refine mm_istore (ls' := [(4, .int (1)), (3, .int (nI (c))), (2, .ref 2), (0, .ref 171), (1, .ref (36 + 3 * m))]) dX6_fuse_42 (by decide) rfl ?_
      refine mm_aload_n 4 dX6_fuse_44 rfl rfl ?_
      refine mm_iconst (v := 2) dX6_fuse_45 rfl ?_
      refine mm_cV1i (dz := d - 1) dX6_fuse_46 rfl mzX1_isA ml_X6_238 imX1_isA (by omega) (sm_1 (show m < 5 by omega)).1 ⟨rfl, rfl⟩ (cg_mIsA hz hW (m := m) hm (hQ m hm) (by omega)) (Nat.le_of_ble_eq_true rfl) ⟨Nat.le_refl _, Nat.le_refl _⟩ ?_
      refine mm_if_eqB (tgt := 112) dX6_fuse_49 (by decide) (fun c49 => ?_) (fun c49 => ?_)
      · refine mm_vret dX6_fuse_112 rfl ⟨Nat.le_refl _, Nat.le_refl _⟩ ?_
        have e : op_fuses J m c 201 = N := by
          unfold op_fuses
          rw [if_neg (by
            rw [hJ]
            rintro ⟨z1, z2, z3, z4⟩
            first | exact c49 (mk2.mpr z1) | exact z2 c58 | exact absurd (Int32.not_lt.mp z2) c58 | exact c21 z3 | exact z4 c34 | exact absurd (Int32.not_lt.mp z4) c34)]
          exact hJ
        rw [e] at hq; exact hq
      · refine mm_aload_n 4 dX6_fuse_52 rfl rfl ?_
        refine mm_geti dX6_fuse_53 rfl fk_X6_143 rfl (sm_1 (show m < 5 by omega)).1 ?_
        refine mm_top (v := N (630 + 40 * m + 2)) (cN_r ((lo_atm (by omega)).trans (if_pos ⟨by omega, by omega⟩))) ?_
        refine mm_bipush (v := 6) dX6_fuse_56 rfl ?_
        refine mm_icmp_lt (tgt := 112) dX6_fuse_58 (by decide) (fun c58 => ?_) (fun c58 => ?_)
        · refine mm_vret dX6_fuse_112 rfl ⟨Nat.le_refl _, Nat.le_refl _⟩ ?_
          have e : op_fuses J m c 201 = N := by
            unfold op_fuses
            rw [if_neg (by
              rw [hJ]
              rintro ⟨z1, z2, z3, z4⟩
              first | exact c49 (mk2.mpr z1) | exact z2 c58 | exact absurd (Int32.not_lt.mp z2) c58 | exact c21 z3 | exact z4 c34 | exact absurd (Int32.not_lt.mp z4) c34)]
            exact hJ
          rw [e] at hq; exact hq
        · refine mm_iload 0 dX6_fuse_61 rfl ?_
          refine mm_if_eq (tgt := 112) dX6_fuse_63 (by decide) (fun q => absurd q (by decide)) (fun _ => ?_)
          refine mm_aload_n 2 dX6_fuse_66 rfl rfl ?_
          refine mm_getr (b := 3) dX6_fuse_67 rfl fk_X6_130 rfl so_2 sr_2_2 ?_
          refine mm_iload_n 1 dX6_fuse_70 rfl rfl ?_
          refine mm_iconst (v := 3) dX6_fuse_71 rfl ?_
          refine mm_cV2v (dz := d - 1) dX6_fuse_72 rfl mzX5_set ml_X6_177 imX5_set (by omega) so_3 ⟨rfl, rfl⟩ (ct_set rw_3 (c) (by omega)) (Nat.le_of_ble_eq_true rfl) ⟨Nat.le_refl _, Nat.le_refl _⟩ ?_
          refine mm_mem (J := cN (w * h) n l k o r A (upd N (30 + c) 3)) (cN_up hz (lo_at4.trans (if_pos (by omega))) (sn_up (by omega) hz.1)) ?_
          refine mm_aload_n 2 dX6_fuse_75 rfl rfl ?_
          refine mm_getr (b := 5) dX6_fuse_76 rfl fk_X6_133 rfl so_2 sr_2_3 ?_
          refine mm_iload_n 1 dX6_fuse_79 rfl rfl ?_
          refine mm_at (pc' := 80) rfl ?_
          refine mm_aload_n 2 dX6_fuse_80 rfl rfl ?_
          refine mm_getr (b := 5) dX6_fuse_81 rfl fk_X6_133 rfl so_2 sr_2_3 ?_
          refine mm_iload_n 1 dX6_fuse_84 rfl rfl ?_
          refine mm_cV1i (dz := d - 1) dX6_fuse_85 rfl mzX5_at ml_X6_76 imX5_at (by omega) so_5 ⟨rfl, rfl⟩ (ct_at rw_5 (c) (by omega)) (Nat.le_of_ble_eq_true rfl) ⟨Nat.le_refl _, Nat.le_refl _⟩ ?_
          refine mm_top (v := N (110 + c)) ((cN_r (lo_at6.trans (if_pos (by omega)))).trans (by rw [upd_n (by omega)])) ?_
          refine mm_bipush (v := 10) dX6_fuse_88 rfl ?_
          refine mm_isub dX6_fuse_90 ?_
          refine mm_cV2v (dz := d - 1) dX6_fuse_91 rfl mzX5_set ml_X6_177 imX5_set (by omega) so_5 ⟨rfl, rfl⟩ (ct_set rw_5 (c) (by omega)) (Nat.le_of_ble_eq_true rfl) ⟨Nat.le_refl _, Nat.le_refl _⟩ ?_
          refine mm_mem (J := cN (w * h) n l k o r A (upd (upd N (30 + c) 3) (110 + c) ((N (110 + c)) - 10))) (cN_up hz (lo_at6.trans (if_pos (by omega))) (sn_up (by omega) hz.1)) ?_
          refine mm_aload_n 2 dX6_fuse_94 rfl rfl ?_
          refine mm_at (pc' := 95) rfl ?_
          refine mm_dup dX6_fuse_95 rfl ?_
          refine mm_geti dX6_fuse_96 rfl fk_X6_252 rfl so_2 ?_
          refine mm_top (v := N 14) ((cN_r (lo_at2.trans rfl)).trans (by rw [upd_n (by omega), upd_n (by omega)])) ?_
          refine mm_bipush (v := 10) dX6_fuse_99 rfl ?_
          refine mm_iadd dX6_fuse_101 ?_
          refine mm_puti dX6_fuse_102 rfl fk_X6_252 rfl fv_0_7 so_2 ?_
          refine mm_mem (J := cN (w * h) n l k o r A (upd (upd (upd N (30 + c) 3) (110 + c) ((N (110 + c)) - 10)) (14) ((N 14) + 10))) (cN_up hz (lo_at2.trans rfl) (sn_up (by omega) hz.1)) ?_
          refine mm_aload_n 4 dX6_fuse_105 rfl rfl ?_
          refine mm_bipush (v := 6) dX6_fuse_106 rfl ?_
          refine mm_iconst (v := 3) dX6_fuse_108 rfl ?_
          refine mm_at (pc' := 109) rfl ?_
          refine mm_cV2v (dz := d - 1) dX6_fuse_109 rfl mzX1_pay ml_X6_229 imX1_pay (by omega) (sm_1 (show m < 5 by omega)).1 ⟨rfl, rfl⟩ (cg_pay hz (mo_Wu (by omega) (mo_Wu (by omega) (mo_Wu (by omega) hW))) (m := m) (by omega) (by omega)) (Nat.le_of_ble_eq_true rfl) ⟨Nat.le_refl _, Nat.le_refl _⟩ ?_
          refine mm_vret dX6_fuse_112 rfl ⟨Nat.le_refl _, Nat.le_refl _⟩ ?_
          have z3 : ¬ N (630 + 40 * m + 2) < 6 := by first | exact c58 | exact Int32.not_lt.mpr c58
          have e2 : (if 0 < (upd (upd (upd N (30 + c) 3) (110 + c) ((N (110 + c)) - 10)) (14) ((N 14) + 10)) (630 + 40 * m + 2) - 6 then (upd (upd (upd N (30 + c) 3) (110 + c) ((N (110 + c)) - 10)) (14) ((N 14) + 10)) (630 + 40 * m + 2) - 6 else 0) = (upd (upd (upd N (30 + c) 3) (110 + c) ((N (110 + c)) - 10)) (14) ((N 14) + 10)) (630 + 40 * m + 2) - 6 := pay_e (q := q) (y := 6) (by rw [upd_n (by omega), upd_n (by omega), upd_n (by omega)]; exact h2) rfl (by omega) (by have z := z3; rw [h2] at z; have z2 : ¬ q < 6 := fun z3 => z ((nI_ltI (by omega) (by decide)).mpr z3); omega)
          have e : op_fuses J m c 201 = (upd (upd (upd (upd (upd N (30 + c) 3) (110 + c) ((N (110 + c)) - 10)) (14) ((N 14) + 10)) (630 + 40 * m + 2) ((upd (upd (upd N (30 + c) 3) (110 + c) ((N (110 + c)) - 10)) (14) ((N 14) + 10)) (630 + 40 * m + 2) - 6)) (630 + 40 * m + 3) (sp_min 100 ((upd (upd (upd N (30 + c) 3) (110 + c) ((N (110 + c)) - 10)) (14) ((N 14) + 10)) (630 + 40 * m + 3) + 3))) := by
            unfold op_fuses
            rw [if_pos (by rw [hJ]; exact ⟨mk2.mp c49, z3, c21, by first | exact c34 | exact Int32.not_lt.mpr c34⟩), costs_201, up_201, up_201, up_201, hJ]
          rw [e] at hq
          rw [e2]; exact hq
