/-! THE CLASS: drop, charge, steps -/
theorem spm {a b : Nat} (ha : a < 2 ^ 31) (hb : b < 2 ^ 31) : sp_min (nI a) (nI b) = nI (min a b) := by
  unfold sp_min
  by_cases h : b < a
  · rw [if_pos ((nI_ltI hb ha).mpr h), Nat.min_eq_right (by omega)]
  · rw [if_neg (fun q => h ((nI_ltI hb ha).mp q)), Nat.min_eq_left (by omega)]
theorem chn {q b : Nat} (hq : q ≤ 100) (hb : b < 2 ^ 31) : sp_min 100 (nI q + sp_min 20 (sp_min (nI b) (100 - nI q))) = nI q + sp_min 20 (sp_min (nI b) (100 - nI q)) := by
  have e1 : (100 : Int32) - nI q = nI (100 - q) := by rw [show (100 : Int32) = nI 100 from rfl, pk_sub hq]
  rw [e1, spm hb (by omega), show (20 : Int32) = nI 20 from rfl, spm (by decide) (by omega), nI_add, show (100 : Int32) = nI 100 from rfl, spm (by decide) (by omega), Nat.min_eq_right (by omega)]
theorem upd_cm {N : Nat → Int32} {x y : Nat} {u v : Int32} (h : ¬ x = y) : upd (upd N x u) y v = upd (upd N y v) x u := by
  funext z; unfold upd
  by_cases h1 : z = x
  · by_cases h2 : z = y
    · exact absurd (h1.symm.trans h2) h
    · rw [if_neg h2, if_pos h1, if_pos h1]
  · by_cases h2 : z = y
    · rw [if_pos h2, if_neg h1, if_pos h2]
    · rw [if_neg h2, if_neg h1, if_neg h1, if_neg h2]
def soN (N : Nat → Int32) (n m b : Nat) : Nat → Int32 := if sp_mo N (nI b) n < 0 ∧ gs_c N b ≤ N (630 + 40 * m + 2) then upd (upd (upd N (630 + 40 * m + 1) (nI b)) (630 + 40 * m + 2) (N (630 + 40 * m + 2) - gs_c N b)) (630 + 40 * m + 3) (sp_min 100 (N (630 + 40 * m + 3) + (gs_c N b - 1))) else N
set_option maxRecDepth 100000 in
set_option maxHeartbeats 600000 in
theorem cg_drop0 {g : mm_G} {d : Nat} {w h n l k o r : Nat} {A : mm_I} {N : Nat → Int32} (hz : zOK (w * h) n l k o r) (hW : mo_W N w h) {J : mm_I} (hJ : J 201 = N) {m c : Nat} (hm : m < n) (h1 : N (630 + 40 * m + 1) = nI c) (hcc : c < w * h) {q : Nat} (h2 : N (630 + 40 * m + 2) = nI q) (hq100 : q ≤ 100) (hK : mo_K N (w * h)) (hQ : mo_Q N n) {z : Nat} (h4 : N (630 + 40 * m + 4) = nI z) (hz10 : z ≤ 10) (h5 : N (630 + 40 * m + 5) = 0) (hq1 : 1 ≤ q) (hd : 3 ≤ d) : mm_Cv g zX6_drop d [.ref 171, .ref (36 + 3 * m)] sh_S (cN (w * h) n l k o r A N) (cN (w * h) n l k o r A (op_drops J m c 0 201)) := by
  obtain ⟨hz1, hz2, hz3, hz4, hz5, hz6⟩ := id hz
  have hc := mo_W_c hW
  obtain ⟨-, -, hw1, hw2, hh1, hh2⟩ := id hW
  refine mm_Cv_of (fun Q hq => ?_)
  refine mm_begin (ls := [(0, .ref 171), (1, .ref (36 + 3 * m))]) (Nat.le_of_ble_eq_true rfl) rfl rfl ?_
  refine mm_aload_n 1 dX6_drop_0 rfl rfl ?_
  refine mm_geti dX6_drop_1 rfl fk_X6_232 rfl (sm_1 (show m < 5 by omega)).1 ?_
  refine mm_top (v := N (630 + 40 * m + 4)) (cN_r ((lo_atm (by omega)).trans (if_pos ⟨by omega, by omega⟩))) ?_
  refine mm_top (v := nI (z)) h4 ?_
  refine mm_if_gtN (z) (tgt := 8) dX6_drop_4 (by decide) (by omega) (fun c4 => ?_) (fun c4 => ?_)
  · refine mm_aload_n 0 dX6_drop_8 rfl rfl ?_
    refine mm_getr (b := 1) dX6_drop_9 rfl fk_X6_9 rfl so_171 sr_171_0 ?_
    refine mm_getr (b := 2) dX6_drop_12 rfl fk_X6_108 rfl so_1 sr_1_0 ?_
    refine mm_aload_n 1 dX6_drop_15 rfl rfl ?_
    refine mm_geti dX6_drop_16 rfl fk_X6_124 rfl (sm_1 (show m < 5 by omega)).1 ?_
    refine mm_top (v := N (630 + 40 * m + 1)) (cN_r ((lo_atm (by omega)).trans (if_pos ⟨by omega, by omega⟩))) ?_
    refine mm_top (v := nI (c)) h1 ?_
    refine mm_iconst (v := 4) dX6_drop_19 rfl ?_
    refine mm_cV2i (dz := d - 1) dX6_drop_20 rfl mzX0_isA ml_X6_222 imX0_isA (by omega) so_2 ⟨rfl, rfl⟩ (cg_isA hz hW (c := c) (by omega) (hK _ (by omega)) (by omega)) (Nat.le_of_ble_eq_true rfl) ⟨Nat.le_refl _, Nat.le_refl _⟩ ?_
    refine mm_istore_n (ls' := [(2, .int (if sp_kd (N (30 + c)) 4 then 1 else 0)), (0, .ref 171), (1, .ref (36 + 3 * m))]) dX6_drop_23 rfl (by decide) rfl ?_
    refine mm_at (pc' := 24) rfl ?_
    refine mm_iload_n 0 dX6_drop_24 rfl rfl ?_
    refine mm_if_eqB (tgt := 41) dX6_drop_25 (by decide) (fun c25 => ?_) (fun c25 => ?_)
    · refine mm_aload_n 1 dX6_drop_41 rfl rfl ?_
      refine mm_getr (b := 1) dX6_drop_42 rfl fk_X6_9 rfl so_171 sr_171_0 ?_
      refine mm_getr (b := 2) dX6_drop_45 rfl fk_X6_108 rfl so_1 sr_1_0 ?_
      refine mm_aload_n 2 dX6_drop_48 rfl rfl ?_
      refine mm_geti dX6_drop_49 rfl fk_X6_235 rfl (sm_1 (show m < 5 by omega)).1 ?_
      refine mm_top (v := N (630 + 40 * m + 5)) (cN_r ((lo_atm (by omega)).trans (if_pos ⟨by omega, by omega⟩))) ?_
      refine mm_top (v := 0) h5 ?_
      refine mm_cV1r (dz := d - 1) dX6_drop_52 rfl mzX0_kilosOf ml_X6_240 imX0_kilosOf (by omega) so_2 ⟨rfl, rfl⟩ (cg_kil0 hz hW (x := 0) (by decide)) (Nat.le_of_ble_eq_true rfl) ⟨Nat.le_refl _, Nat.le_refl _⟩ ?_
      refine mm_astore_n (ls' := [(3, .ref 5), (2, .int (if sp_kd (N (30 + c)) 4 then 1 else 0)), (0, .ref 171), (1, .ref (36 + 3 * m))]) dX6_drop_55 rfl (by decide) rfl ?_
      refine mm_iload_n 1 dX6_drop_56 rfl rfl ?_
      refine mm_at (pc' := 57) rfl ?_
      refine mm_if_eqB (tgt := 67) dX6_drop_57 (by decide) (fun c57 => ?_) (fun c57 => ?_)
      · refine mm_aload_n 3 dX6_drop_67 rfl rfl ?_
        refine mm_geti dX6_drop_68 rfl fk_X6_124 rfl (sm_1 (show m < 5 by omega)).1 ?_
        refine mm_top (v := N (630 + 40 * m + 1)) (cN_r ((lo_atm (by omega)).trans (if_pos ⟨by omega, by omega⟩))) ?_
        refine mm_top (v := nI (c)) h1 ?_
        refine mm_istore (ls' := [(4, .int (nI (c))), (3, .ref 5), (2, .int (if sp_kd (N (30 + c)) 4 then 1 else 0)), (0, .ref 171), (1, .ref (36 + 3 * m))]) dX6_drop_71 (by decide) rfl ?_
        refine mm_aload_n 1 dX6_drop_73 rfl rfl ?_
        refine mm_iload 0 dX6_drop_74 rfl ?_
        refine mm_aload_n 1 dX6_drop_76 rfl rfl ?_
        refine mm_iload 0 dX6_drop_77 rfl ?_
        refine mm_cV1i (dz := d - 1) dX6_drop_79 rfl mzX5_at ml_X6_76 imX5_at (by omega) so_5 ⟨rfl, rfl⟩ (ct_at rw_5 (c) (by omega)) (Nat.le_of_ble_eq_true rfl) ⟨Nat.le_refl _, Nat.le_refl _⟩ ?_
        refine mm_at (pc' := 82) rfl ?_
        refine mm_top (v := N (110 + c)) (cN_r (lo_at6.trans (if_pos (by omega)))) ?_
        refine mm_aload_n 4 dX6_drop_82 rfl rfl ?_
        refine mm_geti dX6_drop_83 rfl fk_X6_232 rfl (sm_1 (show m < 5 by omega)).1 ?_
        refine mm_top (v := N (630 + 40 * m + 4)) (cN_r ((lo_atm (by omega)).trans (if_pos ⟨by omega, by omega⟩))) ?_
        refine mm_top (v := nI (z)) h4 ?_
        refine mm_iadd dX6_drop_86 ?_
        refine mm_cV2v (dz := d - 1) dX6_drop_87 rfl mzX5_set ml_X6_177 imX5_set (by omega) so_5 ⟨rfl, rfl⟩ (ct_set rw_5 (c) (by omega)) (Nat.le_of_ble_eq_true rfl) ⟨Nat.le_refl _, Nat.le_refl _⟩ ?_
        refine mm_mem (J := cN (w * h) n l k o r A (upd N (110 + c) ((N (110 + c)) + (nI (z))))) (cN_up hz (lo_at6.trans (if_pos (by omega))) (sn_up (by omega) hz.1)) ?_
        refine mm_aload_n 4 dX6_drop_90 rfl rfl ?_
        refine mm_iconst (v := 0) dX6_drop_91 rfl ?_
        refine mm_puti dX6_drop_92 rfl fk_X6_232 rfl fv_1_4 (sm_1 (show m < 5 by omega)).1 ?_
        refine mm_mem (J := cN (w * h) n l k o r A (upd (upd N (110 + c) ((N (110 + c)) + (nI (z)))) (630 + 40 * m + 4) 0)) (cN_up hz ((lo_atm (by omega)).trans (if_pos ⟨by omega, by omega⟩)) (sn_up (by omega) hz.1)) ?_
        refine mm_aload_n 4 dX6_drop_95 rfl rfl ?_
        refine mm_at (pc' := 96) rfl ?_
        refine mm_iconst (v := 1) dX6_drop_96 rfl ?_
        refine mm_iconst (v := 0) dX6_drop_97 rfl ?_
        refine mm_cV2v (dz := d - 1) dX6_drop_98 rfl mzX1_pay ml_X6_229 imX1_pay (by omega) (sm_1 (show m < 5 by omega)).1 ⟨rfl, rfl⟩ (cg_pay hz (mo_Wu (by omega) (mo_Wu (by omega) hW)) (m := m) (by omega) (by omega)) (Nat.le_of_ble_eq_true rfl) ⟨Nat.le_refl _, Nat.le_refl _⟩ ?_
        refine mm_vret dX6_drop_101 rfl ⟨Nat.le_refl _, Nat.le_refl _⟩ ?_
        have e2 : (if 0 < (upd (upd N (110 + c) ((N (110 + c)) + (nI (z)))) (630 + 40 * m + 4) 0) (630 + 40 * m + 2) - 1 then (upd (upd N (110 + c) ((N (110 + c)) + (nI (z)))) (630 + 40 * m + 4) 0) (630 + 40 * m + 2) - 1 else 0) = (upd (upd N (110 + c) ((N (110 + c)) + (nI (z)))) (630 + 40 * m + 4) 0) (630 + 40 * m + 2) - 1 := pay_e (q := q) (y := 1) (by rw [upd_n (by omega), upd_n (by omega)]; exact h2) rfl (by omega) hq1
        have e : op_drops J m c 0 201 = (upd (upd (upd (upd N (110 + c) ((N (110 + c)) + (nI (z)))) (630 + 40 * m + 4) 0) (630 + 40 * m + 2) ((upd (upd N (110 + c) ((N (110 + c)) + (nI (z)))) (630 + 40 * m + 4) 0) (630 + 40 * m + 2) - 1)) (630 + 40 * m + 3) (sp_min 100 ((upd (upd N (110 + c) ((N (110 + c)) + (nI (z)))) (630 + 40 * m + 4) 0) (630 + 40 * m + 3) + 0))) := by
          unfold op_drops
          rw [if_neg (by rw [hJ, h4]; intro q1; have q2 := (nI_eq (b := 0) (by omega) (by decide)).mp q1; omega), if_neg (by rw [hJ]; exact fun q1 => c25 (kd4.mpr q1)), if_pos rfl]
          unfold op_dr1
          rw [costs_201, up_201, up_201, hJ, h4]
        rw [e] at hq
        rw [e2]; exact hq
      · exact absurd c57 c25
    · refine mm_aload_n 1 dX6_drop_28 rfl rfl ?_
      refine mm_getr (b := 1) dX6_drop_29 rfl fk_X6_9 rfl so_171 sr_171_0 ?_
      refine mm_getr (b := 2) dX6_drop_32 rfl fk_X6_108 rfl so_1 sr_1_0 ?_
      refine mm_getr (b := 11) dX6_drop_35 rfl fk_X6_249 rfl so_2 sr_2_6 ?_
      refine mm_goto (tgt := 55) dX6_drop_38 (by decide) ?_
      refine mm_astore_n (ls' := [(3, .ref 11), (2, .int (if sp_kd (N (30 + c)) 4 then 1 else 0)), (0, .ref 171), (1, .ref (36 + 3 * m))]) dX6_drop_55 rfl (by decide) rfl ?_
      refine mm_iload_n 1 dX6_drop_56 rfl rfl ?_
      refine mm_if_eqB (tgt := 67) dX6_drop_57 (by decide) (fun c57 => ?_) (fun c57 => ?_)
      · exact absurd c25 c57
      · refine mm_aload_n 3 dX6_drop_60 rfl rfl ?_
        refine mm_geti dX6_drop_61 rfl fk_X6_235 rfl (sm_1 (show m < 5 by omega)).1 ?_
        refine mm_top (v := N (630 + 40 * m + 5)) (cN_r ((lo_atm (by omega)).trans (if_pos ⟨by omega, by omega⟩))) ?_
        refine mm_top (v := 0) h5 ?_
        refine mm_goto (tgt := 71) dX6_drop_64 (by decide) ?_
        refine mm_istore (ls' := [(4, .int (0)), (3, .ref 11), (2, .int (if sp_kd (N (30 + c)) 4 then 1 else 0)), (0, .ref 171), (1, .ref (36 + 3 * m))]) dX6_drop_71 (by decide) rfl ?_
        refine mm_aload_n 1 dX6_drop_73 rfl rfl ?_
        refine mm_iload 0 dX6_drop_74 rfl ?_
        refine mm_aload_n 1 dX6_drop_76 rfl rfl ?_
        refine mm_iload 0 dX6_drop_77 rfl ?_
        refine mm_cV1i (dz := d - 1) dX6_drop_79 rfl mzX5_at ml_X6_76 imX5_at (by omega) so_11 ⟨rfl, rfl⟩ (ct_at rw_11 (0) (by omega)) (Nat.le_of_ble_eq_true rfl) ⟨Nat.le_refl _, Nat.le_refl _⟩ ?_
        refine mm_top (v := N (10 + 0)) (cN_r (lo_at12.trans (if_pos (by omega)))) ?_
        refine mm_aload_n 4 dX6_drop_82 rfl rfl ?_
        refine mm_geti dX6_drop_83 rfl fk_X6_232 rfl (sm_1 (show m < 5 by omega)).1 ?_
        refine mm_at (pc' := 86) rfl ?_
        refine mm_top (v := N (630 + 40 * m + 4)) (cN_r ((lo_atm (by omega)).trans (if_pos ⟨by omega, by omega⟩))) ?_
        refine mm_top (v := nI (z)) h4 ?_
        refine mm_iadd dX6_drop_86 ?_
        refine mm_cV2v (dz := d - 1) dX6_drop_87 rfl mzX5_set ml_X6_177 imX5_set (by omega) so_11 ⟨rfl, rfl⟩ (ct_set rw_11 (0) (by omega)) (Nat.le_of_ble_eq_true rfl) ⟨Nat.le_refl _, Nat.le_refl _⟩ ?_
        refine mm_mem (J := cN (w * h) n l k o r A (upd N (10 + 0) ((N (10 + 0)) + (nI (z))))) (cN_up hz (lo_at12.trans (if_pos (by omega))) (sn_up (by omega) hz.1)) ?_
        refine mm_aload_n 4 dX6_drop_90 rfl rfl ?_
        refine mm_iconst (v := 0) dX6_drop_91 rfl ?_
        refine mm_puti dX6_drop_92 rfl fk_X6_232 rfl fv_1_4 (sm_1 (show m < 5 by omega)).1 ?_
        refine mm_mem (J := cN (w * h) n l k o r A (upd (upd N (10 + 0) ((N (10 + 0)) + (nI (z)))) (630 + 40 * m + 4) 0)) (cN_up hz ((lo_atm (by omega)).trans (if_pos ⟨by omega, by omega⟩)) (sn_up (by omega) hz.1)) ?_
        refine mm_aload_n 4 dX6_drop_95 rfl rfl ?_
        refine mm_iconst (v := 1) dX6_drop_96 rfl ?_
        refine mm_iconst (v := 0) dX6_drop_97 rfl ?_
        refine mm_at (pc' := 98) rfl ?_
        refine mm_cV2v (dz := d - 1) dX6_drop_98 rfl mzX1_pay ml_X6_229 imX1_pay (by omega) (sm_1 (show m < 5 by omega)).1 ⟨rfl, rfl⟩ (cg_pay hz (mo_Wu (by omega) (mo_Wu (by omega) hW)) (m := m) (by omega) (by omega)) (Nat.le_of_ble_eq_true rfl) ⟨Nat.le_refl _, Nat.le_refl _⟩ ?_
        refine mm_vret dX6_drop_101 rfl ⟨Nat.le_refl _, Nat.le_refl _⟩ ?_
        have e2 : (if 0 < (upd (upd N (10 + 0) ((N (10 + 0)) + (nI (z)))) (630 + 40 * m + 4) 0) (630 + 40 * m + 2) - 1 then (upd (upd N (10 + 0) ((N (10 + 0)) + (nI (z)))) (630 + 40 * m + 4) 0) (630 + 40 * m + 2) - 1 else 0) = (upd (upd N (10 + 0) ((N (10 + 0)) + (nI (z)))) (630 + 40 * m + 4) 0) (630 + 40 * m + 2) - 1 := pay_e (q := q) (y := 1) (by rw [upd_n (by omega), upd_n (by omega)]; exact h2) rfl (by omega) hq1
        have e : op_drops J m c 0 201 = (upd (upd (upd (upd N (10 + 0) ((N (10 + 0)) + (nI (z)))) (630 + 40 * m + 4) 0) (630 + 40 * m + 2) ((upd (upd N (10 + 0) ((N (10 + 0)) + (nI (z)))) (630 + 40 * m + 4) 0) (630 + 40 * m + 2) - 1)) (630 + 40 * m + 3) (sp_min 100 ((upd (upd N (10 + 0) ((N (10 + 0)) + (nI (z)))) (630 + 40 * m + 4) 0) (630 + 40 * m + 3) + 0))) := by
          unfold op_drops
          rw [if_neg (by rw [hJ, h4]; intro q1; have q2 := (nI_eq (b := 0) (by omega) (by decide)).mp q1; omega), if_pos (by rw [hJ]; exact kd4.mp c25)]
          unfold op_dr1
          rw [costs_201, up_201, up_201, hJ, h4]
        rw [e] at hq
        rw [e2]; exact hq
  · refine mm_vret dX6_drop_7 rfl ⟨Nat.le_refl _, Nat.le_refl _⟩ ?_
    have e : op_drops J m c 0 201 = N := by
      unfold op_drops
      rw [if_pos (by rw [hJ, h4, show z = 0 by omega]; rfl)]; exact hJ
    rw [e] at hq; exact hq
set_option maxRecDepth 100000 in
set_option maxHeartbeats 600000 in
theorem cg_drop1 {g : mm_G} {d : Nat} {w h n l k o r : Nat} {A : mm_I} {N : Nat → Int32} (hz : zOK (w * h) n l k o r) (hW : mo_W N w h) {J : mm_I} (hJ : J 201 = N) {m c : Nat} (hm : m < n) (h1 : N (630 + 40 * m + 1) = nI c) (hcc : c < w * h) {q : Nat} (h2 : N (630 + 40 * m + 2) = nI q) (hq100 : q ≤ 100) (hK : mo_K N (w * h)) (hQ : mo_Q N n) {z : Nat} (h4 : N (630 + 40 * m + 4) = nI z) (hz10 : z ≤ 10) (h5 : N (630 + 40 * m + 5) = 1) (hq1 : 1 ≤ q) (hd : 3 ≤ d) : mm_Cv g zX6_drop d [.ref 171, .ref (36 + 3 * m)] sh_S (cN (w * h) n l k o r A N) (cN (w * h) n l k o r A (op_drops J m c 1 201)) := by
  obtain ⟨hz1, hz2, hz3, hz4, hz5, hz6⟩ := id hz
  have hc := mo_W_c hW
  obtain ⟨-, -, hw1, hw2, hh1, hh2⟩ := id hW
  refine mm_Cv_of (fun Q hq => ?_)
  refine mm_begin (ls := [(0, .ref 171), (1, .ref (36 + 3 * m))]) (Nat.le_of_ble_eq_true rfl) rfl rfl ?_
  refine mm_aload_n 1 dX6_drop_0 rfl rfl ?_
  refine mm_geti dX6_drop_1 rfl fk_X6_232 rfl (sm_1 (show m < 5 by omega)).1 ?_
  refine mm_top (v := N (630 + 40 * m + 4)) (cN_r ((lo_atm (by omega)).trans (if_pos ⟨by omega, by omega⟩))) ?_
  refine mm_top (v := nI (z)) h4 ?_
  refine mm_if_gtN (z) (tgt := 8) dX6_drop_4 (by decide) (by omega) (fun c4 => ?_) (fun c4 => ?_)
  · refine mm_aload_n 0 dX6_drop_8 rfl rfl ?_
    refine mm_getr (b := 1) dX6_drop_9 rfl fk_X6_9 rfl so_171 sr_171_0 ?_
    refine mm_getr (b := 2) dX6_drop_12 rfl fk_X6_108 rfl so_1 sr_1_0 ?_
    refine mm_aload_n 1 dX6_drop_15 rfl rfl ?_
    refine mm_geti dX6_drop_16 rfl fk_X6_124 rfl (sm_1 (show m < 5 by omega)).1 ?_
    refine mm_top (v := N (630 + 40 * m + 1)) (cN_r ((lo_atm (by omega)).trans (if_pos ⟨by omega, by omega⟩))) ?_
    refine mm_top (v := nI (c)) h1 ?_
    refine mm_iconst (v := 4) dX6_drop_19 rfl ?_
    refine mm_cV2i (dz := d - 1) dX6_drop_20 rfl mzX0_isA ml_X6_222 imX0_isA (by omega) so_2 ⟨rfl, rfl⟩ (cg_isA hz hW (c := c) (by omega) (hK _ (by omega)) (by omega)) (Nat.le_of_ble_eq_true rfl) ⟨Nat.le_refl _, Nat.le_refl _⟩ ?_
    refine mm_istore_n (ls' := [(2, .int (if sp_kd (N (30 + c)) 4 then 1 else 0)), (0, .ref 171), (1, .ref (36 + 3 * m))]) dX6_drop_23 rfl (by decide) rfl ?_
    refine mm_at (pc' := 24) rfl ?_
    refine mm_iload_n 0 dX6_drop_24 rfl rfl ?_
    refine mm_if_eqB (tgt := 41) dX6_drop_25 (by decide) (fun c25 => ?_) (fun c25 => ?_)
    · refine mm_aload_n 1 dX6_drop_41 rfl rfl ?_
      refine mm_getr (b := 1) dX6_drop_42 rfl fk_X6_9 rfl so_171 sr_171_0 ?_
      refine mm_getr (b := 2) dX6_drop_45 rfl fk_X6_108 rfl so_1 sr_1_0 ?_
      refine mm_aload_n 2 dX6_drop_48 rfl rfl ?_
      refine mm_geti dX6_drop_49 rfl fk_X6_235 rfl (sm_1 (show m < 5 by omega)).1 ?_
      refine mm_top (v := N (630 + 40 * m + 5)) (cN_r ((lo_atm (by omega)).trans (if_pos ⟨by omega, by omega⟩))) ?_
      refine mm_top (v := 1) h5 ?_
      refine mm_cV1r (dz := d - 1) dX6_drop_52 rfl mzX0_kilosOf ml_X6_240 imX0_kilosOf (by omega) so_2 ⟨rfl, rfl⟩ (cg_kil1 hz hW) (Nat.le_of_ble_eq_true rfl) ⟨Nat.le_refl _, Nat.le_refl _⟩ ?_
      refine mm_astore_n (ls' := [(3, .ref 7), (2, .int (if sp_kd (N (30 + c)) 4 then 1 else 0)), (0, .ref 171), (1, .ref (36 + 3 * m))]) dX6_drop_55 rfl (by decide) rfl ?_
      refine mm_iload_n 1 dX6_drop_56 rfl rfl ?_
      refine mm_at (pc' := 57) rfl ?_
      refine mm_if_eqB (tgt := 67) dX6_drop_57 (by decide) (fun c57 => ?_) (fun c57 => ?_)
      · refine mm_aload_n 3 dX6_drop_67 rfl rfl ?_
        refine mm_geti dX6_drop_68 rfl fk_X6_124 rfl (sm_1 (show m < 5 by omega)).1 ?_
        refine mm_top (v := N (630 + 40 * m + 1)) (cN_r ((lo_atm (by omega)).trans (if_pos ⟨by omega, by omega⟩))) ?_
        refine mm_top (v := nI (c)) h1 ?_
        refine mm_istore (ls' := [(4, .int (nI (c))), (3, .ref 7), (2, .int (if sp_kd (N (30 + c)) 4 then 1 else 0)), (0, .ref 171), (1, .ref (36 + 3 * m))]) dX6_drop_71 (by decide) rfl ?_
        refine mm_aload_n 1 dX6_drop_73 rfl rfl ?_
        refine mm_iload 0 dX6_drop_74 rfl ?_
        refine mm_aload_n 1 dX6_drop_76 rfl rfl ?_
        refine mm_iload 0 dX6_drop_77 rfl ?_
        refine mm_cV1i (dz := d - 1) dX6_drop_79 rfl mzX5_at ml_X6_76 imX5_at (by omega) so_7 ⟨rfl, rfl⟩ (ct_at rw_7 (c) (by omega)) (Nat.le_of_ble_eq_true rfl) ⟨Nat.le_refl _, Nat.le_refl _⟩ ?_
        refine mm_at (pc' := 82) rfl ?_
        refine mm_top (v := N (190 + c)) (cN_r (lo_at8.trans (if_pos (by omega)))) ?_
        refine mm_aload_n 4 dX6_drop_82 rfl rfl ?_
        refine mm_geti dX6_drop_83 rfl fk_X6_232 rfl (sm_1 (show m < 5 by omega)).1 ?_
        refine mm_top (v := N (630 + 40 * m + 4)) (cN_r ((lo_atm (by omega)).trans (if_pos ⟨by omega, by omega⟩))) ?_
        refine mm_top (v := nI (z)) h4 ?_
        refine mm_iadd dX6_drop_86 ?_
        refine mm_cV2v (dz := d - 1) dX6_drop_87 rfl mzX5_set ml_X6_177 imX5_set (by omega) so_7 ⟨rfl, rfl⟩ (ct_set rw_7 (c) (by omega)) (Nat.le_of_ble_eq_true rfl) ⟨Nat.le_refl _, Nat.le_refl _⟩ ?_
        refine mm_mem (J := cN (w * h) n l k o r A (upd N (190 + c) ((N (190 + c)) + (nI (z))))) (cN_up hz (lo_at8.trans (if_pos (by omega))) (sn_up (by omega) hz.1)) ?_
        refine mm_aload_n 4 dX6_drop_90 rfl rfl ?_
        refine mm_iconst (v := 0) dX6_drop_91 rfl ?_
        refine mm_puti dX6_drop_92 rfl fk_X6_232 rfl fv_1_4 (sm_1 (show m < 5 by omega)).1 ?_
        refine mm_mem (J := cN (w * h) n l k o r A (upd (upd N (190 + c) ((N (190 + c)) + (nI (z)))) (630 + 40 * m + 4) 0)) (cN_up hz ((lo_atm (by omega)).trans (if_pos ⟨by omega, by omega⟩)) (sn_up (by omega) hz.1)) ?_
        refine mm_aload_n 4 dX6_drop_95 rfl rfl ?_
        refine mm_at (pc' := 96) rfl ?_
        refine mm_iconst (v := 1) dX6_drop_96 rfl ?_
        refine mm_iconst (v := 0) dX6_drop_97 rfl ?_
        refine mm_cV2v (dz := d - 1) dX6_drop_98 rfl mzX1_pay ml_X6_229 imX1_pay (by omega) (sm_1 (show m < 5 by omega)).1 ⟨rfl, rfl⟩ (cg_pay hz (mo_Wu (by omega) (mo_Wu (by omega) hW)) (m := m) (by omega) (by omega)) (Nat.le_of_ble_eq_true rfl) ⟨Nat.le_refl _, Nat.le_refl _⟩ ?_
        refine mm_vret dX6_drop_101 rfl ⟨Nat.le_refl _, Nat.le_refl _⟩ ?_
        have e2 : (if 0 < (upd (upd N (190 + c) ((N (190 + c)) + (nI (z)))) (630 + 40 * m + 4) 0) (630 + 40 * m + 2) - 1 then (upd (upd N (190 + c) ((N (190 + c)) + (nI (z)))) (630 + 40 * m + 4) 0) (630 + 40 * m + 2) - 1 else 0) = (upd (upd N (190 + c) ((N (190 + c)) + (nI (z)))) (630 + 40 * m + 4) 0) (630 + 40 * m + 2) - 1 := pay_e (q := q) (y := 1) (by rw [upd_n (by omega), upd_n (by omega)]; exact h2) rfl (by omega) hq1
        have e : op_drops J m c 1 201 = (upd (upd (upd (upd N (190 + c) ((N (190 + c)) + (nI (z)))) (630 + 40 * m + 4) 0) (630 + 40 * m + 2) ((upd (upd N (190 + c) ((N (190 + c)) + (nI (z)))) (630 + 40 * m + 4) 0) (630 + 40 * m + 2) - 1)) (630 + 40 * m + 3) (sp_min 100 ((upd (upd N (190 + c) ((N (190 + c)) + (nI (z)))) (630 + 40 * m + 4) 0) (630 + 40 * m + 3) + 0))) := by
          unfold op_drops
          rw [if_neg (by rw [hJ, h4]; intro q1; have q2 := (nI_eq (b := 0) (by omega) (by decide)).mp q1; omega), if_neg (by rw [hJ]; exact fun q1 => c25 (kd4.mpr q1)), if_neg (by decide)]
          unfold op_dr1
          rw [costs_201, up_201, up_201, hJ, h4]
        rw [e] at hq
        rw [e2]; exact hq
      · exact absurd c57 c25
    · refine mm_aload_n 1 dX6_drop_28 rfl rfl ?_
      refine mm_getr (b := 1) dX6_drop_29 rfl fk_X6_9 rfl so_171 sr_171_0 ?_
      refine mm_getr (b := 2) dX6_drop_32 rfl fk_X6_108 rfl so_1 sr_1_0 ?_
      refine mm_getr (b := 11) dX6_drop_35 rfl fk_X6_249 rfl so_2 sr_2_6 ?_
      refine mm_goto (tgt := 55) dX6_drop_38 (by decide) ?_
      refine mm_astore_n (ls' := [(3, .ref 11), (2, .int (if sp_kd (N (30 + c)) 4 then 1 else 0)), (0, .ref 171), (1, .ref (36 + 3 * m))]) dX6_drop_55 rfl (by decide) rfl ?_
      refine mm_iload_n 1 dX6_drop_56 rfl rfl ?_
      refine mm_if_eqB (tgt := 67) dX6_drop_57 (by decide) (fun c57 => ?_) (fun c57 => ?_)
      · exact absurd c25 c57
      · refine mm_aload_n 3 dX6_drop_60 rfl rfl ?_
        refine mm_geti dX6_drop_61 rfl fk_X6_235 rfl (sm_1 (show m < 5 by omega)).1 ?_
        refine mm_top (v := N (630 + 40 * m + 5)) (cN_r ((lo_atm (by omega)).trans (if_pos ⟨by omega, by omega⟩))) ?_
        refine mm_top (v := 1) h5 ?_
        refine mm_goto (tgt := 71) dX6_drop_64 (by decide) ?_
        refine mm_istore (ls' := [(4, .int (1)), (3, .ref 11), (2, .int (if sp_kd (N (30 + c)) 4 then 1 else 0)), (0, .ref 171), (1, .ref (36 + 3 * m))]) dX6_drop_71 (by decide) rfl ?_
        refine mm_aload_n 1 dX6_drop_73 rfl rfl ?_
        refine mm_iload 0 dX6_drop_74 rfl ?_
        refine mm_aload_n 1 dX6_drop_76 rfl rfl ?_
        refine mm_iload 0 dX6_drop_77 rfl ?_
        refine mm_cV1i (dz := d - 1) dX6_drop_79 rfl mzX5_at ml_X6_76 imX5_at (by omega) so_11 ⟨rfl, rfl⟩ (ct_at rw_11 (1) (by omega)) (Nat.le_of_ble_eq_true rfl) ⟨Nat.le_refl _, Nat.le_refl _⟩ ?_
        refine mm_top (v := N (10 + 1)) (cN_r (lo_at12.trans (if_pos (by omega)))) ?_
        refine mm_aload_n 4 dX6_drop_82 rfl rfl ?_
        refine mm_geti dX6_drop_83 rfl fk_X6_232 rfl (sm_1 (show m < 5 by omega)).1 ?_
        refine mm_at (pc' := 86) rfl ?_
        refine mm_top (v := N (630 + 40 * m + 4)) (cN_r ((lo_atm (by omega)).trans (if_pos ⟨by omega, by omega⟩))) ?_
        refine mm_top (v := nI (z)) h4 ?_
        refine mm_iadd dX6_drop_86 ?_
        refine mm_cV2v (dz := d - 1) dX6_drop_87 rfl mzX5_set ml_X6_177 imX5_set (by omega) so_11 ⟨rfl, rfl⟩ (ct_set rw_11 (1) (by omega)) (Nat.le_of_ble_eq_true rfl) ⟨Nat.le_refl _, Nat.le_refl _⟩ ?_
        refine mm_mem (J := cN (w * h) n l k o r A (upd N (10 + 1) ((N (10 + 1)) + (nI (z))))) (cN_up hz (lo_at12.trans (if_pos (by omega))) (sn_up (by omega) hz.1)) ?_
        refine mm_aload_n 4 dX6_drop_90 rfl rfl ?_
        refine mm_iconst (v := 0) dX6_drop_91 rfl ?_
        refine mm_puti dX6_drop_92 rfl fk_X6_232 rfl fv_1_4 (sm_1 (show m < 5 by omega)).1 ?_
        refine mm_mem (J := cN (w * h) n l k o r A (upd (upd N (10 + 1) ((N (10 + 1)) + (nI (z)))) (630 + 40 * m + 4) 0)) (cN_up hz ((lo_atm (by omega)).trans (if_pos ⟨by omega, by omega⟩)) (sn_up (by omega) hz.1)) ?_
        refine mm_aload_n 4 dX6_drop_95 rfl rfl ?_
        refine mm_iconst (v := 1) dX6_drop_96 rfl ?_
        refine mm_iconst (v := 0) dX6_drop_97 rfl ?_
        refine mm_at (pc' := 98) rfl ?_
        refine mm_cV2v (dz := d - 1) dX6_drop_98 rfl mzX1_pay ml_X6_229 imX1_pay (by omega) (sm_1 (show m < 5 by omega)).1 ⟨rfl, rfl⟩ (cg_pay hz (mo_Wu (by omega) (mo_Wu (by omega) hW)) (m := m) (by omega) (by omega)) (Nat.le_of_ble_eq_true rfl) ⟨Nat.le_refl _, Nat.le_refl _⟩ ?_
        refine mm_vret dX6_drop_101 rfl ⟨Nat.le_refl _, Nat.le_refl _⟩ ?_
        have e2 : (if 0 < (upd (upd N (10 + 1) ((N (10 + 1)) + (nI (z)))) (630 + 40 * m + 4) 0) (630 + 40 * m + 2) - 1 then (upd (upd N (10 + 1) ((N (10 + 1)) + (nI (z)))) (630 + 40 * m + 4) 0) (630 + 40 * m + 2) - 1 else 0) = (upd (upd N (10 + 1) ((N (10 + 1)) + (nI (z)))) (630 + 40 * m + 4) 0) (630 + 40 * m + 2) - 1 := pay_e (q := q) (y := 1) (by rw [upd_n (by omega), upd_n (by omega)]; exact h2) rfl (by omega) hq1
        have e : op_drops J m c 1 201 = (upd (upd (upd (upd N (10 + 1) ((N (10 + 1)) + (nI (z)))) (630 + 40 * m + 4) 0) (630 + 40 * m + 2) ((upd (upd N (10 + 1) ((N (10 + 1)) + (nI (z)))) (630 + 40 * m + 4) 0) (630 + 40 * m + 2) - 1)) (630 + 40 * m + 3) (sp_min 100 ((upd (upd N (10 + 1) ((N (10 + 1)) + (nI (z)))) (630 + 40 * m + 4) 0) (630 + 40 * m + 3) + 0))) := by
          unfold op_drops
          rw [if_neg (by rw [hJ, h4]; intro q1; have q2 := (nI_eq (b := 0) (by omega) (by decide)).mp q1; omega), if_pos (by rw [hJ]; exact kd4.mp c25)]
          unfold op_dr1
          rw [costs_201, up_201, up_201, hJ, h4]
        rw [e] at hq
        rw [e2]; exact hq
  · refine mm_vret dX6_drop_7 rfl ⟨Nat.le_refl _, Nat.le_refl _⟩ ?_
    have e : op_drops J m c 1 201 = N := by
      unfold op_drops
      rw [if_pos (by rw [hJ, h4, show z = 0 by omega]; rfl)]; exact hJ
    rw [e] at hq; exact hq
set_option maxRecDepth 100000 in
set_option maxHeartbeats 600000 in
theorem cg_charges {g : mm_G} {d : Nat} {w h n l k o r : Nat} {A : mm_I} {N : Nat → Int32} (hz : zOK (w * h) n l k o r) (hW : mo_W N w h) {J : mm_I} (hJ : J 201 = N) {m c : Nat} (hm : m < n) (h1 : N (630 + 40 * m + 1) = nI c) (hcc : c < w * h) {q : Nat} (h2 : N (630 + 40 * m + 2) = nI q) (hq100 : q ≤ 100) (hK : mo_K N (w * h)) (hQ : mo_Q N n) {b : Nat} (hb : N 4 = nI b) (hb31 : b < 2 ^ 31) (hd : 3 ≤ d) : mm_Cv g zX6_charge d [.ref 171, .ref (36 + 3 * m)] sh_S (cN (w * h) n l k o r A N) (cN (w * h) n l k o r A (op_charges J m c 201)) := by
  obtain ⟨hz1, hz2, hz3, hz4, hz5, hz6⟩ := id hz
  have hc := mo_W_c hW
  obtain ⟨-, -, hw1, hw2, hh1, hh2⟩ := id hW
  refine mm_Cv_of (fun Q hq => ?_)
  refine mm_begin (ls := [(0, .ref 171), (1, .ref (36 + 3 * m))]) (Nat.le_of_ble_eq_true rfl) rfl rfl ?_
  refine mm_aload_n 0 dX6_charge_0 rfl rfl ?_
  refine mm_getr (b := 1) dX6_charge_1 rfl fk_X6_9 rfl so_171 sr_171_0 ?_
  refine mm_getr (b := 2) dX6_charge_4 rfl fk_X6_108 rfl so_1 sr_1_0 ?_
  refine mm_aload_n 1 dX6_charge_7 rfl rfl ?_
  refine mm_geti dX6_charge_8 rfl fk_X6_124 rfl (sm_1 (show m < 5 by omega)).1 ?_
  refine mm_top (v := N (630 + 40 * m + 1)) (cN_r ((lo_atm (by omega)).trans (if_pos ⟨by omega, by omega⟩))) ?_
  refine mm_top (v := nI (c)) h1 ?_
  refine mm_iconst (v := 4) dX6_charge_11 rfl ?_
  refine mm_cV2i (dz := d - 1) dX6_charge_12 rfl mzX0_isA ml_X6_222 imX0_isA (by omega) so_2 ⟨rfl, rfl⟩ (cg_isA hz hW (c := c) (by omega) (hK _ (by omega)) (by omega)) (Nat.le_of_ble_eq_true rfl) ⟨Nat.le_refl _, Nat.le_refl _⟩ ?_
  refine mm_if_eqB (tgt := 65) dX6_charge_15 (by decide) (fun c15 => ?_) (fun c15 => ?_)
  · refine mm_vret dX6_charge_65 rfl ⟨Nat.le_refl _, Nat.le_refl _⟩ ?_
    have e : op_charges J m c 201 = N := by
      unfold op_charges
      rw [if_neg (by rw [hJ]; exact fun q1 => c15 (kd4.mpr q1))]; exact hJ
    rw [e] at hq; exact hq
  · refine mm_bipush (v := 20) dX6_charge_18 rfl ?_
    refine mm_aload_n 0 dX6_charge_20 rfl rfl ?_
    refine mm_getr (b := 1) dX6_charge_21 rfl fk_X6_9 rfl so_171 sr_171_0 ?_
    refine mm_getr (b := 17) dX6_charge_24 rfl fk_X6_30 rfl so_1 sr_1_1 ?_
    refine mm_geti dX6_charge_27 rfl fk_X6_255 rfl so_17 ?_
    refine mm_top (v := N 4) (cN_r (lo_at17.trans rfl)) ?_
    refine mm_bipush (v := 100) dX6_charge_30 rfl ?_
    refine mm_aload_n 1 dX6_charge_32 rfl rfl ?_
    refine mm_at (pc' := 33) rfl ?_
    refine mm_geti dX6_charge_33 rfl fk_X6_143 rfl (sm_1 (show m < 5 by omega)).1 ?_
    refine mm_top (v := N (630 + 40 * m + 2)) (cN_r ((lo_atm (by omega)).trans (if_pos ⟨by omega, by omega⟩))) ?_
    refine mm_isub dX6_charge_36 ?_
    refine mm_min dX6_charge_37 rfl ml_X6_244 jm_min (by omega) (Nat.le_of_ble_eq_true rfl) ⟨Nat.le_refl _, Nat.le_refl _⟩ ?_
    refine mm_min dX6_charge_40 rfl ml_X6_244 jm_min (by omega) (Nat.le_of_ble_eq_true rfl) ⟨Nat.le_refl _, Nat.le_refl _⟩ ?_
    refine mm_top (v := ch_n J m) (by unfold ch_n; rw [hJ]) ?_
    refine mm_istore_n (ls' := [(2, .int (ch_n J m)), (0, .ref 171), (1, .ref (36 + 3 * m))]) dX6_charge_43 rfl (by decide) rfl ?_
    refine mm_aload_n 1 dX6_charge_44 rfl rfl ?_
    refine mm_getr (b := 1) dX6_charge_45 rfl fk_X6_9 rfl so_171 sr_171_0 ?_
    refine mm_getr (b := 17) dX6_charge_48 rfl fk_X6_30 rfl so_1 sr_1_1 ?_
    refine mm_at (pc' := 51) rfl ?_
    refine mm_dup dX6_charge_51 rfl ?_
    refine mm_geti dX6_charge_52 rfl fk_X6_255 rfl so_17 ?_
    refine mm_top (v := N 4) (cN_r (lo_at17.trans rfl)) ?_
    refine mm_iload_n 0 dX6_charge_55 rfl rfl ?_
    refine mm_isub dX6_charge_56 ?_
    refine mm_puti dX6_charge_57 rfl fk_X6_255 rfl fv_3_3 so_17 ?_
    refine mm_mem (J := cN (w * h) n l k o r A (upd N (4) ((N 4) - (ch_n J m)))) (cN_up hz (lo_at17.trans rfl) (sn_up (by omega) hz.1)) ?_
    refine mm_aload_n 2 dX6_charge_60 rfl rfl ?_
    refine mm_iload_n 0 dX6_charge_61 rfl rfl ?_
    refine mm_cV1v (dz := d - 1) dX6_charge_62 rfl mzX1_addCharge ml_X6_121 imX1_addCharge (by omega) (sm_1 (show m < 5 by omega)).1 ⟨rfl, rfl⟩ (cg_charge hz (mo_Wu (by omega) hW) (m := m) hm (by omega)) (Nat.le_of_ble_eq_true rfl) ⟨Nat.le_refl _, Nat.le_refl _⟩ ?_
    refine mm_at (pc' := 65) rfl ?_
    refine mm_vret dX6_charge_65 rfl ⟨Nat.le_refl _, Nat.le_refl _⟩ ?_
    have e2 : sp_min 100 ((upd N (4) ((N 4) - (ch_n J m))) (630 + 40 * m + 2) + ch_n J m) = N (630 + 40 * m + 2) + ch_n J m := by
      rw [upd_n (by omega), h2]; unfold ch_n; rw [hJ, h2, hb]; exact chn hq100 hb31
    have e : op_charges J m c 201 = upd (upd N 4 (N 4 - ch_n J m)) (630 + 40 * m + 2) (N (630 + 40 * m + 2) + ch_n J m) := by
      unfold op_charges
      rw [if_pos (by rw [hJ]; exact kd4.mp c15), up_201, up_201, hJ]
    rw [e] at hq
    rw [e2]; exact hq
set_option maxRecDepth 100000 in
set_option maxHeartbeats 600000 in
theorem cg_onto {g : mm_G} {d : Nat} {w h n l k o r : Nat} {A : mm_I} {N : Nat → Int32} (hz : zOK (w * h) n l k o r) (hW : mo_W N w h) {m b : Nat} (hm : m < n) (hb : b < w * h) {q : Nat} (h2 : N (630 + 40 * m + 2) = nI q) (hq100 : q ≤ 100) (hD : mo_D N n) (hK : mo_K N (w * h)) (hd : 3 ≤ d) : mm_Cv g zX6_stepOnto d [.ref 171, .ref (36 + 3 * m), .int (nI (b))] sh_S (cN (w * h) n l k o r A N) (cN (w * h) n l k o r A (soN N n m b)) := by
  obtain ⟨hz1, hz2, hz3, hz4, hz5, hz6⟩ := id hz
  have hc := mo_W_c hW
  obtain ⟨-, -, hw1, hw2, hh1, hh2⟩ := id hW
  refine mm_Cv_of (fun Q hq => ?_)
  refine mm_begin (ls := [(0, .ref 171), (1, .ref (36 + 3 * m)), (2, .int (nI (b)))]) (Nat.le_of_ble_eq_true rfl) rfl rfl ?_
  refine mm_aload_n 0 dX6_stepOnto_0 rfl rfl ?_
  refine mm_getr (b := 1) dX6_stepOnto_1 rfl fk_X6_9 rfl so_171 sr_171_0 ?_
  refine mm_getr (b := 2) dX6_stepOnto_4 rfl fk_X6_108 rfl so_1 sr_1_0 ?_
  refine mm_iload_n 2 dX6_stepOnto_7 rfl rfl ?_
  refine mm_iconst (v := 3) dX6_stepOnto_8 rfl ?_
  refine mm_cV2i (dz := d - 1) dX6_stepOnto_9 rfl mzX0_isA ml_X6_222 imX0_isA (by omega) so_2 ⟨rfl, rfl⟩ (cg_isA hz hW (c := b) (by omega) (hK _ (by omega)) (by omega)) (Nat.le_of_ble_eq_true rfl) ⟨Nat.le_refl _, Nat.le_refl _⟩ ?_
  refine mm_istore_n (ls' := [(3, .int (if sp_kd (N (30 + b)) 3 then 1 else 0)), (0, .ref 171), (1, .ref (36 + 3 * m)), (2, .int (nI (b)))]) dX6_stepOnto_12 rfl (by decide) rfl ?_
  refine mm_iload_n 0 dX6_stepOnto_13 rfl rfl ?_
  refine mm_at (pc' := 14) rfl ?_
  refine mm_if_eqB (tgt := 21) dX6_stepOnto_14 (by decide) (fun c14 => ?_) (fun c14 => ?_)
  · refine mm_iconst (v := 2) dX6_stepOnto_21 rfl ?_
    refine mm_istore (ls' := [(4, .int (2)), (3, .int (if sp_kd (N (30 + b)) 3 then 1 else 0)), (0, .ref 171), (1, .ref (36 + 3 * m)), (2, .int (nI (b)))]) dX6_stepOnto_22 (by decide) rfl ?_
    refine mm_aload_n 2 dX6_stepOnto_24 rfl rfl ?_
    refine mm_getr (b := 1) dX6_stepOnto_25 rfl fk_X6_9 rfl so_171 sr_171_0 ?_
    refine mm_iload_n 4 dX6_stepOnto_28 rfl rfl ?_
    refine mm_cV1i (dz := d - 1) dX6_stepOnto_29 rfl mzX8_machineOn ml_X6_226 imX8_machineOn (by omega) so_1 ⟨rfl, rfl⟩ (cg_mo hz hW hD (by omega)) (Nat.le_of_ble_eq_true rfl) ⟨Nat.le_refl _, Nat.le_refl _⟩ ?_
    refine mm_if_ge (tgt := 64) dX6_stepOnto_32 (by decide) (fun c32 => ?_) (fun c32 => ?_)
    · refine mm_vret dX6_stepOnto_64 rfl ⟨Nat.le_refl _, Nat.le_refl _⟩ ?_
      have e : soN N n m b = N := by
        unfold soN
        rw [if_neg (by
          rintro ⟨z1, z2⟩
          first | exact absurd z1 (Int32.not_lt.mpr c32) | (have e3 : gs_c N b = 1 := if_pos c14; rw [e3] at z2; exact absurd z2 (Int32.not_le.mpr c41)) | (have e3 : gs_c N b = 2 := if_neg c14; rw [e3] at z2; exact absurd z2 (Int32.not_le.mpr c41)))]
      rw [e] at hq; exact hq
    · refine mm_aload_n 3 dX6_stepOnto_35 rfl rfl ?_
      refine mm_geti dX6_stepOnto_36 rfl fk_X6_143 rfl (sm_1 (show m < 5 by omega)).1 ?_
      refine mm_top (v := N (630 + 40 * m + 2)) (cN_r ((lo_atm (by omega)).trans (if_pos ⟨by omega, by omega⟩))) ?_
      refine mm_iload 0 dX6_stepOnto_39 rfl ?_
      refine mm_icmp_lt (tgt := 64) dX6_stepOnto_41 (by decide) (fun c41 => ?_) (fun c41 => ?_)
      · refine mm_vret dX6_stepOnto_64 rfl ⟨Nat.le_refl _, Nat.le_refl _⟩ ?_
        have e : soN N n m b = N := by
          unfold soN
          rw [if_neg (by
            rintro ⟨z1, z2⟩
            first | exact absurd z1 (Int32.not_lt.mpr c32) | (have e3 : gs_c N b = 1 := if_pos c14; rw [e3] at z2; exact absurd z2 (Int32.not_le.mpr c41)) | (have e3 : gs_c N b = 2 := if_neg c14; rw [e3] at z2; exact absurd z2 (Int32.not_le.mpr c41)))]
        rw [e] at hq; exact hq
      · refine mm_aload_n 3 dX6_stepOnto_44 rfl rfl ?_
        refine mm_iload 0 dX6_stepOnto_45 rfl ?_
        refine mm_iload_n 1 dX6_stepOnto_47 rfl rfl ?_
        refine mm_if_eqB (tgt := 55) dX6_stepOnto_48 (by decide) (fun c48 => ?_) (fun c48 => ?_)
        · refine mm_iconst (v := 1) dX6_stepOnto_55 rfl ?_
          refine mm_cV2v (dz := d - 1) dX6_stepOnto_56 rfl mzX1_pay ml_X6_229 imX1_pay (by omega) (sm_1 (show m < 5 by omega)).1 ⟨rfl, rfl⟩ (cg_pay hz hW (m := m) (by omega) (by omega)) (Nat.le_of_ble_eq_true rfl) ⟨Nat.le_refl _, Nat.le_refl _⟩ ?_
          refine mm_aload_n 3 dX6_stepOnto_59 rfl rfl ?_
          refine mm_iload_n 4 dX6_stepOnto_60 rfl rfl ?_
          refine mm_puti dX6_stepOnto_61 rfl fk_X6_124 rfl fv_1_1 (sm_1 (show m < 5 by omega)).1 ?_
          refine mm_mem (J := cN (w * h) n l k o r A (upd (upd (upd N (630 + 40 * m + 2) (if 0 < N (630 + 40 * m + 2) - 2 then N (630 + 40 * m + 2) - 2 else 0)) (630 + 40 * m + 3) (sp_min 100 (N (630 + 40 * m + 3) + 1))) (630 + 40 * m + 1) (nI (b)))) (cN_up hz ((lo_atm (by omega)).trans (if_pos ⟨by omega, by omega⟩)) (sn_up (by omega) hz.1)) ?_
          refine mm_vret dX6_stepOnto_64 rfl ⟨Nat.le_refl _, Nat.le_refl _⟩ ?_
          have e3 : gs_c N b = 2 := if_neg c14
          have z2 : 2 ≤ N (630 + 40 * m + 2) := by first | exact c41 | exact Int32.not_lt.mp c41
          have e2 : (if 0 < N (630 + 40 * m + 2) - 2 then N (630 + 40 * m + 2) - 2 else 0) = N (630 + 40 * m + 2) - 2 := pay_e (q := q) (y := 2) h2 rfl (by omega) (by rw [h2] at z2; exact (nI_leI (a := 2) (by decide) (by omega)).mp z2)
          have e : soN N n m b = upd (upd (upd N (630 + 40 * m + 2) (N (630 + 40 * m + 2) - 2)) (630 + 40 * m + 3) (sp_min 100 (N (630 + 40 * m + 3) + 1))) (630 + 40 * m + 1) (nI b) := by
            unfold soN
            rw [if_pos ⟨by first | exact c32 | exact Int32.not_le.mp c32, by rw [e3]; exact z2⟩, e3, upd_cm (x := 630 + 40 * m + 1) (y := 630 + 40 * m + 2) (by omega), upd_cm (x := 630 + 40 * m + 1) (y := 630 + 40 * m + 3) (by omega)]; rfl
          rw [e] at hq
          rw [e2]; exact hq
        · exact absurd c48 c14
  · refine mm_iconst (v := 1) dX6_stepOnto_17 rfl ?_
    refine mm_goto (tgt := 22) dX6_stepOnto_18 (by decide) ?_
    refine mm_istore (ls' := [(4, .int (1)), (3, .int (if sp_kd (N (30 + b)) 3 then 1 else 0)), (0, .ref 171), (1, .ref (36 + 3 * m)), (2, .int (nI (b)))]) dX6_stepOnto_22 (by decide) rfl ?_
    refine mm_aload_n 2 dX6_stepOnto_24 rfl rfl ?_
    refine mm_getr (b := 1) dX6_stepOnto_25 rfl fk_X6_9 rfl so_171 sr_171_0 ?_
    refine mm_iload_n 4 dX6_stepOnto_28 rfl rfl ?_
    refine mm_cV1i (dz := d - 1) dX6_stepOnto_29 rfl mzX8_machineOn ml_X6_226 imX8_machineOn (by omega) so_1 ⟨rfl, rfl⟩ (cg_mo hz hW hD (by omega)) (Nat.le_of_ble_eq_true rfl) ⟨Nat.le_refl _, Nat.le_refl _⟩ ?_
    refine mm_if_ge (tgt := 64) dX6_stepOnto_32 (by decide) (fun c32 => ?_) (fun c32 => ?_)
    · refine mm_vret dX6_stepOnto_64 rfl ⟨Nat.le_refl _, Nat.le_refl _⟩ ?_
      have e : soN N n m b = N := by
        unfold soN
        rw [if_neg (by
          rintro ⟨z1, z2⟩
          first | exact absurd z1 (Int32.not_lt.mpr c32) | (have e3 : gs_c N b = 1 := if_pos c14; rw [e3] at z2; exact absurd z2 (Int32.not_le.mpr c41)) | (have e3 : gs_c N b = 2 := if_neg c14; rw [e3] at z2; exact absurd z2 (Int32.not_le.mpr c41)))]
      rw [e] at hq; exact hq
    · refine mm_aload_n 3 dX6_stepOnto_35 rfl rfl ?_
      refine mm_geti dX6_stepOnto_36 rfl fk_X6_143 rfl (sm_1 (show m < 5 by omega)).1 ?_
      refine mm_top (v := N (630 + 40 * m + 2)) (cN_r ((lo_atm (by omega)).trans (if_pos ⟨by omega, by omega⟩))) ?_
      refine mm_iload 0 dX6_stepOnto_39 rfl ?_
      refine mm_icmp_lt (tgt := 64) dX6_stepOnto_41 (by decide) (fun c41 => ?_) (fun c41 => ?_)
      · refine mm_vret dX6_stepOnto_64 rfl ⟨Nat.le_refl _, Nat.le_refl _⟩ ?_
        have e : soN N n m b = N := by
          unfold soN
          rw [if_neg (by
            rintro ⟨z1, z2⟩
            first | exact absurd z1 (Int32.not_lt.mpr c32) | (have e3 : gs_c N b = 1 := if_pos c14; rw [e3] at z2; exact absurd z2 (Int32.not_le.mpr c41)) | (have e3 : gs_c N b = 2 := if_neg c14; rw [e3] at z2; exact absurd z2 (Int32.not_le.mpr c41)))]
        rw [e] at hq; exact hq
      · refine mm_aload_n 3 dX6_stepOnto_44 rfl rfl ?_
        refine mm_iload 0 dX6_stepOnto_45 rfl ?_
        refine mm_iload_n 1 dX6_stepOnto_47 rfl rfl ?_
        refine mm_if_eqB (tgt := 55) dX6_stepOnto_48 (by decide) (fun c48 => ?_) (fun c48 => ?_)
        · exact absurd c14 c48
        · refine mm_iconst (v := 0) dX6_stepOnto_51 rfl ?_
          refine mm_goto (tgt := 56) dX6_stepOnto_52 (by decide) ?_
          refine mm_cV2v (dz := d - 1) dX6_stepOnto_56 rfl mzX1_pay ml_X6_229 imX1_pay (by omega) (sm_1 (show m < 5 by omega)).1 ⟨rfl, rfl⟩ (cg_pay hz hW (m := m) (by omega) (by omega)) (Nat.le_of_ble_eq_true rfl) ⟨Nat.le_refl _, Nat.le_refl _⟩ ?_
          refine mm_aload_n 3 dX6_stepOnto_59 rfl rfl ?_
          refine mm_iload_n 4 dX6_stepOnto_60 rfl rfl ?_
          refine mm_puti dX6_stepOnto_61 rfl fk_X6_124 rfl fv_1_1 (sm_1 (show m < 5 by omega)).1 ?_
          refine mm_mem (J := cN (w * h) n l k o r A (upd (upd (upd N (630 + 40 * m + 2) (if 0 < N (630 + 40 * m + 2) - 1 then N (630 + 40 * m + 2) - 1 else 0)) (630 + 40 * m + 3) (sp_min 100 (N (630 + 40 * m + 3) + 0))) (630 + 40 * m + 1) (nI (b)))) (cN_up hz ((lo_atm (by omega)).trans (if_pos ⟨by omega, by omega⟩)) (sn_up (by omega) hz.1)) ?_
          refine mm_vret dX6_stepOnto_64 rfl ⟨Nat.le_refl _, Nat.le_refl _⟩ ?_
          have e3 : gs_c N b = 1 := if_pos c14
          have z2 : 1 ≤ N (630 + 40 * m + 2) := by first | exact c41 | exact Int32.not_lt.mp c41
          have e2 : (if 0 < N (630 + 40 * m + 2) - 1 then N (630 + 40 * m + 2) - 1 else 0) = N (630 + 40 * m + 2) - 1 := pay_e (q := q) (y := 1) h2 rfl (by omega) (by rw [h2] at z2; exact (nI_leI (a := 1) (by decide) (by omega)).mp z2)
          have e : soN N n m b = upd (upd (upd N (630 + 40 * m + 2) (N (630 + 40 * m + 2) - 1)) (630 + 40 * m + 3) (sp_min 100 (N (630 + 40 * m + 3) + 0))) (630 + 40 * m + 1) (nI b) := by
            unfold soN
            rw [if_pos ⟨by first | exact c32 | exact Int32.not_le.mp c32, by rw [e3]; exact z2⟩, e3, upd_cm (x := 630 + 40 * m + 1) (y := 630 + 40 * m + 2) (by omega), upd_cm (x := 630 + 40 * m + 1) (y := 630 + 40 * m + 3) (by omega)]; rfl
          rw [e] at hq
          rw [e2]; exact hq
