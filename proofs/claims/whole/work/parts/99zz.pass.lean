/-! THE CLASS: a TICK goes by -/
set_option maxRecDepth 100000 in
set_option maxHeartbeats 1000000 in
theorem cg_pt {g : mm_G} {d : Nat} {M J : mm_I} {w h n l k o r T : Nat} (H : siR M (J 201) w h n l k o r T) (hT : T < 2000) (hd : 9 ≤ d) : mm_Dv g zX6_passTick d [.ref 171] sh_S M (fun M' => ∃ r', siR M' (op_tick w h n l J 201) w h n l k (oc J o).2 r' (T + 1) ∧ tkF M' M) := by
  obtain ⟨H1, H2, H3⟩ := id H
  have hz := iV_z H1
  have hr45 := iV_r H1
  obtain ⟨hz1, hz2, hz3, hz4, hz5, hz6⟩ := id hz
  have S := tk_st H1
  obtain ⟨-, r', hrg, hr', hV⟩ := tk_all H1 hT
  obtain ⟨I1, I2, I3, ⟨h15, h16, h17, h18, h19⟩, ⟨hn, hl, hk, ho⟩, ⟨la, lb, hL⟩, h5, ⟨L, hL9, h6⟩, hLo, hH, hY, hO, ⟨h7, hT2⟩, hR, hC⟩ := id H1
  have hcc := mo_W_c I1.1
  have e3 : tk_3 w h n l J = tk_m w h n (op_pc (op_rc (op_oc J o) r) n l) n := by unfold tk_3 tk_2; rw [tk_1e h17 h18 ho (by omega)]
  rw [e3] at hrg
  have hfr := tk_fr S
  obtain ⟨r1, r2, r3⟩ := tk_rp S
  obtain ⟨⟨a1, a2, a3, a4, a5, a6⟩, ⟨b1, b2, b3, b4, b5, b6, b7⟩, ⟨c1, c2, c3⟩, S4⟩ := id S
  have e15 : ∀ y, (y = 2 ∨ y = 3 ∨ (5 ≤ y ∧ y ≤ 7) ∨ y = 15 ∨ y = 16 ∨ y = 19 ∨ (590 ≤ y ∧ y < 630) ∨ 1226 ≤ y) → op_rc (op_oc J o) r 201 y = J 201 y := fun y hy => (b7 y (by omega) (by omega)).trans (a6 y (by omega) (by omega))
  -- ORDERS
  obtain ⟨M1, k1, s1, p1, f1⟩ : ∃ M1, mm_Cv g zX6_bringOrders (d - 1) [.ref 171] sh_S M M1 ∧ sS (w * h) n l k (oc J o).2 r M1 (op_oc J o 201) ∧ (∀ p, p < 6 → pgR M1 (op_oc J o 201) n p) ∧ tkF M1 M := by
    have q := cg_bo (g := g) (d := d - 1) (A := M) (J := J) hz I1.1 rfl hO (fun p hp => by obtain ⟨nS, -, z1, z2, -⟩ := H3 p hp; rw [z1, z2]) (by omega)
    rw [← sS_self H2] at q
    exact ⟨_, q, st_1 H⟩
  have hz' : zOK (w * h) n l k (oc J o).2 r := ⟨hz1, hz2, hz3, hz4, a5, hz6⟩
  -- REPORTS
  have hR1 : rpt (op_oc J o 201) (w * h) T T r := fun i hi => by
    rw [a6 _ (by omega) (by omega), a6 _ (by omega) (by omega), a6 _ (by omega) (by omega)]; exact hR i hi
  obtain ⟨M2, k2, s2, p2, f2⟩ : ∃ M2, mm_Cv g zX6_bringReports (d - 1) [.ref 171] sh_S M1 M2 ∧ sS (w * h) n l k (oc J o).2 (rc (op_oc J o) r).2 M2 (op_rc (op_oc J o) r 201) ∧ (∀ p, p < 6 → pgR M2 (op_rc (op_oc J o) r 201) n p) ∧ tkF M2 M1 := by
    have q := cg_br (g := g) (d := d - 1) (A := M1) (J := op_oc J o) hz' a1.1 rfl (rpt_Rn hR1 (by omega)) (by omega)
    rw [← sS_self s1] at q
    exact ⟨_, q, st_2 hz' (Rn_R (rpt_Rn hR1 (by omega)) hcc.2) p1⟩
  have hz2' : zOK (w * h) n l k (oc J o).2 (rc (op_oc J o) r).2 := ⟨hz1, hz2, hz3, hz4, a5, by omega⟩
  have hb5 : ∃ x, x ≤ 99 ∧ op_rc (op_oc J o) r 201 5 = nI x := by rw [e15 5 (by omega)]; exact h5
  obtain ⟨o1, o2⟩ := opa_inv hn b1 hb5
  refine mm_Dv_of (fun Q hq => ?_)
  refine mm_begin (ls := [(0, .ref 171)]) (Nat.le_of_ble_eq_true rfl) rfl rfl ?_
  refine mm_aload_n 0 dX6_passTick_0 rfl rfl ?_
  refine mm_cV0v (dz := d - 1) dX6_passTick_1 rfl mzX6_bringOrders ml_X6_24 imX6_bringOrders (by omega) so_171 ⟨rfl, rfl⟩ k1 (Nat.le_of_ble_eq_true rfl) ⟨Nat.le_refl _, Nat.le_refl _⟩ ?_
  refine mm_aload_n 0 dX6_passTick_4 rfl rfl ?_
  refine mm_cV0v (dz := d - 1) dX6_passTick_5 rfl mzX6_bringReports ml_X6_27 imX6_bringReports (by omega) so_171 ⟨rfl, rfl⟩ k2 (Nat.le_of_ble_eq_true rfl) ⟨Nat.le_refl _, Nat.le_refl _⟩ ?_
  refine mm_at (pc' := 8) rfl ?_
  -- the end: the TICK is counted
  have K6 : ∀ M5, sS (w * h) n l k (oc J o).2 r' M5 (op_rg (tk_m w h n (op_pc (op_rc (op_oc J o) r) n l) n) n (rc (op_oc J o) r).2 201) → (∀ p, p < 6 → pgR M5 (tk_m w h n (op_pc (op_rc (op_oc J o) r) n l) n 201) n p) → tkF M5 M → mm_Ex g zX6_passTick d (0, 0) (0, 0) sh_S M5 107 [(1, .int (nI n)), (0, .ref 171)] [] Q := by
    intro M5 s5 p5 f5
    have hz5' : zOK (w * h) n l k (oc J o).2 r' := ⟨hz1, hz2, hz3, hz4, a5, by omega⟩
    refine mm_aload_n 1 dX6_passTick_107 rfl rfl ?_
    refine mm_getr (b := 1) dX6_passTick_108 rfl fk_X6_9 rfl so_171 sr_171_0 ?_
    refine mm_getr (b := 17) dX6_passTick_111 rfl fk_X6_30 rfl so_1 sr_1_1 ?_
    refine mm_dup dX6_passTick_114 rfl ?_
    refine mm_geti dX6_passTick_115 rfl fk_X6_66 rfl so_17 ?_
    refine mm_top (v := op_rg (tk_m w h n (op_pc (op_rc (op_oc J o) r) n l) n) n (rc (op_oc J o) r).2 201 7) s5.p0 ?_
    refine mm_iconst (v := 1) dX6_passTick_118 rfl ?_
    refine mm_iadd dX6_passTick_119 ?_
    refine mm_puti dX6_passTick_120 rfl fk_X6_66 rfl fv_3_0 so_17 ?_
    refine mm_vret dX6_passTick_123 rfl ⟨Nat.le_refl _, Nat.le_refl _⟩ ?_
    have em : mm_up M5 17 0 (op_rg (tk_m w h n (op_pc (op_rc (op_oc J o) r) n l) n) n (rc (op_oc J o) r).2 201 7 + 1) = cN (w * h) n l k (oc J o).2 r' M5 (op_tick w h n l J 201) := by
      have et : op_tick w h n l J 201 = upd (op_rg (tk_m w h n (op_pc (op_rc (op_oc J o) r) n l) n) n (rc (op_oc J o) r).2 201) 7 (op_rg (tk_m w h n (op_pc (op_rc (op_oc J o) r) n l) n) n (rc (op_oc J o) r).2 201 7 + 1) := by
        unfold op_tick tk_4
        rw [up_201, e3, r2, vv_nI (by omega)]
      rw [et]
      have q := cN_up (c := w * h) (n := n) (l := l) (k := k) (o := (oc J o).2) (r := r') (A := M5) (N := op_rg (tk_m w h n (op_pc (op_rc (op_oc J o) r) n l) n) n (rc (op_oc J o) r).2 201) (a := 17) (i := 0) (x := 7) (v := op_rg (tk_m w h n (op_pc (op_rc (op_oc J o) r) n l) n) n (rc (op_oc J o) r).2 201 7 + 1) hz5' (lo_at17.trans rfl) (sn_up (by omega) hz1)
      rw [← sS_self s5] at q
      exact q
    rw [em]
    refine hq _ ⟨r', ⟨hV, sS_cN hz5', fun p hp => ?_⟩, fun b hb => (cN_oa hz2 (by omega)).trans (f5 b hb)⟩
    refine pgR_c (p5 p hp) hz2 hp (fun b hb => cN_oa hz2 (by omega)) (fun m hm => s_m7 hz2 (by omega)) (fun y hy => ?_)
    obtain ⟨t1, t2, t3⟩ := S4 n (Nat.le_refl _)
    obtain ⟨r'', q1, q2, q3, q4, q5, q6, q7⟩ := rg_all (J := tk_m w h n (op_pc (op_rc (op_oc J o) r) n l) n) hn hT2 ((hfr 7 (by omega)).trans h7) ((hfr 6 (by omega)).trans h6) hL9 r2 (by omega) t1 t2 r1
    unfold op_tick tk_4
    rw [up_201, upd_n (by omega), e3, r2, vv_nI (by omega)]
    exact q7 y (by omega) (by omega)
  -- REPORTS go
  have K5 : ∀ (mf i : Nat), i ≤ n → n - i < mf → ∀ M5, r5 (tk_m w h n (op_pc (op_rc (op_oc J o) r) n l) n) M5 (w * h) n l k (oc J o).2 (rc (op_oc J o) r).2 i → M5 1 4 = nI n → (∀ p, p < 6 → pgR M5 (tk_m w h n (op_pc (op_rc (op_oc J o) r) n l) n 201) n p) → tkF M5 M → mm_Ex g zX6_passTick d (0, 0) (0, 0) sh_S M5 78 [(1, .int (nI i)), (0, .ref 171)] [] Q := by
    obtain ⟨t1, t2, t3⟩ := S4 n (Nat.le_refl _)
    intro mf
    induction mf with
    | zero => intro i hi hmz; exact absurd hmz (Nat.not_lt_zero _)
    | succ mf ih =>
      intro i hi hmz M5 s5 hcn p5 f5
      refine mm_iload_n 0 dX6_passTick_78 rfl rfl ?_
      refine mm_aload_n 1 dX6_passTick_79 rfl rfl ?_
      refine mm_getr (b := 1) dX6_passTick_80 rfl fk_X6_9 rfl so_171 sr_171_0 ?_
      refine mm_geti dX6_passTick_83 rfl fk_X6_51 rfl so_1 ?_
      refine mm_top (v := nI n) hcn ?_
      refine mm_icmp_geN (i) (n) (tgt := 107) dX6_passTick_86 (by decide) (by omega) (by omega) (fun c86 => ?_) (fun c86 => ?_)
      · have e : i = n := by omega
        subst e
        exact K6 M5 (r5_end hz2' (by omega) t1 ((hfr 7 (by omega)).trans h7) hT2 ((hfr 6 (by omega)).trans h6) r2 r1 s5 hr' hrg) p5 f5
      · refine mm_aload_n 1 dX6_passTick_89 rfl rfl ?_
        refine mm_aload_n 1 dX6_passTick_90 rfl rfl ?_
        refine mm_getr (b := 1) dX6_passTick_91 rfl fk_X6_9 rfl so_171 sr_171_0 ?_
        refine mm_iload_n 0 dX6_passTick_94 rfl rfl ?_
        refine mm_at (pc' := 95) rfl ?_
        have hwk : mm_Cr g zX8_worker (d - 1) [.ref 1, .int (nI i)] sh_S M5 (.ref (36 + 3 * i)) M5 := ct_wk hcn (by omega) (by omega)
        refine mm_cV1r (dz := d - 1) dX6_passTick_95 rfl mzX8_worker ml_X6_55 imX8_worker (by omega) so_1 ⟨rfl, rfl⟩ hwk (Nat.le_of_ble_eq_true rfl) ⟨Nat.le_refl _, Nat.le_refl _⟩ ?_
        refine mm_dV1v (dz := d - 1) dX6_passTick_98 rfl mzX6_sendReport ml_X6_63 imX6_sendReport (by omega) so_171 ⟨rfl, rfl⟩ (cg_sr hz2' (by omega) t1 ((hfr 7 (by omega)).trans h7) hT2 s5 (by omega) (by omega)) (Nat.le_of_ble_eq_true rfl) ⟨Nat.le_refl _, Nat.le_refl _⟩ (fun M6 hM6 => ?_)
        refine mm_iincN (ls' := [(1, .int (nI (i + 1))), (0, .ref 171)]) 0 (i) 1 dX6_passTick_101 rfl rfl (by decide) rfl ?_
        refine mm_goto (tgt := 78) dX6_passTick_104 (by decide) ?_
        refine ih (i + 1) (by omega) (by omega) M6 hM6.1 ?_ (fun p hp => pgR_c (p5 p hp) hz2 hp (fun b hb => hM6.2.1 b (by omega)) (fun m hm => hM6.2.2 m (by omega)) (fun _ _ => rfl)) (fun b hb => (hM6.2.1 b (by omega)).trans (f5 b hb))
        by_cases c : tk_m w h n (op_pc (op_rc (op_oc J o) r) n l) n 201 6 = 0
        · exact (hM6.1.1 c).cn
        · exact (hM6.1.2 c).cn
  -- MACHINES
  have K4 : ∀ (mf i : Nat), i ≤ n → n - i < mf → ∀ M4, sS (w * h) n l k (oc J o).2 (rc (op_oc J o) r).2 M4 (tk_m w h n (op_pc (op_rc (op_oc J o) r) n l) i 201) → (∀ p, p < 6 → pgR M4 (tk_m w h n (op_pc (op_rc (op_oc J o) r) n l) i 201) n p) → tkF M4 M → mm_Ex g zX6_passTick d (0, 0) (0, 0) sh_S M4 47 [(1, .int (nI i)), (0, .ref 171)] [] Q := by
    intro mf
    induction mf with
    | zero => intro i hi hmz; exact absurd hmz (Nat.not_lt_zero _)
    | succ mf ih =>
      intro i hi hmz M4 s4 p4 f4
      refine mm_iload_n 0 dX6_passTick_47 rfl rfl ?_
      refine mm_aload_n 1 dX6_passTick_48 rfl rfl ?_
      refine mm_getr (b := 1) dX6_passTick_49 rfl fk_X6_9 rfl so_171 sr_171_0 ?_
      refine mm_geti dX6_passTick_52 rfl fk_X6_51 rfl so_1 ?_
      refine mm_top (v := nI n) s4.cn ?_
      refine mm_icmp_geN (i) (n) (tgt := 76) dX6_passTick_55 (by decide) (by omega) (by omega) (fun c55 => ?_) (fun c55 => ?_)
      · have e : i = n := by omega
        subst e
        refine mm_iconst (v := 0) dX6_passTick_76 rfl ?_
        refine mm_istore_n (ls' := [(1, .int (0)), (0, .ref 171)]) dX6_passTick_77 rfl (by decide) rfl ?_
        exact mm_sub [0, 1] rfl (K5 (i + 1) 0 (Nat.zero_le _) (by omega) M4 ⟨fun _ => s4, fun _ => s4⟩ s4.cn p4 f4)
      · refine mm_aload_n 1 dX6_passTick_58 rfl rfl ?_
        refine mm_aload_n 1 dX6_passTick_59 rfl rfl ?_
        refine mm_getr (b := 1) dX6_passTick_60 rfl fk_X6_9 rfl so_171 sr_171_0 ?_
        refine mm_iload_n 0 dX6_passTick_63 rfl rfl ?_
        refine mm_at (pc' := 64) rfl ?_
        refine mm_cV1r (dz := d - 1) dX6_passTick_64 rfl mzX8_worker ml_X6_55 imX8_worker (by omega) so_1 ⟨rfl, rfl⟩ (ct_wk s4.cn (by omega) (by omega)) (Nat.le_of_ble_eq_true rfl) ⟨Nat.le_refl _, Nat.le_refl _⟩ ?_
        obtain ⟨t1, t2, t3⟩ := S4 i hi
        refine mm_dV1v (dz := d - 1) dX6_passTick_67 rfl mzX6_runScript ml_X6_59 imX6_runScript (by omega) so_171 ⟨rfl, rfl⟩ (cg_rs hz2' t1 t2 ((t3 16 (by omega)).trans ((c3 16 (by omega)).trans ((e15 16 (by omega)).trans h16))) (la := la) (lb := lb) ⟨(t3 2 (by omega)).trans ((c3 2 (by omega)).trans ((e15 2 (by omega)).trans hL.1)), (t3 3 (by omega)).trans ((c3 3 (by omega)).trans ((e15 3 (by omega)).trans hL.2.1)), hL.2.2⟩ s4 p4 (by omega) (by omega)) (Nat.le_of_ble_eq_true rfl) ⟨Nat.le_refl _, Nat.le_refl _⟩ (fun M5 hM5 => ?_)
        refine mm_iincN (ls' := [(1, .int (nI (i + 1))), (0, .ref 171)]) 0 (i) 1 dX6_passTick_70 rfl rfl (by decide) rfl ?_
        refine mm_goto (tgt := 47) dX6_passTick_73 (by decide) ?_
        exact ih (i + 1) (by omega) (by omega) M5 hM5.1 hM5.2.1 (tkF_t f4 hM5.2.2)
  -- power
  have hf2 := tkF_t f1 f2
  have K3 : mm_Ex g zX6_passTick d (0, 0) (0, 0) sh_S (cN (w * h) n l k (oc J o).2 (rc (op_oc J o) r).2 M2 (op_pa (op_rc (op_oc J o) r) n 201)) 35 [(0, .ref 171)] [] Q := by
    obtain ⟨b, x1, x2⟩ := o1.2.2.2.2.1
    refine mm_aload_n 0 dX6_passTick_35 rfl rfl ?_
    refine mm_getr (b := 1) dX6_passTick_36 rfl fk_X6_9 rfl so_171 sr_171_0 ?_
    refine mm_getr (b := 17) dX6_passTick_39 rfl fk_X6_30 rfl so_1 sr_1_1 ?_
    refine mm_cV0v (dz := d - 1) dX6_passTick_42 rfl mzX3_payLoads ml_X6_48 imX3_payLoads (by omega) so_17 ⟨rfl, rfl⟩ (cg_pl hz2' o1.1 x2 (by omega) (by omega)) (Nat.le_of_ble_eq_true rfl) ⟨Nat.le_refl _, Nat.le_refl _⟩ ?_
    have ep : op_pc (op_rc (op_oc J o) r) n l 201 = upd (upd (upd (op_pa (op_rc (op_oc J o) r) n 201) 9 (nI (pw_d (op_pa (op_rc (op_oc J o) r) n 201) l l))) 8 (op_pa (op_rc (op_oc J o) r) n 201 8 + sp_hb (op_pa (op_rc (op_oc J o) r) n 201) (nI (pw_d (op_pa (op_rc (op_oc J o) r) n 201) l l)) l)) 4 (op_pa (op_rc (op_oc J o) r) n 201 4 - sp_pb (op_pa (op_rc (op_oc J o) r) n 201) (nI (pw_d (op_pa (op_rc (op_oc J o) r) n 201) l l)) l) := by
      unfold op_pc op_pw; rw [up_201, up_201, up_201]
    rw [← ep]
    refine mm_iconst (v := 0) dX6_passTick_45 rfl ?_
    refine mm_istore_n (ls' := [(1, .int (0)), (0, .ref 171)]) dX6_passTick_46 rfl (by decide) rfl ?_
    obtain ⟨z1, z2, z3⟩ := st_n (M := M2) (N := op_rc (op_oc J o) r 201) (N' := op_pc (op_rc (op_oc J o) r) n l 201) hz2' p2 (fun y hy => c3 y (by omega))
    exact mm_sub [0, 1] rfl (K4 (n + 1) 0 (Nat.zero_le _) (by omega) _ z1 z2 (tkF_t hf2 z3))
  refine mm_aload_n 0 dX6_passTick_8 rfl rfl ?_
  refine mm_getr (b := 1) dX6_passTick_9 rfl fk_X6_9 rfl so_171 sr_171_0 ?_
  refine mm_getr (b := 17) dX6_passTick_12 rfl fk_X6_30 rfl so_1 sr_1_1 ?_
  have klt := cg_light (g := g) (d := d - 1) (A := M2) hz2' b1.1 ((e15 2 (by omega)).trans hL.1) ((e15 3 (by omega)).trans hL.2.1) hL.2.2.1 hL.2.2.2 (by omega)
  rw [← sS_self s2] at klt
  refine mm_cV0i (dz := d - 1) dX6_passTick_15 rfl mzX3_isLight ml_X6_36 imX3_isLight (by omega) so_17 ⟨rfl, rfl⟩ klt (Nat.le_of_ble_eq_true rfl) ⟨Nat.le_refl _, Nat.le_refl _⟩ ?_
  refine mm_if_eqB (tgt := 35) dX6_passTick_18 (by decide) (fun c18 => ?_) (fun c18 => ?_)
  · have e : op_pa (op_rc (op_oc J o) r) n = op_rc (op_oc J o) r := by unfold op_pa; rw [if_neg c18]
    rw [e, ← sS_self s2] at K3
    exact K3
  · have e : op_pa (op_rc (op_oc J o) r) n = pa_m (mm_up (op_rc (op_oc J o) r) 201 4 (sp_min 9999 (op_rc (op_oc J o) r 201 4 + op_rc (op_oc J o) r 201 5))) n := by unfold op_pa; rw [if_pos c18]
    refine mm_aload_n 0 dX6_passTick_21 rfl rfl ?_
    refine mm_getr (b := 1) dX6_passTick_22 rfl fk_X6_9 rfl so_171 sr_171_0 ?_
    refine mm_getr (b := 17) dX6_passTick_25 rfl fk_X6_30 rfl so_1 sr_1_1 ?_
    have ksh := cg_shine (g := g) (d := d - 1) (A := M2) hz2' b1.1 (by omega)
    rw [← sS_self s2] at ksh
    refine mm_cV0v (dz := d - 1) dX6_passTick_28 rfl mzX3_shine ml_X6_42 imX3_shine (by omega) so_17 ⟨rfl, rfl⟩ ksh (Nat.le_of_ble_eq_true rfl) ⟨Nat.le_refl _, Nat.le_refl _⟩ ?_
    refine mm_aload_n 0 dX6_passTick_31 rfl rfl ?_
    refine mm_at (pc' := 32) rfl ?_
    have hBu : mo_B (upd (op_rc (op_oc J o) r 201) 4 (sp_min 9999 (op_rc (op_oc J o) r 201 4 + op_rc (op_oc J o) r 201 5))) n := fun i hi => by
      rw [upd_n (by omega), upd_n (by omega)]; exact iT_B b1 i hi
    refine mm_cV0v (dz := d - 1) dX6_passTick_32 rfl mzX6_chargeAll ml_X6_45 imX6_chargeAll (by omega) so_171 ⟨rfl, rfl⟩ (cg_ca (J := mm_up (op_rc (op_oc J o) r) 201 4 (sp_min 9999 (op_rc (op_oc J o) r 201 4 + op_rc (op_oc J o) r 201 5))) hz2' (mo_Wu (by omega) b1.1) up_201 hBu (by omega)) (Nat.le_of_ble_eq_true rfl) ⟨Nat.le_refl _, Nat.le_refl _⟩ ?_
    rw [← e]
    exact K3
