/-! THE CLASS: its reader, acts and blocks. State: ok, place, fresh, statements, acts, how many, sums, how many, blocks, how many -/
abbrev cS : Type := Bool × Nat × Bool × Nat × (Nat → Int32) × Nat × (Nat → Int32) × Nat × (Nat → Int32) × Nat
def cZ (I : mm_I) (T : Nat → Int32) (t : Nat) : cS → mm_I
  | (ok, k, fr, st, Af, a, Sf, sn, Bf, bn) => cz I T t ok k fr st Af (3 * a) Sf sn Bf bn
def a3 (Af : Nat → Int32) (a : Nat) (c f s : Int32) : Nat → Int32 := upd (upd (upd Af (3 * a) c) (3 * a + 1) f) (3 * a + 2) s
def al (Af : Nat → Int32) (a x : Nat) : Nat → Int32 := upd Af (x * 3 + 2) (nI a)
def c_op (K : Nat → Nat) (x : Nat) : cS → cS
  | (ok, k, fr, st, Af, a, Sf, sn, Bf, bn) => if ok = true ∧ bn < 4 ∧ K k = 123 then (true, k + 1, true, st, Af, a, Sf, sn, upd Bf bn (nI x), bn + 1) else (false, k, fr, st, Af, a, Sf, sn, Bf, bn)
theorem c_op_y {K : Nat → Nat} {x : Nat} {ok : Bool} {k : Nat} {fr : Bool} {st : Nat} {Af : Nat → Int32} {a : Nat} {Sf : Nat → Int32} {sn : Nat} {Bf : Nat → Int32} {bn : Nat} (h : ok = true ∧ bn < 4 ∧ K k = 123) : c_op K x (ok, k, fr, st, Af, a, Sf, sn, Bf, bn) = (true, k + 1, true, st, Af, a, Sf, sn, upd Bf bn (nI x), bn + 1) := by
  show (if ok = true ∧ bn < 4 ∧ K k = 123 then _ else _) = _
  rw [if_pos h]
theorem c_op_n {K : Nat → Nat} {x : Nat} {ok : Bool} {k : Nat} {fr : Bool} {st : Nat} {Af : Nat → Int32} {a : Nat} {Sf : Nat → Int32} {sn : Nat} {Bf : Nat → Int32} {bn : Nat} (h : ¬ (ok = true ∧ bn < 4 ∧ K k = 123)) : c_op K x (ok, k, fr, st, Af, a, Sf, sn, Bf, bn) = (false, k, fr, st, Af, a, Sf, sn, Bf, bn) := by
  show (if ok = true ∧ bn < 4 ∧ K k = 123 then _ else _) = _
  rw [if_neg h]
def c_cl (K : Nat → Nat) : cS → cS
  | (ok, k, fr, st, Af, a, Sf, sn, Bf, bn) =>
    if Af (vv (Bf (bn - 1)) * 3) = 3 ∧ K (k + 1) = 403 then c_op K a (true, k + 1 + 1, fr, st, al (a3 Af a 12 0 0) (a + 1) (vv (Bf (bn - 1))), a + 1, Sf, sn, Bf, bn - 1)
    else if Af (vv (Bf (bn - 1)) * 3) = 4 ∨ Af (vv (Bf (bn - 1)) * 3) = 5 then (true, k + 1, fr, st, al (a3 Af a 12 0 (Bf (bn - 1))) (a + 1) (vv (Bf (bn - 1))), a + 1, Sf, sn, Bf, bn - 1)
    else (true, k + 1, fr, st, al Af a (vv (Bf (bn - 1))), a, Sf, sn, Bf, bn - 1)
set_option maxRecDepth 100000 in
set_option maxHeartbeats 600000 in
theorem cp_len {g : mm_G} {d : Nat} {I : mm_I} {T : Nat → Int32} {t : Nat} {ok : Bool} {k : Nat} {fr : Bool} {st : Nat} {Af : Nat → Int32} {a : Nat} {Sf : Nat → Int32} {sn : Nat} {Bf : Nat → Int32} {bn : Nat} (ha : a ≤ 40) (hd : 1 ≤ d) : mm_Ci g zX4_length d [.ref 184] sh_S (cz I T t ok k fr st Af (3 * a) Sf sn Bf bn) (nI a) (cz I T t ok k fr st Af (3 * a) Sf sn Bf bn) := by
  refine mm_Ci_of (fun Q hq => ?_)
  refine mm_begin (ls := [(0, .ref 184)]) (Nat.le_of_ble_eq_true rfl) rfl rfl ?_
  refine mm_aload_n 0 dX4_length_0 rfl rfl ?_
  refine mm_getr (b := 185) dX4_length_1 rfl fk_X4_16 rfl so_184 sr_184_0 ?_
  refine mm_cV0i (dz := d - 1) dX4_length_4 rfl mzX5_size ml_X4_34 imX5_size (by omega) so_185 ⟨rfl, rfl⟩ (ct_size rw_185) (Nat.le_of_ble_eq_true rfl) ⟨Nat.le_refl _, Nat.le_refl _⟩ ?_
  refine mm_top (v := nI ((3 * a))) rfl ?_
  refine mm_iconst (v := 3) dX4_length_7 rfl ?_
  refine mm_idivN ((3 * a)) (3) dX4_length_8 (by omega) (by omega) (by omega) ?_
  refine mm_top (v := nI (a)) (by rw [Nat.mul_div_cancel_left _ (by decide)]) ?_
  refine mm_iret dX4_length_9 rfl ⟨Nat.le_refl _, Nat.le_refl _⟩ ?_
  exact hq
set_option maxRecDepth 100000 in
set_option maxHeartbeats 600000 in
theorem cp_act {g : mm_G} {d : Nat} {I : mm_I} {T : Nat → Int32} {t : Nat} {ok : Bool} {k : Nat} {fr : Bool} {st : Nat} {Af : Nat → Int32} {a : Nat} {Sf : Nat → Int32} {sn : Nat} {Bf : Nat → Int32} {bn : Nat} {c f s : Int32} (ha : a < 40) (hd : 2 ≤ d) : mm_Ci g zX4_addAct d [.ref 184, .int (c), .int (f), .int (s)] sh_S (cz I T t ok k fr st Af (3 * a) Sf sn Bf bn) (nI a) (cz I T t ok k fr st (a3 Af a c f s) (3 * (a + 1)) Sf sn Bf bn) := by
  refine mm_Ci_of (fun Q hq => ?_)
  refine mm_begin (ls := [(0, .ref 184), (1, .int (c)), (2, .int (f)), (3, .int (s))]) (Nat.le_of_ble_eq_true rfl) rfl rfl ?_
  refine mm_aload_n 0 dX4_addAct_0 rfl rfl ?_
  refine mm_getr (b := 185) dX4_addAct_1 rfl fk_X4_16 rfl so_184 sr_184_0 ?_
  refine mm_iload_n 1 dX4_addAct_4 rfl rfl ?_
  refine mm_cV1i (dz := d - 1) dX4_addAct_5 rfl mzX5_add ml_X4_42 imX5_add (by omega) so_185 ⟨rfl, rfl⟩ (cp_addA (by omega)) (Nat.le_of_ble_eq_true rfl) ⟨Nat.le_refl _, Nat.le_refl _⟩ ?_
  refine mm_pop dX4_addAct_8 rfl ?_
  refine mm_aload_n 0 dX4_addAct_9 rfl rfl ?_
  refine mm_getr (b := 185) dX4_addAct_10 rfl fk_X4_16 rfl so_184 sr_184_0 ?_
  refine mm_iload_n 2 dX4_addAct_13 rfl rfl ?_
  refine mm_at (pc' := 14) rfl ?_
  refine mm_cV1i (dz := d - 1) dX4_addAct_14 rfl mzX5_add ml_X4_42 imX5_add (by omega) so_185 ⟨rfl, rfl⟩ (cp_addA (by omega)) (Nat.le_of_ble_eq_true rfl) ⟨Nat.le_refl _, Nat.le_refl _⟩ ?_
  refine mm_pop dX4_addAct_17 rfl ?_
  refine mm_aload_n 0 dX4_addAct_18 rfl rfl ?_
  refine mm_getr (b := 185) dX4_addAct_19 rfl fk_X4_16 rfl so_184 sr_184_0 ?_
  refine mm_iload_n 3 dX4_addAct_22 rfl rfl ?_
  refine mm_cV1i (dz := d - 1) dX4_addAct_23 rfl mzX5_add ml_X4_42 imX5_add (by omega) so_185 ⟨rfl, rfl⟩ (cp_addA (by omega)) (Nat.le_of_ble_eq_true rfl) ⟨Nat.le_refl _, Nat.le_refl _⟩ ?_
  refine mm_pop dX4_addAct_26 rfl ?_
  refine mm_mem (J := cz I T t ok k fr st (a3 Af a c f s) (3 * (a + 1)) Sf sn Bf bn) rfl ?_
  refine mm_aload_n 0 dX4_addAct_27 rfl rfl ?_
  refine mm_at (pc' := 28) rfl ?_
  refine mm_cV0i (dz := d - 1) dX4_addAct_28 rfl mzX4_length ml_X4_46 imX4_length (by omega) so_184 ⟨rfl, rfl⟩ (cp_len (a := a + 1) (by omega) (by omega)) (Nat.le_of_ble_eq_true rfl) ⟨Nat.le_refl _, Nat.le_refl _⟩ ?_
  refine mm_iconst (v := 1) dX4_addAct_31 rfl ?_
  refine mm_isubN (a + 1) (1) dX4_addAct_32 (by omega) ?_
  refine mm_iret dX4_addAct_33 rfl ⟨Nat.le_refl _, Nat.le_refl _⟩ ?_
  exact hq
set_option maxRecDepth 100000 in
set_option maxHeartbeats 600000 in
theorem cp_code {g : mm_G} {d : Nat} {I : mm_I} {T : Nat → Int32} {t : Nat} {ok : Bool} {k : Nat} {fr : Bool} {st : Nat} {Af : Nat → Int32} {a : Nat} {Sf : Nat → Int32} {sn : Nat} {Bf : Nat → Int32} {bn : Nat} {x : Nat} (hx : x * 3 < 120) (hd : 1 ≤ d) : mm_Ci g zX4_code d [.ref 184, .int (nI (x))] sh_S (cz I T t ok k fr st Af (3 * a) Sf sn Bf bn) (Af (x * 3)) (cz I T t ok k fr st Af (3 * a) Sf sn Bf bn) := by
  refine mm_Ci_of (fun Q hq => ?_)
  refine mm_begin (ls := [(0, .ref 184), (1, .int (nI (x)))]) (Nat.le_of_ble_eq_true rfl) rfl rfl ?_
  refine mm_aload_n 0 dX4_code_0 rfl rfl ?_
  refine mm_getr (b := 185) dX4_code_1 rfl fk_X4_16 rfl so_184 sr_184_0 ?_
  refine mm_iload_n 1 dX4_code_4 rfl rfl ?_
  refine mm_iconst (v := 3) dX4_code_5 rfl ?_
  refine mm_imulN (x) (3) dX4_code_6 ?_
  refine mm_cV1i (dz := d - 1) dX4_code_7 rfl mzX5_at ml_X4_38 imX5_at (by omega) so_185 ⟨rfl, rfl⟩ (ct_at rw_185 (x * 3) (by omega)) (Nat.le_of_ble_eq_true rfl) ⟨Nat.le_refl _, Nat.le_refl _⟩ ?_
  refine mm_top (v := Af (x * 3)) rfl ?_
  refine mm_iret dX4_code_10 rfl ⟨Nat.le_refl _, Nat.le_refl _⟩ ?_
  exact hq
set_option maxRecDepth 100000 in
set_option maxHeartbeats 600000 in
theorem cp_lead {g : mm_G} {d : Nat} {I : mm_I} {T : Nat → Int32} {t : Nat} {ok : Bool} {k : Nat} {fr : Bool} {st : Nat} {Af : Nat → Int32} {a : Nat} {Sf : Nat → Int32} {sn : Nat} {Bf : Nat → Int32} {bn : Nat} {x : Nat} (hx : x < 40) (ha : a ≤ 40) (hd : 2 ≤ d) : mm_Cv g zX4_leadPast d [.ref 184, .int (nI (x))] sh_S (cz I T t ok k fr st Af (3 * a) Sf sn Bf bn) (cz I T t ok k fr st (al Af a x) (3 * a) Sf sn Bf bn) := by
  refine mm_Cv_of (fun Q hq => ?_)
  refine mm_begin (ls := [(0, .ref 184), (1, .int (nI (x)))]) (Nat.le_of_ble_eq_true rfl) rfl rfl ?_
  refine mm_aload_n 0 dX4_leadPast_0 rfl rfl ?_
  refine mm_getr (b := 185) dX4_leadPast_1 rfl fk_X4_16 rfl so_184 sr_184_0 ?_
  refine mm_iload_n 1 dX4_leadPast_4 rfl rfl ?_
  refine mm_iconst (v := 3) dX4_leadPast_5 rfl ?_
  refine mm_imulN (x) (3) dX4_leadPast_6 ?_
  refine mm_iconst (v := 2) dX4_leadPast_7 rfl ?_
  refine mm_iaddN (x * 3) (2) dX4_leadPast_8 ?_
  refine mm_aload_n 0 dX4_leadPast_9 rfl rfl ?_
  refine mm_at (pc' := 10) rfl ?_
  refine mm_cV0i (dz := d - 1) dX4_leadPast_10 rfl mzX4_length ml_X4_46 imX4_length (by omega) so_184 ⟨rfl, rfl⟩ (cp_len (a := a) (by omega) (by omega)) (Nat.le_of_ble_eq_true rfl) ⟨Nat.le_refl _, Nat.le_refl _⟩ ?_
  refine mm_cV2v (dz := d - 1) dX4_leadPast_13 rfl mzX5_set ml_X4_49 imX5_set (by omega) so_185 ⟨rfl, rfl⟩ (cp_setA (x := (x * 3) + 2) (by omega)) (Nat.le_of_ble_eq_true rfl) ⟨Nat.le_refl _, Nat.le_refl _⟩ ?_
  refine mm_vret dX4_leadPast_16 rfl ⟨Nat.le_refl _, Nat.le_refl _⟩ ?_
  exact hq
set_option maxRecDepth 100000 in
set_option maxHeartbeats 600000 in
theorem cp_open {g : mm_G} {d : Nat} {I : mm_I} {T : Nat → Int32} {t : Nat} {ok : Bool} {k : Nat} {fr : Bool} {st : Nat} {Af : Nat → Int32} {a : Nat} {Sf : Nat → Int32} {sn : Nat} {Bf : Nat → Int32} {bn : Nat} {W : Nat} (hB : tp_ok T t) (hWR : WR I T t W) {x : Nat} (hk : k ≤ W) (hbn : bn ≤ 4) (hd : 2 ≤ d) : mm_Cv g zX2_openBlock d [.ref 176, .int (nI x)] sh_S (cz I T t ok k fr st Af (3 * a) Sf sn Bf bn) (cZ I T t (c_op (tK T t) x (ok, k, fr, st, Af, a, Sf, sn, Bf, bn))) := by
  have hW := hWR.1
  have hrg := ckd_i (tK_rng (k := k) hB)
  have htq := tq_good T t k
  have ht9 := hB.1
  obtain ⟨hq1, hq2, -⟩ := id htq
  refine mm_Cv_of (fun Q hq => ?_)
  refine mm_begin (ls := [(0, .ref 176), (1, .int (nI (x)))]) (Nat.le_of_ble_eq_true rfl) rfl rfl ?_
  by_cases c : ok = true ∧ bn < 4 ∧ tK T t k = 123
  · rw [c_op_y c] at hq
    obtain ⟨rfl, c2, c3⟩ := c
    have hlt := WR_lt hWR hk (by omega) (by omega)
    refine mm_aload_n 0 dX2_openBlock_0 rfl rfl ?_
    refine mm_geti dX2_openBlock_1 rfl fk_X2_62 rfl so_176 ?_
    refine mm_top (v := -1) rfl ?_
    refine mm_if_ge (tgt := 48) dX2_openBlock_4 (by decide) (fun q => absurd q (by decide)) (fun _ => ?_)
    refine mm_aload_n 0 dX2_openBlock_7 rfl rfl ?_
    refine mm_getr (b := 189) dX2_openBlock_8 rfl fk_X2_32 rfl so_176 sr_176_2 ?_
    refine mm_cV0i (dz := d - 1) dX2_openBlock_11 rfl mzX5_size ml_X2_69 imX5_size (by omega) so_189 ⟨rfl, rfl⟩ (ct_size rw_189) (Nat.le_of_ble_eq_true rfl) ⟨Nat.le_refl _, Nat.le_refl _⟩ ?_
    refine mm_top (v := nI (bn)) rfl ?_
    refine mm_iconst (v := 4) dX2_openBlock_14 rfl ?_
    refine mm_icmp_geN (bn) (4) (tgt := 48) dX2_openBlock_15 (by decide) (by omega) (by omega) (fun c15 => ?_) (fun c15 => ?_)
    · first | omega | exact absurd (hrg.2.2.2.2.2.1.mpr c3) c24
    · refine mm_aload_n 0 dX2_openBlock_18 rfl rfl ?_
      refine mm_geti dX2_openBlock_19 rfl fk_X2_59 rfl so_176 ?_
      refine mm_top (v := ckd (tK T t k)) rfl ?_
      refine mm_bipush (v := 123) dX2_openBlock_22 rfl ?_
      refine mm_icmp_ne (tgt := 48) dX2_openBlock_24 (by decide) (fun c24 => ?_) (fun c24 => ?_)
      · first | omega | exact absurd (hrg.2.2.2.2.2.1.mpr c3) c24
      · refine mm_aload_n 0 dX2_openBlock_27 rfl rfl ?_
        refine mm_cV0v (dz := d - 1) dX2_openBlock_28 rfl mzX2_advance ml_X2_82 imX2_advance (by omega) so_176 ⟨rfl, rfl⟩ (cp_adv hB hWR (by omega) (by omega)) (Nat.le_of_ble_eq_true rfl) ⟨Nat.le_refl _, Nat.le_refl _⟩ ?_
        refine mm_aload_n 0 dX2_openBlock_31 rfl rfl ?_
        refine mm_getr (b := 189) dX2_openBlock_32 rfl fk_X2_32 rfl so_176 sr_176_2 ?_
        refine mm_iload_n 1 dX2_openBlock_35 rfl rfl ?_
        refine mm_cV1i (dz := d - 1) dX2_openBlock_36 rfl mzX5_add ml_X2_94 imX5_add (by omega) so_189 ⟨rfl, rfl⟩ (cp_addB (by omega)) (Nat.le_of_ble_eq_true rfl) ⟨Nat.le_refl _, Nat.le_refl _⟩ ?_
        refine mm_pop dX2_openBlock_39 rfl ?_
        refine mm_at (pc' := 40) rfl ?_
        refine mm_aload_n 0 dX2_openBlock_40 rfl rfl ?_
        refine mm_iconst (v := 1) dX2_openBlock_41 rfl ?_
        refine mm_putz dX2_openBlock_42 rfl fk_X2_45 rfl fv_2_3 (by decide) so_176 ?_
        refine mm_mem (J := cz I T t true (k + 1) true st Af (3 * a) Sf sn (upd Bf bn (nI (x))) (bn + 1)) cz_fr1 ?_
        refine mm_goto (tgt := 52) dX2_openBlock_45 (by decide) ?_
        refine mm_vret dX2_openBlock_52 rfl ⟨Nat.le_refl _, Nat.le_refl _⟩ ?_
        exact hq
  · rw [c_op_n c] at hq
    cases ok with
    | false =>
      refine mm_aload_n 0 dX2_openBlock_0 rfl rfl ?_
      refine mm_geti dX2_openBlock_1 rfl fk_X2_62 rfl so_176 ?_
      refine mm_top (v := nI ((tq T t k).1)) rfl ?_
      refine mm_if_geN ((tq T t k).1) (tgt := 48) dX2_openBlock_4 (by decide) (by omega) ?_
      refine mm_aload_n 0 dX2_openBlock_48 rfl rfl ?_
      refine mm_cV0v (dz := d - 1) dX2_openBlock_49 rfl mzX2_fail ml_X2_85 imX2_fail (by omega) so_176 ⟨rfl, rfl⟩ (cp_failF hB hWR (by omega)) (Nat.le_of_ble_eq_true rfl) ⟨Nat.le_refl _, Nat.le_refl _⟩ ?_
      refine mm_vret dX2_openBlock_52 rfl ⟨Nat.le_refl _, Nat.le_refl _⟩ ?_
      exact hq
    | true =>
      refine mm_aload_n 0 dX2_openBlock_0 rfl rfl ?_
      refine mm_geti dX2_openBlock_1 rfl fk_X2_62 rfl so_176 ?_
      refine mm_top (v := -1) rfl ?_
      refine mm_if_ge (tgt := 48) dX2_openBlock_4 (by decide) (fun q => absurd q (by decide)) (fun _ => ?_)
      refine mm_aload_n 0 dX2_openBlock_7 rfl rfl ?_
      refine mm_getr (b := 189) dX2_openBlock_8 rfl fk_X2_32 rfl so_176 sr_176_2 ?_
      refine mm_cV0i (dz := d - 1) dX2_openBlock_11 rfl mzX5_size ml_X2_69 imX5_size (by omega) so_189 ⟨rfl, rfl⟩ (ct_size rw_189) (Nat.le_of_ble_eq_true rfl) ⟨Nat.le_refl _, Nat.le_refl _⟩ ?_
      refine mm_top (v := nI (bn)) rfl ?_
      refine mm_iconst (v := 4) dX2_openBlock_14 rfl ?_
      refine mm_icmp_geN (bn) (4) (tgt := 48) dX2_openBlock_15 (by decide) (by omega) (by omega) (fun c15 => ?_) (fun c15 => ?_)
      · refine mm_aload_n 0 dX2_openBlock_48 rfl rfl ?_
        refine mm_cV0v (dz := d - 1) dX2_openBlock_49 rfl mzX2_fail ml_X2_85 imX2_fail (by omega) so_176 ⟨rfl, rfl⟩ (cp_fail hB hWR hk (by omega)) (Nat.le_of_ble_eq_true rfl) ⟨Nat.le_refl _, Nat.le_refl _⟩ ?_
        refine mm_vret dX2_openBlock_52 rfl ⟨Nat.le_refl _, Nat.le_refl _⟩ ?_
        exact hq
      · refine mm_aload_n 0 dX2_openBlock_18 rfl rfl ?_
        refine mm_geti dX2_openBlock_19 rfl fk_X2_59 rfl so_176 ?_
        refine mm_top (v := ckd (tK T t k)) rfl ?_
        refine mm_bipush (v := 123) dX2_openBlock_22 rfl ?_
        refine mm_icmp_ne (tgt := 48) dX2_openBlock_24 (by decide) (fun c24 => ?_) (fun c24 => ?_)
        · refine mm_aload_n 0 dX2_openBlock_48 rfl rfl ?_
          refine mm_cV0v (dz := d - 1) dX2_openBlock_49 rfl mzX2_fail ml_X2_85 imX2_fail (by omega) so_176 ⟨rfl, rfl⟩ (cp_fail hB hWR hk (by omega)) (Nat.le_of_ble_eq_true rfl) ⟨Nat.le_refl _, Nat.le_refl _⟩ ?_
          refine mm_vret dX2_openBlock_52 rfl ⟨Nat.le_refl _, Nat.le_refl _⟩ ?_
          exact hq
        · exact absurd ⟨rfl, by omega, hrg.2.2.2.2.2.1.mp c24⟩ c
