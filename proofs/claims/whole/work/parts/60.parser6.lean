/-! THE CLASS: its reader, blocks end; one statement -/
set_option maxRecDepth 100000 in
set_option maxHeartbeats 600000 in
theorem cp_close {g : mm_G} {d : Nat} {I : mm_I} {T : Nat → Int32} {t : Nat} {k : Nat} {fr : Bool} {st : Nat} {Af : Nat → Int32} {a : Nat} {Sf : Nat → Int32} {sn : Nat} {Bf : Nat → Int32} {bn : Nat} {W : Nat} (hB : tp_ok T t) (hWR : WR I T t W) {x : Nat} (hx : Bf bn = nI x) (hxa : x < a) (ha : a ≤ 38) (hk : k < W) (hbn : bn < 4) (hd : 4 ≤ d) : mm_Cv g zX2_closeBlock d [.ref 176] sh_S (cz I T t true k fr st Af (3 * a) Sf sn Bf (bn + 1)) (cZ I T t (c_cl (tK T t) (true, k, fr, st, Af, a, Sf, sn, Bf, bn + 1))) := by
  have hW := hWR.1
  have hrg := ckd_i (tK_rng (k := k + 1) hB)
  refine mm_Cv_of (fun Q hq => ?_)
  refine mm_begin (ls := [(0, .ref 176)]) (Nat.le_of_ble_eq_true rfl) rfl rfl ?_
  replace hq : Q none sh_S (cZ I T t (if Af (vv (Bf (bn + 1 - 1)) * 3) = 3 ∧ tK T t (k + 1) = 403 then c_op (tK T t) a (true, k + 1 + 1, fr, st, al (a3 Af a 12 0 0) (a + 1) (vv (Bf (bn + 1 - 1))), a + 1, Sf, sn, Bf, bn + 1 - 1)
    else if Af (vv (Bf (bn + 1 - 1)) * 3) = 4 ∨ Af (vv (Bf (bn + 1 - 1)) * 3) = 5 then (true, k + 1, fr, st, al (a3 Af a 12 0 (Bf (bn + 1 - 1))) (a + 1) (vv (Bf (bn + 1 - 1))), a + 1, Sf, sn, Bf, bn + 1 - 1)
    else (true, k + 1, fr, st, al Af a (vv (Bf (bn + 1 - 1))), a, Sf, sn, Bf, bn + 1 - 1))) := hq
  rw [show bn + 1 - 1 = bn from rfl, hx, vv_nI (by omega)] at hq
  refine mm_aload_n 0 dX2_closeBlock_0 rfl rfl ?_
  refine mm_cV0v (dz := d - 1) dX2_closeBlock_1 rfl mzX2_advance ml_X2_82 imX2_advance (by omega) so_176 ⟨rfl, rfl⟩ (cp_adv hB hWR (by omega) (by omega)) (Nat.le_of_ble_eq_true rfl) ⟨Nat.le_refl _, Nat.le_refl _⟩ ?_
  refine mm_aload_n 0 dX2_closeBlock_4 rfl rfl ?_
  refine mm_getr (b := 189) dX2_closeBlock_5 rfl fk_X2_32 rfl so_176 sr_176_2 ?_
  refine mm_cV0i (dz := d - 1) dX2_closeBlock_8 rfl mzX5_pop ml_X2_98 imX5_pop (by omega) so_189 ⟨rfl, rfl⟩ (cp_popB (by omega) (by omega)) (Nat.le_of_ble_eq_true rfl) ⟨Nat.le_refl _, Nat.le_refl _⟩ ?_
  refine mm_top (v := nI x) hx ?_
  refine mm_istore_n (ls' := [(1, .int (nI (x))), (0, .ref 176)]) dX2_closeBlock_11 rfl (by decide) rfl ?_
  refine mm_aload_n 1 dX2_closeBlock_12 rfl rfl ?_
  refine mm_getr (b := 184) dX2_closeBlock_13 rfl fk_X2_23 rfl so_176 sr_176_1 ?_
  refine mm_at (pc' := 16) rfl ?_
  refine mm_iload_n 0 dX2_closeBlock_16 rfl rfl ?_
  refine mm_cV1i (dz := d - 1) dX2_closeBlock_17 rfl mzX4_code ml_X2_101 imX4_code (by omega) so_184 ⟨rfl, rfl⟩ (cp_code (x := x) (by omega) (by omega)) (Nat.le_of_ble_eq_true rfl) ⟨Nat.le_refl _, Nat.le_refl _⟩ ?_
  refine mm_istore_n (ls' := [(2, .int (Af (x * 3))), (1, .int (nI (x))), (0, .ref 176)]) dX2_closeBlock_20 rfl (by decide) rfl ?_
  refine mm_iload_n 0 dX2_closeBlock_21 rfl rfl ?_
  refine mm_iconst (v := 3) dX2_closeBlock_22 rfl ?_
  refine mm_icmp_ne (tgt := 65) dX2_closeBlock_23 (by decide) (fun c23 => ?_) (fun c23 => ?_)
  · refine mm_iload_n 0 dX2_closeBlock_65 rfl rfl ?_
    refine mm_iconst (v := 4) dX2_closeBlock_66 rfl ?_
    refine mm_icmp_eq (tgt := 75) dX2_closeBlock_67 (by decide) (fun c67 => ?_) (fun c67 => ?_)
    · refine mm_aload_n 2 dX2_closeBlock_75 rfl rfl ?_
      refine mm_getr (b := 184) dX2_closeBlock_76 rfl fk_X2_23 rfl so_176 sr_176_1 ?_
      refine mm_bipush (v := 12) dX2_closeBlock_79 rfl ?_
      refine mm_iconst (v := 0) dX2_closeBlock_81 rfl ?_
      refine mm_iload_n 1 dX2_closeBlock_82 rfl rfl ?_
      refine mm_cV3i (dz := d - 1) dX2_closeBlock_83 rfl mzX4_addAct ml_X2_104 imX4_addAct (by omega) so_184 ⟨rfl, rfl⟩ (cp_act (a := a) (by omega) (by omega)) (Nat.le_of_ble_eq_true rfl) ⟨Nat.le_refl _, Nat.le_refl _⟩ ?_
      refine mm_pop dX2_closeBlock_86 rfl ?_
      refine mm_aload_n 2 dX2_closeBlock_87 rfl rfl ?_
      refine mm_at (pc' := 88) rfl ?_
      refine mm_getr (b := 184) dX2_closeBlock_88 rfl fk_X2_23 rfl so_176 sr_176_1 ?_
      refine mm_iload_n 1 dX2_closeBlock_91 rfl rfl ?_
      refine mm_cV1v (dz := d - 1) dX2_closeBlock_92 rfl mzX4_leadPast ml_X2_108 imX4_leadPast (by omega) so_184 ⟨rfl, rfl⟩ (cp_lead (a := a + 1) (x := x) (by omega) (by omega) (by omega)) (Nat.le_of_ble_eq_true rfl) ⟨Nat.le_refl _, Nat.le_refl _⟩ ?_
      refine mm_vret dX2_closeBlock_95 rfl ⟨Nat.le_refl _, Nat.le_refl _⟩ ?_
      rw [if_neg (by rintro ⟨q1, q2⟩; first | exact c23 q1 | exact c32 (hrg.2.2.2.2.2.2.2.2.mpr q2)), if_pos (by first | exact Or.inl c67 | exact Or.inr c72)] at hq
      exact hq
    · refine mm_iload_n 0 dX2_closeBlock_70 rfl rfl ?_
      refine mm_iconst (v := 5) dX2_closeBlock_71 rfl ?_
      refine mm_icmp_ne (tgt := 87) dX2_closeBlock_72 (by decide) (fun c72 => ?_) (fun c72 => ?_)
      · refine mm_aload_n 2 dX2_closeBlock_87 rfl rfl ?_
        refine mm_getr (b := 184) dX2_closeBlock_88 rfl fk_X2_23 rfl so_176 sr_176_1 ?_
        refine mm_iload_n 1 dX2_closeBlock_91 rfl rfl ?_
        refine mm_cV1v (dz := d - 1) dX2_closeBlock_92 rfl mzX4_leadPast ml_X2_108 imX4_leadPast (by omega) so_184 ⟨rfl, rfl⟩ (cp_lead (a := a) (x := x) (by omega) (by omega) (by omega)) (Nat.le_of_ble_eq_true rfl) ⟨Nat.le_refl _, Nat.le_refl _⟩ ?_
        refine mm_vret dX2_closeBlock_95 rfl ⟨Nat.le_refl _, Nat.le_refl _⟩ ?_
        rw [if_neg (by rintro ⟨q1, q2⟩; first | exact c23 q1 | exact c32 (hrg.2.2.2.2.2.2.2.2.mpr q2)), if_neg (by rintro (q | q); exact c67 q; exact c72 q)] at hq
        exact hq
      · refine mm_aload_n 2 dX2_closeBlock_75 rfl rfl ?_
        refine mm_getr (b := 184) dX2_closeBlock_76 rfl fk_X2_23 rfl so_176 sr_176_1 ?_
        refine mm_bipush (v := 12) dX2_closeBlock_79 rfl ?_
        refine mm_iconst (v := 0) dX2_closeBlock_81 rfl ?_
        refine mm_iload_n 1 dX2_closeBlock_82 rfl rfl ?_
        refine mm_cV3i (dz := d - 1) dX2_closeBlock_83 rfl mzX4_addAct ml_X2_104 imX4_addAct (by omega) so_184 ⟨rfl, rfl⟩ (cp_act (a := a) (by omega) (by omega)) (Nat.le_of_ble_eq_true rfl) ⟨Nat.le_refl _, Nat.le_refl _⟩ ?_
        refine mm_pop dX2_closeBlock_86 rfl ?_
        refine mm_at (pc' := 87) rfl ?_
        refine mm_aload_n 2 dX2_closeBlock_87 rfl rfl ?_
        refine mm_getr (b := 184) dX2_closeBlock_88 rfl fk_X2_23 rfl so_176 sr_176_1 ?_
        refine mm_iload_n 1 dX2_closeBlock_91 rfl rfl ?_
        refine mm_cV1v (dz := d - 1) dX2_closeBlock_92 rfl mzX4_leadPast ml_X2_108 imX4_leadPast (by omega) so_184 ⟨rfl, rfl⟩ (cp_lead (a := a + 1) (x := x) (by omega) (by omega) (by omega)) (Nat.le_of_ble_eq_true rfl) ⟨Nat.le_refl _, Nat.le_refl _⟩ ?_
        refine mm_vret dX2_closeBlock_95 rfl ⟨Nat.le_refl _, Nat.le_refl _⟩ ?_
        rw [if_neg (by rintro ⟨q1, q2⟩; first | exact c23 q1 | exact c32 (hrg.2.2.2.2.2.2.2.2.mpr q2)), if_pos (by first | exact Or.inl c67 | exact Or.inr c72)] at hq
        exact hq
  · refine mm_aload_n 2 dX2_closeBlock_26 rfl rfl ?_
    refine mm_geti dX2_closeBlock_27 rfl fk_X2_59 rfl so_176 ?_
    refine mm_top (v := ckd (tK T t (k + 1))) rfl ?_
    refine mm_bipush (v := -104) dX2_closeBlock_30 rfl ?_
    refine mm_icmp_ne (tgt := 65) dX2_closeBlock_32 (by decide) (fun c32 => ?_) (fun c32 => ?_)
    · refine mm_iload_n 0 dX2_closeBlock_65 rfl rfl ?_
      refine mm_iconst (v := 4) dX2_closeBlock_66 rfl ?_
      refine mm_icmp_eq (tgt := 75) dX2_closeBlock_67 (by decide) (fun c67 => ?_) (fun c67 => ?_)
      · refine mm_aload_n 2 dX2_closeBlock_75 rfl rfl ?_
        refine mm_getr (b := 184) dX2_closeBlock_76 rfl fk_X2_23 rfl so_176 sr_176_1 ?_
        refine mm_bipush (v := 12) dX2_closeBlock_79 rfl ?_
        refine mm_iconst (v := 0) dX2_closeBlock_81 rfl ?_
        refine mm_iload_n 1 dX2_closeBlock_82 rfl rfl ?_
        refine mm_cV3i (dz := d - 1) dX2_closeBlock_83 rfl mzX4_addAct ml_X2_104 imX4_addAct (by omega) so_184 ⟨rfl, rfl⟩ (cp_act (a := a) (by omega) (by omega)) (Nat.le_of_ble_eq_true rfl) ⟨Nat.le_refl _, Nat.le_refl _⟩ ?_
        refine mm_pop dX2_closeBlock_86 rfl ?_
        refine mm_aload_n 2 dX2_closeBlock_87 rfl rfl ?_
        refine mm_at (pc' := 88) rfl ?_
        refine mm_getr (b := 184) dX2_closeBlock_88 rfl fk_X2_23 rfl so_176 sr_176_1 ?_
        refine mm_iload_n 1 dX2_closeBlock_91 rfl rfl ?_
        refine mm_cV1v (dz := d - 1) dX2_closeBlock_92 rfl mzX4_leadPast ml_X2_108 imX4_leadPast (by omega) so_184 ⟨rfl, rfl⟩ (cp_lead (a := a + 1) (x := x) (by omega) (by omega) (by omega)) (Nat.le_of_ble_eq_true rfl) ⟨Nat.le_refl _, Nat.le_refl _⟩ ?_
        refine mm_vret dX2_closeBlock_95 rfl ⟨Nat.le_refl _, Nat.le_refl _⟩ ?_
        rw [if_neg (by rintro ⟨q1, q2⟩; first | exact c23 q1 | exact c32 (hrg.2.2.2.2.2.2.2.2.mpr q2)), if_pos (by first | exact Or.inl c67 | exact Or.inr c72)] at hq
        exact hq
      · refine mm_iload_n 0 dX2_closeBlock_70 rfl rfl ?_
        refine mm_iconst (v := 5) dX2_closeBlock_71 rfl ?_
        refine mm_icmp_ne (tgt := 87) dX2_closeBlock_72 (by decide) (fun c72 => ?_) (fun c72 => ?_)
        · refine mm_aload_n 2 dX2_closeBlock_87 rfl rfl ?_
          refine mm_getr (b := 184) dX2_closeBlock_88 rfl fk_X2_23 rfl so_176 sr_176_1 ?_
          refine mm_iload_n 1 dX2_closeBlock_91 rfl rfl ?_
          refine mm_cV1v (dz := d - 1) dX2_closeBlock_92 rfl mzX4_leadPast ml_X2_108 imX4_leadPast (by omega) so_184 ⟨rfl, rfl⟩ (cp_lead (a := a) (x := x) (by omega) (by omega) (by omega)) (Nat.le_of_ble_eq_true rfl) ⟨Nat.le_refl _, Nat.le_refl _⟩ ?_
          refine mm_vret dX2_closeBlock_95 rfl ⟨Nat.le_refl _, Nat.le_refl _⟩ ?_
          rw [if_neg (by rintro ⟨q1, q2⟩; first | exact c23 q1 | exact c32 (hrg.2.2.2.2.2.2.2.2.mpr q2)), if_neg (by rintro (q | q); exact c67 q; exact c72 q)] at hq
          exact hq
        · refine mm_aload_n 2 dX2_closeBlock_75 rfl rfl ?_
          refine mm_getr (b := 184) dX2_closeBlock_76 rfl fk_X2_23 rfl so_176 sr_176_1 ?_
          refine mm_bipush (v := 12) dX2_closeBlock_79 rfl ?_
          refine mm_iconst (v := 0) dX2_closeBlock_81 rfl ?_
          refine mm_iload_n 1 dX2_closeBlock_82 rfl rfl ?_
          refine mm_cV3i (dz := d - 1) dX2_closeBlock_83 rfl mzX4_addAct ml_X2_104 imX4_addAct (by omega) so_184 ⟨rfl, rfl⟩ (cp_act (a := a) (by omega) (by omega)) (Nat.le_of_ble_eq_true rfl) ⟨Nat.le_refl _, Nat.le_refl _⟩ ?_
          refine mm_pop dX2_closeBlock_86 rfl ?_
          refine mm_at (pc' := 87) rfl ?_
          refine mm_aload_n 2 dX2_closeBlock_87 rfl rfl ?_
          refine mm_getr (b := 184) dX2_closeBlock_88 rfl fk_X2_23 rfl so_176 sr_176_1 ?_
          refine mm_iload_n 1 dX2_closeBlock_91 rfl rfl ?_
          refine mm_cV1v (dz := d - 1) dX2_closeBlock_92 rfl mzX4_leadPast ml_X2_108 imX4_leadPast (by omega) so_184 ⟨rfl, rfl⟩ (cp_lead (a := a + 1) (x := x) (by omega) (by omega) (by omega)) (Nat.le_of_ble_eq_true rfl) ⟨Nat.le_refl _, Nat.le_refl _⟩ ?_
          refine mm_vret dX2_closeBlock_95 rfl ⟨Nat.le_refl _, Nat.le_refl _⟩ ?_
          rw [if_neg (by rintro ⟨q1, q2⟩; first | exact c23 q1 | exact c32 (hrg.2.2.2.2.2.2.2.2.mpr q2)), if_pos (by first | exact Or.inl c67 | exact Or.inr c72)] at hq
          exact hq
    · refine mm_aload_n 2 dX2_closeBlock_35 rfl rfl ?_
      have hlt2 := WR_lt hWR (k := k + 1) (by omega) (by have := hrg.2.2.2.2.2.2.2.2.mp c32; omega) (by have := hrg.2.2.2.2.2.2.2.2.mp c32; omega)
      refine mm_cV0v (dz := d - 1) dX2_closeBlock_36 rfl mzX2_advance ml_X2_82 imX2_advance (by omega) so_176 ⟨rfl, rfl⟩ (cp_adv hB hWR hlt2 (by omega)) (Nat.le_of_ble_eq_true rfl) ⟨Nat.le_refl _, Nat.le_refl _⟩ ?_
      refine mm_aload_n 2 dX2_closeBlock_39 rfl rfl ?_
      refine mm_getr (b := 184) dX2_closeBlock_40 rfl fk_X2_23 rfl so_176 sr_176_1 ?_
      refine mm_bipush (v := 12) dX2_closeBlock_43 rfl ?_
      refine mm_iconst (v := 0) dX2_closeBlock_45 rfl ?_
      refine mm_iconst (v := 0) dX2_closeBlock_46 rfl ?_
      refine mm_at (pc' := 47) rfl ?_
      refine mm_cV3i (dz := d - 1) dX2_closeBlock_47 rfl mzX4_addAct ml_X2_104 imX4_addAct (by omega) so_184 ⟨rfl, rfl⟩ (cp_act (a := a) (by omega) (by omega)) (Nat.le_of_ble_eq_true rfl) ⟨Nat.le_refl _, Nat.le_refl _⟩ ?_
      refine mm_istore_n (ls' := [(3, .int (nI (a))), (2, .int (Af (x * 3))), (1, .int (nI (x))), (0, .ref 176)]) dX2_closeBlock_50 rfl (by decide) rfl ?_
      refine mm_aload_n 3 dX2_closeBlock_51 rfl rfl ?_
      refine mm_getr (b := 184) dX2_closeBlock_52 rfl fk_X2_23 rfl so_176 sr_176_1 ?_
      refine mm_iload_n 2 dX2_closeBlock_55 rfl rfl ?_
      refine mm_cV1v (dz := d - 1) dX2_closeBlock_56 rfl mzX4_leadPast ml_X2_108 imX4_leadPast (by omega) so_184 ⟨rfl, rfl⟩ (cp_lead (a := a + 1) (x := x) (by omega) (by omega) (by omega)) (Nat.le_of_ble_eq_true rfl) ⟨Nat.le_refl _, Nat.le_refl _⟩ ?_
      refine mm_aload_n 3 dX2_closeBlock_59 rfl rfl ?_
      refine mm_iload_n 0 dX2_closeBlock_60 rfl rfl ?_
      refine mm_at (pc' := 61) rfl ?_
      refine mm_cV1v (dz := d - 1) dX2_closeBlock_61 rfl mzX2_openBlock ml_X2_111 imX2_openBlock (by omega) so_176 ⟨rfl, rfl⟩ (cp_open (a := a + 1) hB hWR (by omega) (by omega) (by omega)) (Nat.le_of_ble_eq_true rfl) ⟨Nat.le_refl _, Nat.le_refl _⟩ ?_
      refine mm_vret dX2_closeBlock_64 rfl ⟨Nat.le_refl _, Nat.le_refl _⟩ ?_
      rw [if_pos ⟨c23, hrg.2.2.2.2.2.2.2.2.mp c32⟩] at hq
      exact hq
set_option maxRecDepth 100000 in
set_option maxHeartbeats 600000 in
theorem cp_test {g : mm_G} {d : Nat} {I : mm_I} {T : Nat → Int32} {t : Nat} {k : Nat} {fr : Bool} {st : Nat} {Af : Nat → Int32} {a : Nat} {Sf : Nat → Int32} {sn : Nat} {Bf : Nat → Int32} {bn : Nat} {W : Nat} (hB : tp_ok T t) (hWR : WR I T t W) (hk : k ≤ W) (hl : sn + 1 ≤ k) (hd : 147 ≤ d) : mm_Ci g zX2_readTest d [.ref 176] sh_S (cz I T t true k fr st Af (3 * a) Sf sn Bf bn) (nI sn) (cz I T t ((px (tK T t) (tV T t) 70 0 0 0 k).1) ((px (tK T t) (tV T t) 70 0 0 0 k).2.1) fr st Af (3 * a) (upd (apl Sf sn (px (tK T t) (tV T t) 70 0 0 0 k).2.2) (sn + (px (tK T t) (tV T t) 70 0 0 0 k).2.2.length) (-1)) (sn + (px (tK T t) (tV T t) 70 0 0 0 k).2.2.length + 1) Bf bn) := by
  have hW := hWR.1
  have hg := px_good (K := tK T t) (V := tV T t) 70 0 0 0 k
  have hle := px_W (F := 70) (l := 0) (pr := 0) (ns := 0) hWR hk
  obtain ⟨g1, g2, g3, g4⟩ := hg
  refine mm_Ci_of (fun Q hq => ?_)
  refine mm_begin (ls := [(0, .ref 176)]) (Nat.le_of_ble_eq_true rfl) rfl rfl ?_
  refine mm_aload_n 0 dX2_readTest_0 rfl rfl ?_
  refine mm_getr (b := 184) dX2_readTest_1 rfl fk_X2_23 rfl so_176 sr_176_1 ?_
  refine mm_getr (b := 187) dX2_readTest_4 rfl fk_X2_126 rfl so_184 sr_184_1 ?_
  refine mm_cV0i (dz := d - 1) dX2_readTest_7 rfl mzX5_size ml_X2_69 imX5_size (by omega) so_187 ⟨rfl, rfl⟩ (ct_size rw_187) (Nat.le_of_ble_eq_true rfl) ⟨Nat.le_refl _, Nat.le_refl _⟩ ?_
  refine mm_top (v := nI (sn)) rfl ?_
  refine mm_istore_n (ls' := [(1, .int (nI (sn))), (0, .ref 176)]) dX2_readTest_10 rfl (by decide) rfl ?_
  refine mm_aload_n 1 dX2_readTest_11 rfl rfl ?_
  refine mm_iconst (v := 0) dX2_readTest_12 rfl ?_
  refine mm_iconst (v := 0) dX2_readTest_13 rfl ?_
  refine mm_at (pc' := 14) rfl ?_
  refine mm_iconst (v := 0) dX2_readTest_14 rfl ?_
  refine mm_cV3v (dz := d - 1) dX2_readTest_15 rfl mzX2_readSides ml_X2_129 imX2_readSides (by omega) so_176 ⟨rfl, rfl⟩ ((cp_px hB hWR 70 0 0 (by decide) (by decide)).2 0 (by decide) (by decide) k Sf sn (d - 1) (by omega) hk (by omega)) (Nat.le_of_ble_eq_true rfl) ⟨Nat.le_refl _, Nat.le_refl _⟩ ?_
  refine mm_aload_n 1 dX2_readTest_18 rfl rfl ?_
  refine mm_getr (b := 184) dX2_readTest_19 rfl fk_X2_23 rfl so_176 sr_176_1 ?_
  refine mm_getr (b := 187) dX2_readTest_22 rfl fk_X2_126 rfl so_184 sr_184_1 ?_
  refine mm_iconst (v := -1) dX2_readTest_25 rfl ?_
  refine mm_cV1i (dz := d - 1) dX2_readTest_26 rfl mzX5_add ml_X2_94 imX5_add (by omega) so_187 ⟨rfl, rfl⟩ (cp_addS (by omega)) (Nat.le_of_ble_eq_true rfl) ⟨Nat.le_refl _, Nat.le_refl _⟩ ?_
  refine mm_pop dX2_readTest_29 rfl ?_
  refine mm_at (pc' := 30) rfl ?_
  refine mm_iload_n 0 dX2_readTest_30 rfl rfl ?_
  refine mm_iret dX2_readTest_31 rfl ⟨Nat.le_refl _, Nat.le_refl _⟩ ?_
  exact hq
theorem rd_W {I : mm_I} {T : Nat → Int32} {t W k c : Nat} {b : Bool} (hWR : WR I T t W) (hk : k ≤ W) (hc : ¬ c = 400 ∧ ¬ c = 404) : (rd_ (tK T t) c b k).2 ≤ W ∧ k ≤ (rd_ (tK T t) c b k).2 := by
  unfold rd_
  by_cases h : b = true ∧ tK T t k = c
  · rw [if_pos h]
    have := WR_lt hWR hk (by rw [h.2]; exact hc.1) (by rw [h.2]; exact hc.2)
    exact ⟨this, Nat.le_succ _⟩
  · rw [if_neg h]; exact ⟨hk, Nat.le_refl _⟩
set_option maxRecDepth 100000 in
set_option maxHeartbeats 600000 in
theorem cp_go {g : mm_G} {d : Nat} {I : mm_I} {T : Nat → Int32} {t : Nat} {ok : Bool} {k : Nat} {fr : Bool} {st : Nat} {Af : Nat → Int32} {a : Nat} {Sf : Nat → Int32} {sn : Nat} {Bf : Nat → Int32} {bn : Nat} {W : Nat} (hB : tp_ok T t) (hWR : WR I T t W) (hk : k ≤ W) (ha : a ≤ 38) (hd : 4 ≤ d) : mm_Cv g zX2_readGo d [.ref 176] sh_S (cz I T t ok k fr st Af (3 * a) Sf sn Bf bn) (cz I T t ((rd_ (tK T t) 401 (rd_ (tK T t) 401 ok k).1 (rd_ (tK T t) 401 ok k).2).1) ((rd_ (tK T t) 401 (rd_ (tK T t) 401 ok k).1 (rd_ (tK T t) 401 ok k).2).2) fr st (a3 Af a 1 (cv T t (tq T t k)) (cv T t (tq T t (rd_ (tK T t) 401 ok k).2))) (3 * (a + 1)) Sf sn Bf bn) := by
  have hw1 := rd_W (b := ok) (c := 401) hWR hk ⟨by decide, by decide⟩
  refine mm_Cv_of (fun Q hq => ?_)
  refine mm_begin (ls := [(0, .ref 176)]) (Nat.le_of_ble_eq_true rfl) rfl rfl ?_
  refine mm_aload_n 0 dX2_readGo_0 rfl rfl ?_
  refine mm_cV0i (dz := d - 1) dX2_readGo_1 rfl mzX2_readNumber ml_X2_123 imX2_readNumber (by omega) so_176 ⟨rfl, rfl⟩ (cp_num hB hWR hk (by omega)) (Nat.le_of_ble_eq_true rfl) ⟨Nat.le_refl _, Nat.le_refl _⟩ ?_
  refine mm_istore_n (ls' := [(1, .int (cv T t (tq T t k))), (0, .ref 176)]) dX2_readGo_4 rfl (by decide) rfl ?_
  refine mm_aload_n 1 dX2_readGo_5 rfl rfl ?_
  refine mm_cV0i (dz := d - 1) dX2_readGo_6 rfl mzX2_readNumber ml_X2_123 imX2_readNumber (by omega) so_176 ⟨rfl, rfl⟩ (cp_num hB hWR hw1.1 (by omega)) (Nat.le_of_ble_eq_true rfl) ⟨Nat.le_refl _, Nat.le_refl _⟩ ?_
  refine mm_istore_n (ls' := [(2, .int (cv T t (tq T t (rd_ (tK T t) 401 ok k).2))), (1, .int (cv T t (tq T t k))), (0, .ref 176)]) dX2_readGo_9 rfl (by decide) rfl ?_
  refine mm_aload_n 2 dX2_readGo_10 rfl rfl ?_
  refine mm_getr (b := 184) dX2_readGo_11 rfl fk_X2_23 rfl so_176 sr_176_1 ?_
  refine mm_at (pc' := 14) rfl ?_
  refine mm_iconst (v := 1) dX2_readGo_14 rfl ?_
  refine mm_iload_n 1 dX2_readGo_15 rfl rfl ?_
  refine mm_iload_n 0 dX2_readGo_16 rfl rfl ?_
  refine mm_cV3i (dz := d - 1) dX2_readGo_17 rfl mzX4_addAct ml_X2_104 imX4_addAct (by omega) so_184 ⟨rfl, rfl⟩ (cp_act (a := a) (by omega) (by omega)) (Nat.le_of_ble_eq_true rfl) ⟨Nat.le_refl _, Nat.le_refl _⟩ ?_
  refine mm_pop dX2_readGo_20 rfl ?_
  refine mm_vret dX2_readGo_21 rfl ⟨Nat.le_refl _, Nat.le_refl _⟩ ?_
  exact hq
