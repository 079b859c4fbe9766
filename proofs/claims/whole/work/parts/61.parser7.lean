/-! THE CLASS: its reader, one statement; the loop -/
def c_ex (T : Nat → Int32) (t : Nat) (Af' : Nat → Int32) (x : Nat) : cS → cS
  | (ok, k, fr, st, _, a, Sf, sn, Bf, bn) => ((px (tK T t) (tV T t) 70 0 0 0 k).1, (px (tK T t) (tV T t) 70 0 0 0 k).2.1, fr, st, Af', a + x, upd (apl Sf sn (px (tK T t) (tV T t) 70 0 0 0 k).2.2) (sn + (px (tK T t) (tV T t) 70 0 0 0 k).2.2.length) (-1), sn + (px (tK T t) (tV T t) 70 0 0 0 k).2.2.length + 1, Bf, bn)
def c_o (T : Nat → Int32) (t o : Nat) : cS → cS
  | (ok, k, fr, st, Af, a, Sf, sn, Bf, bn) =>
    if o = 0 then ((rd_ (tK T t) 401 (rd_ (tK T t) 401 ok k).1 (rd_ (tK T t) 401 ok k).2).1, (rd_ (tK T t) 401 (rd_ (tK T t) 401 ok k).1 (rd_ (tK T t) 401 ok k).2).2, fr, st, a3 Af a 1 (cv T t (tq T t k)) (cv T t (tq T t (rd_ (tK T t) 401 ok k).2)), a + 1, Sf, sn, Bf, bn)
    else if o = 10 then c_op (tK T t) (a + 1) ((rd_ (tK T t) 401 ok k).1, (rd_ (tK T t) 401 ok k).2, fr, st, a3 (a3 Af a 13 (nI bn) (cv T t (tq T t k))) (a + 1) 5 (nI bn) 0, a + 1 + 1, Sf, sn, Bf, bn)
    else if o = 7 then c_ex T t (a3 Af a 2 (nI sn) 0) 1 (ok, k, fr, st, Af, a, Sf, sn, Bf, bn)
    else if o = 8 then c_op (tK T t) a (c_ex T t (a3 Af a 3 (nI sn) 0) 1 (ok, k, fr, st, Af, a, Sf, sn, Bf, bn))
    else if o = 9 then c_op (tK T t) a (c_ex T t (a3 Af a 4 (nI sn) 0) 1 (ok, k, fr, st, Af, a, Sf, sn, Bf, bn))
    else (ok, k, fr, st, a3 Af a (cc_ o) 0 0, a + 1, Sf, sn, Bf, bn)
def c_on (T : Nat → Int32) (t : Nat) : cS → cS
  | (ok, k, fr, st, Af, a, Sf, sn, Bf, bn) => if isW (tK T t k) then c_o T t (tK T t k - 300) (true, k + 1, false, st + 1, Af, a, Sf, sn, Bf, bn) else (false, k, fr, st, Af, a, Sf, sn, Bf, bn)
theorem ckd_w {o : Nat} (h : o < 11) : - ckd (300 + o) = cc_ o := by
  have hh : ∀ o, o < 11 → - ckd (300 + o) = cc_ o := by decide +kernel
  exact hh o h
theorem cc_s {o : Nat} (h : 1 ≤ o ∧ o ≤ 6) : cc_ o = nI (o + 5) := by
  have hh : ∀ o, o < 7 → 1 ≤ o → cc_ o = nI (o + 5) := by decide +kernel
  exact hh o (by omega) h.1
theorem ckd_nw {x : Nat} (h : rng x) (h2 : ¬ isW x) : - ckd x < 1 ∨ 11 < - ckd x := by
  have hh : ∀ x, x < 405 → rng x → ¬ isW x → (- ckd x < 1 ∨ 11 < - ckd x) := by decide +kernel
  exact hh x (by unfold rng at h; omega) h h2
set_option maxRecDepth 100000 in
set_option maxHeartbeats 600000 in
theorem cp_one {g : mm_G} {d : Nat} {I : mm_I} {T : Nat → Int32} {t : Nat} {k : Nat} {fr : Bool} {st : Nat} {Af : Nat → Int32} {a : Nat} {Sf : Nat → Int32} {sn : Nat} {Bf : Nat → Int32} {bn : Nat} {W : Nat} (hB : tp_ok T t) (hWR : WR I T t W) (hk : k ≤ W) (hl : sn ≤ k) (hbn : bn ≤ 4) (ha : a ≤ 38) (hd : 150 ≤ d) : mm_Cv g zX2_readOne d [.ref 176] sh_S (cz I T t true k fr st Af (3 * a) Sf sn Bf bn) (cZ I T t (c_on T t (true, k, fr, st, Af, a, Sf, sn, Bf, bn))) := by
  have hW := hWR.1
  refine mm_Cv_of (fun Q hq => ?_)
  refine mm_begin (ls := [(0, .ref 176)]) (Nat.le_of_ble_eq_true rfl) rfl rfl ?_
  replace hq : Q none sh_S (cZ I T t (if isW (tK T t k) then c_o T t (tK T t k - 300) (true, k + 1, false, st + 1, Af, a, Sf, sn, Bf, bn) else (false, k, fr, st, Af, a, Sf, sn, Bf, bn))) := hq
  by_cases cW : isW (tK T t k)
  · rw [if_pos cW] at hq
    have hlt := WR_lt hWR hk (by omega) (by omega)
    obtain ⟨o, ho, eo⟩ : ∃ o, o < 11 ∧ tK T t k = 300 + o := ⟨tK T t k - 300, by omega, by omega⟩
    rw [eo, show 300 + o - 300 = o by omega] at hq
    have hcc := ckd_w ho
    rw [← eo] at hcc
    by_cases c0 : o = 0
    · subst c0
      refine mm_aload_n 0 dX2_readOne_0 rfl rfl ?_
      refine mm_geti dX2_readOne_1 rfl fk_X2_59 rfl so_176 ?_
      refine mm_top (v := ckd (tK T t k)) rfl ?_
      refine mm_ineg dX2_readOne_4 ?_
      refine mm_top (v := 1) hcc ?_
      refine mm_istore_n (ls' := [(1, .int (1)), (0, .ref 176)]) dX2_readOne_5 rfl (by decide) rfl ?_
      refine mm_iload_n 0 dX2_readOne_6 rfl rfl ?_
      refine mm_iconst (v := 1) dX2_readOne_7 rfl ?_
      refine mm_icmp_lt (tgt := 17) dX2_readOne_8 (by decide) (fun q => absurd q (by decide)) (fun _ => ?_)
      refine mm_iload_n 0 dX2_readOne_11 rfl rfl ?_
      refine mm_bipush (v := 11) dX2_readOne_12 rfl ?_
      refine mm_icmp_le (tgt := 22) dX2_readOne_14 (by decide) (fun _ => ?_) (fun q => absurd (by decide) q)
      refine mm_aload_n 1 dX2_readOne_22 rfl rfl ?_
      refine mm_getr (b := 184) dX2_readOne_23 rfl fk_X2_23 rfl so_176 sr_176_1 ?_
      refine mm_dup dX2_readOne_26 rfl ?_
      refine mm_geti dX2_readOne_27 rfl fk_X2_114 rfl so_184 ?_
      refine mm_top (v := nI (st)) rfl ?_
      refine mm_iconst (v := 1) dX2_readOne_30 rfl ?_
      refine mm_iaddN (st) (1) dX2_readOne_31 ?_
      refine mm_puti dX2_readOne_32 rfl fk_X2_114 rfl fv_4_2 so_184 ?_
      refine mm_mem (J := cz I T t true k fr (st + 1) Af (3 * a) Sf sn Bf bn) cz_st ?_
      refine mm_aload_n 1 dX2_readOne_35 rfl rfl ?_
      refine mm_at (pc' := 36) rfl ?_
      refine mm_iconst (v := 0) dX2_readOne_36 rfl ?_
      refine mm_putz dX2_readOne_37 rfl fk_X2_45 rfl fv_2_3 (by decide) so_176 ?_
      refine mm_mem (J := cz I T t true k false (st + 1) Af (3 * a) Sf sn Bf bn) cz_fr0 ?_
      refine mm_aload_n 1 dX2_readOne_40 rfl rfl ?_
      refine mm_cV0v (dz := d - 1) dX2_readOne_41 rfl mzX2_advance ml_X2_82 imX2_advance (by omega) so_176 ⟨rfl, rfl⟩ (cp_adv hB hWR (by omega) (by omega)) (Nat.le_of_ble_eq_true rfl) ⟨Nat.le_refl _, Nat.le_refl _⟩ ?_
      refine mm_iload_n 0 dX2_readOne_44 rfl rfl ?_
      refine mm_tabIn (1) (tgt := 80) dX2_readOne_45 rfl (by decide) (by decide) rfl (by decide) ?_
      refine mm_aload_n 1 dX2_readOne_80 rfl rfl ?_
      refine mm_cV0v (dz := d - 1) dX2_readOne_81 rfl mzX2_readGo ml_X2_117 imX2_readGo (by omega) so_176 ⟨rfl, rfl⟩ (cp_go (a := a) (k := k + 1) hB hWR (by omega) ha (by omega)) (Nat.le_of_ble_eq_true rfl) ⟨Nat.le_refl _, Nat.le_refl _⟩ ?_
      refine mm_goto (tgt := 179) dX2_readOne_84 (by decide) ?_
      refine mm_vret dX2_readOne_179 rfl ⟨Nat.le_refl _, Nat.le_refl _⟩ ?_
      exact hq
    by_cases c10 : o = 10
    · subst c10
      have hw1 := rd_W (b := true) (c := 401) (k := k + 1) hWR (by omega) ⟨by decide, by decide⟩
      refine mm_aload_n 0 dX2_readOne_0 rfl rfl ?_
      refine mm_geti dX2_readOne_1 rfl fk_X2_59 rfl so_176 ?_
      refine mm_top (v := ckd (tK T t k)) rfl ?_
      refine mm_ineg dX2_readOne_4 ?_
      refine mm_top (v := 5) hcc ?_
      refine mm_istore_n (ls' := [(1, .int (5)), (0, .ref 176)]) dX2_readOne_5 rfl (by decide) rfl ?_
      refine mm_iload_n 0 dX2_readOne_6 rfl rfl ?_
      refine mm_iconst (v := 1) dX2_readOne_7 rfl ?_
      refine mm_icmp_lt (tgt := 17) dX2_readOne_8 (by decide) (fun q => absurd q (by decide)) (fun _ => ?_)
      refine mm_iload_n 0 dX2_readOne_11 rfl rfl ?_
      refine mm_bipush (v := 11) dX2_readOne_12 rfl ?_
      refine mm_icmp_le (tgt := 22) dX2_readOne_14 (by decide) (fun _ => ?_) (fun q => absurd (by decide) q)
      refine mm_aload_n 1 dX2_readOne_22 rfl rfl ?_
      refine mm_getr (b := 184) dX2_readOne_23 rfl fk_X2_23 rfl so_176 sr_176_1 ?_
      refine mm_dup dX2_readOne_26 rfl ?_
      refine mm_geti dX2_readOne_27 rfl fk_X2_114 rfl so_184 ?_
      refine mm_top (v := nI (st)) rfl ?_
      refine mm_iconst (v := 1) dX2_readOne_30 rfl ?_
      refine mm_iaddN (st) (1) dX2_readOne_31 ?_
      refine mm_puti dX2_readOne_32 rfl fk_X2_114 rfl fv_4_2 so_184 ?_
      refine mm_mem (J := cz I T t true k fr (st + 1) Af (3 * a) Sf sn Bf bn) cz_st ?_
      refine mm_aload_n 1 dX2_readOne_35 rfl rfl ?_
      refine mm_at (pc' := 36) rfl ?_
      refine mm_iconst (v := 0) dX2_readOne_36 rfl ?_
      refine mm_putz dX2_readOne_37 rfl fk_X2_45 rfl fv_2_3 (by decide) so_176 ?_
      refine mm_mem (J := cz I T t true k false (st + 1) Af (3 * a) Sf sn Bf bn) cz_fr0 ?_
      refine mm_aload_n 1 dX2_readOne_40 rfl rfl ?_
      refine mm_cV0v (dz := d - 1) dX2_readOne_41 rfl mzX2_advance ml_X2_82 imX2_advance (by omega) so_176 ⟨rfl, rfl⟩ (cp_adv hB hWR (by omega) (by omega)) (Nat.le_of_ble_eq_true rfl) ⟨Nat.le_refl _, Nat.le_refl _⟩ ?_
      refine mm_iload_n 0 dX2_readOne_44 rfl rfl ?_
      refine mm_tabIn (5) (tgt := 124) dX2_readOne_45 rfl (by decide) (by decide) rfl (by decide) ?_
      refine mm_aload_n 1 dX2_readOne_124 rfl rfl ?_
      refine mm_getr (b := 184) dX2_readOne_125 rfl fk_X2_23 rfl so_176 sr_176_1 ?_
      refine mm_bipush (v := 13) dX2_readOne_128 rfl ?_
      refine mm_aload_n 1 dX2_readOne_130 rfl rfl ?_
      refine mm_getr (b := 189) dX2_readOne_131 rfl fk_X2_32 rfl so_176 sr_176_2 ?_
      refine mm_cV0i (dz := d - 1) dX2_readOne_134 rfl mzX5_size ml_X2_69 imX5_size (by omega) so_189 ⟨rfl, rfl⟩ (ct_size rw_189) (Nat.le_of_ble_eq_true rfl) ⟨Nat.le_refl _, Nat.le_refl _⟩ ?_
      refine mm_top (v := nI (bn)) rfl ?_
      refine mm_aload_n 1 dX2_readOne_137 rfl rfl ?_
      refine mm_cV0i (dz := d - 1) dX2_readOne_138 rfl mzX2_readNumber ml_X2_123 imX2_readNumber (by omega) so_176 ⟨rfl, rfl⟩ (cp_num (k := k + 1) hB hWR (by omega) (by omega)) (Nat.le_of_ble_eq_true rfl) ⟨Nat.le_refl _, Nat.le_refl _⟩ ?_
      refine mm_at (pc' := 141) rfl ?_
      refine mm_cV3i (dz := d - 1) dX2_readOne_141 rfl mzX4_addAct ml_X2_104 imX4_addAct (by omega) so_184 ⟨rfl, rfl⟩ (cp_act (a := a) (by omega) (by omega)) (Nat.le_of_ble_eq_true rfl) ⟨Nat.le_refl _, Nat.le_refl _⟩ ?_
      refine mm_pop dX2_readOne_144 rfl ?_
      refine mm_aload_n 1 dX2_readOne_145 rfl rfl ?_
      refine mm_aload_n 1 dX2_readOne_146 rfl rfl ?_
      refine mm_getr (b := 184) dX2_readOne_147 rfl fk_X2_23 rfl so_176 sr_176_1 ?_
      refine mm_iconst (v := 5) dX2_readOne_150 rfl ?_
      refine mm_aload_n 1 dX2_readOne_151 rfl rfl ?_
      refine mm_getr (b := 189) dX2_readOne_152 rfl fk_X2_32 rfl so_176 sr_176_2 ?_
      refine mm_at (pc' := 155) rfl ?_
      refine mm_cV0i (dz := d - 1) dX2_readOne_155 rfl mzX5_size ml_X2_69 imX5_size (by omega) so_189 ⟨rfl, rfl⟩ (ct_size rw_189) (Nat.le_of_ble_eq_true rfl) ⟨Nat.le_refl _, Nat.le_refl _⟩ ?_
      refine mm_top (v := nI (bn)) rfl ?_
      refine mm_iconst (v := 0) dX2_readOne_158 rfl ?_
      refine mm_cV3i (dz := d - 1) dX2_readOne_159 rfl mzX4_addAct ml_X2_104 imX4_addAct (by omega) so_184 ⟨rfl, rfl⟩ (cp_act (a := a + 1) (by omega) (by omega)) (Nat.le_of_ble_eq_true rfl) ⟨Nat.le_refl _, Nat.le_refl _⟩ ?_
      refine mm_cV1v (dz := d - 1) dX2_readOne_162 rfl mzX2_openBlock ml_X2_111 imX2_openBlock (by omega) so_176 ⟨rfl, rfl⟩ (cp_open (a := a + 1 + 1) hB hWR hw1.1 (by omega) (by omega)) (Nat.le_of_ble_eq_true rfl) ⟨Nat.le_refl _, Nat.le_refl _⟩ ?_
      refine mm_goto (tgt := 179) dX2_readOne_165 (by decide) ?_
      refine mm_vret dX2_readOne_179 rfl ⟨Nat.le_refl _, Nat.le_refl _⟩ ?_
      exact hq
    have hle := px_W (F := 70) (l := 0) (pr := 0) (ns := 0) (k := k + 1) hWR (by omega)
    by_cases c7 : o = 7
    · subst c7
      refine mm_aload_n 0 dX2_readOne_0 rfl rfl ?_
      refine mm_geti dX2_readOne_1 rfl fk_X2_59 rfl so_176 ?_
      refine mm_top (v := ckd (tK T t k)) rfl ?_
      refine mm_ineg dX2_readOne_4 ?_
      refine mm_top (v := 2) hcc ?_
      refine mm_istore_n (ls' := [(1, .int (2)), (0, .ref 176)]) dX2_readOne_5 rfl (by decide) rfl ?_
      refine mm_iload_n 0 dX2_readOne_6 rfl rfl ?_
      refine mm_iconst (v := 1) dX2_readOne_7 rfl ?_
      refine mm_icmp_lt (tgt := 17) dX2_readOne_8 (by decide) (fun q => absurd q (by decide)) (fun _ => ?_)
      refine mm_iload_n 0 dX2_readOne_11 rfl rfl ?_
      refine mm_bipush (v := 11) dX2_readOne_12 rfl ?_
      refine mm_icmp_le (tgt := 22) dX2_readOne_14 (by decide) (fun _ => ?_) (fun q => absurd (by decide) q)
      refine mm_aload_n 1 dX2_readOne_22 rfl rfl ?_
      refine mm_getr (b := 184) dX2_readOne_23 rfl fk_X2_23 rfl so_176 sr_176_1 ?_
      refine mm_dup dX2_readOne_26 rfl ?_
      refine mm_geti dX2_readOne_27 rfl fk_X2_114 rfl so_184 ?_
      refine mm_top (v := nI (st)) rfl ?_
      refine mm_iconst (v := 1) dX2_readOne_30 rfl ?_
      refine mm_iaddN (st) (1) dX2_readOne_31 ?_
      refine mm_puti dX2_readOne_32 rfl fk_X2_114 rfl fv_4_2 so_184 ?_
      refine mm_mem (J := cz I T t true k fr (st + 1) Af (3 * a) Sf sn Bf bn) cz_st ?_
      refine mm_aload_n 1 dX2_readOne_35 rfl rfl ?_
      refine mm_at (pc' := 36) rfl ?_
      refine mm_iconst (v := 0) dX2_readOne_36 rfl ?_
      refine mm_putz dX2_readOne_37 rfl fk_X2_45 rfl fv_2_3 (by decide) so_176 ?_
      refine mm_mem (J := cz I T t true k false (st + 1) Af (3 * a) Sf sn Bf bn) cz_fr0 ?_
      refine mm_aload_n 1 dX2_readOne_40 rfl rfl ?_
      refine mm_cV0v (dz := d - 1) dX2_readOne_41 rfl mzX2_advance ml_X2_82 imX2_advance (by omega) so_176 ⟨rfl, rfl⟩ (cp_adv hB hWR (by omega) (by omega)) (Nat.le_of_ble_eq_true rfl) ⟨Nat.le_refl _, Nat.le_refl _⟩ ?_
      refine mm_iload_n 0 dX2_readOne_44 rfl rfl ?_
      refine mm_tabIn (2) (tgt := 87) dX2_readOne_45 rfl (by decide) (by decide) rfl (by decide) ?_
      refine mm_aload_n 1 dX2_readOne_87 rfl rfl ?_
      refine mm_getr (b := 184) dX2_readOne_88 rfl fk_X2_23 rfl so_176 sr_176_1 ?_
      refine mm_iconst (v := 2) dX2_readOne_91 rfl ?_
      refine mm_aload_n 1 dX2_readOne_92 rfl rfl ?_
      refine mm_cV0i (dz := d - 1) dX2_readOne_93 rfl mzX2_readTest ml_X2_120 imX2_readTest (by omega) so_176 ⟨rfl, rfl⟩ (cp_test (k := k + 1) hB hWR (by omega) (by omega) (by omega)) (Nat.le_of_ble_eq_true rfl) ⟨Nat.le_refl _, Nat.le_refl _⟩ ?_
      refine mm_iconst (v := 0) dX2_readOne_96 rfl ?_
      refine mm_cV3i (dz := d - 1) dX2_readOne_97 rfl mzX4_addAct ml_X2_104 imX4_addAct (by omega) so_184 ⟨rfl, rfl⟩ (cp_act (a := a) (by omega) (by omega)) (Nat.le_of_ble_eq_true rfl) ⟨Nat.le_refl _, Nat.le_refl _⟩ ?_
      refine mm_pop dX2_readOne_100 rfl ?_
      refine mm_at (pc' := 101) rfl ?_
      refine mm_goto (tgt := 179) dX2_readOne_101 (by decide) ?_
      refine mm_vret dX2_readOne_179 rfl ⟨Nat.le_refl _, Nat.le_refl _⟩ ?_
      exact hq
    by_cases c8 : o = 8
    · subst c8
      refine mm_aload_n 0 dX2_readOne_0 rfl rfl ?_
      refine mm_geti dX2_readOne_1 rfl fk_X2_59 rfl so_176 ?_
      refine mm_top (v := ckd (tK T t k)) rfl ?_
      refine mm_ineg dX2_readOne_4 ?_
      refine mm_top (v := 3) hcc ?_
      refine mm_istore_n (ls' := [(1, .int (3)), (0, .ref 176)]) dX2_readOne_5 rfl (by decide) rfl ?_
      refine mm_iload_n 0 dX2_readOne_6 rfl rfl ?_
      refine mm_iconst (v := 1) dX2_readOne_7 rfl ?_
      refine mm_icmp_lt (tgt := 17) dX2_readOne_8 (by decide) (fun q => absurd q (by decide)) (fun _ => ?_)
      refine mm_iload_n 0 dX2_readOne_11 rfl rfl ?_
      refine mm_bipush (v := 11) dX2_readOne_12 rfl ?_
      refine mm_icmp_le (tgt := 22) dX2_readOne_14 (by decide) (fun _ => ?_) (fun q => absurd (by decide) q)
      refine mm_aload_n 1 dX2_readOne_22 rfl rfl ?_
      refine mm_getr (b := 184) dX2_readOne_23 rfl fk_X2_23 rfl so_176 sr_176_1 ?_
      refine mm_dup dX2_readOne_26 rfl ?_
      refine mm_geti dX2_readOne_27 rfl fk_X2_114 rfl so_184 ?_
      refine mm_top (v := nI (st)) rfl ?_
      refine mm_iconst (v := 1) dX2_readOne_30 rfl ?_
      refine mm_iaddN (st) (1) dX2_readOne_31 ?_
      refine mm_puti dX2_readOne_32 rfl fk_X2_114 rfl fv_4_2 so_184 ?_
      refine mm_mem (J := cz I T t true k fr (st + 1) Af (3 * a) Sf sn Bf bn) cz_st ?_
      refine mm_aload_n 1 dX2_readOne_35 rfl rfl ?_
      refine mm_at (pc' := 36) rfl ?_
      refine mm_iconst (v := 0) dX2_readOne_36 rfl ?_
      refine mm_putz dX2_readOne_37 rfl fk_X2_45 rfl fv_2_3 (by decide) so_176 ?_
      refine mm_mem (J := cz I T t true k false (st + 1) Af (3 * a) Sf sn Bf bn) cz_fr0 ?_
      refine mm_aload_n 1 dX2_readOne_40 rfl rfl ?_
      refine mm_cV0v (dz := d - 1) dX2_readOne_41 rfl mzX2_advance ml_X2_82 imX2_advance (by omega) so_176 ⟨rfl, rfl⟩ (cp_adv hB hWR (by omega) (by omega)) (Nat.le_of_ble_eq_true rfl) ⟨Nat.le_refl _, Nat.le_refl _⟩ ?_
      refine mm_iload_n 0 dX2_readOne_44 rfl rfl ?_
      refine mm_tabIn (3) (tgt := 104) dX2_readOne_45 rfl (by decide) (by decide) rfl (by decide) ?_
      refine mm_aload_n 1 dX2_readOne_104 rfl rfl ?_
      refine mm_aload_n 1 dX2_readOne_105 rfl rfl ?_
      refine mm_getr (b := 184) dX2_readOne_106 rfl fk_X2_23 rfl so_176 sr_176_1 ?_
      refine mm_iload_n 0 dX2_readOne_109 rfl rfl ?_
      refine mm_aload_n 1 dX2_readOne_110 rfl rfl ?_
      refine mm_cV0i (dz := d - 1) dX2_readOne_111 rfl mzX2_readTest ml_X2_120 imX2_readTest (by omega) so_176 ⟨rfl, rfl⟩ (cp_test (k := k + 1) hB hWR (by omega) (by omega) (by omega)) (Nat.le_of_ble_eq_true rfl) ⟨Nat.le_refl _, Nat.le_refl _⟩ ?_
      refine mm_iconst (v := 0) dX2_readOne_114 rfl ?_
      refine mm_cV3i (dz := d - 1) dX2_readOne_115 rfl mzX4_addAct ml_X2_104 imX4_addAct (by omega) so_184 ⟨rfl, rfl⟩ (cp_act (a := a) (by omega) (by omega)) (Nat.le_of_ble_eq_true rfl) ⟨Nat.le_refl _, Nat.le_refl _⟩ ?_
      refine mm_at (pc' := 118) rfl ?_
      refine mm_cV1v (dz := d - 1) dX2_readOne_118 rfl mzX2_openBlock ml_X2_111 imX2_openBlock (by omega) so_176 ⟨rfl, rfl⟩ (cp_open (a := a + 1) hB hWR hle (by omega) (by omega)) (Nat.le_of_ble_eq_true rfl) ⟨Nat.le_refl _, Nat.le_refl _⟩ ?_
      refine mm_goto (tgt := 179) dX2_readOne_121 (by decide) ?_
      refine mm_vret dX2_readOne_179 rfl ⟨Nat.le_refl _, Nat.le_refl _⟩ ?_
      exact hq
    by_cases c9 : o = 9
    · subst c9
      refine mm_aload_n 0 dX2_readOne_0 rfl rfl ?_
      refine mm_geti dX2_readOne_1 rfl fk_X2_59 rfl so_176 ?_
      refine mm_top (v := ckd (tK T t k)) rfl ?_
      refine mm_ineg dX2_readOne_4 ?_
      refine mm_top (v := 4) hcc ?_
      refine mm_istore_n (ls' := [(1, .int (4)), (0, .ref 176)]) dX2_readOne_5 rfl (by decide) rfl ?_
      refine mm_iload_n 0 dX2_readOne_6 rfl rfl ?_
      refine mm_iconst (v := 1) dX2_readOne_7 rfl ?_
      refine mm_icmp_lt (tgt := 17) dX2_readOne_8 (by decide) (fun q => absurd q (by decide)) (fun _ => ?_)
      refine mm_iload_n 0 dX2_readOne_11 rfl rfl ?_
      refine mm_bipush (v := 11) dX2_readOne_12 rfl ?_
      refine mm_icmp_le (tgt := 22) dX2_readOne_14 (by decide) (fun _ => ?_) (fun q => absurd (by decide) q)
      refine mm_aload_n 1 dX2_readOne_22 rfl rfl ?_
      refine mm_getr (b := 184) dX2_readOne_23 rfl fk_X2_23 rfl so_176 sr_176_1 ?_
      refine mm_dup dX2_readOne_26 rfl ?_
      refine mm_geti dX2_readOne_27 rfl fk_X2_114 rfl so_184 ?_
      refine mm_top (v := nI (st)) rfl ?_
      refine mm_iconst (v := 1) dX2_readOne_30 rfl ?_
      refine mm_iaddN (st) (1) dX2_readOne_31 ?_
      refine mm_puti dX2_readOne_32 rfl fk_X2_114 rfl fv_4_2 so_184 ?_
      refine mm_mem (J := cz I T t true k fr (st + 1) Af (3 * a) Sf sn Bf bn) cz_st ?_
      refine mm_aload_n 1 dX2_readOne_35 rfl rfl ?_
      refine mm_at (pc' := 36) rfl ?_
      refine mm_iconst (v := 0) dX2_readOne_36 rfl ?_
      refine mm_putz dX2_readOne_37 rfl fk_X2_45 rfl fv_2_3 (by decide) so_176 ?_
      refine mm_mem (J := cz I T t true k false (st + 1) Af (3 * a) Sf sn Bf bn) cz_fr0 ?_
      refine mm_aload_n 1 dX2_readOne_40 rfl rfl ?_
      refine mm_cV0v (dz := d - 1) dX2_readOne_41 rfl mzX2_advance ml_X2_82 imX2_advance (by omega) so_176 ⟨rfl, rfl⟩ (cp_adv hB hWR (by omega) (by omega)) (Nat.le_of_ble_eq_true rfl) ⟨Nat.le_refl _, Nat.le_refl _⟩ ?_
      refine mm_iload_n 0 dX2_readOne_44 rfl rfl ?_
      refine mm_tabIn (4) (tgt := 104) dX2_readOne_45 rfl (by decide) (by decide) rfl (by decide) ?_
      refine mm_aload_n 1 dX2_readOne_104 rfl rfl ?_
      refine mm_aload_n 1 dX2_readOne_105 rfl rfl ?_
      refine mm_getr (b := 184) dX2_readOne_106 rfl fk_X2_23 rfl so_176 sr_176_1 ?_
      refine mm_iload_n 0 dX2_readOne_109 rfl rfl ?_
      refine mm_aload_n 1 dX2_readOne_110 rfl rfl ?_
      refine mm_cV0i (dz := d - 1) dX2_readOne_111 rfl mzX2_readTest ml_X2_120 imX2_readTest (by omega) so_176 ⟨rfl, rfl⟩ (cp_test (k := k + 1) hB hWR (by omega) (by omega) (by omega)) (Nat.le_of_ble_eq_true rfl) ⟨Nat.le_refl _, Nat.le_refl _⟩ ?_
      refine mm_iconst (v := 0) dX2_readOne_114 rfl ?_
      refine mm_cV3i (dz := d - 1) dX2_readOne_115 rfl mzX4_addAct ml_X2_104 imX4_addAct (by omega) so_184 ⟨rfl, rfl⟩ (cp_act (a := a) (by omega) (by omega)) (Nat.le_of_ble_eq_true rfl) ⟨Nat.le_refl _, Nat.le_refl _⟩ ?_
      refine mm_at (pc' := 118) rfl ?_
      refine mm_cV1v (dz := d - 1) dX2_readOne_118 rfl mzX2_openBlock ml_X2_111 imX2_openBlock (by omega) so_176 ⟨rfl, rfl⟩ (cp_open (a := a + 1) hB hWR hle (by omega) (by omega)) (Nat.le_of_ble_eq_true rfl) ⟨Nat.le_refl _, Nat.le_refl _⟩ ?_
      refine mm_goto (tgt := 179) dX2_readOne_121 (by decide) ?_
      refine mm_vret dX2_readOne_179 rfl ⟨Nat.le_refl _, Nat.le_refl _⟩ ?_
      exact hq
    have e6 : c_o T t o (true, k + 1, false, st + 1, Af, a, Sf, sn, Bf, bn) = (true, k + 1, false, st + 1, a3 Af a (nI (o + 5)) 0 0, a + 1, Sf, sn, Bf, bn) := by
      show (if o = 0 then _ else if o = 10 then _ else if o = 7 then _ else if o = 8 then _ else if o = 9 then _ else _) = _
      rw [if_neg c0, if_neg c10, if_neg c7, if_neg c8, if_neg c9, cc_s (by omega)]
    rw [e6] at hq
    refine mm_aload_n 0 dX2_readOne_0 rfl rfl ?_
    refine mm_geti dX2_readOne_1 rfl fk_X2_59 rfl so_176 ?_
    refine mm_top (v := ckd (tK T t k)) rfl ?_
    refine mm_ineg dX2_readOne_4 ?_
    refine mm_top (v := nI (o + 5)) (hcc.trans (cc_s (by omega))) ?_
    refine mm_istore_n (ls' := [(1, .int (nI (o + 5))), (0, .ref 176)]) dX2_readOne_5 rfl (by decide) rfl ?_
    refine mm_iload_n 0 dX2_readOne_6 rfl rfl ?_
    refine mm_iconst (v := 1) dX2_readOne_7 rfl ?_
    refine mm_icmp_ltN (o + 5) (1) (tgt := 17) dX2_readOne_8 (by decide) (by omega) (by omega) (fun c8 => ?_) (fun c8 => ?_)
    · omega
    · refine mm_iload_n 0 dX2_readOne_11 rfl rfl ?_
      refine mm_bipush (v := 11) dX2_readOne_12 rfl ?_
      refine mm_icmp_leN (o + 5) (11) (tgt := 22) dX2_readOne_14 (by decide) (by omega) (by omega) (fun c14 => ?_) (fun c14 => ?_)
      · refine mm_aload_n 1 dX2_readOne_22 rfl rfl ?_
        refine mm_getr (b := 184) dX2_readOne_23 rfl fk_X2_23 rfl so_176 sr_176_1 ?_
        refine mm_dup dX2_readOne_26 rfl ?_
        refine mm_geti dX2_readOne_27 rfl fk_X2_114 rfl so_184 ?_
        refine mm_top (v := nI (st)) rfl ?_
        refine mm_iconst (v := 1) dX2_readOne_30 rfl ?_
        refine mm_iaddN (st) (1) dX2_readOne_31 ?_
        refine mm_puti dX2_readOne_32 rfl fk_X2_114 rfl fv_4_2 so_184 ?_
        refine mm_mem (J := cz I T t true k fr (st + 1) Af (3 * a) Sf sn Bf bn) cz_st ?_
        refine mm_aload_n 1 dX2_readOne_35 rfl rfl ?_
        refine mm_at (pc' := 36) rfl ?_
        refine mm_iconst (v := 0) dX2_readOne_36 rfl ?_
        refine mm_putz dX2_readOne_37 rfl fk_X2_45 rfl fv_2_3 (by decide) so_176 ?_
        refine mm_mem (J := cz I T t true k false (st + 1) Af (3 * a) Sf sn Bf bn) cz_fr0 ?_
        refine mm_aload_n 1 dX2_readOne_40 rfl rfl ?_
        refine mm_cV0v (dz := d - 1) dX2_readOne_41 rfl mzX2_advance ml_X2_82 imX2_advance (by omega) so_176 ⟨rfl, rfl⟩ (cp_adv hB hWR (by omega) (by omega)) (Nat.le_of_ble_eq_true rfl) ⟨Nat.le_refl _, Nat.le_refl _⟩ ?_
        refine mm_iload_n 0 dX2_readOne_44 rfl rfl ?_
        refine mm_tabOut 1 5 (tgt := 168) dX2_readOne_45 rfl (by decide) (fun j hj q => by have q := (nI_eq (by omega) (by omega)).mp q; omega) (by decide) ?_
        refine mm_aload_n 1 dX2_readOne_168 rfl rfl ?_
        refine mm_getr (b := 184) dX2_readOne_169 rfl fk_X2_23 rfl so_176 sr_176_1 ?_
        refine mm_iload_n 0 dX2_readOne_172 rfl rfl ?_
        refine mm_iconst (v := 0) dX2_readOne_173 rfl ?_
        refine mm_iconst (v := 0) dX2_readOne_174 rfl ?_
        refine mm_cV3i (dz := d - 1) dX2_readOne_175 rfl mzX4_addAct ml_X2_104 imX4_addAct (by omega) so_184 ⟨rfl, rfl⟩ (cp_act (a := a) (by omega) (by omega)) (Nat.le_of_ble_eq_true rfl) ⟨Nat.le_refl _, Nat.le_refl _⟩ ?_
        refine mm_pop dX2_readOne_178 rfl ?_
        refine mm_vret dX2_readOne_179 rfl ⟨Nat.le_refl _, Nat.le_refl _⟩ ?_
        exact hq
      · omega
  · rw [if_neg cW] at hq
    have hnw := ckd_nw (tK_rng (k := k) hB) cW
    refine mm_aload_n 0 dX2_readOne_0 rfl rfl ?_
    refine mm_geti dX2_readOne_1 rfl fk_X2_59 rfl so_176 ?_
    refine mm_top (v := ckd (tK T t k)) rfl ?_
    refine mm_ineg dX2_readOne_4 ?_
    refine mm_istore_n (ls' := [(1, .int (-(ckd (tK T t k)))), (0, .ref 176)]) dX2_readOne_5 rfl (by decide) rfl ?_
    refine mm_iload_n 0 dX2_readOne_6 rfl rfl ?_
    refine mm_iconst (v := 1) dX2_readOne_7 rfl ?_
    refine mm_icmp_lt (tgt := 17) dX2_readOne_8 (by decide) (fun c8 => ?_) (fun c8 => ?_)
    · refine mm_aload_n 1 dX2_readOne_17 rfl rfl ?_
      refine mm_cV0v (dz := d - 1) dX2_readOne_18 rfl mzX2_fail ml_X2_85 imX2_fail (by omega) so_176 ⟨rfl, rfl⟩ (cp_fail hB hWR hk (by omega)) (Nat.le_of_ble_eq_true rfl) ⟨Nat.le_refl _, Nat.le_refl _⟩ ?_
      refine mm_vret dX2_readOne_21 rfl ⟨Nat.le_refl _, Nat.le_refl _⟩ ?_
      exact hq
    · refine mm_iload_n 0 dX2_readOne_11 rfl rfl ?_
      refine mm_bipush (v := 11) dX2_readOne_12 rfl ?_
      refine mm_icmp_le (tgt := 22) dX2_readOne_14 (by decide) (fun c14 => ?_) (fun c14 => ?_)
      · rcases hnw with q | q; exact absurd q c8; exact absurd q (Int32.not_lt.mpr c14)
      · refine mm_aload_n 1 dX2_readOne_17 rfl rfl ?_
        refine mm_cV0v (dz := d - 1) dX2_readOne_18 rfl mzX2_fail ml_X2_85 imX2_fail (by omega) so_176 ⟨rfl, rfl⟩ (cp_fail hB hWR hk (by omega)) (Nat.le_of_ble_eq_true rfl) ⟨Nat.le_refl _, Nat.le_refl _⟩ ?_
        refine mm_vret dX2_readOne_21 rfl ⟨Nat.le_refl _, Nat.le_refl _⟩ ?_
        exact hq
