/-! THE REFERENCE'S READER: a program's contract -/
set_option maxRecDepth 100000 in
set_option maxHeartbeats 600000 in
theorem lm_pg {g : mm_G} {J : mm_I} {d : Nat} {p t : Nat} (ht : J 200 4 = nI t) (ht96 : t ≤ 96) (hB : tp_ok (J 203) t) (hrd : J 200 18 = nI p) (hp : p < 6) {Q : Option Value → mm_Sh → mm_I → Prop} {f0 : Nat} {N0 : Nat → Int32} (hN0 : N0 (1226 + 418 * p) = nI 0) (hd : 97 ≤ d) (hq1 : (r_row (tK (J 203) t) (tV (J 203) t) p 4 (-1) (true, 0, N0, [], 0)).2.1 = true ∧ tK (J 203) t (r_row (tK (J 203) t) (tV (J 203) t) p 4 (-1) (true, 0, N0, [], 0)).2.2.1 = 400 → Q (some (.int (nI (r_row (tK (J 203) t) (tV (J 203) t) p 4 (-1) (true, 0, N0, [], 0)).2.2.2.2.2))) sh_S (pz (mm_up J 200 4 0) p (tq (J 203) t (r_row (tK (J 203) t) (tV (J 203) t) p 4 (-1) (true, 0, N0, [], 0)).2.2.1) 0 0 0 0 (r_row (tK (J 203) t) (tV (J 203) t) p 4 (-1) (true, 0, N0, [], 0)).2.2.2.1 (r_row (tK (J 203) t) (tV (J 203) t) p 4 (-1) (true, 0, N0, [], 0)).2.2.2.2.1)) (hq2 : ¬ ((r_row (tK (J 203) t) (tV (J 203) t) p 4 (-1) (true, 0, N0, [], 0)).2.1 = true ∧ tK (J 203) t (r_row (tK (J 203) t) (tV (J 203) t) p 4 (-1) (true, 0, N0, [], 0)).2.2.1 = 400) → Q (some (.int ((-100) - nI (tq (J 203) t (r_row (tK (J 203) t) (tV (J 203) t) p 4 (-1) (true, 0, N0, [], 0)).2.2.1).1))) sh_S (mm_up (pz (mm_up J 200 4 0) p (tq (J 203) t (r_row (tK (J 203) t) (tV (J 203) t) p 4 (-1) (true, 0, N0, [], 0)).2.2.1) 1 0 0 0 (r_row (tK (J 203) t) (tV (J 203) t) p 4 (-1) (true, 0, N0, [], 0)).2.2.2.1 (r_row (tK (J 203) t) (tV (J 203) t) p 4 (-1) (true, 0, N0, [], 0)).2.2.2.2.1) 201 (1226 + 418 * p) 0)) : mm_Ex g zX12_program d (0, 0) (0, 0) sh_S (pz J p (f0, 0, 0) 0 0 0 0 N0 ([])) 140 [(2, .int (nI (1226 + (418 * p)))), (0, .ref 200), (1, .int (nI p))] [] Q := by
  have hrow := cm_row (g := g) ht ht96 hB hrd hp 4 0 rfl (-1) (true, 0, N0, [], 0) (d - 1) rfl ⟨⟨Nat.zero_le _, Nat.le_refl _, hN0, by show 0 ≤ 32; decide⟩, fun _ => Nat.zero_le _⟩ (by omega)
  have hgd := (r_row_good (p := p) ht96 hB 4 (-1) (true, 0, N0, [], 0) rfl ⟨⟨Nat.zero_le _, Nat.le_refl _, hN0, by show 0 ≤ 32; decide⟩, fun _ => Nat.zero_le _⟩).1
  generalize (r_row (tK (J 203) t) (tV (J 203) t) p 4 (-1) (true, 0, N0, [], 0)) = R at hrow hgd hq1 hq2
  obtain ⟨R0, Rb, Rk, RN, RC, Rn⟩ := R
  replace hgd : r1_ (J 203) t p (Rb, Rk, RN, RC, Rn) := hgd
  replace hq1 : Rb = true ∧ tK (J 203) t Rk = 400 → Q (some (.int (nI Rn))) sh_S (pz (mm_up J 200 4 0) p (tq (J 203) t Rk) 0 0 0 0 RN RC) := hq1
  replace hq2 : ¬ (Rb = true ∧ tK (J 203) t Rk = 400) → Q (some (.int ((-100) - nI (tq (J 203) t Rk).1))) sh_S (mm_up (pz (mm_up J 200 4 0) p (tq (J 203) t Rk) 1 0 0 0 RN RC) 201 (1226 + 418 * p) 0) := hq2
  have hqr := tq_good (J 203) t Rk
  have hen := tkd_end hB hqr
  have hR3 : RN (1226 + 418 * p) = nI Rn := hgd.1.2.2.1
  have hr3 := hqr.2.2.1
  cases Rb with
  | false =>
    refine mm_aload_n 1 dX12_program_140 rfl rfl ?_
    refine mm_cV0v (dz := d - 1) dX12_program_141 rfl mzX12_next ml_X12_171 imX12_next (by omega) so_200 ⟨rfl, rfl⟩ (cm_next (f := f0) (e := 0) (s := 0) ht ht96 (Nat.zero_le _) (by decide) (by omega)) (Nat.le_of_ble_eq_true rfl) ⟨Nat.le_refl _, Nat.le_refl _⟩ ?_
    refine mm_aload_n 1 dX12_program_144 rfl rfl ?_
    refine mm_iconst (v := -1) dX12_program_145 rfl ?_
    refine mm_cV1i (dz := d - 1) dX12_program_146 rfl mzX12_rowOfSteps ml_X12_230 imX12_rowOfSteps (by omega) so_200 ⟨rfl, rfl⟩ hrow (Nat.le_of_ble_eq_true rfl) ⟨Nat.le_refl _, Nat.le_refl _⟩ ?_
    refine mm_istore_n (ls' := [(3, .int (R0)), (2, .int (nI (1226 + (418 * p)))), (0, .ref 200), (1, .int (nI (p)))]) dX12_program_149 rfl (by decide) rfl ?_
    refine mm_aload_n 2 dX12_program_150 rfl rfl ?_
    refine mm_aload_n 2 dX12_program_151 rfl rfl ?_
    refine mm_at (pc' := 152) rfl ?_
    refine mm_geti dX12_program_152 rfl fk_X12_164 rfl so_200 ?_
    refine mm_top (v := nI (1)) rfl ?_
    refine mm_top (v := 1) rfl ?_
    refine mm_if_ne (tgt := 165) dX12_program_155 (by decide) (fun _ => ?_) (fun q => absurd q (by decide))
    refine mm_iconst (v := 1) dX12_program_165 rfl ?_
    refine mm_goto (tgt := 170) dX12_program_166 (by decide) ?_
    refine mm_putz dX12_program_170 rfl fk_X12_164 rfl fv_12_14 (by decide) so_200 ?_
    refine mm_mem (J := pz J p (tq (J 203) t Rk) 1 0 0 0 RN RC) (pz_14 (v := 1)) ?_
    refine mm_aload_n 2 dX12_program_173 rfl rfl ?_
    refine mm_iconst (v := 0) dX12_program_174 rfl ?_
    refine mm_puti dX12_program_175 rfl fk_X12_138 rfl fv_12_4 so_200 ?_
    refine mm_mem (J := pz (mm_up J 200 4 0) p (tq (J 203) t Rk) 1 0 0 0 RN RC) pz_out ?_
    refine mm_aload_n 2 dX12_program_178 rfl rfl ?_
    refine mm_geti dX12_program_179 rfl fk_X12_164 rfl so_200 ?_
    refine mm_top (v := 1) rfl ?_
    refine mm_if_eq (tgt := 200) dX12_program_182 (by decide) (fun q => absurd q (by decide)) (fun _ => ?_)
    refine mm_aload_n 2 dX12_program_185 rfl rfl ?_
    refine mm_getr (b := 201) dX12_program_186 rfl fk_X12_9 rfl so_200 sr_200_0 ?_
    refine mm_iload_n 1 dX12_program_189 rfl rfl ?_
    refine mm_iconst (v := 0) dX12_program_190 rfl ?_
    refine mm_iastN (1226 + (418 * p)) dX12_program_191 sa_201 (by omega) (by omega) ?_
    refine mm_bipush (v := -100) dX12_program_192 rfl ?_
    refine mm_aload_n 2 dX12_program_194 rfl rfl ?_
    refine mm_geti dX12_program_195 rfl fk_X12_148 rfl so_200 ?_
    refine mm_at (pc' := 198) rfl ?_
    refine mm_top (v := (pz (mm_up J 200 4 0) p (tq (J 203) t Rk) 1 0 0 0 RN RC) 200 11) (by rw [mm_up_ne (by decide)]) ?_
    refine mm_top (v := nI ((tq (J 203) t Rk).1)) rfl ?_
    refine mm_isub dX12_program_198 ?_
    refine mm_iret dX12_program_199 rfl ⟨Nat.le_refl _, Nat.le_refl _⟩ ?_
    exact hq2 (by rintro ⟨q, -⟩; exact absurd q (by decide))
  | true =>
    refine mm_aload_n 1 dX12_program_140 rfl rfl ?_
    refine mm_cV0v (dz := d - 1) dX12_program_141 rfl mzX12_next ml_X12_171 imX12_next (by omega) so_200 ⟨rfl, rfl⟩ (cm_next (f := f0) (e := 0) (s := 0) ht ht96 (Nat.zero_le _) (by decide) (by omega)) (Nat.le_of_ble_eq_true rfl) ⟨Nat.le_refl _, Nat.le_refl _⟩ ?_
    refine mm_aload_n 1 dX12_program_144 rfl rfl ?_
    refine mm_iconst (v := -1) dX12_program_145 rfl ?_
    refine mm_cV1i (dz := d - 1) dX12_program_146 rfl mzX12_rowOfSteps ml_X12_230 imX12_rowOfSteps (by omega) so_200 ⟨rfl, rfl⟩ hrow (Nat.le_of_ble_eq_true rfl) ⟨Nat.le_refl _, Nat.le_refl _⟩ ?_
    refine mm_istore_n (ls' := [(3, .int (R0)), (2, .int (nI (1226 + (418 * p)))), (0, .ref 200), (1, .int (nI (p)))]) dX12_program_149 rfl (by decide) rfl ?_
    refine mm_aload_n 2 dX12_program_150 rfl rfl ?_
    refine mm_aload_n 2 dX12_program_151 rfl rfl ?_
    refine mm_at (pc' := 152) rfl ?_
    refine mm_geti dX12_program_152 rfl fk_X12_164 rfl so_200 ?_
    refine mm_top (v := nI (0)) rfl ?_
    refine mm_top (v := 0) rfl ?_
    refine mm_if_ne (tgt := 165) dX12_program_155 (by decide) (fun q => absurd q (by decide)) (fun _ => ?_)
    refine mm_aload_n 2 dX12_program_158 rfl rfl ?_
    refine mm_geti dX12_program_159 rfl fk_X12_142 rfl so_200 ?_
    refine mm_top (v := nI ((tq (J 203) t Rk).2.2)) rfl ?_
    refine mm_if_eqN ((tq (J 203) t Rk).2.2) (tgt := 169) dX12_program_162 (by decide) (by omega) (fun c162 => ?_) (fun c162 => ?_)
    · refine mm_iconst (v := 0) dX12_program_169 rfl ?_
      refine mm_putz dX12_program_170 rfl fk_X12_164 rfl fv_12_14 (by decide) so_200 ?_
      refine mm_mem (J := pz J p (tq (J 203) t Rk) 0 0 0 0 RN RC) (pz_14 (v := 0)) ?_
      refine mm_aload_n 2 dX12_program_173 rfl rfl ?_
      refine mm_iconst (v := 0) dX12_program_174 rfl ?_
      refine mm_puti dX12_program_175 rfl fk_X12_138 rfl fv_12_4 so_200 ?_
      refine mm_mem (J := pz (mm_up J 200 4 0) p (tq (J 203) t Rk) 0 0 0 0 RN RC) pz_out ?_
      refine mm_aload_n 2 dX12_program_178 rfl rfl ?_
      refine mm_geti dX12_program_179 rfl fk_X12_164 rfl so_200 ?_
      refine mm_top (v := 0) rfl ?_
      refine mm_if_eq (tgt := 200) dX12_program_182 (by decide) (fun _ => ?_) (fun q => absurd (by decide) q)
      refine mm_aload_n 2 dX12_program_200 rfl rfl ?_
      refine mm_getr (b := 201) dX12_program_201 rfl fk_X12_9 rfl so_200 sr_200_0 ?_
      refine mm_iload_n 1 dX12_program_204 rfl rfl ?_
      refine mm_ialdN (1226 + (418 * p)) dX12_program_205 sa_201 (by omega) (by omega) ?_
      refine mm_top (v := nI (Rn)) ((nc_n (by omega)).trans hR3) ?_
      refine mm_iret dX12_program_206 rfl ⟨Nat.le_refl _, Nat.le_refl _⟩ ?_
      exact hq1 ⟨rfl, hen.mpr (by omega)⟩
    · refine mm_iconst (v := 1) dX12_program_165 rfl ?_
      refine mm_goto (tgt := 170) dX12_program_166 (by decide) ?_
      refine mm_putz dX12_program_170 rfl fk_X12_164 rfl fv_12_14 (by decide) so_200 ?_
      refine mm_mem (J := pz J p (tq (J 203) t Rk) 1 0 0 0 RN RC) (pz_14 (v := 1)) ?_
      refine mm_aload_n 2 dX12_program_173 rfl rfl ?_
      refine mm_iconst (v := 0) dX12_program_174 rfl ?_
      refine mm_puti dX12_program_175 rfl fk_X12_138 rfl fv_12_4 so_200 ?_
      refine mm_mem (J := pz (mm_up J 200 4 0) p (tq (J 203) t Rk) 1 0 0 0 RN RC) pz_out ?_
      refine mm_aload_n 2 dX12_program_178 rfl rfl ?_
      refine mm_geti dX12_program_179 rfl fk_X12_164 rfl so_200 ?_
      refine mm_top (v := 1) rfl ?_
      refine mm_if_eq (tgt := 200) dX12_program_182 (by decide) (fun q => absurd q (by decide)) (fun _ => ?_)
      refine mm_aload_n 2 dX12_program_185 rfl rfl ?_
      refine mm_getr (b := 201) dX12_program_186 rfl fk_X12_9 rfl so_200 sr_200_0 ?_
      refine mm_iload_n 1 dX12_program_189 rfl rfl ?_
      refine mm_iconst (v := 0) dX12_program_190 rfl ?_
      refine mm_iastN (1226 + (418 * p)) dX12_program_191 sa_201 (by omega) (by omega) ?_
      refine mm_bipush (v := -100) dX12_program_192 rfl ?_
      refine mm_aload_n 2 dX12_program_194 rfl rfl ?_
      refine mm_geti dX12_program_195 rfl fk_X12_148 rfl so_200 ?_
      refine mm_at (pc' := 198) rfl ?_
      refine mm_top (v := (pz (mm_up J 200 4 0) p (tq (J 203) t Rk) 1 0 0 0 RN RC) 200 11) (by rw [mm_up_ne (by decide)]) ?_
      refine mm_top (v := nI ((tq (J 203) t Rk).1)) rfl ?_
      refine mm_isub dX12_program_198 ?_
      refine mm_iret dX12_program_199 rfl ⟨Nat.le_refl _, Nat.le_refl _⟩ ?_
      exact hq2 (by rintro ⟨-, q⟩; have := hen.mp q; omega)
set_option maxRecDepth 100000 in
set_option maxHeartbeats 600000 in
theorem cm_program {g : mm_G} {I : mm_I} {d : Nat} {n : Nat} (hm : I 201 16 = nI n) (hm5 : n ≤ 5) {t : Nat} (ht : I 200 4 = nI t) (hB : tp_ok (I 203) t) {x : Int32} (hd : 97 ≤ d) : mm_Ci g zX12_program d [.ref 200, .int x] sh_S I (op_program n t I x).1 (op_program n t I x).2 := by
  refine mm_Ci_of (fun Q hq => ?_)
  refine mm_begin (ls := [(0, .ref 200), (1, .int (x))]) (Nat.le_of_ble_eq_true rfl) rfl rfl ?_
  refine mm_iload_n 1 dX12_program_0 rfl rfl ?_
  refine mm_iconst (v := 0) dX12_program_1 rfl ?_
  refine mm_iconst (v := 5) dX12_program_2 rfl ?_
  refine mm_cS3i (dz := d - 1) dX12_program_3 rfl mzX12_within ml_X12_82 imX12_within (by omega) cm_within (Nat.le_of_ble_eq_true rfl) ⟨Nat.le_refl _, Nat.le_refl _⟩ ?_
  refine mm_if_neB (tgt := 17) dX12_program_6 (by decide) (fun c6 => ?_) (fun c6 => ?_)
  · obtain ⟨p, hp5, e⟩ := sp_wi_nat 5 (by decide) c6
    subst e
    have ht96 : t ≤ 96 := hB.1
    rw [op_program, if_neg (fun q => q c6), vv_nI (by omega)] at hq
    refine mm_aload_n 0 dX12_program_17 rfl rfl ?_
    refine mm_iload_n 1 dX12_program_18 rfl rfl ?_
    refine mm_puti dX12_program_19 rfl fk_X12_174 rfl fv_12_18 so_200 ?_
    refine mm_iconst (v := 0) dX12_program_22 rfl ?_
    refine mm_istore_n (ls' := [(2, .int (0)), (0, .ref 200), (1, .int (nI (p)))]) dX12_program_23 rfl (by decide) rfl ?_
    refine mm_sub [0, 1, 2] rfl (lm_pe (I := mm_up I 200 18 (nI p)) (by rw [mm_up_ne (by decide)]; exact hm) hm5 (by omega) ?_ (n + 1) 0 (Nat.zero_le _) (by omega))
    obtain ⟨f0, ef⟩ := nI_all (pg_J I p n 200 11)
    show mm_Ex g zX12_program d (0, 0) (0, 0) sh_S (pg_J I p n) 82 [(2, .int (nI n)), (0, .ref 200), (1, .int (nI p))] [] Q
    refine mm_sipush (v := 1226) dX12_program_82 rfl ?_
    refine mm_sipush (v := 418) dX12_program_85 rfl ?_
    refine mm_iload_n 2 dX12_program_88 rfl rfl ?_
    refine mm_imulN (418) (p) dX12_program_89 ?_
    refine mm_iaddN (1226) (418 * p) dX12_program_90 ?_
    refine mm_istore_n (ls' := [(2, .int (nI (1226 + (418 * p)))), (0, .ref 200), (1, .int (nI (p)))]) dX12_program_91 rfl (by decide) rfl ?_
    refine mm_aload_n 1 dX12_program_92 rfl rfl ?_
    refine mm_getr (b := 201) dX12_program_93 rfl fk_X12_9 rfl so_200 sr_200_0 ?_
    refine mm_at (pc' := 96) rfl ?_
    refine mm_iload_n 0 dX12_program_96 rfl rfl ?_
    refine mm_iconst (v := 0) dX12_program_97 rfl ?_
    refine mm_iastN (1226 + (418 * p)) dX12_program_98 sa_201 (by omega) (by omega) ?_
    refine mm_aload_n 1 dX12_program_99 rfl rfl ?_
    refine mm_getr (b := 201) dX12_program_100 rfl fk_X12_9 rfl so_200 sr_200_0 ?_
    refine mm_iload_n 0 dX12_program_103 rfl rfl ?_
    refine mm_sipush (v := 257) dX12_program_104 rfl ?_
    refine mm_iaddN (1226 + (418 * p)) (257) dX12_program_107 ?_
    refine mm_at (pc' := 108) rfl ?_
    refine mm_iconst (v := 0) dX12_program_108 rfl ?_
    refine mm_iastN ((1226 + (418 * p)) + 257) dX12_program_109 sa_201 (by omega) (by omega) ?_
    refine mm_aload_n 1 dX12_program_110 rfl rfl ?_
    refine mm_iconst (v := 0) dX12_program_111 rfl ?_
    refine mm_puti dX12_program_112 rfl fk_X12_145 rfl fv_12_12 so_200 ?_
    refine mm_aload_n 1 dX12_program_115 rfl rfl ?_
    refine mm_iconst (v := 0) dX12_program_116 rfl ?_
    refine mm_puti dX12_program_117 rfl fk_X12_142 rfl fv_12_13 so_200 ?_
    refine mm_at (pc' := 120) rfl ?_
    refine mm_aload_n 1 dX12_program_120 rfl rfl ?_
    refine mm_iconst (v := 0) dX12_program_121 rfl ?_
    refine mm_putz dX12_program_122 rfl fk_X12_164 rfl fv_12_14 (by decide) so_200 ?_
    refine mm_aload_n 1 dX12_program_125 rfl rfl ?_
    refine mm_iconst (v := 0) dX12_program_126 rfl ?_
    refine mm_puti dX12_program_127 rfl fk_X12_227 rfl fv_12_15 so_200 ?_
    refine mm_aload_n 1 dX12_program_130 rfl rfl ?_
    refine mm_iconst (v := 0) dX12_program_131 rfl ?_
    refine mm_at (pc' := 132) rfl ?_
    refine mm_puti dX12_program_132 rfl fk_X12_196 rfl fv_12_16 so_200 ?_
    refine mm_aload_n 1 dX12_program_135 rfl rfl ?_
    refine mm_iconst (v := 0) dX12_program_136 rfl ?_
    refine mm_puti dX12_program_137 rfl fk_X12_190 rfl fv_12_17 so_200 ?_
    refine mm_mem (pg_start ef) ?_
    have e3 : pg_J I p n 203 = I 203 := pg_J_a (by decide) (by decide)
    refine lm_pg (J := pg_J I p n) (t := t) ((pg_J_200 (by decide)).trans ht) ht96 (by rw [e3]; exact hB) pg_J_18 (by omega) (by show upd _ _ _ _ = _; unfold upd; rw [if_pos rfl]; rfl) hd (fun h => ?_) (fun h => ?_)
    · rw [e3] at h ⊢
      rw [op_pg, if_pos (show pg_ok I p n t from h)] at hq
      exact hq
    · rw [e3] at h ⊢
      rw [op_pg, if_neg (show ¬ pg_ok I p n t from h)] at hq
      exact hq
  · refine mm_aload_n 0 dX12_program_9 rfl rfl ?_
    refine mm_iconst (v := 0) dX12_program_10 rfl ?_
    refine mm_puti dX12_program_11 rfl fk_X12_138 rfl fv_12_4 so_200 ?_
    refine mm_ldc dX12_program_14 rfl kc_X12_86 ?_
    refine mm_iret dX12_program_16 rfl ⟨Nat.le_refl _, Nat.le_refl _⟩ ?_
    rw [op_program, if_pos c6] at hq
    exact hq
