set_option maxRecDepth 100000 in
set_option maxHeartbeats 600000 in
theorem lm_pwo {g : mm_G} {I : mm_I} {d : Nat} {Q : Option Value → mm_Sh → mm_I → Prop} {l : Nat} (hl : I 201 15 = nI l) (hl8 : l ≤ 8) {b : Nat} (hb : I 201 4 = nI b) (hb31 : b < 2 ^ 31) (hq : Q none sh_S (op_pw I (pw_d (I 201) l l) l)) : ∀ (m : Nat) (k : Nat), (k ≤ l) → (pw_d (I 201) l k < 256) → (pw_c (pw_d (I 201) l k) l = k) → l - k < m → mm_Ex g zX12_powerComes d (0, 0) (0, 0) sh_S (pw_m I (pw_d (I 201) l k) l) 128 [(1, .int (sp_pb (I 201) (nI (pw_d (I 201) l k)) l)), (0, .ref 200)] [] Q := by
  intro m
  induction m with
  | zero => intro k hk hD hc hmz; exact absurd hmz (Nat.not_lt_zero _)
  | succ m ih =>
    intro k hk hD hc hmz
    have step : pw_d (I 201) l (k + 1) = if I 201 4 < sp_pb (I 201) (nI (pw_d (I 201) l k)) l then pw_d (I 201) l k ||| 2 ^ vv (pw_l (I 201) (pw_d (I 201) l k) l) else pw_d (I 201) l k := rfl
    have hfin := fun h => pw_d_s (N := I 201) (l := l) (k := k) h hk
    generalize hX : pw_d (I 201) l k = D at hD hc step hfin ⊢
    refine mm_aload_n 1 dX12_powerComes_128 rfl rfl ?_
    refine mm_getr (b := 201) dX12_powerComes_129 rfl fk_X12_9 rfl so_200 sr_200_0 ?_
    refine mm_iconst (v := 4) dX12_powerComes_132 rfl ?_
    refine mm_ialdN (4) dX12_powerComes_133 sa_201 (by omega) (by omega) ?_
    refine mm_top (v := I 201 4) (pw_m_n (Or.inr ⟨by omega, by omega⟩)) ?_
    refine mm_iload_n 0 dX12_powerComes_134 rfl rfl ?_
    refine mm_icmp_ge (tgt := 267) dX12_powerComes_135 (by decide) (fun c135 => ?_) (fun c135 => ?_)
    · refine mm_aload_n 1 dX12_powerComes_267 rfl rfl ?_
      refine mm_getr (b := 201) dX12_powerComes_268 rfl fk_X12_9 rfl so_200 sr_200_0 ?_
      refine mm_iconst (v := 4) dX12_powerComes_271 rfl ?_
      refine mm_dup2 dX12_powerComes_272 rfl rfl ?_
      refine mm_ialdN (4) dX12_powerComes_273 sa_201 (by omega) (by omega) ?_
      refine mm_top (v := I 201 4) (pw_m_n (Or.inr ⟨by omega, by omega⟩)) ?_
      refine mm_iload_n 0 dX12_powerComes_274 rfl rfl ?_
      refine mm_isub dX12_powerComes_275 ?_
      refine mm_iastN (4) dX12_powerComes_276 sa_201 (by omega) (by omega) ?_
      refine mm_at (pc' := 277) rfl ?_
      refine mm_vret dX12_powerComes_277 rfl ⟨Nat.le_refl _, Nat.le_refl _⟩ ?_
      rw [hfin (Int32.not_lt.mpr c135)] at hq
      exact hq
    · refine mm_iconst (v := -1) dX12_powerComes_138 rfl ?_
      refine mm_istore_n (ls' := [(2, .int (-1)), (1, .int (sp_pb (I 201) (nI D) l)), (0, .ref 200)]) dX12_powerComes_139 rfl (by decide) rfl ?_
      refine mm_iconst (v := 0) dX12_powerComes_140 rfl ?_
      refine mm_istore_n (ls' := [(3, .int (0)), (2, .int (-1)), (1, .int (sp_pb (I 201) (nI D) l)), (0, .ref 200)]) dX12_powerComes_141 rfl (by decide) rfl ?_
      rcases pw_l_in (N := I 201) (D := D) l with ⟨-, hall⟩ | ⟨w, hw, ew, hbw⟩
      · exact absurd (by rw [pw_full l (pw_full2 l hall), hb]; exact Int32.not_lt.mp (nI_pos hb31)) c135
      refine lm_pwi hl hl8 ?_ (l + 1) 0 (Nat.zero_le _) (by omega)
      rw [ew]
      refine mm_aload_n 3 dX12_powerComes_218 rfl rfl ?_
      refine mm_getr (b := 201) dX12_powerComes_219 rfl fk_X12_9 rfl so_200 sr_200_0 ?_
      refine mm_bipush (v := 9) dX12_powerComes_222 rfl ?_
      refine mm_dup2 dX12_powerComes_224 rfl rfl ?_
      refine mm_ialdN (9) dX12_powerComes_225 sa_201 (by omega) (by omega) ?_
      refine mm_top (v := nI D) pw_m_9 ?_
      refine mm_iconst (v := 1) dX12_powerComes_226 rfl ?_
      refine mm_iload_n 1 dX12_powerComes_227 rfl rfl ?_
      refine mm_ishl dX12_powerComes_228 ?_
      refine mm_at (pc' := 229) rfl ?_
      refine mm_ior dX12_powerComes_229 ?_
      refine mm_top (v := nI (D ||| 2 ^ w)) (pw_or D hD w (by omega)) ?_
      refine mm_iastN (9) dX12_powerComes_230 sa_201 (by omega) (by omega) ?_
      refine mm_aload_n 3 dX12_powerComes_231 rfl rfl ?_
      refine mm_getr (b := 201) dX12_powerComes_232 rfl fk_X12_9 rfl so_200 sr_200_0 ?_
      refine mm_bipush (v := 8) dX12_powerComes_235 rfl ?_
      refine mm_dup2 dX12_powerComes_237 rfl rfl ?_
      refine mm_ialdN (8) dX12_powerComes_238 sa_201 (by omega) (by omega) ?_
      refine mm_top (v := (pw_m I D l) 201 8) (by rw [mm_up_ni (by decide)]) ?_
      refine mm_top (v := I 201 8 + sp_hb (I 201) (nI D) l) pw_m_8 ?_
      refine mm_aload_n 3 dX12_powerComes_239 rfl rfl ?_
      refine mm_at (pc' := 240) rfl ?_
      refine mm_getr (b := 201) dX12_powerComes_240 rfl fk_X12_9 rfl so_200 sr_200_0 ?_
      refine mm_sipush (v := 598) dX12_powerComes_243 rfl ?_
      refine mm_iload_n 1 dX12_powerComes_246 rfl rfl ?_
      refine mm_iaddN (598) (w) dX12_powerComes_247 ?_
      refine mm_ialdN (598 + w) dX12_powerComes_248 sa_201 (by omega) (by omega) ?_
      refine mm_top (v := (pw_m I D l) 201 (598 + w)) (by rw [mm_up_ni (by omega)]) ?_
      refine mm_top (v := I 201 (598 + w)) (pw_m_n (Or.inr ⟨by omega, by omega⟩)) ?_
      refine mm_iadd dX12_powerComes_249 ?_
      refine mm_iastN (8) dX12_powerComes_250 sa_201 (by omega) (by omega) ?_
      refine mm_iload_n 2 dX12_powerComes_251 rfl rfl ?_
      refine mm_at (pc' := 252) rfl ?_
      refine mm_aload_n 3 dX12_powerComes_252 rfl rfl ?_
      refine mm_getr (b := 201) dX12_powerComes_253 rfl fk_X12_9 rfl so_200 sr_200_0 ?_
      refine mm_sipush (v := 590) dX12_powerComes_256 rfl ?_
      refine mm_iload_n 1 dX12_powerComes_259 rfl rfl ?_
      refine mm_iaddN (590) (w) dX12_powerComes_260 ?_
      refine mm_ialdN (590 + w) dX12_powerComes_261 sa_201 (by omega) (by omega) ?_
      refine mm_top (v := (pw_m I D l) 201 (590 + w)) (by rw [mm_up_ni (by omega), mm_up_ni (by omega)]) ?_
      refine mm_top (v := I 201 (590 + w)) (pw_m_n (Or.inr ⟨by omega, by omega⟩)) ?_
      refine mm_isub dX12_powerComes_262 ?_
      refine mm_istore_n (ls' := [(1, .int ((sp_pb (I 201) (nI D) l) - (I 201 (590 + w)))), (3, .int (nI (l))), (2, .int (nI (w))), (0, .ref 200)]) dX12_powerComes_263 rfl (by decide) rfl ?_
      refine mm_at (pc' := 264) rfl ?_
      refine mm_goto (tgt := 128) dX12_powerComes_264 (by decide) ?_
      have hp := pw_pb (N := I 201) hD (show w < 8 by omega) hbw l hl8
      rw [if_pos hw] at hp
      have hh2 := pw_hb (N := I 201) hD (show w < 8 by omega) hbw l hl8
      rw [if_pos hw] at hh2
      have hco := pw_c_o hD (show w < 8 by omega) hbw l hl8
      rw [if_pos hw, hc] at hco
      have hcl := pw_c_le (D ||| 2 ^ w) l
      rw [if_pos (Int32.not_le.mp c135), ew, vv_nI (by omega)] at step
      have hh := ih (k + 1) (by omega) (by rw [step]; exact pw_lt hD (by omega)) (by rw [step]; exact hco) (by omega)
      rw [step, hp] at hh
      rw [pw_m_s (by rw [hh2, Int32.add_assoc])]
      exact mm_sub [0, 3] rfl hh
set_option maxRecDepth 100000 in
set_option maxHeartbeats 600000 in
theorem lm_pc86 {g : mm_G} {I : mm_I} {d : Nat} {Q : Option Value → mm_Sh → mm_I → Prop} {l : Nat} (hl : I 201 15 = nI l) (hl8 : l ≤ 8) {b : Nat} (hb : I 201 4 = nI b) (hb31 : b < 2 ^ 31) (hq : Q none sh_S (op_pw I (pw_d (I 201) l l) l)) : mm_Ex g zX12_powerComes d (0, 0) (0, 0) sh_S I 86 [(0, .ref 200)] [] Q := by
  refine mm_iconst (v := 0) dX12_powerComes_86 rfl ?_
  refine mm_istore_n (ls' := [(1, .int (0)), (0, .ref 200)]) dX12_powerComes_87 rfl (by decide) rfl ?_
  refine mm_iconst (v := 0) dX12_powerComes_88 rfl ?_
  refine mm_istore_n (ls' := [(2, .int (0)), (1, .int (0)), (0, .ref 200)]) dX12_powerComes_89 rfl (by decide) rfl ?_
  refine lm_pall hl hl8 ?_ (l + 1) 0 (Nat.zero_le _) (by omega)
  refine mm_aload_n 2 dX12_powerComes_120 rfl rfl ?_
  refine mm_getr (b := 201) dX12_powerComes_121 rfl fk_X12_9 rfl so_200 sr_200_0 ?_
  refine mm_bipush (v := 9) dX12_powerComes_124 rfl ?_
  refine mm_iconst (v := 0) dX12_powerComes_126 rfl ?_
  refine mm_iastN (9) dX12_powerComes_127 sa_201 (by omega) (by omega) ?_
  rw [← pw_m0 hl8]
  exact mm_sub [1, 2] rfl (lm_pwo hl hl8 hb hb31 hq (l + 1) 0 (Nat.zero_le _) (show 0 < 256 by decide) (pw_c0 l hl8) (by omega))
set_option maxRecDepth 100000 in
set_option maxHeartbeats 600000 in
theorem cm_powerComes {g : mm_G} {I : mm_I} {d : Nat} {n : Nat} (hm : I 201 16 = nI n) (hm5 : n ≤ 5) {la lb : Nat} (h2 : I 201 2 = nI la) (h3 : I 201 3 = nI lb) (hla : 1 ≤ la ∧ la ≤ 24) (hlb : lb ≤ 24) {l : Nat} (hl : I 201 15 = nI l) (hl8 : l ≤ 8) {b : Nat} (hb : op_pa I n 201 4 = nI b) (hb31 : b < 2 ^ 31) (hd : 2 ≤ d) : mm_Cv g zX12_powerComes d [.ref 200] sh_S I (op_pc I n l) := by
  refine mm_Cv_of (fun Q hq => ?_)
  refine mm_begin (ls := [(0, .ref 200)]) (Nat.le_of_ble_eq_true rfl) rfl rfl ?_
  refine mm_aload_n 0 dX12_powerComes_0 rfl rfl ?_
  refine mm_cV0i (dz := d - 1) dX12_powerComes_1 rfl mzX12_isLight ml_X12_125 imX12_isLight (by omega) so_200 ⟨rfl, rfl⟩ (cm_isLight h2 h3 hla hlb (by omega)) (Nat.le_of_ble_eq_true rfl) ⟨Nat.le_refl _, Nat.le_refl _⟩ ?_
  refine mm_if_eqB (tgt := 86) dX12_powerComes_4 (by decide) (fun c4 => ?_) (fun c4 => ?_)
  · have e : op_pa I n = I := by unfold op_pa; rw [if_neg c4]
    unfold op_pc at hq
    rw [e] at hq hb
    exact lm_pc86 hl hl8 hb hb31 hq
  · refine mm_aload_n 0 dX12_powerComes_7 rfl rfl ?_
    refine mm_getr (b := 201) dX12_powerComes_8 rfl fk_X12_9 rfl so_200 sr_200_0 ?_
    refine mm_iconst (v := 4) dX12_powerComes_11 rfl ?_
    refine mm_sipush (v := 9999) dX12_powerComes_12 rfl ?_
    refine mm_aload_n 0 dX12_powerComes_15 rfl rfl ?_
    refine mm_getr (b := 201) dX12_powerComes_16 rfl fk_X12_9 rfl so_200 sr_200_0 ?_
    refine mm_iconst (v := 4) dX12_powerComes_19 rfl ?_
    refine mm_at (pc' := 20) rfl ?_
    refine mm_ialdN (4) dX12_powerComes_20 sa_201 (by omega) (by omega) ?_
    refine mm_aload_n 0 dX12_powerComes_21 rfl rfl ?_
    refine mm_getr (b := 201) dX12_powerComes_22 rfl fk_X12_9 rfl so_200 sr_200_0 ?_
    refine mm_iconst (v := 5) dX12_powerComes_25 rfl ?_
    refine mm_ialdN (5) dX12_powerComes_26 sa_201 (by omega) (by omega) ?_
    refine mm_iadd dX12_powerComes_27 ?_
    refine mm_min dX12_powerComes_28 rfl ml_X12_106 jm_min (by omega) (Nat.le_of_ble_eq_true rfl) ⟨Nat.le_refl _, Nat.le_refl _⟩ ?_
    refine mm_iastN (4) dX12_powerComes_31 sa_201 (by omega) (by omega) ?_
    refine mm_at (pc' := 32) rfl ?_
    refine mm_iconst (v := 0) dX12_powerComes_32 rfl ?_
    refine mm_istore_n (ls' := [(1, .int (0)), (0, .ref 200)]) dX12_powerComes_33 rfl (by decide) rfl ?_
    have e : op_pa I n = pa_m (mm_up I 201 4 (if (I 201 4) + (I 201 5) < 9999 then (I 201 4) + (I 201 5) else 9999)) n := by unfold op_pa; rw [if_pos c4]
    unfold op_pc at hq
    rw [e] at hq hb
    refine lm_pa (I := mm_up I 201 4 (if (I 201 4) + (I 201 5) < 9999 then (I 201 4) + (I 201 5) else 9999)) ((mm_up_ni (show 16 ≠ 4 by decide)).trans hm) hm5 hd ?_ (n + 1) 0 (Nat.zero_le _) (by omega)
    exact mm_sub [1] rfl (lm_pc86 (I := pa_m (mm_up I 201 4 (if (I 201 4) + (I 201 5) < 9999 then (I 201 4) + (I 201 5) else 9999)) n) (l := l) ((pa_ne n (fun _ k _ => by omega)).trans ((mm_up_ni (show 15 ≠ 4 by decide)).trans hl)) hl8 hb hb31 hq)
