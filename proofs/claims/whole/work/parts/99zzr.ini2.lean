/-! THE REFERENCE's constructor, and the shape when both are done -/
theorem rf_1 : rfL.all (fun e => sh_S.2.2 e.1 e.2.1 == some e.2.2) = true := by decide +kernel
theorem rf_2 : (List.range 214).all (fun a => (List.range 31).all (fun k => (sh_S.2.2 a k).isNone || rfL.any (fun e => e.1 == a && e.2.1 == k))) = true := by decide +kernel
theorem rf_3 : sh_Rl.length = 214 ∧ sh_Rl.all (fun l => decide (l.length ≤ 31)) = true := by decide +kernel
theorem rf_4 : rfL.take 225 = rfL := by decide +kernel
theorem sh_none {a k : Nat} (h : 214 ≤ a ∨ 31 ≤ k) : sh_S.2.2 a k = none := by
  show (sh_Rl.getD a []).getD k none = none
  by_cases ha : a < 214
  · have hk : 31 ≤ k := by omega
    have hl : a < sh_Rl.length := by rw [rf_3.1]; exact ha
    have e : sh_Rl.getD a [] = sh_Rl[a] := by rw [List.getD_eq_getElem?_getD, List.getElem?_eq_getElem hl]; rfl
    rw [e]
    have q := of_decide_eq_true (List.all_eq_true.mp rf_3.2 _ (List.getElem_mem hl))
    rw [List.getD_eq_getElem?_getD, List.getElem?_eq_none (by omega)]; rfl
  · rw [List.getD_eq_getElem?_getD (l := sh_Rl), List.getElem?_eq_none (by rw [rf_3.1]; omega)]; rfl
theorem shT_S : shT 214 225 = sh_S := by
  refine Prod.ext rfl (Prod.ext rfl (funext fun a => funext fun k => ?_))
  show rfF 225 a k = sh_S.2.2 a k
  unfold rfF
  rw [rf_4]
  cases hf : rfL.find? (fun e => e.1 == a && e.2.1 == k) with
  | none =>
    show none = sh_S.2.2 a k
    by_cases h : 214 ≤ a ∨ 31 ≤ k
    · exact (sh_none h).symm
    · have h1 := List.all_eq_true.mp rf_2 a (List.mem_range.mpr (by omega))
      have h2 := List.all_eq_true.mp h1 k (List.mem_range.mpr (by omega))
      rcases Bool.or_eq_true_iff.mp h2 with h3 | h3
      · exact (Option.isNone_iff_eq_none.mp h3).symm
      · obtain ⟨e, he, hp⟩ := List.any_eq_true.mp h3
        exact absurd hp (List.find?_eq_none.mp hf e he)
  | some e =>
    show some e.2.2 = sh_S.2.2 a k
    have hp := List.find?_some hf
    have he := List.mem_of_find?_eq_some hf
    have q := Bool.and_eq_true_iff.mp hp
    have h1 := beq_iff_eq.mp (List.all_eq_true.mp rf_1 e he)
    rw [← beq_iff_eq.mp q.1, ← beq_iff_eq.mp q.2]
    exact h1.symm
def im_X12_200 (I : mm_I) : mm_I := op_lg (mm_up (mm_up (mm_up (mm_up (mm_up (mm_up (mm_up (I) 205 0 (-1)) 205 1 (-1)) 201 2 (nI 14)) 201 3 (nI 14)) 201 4 (nI 100)) 201 5 (nI 10)) 201 6 (nI 3)) 6 4
set_option maxRecDepth 100000 in
set_option maxHeartbeats 4000000 in
theorem ini_X12_200 {g : mm_G} {d : Nat} {I : mm_I} (hd : 8 ≤ d) (hz : ∀ x, 200 ≤ x → ∀ k, I x k = 0) : mm_Ct g zX12_init d (13, 8249) [.ref 200] (shT 201 201) I (fun r S' I' => r = none ∧ S' = sh_S ∧ I' = im_X12_200 I) := by
  refine mm_begin (ls := [(0, .ref 200)]) (Nat.le_of_ble_eq_true rfl) rfl rfl ?_
  refine mm_aload_n 0 dX12_init_0 rfl rfl ?_
  refine mm_obj dX12_init_1 rfl ml_X12_1 jm_obj (by omega) (Nat.le_of_ble_eq_true rfl) ?_
  refine mm_at (pc' := 4) rfl ?_
  refine mm_aload_n 0 dX12_init_4 rfl rfl ?_
  refine mm_sipush (v := nI 3734) dX12_init_5 (by decide) ?_
  refine mm_newaT (n := 201) (m := 3734) (n' := 202) (Al' := (1, 3734)) dX12_init_8 jm_arr (by decide) (by decide) (by decide) rfl rfl sa_201.2 (by decide +kernel) (hz 201 (by decide)) rfl rfl ?_
  refine mm_putrT (t' := 202) dX12_init_10 rfl rfl fk_X12_9 (fun C T N h => by cases h; exact ⟨rfl, rfl⟩) rfl ⟨(Nat.le_of_ble_eq_true rfl), so_200.2⟩ (Or.inl (Nat.le_of_ble_eq_true rfl)) (by decide +kernel) (by decide +kernel) rfl ?_
  refine mm_aload_n 0 dX12_init_13 rfl rfl ?_
  refine mm_sipush (v := nI 3734) dX12_init_14 (by decide) ?_
  refine mm_newaT (n := 202) (m := 3734) (n' := 203) (Al' := (2, 7468)) dX12_init_17 jm_arr (by decide) (by decide) (by decide) rfl rfl sa_202.2 (by decide +kernel) (hz 202 (by decide)) rfl rfl ?_
  refine mm_putrT (t' := 203) dX12_init_19 rfl rfl fk_X12_13 (fun C T N h => by cases h; exact ⟨rfl, rfl⟩) rfl ⟨(Nat.le_of_ble_eq_true rfl), so_200.2⟩ (Or.inl (Nat.le_of_ble_eq_true rfl)) (by decide +kernel) (by decide +kernel) rfl ?_
  refine mm_aload_n 0 dX12_init_22 rfl rfl ?_
  refine mm_bipush (v := nI 96) dX12_init_23 (by decide) ?_
  refine mm_newaT (n := 203) (m := 96) (n' := 204) (Al' := (3, 7564)) dX12_init_25 jm_arr (by decide) (by decide) (by decide) rfl rfl sa_203.2 (by decide +kernel) (hz 203 (by decide)) rfl rfl ?_
  refine mm_putrT (t' := 204) dX12_init_27 rfl rfl fk_X12_16 (fun C T N h => by cases h; exact ⟨rfl, rfl⟩) rfl ⟨(Nat.le_of_ble_eq_true rfl), so_200.2⟩ (Or.inl (Nat.le_of_ble_eq_true rfl)) (by decide +kernel) (by decide +kernel) rfl ?_
  refine mm_aload_n 0 dX12_init_30 rfl rfl ?_
  refine mm_bipush (v := nI 100) dX12_init_31 (by decide) ?_
  refine mm_newaT (n := 204) (m := 100) (n' := 205) (Al' := (4, 7664)) dX12_init_33 jm_arr (by decide) (by decide) (by decide) rfl rfl sa_204.2 (by decide +kernel) (hz 204 (by decide)) rfl rfl ?_
  refine mm_putrT (t' := 205) dX12_init_35 rfl rfl fk_X12_19 (fun C T N h => by cases h; exact ⟨rfl, rfl⟩) rfl ⟨(Nat.le_of_ble_eq_true rfl), so_200.2⟩ (Or.inl (Nat.le_of_ble_eq_true rfl)) (by decide +kernel) (by decide +kernel) rfl ?_
  refine mm_aload_n 0 dX12_init_38 rfl rfl ?_
  refine mm_iconst (v := nI 2) dX12_init_39 (by decide) ?_
  refine mm_newaT (n := 205) (m := 2) (n' := 206) (Al' := (5, 7666)) dX12_init_40 jm_arr (by decide) (by decide) (by decide) rfl rfl sa_205.2 (by decide +kernel) (hz 205 (by decide)) rfl rfl ?_
  refine mm_dup dX12_init_42 rfl ?_
  refine mm_iconst (v := nI 0) dX12_init_43 (by decide) ?_
  refine mm_iconst (v := -1) dX12_init_44 (by decide) ?_
  refine mm_iastN 0 dX12_init_45 ⟨(Nat.le_of_ble_eq_true rfl), sa_205.2⟩ (by decide) (by decide) ?_
  refine mm_dup dX12_init_46 rfl ?_
  refine mm_iconst (v := nI 1) dX12_init_47 (by decide) ?_
  refine mm_iconst (v := -1) dX12_init_48 (by decide) ?_
  refine mm_iastN 1 dX12_init_49 ⟨(Nat.le_of_ble_eq_true rfl), sa_205.2⟩ (by decide) (by decide) ?_
  refine mm_putrT (t' := 206) dX12_init_50 rfl rfl fk_X12_22 (fun C T N h => by cases h; exact ⟨rfl, rfl⟩) rfl ⟨(Nat.le_of_ble_eq_true rfl), so_200.2⟩ (Or.inl (Nat.le_of_ble_eq_true rfl)) (by decide +kernel) (by decide +kernel) rfl ?_
  refine mm_aload_n 0 dX12_init_53 rfl rfl ?_
  refine mm_sipush (v := nI 160) dX12_init_54 (by decide) ?_
  refine mm_newaT (n := 206) (m := 160) (n' := 207) (Al' := (6, 7826)) dX12_init_57 jm_arr (by decide) (by decide) (by decide) rfl rfl sa_206.2 (by decide +kernel) (fun k => by rw [mm_up_a (by decide), mm_up_a (by decide)]; exact hz 206 (by decide) k) rfl rfl ?_
  refine mm_putrT (t' := 207) dX12_init_59 rfl rfl fk_X12_25 (fun C T N h => by cases h; exact ⟨rfl, rfl⟩) rfl ⟨(Nat.le_of_ble_eq_true rfl), so_200.2⟩ (Or.inl (Nat.le_of_ble_eq_true rfl)) (by decide +kernel) (by decide +kernel) rfl ?_
  refine mm_aload_n 0 dX12_init_62 rfl rfl ?_
  refine mm_bipush (v := nI 80) dX12_init_63 (by decide) ?_
  refine mm_newaT (n := 207) (m := 80) (n' := 208) (Al' := (7, 7906)) dX12_init_65 jm_arr (by decide) (by decide) (by decide) rfl rfl sa_207.2 (by decide +kernel) (fun k => by rw [mm_up_a (by decide), mm_up_a (by decide)]; exact hz 207 (by decide) k) rfl rfl ?_
  refine mm_putrT (t' := 208) dX12_init_67 rfl rfl fk_X12_28 (fun C T N h => by cases h; exact ⟨rfl, rfl⟩) rfl ⟨(Nat.le_of_ble_eq_true rfl), so_200.2⟩ (Or.inl (Nat.le_of_ble_eq_true rfl)) (by decide +kernel) (by decide +kernel) rfl ?_
  refine mm_aload_n 0 dX12_init_70 rfl rfl ?_
  refine mm_bipush (v := nI 80) dX12_init_71 (by decide) ?_
  refine mm_newaT (n := 208) (m := 80) (n' := 209) (Al' := (8, 7986)) dX12_init_73 jm_arr (by decide) (by decide) (by decide) rfl rfl sa_208.2 (by decide +kernel) (fun k => by rw [mm_up_a (by decide), mm_up_a (by decide)]; exact hz 208 (by decide) k) rfl rfl ?_
  refine mm_putrT (t' := 209) dX12_init_75 rfl rfl fk_X12_31 (fun C T N h => by cases h; exact ⟨rfl, rfl⟩) rfl ⟨(Nat.le_of_ble_eq_true rfl), so_200.2⟩ (Or.inl (Nat.le_of_ble_eq_true rfl)) (by decide +kernel) (by decide +kernel) rfl ?_
  refine mm_aload_n 0 dX12_init_78 rfl rfl ?_
  refine mm_bipush (v := nI 11) dX12_init_79 (by decide) ?_
  refine mm_newqT (q := 13) (n := 209) (m := 11) (n' := 210) (Al' := (9, 7997)) dX12_init_81 rfl (by decide) cn_X12_34 (by decide) (by decide) (by decide) rfl rfl sq_209.2 (by decide +kernel) (fun k => by rw [mm_up_a (by decide), mm_up_a (by decide)]; exact hz 209 (by decide) k) rfl rfl ?_
  refine mm_dup dX12_init_84 rfl ?_
  refine mm_iconst (v := nI 0) dX12_init_85 (by decide) ?_
  refine mm_ldcS (t := 0) (tx := "go") dX12_init_86 rfl (by decide) ?_
  refine mm_aastS (m := 11) (i := 0) (t0 := 0) (t' := 210) dX12_init_88 ⟨(Nat.le_of_ble_eq_true rfl), sq_209.2⟩ (by decide) ⟨by decide, rfl⟩ (by decide +kernel) (by decide +kernel) rfl ?_
  refine mm_dup dX12_init_89 rfl ?_
  refine mm_iconst (v := nI 1) dX12_init_90 (by decide) ?_
  refine mm_ldcS (t := 1) (tx := "scoop") dX12_init_91 rfl (by decide) ?_
  refine mm_aastS (m := 11) (i := 1) (t0 := 1) (t' := 211) dX12_init_93 ⟨(Nat.le_of_ble_eq_true rfl), sq_209.2⟩ (by decide) ⟨by decide, rfl⟩ (by decide +kernel) (by decide +kernel) rfl ?_
  refine mm_dup dX12_init_94 rfl ?_
  refine mm_iconst (v := nI 2) dX12_init_95 (by decide) ?_
  refine mm_ldcS (t := 2) (tx := "drop") dX12_init_96 rfl (by decide) ?_
  refine mm_aastS (m := 11) (i := 2) (t0 := 2) (t' := 212) dX12_init_98 ⟨(Nat.le_of_ble_eq_true rfl), sq_209.2⟩ (by decide) ⟨by decide, rfl⟩ (by decide +kernel) (by decide +kernel) rfl ?_
  refine mm_dup dX12_init_99 rfl ?_
  refine mm_iconst (v := nI 3) dX12_init_100 (by decide) ?_
  refine mm_ldcS (t := 3) (tx := "fuse") dX12_init_101 rfl (by decide) ?_
  refine mm_aastS (m := 11) (i := 3) (t0 := 3) (t' := 213) dX12_init_103 ⟨(Nat.le_of_ble_eq_true rfl), sq_209.2⟩ (by decide) ⟨by decide, rfl⟩ (by decide +kernel) (by decide +kernel) rfl ?_
  refine mm_dup dX12_init_104 rfl ?_
  refine mm_iconst (v := nI 4) dX12_init_105 (by decide) ?_
  refine mm_ldcS (t := 4) (tx := "charge") dX12_init_106 rfl (by decide) ?_
  refine mm_aastS (m := 11) (i := 4) (t0 := 4) (t' := 214) dX12_init_108 ⟨(Nat.le_of_ble_eq_true rfl), sq_209.2⟩ (by decide) ⟨by decide, rfl⟩ (by decide +kernel) (by decide +kernel) rfl ?_
  refine mm_dup dX12_init_109 rfl ?_
  refine mm_iconst (v := nI 5) dX12_init_110 (by decide) ?_
  refine mm_ldcS (t := 5) (tx := "mend") dX12_init_111 rfl (by decide) ?_
  refine mm_aastS (m := 11) (i := 5) (t0 := 5) (t' := 215) dX12_init_113 ⟨(Nat.le_of_ble_eq_true rfl), sq_209.2⟩ (by decide) ⟨by decide, rfl⟩ (by decide +kernel) (by decide +kernel) rfl ?_
  refine mm_dup dX12_init_114 rfl ?_
  refine mm_bipush (v := nI 6) dX12_init_115 (by decide) ?_
  refine mm_ldcS (t := 6) (tx := "wait") dX12_init_117 rfl (by decide) ?_
  refine mm_aastS (m := 11) (i := 6) (t0 := 6) (t' := 216) dX12_init_119 ⟨(Nat.le_of_ble_eq_true rfl), sq_209.2⟩ (by decide) ⟨by decide, rfl⟩ (by decide +kernel) (by decide +kernel) rfl ?_
  refine mm_dup dX12_init_120 rfl ?_
  refine mm_bipush (v := nI 7) dX12_init_121 (by decide) ?_
  refine mm_ldcS (t := 7) (tx := "until") dX12_init_123 rfl (by decide) ?_
  refine mm_aastS (m := 11) (i := 7) (t0 := 7) (t' := 217) dX12_init_125 ⟨(Nat.le_of_ble_eq_true rfl), sq_209.2⟩ (by decide) ⟨by decide, rfl⟩ (by decide +kernel) (by decide +kernel) rfl ?_
  refine mm_dup dX12_init_126 rfl ?_
  refine mm_bipush (v := nI 8) dX12_init_127 (by decide) ?_
  refine mm_ldcS (t := 8) (tx := "if") dX12_init_129 rfl (by decide) ?_
  refine mm_aastS (m := 11) (i := 8) (t0 := 8) (t' := 218) dX12_init_131 ⟨(Nat.le_of_ble_eq_true rfl), sq_209.2⟩ (by decide) ⟨by decide, rfl⟩ (by decide +kernel) (by decide +kernel) rfl ?_
  refine mm_dup dX12_init_132 rfl ?_
  refine mm_bipush (v := nI 9) dX12_init_133 (by decide) ?_
  refine mm_ldcS (t := 9) (tx := "while") dX12_init_135 rfl (by decide) ?_
  refine mm_aastS (m := 11) (i := 9) (t0 := 9) (t' := 219) dX12_init_137 ⟨(Nat.le_of_ble_eq_true rfl), sq_209.2⟩ (by decide) ⟨by decide, rfl⟩ (by decide +kernel) (by decide +kernel) rfl ?_
  refine mm_dup dX12_init_138 rfl ?_
  refine mm_bipush (v := nI 10) dX12_init_139 (by decide) ?_
  refine mm_ldcS (t := 10) (tx := "repeat") dX12_init_141 rfl (by decide) ?_
  refine mm_aastS (m := 11) (i := 10) (t0 := 10) (t' := 220) dX12_init_143 ⟨(Nat.le_of_ble_eq_true rfl), sq_209.2⟩ (by decide) ⟨by decide, rfl⟩ (by decide +kernel) (by decide +kernel) rfl ?_
  refine mm_putrT (t' := 221) dX12_init_144 rfl rfl fk_X12_58 (fun C T N h => by cases h; exact ⟨rfl, rfl⟩) rfl ⟨(Nat.le_of_ble_eq_true rfl), so_200.2⟩ (Or.inl (Nat.le_of_ble_eq_true rfl)) (by decide +kernel) (by decide +kernel) rfl ?_
  refine mm_aload_n 0 dX12_init_147 rfl rfl ?_
  refine mm_sipush (v := nI 160) dX12_init_148 (by decide) ?_
  refine mm_newaT (n := 210) (m := 160) (n' := 211) (Al' := (10, 8157)) dX12_init_151 jm_arr (by decide) (by decide) (by decide) rfl rfl sa_210.2 (by decide +kernel) (fun k => by rw [mm_up_a (by decide), mm_up_a (by decide)]; exact hz 210 (by decide) k) rfl rfl ?_
  refine mm_putrT (t' := 222) dX12_init_153 rfl rfl fk_X12_62 (fun C T N h => by cases h; exact ⟨rfl, rfl⟩) rfl ⟨(Nat.le_of_ble_eq_true rfl), so_200.2⟩ (Or.inl (Nat.le_of_ble_eq_true rfl)) (by decide +kernel) (by decide +kernel) rfl ?_
  refine mm_aload_n 0 dX12_init_156 rfl rfl ?_
  refine mm_bipush (v := nI 6) dX12_init_157 (by decide) ?_
  refine mm_newaT (n := 211) (m := 6) (n' := 212) (Al' := (11, 8163)) dX12_init_159 jm_arr (by decide) (by decide) (by decide) rfl rfl sa_211.2 (by decide +kernel) (fun k => by rw [mm_up_a (by decide), mm_up_a (by decide)]; exact hz 211 (by decide) k) rfl rfl ?_
  refine mm_putrT (t' := 223) dX12_init_161 rfl rfl fk_X12_65 (fun C T N h => by cases h; exact ⟨rfl, rfl⟩) rfl ⟨(Nat.le_of_ble_eq_true rfl), so_200.2⟩ (Or.inl (Nat.le_of_ble_eq_true rfl)) (by decide +kernel) (by decide +kernel) rfl ?_
  refine mm_aload_n 0 dX12_init_164 rfl rfl ?_
  refine mm_bipush (v := nI 6) dX12_init_165 (by decide) ?_
  refine mm_newaT (n := 212) (m := 6) (n' := 213) (Al' := (12, 8169)) dX12_init_167 jm_arr (by decide) (by decide) (by decide) rfl rfl sa_212.2 (by decide +kernel) (fun k => by rw [mm_up_a (by decide), mm_up_a (by decide)]; exact hz 212 (by decide) k) rfl rfl ?_
  refine mm_putrT (t' := 224) dX12_init_169 rfl rfl fk_X12_68 (fun C T N h => by cases h; exact ⟨rfl, rfl⟩) rfl ⟨(Nat.le_of_ble_eq_true rfl), so_200.2⟩ (Or.inl (Nat.le_of_ble_eq_true rfl)) (by decide +kernel) (by decide +kernel) rfl ?_
  refine mm_aload_n 0 dX12_init_172 rfl rfl ?_
  refine mm_bipush (v := nI 80) dX12_init_173 (by decide) ?_
  refine mm_newaT (n := 213) (m := 80) (n' := 214) (Al' := (13, 8249)) dX12_init_175 jm_arr (by decide) (by decide) (by decide) rfl rfl sa_213.2 (by decide +kernel) (fun k => by rw [mm_up_a (by decide), mm_up_a (by decide)]; exact hz 213 (by decide) k) rfl rfl ?_
  refine mm_putrT (t' := 225) dX12_init_177 rfl rfl fk_X12_71 (fun C T N h => by cases h; exact ⟨rfl, rfl⟩) rfl ⟨(Nat.le_of_ble_eq_true rfl), so_200.2⟩ (Or.inl (Nat.le_of_ble_eq_true rfl)) (by decide +kernel) (by decide +kernel) rfl ?_
  refine mm_aload_n 0 dX12_init_180 rfl rfl ?_
  refine mm_getr (b := 201) dX12_init_181 rfl fk_X12_9 rfl ⟨(Nat.le_of_ble_eq_true rfl), so_200.2⟩ (by decide +kernel) ?_
  refine mm_iconst (v := nI 2) dX12_init_184 (by decide) ?_
  refine mm_bipush (v := nI 14) dX12_init_185 (by decide) ?_
  refine mm_iastN 2 dX12_init_187 ⟨(Nat.le_of_ble_eq_true rfl), sa_201.2⟩ (by decide) (by decide) ?_
  refine mm_aload_n 0 dX12_init_188 rfl rfl ?_
  refine mm_getr (b := 201) dX12_init_189 rfl fk_X12_9 rfl ⟨(Nat.le_of_ble_eq_true rfl), so_200.2⟩ (by decide +kernel) ?_
  refine mm_iconst (v := nI 3) dX12_init_192 (by decide) ?_
  refine mm_bipush (v := nI 14) dX12_init_193 (by decide) ?_
  refine mm_iastN 3 dX12_init_195 ⟨(Nat.le_of_ble_eq_true rfl), sa_201.2⟩ (by decide) (by decide) ?_
  refine mm_aload_n 0 dX12_init_196 rfl rfl ?_
  refine mm_getr (b := 201) dX12_init_197 rfl fk_X12_9 rfl ⟨(Nat.le_of_ble_eq_true rfl), so_200.2⟩ (by decide +kernel) ?_
  refine mm_iconst (v := nI 4) dX12_init_200 (by decide) ?_
  refine mm_bipush (v := nI 100) dX12_init_201 (by decide) ?_
  refine mm_iastN 4 dX12_init_203 ⟨(Nat.le_of_ble_eq_true rfl), sa_201.2⟩ (by decide) (by decide) ?_
  refine mm_aload_n 0 dX12_init_204 rfl rfl ?_
  refine mm_getr (b := 201) dX12_init_205 rfl fk_X12_9 rfl ⟨(Nat.le_of_ble_eq_true rfl), so_200.2⟩ (by decide +kernel) ?_
  refine mm_iconst (v := nI 5) dX12_init_208 (by decide) ?_
  refine mm_bipush (v := nI 10) dX12_init_209 (by decide) ?_
  refine mm_iastN 5 dX12_init_211 ⟨(Nat.le_of_ble_eq_true rfl), sa_201.2⟩ (by decide) (by decide) ?_
  refine mm_aload_n 0 dX12_init_212 rfl rfl ?_
  refine mm_getr (b := 201) dX12_init_213 rfl fk_X12_9 rfl ⟨(Nat.le_of_ble_eq_true rfl), so_200.2⟩ (by decide +kernel) ?_
  refine mm_bipush (v := nI 6) dX12_init_216 (by decide) ?_
  refine mm_iconst (v := nI 3) dX12_init_218 (by decide) ?_
  refine mm_iastN 6 dX12_init_219 ⟨(Nat.le_of_ble_eq_true rfl), sa_201.2⟩ (by decide) (by decide) ?_
  refine mm_aload_n 0 dX12_init_220 rfl rfl ?_
  refine mm_bipush (v := nI 6) dX12_init_221 (by decide) ?_
  refine mm_iconst (v := nI 4) dX12_init_223 (by decide) ?_
  rw [shT_S]
  refine mm_cV2v (dz := d - 1) dX12_init_224 rfl mzX12_layGround ml_X12_74 imX12_layGround (by omega) so_200 ⟨rfl, rfl⟩ (cm_layGround (w := 6) (h := 4) (by decide)) (Nat.le_of_ble_eq_true rfl) (by decide) ?_
  refine mm_at (pc' := 227) rfl ?_
  exact mm_vret dX12_init_227 rfl (by decide) ⟨rfl, rfl, rfl⟩
