/-! THE REFERENCE: names and signs -/
def sp_nm (N : Nat → Int32) (w m c : Nat) : Nat → Int32
  | 0 => N (630 + 40 * m + 2)
  | 1 => N (630 + 40 * m + 4)
  | 2 => N (630 + 40 * m + 3)
  | 3 => if sp_light N then 1 else 0
  | 4 => N (110 + c)
  | 5 => N (190 + c)
  | 6 => N 4
  | 7 => sp_rest N
  | 8 => nI (c % w)
  | _ => nI (c / w)
def sp_dn (a b : Int32) : Nat → Int32
  | 0 => if ¬ a = 0 ∨ ¬ b = 0 then 1 else 0
  | 1 => if ¬ a = 0 ∧ ¬ b = 0 then 1 else 0
  | 2 => if ¬ b ≤ a then 1 else 0
  | 3 => if a = b then 1 else 0
  | 4 => if ¬ a ≤ b then 1 else 0
  | 5 => a + b
  | 6 => a - b
  | _ => a * b
set_option maxRecDepth 100000 in
set_option maxHeartbeats 600000 in
theorem cm_named {g : mm_G} {I : mm_I} {d : Nat} {w h : Nat} (hW : mo_W (I 201) w h) {la lb : Nat} (h2 : I 201 2 = nI la) (h3 : I 201 3 = nI lb) (hla : 1 ≤ la ∧ la ≤ 24) (hlb : lb ≤ 24) {m c k : Nat} (hmm : m < 5) (hc1 : I 201 (630 + 40 * m + 1) = nI c) (hcl : c < 80) (hk : k < 10) (hd : 2 ≤ d) : mm_Ci g zX12_named d [.ref 200, .int (nI m), .int (nI k)] sh_S I (sp_nm (I 201) w m c k) I := by
  have hc := mo_W_c hW
  obtain ⟨-, -, hw1, hw2, hh1, hh2⟩ := id hW
  refine mm_Ci_of (fun Q hq => ?_)
  refine mm_begin (ls := [(0, .ref 200), (1, .int (nI (m))), (2, .int (nI (k)))]) (Nat.le_of_ble_eq_true rfl) rfl rfl ?_
  refine mm_aload_n 0 dX12_named_0 rfl rfl ?_
  refine mm_getr (b := 201) dX12_named_1 rfl fk_X12_9 rfl so_200 sr_200_0 ?_
  refine mm_iload_n 1 dX12_named_4 rfl rfl ?_
  refine mm_iconst (v := 1) dX12_named_5 rfl ?_
  refine mm_cS2i (dz := d - 1) dX12_named_6 rfl mzX12_of ml_X12_87 imX12_of (by omega) (cm_of (m) (1)) (Nat.le_of_ble_eq_true rfl) ⟨Nat.le_refl _, Nat.le_refl _⟩ ?_
  refine mm_ialdN (630 + 40 * m + 1) dX12_named_9 sa_201 (by omega) (by omega) ?_
  refine mm_top (v := nI (c)) hc1 ?_
  refine mm_istore_n (ls' := [(3, .int (nI (c))), (0, .ref 200), (1, .int (nI (m))), (2, .int (nI (k)))]) dX12_named_10 rfl (by decide) rfl ?_
  refine mm_iload_n 3 dX12_named_11 rfl rfl ?_
  refine mm_at (pc' := 12) rfl ?_
  by_cases e12_0 : (k) = 0
  · refine mm_tabIn (0) (tgt := 64) dX12_named_12 (by rw [e12_0]; rfl) (by decide) (by decide) rfl (by decide) ?_
    subst e12_0
    refine mm_aload_n 1 dX12_named_64 rfl rfl ?_
    refine mm_getr (b := 201) dX12_named_65 rfl fk_X12_9 rfl so_200 sr_200_0 ?_
    refine mm_iload_n 2 dX12_named_68 rfl rfl ?_
    refine mm_iconst (v := 2) dX12_named_69 rfl ?_
    refine mm_cS2i (dz := d - 1) dX12_named_70 rfl mzX12_of ml_X12_87 imX12_of (by omega) (cm_of (m) (2)) (Nat.le_of_ble_eq_true rfl) ⟨Nat.le_refl _, Nat.le_refl _⟩ ?_
    refine mm_ialdN (630 + 40 * m + 2) dX12_named_73 sa_201 (by omega) (by omega) ?_
    refine mm_iret dX12_named_74 rfl ⟨Nat.le_refl _, Nat.le_refl _⟩ ?_
    exact hq
  by_cases e12_1 : (k) = 1
  · refine mm_tabIn (1) (tgt := 75) dX12_named_12 (by rw [e12_1]; rfl) (by decide) (by decide) rfl (by decide) ?_
    subst e12_1
    refine mm_aload_n 1 dX12_named_75 rfl rfl ?_
    refine mm_getr (b := 201) dX12_named_76 rfl fk_X12_9 rfl so_200 sr_200_0 ?_
    refine mm_iload_n 2 dX12_named_79 rfl rfl ?_
    refine mm_iconst (v := 4) dX12_named_80 rfl ?_
    refine mm_cS2i (dz := d - 1) dX12_named_81 rfl mzX12_of ml_X12_87 imX12_of (by omega) (cm_of (m) (4)) (Nat.le_of_ble_eq_true rfl) ⟨Nat.le_refl _, Nat.le_refl _⟩ ?_
    refine mm_ialdN (630 + 40 * m + 4) dX12_named_84 sa_201 (by omega) (by omega) ?_
    refine mm_iret dX12_named_85 rfl ⟨Nat.le_refl _, Nat.le_refl _⟩ ?_
    exact hq
  by_cases e12_2 : (k) = 2
  · refine mm_tabIn (2) (tgt := 86) dX12_named_12 (by rw [e12_2]; rfl) (by decide) (by decide) rfl (by decide) ?_
    subst e12_2
    refine mm_aload_n 1 dX12_named_86 rfl rfl ?_
    refine mm_getr (b := 201) dX12_named_87 rfl fk_X12_9 rfl so_200 sr_200_0 ?_
    refine mm_iload_n 2 dX12_named_90 rfl rfl ?_
    refine mm_iconst (v := 3) dX12_named_91 rfl ?_
    refine mm_cS2i (dz := d - 1) dX12_named_92 rfl mzX12_of ml_X12_87 imX12_of (by omega) (cm_of (m) (3)) (Nat.le_of_ble_eq_true rfl) ⟨Nat.le_refl _, Nat.le_refl _⟩ ?_
    refine mm_ialdN (630 + 40 * m + 3) dX12_named_95 sa_201 (by omega) (by omega) ?_
    refine mm_iret dX12_named_96 rfl ⟨Nat.le_refl _, Nat.le_refl _⟩ ?_
    exact hq
  by_cases e12_3 : (k) = 3
  · refine mm_tabIn (3) (tgt := 97) dX12_named_12 (by rw [e12_3]; rfl) (by decide) (by decide) rfl (by decide) ?_
    subst e12_3
    refine mm_aload_n 1 dX12_named_97 rfl rfl ?_
    refine mm_cV0i (dz := d - 1) dX12_named_98 rfl mzX12_isLight ml_X12_125 imX12_isLight (by omega) so_200 ⟨rfl, rfl⟩ (cm_isLight h2 h3 hla hlb (by omega)) (Nat.le_of_ble_eq_true rfl) ⟨Nat.le_refl _, Nat.le_refl _⟩ ?_
    have K101 : mm_Ex g zX12_named d (0, 0) (0, 0) sh_S (I) 109 [(3, .int (nI (c))), (0, .ref 200), (1, .int (nI (m))), (2, .int (nI (3)))] [.int (if sp_light (I 201) then 1 else 0)] Q := by
      refine mm_iret dX12_named_109 rfl ⟨Nat.le_refl _, Nat.le_refl _⟩ ?_
      exact hq
    refine mm_if_eqB (tgt := 108) dX12_named_101 (by decide) (fun c101 => ?_) (fun c101 => ?_)
    · refine mm_iconst (v := 0) dX12_named_108 rfl ?_
      exact mm_top (by first | rfl | (simp [c101]; done) | (rw [if_pos (by simp_all)]; done) | (rw [if_neg (by simp_all)]; done) | (rw [if_pos (by omega)]; done) | (rw [if_neg (by omega)]; done)) K101
    · refine mm_iconst (v := 1) dX12_named_104 rfl ?_
      refine mm_goto (tgt := 109) dX12_named_105 (by decide) ?_
      exact mm_top (by first | rfl | (simp [c101]; done) | (rw [if_pos (by simp_all)]; done) | (rw [if_neg (by simp_all)]; done) | (rw [if_pos (by omega)]; done) | (rw [if_neg (by omega)]; done)) K101
  by_cases e12_4 : (k) = 4
  · refine mm_tabIn (4) (tgt := 110) dX12_named_12 (by rw [e12_4]; rfl) (by decide) (by decide) rfl (by decide) ?_
    subst e12_4
    refine mm_aload_n 1 dX12_named_110 rfl rfl ?_
    refine mm_getr (b := 201) dX12_named_111 rfl fk_X12_9 rfl so_200 sr_200_0 ?_
    refine mm_bipush (v := 110) dX12_named_114 rfl ?_
    refine mm_iload_n 0 dX12_named_116 rfl rfl ?_
    refine mm_iaddN (110) (c) dX12_named_117 ?_
    refine mm_ialdN (110 + c) dX12_named_118 sa_201 (by omega) (by omega) ?_
    refine mm_iret dX12_named_119 rfl ⟨Nat.le_refl _, Nat.le_refl _⟩ ?_
    exact hq
  by_cases e12_5 : (k) = 5
  · refine mm_tabIn (5) (tgt := 120) dX12_named_12 (by rw [e12_5]; rfl) (by decide) (by decide) rfl (by decide) ?_
    subst e12_5
    refine mm_aload_n 1 dX12_named_120 rfl rfl ?_
    refine mm_getr (b := 201) dX12_named_121 rfl fk_X12_9 rfl so_200 sr_200_0 ?_
    refine mm_sipush (v := 190) dX12_named_124 rfl ?_
    refine mm_iload_n 0 dX12_named_127 rfl rfl ?_
    refine mm_iaddN (190) (c) dX12_named_128 ?_
    refine mm_ialdN (190 + c) dX12_named_129 sa_201 (by omega) (by omega) ?_
    refine mm_iret dX12_named_130 rfl ⟨Nat.le_refl _, Nat.le_refl _⟩ ?_
    exact hq
  by_cases e12_6 : (k) = 6
  · refine mm_tabIn (6) (tgt := 131) dX12_named_12 (by rw [e12_6]; rfl) (by decide) (by decide) rfl (by decide) ?_
    subst e12_6
    refine mm_aload_n 1 dX12_named_131 rfl rfl ?_
    refine mm_getr (b := 201) dX12_named_132 rfl fk_X12_9 rfl so_200 sr_200_0 ?_
    refine mm_iconst (v := 4) dX12_named_135 rfl ?_
    refine mm_ialdN (4) dX12_named_136 sa_201 (by omega) (by omega) ?_
    refine mm_iret dX12_named_137 rfl ⟨Nat.le_refl _, Nat.le_refl _⟩ ?_
    exact hq
  by_cases e12_7 : (k) = 7
  · refine mm_tabIn (7) (tgt := 138) dX12_named_12 (by rw [e12_7]; rfl) (by decide) (by decide) rfl (by decide) ?_
    subst e12_7
    refine mm_aload_n 1 dX12_named_138 rfl rfl ?_
    refine mm_cV0i (dz := d - 1) dX12_named_139 rfl mzX12_restOfTick ml_X12_122 imX12_restOfTick (by omega) so_200 ⟨rfl, rfl⟩ (cm_rest h2 h3 hla hlb) (Nat.le_of_ble_eq_true rfl) ⟨Nat.le_refl _, Nat.le_refl _⟩ ?_
    refine mm_iret dX12_named_142 rfl ⟨Nat.le_refl _, Nat.le_refl _⟩ ?_
    exact hq
  by_cases e12_8 : (k) = 8
  · refine mm_tabIn (8) (tgt := 143) dX12_named_12 (by rw [e12_8]; rfl) (by decide) (by decide) rfl (by decide) ?_
    subst e12_8
    refine mm_iload_n 0 dX12_named_143 rfl rfl ?_
    refine mm_aload_n 1 dX12_named_144 rfl rfl ?_
    refine mm_getr (b := 201) dX12_named_145 rfl fk_X12_9 rfl so_200 sr_200_0 ?_
    refine mm_iconst (v := 0) dX12_named_148 rfl ?_
    refine mm_ialdN (0) dX12_named_149 sa_201 (by omega) (by omega) ?_
    refine mm_top (v := nI (w)) hW.1 ?_
    refine mm_iremN (c) (w) dX12_named_150 (by omega) (by omega) (by omega) ?_
    refine mm_iret dX12_named_151 rfl ⟨Nat.le_refl _, Nat.le_refl _⟩ ?_
    exact hq
  refine mm_tabOut 0 9 (tgt := 152) dX12_named_12 rfl (by decide) (fun k hk q => by have q := (nI_eq (by omega) (by omega)).mp q; omega) (by decide) ?_
  refine mm_iload_n 0 dX12_named_152 rfl rfl ?_
  refine mm_aload_n 1 dX12_named_153 rfl rfl ?_
  refine mm_getr (b := 201) dX12_named_154 rfl fk_X12_9 rfl so_200 sr_200_0 ?_
  refine mm_iconst (v := 0) dX12_named_157 rfl ?_
  refine mm_ialdN (0) dX12_named_158 sa_201 (by omega) (by omega) ?_
  refine mm_top (v := nI (w)) hW.1 ?_
  refine mm_idivN (c) (w) dX12_named_159 (by omega) (by omega) (by omega) ?_
  refine mm_iret dX12_named_160 rfl ⟨Nat.le_refl _, Nat.le_refl _⟩ ?_
  have e : k = 9 := by omega
  subst e
  exact hq
set_option maxRecDepth 100000 in
set_option maxHeartbeats 600000 in
theorem cm_done {g : mm_G} {I : mm_I} {d : Nat} {k : Nat} {a b : Int32} (hk : k < 8) : mm_Ci g zX12_done d [.int (nI k), .int a, .int b] sh_S I (sp_dn a b k) I := by
  refine mm_Ci_of (fun Q hq => ?_)
  refine mm_begin (ls := [(0, .int (nI (k))), (1, .int (a)), (2, .int (b))]) (Nat.le_of_ble_eq_true rfl) rfl rfl ?_
  refine mm_iload_n 0 dX12_done_0 rfl rfl ?_
  by_cases e1_0 : (k) = 0
  · refine mm_tabIn (0) (tgt := 44) dX12_done_1 (by rw [e1_0]; rfl) (by decide) (by decide) rfl (by decide) ?_
    subst e1_0
    refine mm_iload_n 1 dX12_done_44 rfl rfl ?_
    have K45 : mm_Ex g zX12_done d (0, 0) (0, 0) sh_S (I) 57 [(0, .int (nI (0))), (1, .int (a)), (2, .int (b))] [.int (if ¬ ((a) = 0) ∨ (¬ ((b) = 0)) then 1 else 0)] Q := by
      refine mm_iret dX12_done_57 rfl ⟨Nat.le_refl _, Nat.le_refl _⟩ ?_
      exact hq
    refine mm_if_ne (tgt := 52) dX12_done_45 (by decide) (fun c45 => ?_) (fun c45 => ?_)
    · refine mm_iconst (v := 1) dX12_done_52 rfl ?_
      refine mm_goto (tgt := 57) dX12_done_53 (by decide) ?_
      exact mm_top (by first | rfl | (simp [c45]; done) | (rw [if_pos (by simp_all)]; done) | (rw [if_neg (by simp_all)]; done) | (rw [if_pos (by omega)]; done) | (rw [if_neg (by omega)]; done)) K45
    · refine mm_iload_n 2 dX12_done_48 rfl rfl ?_
      refine mm_if_eq (tgt := 56) dX12_done_49 (by decide) (fun c49 => ?_) (fun c49 => ?_)
      · refine mm_iconst (v := 0) dX12_done_56 rfl ?_
        exact mm_top (by first | rfl | (simp [c45, c49]; done) | (rw [if_pos (by simp_all)]; done) | (rw [if_neg (by simp_all)]; done) | (rw [if_pos (by omega)]; done) | (rw [if_neg (by omega)]; done)) K45
      · refine mm_iconst (v := 1) dX12_done_52 rfl ?_
        refine mm_goto (tgt := 57) dX12_done_53 (by decide) ?_
        exact mm_top (by first | rfl | (simp [c45, c49]; done) | (rw [if_pos (by simp_all)]; done) | (rw [if_neg (by simp_all)]; done) | (rw [if_pos (by omega)]; done) | (rw [if_neg (by omega)]; done)) K45
  by_cases e1_1 : (k) = 1
  · refine mm_tabIn (1) (tgt := 58) dX12_done_1 (by rw [e1_1]; rfl) (by decide) (by decide) rfl (by decide) ?_
    subst e1_1
    refine mm_iload_n 1 dX12_done_58 rfl rfl ?_
    have K59 : mm_Ex g zX12_done d (0, 0) (0, 0) sh_S (I) 71 [(0, .int (nI (1))), (1, .int (a)), (2, .int (b))] [.int (if ¬ ((a) = 0) ∧ (¬ ((b) = 0)) then 1 else 0)] Q := by
      refine mm_iret dX12_done_71 rfl ⟨Nat.le_refl _, Nat.le_refl _⟩ ?_
      exact hq
    refine mm_if_eq (tgt := 70) dX12_done_59 (by decide) (fun c59 => ?_) (fun c59 => ?_)
    · refine mm_iconst (v := 0) dX12_done_70 rfl ?_
      exact mm_top (by first | rfl | (simp [c59]; done) | (rw [if_pos (by simp_all)]; done) | (rw [if_neg (by simp_all)]; done) | (rw [if_pos (by omega)]; done) | (rw [if_neg (by omega)]; done)) K59
    · refine mm_iload_n 2 dX12_done_62 rfl rfl ?_
      refine mm_if_eq (tgt := 70) dX12_done_63 (by decide) (fun c63 => ?_) (fun c63 => ?_)
      · refine mm_iconst (v := 0) dX12_done_70 rfl ?_
        exact mm_top (by first | rfl | (simp [c59, c63]; done) | (rw [if_pos (by simp_all)]; done) | (rw [if_neg (by simp_all)]; done) | (rw [if_pos (by omega)]; done) | (rw [if_neg (by omega)]; done)) K59
      · refine mm_iconst (v := 1) dX12_done_66 rfl ?_
        refine mm_goto (tgt := 71) dX12_done_67 (by decide) ?_
        exact mm_top (by first | rfl | (simp [c59, c63]; done) | (rw [if_pos (by simp_all)]; done) | (rw [if_neg (by simp_all)]; done) | (rw [if_pos (by omega)]; done) | (rw [if_neg (by omega)]; done)) K59
  by_cases e1_2 : (k) = 2
  · refine mm_tabIn (2) (tgt := 72) dX12_done_1 (by rw [e1_2]; rfl) (by decide) (by decide) rfl (by decide) ?_
    subst e1_2
    refine mm_iload_n 1 dX12_done_72 rfl rfl ?_
    refine mm_iload_n 2 dX12_done_73 rfl rfl ?_
    have K74 : mm_Ex g zX12_done d (0, 0) (0, 0) sh_S (I) 82 [(0, .int (nI (2))), (1, .int (a)), (2, .int (b))] [.int (if ¬ ((b) ≤ (a)) then 1 else 0)] Q := by
      refine mm_iret dX12_done_82 rfl ⟨Nat.le_refl _, Nat.le_refl _⟩ ?_
      exact hq
    refine mm_icmp_ge (tgt := 81) dX12_done_74 (by decide) (fun c74 => ?_) (fun c74 => ?_)
    · refine mm_iconst (v := 0) dX12_done_81 rfl ?_
      exact mm_top (by first | rfl | (simp [c74]; done) | (rw [if_pos (by simp_all)]; done) | (rw [if_neg (by simp_all)]; done) | (rw [if_pos (by omega)]; done) | (rw [if_neg (by omega)]; done)) K74
    · refine mm_iconst (v := 1) dX12_done_77 rfl ?_
      refine mm_goto (tgt := 82) dX12_done_78 (by decide) ?_
      exact mm_top (by first | rfl | (simp [c74]; done) | (rw [if_pos (by simp_all)]; done) | (rw [if_neg (by simp_all)]; done) | (rw [if_pos (by omega)]; done) | (rw [if_neg (by omega)]; done)) K74
  by_cases e1_3 : (k) = 3
  · refine mm_tabIn (3) (tgt := 83) dX12_done_1 (by rw [e1_3]; rfl) (by decide) (by decide) rfl (by decide) ?_
    subst e1_3
    refine mm_iload_n 1 dX12_done_83 rfl rfl ?_
    refine mm_iload_n 2 dX12_done_84 rfl rfl ?_
    have K85 : mm_Ex g zX12_done d (0, 0) (0, 0) sh_S (I) 93 [(0, .int (nI (3))), (1, .int (a)), (2, .int (b))] [.int (if (a) = (b) then 1 else 0)] Q := by
      refine mm_iret dX12_done_93 rfl ⟨Nat.le_refl _, Nat.le_refl _⟩ ?_
      exact hq
    refine mm_icmp_ne (tgt := 92) dX12_done_85 (by decide) (fun c85 => ?_) (fun c85 => ?_)
    · refine mm_iconst (v := 0) dX12_done_92 rfl ?_
      exact mm_top (by first | rfl | (simp [c85]; done) | (rw [if_pos (by simp_all)]; done) | (rw [if_neg (by simp_all)]; done) | (rw [if_pos (by omega)]; done) | (rw [if_neg (by omega)]; done)) K85
    · refine mm_iconst (v := 1) dX12_done_88 rfl ?_
      refine mm_goto (tgt := 93) dX12_done_89 (by decide) ?_
      exact mm_top (by first | rfl | (simp [c85]; done) | (rw [if_pos (by simp_all)]; done) | (rw [if_neg (by simp_all)]; done) | (rw [if_pos (by omega)]; done) | (rw [if_neg (by omega)]; done)) K85
  by_cases e1_4 : (k) = 4
  · refine mm_tabIn (4) (tgt := 94) dX12_done_1 (by rw [e1_4]; rfl) (by decide) (by decide) rfl (by decide) ?_
    subst e1_4
    refine mm_iload_n 1 dX12_done_94 rfl rfl ?_
    refine mm_iload_n 2 dX12_done_95 rfl rfl ?_
    have K96 : mm_Ex g zX12_done d (0, 0) (0, 0) sh_S (I) 104 [(0, .int (nI (4))), (1, .int (a)), (2, .int (b))] [.int (if ¬ ((a) ≤ (b)) then 1 else 0)] Q := by
      refine mm_iret dX12_done_104 rfl ⟨Nat.le_refl _, Nat.le_refl _⟩ ?_
      exact hq
    refine mm_icmp_le (tgt := 103) dX12_done_96 (by decide) (fun c96 => ?_) (fun c96 => ?_)
    · refine mm_iconst (v := 0) dX12_done_103 rfl ?_
      exact mm_top (by first | rfl | (simp [c96]; done) | (rw [if_pos (by simp_all)]; done) | (rw [if_neg (by simp_all)]; done) | (rw [if_pos (by omega)]; done) | (rw [if_neg (by omega)]; done)) K96
    · refine mm_iconst (v := 1) dX12_done_99 rfl ?_
      refine mm_goto (tgt := 104) dX12_done_100 (by decide) ?_
      exact mm_top (by first | rfl | (simp [c96]; done) | (rw [if_pos (by simp_all)]; done) | (rw [if_neg (by simp_all)]; done) | (rw [if_pos (by omega)]; done) | (rw [if_neg (by omega)]; done)) K96
  by_cases e1_5 : (k) = 5
  · refine mm_tabIn (5) (tgt := 105) dX12_done_1 (by rw [e1_5]; rfl) (by decide) (by decide) rfl (by decide) ?_
    subst e1_5
    refine mm_iload_n 1 dX12_done_105 rfl rfl ?_
    refine mm_iload_n 2 dX12_done_106 rfl rfl ?_
    refine mm_iadd dX12_done_107 ?_
    refine mm_iret dX12_done_108 rfl ⟨Nat.le_refl _, Nat.le_refl _⟩ ?_
    exact hq
  by_cases e1_6 : (k) = 6
  · refine mm_tabIn (6) (tgt := 109) dX12_done_1 (by rw [e1_6]; rfl) (by decide) (by decide) rfl (by decide) ?_
    subst e1_6
    refine mm_iload_n 1 dX12_done_109 rfl rfl ?_
    refine mm_iload_n 2 dX12_done_110 rfl rfl ?_
    refine mm_isub dX12_done_111 ?_
    refine mm_iret dX12_done_112 rfl ⟨Nat.le_refl _, Nat.le_refl _⟩ ?_
    exact hq
  refine mm_tabOut 0 7 (tgt := 113) dX12_done_1 rfl (by decide) (fun k hk q => by have q := (nI_eq (by omega) (by omega)).mp q; omega) (by decide) ?_
  refine mm_iload_n 1 dX12_done_113 rfl rfl ?_
  refine mm_iload_n 2 dX12_done_114 rfl rfl ?_
  refine mm_imul dX12_done_115 ?_
  refine mm_iret dX12_done_116 rfl ⟨Nat.le_refl _, Nat.le_refl _⟩ ?_
  have e : k = 7 := by omega
  subst e
  exact hq
set_option maxRecDepth 100000 in
set_option maxHeartbeats 600000 in
theorem cm_ofStep {g : mm_G} {I : mm_I} {d : Nat} {p s f : Nat} (hp : p < 6) (hs : s < 32) (hf : f < 8) : mm_Ci g zX12_ofStep d [.ref 200, .int (nI p), .int (nI s), .int (nI f)] sh_S I (I 201 (1226 + 418 * p + 1 + 8 * s + f)) I := by
  refine mm_Ci_of (fun Q hq => ?_)
  refine mm_begin (ls := [(0, .ref 200), (1, .int (nI (p))), (2, .int (nI (s))), (3, .int (nI (f)))]) (Nat.le_of_ble_eq_true rfl) rfl rfl ?_
  refine mm_aload_n 0 dX12_ofStep_0 rfl rfl ?_
  refine mm_getr (b := 201) dX12_ofStep_1 rfl fk_X12_9 rfl so_200 sr_200_0 ?_
  refine mm_sipush (v := 1226) dX12_ofStep_4 rfl ?_
  refine mm_sipush (v := 418) dX12_ofStep_7 rfl ?_
  refine mm_iload_n 1 dX12_ofStep_10 rfl rfl ?_
  refine mm_imulN (418) (p) dX12_ofStep_11 ?_
  refine mm_iaddN (1226) (418 * p) dX12_ofStep_12 ?_
  refine mm_iconst (v := 1) dX12_ofStep_13 rfl ?_
  refine mm_at (pc' := 14) rfl ?_
  refine mm_iaddN (1226 + (418 * p)) (1) dX12_ofStep_14 ?_
  refine mm_bipush (v := 8) dX12_ofStep_15 rfl ?_
  refine mm_iload_n 2 dX12_ofStep_17 rfl rfl ?_
  refine mm_imulN (8) (s) dX12_ofStep_18 ?_
  refine mm_iaddN ((1226 + (418 * p)) + 1) (8 * s) dX12_ofStep_19 ?_
  refine mm_iload_n 3 dX12_ofStep_20 rfl rfl ?_
  refine mm_iaddN (((1226 + (418 * p)) + 1) + (8 * s)) (f) dX12_ofStep_21 ?_
  refine mm_ialdN ((((1226 + (418 * p)) + 1) + (8 * s)) + f) dX12_ofStep_22 sa_201 (by omega) (by omega) ?_
  refine mm_at (pc' := 23) rfl ?_
  refine mm_iret dX12_ofStep_23 rfl ⟨Nat.le_refl _, Nat.le_refl _⟩ ?_
  exact hq
