/-! THE CLASS: words of the tape, laid in rows -/
set_option maxRecDepth 100000 in
set_option maxHeartbeats 600000 in
theorem ck_wk {g : mm_G} {I : mm_I} {d : Nat} {f e t : Nat} (hB : tp_ok (I 175) t) (he : e ≤ 96) (hfe : f < e) (het : e ≤ t) (hd : 5 ≤ d) : mm_Ci g zX9_wordKind d [.ref 177, .int (nI f), .int (nI e)] sh_S I (ckd (tkd (I 175) (f, e, 1))) I := by
  obtain ⟨b, hb, eb⟩ := hB.2 f (by omega)
  refine mm_Ci_of (fun Q hq => ?_)
  refine mm_begin (ls := [(0, .ref 177), (1, .int (nI (f))), (2, .int (nI (e)))]) (Nat.le_of_ble_eq_true rfl) rfl rfl ?_
  refine mm_iload_n 2 dX9_wordKind_0 rfl rfl ?_
  refine mm_iload_n 1 dX9_wordKind_1 rfl rfl ?_
  refine mm_isubN (e) (f) dX9_wordKind_2 (by omega) ?_
  refine mm_iconst (v := 1) dX9_wordKind_3 rfl ?_
  refine mm_icmp_neN (e - f) (1) (tgt := 32) dX9_wordKind_4 (by decide) (by omega) (by omega) (fun c4 => ?_) (fun c4 => ?_)
  · refine mm_aload_n 0 dX9_wordKind_32 rfl rfl ?_
    refine mm_ldcS (t := 0) (tx := "go") dX9_wordKind_33 rfl (by decide) ?_
    refine mm_iload_n 1 dX9_wordKind_35 rfl rfl ?_
    refine mm_iload_n 2 dX9_wordKind_36 rfl rfl ?_
    refine mm_cV3i (dz := d - 1) dX9_wordKind_37 rfl mzX9_spells ml_X9_76 imX9_spells (by omega) so_177 ⟨rfl, rfl⟩ (ck_sp (tx := 0) (by decide) he (by omega) (by omega)) (Nat.le_of_ble_eq_true rfl) ⟨Nat.le_refl _, Nat.le_refl _⟩ ?_
    refine mm_if_eqB (tgt := 45) dX9_wordKind_40 (by decide) (fun c40 => ?_) (fun c40 => ?_)
    · refine mm_aload_n 0 dX9_wordKind_45 rfl rfl ?_
      refine mm_ldcS (t := 1) (tx := "scoop") dX9_wordKind_46 rfl (by decide) ?_
      refine mm_iload_n 1 dX9_wordKind_48 rfl rfl ?_
      refine mm_iload_n 2 dX9_wordKind_49 rfl rfl ?_
      refine mm_cV3i (dz := d - 1) dX9_wordKind_50 rfl mzX9_spells ml_X9_76 imX9_spells (by omega) so_177 ⟨rfl, rfl⟩ (ck_sp (tx := 1) (by decide) he (by omega) (by omega)) (Nat.le_of_ble_eq_true rfl) ⟨Nat.le_refl _, Nat.le_refl _⟩ ?_
      refine mm_if_eqB (tgt := 59) dX9_wordKind_53 (by decide) (fun c53 => ?_) (fun c53 => ?_)
      · refine mm_aload_n 0 dX9_wordKind_59 rfl rfl ?_
        refine mm_ldcS (t := 2) (tx := "drop") dX9_wordKind_60 rfl (by decide) ?_
        refine mm_iload_n 1 dX9_wordKind_62 rfl rfl ?_
        refine mm_iload_n 2 dX9_wordKind_63 rfl rfl ?_
        refine mm_cV3i (dz := d - 1) dX9_wordKind_64 rfl mzX9_spells ml_X9_76 imX9_spells (by omega) so_177 ⟨rfl, rfl⟩ (ck_sp (tx := 2) (by decide) he (by omega) (by omega)) (Nat.le_of_ble_eq_true rfl) ⟨Nat.le_refl _, Nat.le_refl _⟩ ?_
        refine mm_if_eqB (tgt := 73) dX9_wordKind_67 (by decide) (fun c67 => ?_) (fun c67 => ?_)
        · refine mm_aload_n 0 dX9_wordKind_73 rfl rfl ?_
          refine mm_ldcS (t := 3) (tx := "fuse") dX9_wordKind_74 rfl (by decide) ?_
          refine mm_iload_n 1 dX9_wordKind_76 rfl rfl ?_
          refine mm_iload_n 2 dX9_wordKind_77 rfl rfl ?_
          refine mm_cV3i (dz := d - 1) dX9_wordKind_78 rfl mzX9_spells ml_X9_76 imX9_spells (by omega) so_177 ⟨rfl, rfl⟩ (ck_sp (tx := 3) (by decide) he (by omega) (by omega)) (Nat.le_of_ble_eq_true rfl) ⟨Nat.le_refl _, Nat.le_refl _⟩ ?_
          refine mm_if_eqB (tgt := 87) dX9_wordKind_81 (by decide) (fun c81 => ?_) (fun c81 => ?_)
          · refine mm_aload_n 0 dX9_wordKind_87 rfl rfl ?_
            refine mm_ldcS (t := 4) (tx := "charge") dX9_wordKind_88 rfl (by decide) ?_
            refine mm_iload_n 1 dX9_wordKind_90 rfl rfl ?_
            refine mm_iload_n 2 dX9_wordKind_91 rfl rfl ?_
            refine mm_cV3i (dz := d - 1) dX9_wordKind_92 rfl mzX9_spells ml_X9_76 imX9_spells (by omega) so_177 ⟨rfl, rfl⟩ (ck_sp (tx := 4) (by decide) he (by omega) (by omega)) (Nat.le_of_ble_eq_true rfl) ⟨Nat.le_refl _, Nat.le_refl _⟩ ?_
            refine mm_if_eqB (tgt := 101) dX9_wordKind_95 (by decide) (fun c95 => ?_) (fun c95 => ?_)
            · refine mm_aload_n 0 dX9_wordKind_101 rfl rfl ?_
              refine mm_ldcS (t := 5) (tx := "mend") dX9_wordKind_102 rfl (by decide) ?_
              refine mm_iload_n 1 dX9_wordKind_104 rfl rfl ?_
              refine mm_iload_n 2 dX9_wordKind_105 rfl rfl ?_
              refine mm_cV3i (dz := d - 1) dX9_wordKind_106 rfl mzX9_spells ml_X9_76 imX9_spells (by omega) so_177 ⟨rfl, rfl⟩ (ck_sp (tx := 5) (by decide) he (by omega) (by omega)) (Nat.le_of_ble_eq_true rfl) ⟨Nat.le_refl _, Nat.le_refl _⟩ ?_
              refine mm_if_eqB (tgt := 115) dX9_wordKind_109 (by decide) (fun c109 => ?_) (fun c109 => ?_)
              · refine mm_aload_n 0 dX9_wordKind_115 rfl rfl ?_
                refine mm_ldcS (t := 6) (tx := "wait") dX9_wordKind_116 rfl (by decide) ?_
                refine mm_iload_n 1 dX9_wordKind_118 rfl rfl ?_
                refine mm_iload_n 2 dX9_wordKind_119 rfl rfl ?_
                refine mm_cV3i (dz := d - 1) dX9_wordKind_120 rfl mzX9_spells ml_X9_76 imX9_spells (by omega) so_177 ⟨rfl, rfl⟩ (ck_sp (tx := 6) (by decide) he (by omega) (by omega)) (Nat.le_of_ble_eq_true rfl) ⟨Nat.le_refl _, Nat.le_refl _⟩ ?_
                refine mm_if_eqB (tgt := 129) dX9_wordKind_123 (by decide) (fun c123 => ?_) (fun c123 => ?_)
                · refine mm_aload_n 0 dX9_wordKind_129 rfl rfl ?_
                  refine mm_ldcS (t := 7) (tx := "until") dX9_wordKind_130 rfl (by decide) ?_
                  refine mm_iload_n 1 dX9_wordKind_132 rfl rfl ?_
                  refine mm_iload_n 2 dX9_wordKind_133 rfl rfl ?_
                  refine mm_cV3i (dz := d - 1) dX9_wordKind_134 rfl mzX9_spells ml_X9_76 imX9_spells (by omega) so_177 ⟨rfl, rfl⟩ (ck_sp (tx := 7) (by decide) he (by omega) (by omega)) (Nat.le_of_ble_eq_true rfl) ⟨Nat.le_refl _, Nat.le_refl _⟩ ?_
                  refine mm_if_eqB (tgt := 143) dX9_wordKind_137 (by decide) (fun c137 => ?_) (fun c137 => ?_)
                  · refine mm_aload_n 0 dX9_wordKind_143 rfl rfl ?_
                    refine mm_ldcS (t := 8) (tx := "if") dX9_wordKind_144 rfl (by decide) ?_
                    refine mm_iload_n 1 dX9_wordKind_146 rfl rfl ?_
                    refine mm_iload_n 2 dX9_wordKind_147 rfl rfl ?_
                    refine mm_cV3i (dz := d - 1) dX9_wordKind_148 rfl mzX9_spells ml_X9_76 imX9_spells (by omega) so_177 ⟨rfl, rfl⟩ (ck_sp (tx := 8) (by decide) he (by omega) (by omega)) (Nat.le_of_ble_eq_true rfl) ⟨Nat.le_refl _, Nat.le_refl _⟩ ?_
                    refine mm_if_eqB (tgt := 157) dX9_wordKind_151 (by decide) (fun c151 => ?_) (fun c151 => ?_)
                    · refine mm_aload_n 0 dX9_wordKind_157 rfl rfl ?_
                      refine mm_ldcS (t := 11) (tx := "else") dX9_wordKind_158 rfl (by decide) ?_
                      refine mm_iload_n 1 dX9_wordKind_160 rfl rfl ?_
                      refine mm_iload_n 2 dX9_wordKind_161 rfl rfl ?_
                      refine mm_cV3i (dz := d - 1) dX9_wordKind_162 rfl mzX9_spells ml_X9_76 imX9_spells (by omega) so_177 ⟨rfl, rfl⟩ (ck_sp (tx := 11) (by decide) he (by omega) (by omega)) (Nat.le_of_ble_eq_true rfl) ⟨Nat.le_refl _, Nat.le_refl _⟩ ?_
                      refine mm_if_eqB (tgt := 171) dX9_wordKind_165 (by decide) (fun c165 => ?_) (fun c165 => ?_)
                      · refine mm_aload_n 0 dX9_wordKind_171 rfl rfl ?_
                        refine mm_ldcS (t := 9) (tx := "while") dX9_wordKind_172 rfl (by decide) ?_
                        refine mm_iload_n 1 dX9_wordKind_174 rfl rfl ?_
                        refine mm_iload_n 2 dX9_wordKind_175 rfl rfl ?_
                        refine mm_cV3i (dz := d - 1) dX9_wordKind_176 rfl mzX9_spells ml_X9_76 imX9_spells (by omega) so_177 ⟨rfl, rfl⟩ (ck_sp (tx := 9) (by decide) he (by omega) (by omega)) (Nat.le_of_ble_eq_true rfl) ⟨Nat.le_refl _, Nat.le_refl _⟩ ?_
                        refine mm_if_eqB (tgt := 185) dX9_wordKind_179 (by decide) (fun c179 => ?_) (fun c179 => ?_)
                        · refine mm_aload_n 0 dX9_wordKind_185 rfl rfl ?_
                          refine mm_ldcS (t := 10) (tx := "repeat") dX9_wordKind_186 rfl (by decide) ?_
                          refine mm_iload_n 1 dX9_wordKind_188 rfl rfl ?_
                          refine mm_iload_n 2 dX9_wordKind_189 rfl rfl ?_
                          refine mm_cV3i (dz := d - 1) dX9_wordKind_190 rfl mzX9_spells ml_X9_76 imX9_spells (by omega) so_177 ⟨rfl, rfl⟩ (ck_sp (tx := 10) (by decide) he (by omega) (by omega)) (Nat.le_of_ble_eq_true rfl) ⟨Nat.le_refl _, Nat.le_refl _⟩ ?_
                          refine mm_if_eqB (tgt := 201) dX9_wordKind_193 (by decide) (fun c193 => ?_) (fun c193 => ?_)
                          · refine mm_bipush (v := -105) dX9_wordKind_201 rfl ?_
                            refine mm_iret dX9_wordKind_203 rfl ⟨Nat.le_refl _, Nat.le_refl _⟩ ?_
                            rw [tkd_un (show ¬ (e - f = 1 ∧ 0 ≤ nm_ix (vv (I 175 f))) from fun q => by have := q.1; omega) (fun a ha q => by rcases (show a = 0 ∨ a = 1 ∨ a = 2 ∨ a = 3 ∨ a = 4 ∨ a = 5 ∨ a = 6 ∨ a = 7 ∨ a = 8 ∨ a = 9 ∨ a = 10 ∨ a = 11 by omega) with rfl | rfl | rfl | rfl | rfl | rfl | rfl | rfl | rfl | rfl | rfl | rfl <;> first | exact c40 q | exact c53 q | exact c67 q | exact c81 q | exact c95 q | exact c109 q | exact c123 q | exact c137 q | exact c151 q | exact c165 q | exact c179 q | exact c193 q)] at hq
                            exact hq
                          · refine mm_bipush (v := -5) dX9_wordKind_196 rfl ?_
                            refine mm_goto (tgt := 203) dX9_wordKind_198 (by decide) ?_
                            refine mm_iret dX9_wordKind_203 rfl ⟨Nat.le_refl _, Nat.le_refl _⟩ ?_
                            rw [tkd_wd (a := 10) (by decide) c193] at hq
                            exact hq
                        · refine mm_bipush (v := -4) dX9_wordKind_182 rfl ?_
                          refine mm_iret dX9_wordKind_184 rfl ⟨Nat.le_refl _, Nat.le_refl _⟩ ?_
                          rw [tkd_wd (a := 9) (by decide) c179] at hq
                          exact hq
                      · refine mm_bipush (v := -104) dX9_wordKind_168 rfl ?_
                        refine mm_iret dX9_wordKind_170 rfl ⟨Nat.le_refl _, Nat.le_refl _⟩ ?_
                        rw [tkd_el c165] at hq
                        exact hq
                    · refine mm_bipush (v := -3) dX9_wordKind_154 rfl ?_
                      refine mm_iret dX9_wordKind_156 rfl ⟨Nat.le_refl _, Nat.le_refl _⟩ ?_
                      rw [tkd_wd (a := 8) (by decide) c151] at hq
                      exact hq
                  · refine mm_bipush (v := -2) dX9_wordKind_140 rfl ?_
                    refine mm_iret dX9_wordKind_142 rfl ⟨Nat.le_refl _, Nat.le_refl _⟩ ?_
                    rw [tkd_wd (a := 7) (by decide) c137] at hq
                    exact hq
                · refine mm_bipush (v := -11) dX9_wordKind_126 rfl ?_
                  refine mm_iret dX9_wordKind_128 rfl ⟨Nat.le_refl _, Nat.le_refl _⟩ ?_
                  rw [tkd_wd (a := 6) (by decide) c123] at hq
                  exact hq
              · refine mm_bipush (v := -10) dX9_wordKind_112 rfl ?_
                refine mm_iret dX9_wordKind_114 rfl ⟨Nat.le_refl _, Nat.le_refl _⟩ ?_
                rw [tkd_wd (a := 5) (by decide) c109] at hq
                exact hq
            · refine mm_bipush (v := -9) dX9_wordKind_98 rfl ?_
              refine mm_iret dX9_wordKind_100 rfl ⟨Nat.le_refl _, Nat.le_refl _⟩ ?_
              rw [tkd_wd (a := 4) (by decide) c95] at hq
              exact hq
          · refine mm_bipush (v := -8) dX9_wordKind_84 rfl ?_
            refine mm_iret dX9_wordKind_86 rfl ⟨Nat.le_refl _, Nat.le_refl _⟩ ?_
            rw [tkd_wd (a := 3) (by decide) c81] at hq
            exact hq
        · refine mm_bipush (v := -7) dX9_wordKind_70 rfl ?_
          refine mm_iret dX9_wordKind_72 rfl ⟨Nat.le_refl _, Nat.le_refl _⟩ ?_
          rw [tkd_wd (a := 2) (by decide) c67] at hq
          exact hq
      · refine mm_bipush (v := -6) dX9_wordKind_56 rfl ?_
        refine mm_iret dX9_wordKind_58 rfl ⟨Nat.le_refl _, Nat.le_refl _⟩ ?_
        rw [tkd_wd (a := 1) (by decide) c53] at hq
        exact hq
    · refine mm_iconst (v := -1) dX9_wordKind_43 rfl ?_
      refine mm_iret dX9_wordKind_44 rfl ⟨Nat.le_refl _, Nat.le_refl _⟩ ?_
      rw [tkd_wd (a := 0) (by decide) c40] at hq
      exact hq
  · refine mm_ldcS (t := 12) (tx := "ckwsdibtxy") dX9_wordKind_7 rfl (by decide) ?_
    refine mm_aload_n 0 dX9_wordKind_9 rfl rfl ?_
    refine mm_getr (b := 174) dX9_wordKind_10 rfl fk_X9_9 rfl so_177 sr_177_0 ?_
    refine mm_iload_n 1 dX9_wordKind_13 rfl rfl ?_
    refine mm_cV1i (dz := d - 1) dX9_wordKind_14 rfl mzX5_at ml_X9_36 imX5_at (by omega) so_174 ⟨rfl, rfl⟩ (ct_at rw_174 (f) (by omega)) (Nat.le_of_ble_eq_true rfl) ⟨Nat.le_refl _, Nat.le_refl _⟩ ?_
    refine mm_top (v := nI b) eb ?_
    refine mm_i2c dX9_wordKind_17 ?_
    refine mm_top (v := nI b) (tx_c hb) ?_
    refine mm_cT1i (t := 12) (dz := d - 1) dX9_wordKind_18 rfl mzJ0_indexOf_0f7a4 ml_X9_69 imJ0_indexOf_0f7a4 (by omega) (by decide) rfl (ct_ix (b := b) hb (by omega)) (Nat.le_of_ble_eq_true rfl) ⟨Nat.le_refl _, Nat.le_refl _⟩ ?_
    refine mm_at (pc' := 21) rfl ?_
    refine mm_if_lt (tgt := 29) dX9_wordKind_21 (by decide) (fun c21 => ?_) (fun c21 => ?_)
    · refine mm_bipush (v := -105) dX9_wordKind_29 rfl ?_
      refine mm_iret dX9_wordKind_31 rfl ⟨Nat.le_refl _, Nat.le_refl _⟩ ?_
      rw [tkd_un (show ¬ (e - f = 1 ∧ 0 ≤ nm_ix (vv (I 175 f))) from fun q => by have := q.2; rw [eb, vv_nI (by omega)] at this; exact absurd c21 (Int32.not_lt.mpr this)) (fun a ha q => by have h1 : e - f = _ := (wd_len q).2; have := (tx_len (show a < 14 by omega)).1; omega)] at hq
      exact hq
    · refine mm_bipush (v := -103) dX9_wordKind_24 rfl ?_
      refine mm_goto (tgt := 31) dX9_wordKind_26 (by decide) ?_
      refine mm_iret dX9_wordKind_31 rfl ⟨Nat.le_refl _, Nat.le_refl _⟩ ?_
      rw [tkd_nm (show e - f = 1 ∧ 0 ≤ nm_ix (vv (I 175 f)) from ⟨by omega, by rw [eb, vv_nI (by omega)]; exact Int32.not_lt.mp c21⟩)] at hq
      exact hq
/-- rows of words -/
def wz (I : mm_I) (L : List (Int32 × Int32 × Int32)) : mm_I := fun a i =>
  if a = 178 ∨ a = 180 ∨ a = 182 then (if i = 1 then nI L.length else I a i)
  else if a = 179 then (if i < L.length then (L.getD i (0, 0, 0)).1 else I a i)
  else if a = 181 then (if i < L.length then (L.getD i (0, 0, 0)).2.1 else I a i)
  else if a = 183 then (if i < L.length then (L.getD i (0, 0, 0)).2.2 else I a i)
  else I a i
theorem wz_n {I : mm_I} {L : List (Int32 × Int32 × Int32)} {a : Nat} (h : a < 178 ∨ 183 < a) : wz I L a = I a := by
  funext i; unfold wz; rw [if_neg (by omega), if_neg (by omega), if_neg (by omega), if_neg (by omega)]
theorem wz_add {I : mm_I} {L : List (Int32 × Int32 × Int32)} {x y z : Int32} : mm_up (mm_up (mm_up (mm_up (mm_up (mm_up (wz I L) 179 L.length x) 178 1 (nI (L.length + 1))) 181 L.length y) 180 1 (nI (L.length + 1))) 183 L.length z) 182 1 (nI (L.length + 1)) = wz I (L ++ [(x, y, z)]) := by
  have hl : (L ++ [(x, y, z)]).length = L.length + 1 := by simp
  have g1 : ∀ i, i < L.length → (L ++ [(x, y, z)]).getD i (0, 0, 0) = L.getD i (0, 0, 0) := fun i hi => by
    rw [List.getD_eq_getElem?_getD, List.getD_eq_getElem?_getD, List.getElem?_append_left hi]
  have g2 : (L ++ [(x, y, z)]).getD L.length (0, 0, 0) = (x, y, z) := by
    rw [List.getD_eq_getElem?_getD, List.getElem?_append_right (Nat.le_refl _)]; simp
  funext a i
  by_cases e2 : a = 182
  · subst e2
    by_cases ei : i = 1
    · subst ei; rw [mm_up_at]; show _ = nI (L ++ [(x, y, z)]).length; rw [hl]
    · rw [mm_up_ni ei, mm_up_ne (by decide), mm_up_ne (by decide), mm_up_ne (by decide), mm_up_ne (by decide), mm_up_ne (by decide)]
      show (if i = 1 then _ else I 182 i) = (if i = 1 then _ else I 182 i); rw [if_neg ei, if_neg ei]
  rw [mm_up_ne e2]
  by_cases e3 : a = 183
  · subst e3
    show _ = (if i < (L ++ [(x, y, z)]).length then ((L ++ [(x, y, z)]).getD i (0, 0, 0)).2.2 else I 183 i)
    by_cases ei : i = L.length
    · subst ei; rw [mm_up_at, hl, if_pos (by omega), g2]
    · rw [mm_up_ni ei, mm_up_ne (by decide), mm_up_ne (by decide), mm_up_ne (by decide), mm_up_ne (by decide), hl]
      show (if i < L.length then (L.getD i (0, 0, 0)).2.2 else I 183 i) = _
      by_cases c : i < L.length
      · rw [if_pos c, if_pos (by omega), g1 i c]
      · rw [if_neg c, if_neg (by omega)]
  rw [mm_up_ne e3]
  by_cases e4 : a = 180
  · subst e4
    by_cases ei : i = 1
    · subst ei; rw [mm_up_at]; show _ = nI (L ++ [(x, y, z)]).length; rw [hl]
    · rw [mm_up_ni ei, mm_up_ne (by decide), mm_up_ne (by decide), mm_up_ne (by decide)]
      show (if i = 1 then _ else I 180 i) = (if i = 1 then _ else I 180 i); rw [if_neg ei, if_neg ei]
  rw [mm_up_ne e4]
  by_cases e5 : a = 181
  · subst e5
    show _ = (if i < (L ++ [(x, y, z)]).length then ((L ++ [(x, y, z)]).getD i (0, 0, 0)).2.1 else I 181 i)
    by_cases ei : i = L.length
    · subst ei; rw [mm_up_at, hl, if_pos (by omega), g2]
    · rw [mm_up_ni ei, mm_up_ne (by decide), mm_up_ne (by decide), hl]
      show (if i < L.length then (L.getD i (0, 0, 0)).2.1 else I 181 i) = _
      by_cases c : i < L.length
      · rw [if_pos c, if_pos (by omega), g1 i c]
      · rw [if_neg c, if_neg (by omega)]
  rw [mm_up_ne e5]
  by_cases e6 : a = 178
  · subst e6
    by_cases ei : i = 1
    · subst ei; rw [mm_up_at]; show _ = nI (L ++ [(x, y, z)]).length; rw [hl]
    · rw [mm_up_ni ei, mm_up_ne (by decide)]
      show (if i = 1 then _ else I 178 i) = (if i = 1 then _ else I 178 i); rw [if_neg ei, if_neg ei]
  rw [mm_up_ne e6]
  by_cases e7 : a = 179
  · subst e7
    show _ = (if i < (L ++ [(x, y, z)]).length then ((L ++ [(x, y, z)]).getD i (0, 0, 0)).1 else I 179 i)
    by_cases ei : i = L.length
    · subst ei; rw [mm_up_at, hl, if_pos (by omega), g2]
    · rw [mm_up_ni ei, hl]
      show (if i < L.length then (L.getD i (0, 0, 0)).1 else I 179 i) = _
      by_cases c : i < L.length
      · rw [if_pos c, if_pos (by omega), g1 i c]
      · rw [if_neg c, if_neg (by omega)]
  rw [mm_up_ne e7]
  unfold wz
  rw [if_neg (by omega), if_neg e7, if_neg e5, if_neg e3, if_neg (by omega), if_neg e7, if_neg e5, if_neg e3]
set_option maxRecDepth 100000 in
set_option maxHeartbeats 600000 in
theorem ck_addW {g : mm_G} {I : mm_I} {d : Nat} {L : List (Int32 × Int32 × Int32)} (hL : L.length < 97) {x y z : Int32} (hd : 1 ≤ d) : mm_Cv g zX9_addWord d [.ref 177, .int x, .int y, .int z] sh_S (wz I L) (wz I (L ++ [(x, y, z)])) := by
  refine mm_Cv_of (fun Q hq => ?_)
  refine mm_begin (ls := [(0, .ref 177), (1, .int (x)), (2, .int (y)), (3, .int (z))]) (Nat.le_of_ble_eq_true rfl) rfl rfl ?_
  refine mm_aload_n 0 dX9_addWord_0 rfl rfl ?_
  refine mm_getr (b := 178) dX9_addWord_1 rfl fk_X9_20 rfl so_177 sr_177_1 ?_
  refine mm_iload_n 1 dX9_addWord_4 rfl rfl ?_
  refine mm_cV1i (dz := d - 1) dX9_addWord_5 rfl mzX5_add ml_X9_47 imX5_add (by omega) so_178 ⟨rfl, rfl⟩ (ct_add rw_178 L.length (by rfl) (by omega)) (Nat.le_of_ble_eq_true rfl) ⟨Nat.le_refl _, Nat.le_refl _⟩ ?_
  refine mm_pop dX9_addWord_8 rfl ?_
  refine mm_aload_n 0 dX9_addWord_9 rfl rfl ?_
  refine mm_getr (b := 180) dX9_addWord_10 rfl fk_X9_23 rfl so_177 sr_177_2 ?_
  refine mm_iload_n 2 dX9_addWord_13 rfl rfl ?_
  refine mm_at (pc' := 14) rfl ?_
  refine mm_cV1i (dz := d - 1) dX9_addWord_14 rfl mzX5_add ml_X9_47 imX5_add (by omega) so_180 ⟨rfl, rfl⟩ (ct_add rw_180 L.length (by rw [mm_up_ne (by decide), mm_up_ne (by decide)]; rfl) (by omega)) (Nat.le_of_ble_eq_true rfl) ⟨Nat.le_refl _, Nat.le_refl _⟩ ?_
  refine mm_pop dX9_addWord_17 rfl ?_
  refine mm_aload_n 0 dX9_addWord_18 rfl rfl ?_
  refine mm_getr (b := 182) dX9_addWord_19 rfl fk_X9_26 rfl so_177 sr_177_3 ?_
  refine mm_iload_n 3 dX9_addWord_22 rfl rfl ?_
  refine mm_cV1i (dz := d - 1) dX9_addWord_23 rfl mzX5_add ml_X9_47 imX5_add (by omega) so_182 ⟨rfl, rfl⟩ (ct_add rw_182 L.length (by rw [mm_up_ne (by decide), mm_up_ne (by decide), mm_up_ne (by decide), mm_up_ne (by decide)]; rfl) (by omega)) (Nat.le_of_ble_eq_true rfl) ⟨Nat.le_refl _, Nat.le_refl _⟩ ?_
  refine mm_pop dX9_addWord_26 rfl ?_
  refine mm_vret dX9_addWord_27 rfl ⟨Nat.le_refl _, Nat.le_refl _⟩ ?_
  rw [← wz_add] at hq
  exact hq
