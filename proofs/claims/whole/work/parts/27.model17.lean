/-! THE REFERENCE: reports go -/
def rg_a (K : mm_I) (r : Nat) (f : Nat → Int32) : mm_I := mm_up (mm_up (mm_up (mm_up (mm_up (mm_up (mm_up K 201 (866 + 6 * r) (f 0)) 201 (866 + 6 * r + 1) (f 1)) 201 (866 + 6 * r + 2) (f 2)) 201 (866 + 6 * r + 3) (f 3)) 201 (866 + 6 * r + 4) (f 4)) 201 (866 + 6 * r + 5) (f 5)) 201 18 (nI (r + 1))
/-- what a machine reports -/
def rg_f (N : Nat → Int32) (m : Nat) : Nat → Int32
  | 0 => N (630 + 40 * m + 1)
  | 1 => N (30 + vv (N (630 + 40 * m + 1)))
  | 2 => N (110 + vv (N (630 + 40 * m + 1)))
  | 3 => N (190 + vv (N (630 + 40 * m + 1)))
  | 4 => N 7
  | _ => N 7 + N 6
def rg (J : mm_I) (r0 : Nat) : Nat → mm_I × Nat
  | 0 => (J, r0)
  | m + 1 => if J 201 (630 + 40 * m + 3) = 100 then rg J r0 m else (rg_a (rg J r0 m).1 (rg J r0 m).2 (rg_f (J 201) m), (rg J r0 m).2 + 1)
theorem rg_le {J : mm_I} {r0 : Nat} : ∀ m, r0 ≤ (rg J r0 m).2 ∧ (rg J r0 m).2 ≤ r0 + m := by
  intro m
  induction m with
  | zero => exact ⟨Nat.le_refl _, Nat.le_refl _⟩
  | succ m ih =>
    unfold rg
    by_cases c : J 201 (630 + 40 * m + 3) = 100
    · rw [if_pos c]; omega
    · rw [if_neg c]; show r0 ≤ (rg J r0 m).2 + 1 ∧ (rg J r0 m).2 + 1 ≤ _; omega
theorem rg_a_ne {K : mm_I} {r a x : Nat} {f : Nat → Int32} (h : a ≠ 201 ∨ (x ≠ 18 ∧ (x < 866 + 6 * r ∨ 866 + 6 * r + 5 < x))) (hr : 0 ≤ r) : rg_a K r f a x = K a x := by
  unfold rg_a
  by_cases e : a = 201
  · subst e
    rw [mm_up_ni (by omega), mm_up_ni (by omega), mm_up_ni (by omega), mm_up_ni (by omega), mm_up_ni (by omega), mm_up_ni (by omega), mm_up_ni (by omega)]
  · rw [mm_up_ne e, mm_up_ne e, mm_up_ne e, mm_up_ne e, mm_up_ne e, mm_up_ne e, mm_up_ne e]
theorem rg_a_18 {K : mm_I} {r : Nat} {f : Nat → Int32} : rg_a K r f 201 18 = nI (r + 1) := by unfold rg_a; rw [mm_up_at]
theorem rg_a_0 {K : mm_I} {r : Nat} {f : Nat → Int32} : rg_a K r f 201 (866 + 6 * r) = f 0 := by
  unfold rg_a
  rw [mm_up_ni (by omega), mm_up_ni (by omega), mm_up_ni (by omega), mm_up_ni (by omega), mm_up_ni (by omega), mm_up_ni (by omega), mm_up_at]
theorem rg_ne {J : mm_I} {r0 a x : Nat} (h : a ≠ 201 ∨ (x ≠ 18 ∧ x < 866 + 6 * r0)) : ∀ m, (rg J r0 m).1 a x = J a x := by
  intro m
  induction m with
  | zero => rfl
  | succ m ih =>
    have hl := rg_le (J := J) (r0 := r0) m
    unfold rg
    by_cases c : J 201 (630 + 40 * m + 3) = 100
    · rw [if_pos c]; exact ih
    · rw [if_neg c]
      show rg_a (rg J r0 m).1 (rg J r0 m).2 (rg_f (J 201) m) a x = _
      rw [rg_a_ne (by omega) (Nat.zero_le _)]; exact ih
theorem rg_18 {J : mm_I} {r0 : Nat} (h : J 201 18 = nI r0) : ∀ m, (rg J r0 m).1 201 18 = nI (rg J r0 m).2 := by
  intro m
  induction m with
  | zero => exact h
  | succ m ih =>
    unfold rg
    by_cases c : J 201 (630 + 40 * m + 3) = 100
    · rw [if_pos c]; exact ih
    · rw [if_neg c]; exact rg_a_18 (K := (rg J r0 m).1) (f := rg_f (J 201) m)
/-- machines' cells are ones -/
def mo_C (N : Nat → Int32) (n c : Nat) : Prop := ∀ m, m < n → ∃ x, x < c ∧ N (630 + 40 * m + 1) = nI x
theorem rg_R {J : mm_I} {r0 n : Nat} (hR : mo_R (J 201) r0) (hC : mo_C (J 201) n 80) : ∀ m, m ≤ n → mo_R ((rg J r0 m).1 201) (rg J r0 m).2 := by
  intro m
  induction m with
  | zero => intro _; exact hR
  | succ m ih =>
    intro hm
    have e := ih (by omega)
    unfold rg
    by_cases c : J 201 (630 + 40 * m + 3) = 100
    · rw [if_pos c]; exact e
    · rw [if_neg c]
      intro i hi
      show ∃ c, c < 80 ∧ rg_a (rg J r0 m).1 (rg J r0 m).2 (rg_f (J 201) m) 201 (866 + 6 * i) = nI c
      have hi : i < (rg J r0 m).2 + 1 := hi
      by_cases e2 : i = (rg J r0 m).2
      · subst e2
        obtain ⟨x, hx, ex⟩ := hC m (by omega)
        exact ⟨x, hx, by rw [rg_a_0]; exact ex⟩
      · rw [rg_a_ne (by omega) (Nat.zero_le _)]
        exact e i (by omega)
def op_rg (J : mm_I) (n r0 : Nat) : mm_I := if J 201 6 = 0 then op_rc (rg J r0 n).1 (rg J r0 n).2 else (rg J r0 n).1
set_option maxRecDepth 100000 in
set_option maxHeartbeats 600000 in
theorem lm_rg {g : mm_G} {I : mm_I} {d : Nat} {Q : Option Value → mm_Sh → mm_I → Prop} {n : Nat} (hm : I 201 16 = nI n) (hm5 : n ≤ 5) {r0 : Nat} (hr : I 201 18 = nI r0) (hr45 : r0 ≤ 45) (hC : mo_C (I 201) n 80) (hd : 2 ≤ d) (hx : mm_Ex g zX12_reportsGo d (0, 0) (0, 0) sh_S (rg I r0 n).1 164 [(1, .int (nI n)), (0, .ref 200)] [] Q) : ∀ (m : Nat) (i : Nat), (i ≤ n) → n - i < m → mm_Ex g zX12_reportsGo d (0, 0) (0, 0) sh_S ((rg I r0 i).1) 2 [(1, .int (nI (i))), (0, .ref 200)] [] Q := by
  intro m
  induction m with
  | zero => intro i hi hmz; exact absurd hmz (Nat.not_lt_zero _)
  | succ m ih =>
    intro i hi hmz
    have hle := rg_le (J := I) (r0 := r0) i
    have hK : ∀ x, x ≠ 18 ∧ x < 866 + 6 * r0 → (rg I r0 i).1 201 x = I 201 x := fun x hx => rg_ne (Or.inr hx) i
    have hK18 := rg_18 hr i
    have step : rg I r0 (i + 1) = if I 201 (630 + 40 * i + 3) = 100 then rg I r0 i else (rg_a (rg I r0 i).1 (rg I r0 i).2 (rg_f (I 201) i), (rg I r0 i).2 + 1) := rfl
    by_cases hin : i = n
    · subst hin
      refine mm_iload_n 0 dX12_reportsGo_2 rfl rfl ?_
      refine mm_aload_n 1 dX12_reportsGo_3 rfl rfl ?_
      refine mm_getr (b := 201) dX12_reportsGo_4 rfl fk_X12_9 rfl so_200 sr_200_0 ?_
      refine mm_bipush (v := 16) dX12_reportsGo_7 rfl ?_
      refine mm_ialdN (16) dX12_reportsGo_9 sa_201 (by omega) (by omega) ?_
      refine mm_top (v := nI (i)) ((hK _ (by omega)).trans hm) ?_
      refine mm_icmp_geN (i) (i) (tgt := 164) dX12_reportsGo_10 (by decide) (by omega) (by omega) (fun c10 => ?_) (fun c10 => ?_)
      · exact hx
      · exact absurd c10 (by omega)
    generalize hX : rg I r0 i = X at hle hK hK18 step ⊢
    obtain ⟨K, r⟩ := X
    replace hle : r0 ≤ r ∧ r ≤ r0 + i := hle
    replace hK : ∀ x, x ≠ 18 ∧ x < 866 + 6 * r0 → K 201 x = I 201 x := hK
    replace hK18 : K 201 18 = nI r := hK18
    show mm_Ex g zX12_reportsGo d (0, 0) (0, 0) sh_S K 2 [(1, .int (nI i)), (0, .ref 200)] [] Q
    refine mm_iload_n 0 dX12_reportsGo_2 rfl rfl ?_
    refine mm_aload_n 1 dX12_reportsGo_3 rfl rfl ?_
    refine mm_getr (b := 201) dX12_reportsGo_4 rfl fk_X12_9 rfl so_200 sr_200_0 ?_
    refine mm_bipush (v := 16) dX12_reportsGo_7 rfl ?_
    refine mm_ialdN (16) dX12_reportsGo_9 sa_201 (by omega) (by omega) ?_
    refine mm_top (v := nI (n)) ((hK _ (by omega)).trans hm) ?_
    refine mm_icmp_geN (i) (n) (tgt := 164) dX12_reportsGo_10 (by decide) (by omega) (by omega) (fun c10 => ?_) (fun c10 => ?_)
    · exact absurd c10 (by omega)
    · refine mm_aload_n 1 dX12_reportsGo_13 rfl rfl ?_
      refine mm_iload_n 0 dX12_reportsGo_14 rfl rfl ?_
      refine mm_cV1i (dz := d - 1) dX12_reportsGo_15 rfl mzX12_isBroken ml_X12_135 imX12_isBroken (by omega) so_200 ⟨rfl, rfl⟩ (cm_isBrokenN (by omega) (hK _ (by omega)) (by omega)) (Nat.le_of_ble_eq_true rfl) ⟨Nat.le_refl _, Nat.le_refl _⟩ ?_
      refine mm_if_eqB (tgt := 24) dX12_reportsGo_18 (by decide) (fun c18 => ?_) (fun c18 => ?_)
      · obtain ⟨c, hcl, ec⟩ := hC i (by omega)
        refine mm_aload_n 1 dX12_reportsGo_24 rfl rfl ?_
        refine mm_getr (b := 201) dX12_reportsGo_25 rfl fk_X12_9 rfl so_200 sr_200_0 ?_
        refine mm_iload_n 0 dX12_reportsGo_28 rfl rfl ?_
        refine mm_iconst (v := 1) dX12_reportsGo_29 rfl ?_
        refine mm_cS2i (dz := d - 1) dX12_reportsGo_30 rfl mzX12_of ml_X12_87 imX12_of (by omega) (cm_of (i) (1)) (Nat.le_of_ble_eq_true rfl) ⟨Nat.le_refl _, Nat.le_refl _⟩ ?_
        refine mm_ialdN (630 + 40 * i + 1) dX12_reportsGo_33 sa_201 (by omega) (by omega) ?_
        refine mm_top (v := nI (c)) ((hK _ (by omega)).trans ec) ?_
        refine mm_istore_n (ls' := [(2, .int (nI (c))), (1, .int (nI (i))), (0, .ref 200)]) dX12_reportsGo_34 rfl (by decide) rfl ?_
        refine mm_sipush (v := 866) dX12_reportsGo_35 rfl ?_
        refine mm_at (pc' := 38) rfl ?_
        refine mm_bipush (v := 6) dX12_reportsGo_38 rfl ?_
        refine mm_aload_n 2 dX12_reportsGo_40 rfl rfl ?_
        refine mm_getr (b := 201) dX12_reportsGo_41 rfl fk_X12_9 rfl so_200 sr_200_0 ?_
        refine mm_bipush (v := 18) dX12_reportsGo_44 rfl ?_
        refine mm_ialdN (18) dX12_reportsGo_46 sa_201 (by omega) (by omega) ?_
        refine mm_top (v := nI (r)) hK18 ?_
        refine mm_imulN (6) (r) dX12_reportsGo_47 ?_
        refine mm_iaddN (866) (6 * r) dX12_reportsGo_48 ?_
        refine mm_istore_n (ls' := [(3, .int (nI (866 + (6 * r)))), (2, .int (nI (c))), (1, .int (nI (i))), (0, .ref 200)]) dX12_reportsGo_49 rfl (by decide) rfl ?_
        refine mm_at (pc' := 50) rfl ?_
        refine mm_aload_n 3 dX12_reportsGo_50 rfl rfl ?_
        refine mm_getr (b := 201) dX12_reportsGo_51 rfl fk_X12_9 rfl so_200 sr_200_0 ?_
        refine mm_iload_n 0 dX12_reportsGo_54 rfl rfl ?_
        refine mm_iload_n 1 dX12_reportsGo_55 rfl rfl ?_
        refine mm_iastN (866 + (6 * r)) dX12_reportsGo_56 sa_201 (by omega) (by omega) ?_
        refine mm_aload_n 3 dX12_reportsGo_57 rfl rfl ?_
        refine mm_getr (b := 201) dX12_reportsGo_58 rfl fk_X12_9 rfl so_200 sr_200_0 ?_
        refine mm_iload_n 0 dX12_reportsGo_61 rfl rfl ?_
        refine mm_at (pc' := 62) rfl ?_
        refine mm_iconst (v := 1) dX12_reportsGo_62 rfl ?_
        refine mm_iaddN (866 + (6 * r)) (1) dX12_reportsGo_63 ?_
        refine mm_aload_n 3 dX12_reportsGo_64 rfl rfl ?_
        refine mm_getr (b := 201) dX12_reportsGo_65 rfl fk_X12_9 rfl so_200 sr_200_0 ?_
        refine mm_bipush (v := 30) dX12_reportsGo_68 rfl ?_
        refine mm_iload_n 1 dX12_reportsGo_70 rfl rfl ?_
        refine mm_iaddN (30) (c) dX12_reportsGo_71 ?_
        refine mm_ialdN (30 + c) dX12_reportsGo_72 sa_201 (by omega) (by omega) ?_
        refine mm_at (pc' := 73) rfl ?_
        refine mm_top (v := K 201 (30 + c)) (by rw [mm_up_ni (by omega)]) ?_
        refine mm_top (v := I 201 (30 + c)) (hK _ (by omega)) ?_
        refine mm_iastN ((866 + (6 * r)) + 1) dX12_reportsGo_73 sa_201 (by omega) (by omega) ?_
        refine mm_aload_n 3 dX12_reportsGo_74 rfl rfl ?_
        refine mm_getr (b := 201) dX12_reportsGo_75 rfl fk_X12_9 rfl so_200 sr_200_0 ?_
        refine mm_iload_n 0 dX12_reportsGo_78 rfl rfl ?_
        refine mm_iconst (v := 2) dX12_reportsGo_79 rfl ?_
        refine mm_iaddN (866 + (6 * r)) (2) dX12_reportsGo_80 ?_
        refine mm_aload_n 3 dX12_reportsGo_81 rfl rfl ?_
        refine mm_getr (b := 201) dX12_reportsGo_82 rfl fk_X12_9 rfl so_200 sr_200_0 ?_
        refine mm_at (pc' := 85) rfl ?_
        refine mm_bipush (v := 110) dX12_reportsGo_85 rfl ?_
        refine mm_iload_n 1 dX12_reportsGo_87 rfl rfl ?_
        refine mm_iaddN (110) (c) dX12_reportsGo_88 ?_
        refine mm_ialdN (110 + c) dX12_reportsGo_89 sa_201 (by omega) (by omega) ?_
        refine mm_top (v := K 201 (110 + c)) (by rw [mm_up_ni (by omega), mm_up_ni (by omega)]) ?_
        refine mm_top (v := I 201 (110 + c)) (hK _ (by omega)) ?_
        refine mm_iastN ((866 + (6 * r)) + 2) dX12_reportsGo_90 sa_201 (by omega) (by omega) ?_
        refine mm_aload_n 3 dX12_reportsGo_91 rfl rfl ?_
        refine mm_getr (b := 201) dX12_reportsGo_92 rfl fk_X12_9 rfl so_200 sr_200_0 ?_
        refine mm_iload_n 0 dX12_reportsGo_95 rfl rfl ?_
        refine mm_at (pc' := 96) rfl ?_
        refine mm_iconst (v := 3) dX12_reportsGo_96 rfl ?_
        refine mm_iaddN (866 + (6 * r)) (3) dX12_reportsGo_97 ?_
        refine mm_aload_n 3 dX12_reportsGo_98 rfl rfl ?_
        refine mm_getr (b := 201) dX12_reportsGo_99 rfl fk_X12_9 rfl so_200 sr_200_0 ?_
        refine mm_sipush (v := 190) dX12_reportsGo_102 rfl ?_
        refine mm_iload_n 1 dX12_reportsGo_105 rfl rfl ?_
        refine mm_iaddN (190) (c) dX12_reportsGo_106 ?_
        refine mm_ialdN (190 + c) dX12_reportsGo_107 sa_201 (by omega) (by omega) ?_
        refine mm_at (pc' := 108) rfl ?_
        refine mm_top (v := K 201 (190 + c)) (by rw [mm_up_ni (by omega), mm_up_ni (by omega), mm_up_ni (by omega)]) ?_
        refine mm_top (v := I 201 (190 + c)) (hK _ (by omega)) ?_
        refine mm_iastN ((866 + (6 * r)) + 3) dX12_reportsGo_108 sa_201 (by omega) (by omega) ?_
        refine mm_aload_n 3 dX12_reportsGo_109 rfl rfl ?_
        refine mm_getr (b := 201) dX12_reportsGo_110 rfl fk_X12_9 rfl so_200 sr_200_0 ?_
        refine mm_iload_n 0 dX12_reportsGo_113 rfl rfl ?_
        refine mm_iconst (v := 4) dX12_reportsGo_114 rfl ?_
        refine mm_iaddN (866 + (6 * r)) (4) dX12_reportsGo_115 ?_
        refine mm_aload_n 3 dX12_reportsGo_116 rfl rfl ?_
        refine mm_getr (b := 201) dX12_reportsGo_117 rfl fk_X12_9 rfl so_200 sr_200_0 ?_
        refine mm_at (pc' := 120) rfl ?_
        refine mm_bipush (v := 7) dX12_reportsGo_120 rfl ?_
        refine mm_ialdN (7) dX12_reportsGo_122 sa_201 (by omega) (by omega) ?_
        refine mm_top (v := K 201 7) (by rw [mm_up_ni (by omega), mm_up_ni (by omega), mm_up_ni (by omega), mm_up_ni (by omega)]) ?_
        refine mm_top (v := I 201 7) (hK _ (by omega)) ?_
        refine mm_iastN ((866 + (6 * r)) + 4) dX12_reportsGo_123 sa_201 (by omega) (by omega) ?_
        refine mm_aload_n 3 dX12_reportsGo_124 rfl rfl ?_
        refine mm_getr (b := 201) dX12_reportsGo_125 rfl fk_X12_9 rfl so_200 sr_200_0 ?_
        refine mm_iload_n 0 dX12_reportsGo_128 rfl rfl ?_
        refine mm_iconst (v := 5) dX12_reportsGo_129 rfl ?_
        refine mm_iaddN (866 + (6 * r)) (5) dX12_reportsGo_130 ?_
        refine mm_at (pc' := 131) rfl ?_
        refine mm_aload_n 3 dX12_reportsGo_131 rfl rfl ?_
        refine mm_getr (b := 201) dX12_reportsGo_132 rfl fk_X12_9 rfl so_200 sr_200_0 ?_
        refine mm_bipush (v := 7) dX12_reportsGo_135 rfl ?_
        refine mm_ialdN (7) dX12_reportsGo_137 sa_201 (by omega) (by omega) ?_
        refine mm_top (v := K 201 7) (by rw [mm_up_ni (by omega), mm_up_ni (by omega), mm_up_ni (by omega), mm_up_ni (by omega), mm_up_ni (by omega)]) ?_
        refine mm_top (v := I 201 7) (hK _ (by omega)) ?_
        refine mm_aload_n 3 dX12_reportsGo_138 rfl rfl ?_
        refine mm_getr (b := 201) dX12_reportsGo_139 rfl fk_X12_9 rfl so_200 sr_200_0 ?_
        refine mm_bipush (v := 6) dX12_reportsGo_142 rfl ?_
        refine mm_ialdN (6) dX12_reportsGo_144 sa_201 (by omega) (by omega) ?_
        refine mm_at (pc' := 145) rfl ?_
        refine mm_top (v := K 201 6) (by rw [mm_up_ni (by omega), mm_up_ni (by omega), mm_up_ni (by omega), mm_up_ni (by omega), mm_up_ni (by omega)]) ?_
        refine mm_top (v := I 201 6) (hK _ (by omega)) ?_
        refine mm_iadd dX12_reportsGo_145 ?_
        refine mm_iastN ((866 + (6 * r)) + 5) dX12_reportsGo_146 sa_201 (by omega) (by omega) ?_
        refine mm_aload_n 3 dX12_reportsGo_147 rfl rfl ?_
        refine mm_getr (b := 201) dX12_reportsGo_148 rfl fk_X12_9 rfl so_200 sr_200_0 ?_
        refine mm_bipush (v := 18) dX12_reportsGo_151 rfl ?_
        refine mm_dup2 dX12_reportsGo_153 rfl rfl ?_
        refine mm_ialdN (18) dX12_reportsGo_154 sa_201 (by omega) (by omega) ?_
        refine mm_top (v := K 201 18) (by rw [mm_up_ni (by omega), mm_up_ni (by omega), mm_up_ni (by omega), mm_up_ni (by omega), mm_up_ni (by omega), mm_up_ni (by omega)]) ?_
        refine mm_top (v := nI (r)) hK18 ?_
        refine mm_iconst (v := 1) dX12_reportsGo_155 rfl ?_
        refine mm_at (pc' := 156) rfl ?_
        refine mm_iaddN (r) (1) dX12_reportsGo_156 ?_
        refine mm_iastN (18) dX12_reportsGo_157 sa_201 (by omega) (by omega) ?_
        refine mm_iincN (ls' := [(1, .int (nI (i + 1))), (3, .int (nI (866 + (6 * r)))), (2, .int (nI (c))), (0, .ref 200)]) 2 (i) 1 dX12_reportsGo_158 rfl rfl (by decide) rfl ?_
        refine mm_goto (tgt := 2) dX12_reportsGo_161 (by decide) ?_
        rw [if_neg c18] at step
        have hh := ih (i + 1) (by omega) (by omega)
        rw [step] at hh
        replace hh : mm_Ex g zX12_reportsGo d (0, 0) (0, 0) sh_S (rg_a K r (rg_f (I 201) i)) 2 [(1, .int (nI (i + 1))), (0, .ref 200)] [] Q := hh
        unfold rg_a at hh
        rw [show rg_f (I 201) i 0 = nI c from ec, show rg_f (I 201) i 1 = I 201 (30 + c) by (show I 201 (30 + vv (I 201 (630 + 40 * i + 1))) = _; rw [ec, vv_nI (by omega)]), show rg_f (I 201) i 2 = I 201 (110 + c) by (show I 201 (110 + vv (I 201 (630 + 40 * i + 1))) = _; rw [ec, vv_nI (by omega)]), show rg_f (I 201) i 3 = I 201 (190 + c) by (show I 201 (190 + vv (I 201 (630 + 40 * i + 1))) = _; rw [ec, vv_nI (by omega)]), show rg_f (I 201) i 4 = I 201 7 from rfl, show rg_f (I 201) i 5 = I 201 7 + I 201 6 from rfl] at hh
        exact mm_sub [0, 3] rfl hh
      · refine mm_goto (tgt := 158) dX12_reportsGo_21 (by decide) ?_
        refine mm_iincN (ls' := [(1, .int (nI (i + 1))), (0, .ref 200)]) 0 (i) 1 dX12_reportsGo_158 rfl rfl (by decide) rfl ?_
        refine mm_goto (tgt := 2) dX12_reportsGo_161 (by decide) ?_
        rw [if_pos c18] at step
        have hh := ih (i + 1) (by omega) (by omega)
        rw [step] at hh
        exact mm_sub [0, 1] rfl hh
set_option maxRecDepth 100000 in
set_option maxHeartbeats 600000 in
theorem cm_reportsGo {g : mm_G} {I : mm_I} {d : Nat} {n : Nat} (hm : I 201 16 = nI n) (hm5 : n ≤ 5) {r0 : Nat} (hr : I 201 18 = nI r0) (hr45 : r0 ≤ 45) (hR : mo_R (I 201) r0) (hC : mo_C (I 201) n 80) (hd : 2 ≤ d) : mm_Cv g zX12_reportsGo d [.ref 200] sh_S I (op_rg I n r0) := by
  have hle := rg_le (J := I) (r0 := r0) n
  refine mm_Cv_of (fun Q hq => ?_)
  refine mm_begin (ls := [(0, .ref 200)]) (Nat.le_of_ble_eq_true rfl) rfl rfl ?_
  refine mm_iconst (v := 0) dX12_reportsGo_0 rfl ?_
  refine mm_istore_n (ls' := [(1, .int (0)), (0, .ref 200)]) dX12_reportsGo_1 rfl (by decide) rfl ?_
  refine lm_rg hm hm5 hr hr45 hC hd ?_ (n + 1) 0 (Nat.zero_le _) (by omega)
  refine mm_aload_n 1 dX12_reportsGo_164 rfl rfl ?_
  refine mm_getr (b := 201) dX12_reportsGo_165 rfl fk_X12_9 rfl so_200 sr_200_0 ?_
  refine mm_bipush (v := 6) dX12_reportsGo_168 rfl ?_
  refine mm_ialdN (6) dX12_reportsGo_170 sa_201 (by omega) (by omega) ?_
  refine mm_top (v := I 201 6) (rg_ne (Or.inr ⟨by omega, by omega⟩) n) ?_
  refine mm_if_ne (tgt := 178) dX12_reportsGo_171 (by decide) (fun c171 => ?_) (fun c171 => ?_)
  · refine mm_vret dX12_reportsGo_178 rfl ⟨Nat.le_refl _, Nat.le_refl _⟩ ?_
    exact mm_lv (by unfold op_rg; first | rw [if_pos c171] | rw [if_neg c171]) hq
  · refine mm_aload_n 1 dX12_reportsGo_174 rfl rfl ?_
    refine mm_cV0v (dz := d - 1) dX12_reportsGo_175 rfl mzX12_reportsCome ml_X12_305 imX12_reportsCome (by omega) so_200 ⟨rfl, rfl⟩ (cm_reportsCome (rg_18 hr n) (by omega) (rg_R hR hC n (Nat.le_refl _))) (Nat.le_of_ble_eq_true rfl) ⟨Nat.le_refl _, Nat.le_refl _⟩ ?_
    refine mm_vret dX12_reportsGo_178 rfl ⟨Nat.le_refl _, Nat.le_refl _⟩ ?_
    exact mm_lv (by unfold op_rg; first | rw [if_pos c171] | rw [if_neg c171]) hq
