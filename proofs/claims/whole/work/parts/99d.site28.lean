/-! THE CLASS: THE CUT -/
theorem sh_l : ∀ l, l ≤ 8 → (1 : Int32) <<< (nI l &&& 31) = nI (2 ^ l) := by decide +kernel
def hS (N : Nat → Int32) (D : Nat) : Nat → Nat
  | 0 => 0
  | l + 1 => hS N D l + (if D.testBit l = true then vv (N (598 + l)) else 0)
/-- harms of LOADS are in their bounds -/
def mo_H (N : Nat → Int32) (l : Nat) : Prop := ∀ i, i < l → ∃ x, x ≤ 99 ∧ N (598 + i) = nI x
theorem hS_le {N : Nat → Int32} {D : Nat} : ∀ l, mo_H N l → hS N D l ≤ 99 * l := by
  intro l
  induction l with
  | zero => intro _; exact Nat.le_refl _
  | succ l ih =>
    intro h
    unfold hS
    have h1 := ih (fun i hi => h i (by omega))
    obtain ⟨x, hx, ex⟩ := h l (by omega)
    rw [ex, vv_nI (by omega)]
    by_cases c : D.testBit l = true
    · rw [if_pos c]; omega
    · rw [if_neg c]; omega
theorem hb_n {N : Nat → Int32} {D : Nat} (hD : D < 256) : ∀ l, l ≤ 8 → mo_H N l → sp_hb N (nI D) l = nI (hS N D l) := by
  intro l
  induction l with
  | zero => intro _ _; rfl
  | succ l ih =>
    intro hl h
    unfold sp_hb hS
    rw [ih (by omega) (fun i hi => h i (by omega)), pw_b D hD l (by omega)]
    obtain ⟨x, hx, ex⟩ := h l (by omega)
    rw [ex, vv_nI (by omega)]
    by_cases c : D.testBit l = true
    · rw [if_pos c, if_pos c, Int32.one_mul, nI_add]
    · rw [if_neg c, if_neg c, Int32.zero_mul, Int32.add_zero, Nat.add_zero]
def pc8 (D : Nat) : Nat := vv (sp_mn (nI D) 8)
theorem mn_n : ∀ D, D < 256 → sp_mn (nI D) 8 = nI (pc8 D) ∧ pc8 D ≤ 8 := by decide +kernel
theorem pc_F : ∀ l, l ≤ 8 → ∀ D, D < 256 → D < 2 ^ l - 1 → pc8 D < pc8 (2 ^ l - 1) := by decide +kernel
theorem tb_F : ∀ l, l ≤ 8 → ∀ i, i < l → (2 ^ l - 1).testBit i = true := by decide +kernel
theorem hS_F {N : Nat → Int32} {D F : Nat} : ∀ l, (∀ i, i < l → F.testBit i = true) → hS N D l ≤ hS N F l := by
  intro l
  induction l with
  | zero => intro _; exact Nat.le_refl _
  | succ l ih =>
    intro h
    unfold hS
    rw [if_pos (h l (by omega))]
    have := ih (fun i hi => h i (by omega))
    by_cases c : D.testBit l = true
    · rw [if_pos c]; omega
    · rw [if_neg c]; omega
/-- whether a cut is milder -/
abbrev mlt (N : Nat → Int32) (l a b : Nat) : Prop := hS N a l < hS N b l ∨ (hS N a l = hS N b l ∧ pc8 a < pc8 b)
def cf (N : Nat → Int32) (l : Nat) (n : Int32) : Nat → Nat
  | 0 => 2 ^ l - 1
  | i + 1 => if sp_pb N (nI i) l * n ≤ N 4 ∧ mlt N l i (cf N l n i) then i else cf N l n i
theorem p2l : ∀ l, l ≤ 8 → 1 ≤ 2 ^ l ∧ 2 ^ l ≤ 256 := by decide
theorem cf_lt {N : Nat → Int32} {l : Nat} {n : Int32} (hl : l ≤ 8) : ∀ i, i ≤ 2 ^ l → cf N l n i < 256 := by
  have := p2l l hl
  intro i
  induction i with
  | zero => intro _; show 2 ^ l - 1 < 256; omega
  | succ i ih =>
    intro hi
    unfold cf
    split
    · omega
    · exact ih (by omega)
theorem bt_n {N : Nat → Int32} {l a b : Nat} (hl : l ≤ 8) (hH : mo_H N l) (ha : a < 256) (hb : b < 256) : sp_bt N l (nI a) (nI b) ↔ mlt N l a b := by
  have h1 := hS_le (D := a) l hH
  have h2 := hS_le (D := b) l hH
  have m1 := mn_n a ha
  have m2 := mn_n b hb
  unfold sp_bt mlt
  rw [hb_n ha l hl hH, hb_n hb l hl hH, m1.1, m2.1, nI_ltI (by omega) (by omega), nI_eq (by omega) (by omega), nI_leI (by omega) (by omega)]
  constructor
  · rintro (q | q | q)
    · exact absurd q (nI_pos (by omega))
    · exact Or.inl q
    · exact Or.inr ⟨q.1, by omega⟩
  · rintro (q | q)
    · exact Or.inr (Or.inl q)
    · exact Or.inr (Or.inr ⟨q.1, by omega⟩)
theorem cf_fc {N : Nat → Int32} {l : Nat} {n : Int32} (hl : l ≤ 8) (hH : mo_H N l) : ∀ i, i ≤ 2 ^ l → (sp_fc N l n i = -1 ∧ cf N l n i = 2 ^ l - 1) ∨ sp_fc N l n i = nI (cf N l n i) := by
  have hp := p2l l hl
  intro i
  induction i with
  | zero => intro _; exact Or.inl ⟨rfl, rfl⟩
  | succ i ih =>
    intro hi
    have hcl := cf_lt (N := N) (n := n) hl i (by omega)
    unfold sp_fc cf
    by_cases c : sp_pb N (nI i) l * n ≤ N 4
    · rw [if_pos c]
      rcases ih (by omega) with ⟨e1, e2⟩ | e1
      · rw [e1, if_pos (Or.inl (by decide)), e2]
        by_cases q : i = 2 ^ l - 1
        · rw [if_neg (by rintro ⟨-, q2⟩; subst q; rcases q2 with q2 | ⟨-, q2⟩ <;> omega), q]; exact Or.inr rfl
        · have h1 := hS_F (N := N) (D := i) l (tb_F l hl)
          have h2 := pc_F l hl i (by omega) (by omega)
          have hm : mlt N l i (2 ^ l - 1) := by unfold mlt; omega
          rw [if_pos ⟨c, hm⟩]; exact Or.inr rfl
      · rw [e1]
        by_cases q : mlt N l i (cf N l n i)
        · rw [if_pos ((bt_n hl hH (by omega) hcl).mpr q), if_pos ⟨c, q⟩]; exact Or.inr rfl
        · rw [if_neg (fun w => q ((bt_n hl hH (by omega) hcl).mp w)), if_neg (fun w => q w.2)]; exact Or.inr rfl
    · rw [if_neg c, if_neg (fun w => c w.1)]; exact ih (by omega)
theorem pb_full {N : Nat → Int32} {D : Nat} (hD : D < 256) : ∀ l, l ≤ 8 → (∀ i, i < l → D.testBit i = true) → sp_pb N (nI D) l = 0 := by
  intro l
  induction l with
  | zero => intro _ _; rfl
  | succ l ih =>
    intro hl h
    unfold sp_pb
    rw [ih (by omega) (fun i hi => h i (by omega)), pw_b D hD l (by omega), if_pos (h l (by omega)), if_neg (by decide)]; rfl
theorem fc_cf {N : Nat → Int32} {l : Nat} {n : Int32} (hl : l ≤ 8) (hH : mo_H N l) (hB : 0 ≤ N 4) : sp_fc N l n (2 ^ l) = nI (cf N l n (2 ^ l)) := by
  have hp := p2l l hl
  rcases cf_fc (n := n) hl hH (2 ^ l) (Nat.le_refl _) with ⟨e1, -⟩ | e1
  · exfalso
    have e2 : 2 ^ l = (2 ^ l - 1) + 1 := by omega
    rw [e2] at e1
    unfold sp_fc at e1
    rw [pb_full (by omega) l hl (tb_F l hl), Int32.zero_mul, if_pos hB] at e1
    by_cases q : sp_bt N l (nI (2 ^ l - 1)) (sp_fc N l n (2 ^ l - 1))
    · rw [if_pos q] at e1
      exact nI_pos (show 2 ^ l - 1 < 2 ^ 31 by omega) (by rw [e1]; decide)
    · rw [if_neg q] at e1
      exact q (Or.inl (by rw [e1]; decide))
  · exact e1
set_option maxRecDepth 100000 in
set_option maxHeartbeats 600000 in
def bcE (x : Int32) : Int32 := (((((((x - ((((x).toUInt32 >>> ((1 : Int32).toUInt32 &&& Int32.toUInt32 31)).toInt32) &&& 1431655765)) &&& 858993459) + ((((x - ((((x).toUInt32 >>> ((1 : Int32).toUInt32 &&& Int32.toUInt32 31)).toInt32) &&& 1431655765)).toUInt32 >>> ((2 : Int32).toUInt32 &&& Int32.toUInt32 31)).toInt32) &&& 858993459)) + (((((x - ((((x).toUInt32 >>> ((1 : Int32).toUInt32 &&& Int32.toUInt32 31)).toInt32) &&& 1431655765)) &&& 858993459) + ((((x - ((((x).toUInt32 >>> ((1 : Int32).toUInt32 &&& Int32.toUInt32 31)).toInt32) &&& 1431655765)).toUInt32 >>> ((2 : Int32).toUInt32 &&& Int32.toUInt32 31)).toInt32) &&& 858993459)).toUInt32 >>> ((4 : Int32).toUInt32 &&& Int32.toUInt32 31)).toInt32)) &&& 252645135) + (((((((x - ((((x).toUInt32 >>> ((1 : Int32).toUInt32 &&& Int32.toUInt32 31)).toInt32) &&& 1431655765)) &&& 858993459) + ((((x - ((((x).toUInt32 >>> ((1 : Int32).toUInt32 &&& Int32.toUInt32 31)).toInt32) &&& 1431655765)).toUInt32 >>> ((2 : Int32).toUInt32 &&& Int32.toUInt32 31)).toInt32) &&& 858993459)) + (((((x - ((((x).toUInt32 >>> ((1 : Int32).toUInt32 &&& Int32.toUInt32 31)).toInt32) &&& 1431655765)) &&& 858993459) + ((((x - ((((x).toUInt32 >>> ((1 : Int32).toUInt32 &&& Int32.toUInt32 31)).toInt32) &&& 1431655765)).toUInt32 >>> ((2 : Int32).toUInt32 &&& Int32.toUInt32 31)).toInt32) &&& 858993459)).toUInt32 >>> ((4 : Int32).toUInt32 &&& Int32.toUInt32 31)).toInt32)) &&& 252645135).toUInt32 >>> ((8 : Int32).toUInt32 &&& Int32.toUInt32 31)).toInt32)) + ((((((((x - ((((x).toUInt32 >>> ((1 : Int32).toUInt32 &&& Int32.toUInt32 31)).toInt32) &&& 1431655765)) &&& 858993459) + ((((x - ((((x).toUInt32 >>> ((1 : Int32).toUInt32 &&& Int32.toUInt32 31)).toInt32) &&& 1431655765)).toUInt32 >>> ((2 : Int32).toUInt32 &&& Int32.toUInt32 31)).toInt32) &&& 858993459)) + (((((x - ((((x).toUInt32 >>> ((1 : Int32).toUInt32 &&& Int32.toUInt32 31)).toInt32) &&& 1431655765)) &&& 858993459) + ((((x - ((((x).toUInt32 >>> ((1 : Int32).toUInt32 &&& Int32.toUInt32 31)).toInt32) &&& 1431655765)).toUInt32 >>> ((2 : Int32).toUInt32 &&& Int32.toUInt32 31)).toInt32) &&& 858993459)).toUInt32 >>> ((4 : Int32).toUInt32 &&& Int32.toUInt32 31)).toInt32)) &&& 252645135) + (((((((x - ((((x).toUInt32 >>> ((1 : Int32).toUInt32 &&& Int32.toUInt32 31)).toInt32) &&& 1431655765)) &&& 858993459) + ((((x - ((((x).toUInt32 >>> ((1 : Int32).toUInt32 &&& Int32.toUInt32 31)).toInt32) &&& 1431655765)).toUInt32 >>> ((2 : Int32).toUInt32 &&& Int32.toUInt32 31)).toInt32) &&& 858993459)) + (((((x - ((((x).toUInt32 >>> ((1 : Int32).toUInt32 &&& Int32.toUInt32 31)).toInt32) &&& 1431655765)) &&& 858993459) + ((((x - ((((x).toUInt32 >>> ((1 : Int32).toUInt32 &&& Int32.toUInt32 31)).toInt32) &&& 1431655765)).toUInt32 >>> ((2 : Int32).toUInt32 &&& Int32.toUInt32 31)).toInt32) &&& 858993459)).toUInt32 >>> ((4 : Int32).toUInt32 &&& Int32.toUInt32 31)).toInt32)) &&& 252645135).toUInt32 >>> ((8 : Int32).toUInt32 &&& Int32.toUInt32 31)).toInt32)).toUInt32 >>> ((16 : Int32).toUInt32 &&& Int32.toUInt32 31)).toInt32)) &&& 63
theorem bcE_n : ∀ D, D < 256 → bcE (nI D) = nI (pc8 D) := by decide +kernel
theorem cj_bc {g : mm_G} {S : mm_Sh} {I : mm_I} {d : Nat} {x : Int32} : mm_Ci g zJ6_bitCount_0f7a4 d [.int x] S I (bcE x) I := by
  refine mm_Ci_of (fun Q hq => ?_)
  refine mm_begin (ls := [(0, .int (x))]) (Nat.le_of_ble_eq_true rfl) rfl rfl ?_
  refine mm_iload_n 0 dJ6_bitCount_0f7a4_0 rfl rfl ?_
  refine mm_iload_n 0 dJ6_bitCount_0f7a4_1 rfl rfl ?_
  refine mm_iconst (v := 1) dJ6_bitCount_0f7a4_2 rfl ?_
  refine mm_iushr dJ6_bitCount_0f7a4_3 ?_
  refine mm_ldcw dJ6_bitCount_0f7a4_4 rfl kc_J6_265 ?_
  refine mm_iand dJ6_bitCount_0f7a4_7 ?_
  refine mm_isub dJ6_bitCount_0f7a4_8 ?_
  refine mm_istore_n (ls' := [(0, .int (x - ((((x).toUInt32 >>> ((1 : Int32).toUInt32 &&& Int32.toUInt32 31)).toInt32) &&& 1431655765)))]) dJ6_bitCount_0f7a4_9 rfl (by decide) rfl ?_
  refine mm_at (pc' := 10) rfl ?_
  refine mm_iload_n 0 dJ6_bitCount_0f7a4_10 rfl rfl ?_
  refine mm_ldcw dJ6_bitCount_0f7a4_11 rfl kc_J6_266 ?_
  refine mm_iand dJ6_bitCount_0f7a4_14 ?_
  refine mm_iload_n 0 dJ6_bitCount_0f7a4_15 rfl rfl ?_
  refine mm_iconst (v := 2) dJ6_bitCount_0f7a4_16 rfl ?_
  refine mm_iushr dJ6_bitCount_0f7a4_17 ?_
  refine mm_ldcw dJ6_bitCount_0f7a4_18 rfl kc_J6_266 ?_
  refine mm_iand dJ6_bitCount_0f7a4_21 ?_
  refine mm_at (pc' := 22) rfl ?_
  refine mm_iadd dJ6_bitCount_0f7a4_22 ?_
  refine mm_istore_n (ls' := [(0, .int (((x - ((((x).toUInt32 >>> ((1 : Int32).toUInt32 &&& Int32.toUInt32 31)).toInt32) &&& 1431655765)) &&& 858993459) + ((((x - ((((x).toUInt32 >>> ((1 : Int32).toUInt32 &&& Int32.toUInt32 31)).toInt32) &&& 1431655765)).toUInt32 >>> ((2 : Int32).toUInt32 &&& Int32.toUInt32 31)).toInt32) &&& 858993459)))]) dJ6_bitCount_0f7a4_23 rfl (by decide) rfl ?_
  refine mm_iload_n 0 dJ6_bitCount_0f7a4_24 rfl rfl ?_
  refine mm_iload_n 0 dJ6_bitCount_0f7a4_25 rfl rfl ?_
  refine mm_iconst (v := 4) dJ6_bitCount_0f7a4_26 rfl ?_
  refine mm_iushr dJ6_bitCount_0f7a4_27 ?_
  refine mm_iadd dJ6_bitCount_0f7a4_28 ?_
  refine mm_ldcw dJ6_bitCount_0f7a4_29 rfl kc_J6_267 ?_
  refine mm_at (pc' := 32) rfl ?_
  refine mm_iand dJ6_bitCount_0f7a4_32 ?_
  refine mm_istore_n (ls' := [(0, .int (((((x - ((((x).toUInt32 >>> ((1 : Int32).toUInt32 &&& Int32.toUInt32 31)).toInt32) &&& 1431655765)) &&& 858993459) + ((((x - ((((x).toUInt32 >>> ((1 : Int32).toUInt32 &&& Int32.toUInt32 31)).toInt32) &&& 1431655765)).toUInt32 >>> ((2 : Int32).toUInt32 &&& Int32.toUInt32 31)).toInt32) &&& 858993459)) + (((((x - ((((x).toUInt32 >>> ((1 : Int32).toUInt32 &&& Int32.toUInt32 31)).toInt32) &&& 1431655765)) &&& 858993459) + ((((x - ((((x).toUInt32 >>> ((1 : Int32).toUInt32 &&& Int32.toUInt32 31)).toInt32) &&& 1431655765)).toUInt32 >>> ((2 : Int32).toUInt32 &&& Int32.toUInt32 31)).toInt32) &&& 858993459)).toUInt32 >>> ((4 : Int32).toUInt32 &&& Int32.toUInt32 31)).toInt32)) &&& 252645135))]) dJ6_bitCount_0f7a4_33 rfl (by decide) rfl ?_
  refine mm_iload_n 0 dJ6_bitCount_0f7a4_34 rfl rfl ?_
  refine mm_iload_n 0 dJ6_bitCount_0f7a4_35 rfl rfl ?_
  refine mm_bipush (v := 8) dJ6_bitCount_0f7a4_36 rfl ?_
  refine mm_iushr dJ6_bitCount_0f7a4_38 ?_
  refine mm_iadd dJ6_bitCount_0f7a4_39 ?_
  refine mm_istore_n (ls' := [(0, .int ((((((x - ((((x).toUInt32 >>> ((1 : Int32).toUInt32 &&& Int32.toUInt32 31)).toInt32) &&& 1431655765)) &&& 858993459) + ((((x - ((((x).toUInt32 >>> ((1 : Int32).toUInt32 &&& Int32.toUInt32 31)).toInt32) &&& 1431655765)).toUInt32 >>> ((2 : Int32).toUInt32 &&& Int32.toUInt32 31)).toInt32) &&& 858993459)) + (((((x - ((((x).toUInt32 >>> ((1 : Int32).toUInt32 &&& Int32.toUInt32 31)).toInt32) &&& 1431655765)) &&& 858993459) + ((((x - ((((x).toUInt32 >>> ((1 : Int32).toUInt32 &&& Int32.toUInt32 31)).toInt32) &&& 1431655765)).toUInt32 >>> ((2 : Int32).toUInt32 &&& Int32.toUInt32 31)).toInt32) &&& 858993459)).toUInt32 >>> ((4 : Int32).toUInt32 &&& Int32.toUInt32 31)).toInt32)) &&& 252645135) + (((((((x - ((((x).toUInt32 >>> ((1 : Int32).toUInt32 &&& Int32.toUInt32 31)).toInt32) &&& 1431655765)) &&& 858993459) + ((((x - ((((x).toUInt32 >>> ((1 : Int32).toUInt32 &&& Int32.toUInt32 31)).toInt32) &&& 1431655765)).toUInt32 >>> ((2 : Int32).toUInt32 &&& Int32.toUInt32 31)).toInt32) &&& 858993459)) + (((((x - ((((x).toUInt32 >>> ((1 : Int32).toUInt32 &&& Int32.toUInt32 31)).toInt32) &&& 1431655765)) &&& 858993459) + ((((x - ((((x).toUInt32 >>> ((1 : Int32).toUInt32 &&& Int32.toUInt32 31)).toInt32) &&& 1431655765)).toUInt32 >>> ((2 : Int32).toUInt32 &&& Int32.toUInt32 31)).toInt32) &&& 858993459)).toUInt32 >>> ((4 : Int32).toUInt32 &&& Int32.toUInt32 31)).toInt32)) &&& 252645135).toUInt32 >>> ((8 : Int32).toUInt32 &&& Int32.toUInt32 31)).toInt32)))]) dJ6_bitCount_0f7a4_40 rfl (by decide) rfl ?_
  refine mm_at (pc' := 41) rfl ?_
  refine mm_iload_n 0 dJ6_bitCount_0f7a4_41 rfl rfl ?_
  refine mm_iload_n 0 dJ6_bitCount_0f7a4_42 rfl rfl ?_
  refine mm_bipush (v := 16) dJ6_bitCount_0f7a4_43 rfl ?_
  refine mm_iushr dJ6_bitCount_0f7a4_45 ?_
  refine mm_iadd dJ6_bitCount_0f7a4_46 ?_
  refine mm_istore_n (ls' := [(0, .int (((((((x - ((((x).toUInt32 >>> ((1 : Int32).toUInt32 &&& Int32.toUInt32 31)).toInt32) &&& 1431655765)) &&& 858993459) + ((((x - ((((x).toUInt32 >>> ((1 : Int32).toUInt32 &&& Int32.toUInt32 31)).toInt32) &&& 1431655765)).toUInt32 >>> ((2 : Int32).toUInt32 &&& Int32.toUInt32 31)).toInt32) &&& 858993459)) + (((((x - ((((x).toUInt32 >>> ((1 : Int32).toUInt32 &&& Int32.toUInt32 31)).toInt32) &&& 1431655765)) &&& 858993459) + ((((x - ((((x).toUInt32 >>> ((1 : Int32).toUInt32 &&& Int32.toUInt32 31)).toInt32) &&& 1431655765)).toUInt32 >>> ((2 : Int32).toUInt32 &&& Int32.toUInt32 31)).toInt32) &&& 858993459)).toUInt32 >>> ((4 : Int32).toUInt32 &&& Int32.toUInt32 31)).toInt32)) &&& 252645135) + (((((((x - ((((x).toUInt32 >>> ((1 : Int32).toUInt32 &&& Int32.toUInt32 31)).toInt32) &&& 1431655765)) &&& 858993459) + ((((x - ((((x).toUInt32 >>> ((1 : Int32).toUInt32 &&& Int32.toUInt32 31)).toInt32) &&& 1431655765)).toUInt32 >>> ((2 : Int32).toUInt32 &&& Int32.toUInt32 31)).toInt32) &&& 858993459)) + (((((x - ((((x).toUInt32 >>> ((1 : Int32).toUInt32 &&& Int32.toUInt32 31)).toInt32) &&& 1431655765)) &&& 858993459) + ((((x - ((((x).toUInt32 >>> ((1 : Int32).toUInt32 &&& Int32.toUInt32 31)).toInt32) &&& 1431655765)).toUInt32 >>> ((2 : Int32).toUInt32 &&& Int32.toUInt32 31)).toInt32) &&& 858993459)).toUInt32 >>> ((4 : Int32).toUInt32 &&& Int32.toUInt32 31)).toInt32)) &&& 252645135).toUInt32 >>> ((8 : Int32).toUInt32 &&& Int32.toUInt32 31)).toInt32)) + ((((((((x - ((((x).toUInt32 >>> ((1 : Int32).toUInt32 &&& Int32.toUInt32 31)).toInt32) &&& 1431655765)) &&& 858993459) + ((((x - ((((x).toUInt32 >>> ((1 : Int32).toUInt32 &&& Int32.toUInt32 31)).toInt32) &&& 1431655765)).toUInt32 >>> ((2 : Int32).toUInt32 &&& Int32.toUInt32 31)).toInt32) &&& 858993459)) + (((((x - ((((x).toUInt32 >>> ((1 : Int32).toUInt32 &&& Int32.toUInt32 31)).toInt32) &&& 1431655765)) &&& 858993459) + ((((x - ((((x).toUInt32 >>> ((1 : Int32).toUInt32 &&& Int32.toUInt32 31)).toInt32) &&& 1431655765)).toUInt32 >>> ((2 : Int32).toUInt32 &&& Int32.toUInt32 31)).toInt32) &&& 858993459)).toUInt32 >>> ((4 : Int32).toUInt32 &&& Int32.toUInt32 31)).toInt32)) &&& 252645135) + (((((((x - ((((x).toUInt32 >>> ((1 : Int32).toUInt32 &&& Int32.toUInt32 31)).toInt32) &&& 1431655765)) &&& 858993459) + ((((x - ((((x).toUInt32 >>> ((1 : Int32).toUInt32 &&& Int32.toUInt32 31)).toInt32) &&& 1431655765)).toUInt32 >>> ((2 : Int32).toUInt32 &&& Int32.toUInt32 31)).toInt32) &&& 858993459)) + (((((x - ((((x).toUInt32 >>> ((1 : Int32).toUInt32 &&& Int32.toUInt32 31)).toInt32) &&& 1431655765)) &&& 858993459) + ((((x - ((((x).toUInt32 >>> ((1 : Int32).toUInt32 &&& Int32.toUInt32 31)).toInt32) &&& 1431655765)).toUInt32 >>> ((2 : Int32).toUInt32 &&& Int32.toUInt32 31)).toInt32) &&& 858993459)).toUInt32 >>> ((4 : Int32).toUInt32 &&& Int32.toUInt32 31)).toInt32)) &&& 252645135).toUInt32 >>> ((8 : Int32).toUInt32 &&& Int32.toUInt32 31)).toInt32)).toUInt32 >>> ((16 : Int32).toUInt32 &&& Int32.toUInt32 31)).toInt32)))]) dJ6_bitCount_0f7a4_47 rfl (by decide) rfl ?_
  refine mm_iload_n 0 dJ6_bitCount_0f7a4_48 rfl rfl ?_
  refine mm_bipush (v := 63) dJ6_bitCount_0f7a4_49 rfl ?_
  refine mm_at (pc' := 51) rfl ?_
  refine mm_iand dJ6_bitCount_0f7a4_51 ?_
  refine mm_iret dJ6_bitCount_0f7a4_52 rfl ⟨Nat.le_refl _, Nat.le_refl _⟩ ?_
  exact hq
theorem i_sl {x y : Nat} (hx : x ≤ 1000) (hy : y ≤ 1000) : (nI x - nI y < 0) ↔ x < y := by
  by_cases c : y ≤ x
  · rw [pk_sub c]; exact ⟨fun q => absurd q (nI_pos (by omega)), fun q => by omega⟩
  · refine ⟨fun _ => by omega, fun _ => ?_⟩
    have e : nI x - nI y = - nI (y - x) := by rw [← pk_sub (show x ≤ y by omega), Int32.neg_sub]
    rw [e]
    have hh : ∀ z, z ≤ 1000 → 0 < z → - nI z < 0 := by decide +kernel
    exact hh _ (by omega) (by omega)
theorem i_se {x y : Nat} (hx : x ≤ 1000) (hy : y ≤ 1000) : (nI x - nI y = 0) ↔ x = y := by
  refine ⟨fun q => ?_, fun q => by subst q; exact Int32.sub_self _⟩
  by_cases c : y ≤ x
  · rw [pk_sub c] at q
    have := (nI_eq (a := x - y) (b := 0) (by omega) (by omega)).mp q
    omega
  · have := (i_sl hx hy).mpr (by omega)
    rw [q] at this
    exact absurd this (by decide)
set_option maxRecDepth 100000 in
set_option maxHeartbeats 600000 in
theorem cg_milder {g : mm_G} {d : Nat} {w h n l k o r : Nat} {A : mm_I} {N : Nat → Int32} (hz : zOK (w * h) n l k o r) (hW : mo_W N w h) {a b : Nat} (ha : a < 256) (hb : b < 256) (hH : mo_H N l) (hd : 2 ≤ d) : mm_Ci g zX3_isMilder d [.ref 17, .int (nI (a)), .int (nI (b))] sh_S (cN (w * h) n l k o r A N) (if mlt N l a b then 1 else 0) (cN (w * h) n l k o r A N) := by
  obtain ⟨hz1, hz2, hz3, hz4, hz5, hz6⟩ := id hz
  have hc := mo_W_c hW
  obtain ⟨-, -, hw1, hw2, hh1, hh2⟩ := id hW
  have h1 := hS_le (D := a) l hH
  have h2 := hS_le (D := b) l hH
  have m1 := mn_n a ha
  have m2 := mn_n b hb
  have eh : sp_hb N (nI a) l - sp_hb N (nI b) l = nI (hS N a l) - nI (hS N b l) := by rw [hb_n ha l hz3 hH, hb_n hb l hz3 hH]
  have em : bcE (nI a) - bcE (nI b) = nI (pc8 a) - nI (pc8 b) := by rw [bcE_n a ha, bcE_n b hb]
  have s1 := i_sl (x := hS N a l) (y := hS N b l) (by omega) (by omega)
  have s2 := i_se (x := hS N a l) (y := hS N b l) (by omega) (by omega)
  have s4 : (0 ≤ nI (pc8 a) - nI (pc8 b)) ↔ pc8 b ≤ pc8 a := by
    have := i_sl (x := pc8 a) (y := pc8 b) (by omega) (by omega)
    rw [← Int32.not_lt, this]; omega
  refine mm_Ci_of (fun Q hq => ?_)
  refine mm_begin (ls := [(0, .ref 17), (1, .int (nI (a))), (2, .int (nI (b)))]) (Nat.le_of_ble_eq_true rfl) rfl rfl ?_
  refine mm_aload_n 0 dX3_isMilder_0 rfl rfl ?_
  refine mm_iload_n 1 dX3_isMilder_1 rfl rfl ?_
  refine mm_cV1i (dz := d - 1) dX3_isMilder_2 rfl mzX3_harmOf ml_X3_82 imX3_harmOf (by omega) so_17 ⟨rfl, rfl⟩ (cg_hb hz hW (by omega)) (Nat.le_of_ble_eq_true rfl) ⟨Nat.le_refl _, Nat.le_refl _⟩ ?_
  refine mm_aload_n 0 dX3_isMilder_5 rfl rfl ?_
  refine mm_iload_n 2 dX3_isMilder_6 rfl rfl ?_
  refine mm_cV1i (dz := d - 1) dX3_isMilder_7 rfl mzX3_harmOf ml_X3_82 imX3_harmOf (by omega) so_17 ⟨rfl, rfl⟩ (cg_hb hz hW (by omega)) (Nat.le_of_ble_eq_true rfl) ⟨Nat.le_refl _, Nat.le_refl _⟩ ?_
  refine mm_isub dX3_isMilder_10 ?_
  refine mm_istore_n (ls' := [(3, .int ((sp_hb N (nI (a)) l) - (sp_hb N (nI (b)) l))), (0, .ref 17), (1, .int (nI (a))), (2, .int (nI (b)))]) dX3_isMilder_11 rfl (by decide) rfl ?_
  refine mm_at (pc' := 12) rfl ?_
  refine mm_iload_n 2 dX3_isMilder_12 rfl rfl ?_
  refine mm_cS1i (dz := d - 1) dX3_isMilder_13 rfl mzJ6_bitCount_0f7a4 ml_X3_92 imJ6_bitCount_0f7a4 (by omega) cj_bc (Nat.le_of_ble_eq_true rfl) ⟨Nat.le_refl _, Nat.le_refl _⟩ ?_
  refine mm_iload_n 3 dX3_isMilder_16 rfl rfl ?_
  refine mm_cS1i (dz := d - 1) dX3_isMilder_17 rfl mzJ6_bitCount_0f7a4 ml_X3_92 imJ6_bitCount_0f7a4 (by omega) cj_bc (Nat.le_of_ble_eq_true rfl) ⟨Nat.le_refl _, Nat.le_refl _⟩ ?_
  refine mm_isub dX3_isMilder_20 ?_
  refine mm_istore (ls' := [(4, .int ((bcE (nI (a))) - (bcE (nI (b))))), (3, .int ((sp_hb N (nI (a)) l) - (sp_hb N (nI (b)) l))), (0, .ref 17), (1, .int (nI (a))), (2, .int (nI (b)))]) dX3_isMilder_21 (by decide) rfl ?_
  refine mm_iload_n 1 dX3_isMilder_23 rfl rfl ?_
  refine mm_if_lt (tgt := 36) dX3_isMilder_24 (by decide) (fun c24 => ?_) (fun c24 => ?_)
  · refine mm_iconst (v := 1) dX3_isMilder_36 rfl ?_
    refine mm_goto (tgt := 41) dX3_isMilder_37 (by decide) ?_
    refine mm_zret dX3_isMilder_41 rfl (by decide) ⟨Nat.le_refl _, Nat.le_refl _⟩ ?_
    rw [eh, s1] at c24
    try rw [eh, s2] at c28
    try rw [em, s4] at c33
    rw [if_pos (by unfold mlt; omega)] at hq; exact hq
  · refine mm_iload_n 1 dX3_isMilder_27 rfl rfl ?_
    refine mm_if_ne (tgt := 40) dX3_isMilder_28 (by decide) (fun c28 => ?_) (fun c28 => ?_)
    · refine mm_iconst (v := 0) dX3_isMilder_40 rfl ?_
      refine mm_zret dX3_isMilder_41 rfl (by decide) ⟨Nat.le_refl _, Nat.le_refl _⟩ ?_
      rw [eh, s1] at c24
      try rw [eh, s2] at c28
      try rw [em, s4] at c33
      rw [if_neg (by unfold mlt; omega)] at hq; exact hq
    · refine mm_iload 0 dX3_isMilder_31 rfl ?_
      refine mm_if_ge (tgt := 40) dX3_isMilder_33 (by decide) (fun c33 => ?_) (fun c33 => ?_)
      · refine mm_iconst (v := 0) dX3_isMilder_40 rfl ?_
        refine mm_zret dX3_isMilder_41 rfl (by decide) ⟨Nat.le_refl _, Nat.le_refl _⟩ ?_
        rw [eh, s1] at c24
        try rw [eh, s2] at c28
        try rw [em, s4] at c33
        rw [if_neg (by unfold mlt; omega)] at hq; exact hq
      · refine mm_iconst (v := 1) dX3_isMilder_36 rfl ?_
        refine mm_goto (tgt := 41) dX3_isMilder_37 (by decide) ?_
        refine mm_zret dX3_isMilder_41 rfl (by decide) ⟨Nat.le_refl _, Nat.le_refl _⟩ ?_
        rw [eh, s1] at c24
        try rw [eh, s2] at c28
        try rw [em, s4] at c33
        rw [if_pos (by unfold mlt; omega)] at hq; exact hq
set_option maxRecDepth 100000 in
set_option maxHeartbeats 600000 in
theorem dk_lc {g : mm_G} {d : Nat} {w h n l k o r : Nat} {A : mm_I} {N : Nat → Int32} (hz : zOK (w * h) n l k o r) (hW : mo_W N w h) {Q : Option Value → mm_Sh → mm_I → Prop} {x : Int32} (hH : mo_H N l) (hd : 3 ≤ d) (hq : Q (some (.int (nI (cf N l x (2 ^ l))))) sh_S (cN (w * h) n l k o r A N)) : ∀ (m : Nat) (i : Nat), (i ≤ 2 ^ l) → 2 ^ l - i < m → mm_Ex g zX3_leastCut d (0, 0) (0, 0) sh_S (cN (w * h) n l k o r A N) 11 [(3, .int (nI (i))), (2, .int (nI (cf N l x i))), (0, .ref 17), (1, .int (x))] [] Q := by
  obtain ⟨hz1, hz2, hz3, hz4, hz5, hz6⟩ := id hz
  have hc := mo_W_c hW
  obtain ⟨-, -, hw1, hw2, hh1, hh2⟩ := id hW
  have hp2 := p2l l hz3
  intro m
  induction m with
  | zero => intro i hi hmz; exact absurd hmz (Nat.not_lt_zero _)
  | succ m ih =>
    intro i hi hmz
    have hcl := cf_lt (N := N) (n := x) hz3 i hi
    refine mm_iload_n 0 dX3_leastCut_11 rfl rfl ?_
    refine mm_iconst (v := 1) dX3_leastCut_12 rfl ?_
    refine mm_aload_n 2 dX3_leastCut_13 rfl rfl ?_
    refine mm_cV0i (dz := d - 1) dX3_leastCut_14 rfl mzX3_loads ml_X3_63 imX3_loads (by omega) so_17 ⟨rfl, rfl⟩ (cg_loads hz hW (by omega)) (Nat.le_of_ble_eq_true rfl) ⟨Nat.le_refl _, Nat.le_refl _⟩ ?_
    refine mm_ishl dX3_leastCut_17 ?_
    refine mm_top (v := nI (2 ^ l)) (sh_l l hz3) ?_
    refine mm_icmp_geN (i) (2 ^ l) (tgt := 52) dX3_leastCut_18 (by decide) (by omega) (by omega) (fun c18 => ?_) (fun c18 => ?_)
    · refine mm_iload_n 1 dX3_leastCut_52 rfl rfl ?_
      refine mm_iret dX3_leastCut_53 rfl ⟨Nat.le_refl _, Nat.le_refl _⟩ ?_
      have e : i = 2 ^ l := by omega
      subst e; exact hq
    · refine mm_iload_n 3 dX3_leastCut_21 rfl rfl ?_
      refine mm_aload_n 2 dX3_leastCut_22 rfl rfl ?_
      refine mm_iload_n 0 dX3_leastCut_23 rfl rfl ?_
      refine mm_cV1i (dz := d - 1) dX3_leastCut_24 rfl mzX3_taken ml_X3_76 imX3_taken (by omega) so_17 ⟨rfl, rfl⟩ (cg_pb hz hW (by omega)) (Nat.le_of_ble_eq_true rfl) ⟨Nat.le_refl _, Nat.le_refl _⟩ ?_
      refine mm_imul dX3_leastCut_27 ?_
      refine mm_aload_n 2 dX3_leastCut_28 rfl rfl ?_
      refine mm_geti dX3_leastCut_29 rfl fk_X3_33 rfl so_17 ?_
      refine mm_at (pc' := 32) rfl ?_
      refine mm_top (v := N 4) (cN_r (lo_at17.trans rfl)) ?_
      refine mm_icmp_gt (tgt := 46) dX3_leastCut_32 (by decide) (fun c32 => ?_) (fun c32 => ?_)
      · refine mm_iincN (ls' := [(3, .int (nI (i + 1))), (2, .int (nI (cf N l x i))), (0, .ref 17), (1, .int (x))]) 0 (i) 1 dX3_leastCut_46 rfl rfl (by decide) rfl ?_
        refine mm_goto (tgt := 11) dX3_leastCut_49 (by decide) ?_
        have hh := ih (i + 1) (by omega) (by omega)
        rw [show cf N l x (i + 1) = cf N l x i from if_neg (by rintro ⟨q1, q2⟩; rw [Int32.mul_comm] at q1; first | exact absurd q1 (Int32.not_le.mpr c32) | exact c41 q2)] at hh
        exact mm_sub [0, 1, 2, 3] rfl hh
      · refine mm_aload_n 2 dX3_leastCut_35 rfl rfl ?_
        refine mm_iload_n 0 dX3_leastCut_36 rfl rfl ?_
        refine mm_iload_n 1 dX3_leastCut_37 rfl rfl ?_
        refine mm_cV2i (dz := d - 1) dX3_leastCut_38 rfl mzX3_isMilder ml_X3_88 imX3_isMilder (by omega) so_17 ⟨rfl, rfl⟩ (cg_milder hz hW (a := i) (b := cf N l x i) (by omega) (by omega) hH (by omega)) (Nat.le_of_ble_eq_true rfl) ⟨Nat.le_refl _, Nat.le_refl _⟩ ?_
        refine mm_if_eqB (tgt := 46) dX3_leastCut_41 (by decide) (fun c41 => ?_) (fun c41 => ?_)
        · refine mm_iincN (ls' := [(3, .int (nI (i + 1))), (2, .int (nI (cf N l x i))), (0, .ref 17), (1, .int (x))]) 0 (i) 1 dX3_leastCut_46 rfl rfl (by decide) rfl ?_
          refine mm_goto (tgt := 11) dX3_leastCut_49 (by decide) ?_
          have hh := ih (i + 1) (by omega) (by omega)
          rw [show cf N l x (i + 1) = cf N l x i from if_neg (by rintro ⟨q1, q2⟩; rw [Int32.mul_comm] at q1; first | exact absurd q1 (Int32.not_le.mpr c32) | exact c41 q2)] at hh
          exact mm_sub [0, 1, 2, 3] rfl hh
        · refine mm_iload_n 0 dX3_leastCut_44 rfl rfl ?_
          refine mm_istore_n (ls' := [(2, .int (nI (i))), (3, .int (nI (i))), (0, .ref 17), (1, .int (x))]) dX3_leastCut_45 rfl (by decide) rfl ?_
          refine mm_iincN (ls' := [(3, .int (nI (i + 1))), (2, .int (nI (i))), (0, .ref 17), (1, .int (x))]) 1 (i) 1 dX3_leastCut_46 rfl rfl (by decide) rfl ?_
          refine mm_goto (tgt := 11) dX3_leastCut_49 (by decide) ?_
          have hh := ih (i + 1) (by omega) (by omega)
          rw [show cf N l x (i + 1) = i from if_pos ⟨by rw [Int32.mul_comm]; first | exact c32 | exact Int32.not_lt.mp c32, c41⟩] at hh
          exact mm_sub [0, 1, 2, 3] rfl hh
set_option maxRecDepth 100000 in
set_option maxHeartbeats 600000 in
theorem cg_lc1 {g : mm_G} {d : Nat} {w h n l k o r : Nat} {A : mm_I} {N : Nat → Int32} (hz : zOK (w * h) n l k o r) (hW : mo_W N w h) {x : Int32} (hH : mo_H N l) (hd : 3 ≤ d) : mm_Ci g zX3_leastCut d [.ref 17, .int (x)] sh_S (cN (w * h) n l k o r A N) (nI (cf N l x (2 ^ l))) (cN (w * h) n l k o r A N) := by
  obtain ⟨hz1, hz2, hz3, hz4, hz5, hz6⟩ := id hz
  have hc := mo_W_c hW
  obtain ⟨-, -, hw1, hw2, hh1, hh2⟩ := id hW
  have hp2 := p2l l hz3
  refine mm_Ci_of (fun Q hq => ?_)
  refine mm_begin (ls := [(0, .ref 17), (1, .int (x))]) (Nat.le_of_ble_eq_true rfl) rfl rfl ?_
  refine mm_iconst (v := 1) dX3_leastCut_0 rfl ?_
  refine mm_aload_n 0 dX3_leastCut_1 rfl rfl ?_
  refine mm_cV0i (dz := d - 1) dX3_leastCut_2 rfl mzX3_loads ml_X3_63 imX3_loads (by omega) so_17 ⟨rfl, rfl⟩ (cg_loads hz hW (by omega)) (Nat.le_of_ble_eq_true rfl) ⟨Nat.le_refl _, Nat.le_refl _⟩ ?_
  refine mm_ishl dX3_leastCut_5 ?_
  refine mm_top (v := nI (2 ^ l)) (sh_l l hz3) ?_
  refine mm_iconst (v := 1) dX3_leastCut_6 rfl ?_
  refine mm_isubN (2 ^ l) (1) dX3_leastCut_7 (by omega) ?_
  refine mm_istore_n (ls' := [(2, .int (nI ((2 ^ l) - 1))), (0, .ref 17), (1, .int (x))]) dX3_leastCut_8 rfl (by decide) rfl ?_
  refine mm_iconst (v := 0) dX3_leastCut_9 rfl ?_
  refine mm_at (pc' := 10) rfl ?_
  refine mm_istore_n (ls' := [(3, .int (0)), (2, .int (nI ((2 ^ l) - 1))), (0, .ref 17), (1, .int (x))]) dX3_leastCut_10 rfl (by decide) rfl ?_
  exact mm_sub [0, 1, 2, 3] rfl (dk_lc hz hW hH hd hq (2 ^ l + 1) 0 (by omega) (by omega))
theorem cg_lc {g : mm_G} {d : Nat} {w h n l k o r : Nat} {A : mm_I} {N : Nat → Int32} (hz : zOK (w * h) n l k o r) (hW : mo_W N w h) {x : Int32} (hH : mo_H N l) (hB : 0 ≤ N 4) (hd : 3 ≤ d) : mm_Ci g zX3_leastCut d [.ref 17, .int x] sh_S (cN (w * h) n l k o r A N) (sp_fc N l x (2 ^ l)) (cN (w * h) n l k o r A N) := by
  have e := cg_lc1 (g := g) (d := d) (A := A) hz hW (x := x) hH hd
  rw [← fc_cf hz.2.2.1 hH hB] at e; exact e
set_option maxRecDepth 100000 in
set_option maxHeartbeats 600000 in
theorem cb_night {g : mm_G} {d : Nat} {w h n l k o r : Nat} {A : mm_I} {N : Nat → Int32} (hz : zOK (w * h) n l k o r) (hW : mo_W N w h) {J : mm_I} (hJ : J 201 = N) (hD : mo_D N n) (hK : mo_K N (w * h)) (hH : mo_H N l) (hB : 0 ≤ N 4) {x : Int32} (hd : 4 ≤ d) : mm_Ci g zX11_night d [.ref 0, .int (x)] sh_S (cN (w * h) n l k o r A N) (op_night l J x) (cN (w * h) n l k o r A N) := by
  obtain ⟨hz1, hz2, hz3, hz4, hz5, hz6⟩ := id hz
  have hc := mo_W_c hW
  obtain ⟨-, -, hw1, hw2, hh1, hh2⟩ := id hW
  refine mm_Ci_of (fun Q hq => ?_)
  refine mm_begin (ls := [(0, .ref 0), (1, .int (x))]) (Nat.le_of_ble_eq_true rfl) rfl rfl ?_
  refine mm_iload_n 1 dX11_night_0 rfl rfl ?_
  refine mm_iconst (v := 1) dX11_night_1 rfl ?_
  refine mm_bipush (v := 24) dX11_night_2 rfl ?_
  refine mm_cS3i (dz := d - 1) dX11_night_4 rfl mzX11_within ml_X11_63 imX11_within (by omega) cx_within (Nat.le_of_ble_eq_true rfl) ⟨Nat.le_refl _, Nat.le_refl _⟩ ?_
  refine mm_if_eqB (tgt := 34) dX11_night_7 (by decide) (fun c7 => ?_) (fun c7 => ?_)
  · refine mm_ldc dX11_night_34 rfl kc_X11_67 ?_
    refine mm_iret dX11_night_36 rfl ⟨Nat.le_refl _, Nat.le_refl _⟩ ?_
    subst hJ; exact mm_l1 (by unfold op_night; rw [if_neg c7]) hq
  · refine mm_aload_n 0 dX11_night_10 rfl rfl ?_
    refine mm_getr (b := 1) dX11_night_11 rfl fk_X11_10 rfl so_0 sr_0_0 ?_
    refine mm_getr (b := 17) dX11_night_14 rfl fk_X11_158 rfl so_1 sr_1_1 ?_
    refine mm_aload_n 0 dX11_night_17 rfl rfl ?_
    refine mm_getr (b := 1) dX11_night_18 rfl fk_X11_10 rfl so_0 sr_0_0 ?_
    refine mm_getr (b := 17) dX11_night_21 rfl fk_X11_158 rfl so_1 sr_1_1 ?_
    refine mm_iload_n 1 dX11_night_24 rfl rfl ?_
    refine mm_at (pc' := 25) rfl ?_
    refine mm_cV1i (dz := d - 1) dX11_night_25 rfl mzX3_leastCut ml_X11_303 imX3_leastCut (by omega) so_17 ⟨rfl, rfl⟩ (cg_lc hz hW hH hB (by omega)) (Nat.le_of_ble_eq_true rfl) ⟨Nat.le_refl _, Nat.le_refl _⟩ ?_
    refine mm_cV1i (dz := d - 1) dX11_night_28 rfl mzX3_harmOf ml_X11_306 imX3_harmOf (by omega) so_17 ⟨rfl, rfl⟩ (cg_hb hz hW (by omega)) (Nat.le_of_ble_eq_true rfl) ⟨Nat.le_refl _, Nat.le_refl _⟩ ?_
    refine mm_goto (tgt := 36) dX11_night_31 (by decide) ?_
    refine mm_iret dX11_night_36 rfl ⟨Nat.le_refl _, Nat.le_refl _⟩ ?_
    subst hJ; exact mm_l1 (by unfold op_night; rw [if_pos c7]) hq
set_option maxRecDepth 100000 in
set_option maxHeartbeats 600000 in
theorem cb_cut {g : mm_G} {d : Nat} {w h n l k o r : Nat} {A : mm_I} {N : Nat → Int32} (hz : zOK (w * h) n l k o r) (hW : mo_W N w h) {J : mm_I} (hJ : J 201 = N) (hD : mo_D N n) (hK : mo_K N (w * h)) (hH : mo_H N l) (hB : 0 ≤ N 4) {x : Int32} (hd : 4 ≤ d) : mm_Ci g zX11_cut d [.ref 0, .int (x)] sh_S (cN (w * h) n l k o r A N) (op_cut l J x) (cN (w * h) n l k o r A N) := by
  obtain ⟨hz1, hz2, hz3, hz4, hz5, hz6⟩ := id hz
  have hc := mo_W_c hW
  obtain ⟨-, -, hw1, hw2, hh1, hh2⟩ := id hW
  refine mm_Ci_of (fun Q hq => ?_)
  refine mm_begin (ls := [(0, .ref 0), (1, .int (x))]) (Nat.le_of_ble_eq_true rfl) rfl rfl ?_
  refine mm_iload_n 1 dX11_cut_0 rfl rfl ?_
  refine mm_iconst (v := 1) dX11_cut_1 rfl ?_
  refine mm_bipush (v := 24) dX11_cut_2 rfl ?_
  refine mm_cS3i (dz := d - 1) dX11_cut_4 rfl mzX11_within ml_X11_63 imX11_within (by omega) cx_within (Nat.le_of_ble_eq_true rfl) ⟨Nat.le_refl _, Nat.le_refl _⟩ ?_
  refine mm_if_eqB (tgt := 24) dX11_cut_7 (by decide) (fun c7 => ?_) (fun c7 => ?_)
  · refine mm_ldc dX11_cut_24 rfl kc_X11_67 ?_
    refine mm_iret dX11_cut_26 rfl ⟨Nat.le_refl _, Nat.le_refl _⟩ ?_
    subst hJ; exact mm_l1 (by unfold op_cut; rw [if_neg c7]) hq
  · refine mm_aload_n 0 dX11_cut_10 rfl rfl ?_
    refine mm_getr (b := 1) dX11_cut_11 rfl fk_X11_10 rfl so_0 sr_0_0 ?_
    refine mm_getr (b := 17) dX11_cut_14 rfl fk_X11_158 rfl so_1 sr_1_1 ?_
    refine mm_iload_n 1 dX11_cut_17 rfl rfl ?_
    refine mm_cV1i (dz := d - 1) dX11_cut_18 rfl mzX3_leastCut ml_X11_303 imX3_leastCut (by omega) so_17 ⟨rfl, rfl⟩ (cg_lc hz hW hH hB (by omega)) (Nat.le_of_ble_eq_true rfl) ⟨Nat.le_refl _, Nat.le_refl _⟩ ?_
    refine mm_goto (tgt := 26) dX11_cut_21 (by decide) ?_
    refine mm_iret dX11_cut_26 rfl ⟨Nat.le_refl _, Nat.le_refl _⟩ ?_
    subst hJ; exact mm_l1 (by unfold op_cut; rw [if_pos c7]) hq
