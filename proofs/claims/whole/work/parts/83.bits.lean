/-! BITS -/
theorem bit_a0 {o : Int32} {i : Nat} {p : Int32} (hp : p.toBitVec = BitVec.twoPow 32 i) (hi : i < 32) : (o &&& p = 0) ↔ o.toBitVec.getLsbD i = false := by
  rw [← Int32.toBitVec_inj, Int32.toBitVec_and, hp, BitVec.and_twoPow]
  by_cases h : o.toBitVec.getLsbD i = true
  · rw [if_pos h]
    constructor
    · intro q
      have := congrArg (fun b => BitVec.getLsbD b i) q
      simp [BitVec.getLsbD_twoPow, hi] at this
    · intro q; rw [h] at q; exact absurd q (by decide)
  · rw [if_neg h]
    have h2 : o.toBitVec.getLsbD i = false := by cases hh : o.toBitVec.getLsbD i; rfl; exact absurd hh h
    exact ⟨fun _ => h2, fun _ => rfl⟩
theorem bit_a {o : Int32} {i : Nat} (h : i < 8) : (o &&& ((1 : Int32) <<< (nI i &&& 31)) = 0) ↔ o.toBitVec.getLsbD i = false := by
  rcases show i = 0 ∨ i = 1 ∨ i = 2 ∨ i = 3 ∨ i = 4 ∨ i = 5 ∨ i = 6 ∨ i = 7 by omega with e | e | e | e | e | e | e | e <;> subst e <;> exact bit_a0 (by decide) (by decide)
theorem bit_b0 {o : Int32} {i : Nat} {q : Int32} (hq : (q.toBitVec.smod 32).toNat = i) (hi : i < 32) : (o >>> q) &&& 1 = if o.toBitVec.getLsbD i = true then 1 else 0 := by
  rw [← Int32.toBitVec_inj, Int32.toBitVec_and, Int32.toBitVec_shiftRight]
  show (o.toBitVec.sshiftRight' _) &&& 1#32 = _
  rw [BitVec.and_one_eq_setWidth_ofBool_getLsbD, BitVec.sshiftRight_eq', BitVec.getLsbD_sshiftRight, hq]
  simp [hi]
  cases o.toBitVec[i] <;> decide
theorem bit_b {o : Int32} {i : Nat} (h : i < 8) : (o >>> (nI i &&& 31)) &&& 1 = if o.toBitVec.getLsbD i = true then 1 else 0 := by
  rcases show i = 0 ∨ i = 1 ∨ i = 2 ∨ i = 3 ∨ i = 4 ∨ i = 5 ∨ i = 6 ∨ i = 7 by omega with e | e | e | e | e | e | e | e <;> subst e <;> exact bit_b0 (by decide) (by decide)
