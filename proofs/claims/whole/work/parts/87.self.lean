/-! A MEMORY that shows the row is the site's, with itself as all else -/
theorem cN_self {c n l k o r : Nat} {M : mm_I} {N : Nat → Int32} (h : ∀ a i x, lo_ c n l k o r (sn_ N) a i = some x → M a i = N x) (h2 : ∀ a i y, lo_ c n l k o r (sn_ N) a i = none → cn_ n l k o r a i = some y → M a i = nI y) : M = cN c n l k o r M N := by
  funext a i
  cases e : lo_ c n l k o r (sn_ N) a i with
  | some x => rw [cN_r e]; exact h a i x e
  | none =>
    cases e2 : cn_ n l k o r a i with
    | some y => rw [cN_c e e2]; exact h2 a i y e e2
    | none => rw [cN_j e e2]
/-- fewer WORKS -/
theorem lo_ke {c n l k k' o r : Nat} {b : Nat → Bool} {a i : Nat} (e24 : ¬ a = 24) (e26 : ¬ a = 26) (e28 : ¬ a = 28) (e30 : ¬ a = 30) : lo_ c n l k o r b a i = lo_ c n l k' o r b a i := by
  unfold lo_; simp only [if_neg e24, if_neg e26, if_neg e28, if_neg e30]
theorem lo_k0 {c n l k o r : Nat} {b : Nat → Bool} {a i x : Nat} (h : lo_ c n l 0 o r b a i = some x) : lo_ c n l k o r b a i = some x := by
  by_cases e24 : a = 24
  · subst e24; rw [lo_at24] at h; obtain ⟨q, -⟩ := if_some h; omega
  by_cases e26 : a = 26
  · subst e26; rw [lo_at26] at h; obtain ⟨q, -⟩ := if_some h; omega
  by_cases e28 : a = 28
  · subst e28; rw [lo_at28] at h; obtain ⟨q, -⟩ := if_some h; omega
  by_cases e30 : a = 30
  · subst e30; rw [lo_at30] at h; obtain ⟨q, -⟩ := if_some h; omega
  exact (lo_ke e24 e26 e28 e30).trans h
def kM (I : mm_I) : mm_I := mm_up (mm_up (mm_up (mm_up I 23 1 0) 25 1 0) 27 1 0) 29 1 0
theorem kM_at {I : mm_I} {a i : Nat} : kM I a i = if i = 1 ∧ (a = 23 ∨ a = 25 ∨ a = 27 ∨ a = 29) then 0 else I a i := by
  unfold kM
  rw [up_at, up_at, up_at, up_at]
  by_cases h : i = 1 ∧ (a = 23 ∨ a = 25 ∨ a = 27 ∨ a = 29)
  · rw [if_pos h]
    obtain ⟨h1, h2 | h2 | h2 | h2⟩ := h
    · rw [if_neg (by omega), if_neg (by omega), if_neg (by omega), if_pos ⟨h2, h1⟩]
    · rw [if_neg (by omega), if_neg (by omega), if_pos ⟨h2, h1⟩]
    · rw [if_neg (by omega), if_pos ⟨h2, h1⟩]
    · rw [if_pos ⟨h2, h1⟩]
  · rw [if_neg h, if_neg (by omega), if_neg (by omega), if_neg (by omega), if_neg (by omega)]
theorem cN_clear {c n l k o r : Nat} {A : mm_I} {N : Nat → Int32} : kM (cN c n l k o r A N) = cN c n l 0 o r (kM (cN c n l k o r A N)) (upd N 19 0) := by
  have hsn : sn_ (upd N 19 0) = sn_ N := by funext y; unfold sn_ upd; rw [if_neg (by omega)]
  refine cN_self (fun a i x h => ?_) (fun a i y h h2 => ?_)
  · rw [hsn] at h
    have hk := lo_k0 (k := k) h
    have hrg := lo_rg h
    rw [kM_at, if_neg, cN_r hk]
    · unfold upd; rw [if_neg (by omega)]
    · intro q
      rw [lo_ato (by omega) (by omega) (by omega) (by omega) (by omega) (by omega) (by omega) (by omega) (by omega) (by omega) (by omega) (by omega) (by omega) (by omega) (by omega), if_neg (by omega)] at h
      exact absurd h (by simp)
  · rw [hsn] at h
    rw [kM_at]
    by_cases q : i = 1 ∧ (a = 23 ∨ a = 25 ∨ a = 27 ∨ a = 29)
    · rw [if_pos q]
      unfold cn_ at h2
      rw [if_neg (by omega), if_pos q] at h2
      have := Option.some.inj h2
      subst this; rfl
    · rw [if_neg q]
      have hcn : cn_ n l k o r a i = cn_ n l 0 o r a i := by unfold cn_; rw [if_neg q, if_neg q]
      have hno : ¬ (a = 19 ∨ a = 21 ∨ a = 24 ∨ a = 26 ∨ a = 28 ∨ a = 30 ∨ a = 83 ∨ a = 85) := fun w => by rw [cn_no w] at h2; exact absurd h2 (by simp)
      exact cN_c ((lo_ke (by omega) (by omega) (by omega) (by omega)).trans h) (hcn.trans h2)
