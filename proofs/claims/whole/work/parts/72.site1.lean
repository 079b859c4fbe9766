/-! THE CLASS: its site's memory, told by the reference's row. c CELLS, n MACHINES, l LOADS, k WORKS, o ORDERS, r REPORTS -/
def lo_2 (i : Nat) : Option Nat := if i = 0 then some 0 else if i = 1 then some 1 else if i = 7 then some 14 else if i = 8 then some 13 else none
def lo_17 (i : Nat) : Option Nat := if i = 0 then some 7 else if i = 1 then some 2 else if i = 2 then some 3 else if i = 3 then some 4 else if i = 4 then some 5 else if i = 5 then some 6 else if i = 6 then some 8 else if i = 7 then some 9 else none
def lo_ (c n l k o r : Nat) (b : Nat → Bool) (a i : Nat) : Option Nat :=
  if a = 2 then (lo_2 i)
  else if a = 4 then (if i < c then some (30 + i) else none)
  else if a = 6 then (if i < c then some (110 + i) else none)
  else if a = 8 then (if i < c then some (190 + i) else none)
  else if a = 10 then (if i < 4 * c ∧ (b (i / 4) = true ∨ i % 4 = 3) then some (270 + i) else none)
  else if a = 12 then (if i < 3 then some (10 + i) else none)
  else if a = 17 then (lo_17 i)
  else if a = 19 then (if i < l then some (590 + i) else none)
  else if a = 21 then (if i < l then some (598 + i) else none)
  else if a = 24 then (if i < k then some (606 + i) else none)
  else if a = 26 then (if i < k then some (612 + i) else none)
  else if a = 28 then (if i < k then some (618 + i) else none)
  else if a = 30 then (if i < k then some (624 + i) else none)
  else if a = 83 then (if i < 3 * o then some (830 + i) else none)
  else if a = 85 then (if i < 6 * r then some (866 + i) else none)
  else if 36 ≤ a ∧ (a - 36) % 3 = 0 ∧ (a - 36) / 3 < n ∧ i < 7 then some (630 + 40 * ((a - 36) / 3) + i) else none
def cn_ (n l k o r a i : Nat) : Option Nat :=
  if i = 1 ∧ (a = 18 ∨ a = 20) then some l
  else if i = 1 ∧ (a = 23 ∨ a = 25 ∨ a = 27 ∨ a = 29) then some k
  else if i = 1 ∧ a = 82 then some (3 * o)
  else if i = 1 ∧ a = 84 then some (6 * r)
  else if i = 4 ∧ a = 1 then some n
  else none
def sn_ (N : Nat → Int32) (x : Nat) : Bool := decide (0 ≤ N (270 + 4 * x + 3))
def cJ (N : Nat → Int32) (A : Int32) : Option Nat → Option Nat → Int32
  | some x, _ => N x
  | none, some y => nI y
  | none, none => A
def cN (c n l k o r : Nat) (A : mm_I) (N : Nat → Int32) : mm_I := fun a i => cJ N (A a i) (lo_ c n l k o r (sn_ N) a i) (cn_ n l k o r a i)
abbrev zOK (c n l k o r : Nat) : Prop := c ≤ 80 ∧ n ≤ 5 ∧ l ≤ 8 ∧ k ≤ 6 ∧ o ≤ 12 ∧ r ≤ 50
def iv_ (x : Nat) : Nat × Nat :=
  if x = 0 then (2, 0) else if x = 1 then (2, 1) else if x < 7 then (17, x - 1) else if x = 7 then (17, 0) else if x = 8 then (17, 6) else if x = 9 then (17, 7) else if x < 13 then (12, x - 10) else if x = 13 then (2, 8) else if x = 14 then (2, 7) else if x < 110 then (4, x - 30) else if x < 190 then (6, x - 110) else if x < 270 then (8, x - 190) else if x < 590 then (10, x - 270) else if x < 598 then (19, x - 590) else if x < 606 then (21, x - 598) else if x < 612 then (24, x - 606) else if x < 618 then (26, x - 612) else if x < 624 then (28, x - 618) else if x < 630 then (30, x - 624) else if x < 830 then (36 + 3 * ((x - 630) / 40), (x - 630) % 40) else if x < 866 then (83, x - 830) else (85, x - 866)
theorem iv_4 {i : Nat} (h : i < 80) : iv_ (30 + i) = (4, i) := by
  unfold iv_; rw [if_neg (by omega), if_neg (by omega), if_neg (by omega), if_neg (by omega), if_neg (by omega), if_neg (by omega), if_neg (by omega), if_neg (by omega), if_neg (by omega), if_pos (by omega)]; rw [show 30 + i - 30 = i by omega]
theorem iv_6 {i : Nat} (h : i < 80) : iv_ (110 + i) = (6, i) := by
  unfold iv_; rw [if_neg (by omega), if_neg (by omega), if_neg (by omega), if_neg (by omega), if_neg (by omega), if_neg (by omega), if_neg (by omega), if_neg (by omega), if_neg (by omega), if_neg (by omega), if_pos (by omega)]; rw [show 110 + i - 110 = i by omega]
theorem iv_8 {i : Nat} (h : i < 80) : iv_ (190 + i) = (8, i) := by
  unfold iv_; rw [if_neg (by omega), if_neg (by omega), if_neg (by omega), if_neg (by omega), if_neg (by omega), if_neg (by omega), if_neg (by omega), if_neg (by omega), if_neg (by omega), if_neg (by omega), if_neg (by omega), if_pos (by omega)]; rw [show 190 + i - 190 = i by omega]
theorem iv_10 {i : Nat} (h : i < 320) : iv_ (270 + i) = (10, i) := by
  unfold iv_; rw [if_neg (by omega), if_neg (by omega), if_neg (by omega), if_neg (by omega), if_neg (by omega), if_neg (by omega), if_neg (by omega), if_neg (by omega), if_neg (by omega), if_neg (by omega), if_neg (by omega), if_neg (by omega), if_pos (by omega)]; rw [show 270 + i - 270 = i by omega]
theorem iv_12 {i : Nat} (h : i < 3) : iv_ (10 + i) = (12, i) := by
  unfold iv_; rw [if_neg (by omega), if_neg (by omega), if_neg (by omega), if_neg (by omega), if_neg (by omega), if_neg (by omega), if_pos (by omega)]; rw [show 10 + i - 10 = i by omega]
theorem iv_19 {i : Nat} (h : i < 8) : iv_ (590 + i) = (19, i) := by
  unfold iv_; rw [if_neg (by omega), if_neg (by omega), if_neg (by omega), if_neg (by omega), if_neg (by omega), if_neg (by omega), if_neg (by omega), if_neg (by omega), if_neg (by omega), if_neg (by omega), if_neg (by omega), if_neg (by omega), if_neg (by omega), if_pos (by omega)]; rw [show 590 + i - 590 = i by omega]
theorem iv_21 {i : Nat} (h : i < 8) : iv_ (598 + i) = (21, i) := by
  unfold iv_; rw [if_neg (by omega), if_neg (by omega), if_neg (by omega), if_neg (by omega), if_neg (by omega), if_neg (by omega), if_neg (by omega), if_neg (by omega), if_neg (by omega), if_neg (by omega), if_neg (by omega), if_neg (by omega), if_neg (by omega), if_neg (by omega), if_pos (by omega)]; rw [show 598 + i - 598 = i by omega]
theorem iv_24 {i : Nat} (h : i < 6) : iv_ (606 + i) = (24, i) := by
  unfold iv_; rw [if_neg (by omega), if_neg (by omega), if_neg (by omega), if_neg (by omega), if_neg (by omega), if_neg (by omega), if_neg (by omega), if_neg (by omega), if_neg (by omega), if_neg (by omega), if_neg (by omega), if_neg (by omega), if_neg (by omega), if_neg (by omega), if_neg (by omega), if_pos (by omega)]; rw [show 606 + i - 606 = i by omega]
theorem iv_26 {i : Nat} (h : i < 6) : iv_ (612 + i) = (26, i) := by
  unfold iv_; rw [if_neg (by omega), if_neg (by omega), if_neg (by omega), if_neg (by omega), if_neg (by omega), if_neg (by omega), if_neg (by omega), if_neg (by omega), if_neg (by omega), if_neg (by omega), if_neg (by omega), if_neg (by omega), if_neg (by omega), if_neg (by omega), if_neg (by omega), if_neg (by omega), if_pos (by omega)]; rw [show 612 + i - 612 = i by omega]
theorem iv_28 {i : Nat} (h : i < 6) : iv_ (618 + i) = (28, i) := by
  unfold iv_; rw [if_neg (by omega), if_neg (by omega), if_neg (by omega), if_neg (by omega), if_neg (by omega), if_neg (by omega), if_neg (by omega), if_neg (by omega), if_neg (by omega), if_neg (by omega), if_neg (by omega), if_neg (by omega), if_neg (by omega), if_neg (by omega), if_neg (by omega), if_neg (by omega), if_neg (by omega), if_pos (by omega)]; rw [show 618 + i - 618 = i by omega]
theorem iv_30 {i : Nat} (h : i < 6) : iv_ (624 + i) = (30, i) := by
  unfold iv_; rw [if_neg (by omega), if_neg (by omega), if_neg (by omega), if_neg (by omega), if_neg (by omega), if_neg (by omega), if_neg (by omega), if_neg (by omega), if_neg (by omega), if_neg (by omega), if_neg (by omega), if_neg (by omega), if_neg (by omega), if_neg (by omega), if_neg (by omega), if_neg (by omega), if_neg (by omega), if_neg (by omega), if_pos (by omega)]; rw [show 624 + i - 624 = i by omega]
theorem iv_83 {i : Nat} (h : i < 36) : iv_ (830 + i) = (83, i) := by
  unfold iv_; rw [if_neg (by omega), if_neg (by omega), if_neg (by omega), if_neg (by omega), if_neg (by omega), if_neg (by omega), if_neg (by omega), if_neg (by omega), if_neg (by omega), if_neg (by omega), if_neg (by omega), if_neg (by omega), if_neg (by omega), if_neg (by omega), if_neg (by omega), if_neg (by omega), if_neg (by omega), if_neg (by omega), if_neg (by omega), if_neg (by omega), if_pos (by omega)]; rw [show 830 + i - 830 = i by omega]
theorem iv_85 {i : Nat} (h : i < 300) : iv_ (866 + i) = (85, i) := by
  unfold iv_; rw [if_neg (by omega), if_neg (by omega), if_neg (by omega), if_neg (by omega), if_neg (by omega), if_neg (by omega), if_neg (by omega), if_neg (by omega), if_neg (by omega), if_neg (by omega), if_neg (by omega), if_neg (by omega), if_neg (by omega), if_neg (by omega), if_neg (by omega), if_neg (by omega), if_neg (by omega), if_neg (by omega), if_neg (by omega), if_neg (by omega), if_neg (by omega)]; rw [show 866 + i - 866 = i by omega]
theorem iv_m {m i : Nat} (hm : m < 5) (h : i < 7) : iv_ (630 + 40 * m + i) = (36 + 3 * m, i) := by
  unfold iv_; rw [if_neg (by omega), if_neg (by omega), if_neg (by omega), if_neg (by omega), if_neg (by omega), if_neg (by omega), if_neg (by omega), if_neg (by omega), if_neg (by omega), if_neg (by omega), if_neg (by omega), if_neg (by omega), if_neg (by omega), if_neg (by omega), if_neg (by omega), if_neg (by omega), if_neg (by omega), if_neg (by omega), if_neg (by omega), if_pos (by omega)]; rw [show (630 + 40 * m + i - 630) / 40 = m by omega, show (630 + 40 * m + i - 630) % 40 = i by omega]
theorem lo_2_iv {i x : Nat} (h : lo_2 i = some x) : iv_ x = (2, i) := by
  have hh : i ≤ 8 := by
    unfold lo_2 at h
    by_cases q : i ≤ 8
    · exact q
    · rw [if_neg (by omega), if_neg (by omega), if_neg (by omega), if_neg (by omega)] at h; exact absurd h (by simp)
  have : ∀ i, i ≤ 8 → ∀ x, x < 15 → lo_2 i = some x → iv_ x = (2, i) := by decide
  refine this i hh x ?_ h
  have h2 : ∀ i, i ≤ 8 → (lo_2 i).getD 0 < 15 := by decide
  have := h2 i hh
  rw [h] at this; exact this
theorem lo_17_iv {i x : Nat} (h : lo_17 i = some x) : iv_ x = (17, i) := by
  have hh : i ≤ 8 := by
    unfold lo_17 at h
    by_cases q : i ≤ 8
    · exact q
    · rw [if_neg (by omega), if_neg (by omega), if_neg (by omega), if_neg (by omega), if_neg (by omega), if_neg (by omega), if_neg (by omega), if_neg (by omega)] at h; exact absurd h (by simp)
  have : ∀ i, i ≤ 8 → ∀ x, x < 15 → lo_17 i = some x → iv_ x = (17, i) := by decide
  refine this i hh x ?_ h
  have h2 : ∀ i, i ≤ 8 → (lo_17 i).getD 0 < 15 := by decide
  have := h2 i hh
  rw [h] at this; exact this
theorem if_some {p : Prop} [Decidable p] {x y : Nat} (h : (if p then some x else none) = some y) : p ∧ x = y := by
  by_cases c : p
  · rw [if_pos c] at h; exact ⟨c, Option.some.inj h⟩
  · rw [if_neg c] at h; exact absurd h (by simp)
theorem lo_at2 {c n l k o r : Nat} {b : Nat → Bool} {i : Nat} : lo_ c n l k o r b 2 i = (lo_2 i) := by
  unfold lo_; rw [if_pos rfl]
theorem lo_at4 {c n l k o r : Nat} {b : Nat → Bool} {i : Nat} : lo_ c n l k o r b 4 i = (if i < c then some (30 + i) else none) := by
  unfold lo_; rw [if_neg (by decide), if_pos rfl]
theorem lo_at6 {c n l k o r : Nat} {b : Nat → Bool} {i : Nat} : lo_ c n l k o r b 6 i = (if i < c then some (110 + i) else none) := by
  unfold lo_; rw [if_neg (by decide), if_neg (by decide), if_pos rfl]
theorem lo_at8 {c n l k o r : Nat} {b : Nat → Bool} {i : Nat} : lo_ c n l k o r b 8 i = (if i < c then some (190 + i) else none) := by
  unfold lo_; rw [if_neg (by decide), if_neg (by decide), if_neg (by decide), if_pos rfl]
theorem lo_at10 {c n l k o r : Nat} {b : Nat → Bool} {i : Nat} : lo_ c n l k o r b 10 i = (if i < 4 * c ∧ (b (i / 4) = true ∨ i % 4 = 3) then some (270 + i) else none) := by
  unfold lo_; rw [if_neg (by decide), if_neg (by decide), if_neg (by decide), if_neg (by decide), if_pos rfl]
theorem lo_at12 {c n l k o r : Nat} {b : Nat → Bool} {i : Nat} : lo_ c n l k o r b 12 i = (if i < 3 then some (10 + i) else none) := by
  unfold lo_; rw [if_neg (by decide), if_neg (by decide), if_neg (by decide), if_neg (by decide), if_neg (by decide), if_pos rfl]
theorem lo_at17 {c n l k o r : Nat} {b : Nat → Bool} {i : Nat} : lo_ c n l k o r b 17 i = (lo_17 i) := by
  unfold lo_; rw [if_neg (by decide), if_neg (by decide), if_neg (by decide), if_neg (by decide), if_neg (by decide), if_neg (by decide), if_pos rfl]
theorem lo_at19 {c n l k o r : Nat} {b : Nat → Bool} {i : Nat} : lo_ c n l k o r b 19 i = (if i < l then some (590 + i) else none) := by
  unfold lo_; rw [if_neg (by decide), if_neg (by decide), if_neg (by decide), if_neg (by decide), if_neg (by decide), if_neg (by decide), if_neg (by decide), if_pos rfl]
theorem lo_at21 {c n l k o r : Nat} {b : Nat → Bool} {i : Nat} : lo_ c n l k o r b 21 i = (if i < l then some (598 + i) else none) := by
  unfold lo_; rw [if_neg (by decide), if_neg (by decide), if_neg (by decide), if_neg (by decide), if_neg (by decide), if_neg (by decide), if_neg (by decide), if_neg (by decide), if_pos rfl]
theorem lo_at24 {c n l k o r : Nat} {b : Nat → Bool} {i : Nat} : lo_ c n l k o r b 24 i = (if i < k then some (606 + i) else none) := by
  unfold lo_; rw [if_neg (by decide), if_neg (by decide), if_neg (by decide), if_neg (by decide), if_neg (by decide), if_neg (by decide), if_neg (by decide), if_neg (by decide), if_neg (by decide), if_pos rfl]
theorem lo_at26 {c n l k o r : Nat} {b : Nat → Bool} {i : Nat} : lo_ c n l k o r b 26 i = (if i < k then some (612 + i) else none) := by
  unfold lo_; rw [if_neg (by decide), if_neg (by decide), if_neg (by decide), if_neg (by decide), if_neg (by decide), if_neg (by decide), if_neg (by decide), if_neg (by decide), if_neg (by decide), if_neg (by decide), if_pos rfl]
theorem lo_at28 {c n l k o r : Nat} {b : Nat → Bool} {i : Nat} : lo_ c n l k o r b 28 i = (if i < k then some (618 + i) else none) := by
  unfold lo_; rw [if_neg (by decide), if_neg (by decide), if_neg (by decide), if_neg (by decide), if_neg (by decide), if_neg (by decide), if_neg (by decide), if_neg (by decide), if_neg (by decide), if_neg (by decide), if_neg (by decide), if_pos rfl]
theorem lo_at30 {c n l k o r : Nat} {b : Nat → Bool} {i : Nat} : lo_ c n l k o r b 30 i = (if i < k then some (624 + i) else none) := by
  unfold lo_; rw [if_neg (by decide), if_neg (by decide), if_neg (by decide), if_neg (by decide), if_neg (by decide), if_neg (by decide), if_neg (by decide), if_neg (by decide), if_neg (by decide), if_neg (by decide), if_neg (by decide), if_neg (by decide), if_pos rfl]
theorem lo_at83 {c n l k o r : Nat} {b : Nat → Bool} {i : Nat} : lo_ c n l k o r b 83 i = (if i < 3 * o then some (830 + i) else none) := by
  unfold lo_; rw [if_neg (by decide), if_neg (by decide), if_neg (by decide), if_neg (by decide), if_neg (by decide), if_neg (by decide), if_neg (by decide), if_neg (by decide), if_neg (by decide), if_neg (by decide), if_neg (by decide), if_neg (by decide), if_neg (by decide), if_pos rfl]
theorem lo_at85 {c n l k o r : Nat} {b : Nat → Bool} {i : Nat} : lo_ c n l k o r b 85 i = (if i < 6 * r then some (866 + i) else none) := by
  unfold lo_; rw [if_neg (by decide), if_neg (by decide), if_neg (by decide), if_neg (by decide), if_neg (by decide), if_neg (by decide), if_neg (by decide), if_neg (by decide), if_neg (by decide), if_neg (by decide), if_neg (by decide), if_neg (by decide), if_neg (by decide), if_neg (by decide), if_pos rfl]
theorem lo_atm {c n l k o r : Nat} {b : Nat → Bool} {m i : Nat} (hm : m < 5) : lo_ c n l k o r b (36 + 3 * m) i = (if m < n ∧ i < 7 then some (630 + 40 * m + i) else none) := by
  unfold lo_; rw [if_neg (show ¬ 36 + 3 * m = 2 by omega), if_neg (show ¬ 36 + 3 * m = 4 by omega), if_neg (show ¬ 36 + 3 * m = 6 by omega), if_neg (show ¬ 36 + 3 * m = 8 by omega), if_neg (show ¬ 36 + 3 * m = 10 by omega), if_neg (show ¬ 36 + 3 * m = 12 by omega), if_neg (show ¬ 36 + 3 * m = 17 by omega), if_neg (show ¬ 36 + 3 * m = 19 by omega), if_neg (show ¬ 36 + 3 * m = 21 by omega), if_neg (show ¬ 36 + 3 * m = 24 by omega), if_neg (show ¬ 36 + 3 * m = 26 by omega), if_neg (show ¬ 36 + 3 * m = 28 by omega), if_neg (show ¬ 36 + 3 * m = 30 by omega), if_neg (show ¬ 36 + 3 * m = 83 by omega), if_neg (show ¬ 36 + 3 * m = 85 by omega), show (36 + 3 * m - 36) / 3 = m by omega]
  by_cases h : m < n ∧ i < 7
  · rw [if_pos h, if_pos ⟨by omega, by omega, h.1, h.2⟩]
  · rw [if_neg h, if_neg (fun q => h ⟨q.2.2.1, q.2.2.2⟩)]
theorem lo_ato {c n l k o r : Nat} {b : Nat → Bool} {a i : Nat} (h2 : ¬ a = 2) (h4 : ¬ a = 4) (h6 : ¬ a = 6) (h8 : ¬ a = 8) (h10 : ¬ a = 10) (h12 : ¬ a = 12) (h17 : ¬ a = 17) (h19 : ¬ a = 19) (h21 : ¬ a = 21) (h24 : ¬ a = 24) (h26 : ¬ a = 26) (h28 : ¬ a = 28) (h30 : ¬ a = 30) (h83 : ¬ a = 83) (h85 : ¬ a = 85) : lo_ c n l k o r b a i = (if 36 ≤ a ∧ (a - 36) % 3 = 0 ∧ (a - 36) / 3 < n ∧ i < 7 then some (630 + 40 * ((a - 36) / 3) + i) else none) := by
  unfold lo_; rw [if_neg h2, if_neg h4, if_neg h6, if_neg h8, if_neg h10, if_neg h12, if_neg h17, if_neg h19, if_neg h21, if_neg h24, if_neg h26, if_neg h28, if_neg h30, if_neg h83, if_neg h85]
theorem lo_iv {c n l k o r : Nat} {b : Nat → Bool} (hz : zOK c n l k o r) {a i x : Nat} (h : lo_ c n l k o r b a i = some x) : iv_ x = (a, i) := by
  obtain ⟨z1, z2, z3, z4, z5, z6⟩ := hz
  by_cases h2 : a = 2
  · subst h2; rw [lo_at2] at h
    exact lo_2_iv h
  by_cases h4 : a = 4
  · subst h4; rw [lo_at4] at h
    obtain ⟨q, rfl⟩ := if_some h; exact iv_4 (by omega)
  by_cases h6 : a = 6
  · subst h6; rw [lo_at6] at h
    obtain ⟨q, rfl⟩ := if_some h; exact iv_6 (by omega)
  by_cases h8 : a = 8
  · subst h8; rw [lo_at8] at h
    obtain ⟨q, rfl⟩ := if_some h; exact iv_8 (by omega)
  by_cases h10 : a = 10
  · subst h10; rw [lo_at10] at h
    obtain ⟨q, rfl⟩ := if_some h; exact iv_10 (by omega)
  by_cases h12 : a = 12
  · subst h12; rw [lo_at12] at h
    obtain ⟨q, rfl⟩ := if_some h; exact iv_12 (by omega)
  by_cases h17 : a = 17
  · subst h17; rw [lo_at17] at h
    exact lo_17_iv h
  by_cases h19 : a = 19
  · subst h19; rw [lo_at19] at h
    obtain ⟨q, rfl⟩ := if_some h; exact iv_19 (by omega)
  by_cases h21 : a = 21
  · subst h21; rw [lo_at21] at h
    obtain ⟨q, rfl⟩ := if_some h; exact iv_21 (by omega)
  by_cases h24 : a = 24
  · subst h24; rw [lo_at24] at h
    obtain ⟨q, rfl⟩ := if_some h; exact iv_24 (by omega)
  by_cases h26 : a = 26
  · subst h26; rw [lo_at26] at h
    obtain ⟨q, rfl⟩ := if_some h; exact iv_26 (by omega)
  by_cases h28 : a = 28
  · subst h28; rw [lo_at28] at h
    obtain ⟨q, rfl⟩ := if_some h; exact iv_28 (by omega)
  by_cases h30 : a = 30
  · subst h30; rw [lo_at30] at h
    obtain ⟨q, rfl⟩ := if_some h; exact iv_30 (by omega)
  by_cases h83 : a = 83
  · subst h83; rw [lo_at83] at h
    obtain ⟨q, rfl⟩ := if_some h; exact iv_83 (by omega)
  by_cases h85 : a = 85
  · subst h85; rw [lo_at85] at h
    obtain ⟨q, rfl⟩ := if_some h; exact iv_85 (by omega)
  rw [lo_ato h2 h4 h6 h8 h10 h12 h17 h19 h21 h24 h26 h28 h30 h83 h85] at h
  obtain ⟨⟨q1, q2, q3, q4⟩, rfl⟩ := if_some h
  rw [iv_m (by omega) q4, show 36 + 3 * ((a - 36) / 3) = a by omega]
/-- a number written where the row has it -/
theorem cN_up {c n l k o r : Nat} (hz : zOK c n l k o r) {A : mm_I} {N : Nat → Int32} {a i x : Nat} {v : Int32} (h : lo_ c n l k o r (sn_ N) a i = some x) (hs : ∀ y, y < c → sn_ (upd N x v) y = sn_ N y) : mm_up (cN c n l k o r A N) a i v = cN c n l k o r A (upd N x v) := by
  funext a' i'
  unfold mm_up
  have hlo : lo_ c n l k o r (sn_ (upd N x v)) a' i' = lo_ c n l k o r (sn_ N) a' i' := by
    by_cases e : a' = 10
    · subst e; rw [lo_at10, lo_at10]
      by_cases q : i' < 4 * c
      · rw [hs (i' / 4) (by omega)]
      · rw [if_neg (fun w => q w.1), if_neg (fun w => q w.1)]
    · unfold lo_
      simp only [if_neg e]
  by_cases e : a' = a ∧ i' = i
  · obtain ⟨rfl, rfl⟩ := e
    show (if _ then _ else _) = cJ (upd N x v) (A a' i') (lo_ c n l k o r (sn_ (upd N x v)) a' i') _
    rw [hlo, h]
    show _ = upd N x v x
    unfold upd
    simp
  · show _ = cJ (upd N x v) (A a' i') (lo_ c n l k o r (sn_ (upd N x v)) a' i') _
    rw [hlo]
    have hne : (if a' = a then (if i' = i then v else cN c n l k o r A N a i') else cN c n l k o r A N a' i') = cN c n l k o r A N a' i' := by
      by_cases e1 : a' = a
      · subst e1; rw [if_pos rfl, if_neg (fun q => e ⟨rfl, q⟩)]
      · rw [if_neg e1]
    rw [hne]
    show cJ N (A a' i') (lo_ c n l k o r (sn_ N) a' i') _ = _
    have hiv := lo_iv hz h
    cases hl : lo_ c n l k o r (sn_ N) a' i' with
    | none => cases cn_ n l k o r a' i' <;> rfl
    | some y =>
      have hiv2 := lo_iv hz hl
      show N y = upd N x v y
      unfold upd
      rw [if_neg]
      intro q
      subst q
      rw [hiv2] at hiv
      have q1 : a' = a := congrArg Prod.fst hiv
      have q2 : i' = i := congrArg Prod.snd hiv
      exact e ⟨q1, q2⟩
theorem cN_r {c n l k o r : Nat} {A : mm_I} {N : Nat → Int32} {a i x : Nat} (h : lo_ c n l k o r (sn_ N) a i = some x) : cN c n l k o r A N a i = N x := by
  show cJ N (A a i) (lo_ c n l k o r (sn_ N) a i) _ = _; rw [h]; rfl
theorem cN_c {c n l k o r : Nat} {A : mm_I} {N : Nat → Int32} {a i y : Nat} (h : lo_ c n l k o r (sn_ N) a i = none) (h2 : cn_ n l k o r a i = some y) : cN c n l k o r A N a i = nI y := by
  show cJ N (A a i) (lo_ c n l k o r (sn_ N) a i) (cn_ n l k o r a i) = _; rw [h, h2]; rfl
theorem cN_j {c n l k o r : Nat} {A : mm_I} {N : Nat → Int32} {a i : Nat} (h : lo_ c n l k o r (sn_ N) a i = none) (h2 : cn_ n l k o r a i = none) : cN c n l k o r A N a i = A a i := by
  show cJ N (A a i) (lo_ c n l k o r (sn_ N) a i) (cn_ n l k o r a i) = _; rw [h, h2]; rfl
/-- a number written elsewhere -/
theorem cN_dn {c n l k o r : Nat} {A : mm_I} {N : Nat → Int32} {a i : Nat} {v : Int32} (h : lo_ c n l k o r (sn_ N) a i = none) (h2 : cn_ n l k o r a i = none) : mm_up (cN c n l k o r A N) a i v = cN c n l k o r (mm_up A a i v) N := by
  funext a' i'
  unfold mm_up
  by_cases e : a' = a ∧ i' = i
  · obtain ⟨rfl, rfl⟩ := e
    rw [if_pos rfl, if_pos rfl]
    show v = cJ N (if a' = a' then (if i' = i' then v else A a' i') else A a' i') (lo_ c n l k o r (sn_ N) a' i') (cn_ n l k o r a' i')
    rw [h, h2, if_pos rfl, if_pos rfl]; rfl
  · have h3 : ∀ B : mm_I, (if a' = a then (if i' = i then v else B a i') else B a' i') = B a' i' := fun B => by
      by_cases e1 : a' = a
      · subst e1; rw [if_pos rfl, if_neg (fun q => e ⟨rfl, q⟩)]
      · rw [if_neg e1]
    rw [h3]
    show _ = cJ N (if a' = a then (if i' = i then v else A a i') else A a' i') (lo_ c n l k o r (sn_ N) a' i') (cn_ n l k o r a' i')
    rw [h3]; rfl
/-- cells that are not of it -/
theorem lo_hi {c n l k o r : Nat} {b : Nat → Bool} (hn : n ≤ 5) {a i : Nat} (h : 85 < a) : lo_ c n l k o r b a i = none := by
  rw [lo_ato (by omega) (by omega) (by omega) (by omega) (by omega) (by omega) (by omega) (by omega) (by omega) (by omega) (by omega) (by omega) (by omega) (by omega) (by omega), if_neg (by omega)]
theorem cn_hi {n l k o r a i : Nat} (h : 84 < a) : cn_ n l k o r a i = none := by
  unfold cn_; rw [if_neg (by omega), if_neg (by omega), if_neg (by omega), if_neg (by omega), if_neg (by omega)]
theorem cN_hi {c n l k o r : Nat} {A : mm_I} {N : Nat → Int32} (hn : n ≤ 5) {a : Nat} (h : 85 < a) : cN c n l k o r A N a = A a := by
  funext i; exact cN_j (lo_hi hn h) (cn_hi (by omega))
theorem sn_up {N : Nat → Int32} {x : Nat} {v : Int32} {c : Nat} (h : x < 270 ∨ 590 ≤ x) (hc : c ≤ 80) : ∀ y, y < c → sn_ (upd N x v) y = sn_ N y := fun y hy => by
  unfold sn_ upd; rw [if_neg (by omega)]

