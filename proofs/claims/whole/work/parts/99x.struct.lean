/-! Steps and those beside, within and above them -/
def qs (p hi : Nat) (N : Nat → Int32) (s : Nat) : Prop :=
  (sf N p s 4 = -1 ∨ ∃ b, s < b ∧ b < hi ∧ sf N p s 4 = nI b ∧ sf N p b 7 = nI s) ∧
  (sf N p s 5 = -1 ∨ ∃ b, s < b ∧ b < hi ∧ sf N p s 5 = nI b ∧ sf N p b 7 = nI s) ∧
  (sf N p s 6 = -1 ∨ ∃ u, s < u ∧ u < hi ∧ sf N p s 6 = nI u ∧ sf N p u 7 = sf N p s 7)
def FrS (p n : Nat) (N N' : Nat → Int32) : Prop := ∀ s f, s < n → f < 8 → sf N' p s f = sf N p s f
theorem FrS_t {p n m : Nat} {N N' N2 : Nat → Int32} (h : FrS p n N N') (h2 : FrS p m N' N2) (hm : n ≤ m) : FrS p n N N2 := fun s f hs hf => (h2 s f (by omega) hf).trans (h s f hs hf)
theorem FrS_sw {p n s f : Nat} {N : Nat → Int32} {v : Int32} (hs : n ≤ s) (hf : f < 8) : FrS p n N (sw p N s f v) := fun s' f' hs' hf' => sw_n (by omega) hf hf'
theorem qs_c {p hi hi' : Nat} {N N' : Nat → Int32} {s : Nat} (h : qs p hi N s) (hh : hi ≤ hi') (hs : s < hi) (hN : ∀ s f, s < hi → f < 8 → sf N' p s f = sf N p s f) : qs p hi' N' s := by
  obtain ⟨h4, h5, h6⟩ := h
  refine ⟨?_, ?_, ?_⟩
  · rcases h4 with h | ⟨b, b1, b2, b3, b4⟩
    · exact Or.inl ((hN s 4 hs (by decide)).trans h)
    · exact Or.inr ⟨b, b1, by omega, (hN s 4 hs (by decide)).trans b3, (hN b 7 b2 (by decide)).trans b4⟩
  · rcases h5 with h | ⟨b, b1, b2, b3, b4⟩
    · exact Or.inl ((hN s 5 hs (by decide)).trans h)
    · exact Or.inr ⟨b, b1, by omega, (hN s 5 hs (by decide)).trans b3, (hN b 7 b2 (by decide)).trans b4⟩
  · rcases h6 with h | ⟨b, b1, b2, b3, b4⟩
    · exact Or.inl ((hN s 6 hs (by decide)).trans h)
    · exact Or.inr ⟨b, b1, by omega, (hN s 6 hs (by decide)).trans b3, (hN b 7 b2 (by decide)).trans (b4.trans (hN s 7 hs (by decide)).symm)⟩
/-- a number of step n is set to another step's -/
theorem qs_sw {p hi n f s : Nat} {N : Nat → Int32} {v : Int32} (hf : f < 7) (h : qs p hi N s) (hsn : ¬ s = n ∨ (f = 1 ∨ f = 2 ∨ f = 3)) : qs p hi (sw p N n f v) s := by
  obtain ⟨h4, h5, h6⟩ := h
  have e : ∀ s' f', f' < 8 → ¬ (s' = n ∧ f' = f) → sf (sw p N n f v) p s' f' = sf N p s' f' := fun s' f' h1 h2 => sw_n h2 (by omega) h1
  refine ⟨?_, ?_, ?_⟩
  · rcases h4 with h | ⟨b, b1, b2, b3, b4⟩
    · exact Or.inl ((e s 4 (by decide) (by omega)).trans h)
    · exact Or.inr ⟨b, b1, b2, (e s 4 (by decide) (by omega)).trans b3, (e b 7 (by decide) (by omega)).trans b4⟩
  · rcases h5 with h | ⟨b, b1, b2, b3, b4⟩
    · exact Or.inl ((e s 5 (by decide) (by omega)).trans h)
    · exact Or.inr ⟨b, b1, b2, (e s 5 (by decide) (by omega)).trans b3, (e b 7 (by decide) (by omega)).trans b4⟩
  · rcases h6 with h | ⟨b, b1, b2, b3, b4⟩
    · exact Or.inl ((e s 6 (by decide) (by omega)).trans h)
    · exact Or.inr ⟨b, b1, b2, (e s 6 (by decide) (by omega)).trans b3, (e b 7 (by decide) (by omega)).trans (b4.trans (e s 7 (by decide) (by omega)).symm)⟩
def RowQ (p : Nat) (row : Int32 → rS → Int32 × rS) : Prop := ∀ ab S, (row ab S).2.1 = true → (row ab S).2.2.2.2.2 < 1000 → (row ab S).1 = nI S.2.2.2.2 ∧ S.2.2.2.2 < (row ab S).2.2.2.2.2 ∧ sf (row ab S).2.2.2.1 p S.2.2.2.2 7 = ab ∧ (∀ s, S.2.2.2.2 ≤ s → s < (row ab S).2.2.2.2.2 → qs p (row ab S).2.2.2.2.2 (row ab S).2.2.2.1 s) ∧ FrS p S.2.2.2.2 S.2.2.1 (row ab S).2.2.2.1
/-- steps from n on are as they should, n's block among them -/
def BdQ (p n : Nat) (ab : Int32) (N0 : Nat → Int32) (S : rS) : Prop := n < S.2.2.2.2 ∧ (∀ s, n ≤ s → s < S.2.2.2.2 → qs p S.2.2.2.2 S.2.2.1 s) ∧ sf S.2.2.1 p n 7 = ab ∧ sf S.2.2.1 p n 6 = -1 ∧ FrS p n N0 S.2.2.1
theorem BdQ_sw {p n f : Nat} {ab : Int32} {N0 : Nat → Int32} {ok : Bool} {k : Nat} {N : Nat → Int32} {CS CS' : List Nat} {nn k' : Nat} {ok' : Bool} {v : Int32} (hf : f = 1 ∨ f = 2 ∨ f = 3) (h : BdQ p n ab N0 (ok, k, N, CS, nn)) : BdQ p n ab N0 (ok', k', sw p N n f v, CS', nn) := by
  obtain ⟨h1, h2, h3, h4, h5⟩ := h
  exact ⟨h1, fun s a b => qs_sw (by omega) (h2 s a b) (Or.inr hf), (sw_n (by omega) (by omega) (by decide)).trans h3, (sw_n (by omega) (by omega) (by decide)).trans h4, FrS_t h5 (FrS_sw (Nat.le_refl _) (by omega)) (Nat.le_refl _)⟩
theorem rd_ok {K : Nat → Nat} {c : Nat} {b : Bool} {k : Nat} (h : (rd_ K c b k).1 = true) : b = true := by
  unfold rd_ at h
  by_cases q : b = true ∧ K k = c
  · exact q.1
  · rw [if_neg q] at h; exact absurd (show false = true from h) (by decide)
theorem BdQ_bd {K : Nat → Nat} {p D n f : Nat} {row : Int32 → rS → Int32 × rS} {ab : Int32} {N0 : Nat → Int32} {S : rS} (hR : RowQ p row) (hf : f = 4 ∨ f = 5) (h : BdQ p n ab N0 S) (hok : (r_bd K p D row f n S).1 = true) (hb : (r_bd K p D row f n S).2.2.2.2 < 1000) : BdQ p n ab N0 (r_bd K p D row f n S) := by
  obtain ⟨h1, h2, h3, h4, h5⟩ := h
  by_cases c : S.1 = true ∧ K S.2.1 = 123 ∧ 0 < D
  · have e : r_br K D row n S = ((row (nI n) (true, S.2.1 + 1, S.2.2)).1, (rd_ K 125 (row (nI n) (true, S.2.1 + 1, S.2.2)).2.1 (row (nI n) (true, S.2.1 + 1, S.2.2)).2.2.1).1, (rd_ K 125 (row (nI n) (true, S.2.1 + 1, S.2.2)).2.1 (row (nI n) (true, S.2.1 + 1, S.2.2)).2.2.1).2, (row (nI n) (true, S.2.1 + 1, S.2.2)).2.2.2) := if_pos c
    unfold r_bd at hok hb ⊢
    rw [e] at hok hb ⊢
    have hq := hR (nI n) (true, S.2.1 + 1, S.2.2) (rd_ok hok) hb
    obtain ⟨q1, q2, q3, q4, q5⟩ := hq
    change _ = nI S.2.2.2.2 at q1
    change S.2.2.2.2 < _ at q2
    change sf _ p S.2.2.2.2 7 = nI n at q3
    change FrS p S.2.2.2.2 S.2.2.1 _ at q5
    have e2 : ∀ s' f', f' < 8 → ¬ (s' = n ∧ f' = f) → sf (sw p (row (nI n) (true, S.2.1 + 1, S.2.2)).2.2.2.1 n f (row (nI n) (true, S.2.1 + 1, S.2.2)).1) p s' f' = sf (row (nI n) (true, S.2.1 + 1, S.2.2)).2.2.2.1 p s' f' := fun s' f' a b => sw_n b (by omega) a
    refine ⟨Nat.lt_trans h1 q2, fun s a b => ?_, ?_, ?_, ?_⟩
    · change s < (row (nI n) (true, S.2.1 + 1, S.2.2)).2.2.2.2.2 at b
      show qs p (row (nI n) (true, S.2.1 + 1, S.2.2)).2.2.2.2.2 (sw p (row (nI n) (true, S.2.1 + 1, S.2.2)).2.2.2.1 n f (row (nI n) (true, S.2.1 + 1, S.2.2)).1) s
      by_cases es : s = n
      · subst es
        obtain ⟨z4, z5, z6⟩ := qs_c (h2 s (Nat.le_refl _) h1) (Nat.le_of_lt q2) h1 (fun s' f' a b => q5 s' f' a b)
        have z6' : sf (sw p (row (nI s) (true, S.2.1 + 1, S.2.2)).2.2.2.1 s f (row (nI s) (true, S.2.1 + 1, S.2.2)).1) p s 6 = -1 := (e2 s 6 (by decide) (by omega)).trans ((q5 s 6 h1 (by decide)).trans h4)
        have z7 : sf (sw p (row (nI s) (true, S.2.1 + 1, S.2.2)).2.2.2.1 s f (row (nI s) (true, S.2.1 + 1, S.2.2)).1) p s f = nI S.2.2.2.2 := sw_y.trans q1
        have z8 : sf (sw p (row (nI s) (true, S.2.1 + 1, S.2.2)).2.2.2.1 s f (row (nI s) (true, S.2.1 + 1, S.2.2)).1) p S.2.2.2.2 7 = nI s := (e2 _ 7 (by decide) (by omega)).trans q3
        rcases hf with hf | hf
        · subst hf
          refine ⟨Or.inr ⟨S.2.2.2.2, h1, q2, z7, z8⟩, ?_, Or.inl z6'⟩
          rcases z5 with z | ⟨b', b1, b2, b3, b4⟩
          · exact Or.inl ((e2 s 5 (by decide) (by omega)).trans z)
          · exact Or.inr ⟨b', b1, b2, (e2 s 5 (by decide) (by omega)).trans b3, (e2 b' 7 (by decide) (by omega)).trans b4⟩
        · subst hf
          refine ⟨?_, Or.inr ⟨S.2.2.2.2, h1, q2, z7, z8⟩, Or.inl z6'⟩
          rcases z4 with z | ⟨b', b1, b2, b3, b4⟩
          · exact Or.inl ((e2 s 4 (by decide) (by omega)).trans z)
          · exact Or.inr ⟨b', b1, b2, (e2 s 4 (by decide) (by omega)).trans b3, (e2 b' 7 (by decide) (by omega)).trans b4⟩
      · refine qs_sw (by omega) ?_ (Or.inl es)
        by_cases e3 : s < S.2.2.2.2
        · exact qs_c (h2 s a e3) (Nat.le_of_lt q2) e3 (fun s' f' a b => q5 s' f' a b)
        · exact q4 s (Nat.not_lt.mp e3) b
    · exact (e2 n 7 (by decide) (by omega)).trans ((q5 n 7 h1 (by decide)).trans h3)
    · exact (e2 n 6 (by decide) (by omega)).trans ((q5 n 6 h1 (by decide)).trans h4)
    · exact fun s' f' a b => (e2 s' f' b (by omega)).trans ((q5 s' f' (by omega) b).trans (h5 s' f' a b))
  · have e : r_br K D row n S = (-1, false, S.2) := if_neg c
    unfold r_bd at hok
    rw [e] at hok
    exact absurd (show false = true from hok) (by decide)
