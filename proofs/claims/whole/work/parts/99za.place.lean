/-! Where a MACHINE is in its PROGRAM, as both have it -/
def isCh (N : Nat → Int32) (p : Nat) : Nat → List Nat → Prop
  | s, [] => sf N p s 7 = -1
  | s, t :: L => t < 32 ∧ sf N p s 7 = nI t ∧ isCh N p t L
theorem isCh_c {N : Nat → Int32} {p s u : Nat} {L : List Nat} (h : isCh N p s L) (e : sf N p u 7 = sf N p s 7) : isCh N p u L := by
  cases L with
  | nil => exact e.trans h
  | cons t L => exact ⟨h.1, e.trans h.2.1, h.2.2⟩
theorem nI_j {a b : Nat} (h : nI a = nI b) (ha : a < 1000) (hb : b < 1000) : a = b := by
  have := congrArg vv h; rw [vv_nI (by omega), vv_nI (by omega)] at this; exact this
theorem nI_m {a : Nat} (h : nI a = -1) (ha : a < 1000) : False := by
  have z := nI_pos' (n := a) (by omega)
  rw [h] at z; exact absurd z (by decide)
/-- chains run upwards -/
theorem ch_in {N Aa : Nat → Int32} {p a nS : Nat} {E lv : Nat → Nat} {CS : List Nat} (hn : nS ≤ 32) (hg : ∀ s, s < nS → gS N p Aa E lv a CS nS s) : ∀ (L : List Nat) (s : Nat), s < nS → isCh N p s L → ∀ t, t ∈ L → t < s ∧ lv t < lv s := by
  intro L
  induction L with
  | nil => intro s _ _ t ht; exact absurd ht (by simp)
  | cons t L ih =>
    intro s hs hc q hq
    have et : t < s ∧ lv t < lv s := by
      rcases (hg s hs).2.2 with h | ⟨u, h1, h2, h3, -⟩
      · exact (nI_m (hc.2.1.symm.trans h) (by have := hc.1; omega)).elim
      · have e := nI_j (hc.2.1.symm.trans h2) (by have := hc.1; omega) (by omega)
        rw [e]; exact ⟨h1, h3⟩
    rcases List.mem_cons.mp hq with e | e
    · rw [e]; exact et
    · have := ih t (by omega) hc.2.2 q e; omega
/-- numbers of repeats, as both keep them; LF: the class's row -/
def lfR (N LF : Nat → Int32) (m p : Nat) (lv : Nat → Nat) (L : List Nat) : Prop := ∀ u, u ∈ L → (sf N p u 0 = 10 → ∃ v, v ≤ 9999 ∧ N (630 + 40 * m + (8 + u)) = nI v ∧ LF (lv u) = nI v) ∧ (¬ sf N p u 0 = 10 → N (630 + 40 * m + (8 + u)) = -1)
def plS (N LF : Nat → Int32) (m p : Nat) (E lv : Nat → Nat) (Aa : Nat → Int32) (nS x s : Nat) (L : List Nat) : Prop :=
  s < nS ∧ isCh N p s L ∧ (∀ u, u < 32 → ¬ u ∈ L → ¬ u = s → N (630 + 40 * m + (8 + u)) = -1) ∧ lfR N LF m p lv L ∧
  ((N (630 + 40 * m + (8 + s)) = -1 ∧ LdP Aa (en N p E s) 5 x) ∨ (sf N p s 0 = 10 ∧ ∃ v, v ≤ 9999 ∧ N (630 + 40 * m + (8 + s)) = nI v ∧ LF (lv s) = nI v ∧ LdP Aa (E s) 5 x))
def plR (N LF : Nat → Int32) (m p : Nat) (E lv : Nat → Nat) (a : Nat) (Aa : Nat → Int32) (nS x : Nat) : Prop :=
  (N (630 + 40 * m + 7) = -1 ∧ LdP Aa a 5 x) ∨ ∃ s L, N (630 + 40 * m + 7) = nI s ∧ plS N LF m p E lv Aa nS x s L
/-- behind a step -/
theorem climb {N Aa LF : Nat → Int32} {m p a nS : Nat} {E lv : Nat → Nat} {CS : List Nat} (hn : nS ≤ 32) (hg : ∀ s, s < nS → gS N p Aa E lv a CS nS s) (hq : ∀ s, s < nS → qs p nS N s) : ∀ (f s : Nat) (L : List Nat) (y k : Nat), f ≤ k → s < nS → isCh N p s L → (∀ u, u < 32 → ¬ u ∈ L → N (630 + 40 * m + (8 + u)) = -1) → lfR N LF m p lv L → Bh N p Aa E a 5 f y s → (bh N p k s = -1 ∧ LdP Aa a 5 y) ∨ ∃ s' L', bh N p k s = nI s' ∧ plS N LF m p E lv Aa nS y s' L' := by
  intro f
  induction f with
  | zero => intro s L y k _ _ _ _ _ h; exact absurd h (fun q => q)
  | succ f ih =>
    intro s L y k hk hs hc hm hl h
    obtain ⟨k, rfl⟩ : ∃ k', k = k' + 1 := ⟨k - 1, by omega⟩
    unfold Bh at h
    unfold bh
    by_cases c6 : sf N p s 6 < 0
    · rw [if_pos c6] at h ⊢
      cases L with
      | nil =>
        have e7 : sf N p s 7 = -1 := hc
        have c7 : sf N p s 7 < 0 := by rw [e7]; decide
        rw [if_pos c7] at h ⊢
        exact Or.inl ⟨e7, h⟩
      | cons t L =>
        obtain ⟨t32, e7, hc'⟩ := hc
        have ht := (ch_in hn hg (t :: L) s hs ⟨t32, e7, hc'⟩ t (by simp)).1
        have c7 : ¬ sf N p s 7 < 0 := by rw [e7]; exact nI_pos (by omega)
        rw [if_neg c7, e7, vv_nI (by omega)] at h ⊢
        by_cases c9 : sf N p t 0 < 9
        · rw [if_pos c9] at h ⊢
          have n10 : ¬ sf N p t 0 = 10 := fun q => by rw [q] at c9; exact absurd c9 (by decide)
          refine ih t L y k (by omega) (by omega) hc' (fun u hu hn' => ?_) (fun u hu => hl u (by simp [hu])) h
          by_cases e : u = t
          · subst e; exact (hl u (by simp)).2 n10
          · exact hm u hu (by simp [e, hn'])
        · rw [if_neg c9] at h ⊢
          refine Or.inr ⟨t, L, rfl, by omega, hc', fun u hu h1 h2 => hm u hu (by simp [h1, h2]), fun u hu => hl u (by simp [hu]), ?_⟩
          by_cases e10 : sf N p t 0 = 10
          · obtain ⟨v, v1, v2, v3⟩ := (hl t (by simp)).1 e10
            exact Or.inr ⟨e10, v, v1, v2, v3, h⟩
          · refine Or.inl ⟨(hl t (by simp)).2 e10, ?_⟩
            unfold en; rw [if_neg e10]; exact h
    · rw [if_neg c6] at h ⊢
      rcases (hq s hs).2.2 with e | ⟨u, u1, u2, u3, u4⟩
      · exact absurd (by rw [e]; decide) c6
      · rw [u3, vv_nI (by omega)] at h
        have hin := ch_in hn hg L s hs hc
        have nu : ¬ u ∈ L := fun q => by have := (hin u q).1; omega
        exact Or.inr ⟨u, L, u3, u2, isCh_c hc u4, fun x hx h1 _ => hm x hx h1, hl, Or.inl ⟨hm u (by omega) nu, h⟩⟩
/-- into a block of a step -/
theorem intoB {N N' Aa LF LF' : Nat → Int32} {m p a nS s b x : Nat} {E lv : Nat → Nat} {CS : List Nat} {L : List Nat} (hn : nS ≤ 32) (hg : ∀ s, s < nS → gS N p Aa E lv a CS nS s) (hs : s < nS) (hc : isCh N p s L) (hb : s < b ∧ b < nS) (h7 : sf N p b 7 = nI s) (hp : p < 6) (hN : ∀ y, 1226 + 418 * p ≤ y → y < 1226 + 418 * (p + 1) → N' y = N y) (hm : ∀ u, u < 32 → ¬ u ∈ L → ¬ u = s → N' (630 + 40 * m + (8 + u)) = -1) (hl : lfR N' LF' m p lv (s :: L)) (hx : x = en N p E b) : plS N' LF' m p E lv Aa nS x b (s :: L) := by
  have hin := ch_in hn hg L s hs hc
  have hsf : ∀ s f, s < 32 → f < 8 → sf N' p s f = sf N p s f := fun s f a b => hN _ (by omega) (by omega)
  have hch : ∀ (L : List Nat) (s : Nat), s < 32 → isCh N p s L → isCh N' p s L := by
    intro L
    induction L with
    | nil => intro s hs h; exact (hsf s 7 hs (by decide)).trans h
    | cons t L ih => intro s hs h; exact ⟨h.1, (hsf s 7 hs (by decide)).trans h.2.1, ih t h.1 h.2.2⟩
  refine ⟨hb.2, ⟨by omega, (hsf b 7 (by omega) (by decide)).trans h7, hch L s (by omega) hc⟩, fun u hu h1 h2 => hm u hu (fun q => h1 (by simp [q])) (fun q => h1 (by simp [q])), hl, Or.inl ⟨hm b (by omega) (fun q => by have := (hin b q).1; omega) (by omega), ?_⟩⟩
  rw [hx, show en N p E b = en N' p E b by unfold en; rw [hsf b 0 (by omega) (by decide)]]
  exact LdP_0 5
theorem ch32 {N : Nat → Int32} {p : Nat} : ∀ (L : List Nat) (s : Nat), isCh N p s L → ∀ t, t ∈ L → t < 32 := by
  intro L
  induction L with
  | nil => intro s _ t ht; exact absurd ht (by simp)
  | cons t L ih =>
    intro s hc q hq
    rcases List.mem_cons.mp hq with e | e
    · rw [e]; exact hc.1
    · exact ih t hc.2.2 q e
/-- one memory of the row for another -/
theorem plS_c {N N' LF LF' Aa : Nat → Int32} {m p nS x s : Nat} {E lv : Nat → Nat} {L : List Nat} (h : plS N LF m p E lv Aa nS x s L) (hn : nS ≤ 32) (hp : p < 6) (hN : ∀ y, 1226 + 418 * p ≤ y → y < 1226 + 418 * (p + 1) → N' y = N y) (hM : ∀ u, u < 32 → N' (630 + 40 * m + (8 + u)) = N (630 + 40 * m + (8 + u))) (hlv : ∀ u, u < 32 → sf N p u 0 = 10 → (u = s ∨ u ∈ L) → lv u < 4) (hL : ∀ j, j < 4 → LF' j = LF j) : plS N' LF' m p E lv Aa nS x s L := by
  obtain ⟨h1, h2, h3, h4, h5⟩ := h
  have hsf : ∀ s f, s < 32 → f < 8 → sf N' p s f = sf N p s f := fun s f a b => hN _ (by omega) (by omega)
  have h32 := ch32 L s h2
  have hch : ∀ (L : List Nat) (s : Nat), s < 32 → isCh N p s L → isCh N' p s L := by
    intro L
    induction L with
    | nil => intro s hs h; exact (hsf s 7 hs (by decide)).trans h
    | cons t L ih => intro s hs h; exact ⟨h.1, (hsf s 7 hs (by decide)).trans h.2.1, ih t h.1 h.2.2⟩
  refine ⟨h1, hch L s (by omega) h2, fun u hu a b => (hM u hu).trans (h3 u hu a b), fun u hu => ?_, ?_⟩
  · rw [hsf u 0 (h32 u hu) (by decide), hM u (h32 u hu)]
    refine ⟨fun q => ?_, (h4 u hu).2⟩
    obtain ⟨v, v1, v2, v3⟩ := (h4 u hu).1 q
    exact ⟨v, v1, v2, (hL _ (hlv u (h32 u hu) q (Or.inr hu))).trans v3⟩
  · rw [hM s (by omega), hsf s 0 (by omega) (by decide)]
    rcases h5 with ⟨q1, q2⟩ | ⟨q1, v, q2, q3, q4, q5⟩
    · refine Or.inl ⟨q1, ?_⟩
      rw [show en N' p E s = en N p E s by unfold en; rw [hsf s 0 (by omega) (by decide)]]; exact q2
    · exact Or.inr ⟨q1, v, q2, q3, (hL _ (hlv s (by omega) q1 (Or.inl rfl))).trans q4, q5⟩
