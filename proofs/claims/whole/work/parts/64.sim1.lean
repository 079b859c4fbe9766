/-! BOTH READINGS ARE ALIKE: words for it -/
/-- place x leads to place z, by so many JUMPs at most -/
def LdP (A : Nat → Int32) (z : Nat) : Nat → Nat → Prop
  | 0, x => x = z
  | j + 1, x => x = z ∨ (A (3 * x) = 12 ∧ ∃ y, A (3 * x + 2) = nI y ∧ y ≤ 40 ∧ LdP A z j y)
theorem LdP_0 {A : Nat → Int32} {z : Nat} : ∀ j, LdP A z j z := fun j => by cases j; exact rfl; exact Or.inl rfl
theorem LdP_s {A : Nat → Int32} {z : Nat} : ∀ j x, LdP A z j x → LdP A z (j + 1) x := by
  intro j
  induction j with
  | zero => intro x h; exact Or.inl h
  | succ j ih =>
    intro x h
    rcases h with h | ⟨h1, y, h2, h3, h4⟩
    · exact Or.inl h
    · exact Or.inr ⟨h1, y, h2, h3, ih y h4⟩
theorem LdP_m {A : Nat → Int32} {z j j' x : Nat} (h : LdP A z j x) (hj : j ≤ j') : LdP A z j' x := by
  induction j' with
  | zero => rw [show j = 0 by omega] at h; exact h
  | succ j' ih =>
    by_cases e : j = j' + 1
    · rw [← e]; exact h
    · exact LdP_s j' x (ih (by omega))
def en (N : Nat → Int32) (p : Nat) (E : Nat → Nat) (s : Nat) : Nat := if sf N p s 0 = 10 then E s - 1 else E s
/-- place x goes on with what comes behind step s -/
def Bh (N : Nat → Int32) (p : Nat) (A : Nat → Int32) (E : Nat → Nat) (a j : Nat) : Nat → Nat → Nat → Prop
  | 0, _, _ => False
  | f + 1, x, s => if sf N p s 6 < 0 then (if sf N p s 7 < 0 then LdP A a j x else if sf N p (vv (sf N p s 7)) 0 < 9 then Bh N p A E a j f x (vv (sf N p s 7)) else LdP A (E (vv (sf N p s 7))) j x) else LdP A (en N p E (vv (sf N p s 6))) j x
theorem Bh_m {N : Nat → Int32} {p : Nat} {A : Nat → Int32} {E : Nat → Nat} {a j j' : Nat} (hj : j ≤ j') : ∀ f f' x s, f ≤ f' → Bh N p A E a j f x s → Bh N p A E a j' f' x s := by
  intro f
  induction f with
  | zero => intro f' x s _ h; exact absurd h (fun q => q)
  | succ f ih =>
    intro f' x s hf h
    obtain ⟨g, rfl⟩ : ∃ g, f' = g + 1 := ⟨f' - 1, by omega⟩
    unfold Bh at h ⊢
    by_cases c1 : sf N p s 6 < 0
    · rw [if_pos c1] at h ⊢
      by_cases c2 : sf N p s 7 < 0
      · rw [if_pos c2] at h ⊢; exact LdP_m h hj
      · rw [if_neg c2] at h ⊢
        by_cases c3 : sf N p (vv (sf N p s 7)) 0 < 9
        · rw [if_pos c3] at h ⊢; exact ih g x _ (by omega) h
        · rw [if_neg c3] at h ⊢; exact LdP_m h hj
    · rw [if_neg c1] at h ⊢; exact LdP_m h hj
/-- a JUMP ahead of it -/
theorem Bh_j {N : Nat → Int32} {p : Nat} {A : Nat → Int32} {E : Nat → Nat} {a j x y : Nat} (h1 : A (3 * x) = 12) (h2 : A (3 * x + 2) = nI y) (hy : y ≤ 40) : ∀ f s, Bh N p A E a j f y s → Bh N p A E a (j + 1) f x s := by
  intro f
  induction f with
  | zero => intro s h; exact absurd h (fun q => q)
  | succ f ih =>
    intro s h
    unfold Bh at h ⊢
    by_cases c1 : sf N p s 6 < 0
    · rw [if_pos c1] at h ⊢
      by_cases c2 : sf N p s 7 < 0
      · rw [if_pos c2] at h ⊢; exact Or.inr ⟨h1, y, h2, hy, h⟩
      · rw [if_neg c2] at h ⊢
        by_cases c3 : sf N p (vv (sf N p s 7)) 0 < 9
        · rw [if_pos c3] at h ⊢; exact ih _ h
        · rw [if_neg c3] at h ⊢; exact Or.inr ⟨h1, y, h2, hy, h⟩
    · rw [if_neg c1] at h ⊢; exact Or.inr ⟨h1, y, h2, hy, h⟩
/-- an expression that begins at e -/
def gX (CS : List Nat) (e : Nat) : Prop := ∃ cs : List Nat, e + cs.length < CS.length ∧ (∀ i, i < cs.length → CS.getD (e + i) 0 = cs.getD i 0) ∧ CS.getD (e + cs.length) 0 = 30000 ∧ wf cs 0 ∧ ∀ c, c ∈ cs → c < 30000
/-- a step is good -/
def gS (N : Nat → Int32) (p : Nat) (A : Nat → Int32) (E lv : Nat → Nat) (a : Nat) (CS : List Nat) (n s : Nat) : Prop :=
  (∃ o, o ≤ 10 ∧ sf N p s 0 = nI o ∧ A (3 * E s) = cc_ o ∧ E s < a ∧
    (o = 0 → ∃ x y, x ≤ 9999 ∧ y ≤ 9999 ∧ sf N p s 1 = nI x ∧ sf N p s 2 = nI y ∧ A (3 * E s + 1) = nI x ∧ A (3 * E s + 2) = nI y) ∧
    (o = 7 ∨ o = 8 ∨ o = 9 → ∃ e, sf N p s 3 = nI e ∧ A (3 * E s + 1) = nI e ∧ gX CS e) ∧
    (o ≤ 7 → Bh N p A E a 5 (s + 1) (E s + 1) s) ∧
    (8 ≤ o → ∃ b, s < b ∧ b < n ∧ sf N p s 4 = nI b ∧ E s + 1 = en N p E b ∧ ∃ y, y ≤ a ∧ A (3 * E s + 2) = nI y ∧ ((sf N p s 5 = -1 ∧ Bh N p A E a 5 (s + 1) y s) ∨ (o = 8 ∧ ∃ b2, s < b2 ∧ b2 < n ∧ sf N p s 5 = nI b2 ∧ y = en N p E b2))) ∧
    (o = 10 → ∃ v, v ≤ 9999 ∧ sf N p s 1 = nI v ∧ 1 ≤ E s ∧ lv s < 4 ∧ A (3 * E s + 1) = nI (lv s) ∧ A (3 * (E s - 1)) = 13 ∧ A (3 * (E s - 1) + 1) = nI (lv s) ∧ A (3 * (E s - 1) + 2) = nI v)) ∧
  (sf N p s 6 = -1 ∨ ∃ u, s < u ∧ u < n ∧ sf N p s 6 = nI u) ∧ (sf N p s 7 = -1 ∨ ∃ u, u < s ∧ sf N p s 7 = nI u ∧ lv u < lv s ∧ 8 ≤ sf N p u 0)
/-- what is read is well-formed -/
def Pw (cs : List Nat) : Prop := (∀ rest h, h + cs.length ≤ 96 → wf rest (h + 1) → wf (cs ++ rest) h) ∧ (∀ c, c ∈ cs → c < 30000) ∧ 1 ≤ cs.length
theorem wf_b {c h : Nat} {rest : List Nat} (hc : 20000 ≤ c ∧ c < 20008) (hh : h + 2 ≤ 96) (hr : wf rest (h + 1)) : wf (c :: rest) (h + 2) := by
  rw [wf, if_neg (by omega), if_neg (by omega)]
  exact ⟨by omega, by omega, by omega, hr⟩
theorem px_lp_w {K : Nat → Nat} {nxt : Nat → Bool × Nat × List Nat} (hn : ∀ k, (nxt k).1 = true → Pw (nxt k).2.2) {l : Nat} : ∀ m r, (r.1 = true → Pw r.2.2) → (px_lp K nxt l m r).1 = true → Pw (px_lp K nxt l m r).2.2 := by
  intro m
  induction m with
  | zero => intro r h; exact h
  | succ m ih =>
    intro r h
    unfold px_lp
    by_cases c : r.1 = true ∧ lo (K r.2.1) = l
    · rw [if_pos c]
      apply ih
      intro hh
      have h1 := h c.1
      have h2 := hn (r.2.1 + 1) hh
      have hs := si_le (K r.2.1)
      show Pw (r.2.2 ++ (nxt (r.2.1 + 1)).2.2 ++ [20000 + si (K r.2.1)])
      generalize (nxt (r.2.1 + 1)).2.2 = b at h2
      have k1 := h1.2.2
      have k2 := h2.2.2
      refine ⟨fun rest g hg hr => ?_, fun c hc => ?_, by simp only [List.length_append, List.length_cons, List.length_nil]; omega⟩
      · simp only [List.length_append, List.length_cons, List.length_nil] at hg
        rw [List.append_assoc, List.append_assoc]
        refine h1.1 _ g (by omega) (h2.1 _ (g + 1) (by omega) ?_)
        exact wf_b ⟨by omega, by omega⟩ (by omega) hr
      · rcases List.mem_append.mp hc with q | q
        · rcases List.mem_append.mp q with q | q
          · exact h1.2.1 c q
          · exact h2.2.1 c q
        · have := List.mem_singleton.mp q; omega
    · rw [if_neg c]; exact h
theorem px_w {T : Nat → Int32} {t : Nat} (hB : tp_ok T t) : ∀ F l pr ns k, (px (tK T t) (tV T t) F l pr ns k).1 = true → Pw (px (tK T t) (tV T t) F l pr ns k).2.2 := by
  intro F
  induction F with
  | zero => intro l pr ns k h; exact absurd h (by show ¬ (false = true); decide)
  | succ F ih =>
    intro l pr ns k
    unfold px
    by_cases c1 : l < 5
    · rw [if_pos c1]; exact px_lp_w (fun k => ih (l + 1) pr ns k) _ _ (ih (l + 1) pr ns k)
    · rw [if_neg c1]
      by_cases c2 : tK T t k = 401 ∨ tK T t k = 402
      · rw [if_pos c2]
        intro _
        have hv : tV T t k < 10000 ∨ (10000 ≤ tV T t k ∧ tV T t k < 10010) := by
          rcases c2 with q | q
          · exact Or.inl (tV_lt hB q)
          · right
            obtain ⟨hs1, hs2, hs3⟩ := (tK_402 hB).mp q
            show 10000 ≤ tkv T (tq T t k) ∧ tkv T (tq T t k) < 10010
            unfold tkv
            rw [if_neg (by omega)]
            rcases nm_in (vv (T (tq T t k).1)) with e | ⟨j, hj, e⟩
            · rw [e] at hs3; exact absurd hs3 (by decide)
            · rw [e, vv_nI (by omega)]; omega
        refine ⟨fun rest h hh hr => ?_, fun c hc => by have := List.mem_singleton.mp hc; omega, Nat.le_refl _⟩
        show wf (tV T t k :: rest) h
        replace hh : h + 1 ≤ 96 := hh
        rw [wf, if_pos (by omega)]
        exact ⟨by omega, hh, hr⟩
      · rw [if_neg c2]
        by_cases c3 : tK T t k = 33 ∧ ns < 8
        · rw [if_pos c3]
          intro hok
          have h2 := ih 5 pr (ns + 1) (k + 1) hok
          show Pw ((px (tK T t) (tV T t) F 5 pr (ns + 1) (k + 1)).2.2 ++ [20008])
          generalize (px (tK T t) (tV T t) F 5 pr (ns + 1) (k + 1)).2.2 = b at h2
          refine ⟨fun rest h hh hr => ?_, fun c hc => ?_, by simp only [List.length_append, List.length_cons, List.length_nil]; omega⟩
          · simp only [List.length_append, List.length_cons, List.length_nil] at hh
            rw [List.append_assoc]
            refine h2.1 _ h (by omega) ?_
            show wf (20008 :: rest) (h + 1)
            rw [wf, if_neg (by decide), if_pos rfl]
            exact ⟨by omega, by omega, hr⟩
          · rcases List.mem_append.mp hc with q | q
            · exact h2.2.1 c q
            · have := List.mem_singleton.mp q; omega
        · rw [if_neg c3]
          by_cases c4 : tK T t k = 40 ∧ pr < 8
          · rw [if_pos c4]
            have h2 := ih 0 (pr + 1) ns (k + 1)
            generalize px (tK T t) (tV T t) F 0 (pr + 1) ns (k + 1) = r at h2
            unfold px_b
            by_cases c5 : r.1 = true ∧ tK T t r.2.1 = 41
            · rw [if_pos c5]; intro _; exact h2 c5.1
            · rw [if_neg c5]; intro h; exact absurd h (by show ¬ (false = true); decide)
          · rw [if_neg c4]; intro h; exact absurd h (by show ¬ (false = true); decide)
/-- so many turns of the class's loop -/
def itn (T : Nat → Int32) (t : Nat) : Nat → cS → cS
  | 0, s => s
  | c + 1, s => itn T t c (c_it T t s)
abbrev acv (T : Nat → Int32) (t : Nat) (s : cS) : Prop := s.1 = true ∧ ¬ c_ov T t s
def Rch (T : Nat → Int32) (t n : Nat) (s s' : cS) : Prop := ∃ c, c ≤ n ∧ itn T t c s = s' ∧ ∀ i, i < c → acv T t (itn T t i s)
theorem itn_add {T : Nat → Int32} {t : Nat} : ∀ a b s, itn T t (a + b) s = itn T t b (itn T t a s) := by
  intro a
  induction a with
  | zero => intro b s; rw [Nat.zero_add]; rfl
  | succ a ih => intro b s; rw [show a + 1 + b = (a + b) + 1 by omega]; exact ih b (c_it T t s)
theorem Rch_r {T : Nat → Int32} {t : Nat} (n : Nat) (s : cS) : Rch T t n s s := ⟨0, Nat.zero_le _, rfl, fun i hi => absurd hi (Nat.not_lt_zero _)⟩
theorem Rch_1 {T : Nat → Int32} {t n : Nat} {s : cS} (hn : 1 ≤ n) (h : acv T t s) : Rch T t n s (c_it T t s) := ⟨1, hn, rfl, fun i hi => by rw [show i = 0 by omega]; exact h⟩
theorem Rch_t {T : Nat → Int32} {t n m : Nat} {s s' s'' : cS} (h : Rch T t n s s') (h2 : Rch T t m s' s'') : Rch T t (n + m) s s'' := by
  obtain ⟨c, hc, e, ha⟩ := h
  obtain ⟨b, hb, e2, ha2⟩ := h2
  refine ⟨c + b, by omega, by rw [itn_add, e, e2], fun i hi => ?_⟩
  by_cases q : i < c
  · exact ha i q
  · rw [show i = c + (i - c) by omega, itn_add, e]; exact ha2 (i - c) (by omega)
theorem Rch_m {T : Nat → Int32} {t n m : Nat} {s s' : cS} (h : Rch T t n s s') (hm : n ≤ m) : Rch T t m s s' := by
  obtain ⟨c, hc, e, ha⟩ := h; exact ⟨c, by omega, e, ha⟩
theorem Rch_run {T : Nat → Int32} {t n : Nat} {s s' : cS} (h : Rch T t n s s') : ∃ c, c ≤ n ∧ ∀ m, cl_run T t (m + c) s = cl_run T t m s' := by
  obtain ⟨c, hc, e, ha⟩ := h
  refine ⟨c, hc, ?_⟩
  clear hc
  induction c generalizing s with
  | zero => intro m; subst e; rfl
  | succ c ih =>
    intro m
    rw [show m + (c + 1) = (m + c) + 1 by omega, cl_run_y (show acv T t s from ha 0 (by omega))]
    exact ih e (fun i hi => ha (i + 1) (by omega)) m
theorem Rch_I {I : mm_I} {T : Nat → Int32} {t W n : Nat} (hB : tp_ok T t) (hWR : WR I T t W) {s s' : cS} (h : Rch T t n s s') (hI : cI T t W s) : cI T t W s' := by
  obtain ⟨c, hc, e, ha⟩ := h
  clear hc
  induction c generalizing s with
  | zero => subst e; exact hI
  | succ c ih => exact ih (c_it_I hB hWR hI (ha 0 (by omega)).1) e (fun i hi => ha (i + 1) (by omega))
