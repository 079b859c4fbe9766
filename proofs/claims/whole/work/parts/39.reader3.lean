/-! EXPRESSIONS, as both readers read them: a number for what stands here, its worth; the reading -/
def tkd (T : Nat → Int32) (q : Nat × Nat × Nat) : Nat := if q.2.2 = 0 then 400 else if q.2.2 = 2 then 401 else if q.2.2 = 3 then vv (T q.1) else if q.2.2 = 1 then (if q.2.1 - q.1 = 1 ∧ 0 ≤ nm_ix (vv (T q.1)) then 402 else if 0 ≤ wh T q 11 then 300 + vv (wh T q 11) else if wd T q 11 = true then 403 else 404) else 404
def tkv (T : Nat → Int32) (q : Nat × Nat × Nat) : Nat := if q.2.2 = 2 then nvl T q.1 (q.2.1 - q.1) else 10000 + vv (nm_ix (vv (T q.1)))
def lo (x : Nat) : Nat := if x = 124 then 0 else if x = 38 then 1 else if x = 60 ∨ x = 61 ∨ x = 62 then 2 else if x = 43 ∨ x = 45 then 3 else if x = 42 then 4 else 5
def si (x : Nat) : Nat := if x = 124 then 0 else if x = 38 then 1 else if x = 60 then 2 else if x = 61 then 3 else if x = 62 then 4 else if x = 43 then 5 else if x = 45 then 6 else 7
def px_lp (K : Nat → Nat) (nxt : Nat → Bool × Nat × List Nat) (l : Nat) : Nat → Bool × Nat × List Nat → Bool × Nat × List Nat
  | 0, r => r
  | m + 1, r => if r.1 = true ∧ lo (K r.2.1) = l then px_lp K nxt l m ((nxt (r.2.1 + 1)).1, (nxt (r.2.1 + 1)).2.1, r.2.2 ++ (nxt (r.2.1 + 1)).2.2 ++ [20000 + si (K r.2.1)]) else r
def px_b (K : Nat → Nat) (r : Bool × Nat × List Nat) : Bool × Nat × List Nat := if r.1 = true ∧ K r.2.1 = 41 then (true, r.2.1 + 1, r.2.2) else (false, r.2.1, r.2.2)
def px (K V : Nat → Nat) : Nat → Nat → Nat → Nat → Nat → Bool × Nat × List Nat
  | 0, _, _, _, k => (false, k, [])
  | F + 1, l, pr, ns, k =>
    if l < 5 then px_lp K (px K V F (l + 1) pr ns) l (if l = 2 then 1 else 96) (px K V F (l + 1) pr ns k)
    else if K k = 401 ∨ K k = 402 then (true, k + 1, [V k])
    else if K k = 33 ∧ ns < 8 then ((px K V F 5 pr (ns + 1) (k + 1)).1, (px K V F 5 pr (ns + 1) (k + 1)).2.1, (px K V F 5 pr (ns + 1) (k + 1)).2.2 ++ [20008])
    else if K k = 40 ∧ pr < 8 then px_b K (px K V F 0 (pr + 1) ns (k + 1))
    else (false, k, [])
/-- how far a reading went: no end on its way, no more codes than words -/
def px_ok (K : Nat → Nat) (k : Nat) (r : Bool × Nat × List Nat) : Prop := k ≤ r.2.1 ∧ (∀ j, k ≤ j → j < r.2.1 → ¬ K j = 400) ∧ r.2.2.length ≤ r.2.1 - k ∧ (r.1 = true → k < r.2.1)
theorem px_lp_ok {K : Nat → Nat} {nxt : Nat → Bool × Nat × List Nat} (hn : ∀ k, px_ok K k (nxt k)) {l k : Nat} (hl : l < 5) : ∀ m r, px_ok K k r → px_ok K k (px_lp K nxt l m r) := by
  intro m
  induction m with
  | zero => intro r h; exact h
  | succ m ih =>
    intro r h
    unfold px_lp
    by_cases c : r.1 = true ∧ lo (K r.2.1) = l
    · rw [if_pos c]
      apply ih
      obtain ⟨h1, h2, h3, h4⟩ := h
      obtain ⟨g1, g2, g3, g4⟩ := hn (r.2.1 + 1)
      refine ⟨by show k ≤ (nxt (r.2.1 + 1)).2.1; omega, fun j hj1 hj2 => ?_, ?_, fun _ => by show k < (nxt (r.2.1 + 1)).2.1; omega⟩
      · replace hj2 : j < (nxt (r.2.1 + 1)).2.1 := hj2
        by_cases e1 : j < r.2.1
        · exact h2 j hj1 e1
        · by_cases e2 : j = r.2.1
          · subst e2; intro q; have := c.2; rw [q] at this; revert this; unfold lo; simp; omega
          · exact g2 j (by omega) hj2
      · show (r.2.2 ++ (nxt (r.2.1 + 1)).2.2 ++ [20000 + si (K r.2.1)]).length ≤ (nxt (r.2.1 + 1)).2.1 - k
        simp only [List.length_append, List.length_cons, List.length_nil]
        have h5 := h4 c.1
        omega
    · rw [if_neg c]; exact h
theorem px_good {K V : Nat → Nat} : ∀ F l pr ns k, px_ok K k (px K V F l pr ns k) := by
  intro F
  induction F with
  | zero => intro l pr ns k; exact ⟨Nat.le_refl _, fun j h1 h2 => absurd h2 (by show ¬ j < k; omega), by show 0 ≤ _; omega, fun h => absurd h (by show ¬ (false = true); decide)⟩
  | succ F ih =>
    intro l pr ns k
    unfold px
    by_cases c1 : l < 5
    · rw [if_pos c1]; exact px_lp_ok (fun k => ih (l + 1) pr ns k) c1 _ _ (ih (l + 1) pr ns k)
    · rw [if_neg c1]
      have one : ∀ (hk : ¬ K k = 400) (r : Bool × Nat × List Nat), px_ok K (k + 1) r → ∀ j, k ≤ j → j < r.2.1 → ¬ K j = 400 := fun hk r h j h1 h2 => by
        by_cases e : j = k
        · subst e; exact hk
        · exact h.2.1 j (by omega) h2
      by_cases c2 : K k = 401 ∨ K k = 402
      · rw [if_pos c2]
        refine ⟨by show k ≤ k + 1; omega, fun j h1 h2 => ?_, by show 1 ≤ k + 1 - k; omega, fun _ => by show k < k + 1; omega⟩
        replace h2 : j < k + 1 := h2
        rw [show j = k by omega]; omega
      · rw [if_neg c2]
        by_cases c3 : K k = 33 ∧ ns < 8
        · rw [if_pos c3]
          have hh := ih 5 pr (ns + 1) (k + 1)
          obtain ⟨g1, g2, g3, g4⟩ := id hh
          refine ⟨by show k ≤ (px K V F 5 pr (ns + 1) (k + 1)).2.1; omega, fun j q1 q2 => one (by omega) (px K V F 5 pr (ns + 1) (k + 1)) hh j q1 q2, ?_, fun h => by have := g4 h; show k < (px K V F 5 pr (ns + 1) (k + 1)).2.1; omega⟩
          show ((px K V F 5 pr (ns + 1) (k + 1)).2.2 ++ [20008]).length ≤ _
          simp only [List.length_append, List.length_cons, List.length_nil]
          show _ ≤ (px K V F 5 pr (ns + 1) (k + 1)).2.1 - k
          omega
        · rw [if_neg c3]
          by_cases c4 : K k = 40 ∧ pr < 8
          · rw [if_pos c4]
            have hh := ih 0 (pr + 1) ns (k + 1)
            generalize px K V F 0 (pr + 1) ns (k + 1) = r at hh
            obtain ⟨g1, g2, g3, g4⟩ := id hh
            unfold px_b
            by_cases c5 : r.1 = true ∧ K r.2.1 = 41
            · rw [if_pos c5]
              refine ⟨by show k ≤ r.2.1 + 1; omega, fun j h1 h2 => ?_, by show r.2.2.length ≤ r.2.1 + 1 - k; omega, fun _ => by show k < r.2.1 + 1; omega⟩
              replace h2 : j < r.2.1 + 1 := h2
              by_cases e : j = r.2.1
              · subst e; omega
              · exact one (by omega) r hh j h1 (by omega)
            · rw [if_neg c5]
              exact ⟨by show k ≤ r.2.1; omega, one (by omega) r hh, by show r.2.2.length ≤ r.2.1 - k; omega, fun h => absurd h (by show ¬ (false = true); decide)⟩
          · rw [if_neg c4]
            exact ⟨Nat.le_refl _, fun j h1 h2 => absurd h2 (by show ¬ j < k; omega), by show 0 ≤ _; omega, fun h => absurd h (by show ¬ (false = true); decide)⟩
/-- words ahead of the end are no more than bytes -/
theorem tkd_end {T : Nat → Int32} {t : Nat} (hB : tp_ok T t) {q : Nat × Nat × Nat} (hq : tq_ok T t q) : tkd T q = 400 ↔ q.2.2 = 0 := by
  obtain ⟨h1, h2, h3, h4, h5, h6⟩ := hq
  have hw : ∀ k, k ≤ 11 → wh T q k = -1 ∨ ∃ j, j < 11 ∧ wh T q k = nI j := by
    intro k
    induction k with
    | zero => intro _; exact Or.inl rfl
    | succ k ih =>
      intro hk
      unfold wh
      split
      · exact Or.inr ⟨k, by omega, rfl⟩
      · exact ih (by omega)
  unfold tkd
  by_cases c0 : q.2.2 = 0
  · rw [if_pos c0]; exact ⟨fun _ => c0, fun _ => rfl⟩
  · rw [if_neg c0]
    refine ⟨fun h => ?_, fun h => absurd h c0⟩
    exfalso
    revert h
    split
    · decide
    · split
      · obtain ⟨b, hb, eb⟩ := hB.2 q.1 (by have := h5 c0; omega)
        rw [eb, vv_nI (by omega)]; omega
      · split
        · split
          · decide
          · split
            · rename_i _ _ _ _ h0
              rcases hw 11 (by omega) with e | ⟨j, hj, e⟩
              · rw [e] at h0; exact absurd h0 (by decide)
              · rw [e, vv_nI (by omega)]; omega
            · split <;> decide
        · decide
theorem tq_end {T : Nat → Int32} {t k : Nat} (h : (tq T t k).2.2 = 0) : (tq T t (k + 1)).2.2 = 0 := by
  have hk := tq_good T t k
  obtain ⟨h1, h2, -, h4, -⟩ := id hk
  have e1 := h4 h
  have e2 : (tq T t k).2.1 = t := by omega
  show (nx T t (tq T t k)).2.2 = 0
  unfold nx
  rw [e2, if_pos ?_]
  obtain ⟨g1, g2⟩ := tk_sb_le (T := T) (t := t) 96 t (Nat.le_refl _)
  omega
theorem tq_lt {T : Nat → Int32} {t : Nat} : ∀ k, ¬ (tq T t k).2.2 = 0 → k ≤ (tq T t k).1 := by
  intro k
  induction k with
  | zero => intro _; exact Nat.zero_le _
  | succ k ih =>
    intro h
    by_cases c : (tq T t k).2.2 = 0
    · exact absurd (tq_end c) h
    · have h1 := ih c
      have hk := tq_good T t k
      have h2 := hk.2.2.2.2.1 c
      have h3 := (nx_ok (T := T) (t := t) (tq T t k) hk.2.1).2
      show k + 1 ≤ (nx T t (tq T t k)).1
      omega
abbrev tK (T : Nat → Int32) (t : Nat) : Nat → Nat := fun k => tkd T (tq T t k)
abbrev tV (T : Nat → Int32) (t : Nat) : Nat → Nat := fun k => tkv T (tq T t k)
theorem tK_lt {T : Nat → Int32} {t : Nat} (hB : tp_ok T t) {k : Nat} (h : ¬ tK T t k = 400) : k < t := by
  have hk := tq_good T t k
  have h1 : ¬ (tq T t k).2.2 = 0 := fun q => h ((tkd_end hB hk).mpr q)
  have h2 := tq_lt k h1
  have h3 := hk.2.2.2.2.1 h1
  have h4 := hk.2.1
  omega
theorem tK_sg {T : Nat → Int32} {t : Nat} (hB : tp_ok T t) {k c : Nat} (hc : c < 256) : sg T (tq T t k) (nI c) ↔ tK T t k = c := by
  have hk := tq_good T t k
  obtain ⟨h1, h2, h3, h4, h5, h6⟩ := id hk
  constructor
  · rintro ⟨a, b⟩
    show tkd T (tq T t k) = c
    unfold tkd
    rw [if_neg (by omega), if_neg (by omega), if_pos a, b, vv_nI (by omega)]
  · intro h
    have hs : (tq T t k).2.2 = 3 := by
      replace h : tkd T (tq T t k) = c := h
      by_cases e : (tq T t k).2.2 = 3
      · exact e
      · exfalso
        unfold tkd at h
        have : ∀ x, (if 0 ≤ wh T (tq T t k) 11 then 300 + vv (wh T (tq T t k) 11) else if wd T (tq T t k) 11 = true then 403 else 404) = x → 256 ≤ x := by
          intro x hx; revert hx; split
          · omega
          · split <;> omega
        revert h
        split
        · omega
        · split
          · omega
          · split
            · split
              · omega
              · intro h; have := this _ h; omega
            · omega
    refine ⟨hs, ?_⟩
    obtain ⟨b, hb, eb⟩ := hB.2 (tq T t k).1 (by have := h5 (by omega); omega)
    replace h : tkd T (tq T t k) = c := h
    unfold tkd at h
    rw [if_neg (by omega), if_neg (by omega), if_pos hs, eb, vv_nI (by omega)] at h
    rw [eb, h]
theorem sh_lo {T : Nat → Int32} {t : Nat} (hB : tp_ok T t) {k l : Nat} (hl : l < 5) : sh_ T (tq T t k) l = if lo (tK T t k) = l then nI (si (tK T t k)) else -1 := by
  have s124 := tK_sg hB (k := k) (c := 124) (by decide)
  have s38 := tK_sg hB (k := k) (c := 38) (by decide)
  have s60 := tK_sg hB (k := k) (c := 60) (by decide)
  have s61 := tK_sg hB (k := k) (c := 61) (by decide)
  have s62 := tK_sg hB (k := k) (c := 62) (by decide)
  have s43 := tK_sg hB (k := k) (c := 43) (by decide)
  have s45 := tK_sg hB (k := k) (c := 45) (by decide)
  have s42 := tK_sg hB (k := k) (c := 42) (by decide)
  generalize tK T t k = x at *
  rw [show nI 124 = 124 from rfl] at s124
  rw [show nI 38 = 38 from rfl] at s38
  rw [show nI 60 = 60 from rfl] at s60
  rw [show nI 61 = 61 from rfl] at s61
  rw [show nI 62 = 62 from rfl] at s62
  rw [show nI 43 = 43 from rfl] at s43
  rw [show nI 45 = 45 from rfl] at s45
  rw [show nI 42 = 42 from rfl] at s42
  have key : ∀ l, l < 5 → sh_ T (tq T t k) l = (match l with | 0 => if x = 124 then 0 else -1 | 1 => if x = 38 then 1 else -1 | 2 => if x = 62 then 4 else if x = 61 then 3 else if x = 60 then 2 else -1 | 3 => if x = 45 then 6 else if x = 43 then 5 else -1 | _ => if x = 42 then 7 else -1) := by
    intro l hl
    rcases (show l = 0 ∨ l = 1 ∨ l = 2 ∨ l = 3 ∨ l = 4 by omega) with rfl | rfl | rfl | rfl | rfl <;> simp only [sh_, s124, s38, s60, s61, s62, s43, s45, s42]
  rw [key l hl]
  by_cases e1 : x = 124
  · subst e1; rcases (show l = 0 ∨ l = 1 ∨ l = 2 ∨ l = 3 ∨ l = 4 by omega) with rfl | rfl | rfl | rfl | rfl <;> rfl
  by_cases e2 : x = 38
  · subst e2; rcases (show l = 0 ∨ l = 1 ∨ l = 2 ∨ l = 3 ∨ l = 4 by omega) with rfl | rfl | rfl | rfl | rfl <;> rfl
  by_cases e3 : x = 60
  · subst e3; rcases (show l = 0 ∨ l = 1 ∨ l = 2 ∨ l = 3 ∨ l = 4 by omega) with rfl | rfl | rfl | rfl | rfl <;> rfl
  by_cases e4 : x = 61
  · subst e4; rcases (show l = 0 ∨ l = 1 ∨ l = 2 ∨ l = 3 ∨ l = 4 by omega) with rfl | rfl | rfl | rfl | rfl <;> rfl
  by_cases e5 : x = 62
  · subst e5; rcases (show l = 0 ∨ l = 1 ∨ l = 2 ∨ l = 3 ∨ l = 4 by omega) with rfl | rfl | rfl | rfl | rfl <;> rfl
  by_cases e6 : x = 43
  · subst e6; rcases (show l = 0 ∨ l = 1 ∨ l = 2 ∨ l = 3 ∨ l = 4 by omega) with rfl | rfl | rfl | rfl | rfl <;> rfl
  by_cases e7 : x = 45
  · subst e7; rcases (show l = 0 ∨ l = 1 ∨ l = 2 ∨ l = 3 ∨ l = 4 by omega) with rfl | rfl | rfl | rfl | rfl <;> rfl
  by_cases e8 : x = 42
  · subst e8; rcases (show l = 0 ∨ l = 1 ∨ l = 2 ∨ l = 3 ∨ l = 4 by omega) with rfl | rfl | rfl | rfl | rfl <;> rfl
  have hlo : lo x = 5 := by unfold lo; simp [e1, e2, e3, e4, e5, e6, e7, e8]
  rw [hlo, if_neg (by omega)]
  rcases (show l = 0 ∨ l = 1 ∨ l = 2 ∨ l = 3 ∨ l = 4 by omega) with rfl | rfl | rfl | rfl | rfl <;> simp [e1, e2, e3, e4, e5, e6, e7, e8]
