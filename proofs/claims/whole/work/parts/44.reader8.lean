/-! STEPS: all stays in order -/
theorem tq_le {T : Nat → Int32} {t k j : Nat} (h : k ≤ j) : (tq T t k).1 ≤ (tq T t j).1 := by
  have := tq_mono (T := T) (t := t) (k := k) (j - k)
  rw [show k + (j - k) = j by omega] at this
  exact this
def RowOK (T : Nat → Int32) (t p : Nat) (row : Int32 → rS → Int32 × rS) : Prop := ∀ ab S, S.1 = true → r1_ T t p S → r1_ T t p (row ab S).2 ∧ S.2.1 ≤ (row ab S).2.2.1
theorem r_nu_good {T : Nat → Int32} {t p f n : Nat} (hB : tp_ok T t) {S : rS} (h : r0_ t p S) : r0_ t p (r_nu (tK T t) (tV T t) p f n S) ∧ S.2.1 ≤ (r_nu (tK T t) (tV T t) p f n S).2.1 ∧ ((r_nu (tK T t) (tV T t) p f n S).1 = true → S.1 = true ∧ (tq T t S.2.1).1 + 1 ≤ (tq T t (r_nu (tK T t) (tV T t) p f n S).2.1).1) := by
  obtain ⟨h1, h2, h3, h4⟩ := h
  unfold r_nu rn_
  by_cases c : S.1 = true ∧ tK T t S.2.1 = 401
  · rw [if_pos c]
    have hlt := tK_lt hB (k := S.2.1) (by omega)
    have hst := tq_step hB (k := S.2.1) (by omega)
    exact ⟨⟨hlt, Nat.le_succ_of_le h2, by show sw _ _ _ _ _ _ = _; rw [sw_B]; exact h3, h4⟩, Nat.le_succ _, fun _ => ⟨c.1, by show _ ≤ (tq T t (S.2.1 + 1)).1; omega⟩⟩
  · rw [if_neg c]
    exact ⟨⟨h1, h2, by show sw _ _ _ _ _ _ = _; rw [sw_B]; exact h3, h4⟩, Nat.le_refl _, fun h => absurd h (by show ¬ (false = true); decide)⟩
theorem r_ex_good {T : Nat → Int32} {t p n : Nat} (hB : tp_ok T t) {S : rS} (h : r0_ t p S) (h1 : S.2.2.2.1.length + 1 ≤ S.2.1) : r0_ t p (r_ex (tK T t) (tV T t) p n S) ∧ S.2.1 ≤ (r_ex (tK T t) (tV T t) p n S).2.1 ∧ ((r_ex (tK T t) (tV T t) p n S).1 = true → (tq T t S.2.1).1 + 1 ≤ (tq T t (r_ex (tK T t) (tV T t) p n S).2.1).1) := by
  obtain ⟨g1, g2, g3, g4⟩ := h
  have hg := px_good (K := tK T t) (V := tV T t) 70 0 0 0 S.2.1
  have hle := px_le_t hB hg g1
  unfold r_ex
  generalize px (tK T t) (tV T t) 70 0 0 0 S.2.1 = r at hg hle
  obtain ⟨q1, q2, q3, q4⟩ := hg
  refine ⟨⟨hle, ?_, by show sw _ _ _ _ _ _ = _; rw [sw_B]; exact g3, g4⟩, q1, fun hh => ?_⟩
  · show (S.2.2.2.1 ++ r.2.2 ++ [30000]).length ≤ r.2.1
    simp only [List.length_append, List.length_cons, List.length_nil]
    omega
  · have h5 := q4 hh
    have hst := tq_step hB (k := S.2.1) (q2 S.2.1 (Nat.le_refl _) h5)
    have := tq_le (T := T) (t := t) (show S.2.1 + 1 ≤ r.2.1 by omega)
    show _ ≤ (tq T t r.2.1).1
    omega
theorem r_br_good {T : Nat → Int32} {t p D s : Nat} (hB : tp_ok T t) {row : Int32 → rS → Int32 × rS} (hR : 0 < D → RowOK T t p row) {S : rS} (h : r1_ T t p S) : r1_ T t p (r_br (tK T t) D row s S).2 ∧ S.2.1 ≤ (r_br (tK T t) D row s S).2.2.1 := by
  obtain ⟨⟨h1, h2, h3, h4⟩, h5⟩ := id h
  unfold r_br
  by_cases c : S.1 = true ∧ tK T t S.2.1 = 123 ∧ 0 < D
  · rw [if_pos c]
    have hlt := tK_lt hB (k := S.2.1) (by omega)
    have hle := tq_le (T := T) (t := t) (Nat.le_succ S.2.1)
    obtain ⟨g, gk⟩ := hR c.2.2 (nI s) (true, S.2.1 + 1, S.2.2) rfl ⟨⟨hlt, Nat.le_succ_of_le h2, h3, h4⟩, fun _ => Nat.le_trans (h5 c.1) hle⟩
    generalize row (nI s) (true, S.2.1 + 1, S.2.2) = r at g gk
    replace gk : S.2.1 + 1 ≤ r.2.2.1 := gk
    obtain ⟨⟨g1, g2, g3, g4⟩, g5⟩ := g
    unfold rd_
    by_cases c2 : r.2.1 = true ∧ tK T t r.2.2.1 = 125
    · rw [if_pos c2]
      have hlt2 := tK_lt hB (k := r.2.2.1) (by omega)
      exact ⟨⟨⟨hlt2, Nat.le_succ_of_le g2, g3, g4⟩, fun _ => Nat.le_trans (g5 c2.1) (tq_le (Nat.le_succ _))⟩, by show S.2.1 ≤ r.2.2.1 + 1; omega⟩
    · rw [if_neg c2]
      exact ⟨⟨⟨g1, g2, g3, g4⟩, fun h => absurd h (by show ¬ (false = true); decide)⟩, by show S.2.1 ≤ r.2.2.1; omega⟩
  · rw [if_neg c]
    exact ⟨⟨⟨h1, h2, h3, h4⟩, fun h => absurd h (by show ¬ (false = true); decide)⟩, Nat.le_refl _⟩
theorem r_bd_good {T : Nat → Int32} {t p D f n : Nat} (hB : tp_ok T t) {row : Int32 → rS → Int32 × rS} (hR : 0 < D → RowOK T t p row) {S : rS} (h : r1_ T t p S) : r1_ T t p (r_bd (tK T t) p D row f n S) ∧ S.2.1 ≤ (r_bd (tK T t) p D row f n S).2.1 := by
  obtain ⟨⟨⟨g1, g2, g3, g4⟩, g5⟩, gk⟩ := r_br_good (s := n) hB hR h
  exact ⟨⟨⟨g1, g2, by show sw _ _ _ _ _ _ = _; rw [sw_B]; exact g3, g4⟩, g5⟩, gk⟩
theorem r_el_good {T : Nat → Int32} {t p D n : Nat} (hB : tp_ok T t) {row : Int32 → rS → Int32 × rS} (hR : 0 < D → RowOK T t p row) {S : rS} (h : r1_ T t p S) : r1_ T t p (r_el (tK T t) p D row n S) ∧ S.2.1 ≤ (r_el (tK T t) p D row n S).2.1 := by
  unfold r_el
  by_cases c : S.1 = true ∧ tK T t S.2.1 = 403
  · rw [if_pos c]
    have hlt := tK_lt hB (k := S.2.1) (by omega)
    obtain ⟨⟨h1, h2, h3, h4⟩, h5⟩ := id h
    obtain ⟨g, gk⟩ := r_bd_good (f := 5) (n := n) hB hR (S := (true, S.2.1 + 1, S.2.2)) ⟨⟨hlt, Nat.le_succ_of_le h2, h3, h4⟩, fun _ => Nat.le_trans (h5 c.1) (tq_le (Nat.le_succ _))⟩
    exact ⟨g, by replace gk : S.2.1 + 1 ≤ _ := gk; omega⟩
  · rw [if_neg c]; exact ⟨h, Nat.le_refl _⟩
theorem tx_4 : ∀ o, o < 11 → (1 ≤ o → o ≤ 6 → 4 ≤ (mm_sx o).length) ∧ (o = 0 → (mm_sx o).length = 2) ∧ (o = 7 → (mm_sx o).length = 5) ∧ (o = 8 → (mm_sx o).length = 2) ∧ (o = 9 → (mm_sx o).length = 5) ∧ (o = 10 → (mm_sx o).length = 6) := by decide
theorem r_op_good {T : Nat → Int32} {t p D n o f0 : Nat} (hB : tp_ok T t) {row : Int32 → rS → Int32 × rS} (hR : 0 < D → RowOK T t p row) (ho : o < 11) {S : rS} (hS : S.1 = true) (h : r0_ t p S) (hc : S.2.2.2.1.length + 1 ≤ S.2.1) (h3 : 3 * (S.2.2.2.2 - 1) ≤ f0) (hf : f0 + (mm_sx o).length ≤ (tq T t S.2.1).1) : r1_ T t p (r_op (tK T t) (tV T t) p D row n o S) ∧ S.2.1 ≤ (r_op (tK T t) (tV T t) p D row n o S).2.1 := by
  have hl := tx_4 o ho
  unfold r_op
  by_cases c0 : o = 0
  · rw [if_pos c0]
    have l0 := hl.2.1 c0
    obtain ⟨g, gk, g1⟩ := r_nu_good (f := 1) (n := n) hB h
    obtain ⟨e, ek, e1⟩ := r_nu_good (f := 2) (n := n) hB g
    refine ⟨⟨e, fun hh => ?_⟩, by omega⟩
    have a := e1 hh
    have b := g1 a.1
    have : (r_nu (tK T t) (tV T t) p 2 n (r_nu (tK T t) (tV T t) p 1 n S)).2.2.2.2 = S.2.2.2.2 := rfl
    omega
  rw [if_neg c0]
  by_cases c10 : o = 10
  · rw [if_pos c10]
    have l0 := hl.2.2.2.2.2 c10
    obtain ⟨g, gk, g1⟩ := r_nu_good (f := 1) (n := n) hB h
    have := tq_le (T := T) (t := t) gk
    obtain ⟨e, ek⟩ := r_bd_good (f := 4) (n := n) hB hR (S := r_nu (tK T t) (tV T t) p 1 n S) ⟨g, fun _ => by show 3 * S.2.2.2.2 ≤ _; omega⟩
    exact ⟨e, by omega⟩
  rw [if_neg c10]
  obtain ⟨g, gk, g1⟩ := r_ex_good (n := n) hB h hc
  have hmo := tq_le (T := T) (t := t) gk
  have en : (r_ex (tK T t) (tV T t) p n S).2.2.2.2 = S.2.2.2.2 := rfl
  by_cases c7 : o = 7
  · rw [if_pos c7]
    have l0 := hl.2.2.1 c7
    exact ⟨⟨g, fun _ => by omega⟩, gk⟩
  rw [if_neg c7]
  by_cases c9 : o = 9
  · rw [if_pos c9]
    have l0 := hl.2.2.2.2.1 c9
    obtain ⟨e, ek⟩ := r_bd_good (f := 4) (n := n) hB hR (S := r_ex (tK T t) (tV T t) p n S) ⟨g, fun _ => by omega⟩
    exact ⟨e, by omega⟩
  rw [if_neg c9]
  by_cases c8 : o = 8
  · rw [if_pos c8]
    have l0 := hl.2.2.2.1 c8
    obtain ⟨e, ek⟩ := r_bd_good (f := 4) (n := n) hB hR (S := r_ex (tK T t) (tV T t) p n S) ⟨g, fun hh => by have := g1 hh; omega⟩
    obtain ⟨u, uk⟩ := r_el_good (n := n) hB hR e
    exact ⟨u, by omega⟩
  rw [if_neg c8]
  have l0 := hl.1 (by omega) (by omega)
  exact ⟨⟨h, fun _ => by omega⟩, Nat.le_refl _⟩
set_option maxRecDepth 100000 in
set_option maxHeartbeats 1000000 in
theorem r_one_good {T : Nat → Int32} {t p D : Nat} (ht96 : t ≤ 96) (hB : tp_ok T t) {row : Int32 → rS → Int32 × rS} (hR : 0 < D → RowOK T t p row) {ab : Int32} {S : rS} (hS : S.1 = true) (h : r1_ T t p S) : r1_ T t p (r_one (tK T t) (tV T t) p D row ab S).2 ∧ S.2.1 ≤ (r_one (tK T t) (tV T t) p D row ab S).2.2.1 ∧ ((r_one (tK T t) (tV T t) p D row ab S).2.1 = true → S.2.1 < (r_one (tK T t) (tV T t) p D row ab S).2.2.1) := by
  obtain ⟨⟨h1, h2, h3, h4⟩, h5⟩ := id h
  unfold r_one
  by_cases c : isW (tK T t S.2.1)
  · rw [if_pos c]
    have hlt := tK_lt hB (k := S.2.1) (by omega)
    have hw := tK_word hB c
    have hst := tq_step hB (k := S.2.1) (by omega)
    have hk := tq_good T t S.2.1
    have h6 := h5 hS
    have hk2 := hk.2.1
    obtain ⟨g, gk⟩ := r_op_good (n := S.2.2.2.2) (o := tK T t S.2.1 - 300) (f0 := (tq T t S.2.1).1) (D := D) (p := p) hB hR (by omega) (S := (true, S.2.1 + 1, r_new p S.2.2.1 S.2.2.2.2 (tK T t S.2.1 - 300) ab, S.2.2.2.1, S.2.2.2.2 + 1)) rfl ⟨hlt, Nat.le_succ_of_le h2, r_new_B, by show S.2.2.2.2 + 1 ≤ 32; omega⟩ (by show S.2.2.2.1.length + 1 ≤ S.2.1 + 1; omega) (by show 3 * (S.2.2.2.2 + 1 - 1) ≤ _; omega) (by show _ ≤ (tq T t (S.2.1 + 1)).1; omega)
    exact ⟨g, Nat.le_of_succ_le gk, fun _ => gk⟩
  · rw [if_neg c]
    exact ⟨⟨⟨h1, h2, h3, h4⟩, fun h => absurd h (by show ¬ (false = true); decide)⟩, Nat.le_refl _, fun h => absurd h (by show ¬ (false = true); decide)⟩
theorem r_nx_good {T : Nat → Int32} {t p : Nat} {f l : Int32} {r : Int32 × rS} (h : r1_ T t p r.2) : r1_ T t p (r_nx p f l r) := by
  obtain ⟨⟨h1, h2, h3, h4⟩, h5⟩ := h
  refine ⟨⟨h1, h2, ?_, h4⟩, h5⟩
  show (if f < 0 then r.2.2.2.1 else if r.2.1 = true then sw p r.2.2.2.1 (vv l) 6 r.1 else r.2.2.2.1) (1226 + 418 * p) = _
  split
  · exact h3
  · split
    · rw [sw_B]; exact h3
    · exact h3
theorem r_lp_good {T : Nat → Int32} {t p : Nat} {one : rS → Int32 × rS} (hO : ∀ S, S.1 = true → r1_ T t p S → r1_ T t p (one S).2 ∧ S.2.1 ≤ (one S).2.2.1) : ∀ (m : Nat) (f l : Int32) (S : rS), S.1 = true → r1_ T t p S → r1_ T t p (r_lp (tK T t) p one m f l S).2 ∧ S.2.1 ≤ (r_lp (tK T t) p one m f l S).2.2.1 := by
  intro m
  induction m with
  | zero => intro f l S hS h; exact ⟨h, Nat.le_refl _⟩
  | succ m ih =>
    intro f l S hS h
    obtain ⟨g, gk⟩ := hO S hS h
    unfold r_lp
    by_cases c : (one S).2.1 = true ∧ isW (tK T t (one S).2.2.1)
    · rw [if_pos c]
      obtain ⟨e, ek⟩ := ih (if f < 0 then (one S).1 else f) (one S).1 (r_nx p f l (one S)) c.1 (r_nx_good g)
      exact ⟨e, Nat.le_trans gk ek⟩
    · rw [if_neg c]; exact ⟨r_nx_good g, gk⟩
theorem r_row_good {T : Nat → Int32} {t p : Nat} (ht96 : t ≤ 96) (hB : tp_ok T t) : ∀ D, RowOK T t p (r_row (tK T t) (tV T t) p D) := by
  intro D
  induction D with
  | zero =>
    intro ab S hS h
    show r1_ T t p (r_lp (tK T t) p _ 97 (-1) (-1) S).2 ∧ _
    exact r_lp_good (fun S hS h => ⟨(r_one_good ht96 hB (fun h => absurd h (by decide)) hS h).1, (r_one_good ht96 hB (fun h => absurd h (by decide)) hS h).2.1⟩) 97 (-1) (-1) S hS h
  | succ D ih =>
    intro ab S hS h
    exact r_lp_good (fun S hS h => ⟨(r_one_good ht96 hB (fun _ => ih) hS h).1, (r_one_good ht96 hB (fun _ => ih) hS h).2.1⟩) 97 (-1) (-1) S hS h
