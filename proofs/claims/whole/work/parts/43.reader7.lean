/-! STEPS, as the reference reads them: ok, place, row, codes, how many steps -/
abbrev rS : Type := Bool × Nat × (Nat → Int32) × List Nat × Nat
def rn_ (K V : Nat → Nat) (b : Bool) (k : Nat) : Nat × Bool × Nat := if b = true ∧ K k = 401 then (V k, true, k + 1) else (0, false, k)
def rd_ (K : Nat → Nat) (c : Nat) (b : Bool) (k : Nat) : Bool × Nat := if b = true ∧ K k = c then (true, k + 1) else (false, k)
def sw (p : Nat) (N : Nat → Int32) (s f : Nat) (v : Int32) : Nat → Int32 := upd N (1226 + 418 * p + 1 + 8 * s + f) v
def r_new (p : Nat) (N : Nat → Int32) (n o : Nat) (ab : Int32) : Nat → Int32 := sw p (sw p (sw p (sw p (sw p (upd N (1226 + 418 * p) (nI (n + 1))) n 0 (nI o)) n 4 (-1)) n 5 (-1)) n 6 (-1)) n 7 ab
def r_br (K : Nat → Nat) (D : Nat) (row : Int32 → rS → Int32 × rS) (s : Nat) (S : rS) : Int32 × rS :=
  if S.1 = true ∧ K S.2.1 = 123 ∧ 0 < D then ((row (nI s) (true, S.2.1 + 1, S.2.2)).1, (rd_ K 125 (row (nI s) (true, S.2.1 + 1, S.2.2)).2.1 (row (nI s) (true, S.2.1 + 1, S.2.2)).2.2.1).1, (rd_ K 125 (row (nI s) (true, S.2.1 + 1, S.2.2)).2.1 (row (nI s) (true, S.2.1 + 1, S.2.2)).2.2.1).2, (row (nI s) (true, S.2.1 + 1, S.2.2)).2.2.2)
  else (-1, false, S.2)
def r_bd (K : Nat → Nat) (p D : Nat) (row : Int32 → rS → Int32 × rS) (f n : Nat) (S : rS) : rS := ((r_br K D row n S).2.1, (r_br K D row n S).2.2.1, sw p (r_br K D row n S).2.2.2.1 n f (r_br K D row n S).1, (r_br K D row n S).2.2.2.2)
def r_el (K : Nat → Nat) (p D : Nat) (row : Int32 → rS → Int32 × rS) (n : Nat) (S : rS) : rS := if S.1 = true ∧ K S.2.1 = 403 then r_bd K p D row 5 n (true, S.2.1 + 1, S.2.2) else S
def r_ex (K V : Nat → Nat) (p n : Nat) (S : rS) : rS := ((px K V 70 0 0 0 S.2.1).1, (px K V 70 0 0 0 S.2.1).2.1, sw p S.2.2.1 n 3 (nI S.2.2.2.1.length), S.2.2.2.1 ++ (px K V 70 0 0 0 S.2.1).2.2 ++ [30000], S.2.2.2.2)
def r_nu (K V : Nat → Nat) (p f n : Nat) (S : rS) : rS := ((rn_ K V S.1 S.2.1).2.1, (rn_ K V S.1 S.2.1).2.2, sw p S.2.2.1 n f (nI (rn_ K V S.1 S.2.1).1), S.2.2.2)
def r_op (K V : Nat → Nat) (p D : Nat) (row : Int32 → rS → Int32 × rS) (n o : Nat) (S : rS) : rS :=
  if o = 0 then r_nu K V p 2 n (r_nu K V p 1 n S) else if o = 10 then r_bd K p D row 4 n (r_nu K V p 1 n S) else if o = 7 then r_ex K V p n S else if o = 9 then r_bd K p D row 4 n (r_ex K V p n S) else if o = 8 then r_el K p D row n (r_bd K p D row 4 n (r_ex K V p n S)) else S
abbrev isW (x : Nat) : Prop := 300 ≤ x ∧ x < 311
def r_one (K V : Nat → Nat) (p D : Nat) (row : Int32 → rS → Int32 × rS) (ab : Int32) (S : rS) : Int32 × rS :=
  if isW (K S.2.1) then (nI S.2.2.2.2, r_op K V p D row S.2.2.2.2 (K S.2.1 - 300) (true, S.2.1 + 1, r_new p S.2.2.1 S.2.2.2.2 (K S.2.1 - 300) ab, S.2.2.2.1, S.2.2.2.2 + 1)) else (-1, false, S.2)
def r_nx (p : Nat) (f l : Int32) (r : Int32 × rS) : rS := (r.2.1, r.2.2.1, (if f < 0 then r.2.2.2.1 else if r.2.1 = true then sw p r.2.2.2.1 (vv l) 6 r.1 else r.2.2.2.1), r.2.2.2.2)
def r_lp (K : Nat → Nat) (p : Nat) (one : rS → Int32 × rS) : Nat → Int32 → Int32 → rS → Int32 × rS
  | 0, f, _, S => (f, S)
  | m + 1, f, l, S => if (one S).2.1 = true ∧ isW (K (one S).2.2.1) then r_lp K p one m (if f < 0 then (one S).1 else f) (one S).1 (r_nx p f l (one S)) else ((if f < 0 then (one S).1 else f), r_nx p f l (one S))
def r_row (K V : Nat → Nat) (p : Nat) : Nat → Int32 → rS → Int32 × rS
  | 0, ab, S => r_lp K p (r_one K V p 0 (fun _ S => (-1, S)) ab) 97 (-1) (-1) S
  | D + 1, ab, S => r_lp K p (r_one K V p (D + 1) (r_row K V p D) ab) 97 (-1) (-1) S
/-- in order -/
def r0_ (t p : Nat) (S : rS) : Prop := S.2.1 ≤ t ∧ S.2.2.2.1.length ≤ S.2.1 ∧ S.2.2.1 (1226 + 418 * p) = nI S.2.2.2.2 ∧ S.2.2.2.2 ≤ 32
def r1_ (T : Nat → Int32) (t p : Nat) (S : rS) : Prop := r0_ t p S ∧ (S.1 = true → 3 * S.2.2.2.2 ≤ (tq T t S.2.1).1)
theorem sw_B {p s f : Nat} {N : Nat → Int32} {v : Int32} : sw p N s f v (1226 + 418 * p) = N (1226 + 418 * p) := by
  unfold sw upd; rw [if_neg (by omega)]
theorem r_new_B {p n o : Nat} {N : Nat → Int32} {ab : Int32} : r_new p N n o ab (1226 + 418 * p) = nI (n + 1) := by
  unfold r_new; rw [sw_B, sw_B, sw_B, sw_B, sw_B]; unfold upd; rw [if_pos rfl]
theorem tq_step {T : Nat → Int32} {t : Nat} (hB : tp_ok T t) {k : Nat} (h : ¬ tK T t k = 400) : (tq T t k).2.1 ≤ (tq T t (k + 1)).1 ∧ (tq T t k).1 < (tq T t k).2.1 := by
  have hk := tq_good T t k
  have h1 : ¬ (tq T t k).2.2 = 0 := fun q => h ((tkd_end hB hk).mpr q)
  exact ⟨(nx_ok (T := T) (t := t) (tq T t k) hk.2.1).2, hk.2.2.2.2.1 h1⟩
theorem tq_mono {T : Nat → Int32} {t k : Nat} : ∀ j, (tq T t k).1 ≤ (tq T t (k + j)).1 := by
  intro j
  induction j with
  | zero => exact Nat.le_refl _
  | succ j ih =>
    have hk := tq_good T t (k + j)
    have h2 := (nx_ok (T := T) (t := t) (tq T t (k + j)) hk.2.1).2
    have h3 := hk.1
    show _ ≤ (nx T t (tq T t (k + j))).1
    omega
theorem wh_wd {T : Nat → Int32} {q : Nat × Nat × Nat} {j : Nat} (hj : j < 11) : ∀ k, k ≤ 11 → wh T q k = nI j → wd T q j = true := by
  intro k
  induction k with
  | zero =>
    intro _ h
    replace h : (-1 : Int32) = nI j := h
    have h2 := nI_pos' (n := j) (by omega)
    rw [← h] at h2
    exact absurd h2 (by decide)
  | succ k ih =>
    intro hk h
    unfold wh at h
    by_cases c : wd T q k = true
    · rw [if_pos c] at h
      have := (nI_eq (by omega) (by omega)).mp h
      subst this; exact c
    · rw [if_neg c] at h; exact ih (by omega) h
/-- a step's word is as long as its text -/
theorem tK_word {T : Nat → Int32} {t k : Nat} (hB : tp_ok T t) (h : isW (tK T t k)) : wh T (tq T t k) 11 = nI (tK T t k - 300) ∧ (tq T t k).2.1 - (tq T t k).1 = (mm_sx (tK T t k - 300)).length := by
  have h' : isW (tkd T (tq T t k)) := h
  show wh T (tq T t k) 11 = nI (tkd T (tq T t k) - 300) ∧ (tq T t k).2.1 - (tq T t k).1 = (mm_sx (tkd T (tq T t k) - 300)).length
  rcases tkd_in hB (tq_good T t k) with ⟨a, b⟩ | ⟨a, b⟩ | ⟨a, b⟩ | ⟨a, a2, a3, b⟩ | ⟨a, a2, j, hj, ej, b⟩ | ⟨a, a2, -, -, b⟩ | ⟨a2, a, b⟩
  · omega
  · omega
  · omega
  · omega
  · rw [b, show 300 + j - 300 = j by omega]
    refine ⟨ej, ?_⟩
    have hw := wh_wd (T := T) (q := tq T t k) hj 11 (Nat.le_refl _) ej
    unfold wd at hw
    exact (of_decide_eq_true (Bool.and_eq_true_iff.mp hw).1).2
  · omega
  · omega
theorem tK_noword {T : Nat → Int32} {t k : Nat} (hB : tp_ok T t) (h : ¬ isW (tK T t k)) : wh T (tq T t k) 11 = -1 := by
  have h' : ¬ isW (tkd T (tq T t k)) := h
  have wno : ¬ (tq T t k).2.2 = 1 → ∀ n, n ≤ 11 → wh T (tq T t k) n = -1 := fun hs n => by
    induction n with
    | zero => intro _; rfl
    | succ n ih =>
      intro hn
      unfold wh
      rw [if_neg (by unfold wd; rw [decide_eq_false (fun q => hs q.1), Bool.false_and]; exact Bool.false_ne_true)]
      exact ih (by omega)
  rcases tkd_in hB (tq_good T t k) with ⟨a, b⟩ | ⟨a, b⟩ | ⟨a, b⟩ | ⟨a, a2, a3, b⟩ | ⟨a, a2, j, hj, ej, b⟩ | ⟨a, a2, e, -, b⟩ | ⟨a2, a, b⟩
  · exact wno (by omega) 11 (Nat.le_refl _)
  · exact wno (by omega) 11 (Nat.le_refl _)
  · exact wno (by omega) 11 (Nat.le_refl _)
  · rcases wh_in (T := T) (q := tq T t k) 11 (Nat.le_refl _) with e | ⟨j, hj, e⟩
    · exact e
    · have hw := wh_wd (T := T) (q := tq T t k) hj 11 (Nat.le_refl _) e
      unfold wd at hw
      have := (of_decide_eq_true (Bool.and_eq_true_iff.mp hw).1).2
      have := (tx_len (show j < 14 by omega)).1
      omega
  · exfalso; apply h'; rw [b]; exact ⟨by omega, by omega⟩
  · exact e
  · rcases a with a | a
    · exact (a2 a).2.1
    · exact wno (by omega) 11 (Nat.le_refl _)
theorem tK_else {T : Nat → Int32} {t k : Nat} (hB : tp_ok T t) : wd T (tq T t k) 11 = true ↔ tK T t k = 403 := by
  show _ ↔ tkd T (tq T t k) = 403
  have hs : wd T (tq T t k) 11 = true → (tq T t k).2.2 = 1 ∧ (tq T t k).2.1 - (tq T t k).1 = 4 := fun h => by
    unfold wd at h
    exact of_decide_eq_true (Bool.and_eq_true_iff.mp h).1
  rcases tkd_in hB (tq_good T t k) with ⟨a, b⟩ | ⟨a, b⟩ | ⟨a, b⟩ | ⟨a, a2, a3, b⟩ | ⟨a, a2, j, hj, ej, b⟩ | ⟨a, a2, e, e2, b⟩ | ⟨a2, a, b⟩
  · exact ⟨fun h => by have := hs h; omega, fun h => by omega⟩
  · exact ⟨fun h => by have := hs h; omega, fun h => by omega⟩
  · exact ⟨fun h => by have := hs h; omega, fun h => by omega⟩
  · exact ⟨fun h => by have := hs h; omega, fun h => by omega⟩
  · refine ⟨fun h => ?_, fun h => by omega⟩
    exfalso
    have hw := wh_wd (T := T) (q := tq T t k) hj 11 (Nat.le_refl _) ej
    unfold wd at hw h
    have g1 := Bool.and_eq_true_iff.mp hw
    have g2 := Bool.and_eq_true_iff.mp h
    have l1 := (of_decide_eq_true g1.1).2
    have l2 := (of_decide_eq_true g2.1).2
    have w1 := g1.2
    have w2 := g2.2
    have key : ∀ n, wdp T (tq T t k).1 j n = true → ∀ i, i < n → T ((tq T t k).1 + i) = (mm_sx j).getD i 0 := fun n => by
      induction n with
      | zero => intro _ i hi; omega
      | succ n ih =>
        intro hh i hi
        unfold wdp at hh
        have := Bool.and_eq_true_iff.mp hh
        by_cases e : i = n
        · subst e; exact of_decide_eq_true this.2
        · exact ih this.1 i (by omega)
    have key2 : ∀ n, wdp T (tq T t k).1 11 n = true → ∀ i, i < n → T ((tq T t k).1 + i) = (mm_sx 11).getD i 0 := fun n => by
      induction n with
      | zero => intro _ i hi; omega
      | succ n ih =>
        intro hh i hi
        unfold wdp at hh
        have := Bool.and_eq_true_iff.mp hh
        by_cases e : i = n
        · subst e; exact of_decide_eq_true this.2
        · exact ih this.1 i (by omega)
    have f1 := key _ w1 0 (by have := (tx_len (show j < 14 by omega)).1; omega)
    have f2 := key2 _ w2 0 (by decide)
    have f3 := f1.symm.trans f2
    have : ∀ j, j < 11 → ¬ (mm_sx j).getD 0 0 = (mm_sx 11).getD 0 0 := by decide
    exact this j hj f3
  · exact ⟨fun _ => b, fun _ => e2⟩
  · refine ⟨fun h => ?_, fun h => by omega⟩
    exact absurd h (a2 (hs h).1).2.2
