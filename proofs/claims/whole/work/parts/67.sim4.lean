/-! BOTH READINGS ARE ALIKE: a block -/
theorem bTF : ¬ (true = false) := by decide
theorem bFT : ¬ (false = true) := by decide
def OkW (T : Nat → Int32) (t W p bn : Nat) (row : Int32 → rS → Int32 × rS) : Prop := ∀ (ab : Int32) (k : Nat) (N : Nat → Int32) (CS : List Nat) (n : Nat) (Af : Nat → Int32) (a : Nat) (Sf Bf : Nat → Int32), cI T t W (true, k, true, n, Af, a, Sf, CS.length, Bf, bn) → r1_ T t p (true, k, N, CS, n) → (∀ i, i < CS.length → Sf i = cs_ (CS.getD i 0)) → OkL T t W p ab bn k N CS n true Af a Sf Bf (nI n) (row ab (true, k, N, CS, n))
theorem c_it_on {T : Nat → Int32} {t k : Nat} {ok fr : Bool} {st : Nat} {Af : Nat → Int32} {a : Nat} {Sf : Nat → Int32} {sn : Nat} {Bf : Nat → Int32} {bn : Nat} (h : ¬ (tK T t k = 125 ∧ 0 < bn ∧ fr = false)) : c_it T t (ok, k, fr, st, Af, a, Sf, sn, Bf, bn) = c_on T t (ok, k, fr, st, Af, a, Sf, sn, Bf, bn) := by
  show (if tK T t k = 125 ∧ 0 < bn ∧ fr = false then _ else _) = _
  rw [if_neg h]
theorem c_it_cl {T : Nat → Int32} {t k : Nat} {ok fr : Bool} {st : Nat} {Af : Nat → Int32} {a : Nat} {Sf : Nat → Int32} {sn : Nat} {Bf : Nat → Int32} {bn : Nat} (h : tK T t k = 125 ∧ 0 < bn ∧ fr = false) : c_it T t (ok, k, fr, st, Af, a, Sf, sn, Bf, bn) = c_cl (tK T t) (ok, k, fr, st, Af, a, Sf, sn, Bf, bn) := by
  show (if tK T t k = 125 ∧ 0 < bn ∧ fr = false then _ else _) = _
  rw [if_pos h]
theorem c_on_n {T : Nat → Int32} {t k : Nat} {ok fr : Bool} {st : Nat} {Af : Nat → Int32} {a : Nat} {Sf : Nat → Int32} {sn : Nat} {Bf : Nat → Int32} {bn : Nat} (h : ¬ isW (tK T t k)) : c_on T t (ok, k, fr, st, Af, a, Sf, sn, Bf, bn) = (false, k, fr, st, Af, a, Sf, sn, Bf, bn) := by
  show (if isW (tK T t k) then _ else _) = _
  rw [if_neg h]
theorem c_on_y {T : Nat → Int32} {t k : Nat} {ok fr : Bool} {st : Nat} {Af : Nat → Int32} {a : Nat} {Sf : Nat → Int32} {sn : Nat} {Bf : Nat → Int32} {bn : Nat} (h : isW (tK T t k)) : c_on T t (ok, k, fr, st, Af, a, Sf, sn, Bf, bn) = c_o T t (tK T t k - 300) (true, k + 1, false, st + 1, Af, a, Sf, sn, Bf, bn) := by
  show (if isW (tK T t k) then _ else _) = _
  rw [if_pos h]
/-- a row, from its loop -/
theorem sim_row {I : mm_I} {T : Nat → Int32} {t W p bn D : Nat} (hB : tp_ok T t) (hWR : WR I T t W) {row : Int32 → rS → Int32 × rS} (hG : ∀ ab S, S.1 = true → r1_ T t p S → r1_ T t p (r_one (tK T t) (tV T t) p D row ab S).2) (hO : ∀ ab, OkO T t W p ab bn (r_one (tK T t) (tV T t) p D row ab)) : OkW T t W p bn (fun ab S => r_lp (tK T t) p (r_one (tK T t) (tV T t) p D row ab) 97 (-1) (-1) S) := by
  intro ab k N CS n Af a Sf Bf hI hr hS
  by_cases c : isW (tK T t k)
  · have h := sim_lp hB hWR (hG ab) (hO ab) 97 (-1) (-1) 0 k N CS n true Af a Sf Bf (by omega) hI hr hS c (fun q => absurd q (by decide))
    rw [if_pos (by decide), if_pos (by decide)] at h
    exact h
  · dsimp only
    have e : r_one (tK T t) (tV T t) p D row ab (true, k, N, CS, n) = (-1, false, k, N, CS, n) := by
      unfold r_one; rw [if_neg c]
    unfold r_lp
    rw [e, if_neg (show ¬ (((-1, false, k, N, CS, n) : Int32 × rS).2.1 = true ∧ isW (tK T t ((-1, false, k, N, CS, n) : Int32 × rS).2.2.1)) from fun q => bFT q.1)]
    refine ⟨fun h => absurd h (by show ¬ (false = true); decide), fun _ => ⟨Nat.le_refl _, c_it T t (true, k, true, n, Af, a, Sf, CS.length, Bf, bn), ?_, ?_, Rch_1 (by omega) ⟨rfl, fun q => absurd q.2.2 (by show ¬ (true = false); decide)⟩⟩⟩
    · rw [c_it_on (fun q => absurd q.2.2 (by decide)), c_on_n c]
    · rw [c_it_on (fun q => absurd q.2.2 (by decide)), c_on_n c]; rfl
/-- a block, from the place of its bracket -/
theorem sim_br {I : mm_I} {T : Nat → Int32} {t W p bn D s x k n1 a1 : Nat} {fr ok0 : Bool} {N A1 Sf Bf : Nat → Int32} {CS : List Nat} (hB : tp_ok T t) (hWR : WR I T t W) (hD : bn + D = 4) {row : Int32 → rS → Int32 × rS} (hW : 0 < D → OkW T t W p (bn + 1) row) (hI : cI T t W (c_op (tK T t) x (ok0, k, fr, n1, A1, a1, Sf, CS.length, Bf, bn))) (hr : r1_ T t p (ok0, k, N, CS, n1)) (hS : ∀ i, i < CS.length → Sf i = cs_ (CS.getD i 0)) : ∀ y ok k' N' CS' n', r_br (tK T t) D row s (ok0, k, N, CS, n1) = (y, ok, k', N', CS', n') →
    (ok = true → y = nI n1 ∧ bn < 4 ∧ ∃ k3 A' a' Sf' Bf', k' = k3 + 1 ∧ k < k3 ∧ tK T t k3 = 125 ∧ Rch T t (k3 - k - 1) (c_op (tK T t) x (ok0, k, fr, n1, A1, a1, Sf, CS.length, Bf, bn)) (true, k3, false, n', A', a', Sf', CS'.length, Bf', bn + 1) ∧ (∀ i, i < CS'.length → Sf' i = cs_ (CS'.getD i 0)) ∧ Bf' bn = nI x ∧ (∀ i, i < bn → Bf' i = Bf i) ∧ (∀ i, i < 3 * a1 → A' i = A1 i) ∧ Fr p n1 N N' ∧ (CS.length ≤ CS'.length ∧ ∀ i, i < CS.length → CS'.getD i 0 = CS.getD i 0) ∧ n1 < n' ∧ a1 < a' ∧ n' ≤ 32 ∧ GdR p (nI s) n1 n' a1 a' (bn + 1) N' A' CS') ∧
    (ok = false → k ≤ k' ∧ ∃ c' : cS, c'.1 = false ∧ c'.2.1 = k' ∧ Rch T t (k' - k) (c_op (tK T t) x (ok0, k, fr, n1, A1, a1, Sf, CS.length, Bf, bn)) c') := by
  intro y ok k' N' CS' n' he
  unfold r_br at he
  by_cases c : ok0 = true ∧ tK T t k = 123 ∧ 0 < D
  · rw [if_pos (show (ok0, k, N, CS, n1).1 = true ∧ tK T t (ok0, k, N, CS, n1).2.1 = 123 ∧ 0 < D from c)] at he
    obtain ⟨c1, c2, c3⟩ := c
    subst c1
    rw [c_op_y ⟨rfl, by omega, c2⟩] at hI ⊢
    obtain ⟨⟨g1, g2, g3, g4⟩, g5⟩ := hr
    have hlt := tK_lt hB (k := k) (by omega)
    have hle := tq_le (T := T) (t := t) (Nat.le_succ k)
    have h := hW c3 (nI s) (k + 1) N CS n1 A1 a1 Sf (upd Bf bn (nI x)) hI ⟨⟨hlt, Nat.le_succ_of_le g2, g3, g4⟩, fun _ => Nat.le_trans (g5 rfl) hle⟩ hS
    dsimp only at he
    generalize row (nI s) (true, k + 1, N, CS, n1) = r at he h
    obtain ⟨x2, ok2, k2, N2, CS2, n2⟩ := r
    obtain ⟨h1, h2⟩ := h
    dsimp only at he h1 h2
    by_cases c5 : ok2 = true
    · subst c5
      obtain ⟨e1, e2, A2, a2, S2, B2, hok, hgd⟩ := h1 rfl
      obtain ⟨p1, p2, p3, p4, p5, p6, p7, p8, p9, p10⟩ := hok
      by_cases c4 : tK T t k2 = 125
      · have er : rd_ (tK T t) 125 true k2 = (true, k2 + 1) := by unfold rd_; rw [if_pos ⟨rfl, c4⟩]
        rw [er] at he
        obtain ⟨q1, q2, q3, q4, q5, q6⟩ := he
        refine ⟨fun _ => ⟨e1, by omega, k2, A2, a2, S2, B2, rfl, by omega, c4, Rch_m p1 (by omega), p2, ?_, fun i hi => ?_, p4, p5, p6, p7, p8, p10, hgd⟩, fun h => absurd h bTF⟩
        · rw [p3 bn (by omega)]; unfold upd; rw [if_pos rfl]
        · rw [p3 i (by omega)]; unfold upd; rw [if_neg (by omega)]
      · have er : rd_ (tK T t) 125 true k2 = (false, k2) := by unfold rd_; rw [if_neg (fun q => c4 q.2)]
        rw [er] at he
        obtain ⟨q1, q2, q3, q4, q5, q6⟩ := he
        refine ⟨fun h => absurd h bFT, fun _ => ⟨by omega, c_it T t (true, k2, false, n', A2, a2, S2, CS'.length, B2, bn + 1), ?_, ?_, Rch_m (Rch_t p1 (Rch_1 (n := 1) (by omega) ⟨rfl, fun q => absurd q.2.1 (by show ¬ bn + 1 = 0; omega)⟩)) (by omega)⟩⟩
        · rw [c_it_on (fun q => c4 q.1), c_on_n e2]
        · rw [c_it_on (fun q => c4 q.1), c_on_n e2]
    · have c' : ok2 = false := by cases ok2; rfl; exact absurd rfl c5
      subst c'
      have er : rd_ (tK T t) 125 false k2 = (false, k2) := by unfold rd_; rw [if_neg (fun q => absurd q.1 (by decide))]
      rw [er] at he
      obtain ⟨q1, q2, q3, q4, q5, q6⟩ := he
      obtain ⟨w1, cc, w2, w3, w4⟩ := h2 rfl
      exact ⟨fun h => absurd h bFT, fun _ => ⟨by omega, cc, w2, w3, Rch_m w4 (by omega)⟩⟩
  · rw [if_neg (show ¬ ((ok0, k, N, CS, n1).1 = true ∧ tK T t (ok0, k, N, CS, n1).2.1 = 123 ∧ 0 < D) from c)] at he
    obtain ⟨q1, q2, q3, q4, q5, q6⟩ := he
    refine ⟨fun h => absurd h bFT, fun _ => ⟨Nat.le_refl _, _, ?_, ?_, Rch_r _ _⟩⟩
    · rw [c_op_n (fun q => c ⟨q.1, q.2.2, by omega⟩)]
    · rw [c_op_n (fun q => c ⟨q.1, q.2.2, by omega⟩)]
