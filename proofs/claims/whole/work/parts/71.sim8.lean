/-! BOTH READINGS ARE ALIKE: every row -/
set_option maxRecDepth 100000 in
theorem sim_one {I : mm_I} {T : Nat → Int32} {t W p bn D : Nat} (hB : tp_ok T t) (hWR : WR I T t W) (hD : bn + D = 4) {row : Int32 → rS → Int32 × rS} (hRo : 0 < D → RowOK T t p row) (hW : 0 < D → OkW T t W p (bn + 1) row) (ab : Int32) : OkO T t W p ab bn (r_one (tK T t) (tV T t) p D row ab) := by
  intro k N CS n fr Af a Sf Bf hI hr hS hw x ok k' N' CS' n' he
  have h1 := sim_1 (T := T) (t := t) (k := k) (fr := fr) (st := n) (Af := Af) (a := a) (Sf := Sf) (sn := CS.length) (Bf := Bf) (bn := bn) hw
  have hIo := Rch_I hB hWR h1 hI
  have hlt := tK_lt hB (k := k) (by omega)
  have hwd := tK_word hB hw
  have hst := tq_step hB (k := k) (by omega)
  have hkg := tq_good T t k
  have hkg2 := hkg.2.1
  have ht96 := hB.1
  obtain ⟨⟨g1, g2, g3, g4⟩, g5⟩ := id hr
  have g6 := g5 rfl
  dsimp only at g1 g2 g3 g4 g6
  have hn : n < 32 := by omega
  have hbn : bn ≤ 4 := by omega
  have ho : tK T t k - 300 < 11 := by omega
  have hl := tx_4 _ ho
  have hwl := hwd.2
  unfold r_one at he
  rw [if_pos (show isW (tK T t (true, k, N, CS, n).2.1) from hw)] at he
  dsimp only at he
  generalize tK T t k - 300 = o at h1 hIo ho hl hwl he
  have h0 : r0_ t p (true, k + 1, r_new p N n o ab, CS, n + 1) := ⟨hlt, Nat.le_succ_of_le g2, r_new_B, hn⟩
  have hres : Res1 T t p ab bn k N CS n fr Af a Sf Bf (r_op (tK T t) (tV T t) p D row n o (true, k + 1, r_new p N n o ab, CS, n + 1)) := by
    by_cases c0 : o = 0
    · subst c0; exact sim_g hB hS hn hbn h1
    by_cases c10 : o = 10
    · subst c10
      obtain ⟨q1, q2, q3⟩ := r_nu_good (f := 1) (n := n) hB h0
      have l0 := hl.2.2.2.2.2 rfl
      have hm := tq_le (T := T) (t := t) q2
      exact sim_r hB hWR hD hW hlt hS hn hI hIo ⟨q1, fun _ => by dsimp only at hm; show 3 * (n + 1) ≤ _; omega⟩ h1
    by_cases c7 : o = 7
    · subst c7; exact sim_m hB hlt hS hn hbn h1
    obtain ⟨q1, q2, q3⟩ := r_ex_good (n := n) hB h0 (by show CS.length + 1 ≤ k + 1; omega)
    have hm := tq_le (T := T) (t := t) q2
    dsimp only at hm q3
    by_cases c9 : o = 9
    · subst c9
      have l0 := hl.2.2.2.2.1 rfl
      exact sim_w hB hWR hD hW hlt hS hn hI hIo ⟨q1, fun _ => by show 3 * (n + 1) ≤ _; omega⟩ h1
    by_cases c8 : o = 8
    · subst c8
      have l0 := hl.2.2.2.1 rfl
      exact sim_i hB hWR hD hW hlt hS hn hI hRo hIo ⟨q1, fun hh => by have := q3 hh; show 3 * (n + 1) ≤ _; omega⟩ h1
    exact sim_s hS hn hbn ⟨by omega, by omega⟩ h1
  generalize r_op (tK T t) (tV T t) p D row n o (true, k + 1, r_new p N n o ab, CS, n + 1) = r at hres he
  obtain ⟨ok2, k2, N2, CS2, n2⟩ := r
  obtain ⟨rfl, rfl, rfl, rfl, rfl, rfl⟩ : nI n = x ∧ ok2 = ok ∧ k2 = k' ∧ N2 = N' ∧ CS2 = CS' ∧ n2 = n' := by
    simp only [Prod.mk.injEq] at he
    exact he
  exact ⟨fun h => ⟨rfl, hres.1 h⟩, hres.2⟩
theorem sim_all {I : mm_I} {T : Nat → Int32} {t W p : Nat} (hB : tp_ok T t) (hWR : WR I T t W) : ∀ D bn, bn + D = 4 → OkW T t W p bn (r_row (tK T t) (tV T t) p D) := by
  intro D
  induction D with
  | zero =>
    intro bn hD
    exact sim_row hB hWR (fun ab S h h2 => (r_one_good hB.1 hB (fun q => absurd q (by decide)) h h2).1) (fun ab => sim_one hB hWR hD (fun q => absurd q (by decide)) (fun q => absurd q (by decide)) ab)
  | succ D ih =>
    intro bn hD
    exact sim_row hB hWR (fun ab S h h2 => (r_one_good hB.1 hB (fun _ => r_row_good hB.1 hB D) h h2).1) (fun ab => sim_one hB hWR hD (fun _ => r_row_good hB.1 hB D) (fun _ => ih (bn + 1) (by omega)) ab)
/-- both read alike -/
theorem sim_top {I : mm_I} {T : Nat → Int32} {t W p : Nat} {N Af Sf Bf : Nat → Int32} (hB : tp_ok T t) (hWR : WR I T t W) (hN : N (1226 + 418 * p) = 0) : ∀ y ok k' N' CS' n', r_row (tK T t) (tV T t) p 4 (-1) (true, 0, N, [], 0) = (y, ok, k', N', CS', n') →
    (ok = true ∧ tK T t k' = 400 → ∃ Af' a Sf' Bf', cl_run T t 97 (true, 0, true, 0, Af, 0, Sf, 0, Bf, 0) = (true, k', false, n', Af', a, Sf', CS'.length, Bf', 0) ∧ (∀ i, i < CS'.length → Sf' i = cs_ (CS'.getD i 0)) ∧ Fr p 0 N N' ∧ 0 < n' ∧ n' ≤ 32 ∧ 0 < a ∧ a ≤ 38 ∧ CS'.length ≤ 96 ∧ ∃ E lv : Nat → Nat, en N' p E 0 = 0 ∧ ∀ s, s < n' → gS N' p Af' E lv a CS' n' s) ∧
    (¬ (ok = true ∧ tK T t k' = 400) → (cl_run T t 97 (true, 0, true, 0, Af, 0, Sf, 0, Bf, 0)).1 = false ∧ (cl_run T t 97 (true, 0, true, 0, Af, 0, Sf, 0, Bf, 0)).2.1 = k') := by
  intro y ok k' N' CS' n' he
  have hI : cI T t W (true, 0, true, 0, Af, 0, Sf, ([] : List Nat).length, Bf, 0) := fun _ => ⟨Nat.zero_le _, Nat.le_refl _, Nat.zero_le _, Nat.zero_le _, fun i hi => absurd hi (Nat.not_lt_zero _)⟩
  have hr : r1_ T t p (true, 0, N, [], 0) := ⟨⟨Nat.zero_le _, Nat.le_refl _, hN, Nat.zero_le _⟩, fun _ => Nat.zero_le _⟩
  have hG := (r_row_good hB.1 hB 4 (-1) (true, 0, N, [], 0) rfl hr).1
  have h := sim_all (p := p) hB hWR 4 0 rfl (-1) 0 N [] 0 Af 0 Sf Bf hI hr (fun i hi => absurd hi (Nat.not_lt_zero _))
  rw [he] at h hG
  obtain ⟨h1, h2⟩ := h
  dsimp only at h1 h2 hG
  have hW96 := hWR.1
  cases ok with
  | true =>
    obtain ⟨e1, e2, A', a', S', B', hok, hgd⟩ := h1 rfl
    obtain ⟨p1, p2, p3, p4, p5, p6, p7, p8, p9, p10⟩ := hok
    have hI' := Rch_I hB hWR p1 hI
    have ha := cI_a hB hI'
    have hk := (hI' rfl).1
    have hsn := (hI' rfl).2.1
    obtain ⟨c, hc, hrun⟩ := Rch_run p1
    refine ⟨fun hh => ⟨A', a', S', B', ?_, p2, p5, p7, p10, p8, ha, by omega, ?_⟩, fun hh => ?_⟩
    · have := hrun (97 - c)
      rw [show 97 - c + c = 97 by omega] at this
      refine this.trans (cl_run_n ?_)
      exact fun q => q.2 ⟨hh.2, rfl, rfl⟩
    · obtain ⟨E, lv, he1, hg⟩ := hgd
      refine ⟨E, lv, he1, fun s hs => hg N' A' E lv a' n' CS' ⟨fun _ _ _ _ _ _ => rfl, fun _ _ _ => rfl, fun _ _ _ => ⟨rfl, rfl⟩, ⟨Nat.le_refl _, fun _ _ => rfl⟩, Nat.le_refl _, Nat.le_refl _, by omega⟩ (Or.inl rfl) ?_ s (Nat.zero_le _) hs⟩
      unfold EndB
      rw [if_pos (by decide)]
      exact LdP_0 _
    · have hne : ¬ tK T t k' = 400 := fun q => hh ⟨rfl, q⟩
      have := hrun (97 - c)
      rw [show 97 - c + c = 97 by omega] at this
      have e3 : cl_run T t 97 (true, 0, true, 0, Af, 0, Sf, 0, Bf, 0) = (false, k', false, n', A', a', S', CS'.length, B', 0) := by
        refine this.trans ?_
        rw [show 97 - c = (96 - c) + 1 by omega, cl_run_y ⟨rfl, fun q => hne q.1⟩, c_it_on (fun q => absurd q.2.1 (by omega)), c_on_n e2]
        exact cl_run_n (fun q => bFT q.1)
      rw [e3]
      exact ⟨rfl, rfl⟩
  | false =>
    obtain ⟨w1, cc, w2, w3, w4⟩ := h2 rfl
    obtain ⟨c, hc, hrun⟩ := Rch_run w4
    have hkt : k' ≤ 96 := Nat.le_trans hG.1.1 hB.1
    refine ⟨fun hh => absurd hh.1 bFT, fun _ => ?_⟩
    have := hrun (97 - c)
    rw [show 97 - c + c = 97 by omega] at this
    have e3 : cl_run T t 97 (true, 0, true, 0, Af, 0, Sf, 0, Bf, 0) = cc := this.trans (cl_run_n (fun q => absurd (w2.symm.trans q.1) bFT))
    rw [e3]
    exact ⟨w2, w3⟩
