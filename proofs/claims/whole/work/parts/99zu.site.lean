/-! THE SITE as both have it -/
def pgA (M : mm_I) (p a : Nat) : Nat → Int32 := fun i => if i < 3 * a then M (54 + 5 * p) i else 0
/-- where MACHINES are in a PROGRAM -/
def plM (M : mm_I) (N : Nat → Int32) (n p nS a : Nat) (E lv : Nat → Nat) : Prop := ∀ m, m < n → N (630 + 40 * m + 6) = nI p → ∃ x, x ≤ 40 ∧ M (36 + 3 * m) 7 = nI x ∧ plR N (M (37 + 3 * m + 1)) m p E lv a (pgA M p a) nS x
def pgR (M : mm_I) (N : Nat → Int32) (n p : Nat) : Prop := ∃ nS, nS ≤ 32 ∧ N (1226 + 418 * p) = nI nS ∧ M (52 + 5 * p) 2 = nI nS ∧ (∀ s, s < nS → qs p nS N s) ∧ (0 < nS → ∃ a CS E lv, prW M N p nS a CS E lv ∧ plM M N n p nS a E lv) ∧ (nS = 0 → ∀ m, m < n → ¬ N (630 + 40 * m + 6) = nI p)
theorem prW_g {M : mm_I} {N : Nat → Int32} {p n a : Nat} {CS : List Nat} {E lv : Nat → Nat} (h : prW M N p n a CS E lv) : en N p E 0 = 0 ∧ ∀ s, s < n → gS N p (pgA M p a) E lv a CS n s := h.2.2.2.2.2.2.2 N (pgA M p a) (fun _ _ _ _ => rfl) (fun i hi => if_pos hi)
/-- cells of PROGRAM p and of MACHINES' places -/
abbrev pcA (n p b : Nat) : Prop := (52 + 5 * p ≤ b ∧ b ≤ 56 + 5 * p) ∨ (36 ≤ b ∧ b < 36 + 3 * n ∧ (b - 36) % 3 = 2)
theorem pgR_c {M M' : mm_I} {N N' : Nat → Int32} {n p : Nat} (h : pgR M N n p) (hn : n ≤ 5) (hp : p < 6) (hM : ∀ b, pcA n p b → M' b = M b) (h7 : ∀ m, m < n → M' (36 + 3 * m) 7 = M (36 + 3 * m) 7) (hN : ∀ y, (630 ≤ y ∧ y < 830 ∧ 6 ≤ (y - 630) % 40) ∨ 1226 ≤ y → N' y = N y) : pgR M' N' n p := by
  obtain ⟨nS, h1, h2, h3, h4, h5, h6⟩ := h
  have e54 : M' (54 + 5 * p) = M (54 + 5 * p) := hM _ (by omega)
  have eA : ∀ a, pgA M' p a = pgA M p a := fun a => by unfold pgA; rw [e54]
  refine ⟨nS, h1, (hN _ (by omega)).trans h2, by rw [hM _ (by omega)]; exact h3, fun s hs => qs_c (h4 s hs) (Nat.le_refl _) hs (fun s f _ _ => hN _ (by omega)), fun h0 => ?_, fun h0 m hm => by rw [hN _ (by omega)]; exact h6 h0 m hm⟩
  obtain ⟨a, CS, E, lv, w1, w2⟩ := h5 h0
  refine ⟨a, CS, E, lv, prW_c w1 h1 (by rw [hM _ (by omega)]) (fun i _ => by rw [hM _ (by omega)]) (by rw [hM _ (by omega)]) (fun i _ => by rw [hM _ (by omega)]) (fun x _ _ => hN x (by omega)), fun m hm hr => ?_⟩
  rw [hN _ (by omega)] at hr
  obtain ⟨x, x1, x2, x3⟩ := w2 m hm hr
  refine ⟨x, x1, (h7 m hm).trans x2, ?_⟩
  rw [eA, hM (37 + 3 * m + 1) (by omega)]
  exact plR_k (CS := CS) h1 hp (prW_g w1).2 x3 (fun y hy => hN y (by omega)) (fun _ _ => rfl)
def siR (M : mm_I) (N : Nat → Int32) (w h n l k o r T : Nat) : Prop := iV N w h n l k o r T ∧ sS (w * h) n l k o r M N ∧ ∀ p, p < 6 → pgR M N n p
theorem cN_oa {c n l k o r : Nat} {A : mm_I} {N : Nat → Int32} (hn : n ≤ 5) {a : Nat} (h : offC a) : cN c n l k o r A N a = A a := funext fun _ => cN_off hn h
/-- what ORDERS that come do to a MACHINE -/
def bgP (A A' : mm_I) (N N' : Nat → Int32) (m : Nat) : Prop := ((∀ j, j < 40 → N' (630 + 40 * m + j) = N (630 + 40 * m + j)) ∧ A' (36 + 3 * m) 7 = A (36 + 3 * m) 7 ∧ A' (37 + 3 * m + 1) = A (37 + 3 * m + 1)) ∨ ∃ p, p < 6 ∧ N' (630 + 40 * m + 6) = (if N (1226 + 418 * p) = 0 then -1 else nI p) ∧ N' (630 + 40 * m + 7) = 0 ∧ (∀ s, s < 32 → N' (630 + 40 * m + (8 + s)) = -1) ∧ A' (36 + 3 * m) 7 = 0
theorem oc_bg {J A : mm_I} {n o : Nat} (hn : n ≤ 5) (ho : o ≤ 12) (hO : mo_On (J 201) n o) {m : Nat} (hm : m < 5) : ∀ i, i ≤ o → bgP A (oA J A i) (J 201) ((oc J i).1 201) m := by
  have hO5 := On_O hO hn
  intro i
  induction i with
  | zero => intro _; exact Or.inl ⟨fun _ _ => rfl, rfl, rfl⟩
  | succ i ih =>
    intro hi
    have e := ih (by omega)
    have hle := oc_le (J := J) i
    obtain ⟨⟨q, hq, eq⟩, p, hp, ep⟩ := hO i (by omega)
    unfold oc oA
    by_cases c : J 201 (830 + 3 * i + 2) = J 201 7
    · rw [if_pos c, if_pos c, eq, ep, vv_nI (by omega), vv_nI (by omega)]
      show bgP A (bsA (oA J A i) q) (J 201) (op_begin (oc J i).1 q p 201) m
      by_cases z : m = q
      · subst z
        refine Or.inr ⟨p, hp, ?_, begin_7, fun s hs => begin_8 hs, bsA_7⟩
        rw [begin_6, oc_ne hO5 i (by omega) (by omega)]
      · rcases e with ⟨e1, e2, e3⟩ | ⟨p', p1, p2, p3, p4, p5⟩
        · exact Or.inl ⟨fun j hj => (begin_n (by omega)).trans (e1 j hj), by rw [bsA_n (by omega)]; exact e2, by rw [bsA_n (by omega)]; exact e3⟩
        · exact Or.inr ⟨p', p1, (begin_n (by omega)).trans p2, (begin_n (by omega)).trans p3, fun s hs => (begin_n (by omega)).trans (p4 s hs), by rw [bsA_n (by omega)]; exact p5⟩
    · rw [if_neg c, if_neg c]
      show bgP A (oA J A i) (J 201) (oc_mv (oc J i).1 (oc J i).2 (J 201 (830 + 3 * i + 0)) (J 201 (830 + 3 * i + 1)) (J 201 (830 + 3 * i + 2)) 201) m
      have hmv : ∀ y, y < 830 → oc_mv (oc J i).1 (oc J i).2 (J 201 (830 + 3 * i + 0)) (J 201 (830 + 3 * i + 1)) (J 201 (830 + 3 * i + 2)) 201 y = (oc J i).1 201 y := fun y hy => by
        unfold oc_mv; rw [up_201, up_201, up_201, upd_n (by omega), upd_n (by omega), upd_n (by omega)]
      rcases e with ⟨e1, e2, e3⟩ | ⟨p', p1, p2, p3, p4, p5⟩
      · exact Or.inl ⟨fun j hj => (hmv _ (by omega)).trans (e1 j hj), e2, e3⟩
      · exact Or.inr ⟨p', p1, (hmv _ (by omega)).trans p2, (hmv _ (by omega)).trans p3, fun s hs => (hmv _ (by omega)).trans (p4 s hs), p5⟩
/-- a PROGRAM, behind ORDERS that came -/
theorem pgR_bg {M M' : mm_I} {N N' : Nat → Int32} {n p : Nat} (h : pgR M N n p) (hn : n ≤ 5) (hp : p < 6) (hM : ∀ b, 52 + 5 * p ≤ b → b ≤ 56 + 5 * p → M' b = M b) (hN : ∀ y, 1226 ≤ y → N' y = N y) (hB : ∀ m, m < n → bgP M M' N N' m) : pgR M' N' n p := by
  obtain ⟨nS, h1, h2, h3, h4, h5, h6⟩ := h
  have e54 : M' (54 + 5 * p) = M (54 + 5 * p) := hM _ (by omega) (by omega)
  have eA : ∀ a, pgA M' p a = pgA M p a := fun a => by unfold pgA; rw [e54]
  refine ⟨nS, h1, (hN _ (by omega)).trans h2, by rw [hM _ (by omega) (by omega)]; exact h3, fun s hs => qs_c (h4 s hs) (Nat.le_refl _) hs (fun s f _ _ => hN _ (by omega)), fun h0 => ?_, fun h0 m hm hq => ?_⟩
  · obtain ⟨a, CS, E, lv, w1, w2⟩ := h5 h0
    refine ⟨a, CS, E, lv, prW_c w1 h1 (by rw [hM _ (by omega) (by omega)]) (fun i _ => by rw [hM _ (by omega) (by omega)]) (by rw [hM _ (by omega) (by omega)]) (fun i _ => by rw [hM _ (by omega) (by omega)]) (fun x _ _ => hN x (by omega)), fun m hm hr => ?_⟩
    rw [eA]
    have w3 := prW_g w1
    rcases hB m hm with ⟨e1, e2, e3⟩ | ⟨p', p1, p2, p3, p4, p5⟩
    · rw [e1 6 (by decide)] at hr
      obtain ⟨x, x1, x2, x3⟩ := w2 m hm hr
      refine ⟨x, x1, e2.trans x2, ?_⟩
      rw [e3]
      refine plR_k (CS := CS) h1 hp w3.2 x3 (fun y hy => ?_) (fun _ _ => rfl)
      by_cases z : y < 830
      · have := e1 (y - (630 + 40 * m)) (by omega)
        rw [show 630 + 40 * m + (y - (630 + 40 * m)) = y by omega] at this
        exact this
      · exact hN y (by omega)
    · refine ⟨0, by decide, p5, Or.inr ⟨0, [], p3, h0, ?_, fun u hu _ _ => p4 u hu, fun u hu => absurd hu (by simp), Or.inl ⟨p4 0 (by decide), ?_⟩⟩⟩
      · show sf N' p 0 7 = -1
        rw [show sf N' p 0 7 = sf N p 0 7 from hN _ (by omega)]
        rcases (w3.2 0 h0).2.2 with q | ⟨u, q, -⟩
        · exact q
        · exact absurd q (Nat.not_lt_zero _)
      · rw [show en N' p E 0 = en N p E 0 by unfold en; rw [show sf N' p 0 0 = sf N p 0 0 from hN _ (by omega)], w3.1]
        exact LdP_0 5
  · rcases hB m hm with ⟨e1, -, -⟩ | ⟨p', p1, p2, -⟩
    · rw [e1 6 (by decide)] at hq; exact h6 h0 m hm hq
    · rw [p2] at hq
      by_cases z : N (1226 + 418 * p') = 0
      · rw [if_pos z] at hq; exact nI_m hq.symm (by omega)
      · rw [if_neg z] at hq
        have := nI_j hq (by omega) (by omega)
        rw [this, h2, h0] at z; exact z rfl
