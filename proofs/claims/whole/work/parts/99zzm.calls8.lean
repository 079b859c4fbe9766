/-! Calls of the class, as the reference would do them: keep, back -/
theorem co_eq2 {N N' : Nat → Int32} : ∀ (f K : Nat), (∀ x, K ≤ x → x ≤ K + (co N f K).length → N' x = N x) → co N' f K = co N f K := by
  intro f
  induction f with
  | zero => intro K _; rfl
  | succ f ih =>
    intro K hx
    have e0 : N' K = N K := hx K (Nat.le_refl _) (Nat.le_add_right _ _)
    show (if N' K = 30000 then [] else vv (N' K) :: co N' f (K + 1)) = (if N K = 30000 then [] else vv (N K) :: co N f (K + 1))
    rw [e0]
    by_cases c : N K = 30000
    · rw [if_pos c, if_pos c]
    · rw [if_neg c, if_neg c, ih (K + 1) (fun x h1 h2 => hx x (by omega) ?_)]
      show x ≤ K + (if N K = 30000 then [] else vv (N K) :: co N f (K + 1)).length
      rw [if_neg c, List.length_cons]; omega
theorem vo_at_e2 {N N' : Nat → Int32} : ∀ (cs : List Nat) (K : Nat), (∀ x, K ≤ x → x ≤ K + cs.length → N' x = N x) → vo_at N K cs → vo_at N' K cs := by
  intro cs
  induction cs with
  | nil => intro K hx q; exact (hx K (Nat.le_refl _) (Nat.le_add_right _ _)).trans q
  | cons c cs ih => intro K hx q; exact ⟨(hx K (Nat.le_refl _) (Nat.le_add_right _ _)).trans q.1, q.2.1, ih (K + 1) (fun x h1 h2 => hx x (by omega) (by rw [List.length_cons]; omega)) q.2.2⟩
theorem mo_T_e2 {N N' : Nat → Int32} {p k : Nat} (hp : p < 6) (hN : ∀ x, 1226 ≤ x → x < 3734 → N' x = N x) (q : mo_T N p k) : mo_T N' p k := by
  have hk := q.1
  refine ⟨q.1, fun s hs => ?_⟩
  have e : ∀ f, f < 8 → sf N' p s f = sf N p s f := fun f hf => hN _ (by omega) (by omega)
  obtain ⟨q1, q2, q3, q4, q5, q6⟩ := q.2 s hs
  unfold mo_S
  rw [e 0 (by decide), e 1 (by decide), e 2 (by decide), e 3 (by decide), e 4 (by decide), e 5 (by decide), e 6 (by decide), e 7 (by decide)]
  refine ⟨q1, q2, q3, q4, fun hh => ?_, q6⟩
  obtain ⟨x, hx, ex, x1, x2, x3⟩ := q5 hh
  have ec : co N' 160 (1226 + 418 * p + 258 + x) = co N 160 (1226 + 418 * p + 258 + x) := co_eq2 160 _ (fun y h1 h2 => hN y (by omega) (by omega))
  refine ⟨x, hx, ex, ?_⟩
  unfold mo_X
  rw [ec]
  exact ⟨vo_at_e2 _ _ (fun y h1 h2 => hN y (by omega) (by omega)) x1, x2, x3⟩
set_option maxRecDepth 4000 in
theorem plR_d {N N' LF LF' Aa : Nat → Int32} {m p a nS x : Nat} {E lv : Nat → Nat} {CS : List Nat} (hn : nS ≤ 32) (hp : p < 6) (hm : m < 5) (hg : ∀ s, s < nS → gS N p Aa E lv a CS nS s) (hR : plR N LF m p E lv a Aa nS x) (hk : ∀ y, 630 ≤ y → y < 3734 → N' y = N y) (hL : ∀ j, j < 4 → LF' j = LF j) : plR N' LF' m p E lv a Aa nS x := by
  rcases hR with ⟨h1, h2⟩ | ⟨s, L, h1, h2⟩
  · exact Or.inl ⟨(hk _ (by omega) (by omega)).trans h1, h2⟩
  · refine Or.inr ⟨s, L, (hk _ (by omega) (by omega)).trans h1, plS_c h2 hn hp (fun y h1 h2 => hk y (by omega) (by omega)) (fun u hu => hk _ (by omega) (by omega)) (fun u hu h10 hh => ?_) hL⟩
    have hs := h2.1
    rcases hh with e | e
    · rw [e] at h10 ⊢; exact lv4 (hg s hs) h10
    · have := (ch_in hn hg L s hs h2.2.1 u e).1
      exact lv4 (hg u (by omega)) h10
theorem iV_d {N N' : Nat → Int32} {w h n l k o r T : Nat} (hV : iV N w h n l k o r T) (e : ∀ y, y < 3734 → N' y = N y) : iV N' w h n l k o r T := by
  have hr := iV_r hV
  obtain ⟨H1, H2, H3, ⟨h15, h16, h17, h18, h19⟩, ⟨hn, hl, hk, ho⟩, ⟨la, lb, hL⟩, h5, h6, hLo, hH, hY, hO, ⟨h7, hT7⟩, hR, hC⟩ := hV
  refine ⟨iT_e2 H1 hn (fun y hy => e y (by omega)), fun i hi => ?_, fun p hp => ?_, ⟨(e 15 (by omega)).trans h15, (e 16 (by omega)).trans h16, (e 17 (by omega)).trans h17, (e 18 (by omega)).trans h18, (e 19 (by omega)).trans h19⟩, ⟨hn, hl, hk, ho⟩, ⟨la, lb, (e 2 (by omega)).trans hL.1, (e 3 (by omega)).trans hL.2.1, hL.2.2⟩, by rw [e 5 (by omega)]; exact h5, by rw [e 6 (by omega)]; exact h6, fun i hi => by rw [e _ (by omega)]; exact hLo i hi, fun i hi => by rw [e _ (by omega)]; exact hH i hi, fun i hi => by rw [e _ (by omega)]; exact hY i hi, fun i hi => by rw [e _ (by omega), e _ (by omega)]; exact hO i hi, ⟨(e 7 (by omega)).trans h7, hT7⟩, fun i hi => by rw [e _ (by omega), e _ (by omega), e _ (by omega)]; exact hR i hi, fun j => by rw [rcnt_c _ (fun i hi => e _ (by omega))]; exact hC j⟩
  · rcases H2 i hi with z | ⟨p, k', p1, p2, p3, p4, p5⟩
    · exact Or.inl ((e _ (by omega)).trans z)
    · exact Or.inr ⟨p, k', p1, (e _ (by omega)).trans p2, (e _ (by omega)).trans p3, mo_T_e2 p1 (fun x _ h2 => e x h2) p4, by rw [e _ (by omega)]; exact p5⟩
  · obtain ⟨k', k1, k2⟩ := H3 p hp
    exact ⟨k', (e _ (by omega)).trans k1, mo_T_e2 hp (fun x _ h2 => e x h2) k2⟩
theorem bcm {L : List (Nat × Nat × Nat)} {x i u v : Nat} (hq : (x, u, v) ∈ L) (h1 : u ≤ i) (h2 : i < v) : bcL L x i = true := by
  unfold bcL
  rw [List.any_eq_true]
  exact ⟨_, hq, by simp [h1, h2]⟩
theorem mcs_in {q : Nat × Nat × Nat} {m : Nat} (hq : q ∈ mcL m) : ∀ n, m < n → q ∈ mcs n := by
  intro n
  induction n with
  | zero => intro hm; exact absurd hm (Nat.not_lt_zero _)
  | succ n ih =>
    intro hm
    show q ∈ mcL n ++ mcs n
    by_cases e : m = n
    · subst e; exact List.mem_append_left _ hq
    · exact List.mem_append_right _ (ih (by omega))
theorem pcs_in {q : Nat × Nat × Nat} {m : Nat} (hq : q ∈ pcL m) : ∀ n, m < n → q ∈ pcs n := by
  intro n
  induction n with
  | zero => intro hm; exact absurd hm (Nat.not_lt_zero _)
  | succ n ih =>
    intro hm
    show q ∈ pcL n ++ pcs n
    by_cases e : m = n
    · subst e; exact List.mem_append_left _ hq
    · exact List.mem_append_right _ (ih (by omega))
/-! all that is copied: all that counts -/
set_option maxRecDepth 4000 in
theorem siR_d {M M' : mm_I} {N N' : Nat → Int32} {w h n l k o r T : Nat} (Hr : siR M N w h n l k o r T) (hC : ∀ x i, x < 85 → bcL (siL n) x i = true → M' (1 + x) i = M (1 + x) i) (hN : ∀ y, y < 3734 → N' y = N y) : siR M' N' w h n l k o r T := by
  have hz := iV_z Hr.1
  obtain ⟨hz1, hz2, hz3, hz4, hz5, hz6⟩ := id hz
  have Hs := Hr.2.1
  have hfix : ∀ q, q ∈ ((83, 1, 2) :: (83 + 1, 0, 300) :: (81, 1, 2) :: (81 + 1, 0, 36) :: ((0, 4, 5) :: (woL ++ (poL ++ (grL ++ []))))) → q ∈ siL n := fun q hq => by
    unfold siL
    simp only [List.mem_cons, List.mem_append] at hq ⊢
    rcases hq with z | z | z | z | z
    · exact Or.inl z
    · exact Or.inr (Or.inl z)
    · exact Or.inr (Or.inr (Or.inl z))
    · exact Or.inr (Or.inr (Or.inr (Or.inl z)))
    · exact Or.inr (Or.inr (Or.inr (Or.inr (Or.inr (Or.inr z)))))
  have fx : ∀ x u v, (x, u, v) ∈ ((83, 1, 2) :: (83 + 1, 0, 300) :: (81, 1, 2) :: (81 + 1, 0, 36) :: ((0, 4, 5) :: (woL ++ (poL ++ (grL ++ []))))) → x < 85 → ∀ i, u ≤ i → i < v → M' (1 + x) i = M (1 + x) i := fun x u v hq hx i h1 h2 => hC x i hx (bcm (hfix _ hq) h1 h2)
  have fm : ∀ m, m < n → (∀ i, i < 8 → M' (36 + 3 * m) i = M (36 + 3 * m) i) ∧ ∀ i, i < 4 → M' (37 + 3 * m + 1) i = M (37 + 3 * m + 1) i := fun m hm => by
    have hin : ∀ q, q ∈ mcL m → q ∈ siL n := fun q hq => by
      unfold siL
      simp only [List.mem_cons, List.mem_append]
      exact Or.inr (Or.inr (Or.inr (Or.inr (Or.inr (Or.inl (mcs_in hq n hm))))))
    constructor
    · intro i hi
      have e := hC (35 + 3 * m) i (by omega) (bcm (u := i) (v := i + 1) (hin _ (by
        unfold mcL
        rcases show i = 0 ∨ i = 1 ∨ i = 2 ∨ i = 3 ∨ i = 4 ∨ i = 5 ∨ i = 6 ∨ i = 7 by omega with z | z | z | z | z | z | z | z <;> subst z <;> simp)) (Nat.le_refl _) (by omega))
      rw [show 1 + (35 + 3 * m) = 36 + 3 * m by omega] at e
      exact e
    · intro i hi
      have e := hC (36 + 3 * m + 1) i (by omega) (bcm (u := 0) (v := 4) (hin _ (by unfold mcL; simp)) (Nat.zero_le _) hi)
      rw [show 1 + (36 + 3 * m + 1) = 37 + 3 * m + 1 by omega] at e
      exact e
  have fp : ∀ p, p < 6 → ∀ x u v, (x, u, v) ∈ pcL p → x < 85 → ∀ i, u ≤ i → i < v → M' (1 + x) i = M (1 + x) i := fun p hp x u v hq hx i h1 h2 => hC x i hx (bcm (show (x, u, v) ∈ siL n by
    unfold siL
    simp only [List.mem_cons, List.mem_append]
    exact Or.inr (Or.inr (Or.inr (Or.inr (Or.inl (pcs_in hq 6 hp)))))) h1 h2)
  refine ⟨iV_d Hr.1 hN, ?_, fun p hp => ?_⟩
  · refine sS.mk ?_ ?_ ?_ ?_ (fun i hi => ?_) (fun i hi => ?_) (fun i hi => ?_) (fun y hy => ?_) (fun y j hy hj hh => ?_) (fun i hi => ?_) ?_ (fun i hi => ?_) ?_ ?_ (fun i hi => ?_) (fun i hi => ?_) (fun i hi => ?_) (fun i hi => ?_) (fun i hi => ?_) (fun i hi => ?_) (fun m i hm hi => ?_) (fun i hi => ?_) (fun i hi => ?_) (fun a ha => ?_) (fun a ha => ?_) ?_ ?_ ?_
    · rw [hN _ (by omega)]; exact (fx (1) 0 1 (by simp [woL, poL, grL]) (by decide) (0) (by omega) (by omega)).trans (Hs.w)
    · rw [hN _ (by omega)]; exact (fx (1) 1 2 (by simp [woL, poL, grL]) (by decide) (1) (by omega) (by omega)).trans (Hs.h)
    · rw [hN _ (by omega)]; exact (fx (1) 7 8 (by simp [woL, poL, grL]) (by decide) (7) (by omega) (by omega)).trans (Hs.fu)
    · rw [hN _ (by omega)]; exact (fx (1) 8 9 (by simp [woL, poL, grL]) (by decide) (8) (by omega) (by omega)).trans (Hs.lo)
    · rw [hN _ (by omega)]; exact (fx (2 + 1) 0 80 (by simp [woL, poL, grL]) (by decide) (i) (by omega) (by omega)).trans (Hs.ki i hi)
    · rw [hN _ (by omega)]; exact (fx (4 + 1) 0 80 (by simp [woL, poL, grL]) (by decide) (i) (by omega) (by omega)).trans (Hs.du i hi)
    · rw [hN _ (by omega)]; exact (fx (6 + 1) 0 80 (by simp [woL, poL, grL]) (by decide) (i) (by omega) (by omega)).trans (Hs.ic i hi)
    · rw [hN _ (by omega)]; exact (fx (8 + 1) 0 320 (by simp [woL, poL, grL]) (by decide) (4 * y + 3) (by omega) (by omega)).trans (Hs.se y hy)
    · rw [hN _ (by omega)] at hh; rw [hN _ (by omega)]; exact (fx (8 + 1) 0 320 (by simp [woL, poL, grL]) (by decide) (4 * y + j) (by omega) (by omega)).trans (Hs.sf y j hy hj hh)
    · rw [hN _ (by omega)]; exact (fx (10 + 1) 0 3 (by simp [woL, poL, grL]) (by decide) (i) (by omega) (by omega)).trans (Hs.st i hi)
    · rw [hN _ (by omega)]; exact (fx (16) 0 1 (by simp [woL, poL, grL]) (by decide) (0) (by omega) (by omega)).trans (Hs.p0)
    · rw [hN _ (by omega)]
      refine Eq.trans ?_ (Hs.p1 i hi)
      rcases show i = 0 ∨ i = 1 ∨ i = 2 ∨ i = 3 ∨ i = 4 by omega with z | z | z | z | z <;> subst z
      · exact (fx (16) 1 2 (by simp [woL, poL, grL]) (by decide) (1) (by omega) (by omega))
      · exact (fx (16) 2 3 (by simp [woL, poL, grL]) (by decide) (2) (by omega) (by omega))
      · exact (fx (16) 3 4 (by simp [woL, poL, grL]) (by decide) (3) (by omega) (by omega))
      · exact (fx (16) 4 5 (by simp [woL, poL, grL]) (by decide) (4) (by omega) (by omega))
      · exact (fx (16) 5 6 (by simp [woL, poL, grL]) (by decide) (5) (by omega) (by omega))
    · rw [hN _ (by omega)]; exact (fx (16) 6 7 (by simp [woL, poL, grL]) (by decide) (6) (by omega) (by omega)).trans (Hs.p6)
    · rw [hN _ (by omega)]; exact (fx (16) 7 8 (by simp [woL, poL, grL]) (by decide) (7) (by omega) (by omega)).trans (Hs.p7)
    · rw [hN _ (by omega)]; exact (fx (17 + 1) 0 8 (by simp [woL, poL, grL]) (by decide) (i) (by omega) (by omega)).trans (Hs.l0 i hi)
    · rw [hN _ (by omega)]; exact (fx (19 + 1) 0 8 (by simp [woL, poL, grL]) (by decide) (i) (by omega) (by omega)).trans (Hs.l1 i hi)
    · rw [hN _ (by omega)]; exact (fx (22 + 1) 0 6 (by simp [woL, poL, grL]) (by decide) (i) (by omega) (by omega)).trans (Hs.k0 i hi)
    · rw [hN _ (by omega)]; exact (fx (24 + 1) 0 6 (by simp [woL, poL, grL]) (by decide) (i) (by omega) (by omega)).trans (Hs.k1 i hi)
    · rw [hN _ (by omega)]; exact (fx (26 + 1) 0 6 (by simp [woL, poL, grL]) (by decide) (i) (by omega) (by omega)).trans (Hs.k2 i hi)
    · rw [hN _ (by omega)]; exact (fx (28 + 1) 0 6 (by simp [woL, poL, grL]) (by decide) (i) (by omega) (by omega)).trans (Hs.k3 i hi)
    · rw [hN _ (by omega)]; exact ((fm m hm).1 i (by omega)).trans (Hs.m m i hm hi)
    · rw [hN _ (by omega)]; exact (fx (81 + 1) 0 36 (by simp [woL, poL, grL]) (by decide) (i) (by omega) (by omega)).trans (Hs.o0 i hi)
    · rw [hN _ (by omega)]; exact (fx (83 + 1) 0 300 (by simp [woL, poL, grL]) (by decide) (i) (by omega) (by omega)).trans (Hs.r0 i hi)
    · refine Eq.trans ?_ (Hs.cl a ha)
      rcases ha with z | z <;> subst z
      · exact (fx (17) 1 2 (by simp [woL, poL, grL]) (by decide) (1) (by omega) (by omega))
      · exact (fx (19) 1 2 (by simp [woL, poL, grL]) (by decide) (1) (by omega) (by omega))
    · refine Eq.trans ?_ (Hs.ck a ha)
      rcases ha with z | z | z | z <;> subst z
      · exact (fx (22) 1 2 (by simp [woL, poL, grL]) (by decide) (1) (by omega) (by omega))
      · exact (fx (24) 1 2 (by simp [woL, poL, grL]) (by decide) (1) (by omega) (by omega))
      · exact (fx (26) 1 2 (by simp [woL, poL, grL]) (by decide) (1) (by omega) (by omega))
      · exact (fx (28) 1 2 (by simp [woL, poL, grL]) (by decide) (1) (by omega) (by omega))
    · exact (fx (81) 1 2 (by simp [woL, poL, grL]) (by decide) (1) (by omega) (by omega)).trans Hs.co
    · exact (fx (83) 1 2 (by simp [woL, poL, grL]) (by decide) (1) (by omega) (by omega)).trans Hs.cr
    · exact (fx (0) 4 5 (by simp [woL, poL, grL]) (by decide) (4) (by omega) (by omega)).trans Hs.cn
  · obtain ⟨nS, h1, h2, h3, h4, h5, h6⟩ := Hr.2.2 p hp
    have e52 : M' (52 + 5 * p) 2 = M (52 + 5 * p) 2 := by have e := (fp p hp (51 + 5 * p) 2 3 (by unfold pcL; simp) (by omega) (2) (by omega) (by omega)); rw [show 1 + (51 + 5 * p) = 52 + 5 * p by omega] at e; exact e
    have e53 : M' (53 + 5 * p) 1 = M (53 + 5 * p) 1 := by have e := (fp p hp (52 + 5 * p) 1 2 (by unfold pcL; simp) (by omega) (1) (by omega) (by omega)); rw [show 1 + (52 + 5 * p) = 53 + 5 * p by omega] at e; exact e
    have e54 : ∀ i, i < 120 → M' (54 + 5 * p) i = M (54 + 5 * p) i := fun i hi => by have e := (fp p hp (52 + 5 * p + 1) 0 120 (by unfold pcL; simp) (by omega) (i) (by omega) (by omega)); rw [show 1 + (52 + 5 * p + 1) = 54 + 5 * p by omega] at e; exact e
    have e55 : M' (55 + 5 * p) 1 = M (55 + 5 * p) 1 := by have e := (fp p hp (54 + 5 * p) 1 2 (by unfold pcL; simp) (by omega) (1) (by omega) (by omega)); rw [show 1 + (54 + 5 * p) = 55 + 5 * p by omega] at e; exact e
    have e56 : ∀ i, i < 96 → M' (56 + 5 * p) i = M (56 + 5 * p) i := fun i hi => by have e := (fp p hp (54 + 5 * p + 1) 0 96 (by unfold pcL; simp) (by omega) (i) (by omega) (by omega)); rw [show 1 + (54 + 5 * p + 1) = 56 + 5 * p by omega] at e; exact e
    refine ⟨nS, h1, (hN _ (by omega)).trans h2, e52.trans h3, fun s hs => qs_c (h4 s hs) (Nat.le_refl _) hs (fun s f hs hf => hN _ (by omega)), fun h0 => ?_, fun h0 m hm => by rw [hN _ (by omega)]; exact h6 h0 m hm⟩
    obtain ⟨a, CS, E, lv, w1, w2⟩ := h5 h0
    have ha := w1.2.1
    have eA : pgA M' p a = pgA M p a := by
      funext i
      unfold pgA
      by_cases z : i < 3 * a
      · rw [if_pos z, if_pos z]; exact e54 i (by omega)
      · rw [if_neg z, if_neg z]
    refine ⟨a, CS, E, lv, prW_c w1 h1 e53 e54 e55 e56 (fun x _ _ => hN x (by omega)), fun m hm hr => ?_⟩
    rw [hN _ (by omega)] at hr
    obtain ⟨x, x1, x2, x3⟩ := w2 m hm hr
    refine ⟨x, x1, ((fm m hm).1 7 (by decide)).trans x2, ?_⟩
    rw [eA]
    exact plR_d (CS := CS) h1 hp (by omega) (prW_g w1).2 x3 (fun y _ h2 => hN y h2) (fun j hj => (fm m hm).2 j hj)
theorem cp_in {I : mm_I} {a b i : Nat} (hi : i < 3734) : mm_cp I a b 0 0 3734 b i = I a i := by
  unfold mm_cp; rw [if_pos rfl, if_pos ⟨Nat.zero_le _, by omega⟩]; congr 1; omega
set_option maxRecDepth 100000 in
theorem cb_keep {g : mm_G} {d : Nat} {I : mm_I} {n : Nat} (hn : I 1 4 = nI n) (hn5 : n ≤ 5) (hd : 5 ≤ d) : mm_Ci g zX11_keep d [.ref 0] sh_S I (I 17 0) (mm_up (bcK I 86 1 (siL n)) 0 2 1) := by
  refine mm_Ci_of (fun Q hq => ?_)
  refine mm_begin (ls := [(0, .ref 0)]) (Nat.le_of_ble_eq_true rfl) rfl rfl ?_
  refine mm_aload_n 0 dX11_keep_0 rfl rfl ?_
  refine mm_getr (b := 86) dX11_keep_1 rfl fk_X11_16 rfl so_0 sr_0_1 ?_
  refine mm_aload_n 0 dX11_keep_4 rfl rfl ?_
  refine mm_getr (b := 1) dX11_keep_5 rfl fk_X11_10 rfl so_0 sr_0_0 ?_
  refine mm_cV1v (dz := d - 1) dX11_keep_8 rfl mzX8_become ml_X11_335 imX8_become (by omega) so_86 ⟨rfl, rfl⟩ (bg_si86 hn hn5 (by omega)) (Nat.le_of_ble_eq_true rfl) ⟨Nat.le_refl _, Nat.le_refl _⟩ ?_
  refine mm_aload_n 0 dX11_keep_11 rfl rfl ?_
  refine mm_iconst (v := 1) dX11_keep_12 rfl ?_
  refine mm_putz dX11_keep_13 rfl fk_X11_19 rfl fv_11_2 (by decide) so_0 ?_
  refine mm_at (pc' := 16) rfl ?_
  refine mm_aload_n 0 dX11_keep_16 rfl rfl ?_
  refine mm_getr (b := 1) dX11_keep_17 rfl fk_X11_10 rfl so_0 sr_0_0 ?_
  refine mm_getr (b := 17) dX11_keep_20 rfl fk_X11_158 rfl so_1 sr_1_1 ?_
  refine mm_geti dX11_keep_23 rfl fk_X11_174 rfl so_17 ?_
  refine mm_top (v := I 17 0) (by rw [mm_up_ne (by decide)]; exact bcK_o (by omega)) ?_
  refine mm_iret dX11_keep_26 rfl ⟨Nat.le_refl _, Nat.le_refl _⟩ ?_
  exact hq
set_option maxRecDepth 100000 in
theorem cb_back0 {g : mm_G} {d : Nat} {I : mm_I} (h0 : I 0 2 = 0) : mm_Ci g zX11_back d [.ref 0] sh_S I (-1000000002) I := by
  refine mm_Ci_of (fun Q hq => ?_)
  refine mm_begin (ls := [(0, .ref 0)]) (Nat.le_of_ble_eq_true rfl) rfl rfl ?_
  refine mm_aload_n 0 dX11_back_0 rfl rfl ?_
  refine mm_geti dX11_back_1 rfl fk_X11_19 rfl so_0 ?_
  refine mm_top (v := 0) h0 ?_
  refine mm_if_ne (tgt := 10) dX11_back_4 (by decide) (fun q => absurd rfl q) (fun _ => ?_)
  refine mm_ldc dX11_back_7 rfl kc_X11_90 ?_
  refine mm_iret dX11_back_9 rfl ⟨Nat.le_refl _, Nat.le_refl _⟩ ?_
  exact hq
set_option maxRecDepth 100000 in
theorem cb_back1 {g : mm_G} {d : Nat} {I : mm_I} {n : Nat} (h0 : I 0 2 = 1) (hn : I 86 4 = nI n) (hn5 : n ≤ 5) (hd : 5 ≤ d) : mm_Ci g zX11_back d [.ref 0] sh_S I (bcK I 1 86 (siL n) 17 0) (bcK I 1 86 (siL n)) := by
  refine mm_Ci_of (fun Q hq => ?_)
  refine mm_begin (ls := [(0, .ref 0)]) (Nat.le_of_ble_eq_true rfl) rfl rfl ?_
  refine mm_aload_n 0 dX11_back_0 rfl rfl ?_
  refine mm_geti dX11_back_1 rfl fk_X11_19 rfl so_0 ?_
  refine mm_top (v := 1) h0 ?_
  refine mm_if_ne (tgt := 10) dX11_back_4 (by decide) (fun _ => ?_) (fun q => absurd q (by decide))
  refine mm_aload_n 0 dX11_back_10 rfl rfl ?_
  refine mm_getr (b := 1) dX11_back_11 rfl fk_X11_10 rfl so_0 sr_0_0 ?_
  refine mm_aload_n 0 dX11_back_14 rfl rfl ?_
  refine mm_getr (b := 86) dX11_back_15 rfl fk_X11_16 rfl so_0 sr_0_1 ?_
  refine mm_cV1v (dz := d - 1) dX11_back_18 rfl mzX8_become ml_X11_335 imX8_become (by omega) so_1 ⟨rfl, rfl⟩ (bg_si1 hn hn5 (by omega)) (Nat.le_of_ble_eq_true rfl) ⟨Nat.le_refl _, Nat.le_refl _⟩ ?_
  refine mm_aload_n 0 dX11_back_21 rfl rfl ?_
  refine mm_getr (b := 1) dX11_back_22 rfl fk_X11_10 rfl so_0 sr_0_0 ?_
  refine mm_getr (b := 17) dX11_back_25 rfl fk_X11_158 rfl so_1 sr_1_1 ?_
  refine mm_geti dX11_back_28 rfl fk_X11_174 rfl so_17 ?_
  refine mm_iret dX11_back_31 rfl ⟨Nat.le_refl _, Nat.le_refl _⟩ ?_
  exact hq
theorem cl_keep {g : mm_G} {d : Nat} {I : mm_I} {w h n l k o r T : Nat} (H : RC I) (hS : siR I (I 201) w h n l k o r T) (hd : 160 ≤ d) : mm_Di g zX11_keep d [.ref 0] sh_S I (St I (op_keep I)) := by
  have hz := iV_z hS.1
  have q := cb_keep (g := g) (d := d) (I := I) hS.2.1.cn hz.2.1 (by omega)
  have hK : ∀ a, ¬ (a = 0 ∨ (86 ≤ a ∧ a < 171)) → mm_up (bcK I 86 1 (siL n)) 0 2 1 a = I a := fun a ha => by
    rw [mm_up_a (by omega)]; funext i; exact bcK_o (by omega)
  have hJ : ∀ a, ¬ (a = 200 ∨ a = 202) → mm_up (mm_cp I 201 202 0 0 3734) 200 2 1 a = I a := fun a ha => by rw [mm_up_a (by omega), cp_a (by omega)]
  have h2 : ∀ i, ¬ i = 2 → mm_up (mm_cp I 201 202 0 0 3734) 200 2 1 200 i = I 200 i := fun i hi => by rw [mm_up_ni hi, cp_a (by decide)]
  obtain ⟨-, -, ⟨t, tp⟩, ⟨t2, wt⟩, s, f⟩ := H
  refine mm_Ci_Di q ⟨fun a ha => hK a (by omega), hS.2.1.p0, ⟨w, h, n, l, k, o, r, T, ?_⟩, Or.inr ⟨mm_up_at, show mm_up (mm_cp I 201 202 0 0 3734) 200 2 1 200 2 = 1 from mm_up_at, w, h, n, l, k, o, r, T, ?_⟩, ⟨t, tpR_c tp (by rw [hK 174 (by omega)]) (hK 175 (by omega)) (h2 4 (by decide)) (hJ 203 (by decide))⟩, ⟨t2, wtR_c wt (by rw [hK 191 (by omega)]) (hK 192 (by omega)) (h2 5 (by decide)) (hJ 204 (by decide))⟩, shR_c s (fun a h1 h2 => hK a (by omega)) (hJ 205 (by decide)) (hJ 206 (by decide)), pl_c f (hJ 205 (by decide))⟩
  · show siR _ (mm_up (mm_cp I 201 202 0 0 3734) 200 2 1 201) w h n l k o r T
    rw [hJ 201 (by decide)]
    exact siR_c hS (fun a h1 h2 => hK a (by omega))
  · show siR _ (mm_up (mm_cp I 201 202 0 0 3734) 200 2 1 202) w h n l k o r T
    refine siR_d hS (fun x i hx hb => ?_) (fun y hy => ?_)
    · show mm_up (bcK I 86 1 (siL n)) 0 2 1 (1 + x + 85) i = I (1 + x) i
      rw [mm_up_ne (by omega), show 1 + x + 85 = 86 + x by omega]
      exact bcK_i hx hb
    · rw [mm_up_ne (by decide)]; exact cp_in hy
theorem cl_back {g : mm_G} {d : Nat} {I : mm_I} {w h n l k o r T : Nat} (H : RC I) (hS : siR I (I 201) w h n l k o r T) (hd : 160 ≤ d) : mm_Di g zX11_back d [.ref 0] sh_S I (St I (op_back I)) := by
  have Hi := H.2.1
  rcases Hi with ⟨a, b⟩ | ⟨a, b, w', h', n', l', k', o', r', T', s'⟩
  · have q := cb_back0 (g := g) (d := d) a
    have e : op_back I = (-1000000002, I) := by unfold op_back; rw [if_pos b]
    rw [e]; exact mm_Ci_Di q (St_id H)
  · have hz := iV_z s'.1
    have q := cb_back1 (g := g) (d := d) (I := I) a s'.2.1.cn hz.2.1 (by omega)
    have e : op_back I = (I 202 7, mm_cp I 202 201 0 0 3734) := by unfold op_back; rw [if_neg (by rw [b]; decide)]
    rw [e]
    have hK : ∀ a, ¬ (1 ≤ a ∧ a < 86) → bcK I 1 86 (siL n') a = I a := fun a ha => by funext i; exact bcK_o (by omega)
    have hsi : siR (bcK I 1 86 (siL n')) (mm_cp I 202 201 0 0 3734 201) w' h' n' l' k' o' r' T' := by
      refine siR_d s' (fun x i hx hb => ?_) (fun y hy => cp_in hy)
      show bcK I 1 86 (siL n') (1 + x) i = I (1 + x + 85) i
      rw [bcK_i hx hb, show 86 + x = 1 + x + 85 by omega]
    refine mm_Ci_Di q ⟨fun a ha => hK a (by omega), ?_, RC_now H (fun a ha => hK a (by omega)) (outJ_a (fun a h1 h2 => cp_a h2)) hsi⟩
    rw [hsi.2.1.p0]; exact cp_in (by decide)
