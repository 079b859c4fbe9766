/-! BOTH READINGS ARE ALIKE: a row of steps -/
theorem GdR_1 {p : Nat} {ab : Int32} {n n' a a' l : Nat} {N' A' : Nat → Int32} {CS' : List Nat} (hn : n < n') (hn32 : n < 32) (h : Gd1 p ab n n' a a' l N' A' CS') : GdR p ab n n' a a' l N' A' CS' := by
  obtain ⟨h7, h6, E, lv, he, hg⟩ := h
  refine ⟨E, lv, he, fun N A E2 lv2 az nz CS hAg hab hE => ?_⟩
  obtain ⟨q1, q2, q3, q4, q5, q6, q7⟩ := hAg
  have hN : ∀ f, f < 8 → sf N p n f = sf N' p n f := fun f hf => q1 n f (Nat.le_refl _) hn hf (fun q => absurd q.1 (by decide))
  refine hg N A E2 lv2 az nz CS ⟨fun s f g1 g2 g3 _ => q1 s f g1 g2 g3 (fun q => absurd q.1 (by decide)), q2, q3, q4, q5, q6, q7⟩ hab (Or.inl ((hN 6 (by omega)).trans h6)) ?_
  unfold Bh
  rw [if_pos (by rw [hN 6 (by omega), h6]; decide), hN 7 (by omega), h7]
  unfold EndB at hE
  rcases hab with e | ⟨u, g1, g2, g3, g4⟩
  · subst e; exact hE
  · subst g2
    rw [if_neg (nI_p (by omega))] at hE ⊢
    rw [vv_nI (by omega)] at hE ⊢
    by_cases c : sf N p u 0 < 9
    · rw [if_pos c] at hE ⊢; exact Bh_m (Nat.le_refl _) _ _ _ _ (by omega) hE
    · rw [if_neg c] at hE ⊢; exact hE
theorem GdR_2 {p : Nat} {ab : Int32} {n n1 n' a a1 a' l : Nat} {N1 A1 N' A' : Nat → Int32} {CS1 CS' : List Nat} (hn : n < n1) (hn1 : n1 < n') (hn32 : n' ≤ 32) (ha : a < a1) (ha1 : a1 < a') (hN : ∀ s f, n ≤ s → s < n1 → f < 8 → ¬ (s = n ∧ f = 6) → sf N' p s f = sf N1 p s f) (h6' : sf N' p n 6 = nI n1) (hA : ∀ i, 3 * a ≤ i → i < 3 * a1 → A' i = A1 i) (hC : CS1.length ≤ CS'.length ∧ ∀ i, i < CS1.length → CS'.getD i 0 = CS1.getD i 0) (h : Gd1 p ab n n1 a a1 l N1 A1 CS1) (h2 : GdR p ab n1 n' a1 a' l N' A' CS') : GdR p ab n n' a a' l N' A' CS' := by
  obtain ⟨h7, h6, E, lv, he, hg⟩ := h
  obtain ⟨Ec, lvc, hce, hcg⟩ := h2
  refine ⟨fun s => if s < n1 then E s else Ec s, fun s => if s < n1 then lv s else lvc s, ?_, fun N A E2 lv2 az nz CS hAg hab hE => ?_⟩
  · rw [← he]; exact en_c (hN n 0 (Nat.le_refl _) hn (by omega) (by omega)) (if_pos hn)
  obtain ⟨q1, q2, q3, q4, q5, q6, q7⟩ := hAg
  have hN2 : ∀ s f, n ≤ s → s < n' → f < 8 → sf N p s f = sf N' p s f := fun s f g1 g2 g3 => q1 s f g1 g2 g3 (fun q => absurd q.1 (by decide))
  have hE1 : ∀ s, n ≤ s → s < n1 → E2 s = E s ∧ lv2 s = lv s := fun s g1 g2 => by
    have := q3 s (by omega) (by omega)
    dsimp only at this
    rw [if_pos g2, if_pos g2] at this
    exact this
  have hE2 : ∀ s, n1 ≤ s → s < n' → E2 s = Ec s ∧ lv2 s = lvc s := fun s g1 g2 => by
    have := q3 s (by omega) (by omega)
    dsimp only at this
    rw [if_neg (show ¬ s < n1 by omega), if_neg (show ¬ s < n1 by omega)] at this
    exact this
  intro s hs1 hs2
  by_cases c : s < n1
  · refine hg N A E2 lv2 az nz CS ⟨fun s f g1 g2 g3 g4 => (hN2 s f g1 (by omega) g3).trans (hN s f g1 g2 g3 (fun q => g4 ⟨rfl, q.1, q.2⟩)), fun i g1 g2 => (q2 i g1 (by omega)).trans (hA i g1 g2), hE1, ⟨Nat.le_trans hC.1 q4.1, fun i hi => (q4.2 i (by omega)).trans (hC.2 i hi)⟩, by omega, by omega, q7⟩ hab (Or.inr ⟨n1, hn, by omega, (hN2 n 6 (Nat.le_refl _) (by omega) (by omega)).trans h6'⟩) ?_ s hs1 c
    unfold Bh
    rw [if_neg (by rw [hN2 n 6 (Nat.le_refl _) (by omega) (by omega), h6']; exact nI_p (by omega)), hN2 n 6 (Nat.le_refl _) (by omega) (by omega), h6', vv_nI (by omega)]
    rw [show en N p E2 n1 = a1 by rw [← hce]; exact en_c (hN2 n1 0 (by omega) hn1 (by omega)) (hE2 n1 (Nat.le_refl _) hn1).1]
    exact LdP_0 _
  · refine hcg N A E2 lv2 az nz CS ⟨fun s f g1 g2 g3 _ => hN2 s f (by omega) g2 g3, fun i g1 g2 => q2 i (by omega) g2, hE2, q4, q5, q6, q7⟩ ?_ hE s (by omega) hs2
    rcases hab with e | ⟨u, g1, g2, g3, g4⟩
    · exact Or.inl e
    · exact Or.inr ⟨u, by omega, g2, g3, g4⟩
/-- the class comes along -/
def Ok_ (T : Nat → Int32) (t p k : Nat) (N : Nat → Int32) (CS : List Nat) (n : Nat) (fr : Bool) (Af : Nat → Int32) (a : Nat) (Sf Bf : Nat → Int32) (bn k' : Nat) (N' : Nat → Int32) (CS' : List Nat) (n' : Nat) (Af' : Nat → Int32) (a' : Nat) (Sf' Bf' : Nat → Int32) : Prop :=
  Rch T t (k' - k) (true, k, fr, n, Af, a, Sf, CS.length, Bf, bn) (true, k', false, n', Af', a', Sf', CS'.length, Bf', bn) ∧ (∀ i, i < CS'.length → Sf' i = cs_ (CS'.getD i 0)) ∧ (∀ i, i < bn → Bf' i = Bf i) ∧ (∀ i, i < 3 * a → Af' i = Af i) ∧ Fr p n N N' ∧ (CS.length ≤ CS'.length ∧ ∀ i, i < CS.length → CS'.getD i 0 = CS.getD i 0) ∧ n < n' ∧ a < a' ∧ k < k' ∧ n' ≤ 32
def Bd_ (T : Nat → Int32) (t k : Nat) (c : cS) (k' : Nat) : Prop := k ≤ k' ∧ ∃ c' : cS, c'.1 = false ∧ c'.2.1 = k' ∧ Rch T t (k' - k + 1) c c'
theorem Bd_t {T : Nat → Int32} {t k k1 k' : Nat} {c c1 : cS} (h : Rch T t (k1 - k) c c1) (hk : k ≤ k1) (h2 : Bd_ T t k1 c1 k') : Bd_ T t k c k' := by
  obtain ⟨g1, c', g2, g3, g4⟩ := h2
  exact ⟨by omega, c', g2, g3, Rch_m (Rch_t h g4) (by omega)⟩
def OkO (T : Nat → Int32) (t W p : Nat) (ab : Int32) (bn : Nat) (one : rS → Int32 × rS) : Prop := ∀ (k : Nat) (N : Nat → Int32) (CS : List Nat) (n : Nat) (fr : Bool) (Af : Nat → Int32) (a : Nat) (Sf Bf : Nat → Int32), cI T t W (true, k, fr, n, Af, a, Sf, CS.length, Bf, bn) → r1_ T t p (true, k, N, CS, n) → (∀ i, i < CS.length → Sf i = cs_ (CS.getD i 0)) → isW (tK T t k) → ∀ x ok k' N' CS' n', one (true, k, N, CS, n) = (x, ok, k', N', CS', n') →
  (ok = true → x = nI n ∧ ∃ Af' a' Sf' Bf', Ok_ T t p k N CS n fr Af a Sf Bf bn k' N' CS' n' Af' a' Sf' Bf' ∧ Gd1 p ab n n' a a' bn N' Af' CS') ∧ (ok = false → Bd_ T t k (true, k, fr, n, Af, a, Sf, CS.length, Bf, bn) k')
def OkL (T : Nat → Int32) (t W p : Nat) (ab : Int32) (bn : Nat) (k : Nat) (N : Nat → Int32) (CS : List Nat) (n : Nat) (fr : Bool) (Af : Nat → Int32) (a : Nat) (Sf Bf : Nat → Int32) (f : Int32) (r : Int32 × rS) : Prop :=
  (r.2.1 = true → r.1 = f ∧ ¬ isW (tK T t r.2.2.1) ∧ ∃ Af' a' Sf' Bf', Ok_ T t p k N CS n fr Af a Sf Bf bn r.2.2.1 r.2.2.2.1 r.2.2.2.2.1 r.2.2.2.2.2 Af' a' Sf' Bf' ∧ GdR p ab n r.2.2.2.2.2 a a' bn r.2.2.2.1 Af' r.2.2.2.2.1) ∧ (r.2.1 = false → Bd_ T t k (true, k, fr, n, Af, a, Sf, CS.length, Bf, bn) r.2.2.1)
theorem sim_lp {I : mm_I} {T : Nat → Int32} {t W p bn : Nat} {ab : Int32} (hB : tp_ok T t) (hWR : WR I T t W) {one : rS → Int32 × rS} (hG : ∀ S, S.1 = true → r1_ T t p S → r1_ T t p (one S).2) (hO : OkO T t W p ab bn one) : ∀ (m : Nat) (f l : Int32) (q k : Nat) (N : Nat → Int32) (CS : List Nat) (n : Nat) (fr : Bool) (Af : Nat → Int32) (a : Nat) (Sf Bf : Nat → Int32), 97 ≤ k + m → cI T t W (true, k, fr, n, Af, a, Sf, CS.length, Bf, bn) → r1_ T t p (true, k, N, CS, n) → (∀ i, i < CS.length → Sf i = cs_ (CS.getD i 0)) → isW (tK T t k) → (¬ f < 0 → l = nI q ∧ q < n) →
    OkL T t W p ab bn k (if f < 0 then N else sw p N q 6 (nI n)) CS n fr Af a Sf Bf (if f < 0 then nI n else f) (r_lp (tK T t) p one m f l (true, k, N, CS, n)) := by
  intro m
  induction m with
  | zero =>
    intro f l q k N CS n fr Af a Sf Bf hm hI
    have := (hI rfl).1
    have := hWR.1
    omega
  | succ m ih =>
    intro f l q k N CS n fr Af a Sf Bf hm hI hr hS hw hf
    have hr' := hG _ rfl hr
    have h1 := hO k N CS n fr Af a Sf Bf hI hr hS hw
    unfold r_lp
    generalize one (true, k, N, CS, n) = r at hr' h1
    obtain ⟨x, ok, k1, N1, CS1, n1⟩ := r
    obtain ⟨h2, h3⟩ := h1 x ok k1 N1 CS1 n1 rfl
    by_cases c : ok = true
    · subst c
      obtain ⟨ex, A1, a1, S1, B1, hok, hgd⟩ := h2 rfl
      subst ex
      obtain ⟨o1, o2, o3, o4, o5, o6, o7, o8, o9, o10⟩ := hok
      have hI1 := Rch_I hB hWR o1 hI
      have ef : ∀ y : Int32, r_nx p f l (y, true, k1, N1, CS1, n1) = (true, k1, (if f < 0 then N1 else sw p N1 q 6 y), CS1, n1) := fun y => by
        unfold r_nx
        by_cases c1 : f < 0
        · rw [if_pos c1, if_pos c1]
        · rw [if_neg c1, if_neg c1, (hf c1).1, vv_nI (by have := (hf c1).2; omega)]
          rfl
      have hFr : Fr p n (if f < 0 then N else sw p N q 6 (nI n)) (if f < 0 then N1 else sw p N1 q 6 (nI n)) := by
        by_cases c1 : f < 0
        · rw [if_pos c1, if_pos c1]; exact o5
        · rw [if_neg c1, if_neg c1]
          intro y hy
          unfold sw upd
          split
          · rfl
          · exact o5 y hy
      have hNN : ∀ s g, n ≤ s → s < n1 → g < 8 → sf (if f < 0 then N1 else sw p N1 q 6 (nI n)) p s g = sf N1 p s g := fun s g g1 g2 g3 => by
        by_cases c1 : f < 0
        · rw [if_pos c1]
        · rw [if_neg c1]; exact sw_n (by have := (hf c1).2; omega) (by omega) g3
      have hrn := r_nx_good (f := f) (l := l) hr'
      rw [ef] at hrn
      by_cases cw : isW (tK T t k1)
      · rw [if_pos (show ((nI n, true, k1, N1, CS1, n1) : Int32 × rS).2.1 = true ∧ isW (tK T t ((nI n, true, k1, N1, CS1, n1) : Int32 × rS).2.2.1) from ⟨rfl, cw⟩), ef]
        dsimp only
        have hff : ¬ (if f < 0 then nI n else f) < 0 := by
          split
          · exact nI_p (by omega)
          · assumption
        have h4 := ih (if f < 0 then nI n else f) (nI n) n k1 _ CS1 n1 false A1 a1 S1 B1 (by omega) hI1 hrn o2 cw (fun _ => ⟨rfl, o7⟩)
        rw [if_neg hff, if_neg hff] at h4
        generalize r_lp (tK T t) p one m (if f < 0 then nI n else f) (nI n) (true, k1, (if f < 0 then N1 else sw p N1 q 6 (nI n)), CS1, n1) = r2 at h4 ⊢
        obtain ⟨x2, ok2, k2, N2, CS2, n2⟩ := r2
        obtain ⟨h5, h6⟩ := h4
        refine ⟨fun ht => ?_, fun ht => Bd_t o1 (by omega) (h6 ht)⟩
        obtain ⟨e1, e2, A2, a2, S2, B2, hok2, hgd2⟩ := h5 ht
        dsimp only at e1 e2 hok2 hgd2 ⊢
        obtain ⟨p1, p2, p3, p4, p5, p6, p7, p8, p9, p10⟩ := hok2
        have hFs : ∀ s g, s < n1 → g < 8 → sf N2 p s g = sf (sw p (if f < 0 then N1 else sw p N1 q 6 (nI n)) n 6 (nI n1)) p s g := fun s g g1 g2 => Fr_s p5 g1 g2
        refine ⟨e1, e2, A2, a2, S2, B2, ⟨Rch_m (Rch_t o1 p1) (by omega), p2, fun i hi => (p3 i hi).trans (o3 i hi), fun i hi => (p4 i (by omega)).trans (o4 i hi), ?_, ⟨by omega, fun i hi => (p6.2 i (by omega)).trans (o6.2 i hi)⟩, by omega, by omega, by omega, p10⟩, ?_⟩
        · exact Fr_t hFr (Fr_t (Fr_sw (n := n) (Nat.le_refl _) (by omega) (by omega)) p5 (by omega)) (Nat.le_refl _)
        · refine GdR_2 (n1 := n1) (a1 := a1) o7 p7 p10 o8 p8 (fun s g g1 g2 g3 g4 => ?_) ?_ (fun i g1 g2 => p4 i g2) p6 hgd hgd2
          · rw [hFs s g g2 g3, sw_n g4 (by omega) g3, hNN s g g1 g2 g3]
          · rw [hFs n 6 o7 (by omega), sw_y]
      · rw [if_neg (show ¬ (((nI n, true, k1, N1, CS1, n1) : Int32 × rS).2.1 = true ∧ isW (tK T t ((nI n, true, k1, N1, CS1, n1) : Int32 × rS).2.2.1)) from fun q => cw q.2), ef]
        refine ⟨fun _ => ⟨rfl, cw, A1, a1, S1, B1, ⟨o1, o2, o3, o4, hFr, o6, o7, o8, o9, o10⟩, ?_⟩, fun h => absurd h (by show ¬ (true = false); decide)⟩
        exact GdR_c o7 hNN (fun i _ _ => rfl) ⟨Nat.le_refl _, fun _ _ => rfl⟩ (GdR_1 o7 (by omega) hgd)
    · have c' : ok = false := by cases ok; rfl; exact absurd rfl c
      rw [if_neg (show ¬ (((x, ok, k1, N1, CS1, n1) : Int32 × rS).2.1 = true ∧ isW (tK T t ((x, ok, k1, N1, CS1, n1) : Int32 × rS).2.2.1)) from fun q => c q.1)]
      exact ⟨fun h => absurd h c, fun _ => h3 c'⟩
