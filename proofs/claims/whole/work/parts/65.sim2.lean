/-! BOTH READINGS ARE ALIKE: what is said of a piece -/
def Fr (p n : Nat) (N N' : Nat → Int32) : Prop := ∀ x, x < 1226 + 418 * p ∨ (1226 + 418 * p < x ∧ x < 1226 + 418 * p + 1 + 8 * n) ∨ 1226 + 418 * p + 257 ≤ x → N' x = N x
theorem Fr_t {p n m : Nat} {N N' N2 : Nat → Int32} (h : Fr p n N N') (h2 : Fr p m N' N2) (hm : n ≤ m) : Fr p n N N2 := fun x hx => by
  rw [h2 x (by omega), h x hx]
theorem Fr_s {p n s f : Nat} {N N' : Nat → Int32} (h : Fr p n N N') (hs : s < n) (hf : f < 8) : sf N' p s f = sf N p s f := h _ (by omega)
theorem Fr_sw {p n s f : Nat} {N : Nat → Int32} {v : Int32} (hs : n ≤ s) (hf : f < 8) (h32 : s < 32) : Fr p n N (sw p N s f v) := fun x hx => by
  unfold sw upd; rw [if_neg (by omega)]
theorem Fr_new {p n o : Nat} {N : Nat → Int32} {ab : Int32} (h32 : n < 32) : Fr p n N (r_new p N n o ab) := fun x hx => by
  unfold r_new sw upd; rw [if_neg (by omega), if_neg (by omega), if_neg (by omega), if_neg (by omega), if_neg (by omega), if_neg (by omega)]
theorem sw_y {p s f : Nat} {N : Nat → Int32} {v : Int32} : sf (sw p N s f v) p s f = v := by
  show upd N _ v _ = v; unfold upd; rw [if_pos rfl]
theorem sw_n {p s f s' f' : Nat} {N : Nat → Int32} {v : Int32} (h : ¬ (s' = s ∧ f' = f)) (hf : f < 8) (hf' : f' < 8) : sf (sw p N s f v) p s' f' = sf N p s' f' := by
  show upd N _ v _ = _; unfold upd; rw [if_neg (by omega)]
theorem new_0 {p n o : Nat} {N : Nat → Int32} {ab : Int32} : sf (r_new p N n o ab) p n 0 = nI o := by
  unfold r_new; rw [sw_n (by omega) (by omega) (by omega), sw_n (by omega) (by omega) (by omega), sw_n (by omega) (by omega) (by omega), sw_n (by omega) (by omega) (by omega), sw_y]
theorem new_5 {p n o : Nat} {N : Nat → Int32} {ab : Int32} : sf (r_new p N n o ab) p n 5 = -1 := by
  unfold r_new; rw [sw_n (by omega) (by omega) (by omega), sw_n (by omega) (by omega) (by omega), sw_y]
theorem new_6 {p n o : Nat} {N : Nat → Int32} {ab : Int32} : sf (r_new p N n o ab) p n 6 = -1 := by
  unfold r_new; rw [sw_n (by omega) (by omega) (by omega), sw_y]
theorem new_7 {p n o : Nat} {N : Nat → Int32} {ab : Int32} : sf (r_new p N n o ab) p n 7 = ab := by
  unfold r_new; rw [sw_y]
/-- the end agrees with a piece -/
def Ag (b : Bool) (p n n' a a' : Nat) (N' A' : Nat → Int32) (E lv : Nat → Nat) (CS' : List Nat) (N A : Nat → Int32) (E2 lv2 : Nat → Nat) (az nz : Nat) (CS : List Nat) : Prop :=
  (∀ s f, n ≤ s → s < n' → f < 8 → ¬ (b = true ∧ s = n ∧ f = 6) → sf N p s f = sf N' p s f) ∧
  (∀ i, 3 * a ≤ i → i < 3 * a' → A i = A' i) ∧
  (∀ s, n ≤ s → s < n' → E2 s = E s ∧ lv2 s = lv s) ∧
  (CS'.length ≤ CS.length ∧ ∀ i, i < CS'.length → CS.getD i 0 = CS'.getD i 0) ∧
  n' ≤ nz ∧ a' ≤ az ∧ az ≤ 40
def abC (N : Nat → Int32) (p : Nat) (lv : Nat → Nat) (l n : Nat) (ab : Int32) : Prop := ab = -1 ∨ ∃ u, u < n ∧ ab = nI u ∧ lv u < l ∧ 8 ≤ sf N p u 0
def EndB (N : Nat → Int32) (p : Nat) (A : Nat → Int32) (E : Nat → Nat) (az j : Nat) (ab : Int32) (x : Nat) : Prop := if ab < 0 then LdP A az j x else if sf N p (vv ab) 0 < 9 then Bh N p A E az j (vv ab + 1) x (vv ab) else LdP A (E (vv ab)) j x
def Gd1 (p : Nat) (ab : Int32) (n n' a a' l : Nat) (N' A' : Nat → Int32) (CS' : List Nat) : Prop :=
  sf N' p n 7 = ab ∧ sf N' p n 6 = -1 ∧ ∃ E lv : Nat → Nat, en N' p E n = a ∧ ∀ N A E2 lv2 az nz CS, Ag true p n n' a a' N' A' E lv CS' N A E2 lv2 az nz CS → abC N p lv2 l n ab → (sf N p n 6 = -1 ∨ ∃ u, n < u ∧ u < nz ∧ sf N p n 6 = nI u) → Bh N p A E2 az l (n + 1) a' n → ∀ s, n ≤ s → s < n' → gS N p A E2 lv2 az CS nz s
def GdR (p : Nat) (ab : Int32) (n n' a a' l : Nat) (N' A' : Nat → Int32) (CS' : List Nat) : Prop :=
  ∃ E lv : Nat → Nat, en N' p E n = a ∧ ∀ N A E2 lv2 az nz CS, Ag false p n n' a a' N' A' E lv CS' N A E2 lv2 az nz CS → abC N p lv2 l n ab → EndB N p A E2 az l ab a' → ∀ s, n ≤ s → s < n' → gS N p A E2 lv2 az CS nz s
theorem en_c {N N' : Nat → Int32} {p : Nat} {E E' : Nat → Nat} {s : Nat} (h : sf N p s 0 = sf N' p s 0) (hE : E s = E' s) : en N p E s = en N' p E' s := by
  unfold en; rw [h, hE]
theorem gX_m {CS' CS : List Nat} {e : Nat} (h : CS'.length ≤ CS.length ∧ ∀ i, i < CS'.length → CS.getD i 0 = CS'.getD i 0) (hg : gX CS' e) : gX CS e := by
  obtain ⟨cs, h1, h2, h3, h4, h5⟩ := hg
  exact ⟨cs, by omega, fun i hi => by rw [h.2 _ (by omega)]; exact h2 i hi, by rw [h.2 _ (by omega)]; exact h3, h4, h5⟩
theorem GdR_c {p : Nat} {ab : Int32} {n n' a a' l : Nat} {N' A' N2 A2 : Nat → Int32} {CS' CS2 : List Nat} (hn : n < n') (hN : ∀ s f, n ≤ s → s < n' → f < 8 → sf N2 p s f = sf N' p s f) (hA : ∀ i, 3 * a ≤ i → i < 3 * a' → A2 i = A' i) (hC : CS'.length ≤ CS2.length ∧ ∀ i, i < CS'.length → CS2.getD i 0 = CS'.getD i 0) (h : GdR p ab n n' a a' l N' A' CS') : GdR p ab n n' a a' l N2 A2 CS2 := by
  obtain ⟨E, lv, he, hg⟩ := h
  refine ⟨E, lv, by rw [← he]; exact en_c (hN n 0 (Nat.le_refl _) hn (by omega)) rfl, fun N A E2 lv2 az nz CS hA2 => ?_⟩
  obtain ⟨q1, q2, q3, q4, q5⟩ := hA2
  exact hg N A E2 lv2 az nz CS ⟨fun s f h1 h2 h3 h4 => (q1 s f h1 h2 h3 (fun q => absurd q.1 (by decide))).trans (hN s f h1 h2 h3), fun i h1 h2 => (q2 i h1 h2).trans (hA i h1 h2), q3, ⟨Nat.le_trans hC.1 q4.1, fun i hi => (q4.2 i (by omega)).trans (hC.2 i hi)⟩, q5⟩
theorem nI_ne {a b : Nat} (ha : a < 1000) (hb : b < 1000) (h : ¬ a = b) : ¬ nI a = nI b := fun q => h (by have := congrArg vv q; rw [vv_nI (by omega), vv_nI (by omega)] at this; exact this)
theorem nI_l8 {o : Nat} (h : 8 ≤ o) (h2 : o ≤ 10) : (8 : Int32) ≤ nI o := by
  rcases show o = 8 ∨ o = 9 ∨ o = 10 by omega with e | e | e <;> subst e <;> decide
theorem nI_p {n : Nat} (h : n < 1000) : ¬ nI n < 0 := by
  have hh : ∀ n, n < 1000 → ¬ nI n < 0 := by decide +kernel
  exact hh n h
/-- a step with no block -/
theorem Gd1_s {p : Nat} {ab : Int32} {n a l o : Nat} {N' A' : Nat → Int32} {CS' : List Nat} (hl : l ≤ 4) (ho : o ≤ 7) (h0 : sf N' p n 0 = nI o) (h6 : sf N' p n 6 = -1) (h7 : sf N' p n 7 = ab) (hA : A' (3 * a) = cc_ o) (hx : o = 0 → ∃ x y, x ≤ 9999 ∧ y ≤ 9999 ∧ sf N' p n 1 = nI x ∧ sf N' p n 2 = nI y ∧ A' (3 * a + 1) = nI x ∧ A' (3 * a + 2) = nI y) (he : o = 7 → ∃ e, sf N' p n 3 = nI e ∧ A' (3 * a + 1) = nI e ∧ gX CS' e) : Gd1 p ab n (n + 1) a (a + 1) l N' A' CS' := by
  refine ⟨h7, h6, fun _ => a, fun _ => l, ?_, fun N A E2 lv2 az nz CS hAg hab h6' hB s hs1 hs2 => ?_⟩
  · unfold en; rw [h0, if_neg (by exact nI_ne (b := 10) (by omega) (by omega) (by omega))]
  obtain ⟨q1, q2, q3, q4, q5, q6, q7⟩ := hAg
  obtain rfl : s = n := by omega
  have hN : ∀ f, f < 8 → ¬ f = 6 → sf N p s f = sf N' p s f := fun f hf h => q1 s f (Nat.le_refl _) (by omega) hf (fun q => h q.2.2)
  have hE : E2 s = a := (q3 s (Nat.le_refl _) (by omega)).1
  have hL : lv2 s = l := (q3 s (Nat.le_refl _) (by omega)).2
  refine ⟨⟨o, by omega, (hN 0 (by omega) (by omega)).trans h0, ?_, by omega, fun e => ?_, fun e => ?_, fun _ => ?_, fun e => by omega, fun e => by omega⟩, h6', ?_⟩
  · rw [hE, q2 _ (by omega) (by omega)]; exact hA
  · obtain ⟨x, y, g1, g2, g3, g4, g5, g6⟩ := hx e
    exact ⟨x, y, g1, g2, (hN 1 (by omega) (by omega)).trans g3, (hN 2 (by omega) (by omega)).trans g4, by rw [hE, q2 _ (by omega) (by omega)]; exact g5, by rw [hE, q2 _ (by omega) (by omega)]; exact g6⟩
  · obtain ⟨e', g1, g2, g3⟩ := he (by omega)
    exact ⟨e', (hN 3 (by omega) (by omega)).trans g1, by rw [hE, q2 _ (by omega) (by omega)]; exact g2, gX_m q4 g3⟩
  · rw [hE]; exact Bh_m (by omega) _ _ _ _ (Nat.le_refl _) hB
  · rcases hab with q | ⟨u, g1, g2, g3, g4⟩
    · left; rw [hN 7 (by omega) (by omega), h7, q]
    · right; exact ⟨u, g1, by rw [hN 7 (by omega) (by omega), h7, g2], by rw [hL]; exact g3, g4⟩
/-- a step with one block -/
theorem Gd1_b {p : Nat} {ab : Int32} {n n' a a1 a' l o e0 : Nat} {N' A' : Nat → Int32} {CS' : List Nat} (hl : l < 4) (hn : n + 1 < n') (hn32 : n < 32) (ha : e0 + 1 < a1) (h40 : a' ≤ 40) (ho : 8 ≤ o ∧ o ≤ 10) (he0 : if o = 10 then e0 = a + 1 else e0 = a) (h0 : sf N' p n 0 = nI o) (h4 : sf N' p n 4 = nI (n + 1)) (h5 : sf N' p n 5 = -1) (h6 : sf N' p n 6 = -1) (h7 : sf N' p n 7 = ab) (hA : A' (3 * e0) = cc_ o) (hA2 : A' (3 * e0 + 2) = nI a') (he : o = 8 ∨ o = 9 → ∃ e, sf N' p n 3 = nI e ∧ A' (3 * e0 + 1) = nI e ∧ gX CS' e) (hv : o = 10 → ∃ v, v ≤ 9999 ∧ sf N' p n 1 = nI v ∧ A' (3 * e0 + 1) = nI l ∧ A' (3 * a) = 13 ∧ A' (3 * a + 1) = nI l ∧ A' (3 * a + 2) = nI v) (hj : (o = 8 ∧ a' = a1) ∨ (9 ≤ o ∧ a' = a1 + 1 ∧ A' (3 * a1) = 12 ∧ A' (3 * a1 + 2) = nI e0)) (hb : GdR p (nI n) (n + 1) n' (e0 + 1) a1 (l + 1) N' A' CS') : Gd1 p ab n n' a a' l N' A' CS' := by
  obtain ⟨Eb, lvb, hbe, hbg⟩ := hb
  have hea : a ≤ e0 ∧ e0 ≤ a + 1 := by split at he0 <;> omega
  refine ⟨h7, h6, fun s => if s = n then e0 else Eb s, fun s => if s = n then l else lvb s, ?_, fun N A E2 lv2 az nz CS hAg hab h6' hB => ?_⟩
  · unfold en
    dsimp only
    rw [if_pos rfl, h0]
    split at he0
    · rename_i e; subst e; rw [if_pos (show nI 10 = 10 by decide)]; omega
    · rename_i e; rw [if_neg (by exact nI_ne (b := 10) (by omega) (by omega) e)]; exact he0
  obtain ⟨q1, q2, q3, q4, q5, q6, q7⟩ := hAg
  have hN : ∀ f, f < 8 → ¬ f = 6 → sf N p n f = sf N' p n f := fun f hf h => q1 n f (Nat.le_refl _) (by omega) hf (fun q => h q.2.2)
  have hE : E2 n = e0 := by have := (q3 n (Nat.le_refl _) (by omega)).1; simp only [if_true] at this; exact this
  have hL : lv2 n = l := by have := (q3 n (Nat.le_refl _) (by omega)).2; simp only [if_true] at this; exact this
  have hop : sf N p n 0 = nI o := (hN 0 (by omega) (by omega)).trans h0
  have hvn : vv (nI n) = n := vv_nI (by omega)
  intro s hs1 hs2
  by_cases c : s = n
  · subst c
    refine ⟨⟨o, by omega, hop, ?_, by omega, fun e => by omega, fun e => ?_, fun e => by omega, fun _ => ?_, fun e => ?_⟩, h6', ?_⟩
    · rw [hE, q2 _ (by omega) (by omega)]; exact hA
    · clear hv
      have he' := he (by rcases e with e | e | e <;> omega)
      obtain ⟨e', g1, g2, g3⟩ := he'
      exact ⟨e', (hN 3 (by omega) (by omega)).trans g1, by rw [hE, q2 _ (by omega) (by omega)]; exact g2, gX_m q4 g3⟩
    · refine ⟨s + 1, by omega, by omega, (hN 4 (by omega) (by omega)).trans h4, ?_, a', by omega, by rw [hE, q2 _ (by omega) (by omega)]; exact hA2, Or.inl ⟨(hN 5 (by omega) (by omega)).trans h5, Bh_m (by omega) _ _ _ _ (Nat.le_refl _) hB⟩⟩
      rw [hE, ← hbe]
      refine (en_c (q1 (s + 1) 0 (by omega) hn (by omega) (fun q => by omega)) ?_).symm
      have := (q3 (s + 1) (by omega) hn).1
      dsimp only at this
      rw [if_neg (by omega)] at this; exact this
    · obtain ⟨v, g1, g2, g3, g4, g5, g6⟩ := hv e
      rw [if_pos e] at he0
      refine ⟨v, g1, (hN 1 (by omega) (by omega)).trans g2, by omega, by omega, ?_, ?_, ?_, ?_⟩
      · rw [hE, hL, q2 _ (by omega) (by omega)]; exact g3
      · rw [hE, show e0 - 1 = a by omega, q2 _ (by omega) (by omega)]; exact g4
      · rw [hE, hL, show e0 - 1 = a by omega, q2 _ (by omega) (by omega)]; exact g5
      · rw [hE, show e0 - 1 = a by omega, q2 _ (by omega) (by omega)]; exact g6
    · rcases hab with q | ⟨u, g1, g2, g3, g4⟩
      · left; rw [hN 7 (by omega) (by omega), h7, q]
      · right; exact ⟨u, g1, by rw [hN 7 (by omega) (by omega), h7, g2], by rw [hL]; exact g3, g4⟩
  · refine hbg N A E2 lv2 az nz CS ⟨fun s f g1 g2 g3 _ => q1 s f (by omega) g2 g3 (fun q => by omega), fun i g1 g2 => q2 i (by omega) (by omega), fun s g1 g2 => ?_, q4, q5, by omega, q7⟩ (Or.inr ⟨n, by omega, rfl, by omega, by rw [hop]; exact nI_l8 ho.1 ho.2⟩) ?_ s (by omega) hs2
    · have := q3 s (by omega) g2
      dsimp only at this
      rw [if_neg (by omega), if_neg (by omega)] at this
      exact this
    · unfold EndB
      rw [if_neg (nI_p (by omega)), hvn, hop]
      rcases hj with ⟨j1, j2⟩ | ⟨j1, j2, j3, j4⟩
      · subst j1; rw [if_pos (by decide)]
        rw [← j2]; exact Bh_m (by omega) _ _ _ _ (Nat.le_refl _) hB
      · rw [if_neg (by rcases show o = 9 ∨ o = 10 by omega with e | e <;> subst e <;> decide), hE]
        exact Or.inr ⟨by rw [q2 _ (by omega) (by omega)]; exact j3, e0, by rw [q2 _ (by omega) (by omega)]; exact j4, by omega, LdP_0 _⟩
/-- if with else -/
theorem Gd1_e {p : Nat} {ab : Int32} {n n1 n' a a1 a' l : Nat} {N' A' : Nat → Int32} {CS' : List Nat} (hl : l < 4) (hn : n + 1 < n1) (hn1 : n1 < n') (hn32 : n < 32) (ha : a + 1 < a1) (ha1 : a1 + 1 < a') (h40 : a' ≤ 40) (h0 : sf N' p n 0 = nI 8) (h4 : sf N' p n 4 = nI (n + 1)) (h5 : sf N' p n 5 = nI n1) (h6 : sf N' p n 6 = -1) (h7 : sf N' p n 7 = ab) (hA : A' (3 * a) = cc_ 8) (hA2 : A' (3 * a + 2) = nI (a1 + 1)) (he : ∃ e, sf N' p n 3 = nI e ∧ A' (3 * a + 1) = nI e ∧ gX CS' e) (hj : A' (3 * a1) = 12) (hj2 : A' (3 * a1 + 2) = nI a') (hb : GdR p (nI n) (n + 1) n1 (a + 1) a1 (l + 1) N' A' CS') (hb2 : GdR p (nI n) n1 n' (a1 + 1) a' (l + 1) N' A' CS') : Gd1 p ab n n' a a' l N' A' CS' := by
  obtain ⟨Eb, lvb, hbe, hbg⟩ := hb
  obtain ⟨Ec, lvc, hce, hcg⟩ := hb2
  refine ⟨h7, h6, fun s => if s = n then a else if s < n1 then Eb s else Ec s, fun s => if s = n then l else if s < n1 then lvb s else lvc s, ?_, fun N A E2 lv2 az nz CS hAg hab h6' hB => ?_⟩
  · unfold en
    dsimp only
    rw [if_pos rfl, h0, if_neg (by decide)]
  obtain ⟨q1, q2, q3, q4, q5, q6, q7⟩ := hAg
  have hN : ∀ f, f < 8 → ¬ f = 6 → sf N p n f = sf N' p n f := fun f hf h => q1 n f (Nat.le_refl _) (by omega) hf (fun q => h q.2.2)
  have hE : E2 n = a := by have := (q3 n (Nat.le_refl _) (by omega)).1; simp only [if_true] at this; exact this
  have hL : lv2 n = l := by have := (q3 n (Nat.le_refl _) (by omega)).2; simp only [if_true] at this; exact this
  have hop : sf N p n 0 = nI 8 := (hN 0 (by omega) (by omega)).trans h0
  have hvn : vv (nI n) = n := vv_nI (by omega)
  have hE1 : ∀ s, n + 1 ≤ s → s < n1 → E2 s = Eb s ∧ lv2 s = lvb s := fun s g1 g2 => by
    have := q3 s (by omega) (by omega)
    dsimp only at this
    rw [if_neg (show ¬ s = n by omega), if_neg (show ¬ s = n by omega), if_pos g2, if_pos g2] at this
    exact this
  have hE2 : ∀ s, n1 ≤ s → s < n' → E2 s = Ec s ∧ lv2 s = lvc s := fun s g1 g2 => by
    have := q3 s (by omega) (by omega)
    dsimp only at this
    rw [if_neg (show ¬ s = n by omega), if_neg (show ¬ s = n by omega), if_neg (show ¬ s < n1 by omega), if_neg (show ¬ s < n1 by omega)] at this
    exact this
  have hab' : ∀ m, n < m → abC N p lv2 (l + 1) m (nI n) := fun m hm => Or.inr ⟨n, hm, rfl, by omega, by rw [hop]; decide⟩
  have hend : ∀ x, Bh N p A E2 az (l + 1) (n + 1) x n → EndB N p A E2 az (l + 1) (nI n) x := fun x hx => by
    unfold EndB
    rw [if_neg (nI_p (by omega)), hvn, hop, if_pos (by decide)]
    exact hx
  intro s hs1 hs2
  by_cases c : s = n
  · subst c
    refine ⟨⟨8, by omega, hop, ?_, by omega, fun e => by omega, fun e => ?_, fun e => by omega, fun _ => ?_, fun e => by omega⟩, h6', ?_⟩
    · rw [hE, q2 _ (by omega) (by omega)]; exact hA
    · obtain ⟨e', g1, g2, g3⟩ := he
      exact ⟨e', (hN 3 (by omega) (by omega)).trans g1, by rw [hE, q2 _ (by omega) (by omega)]; exact g2, gX_m q4 g3⟩
    · refine ⟨s + 1, by omega, by omega, (hN 4 (by omega) (by omega)).trans h4, ?_, a1 + 1, by omega, by rw [hE, q2 _ (by omega) (by omega)]; exact hA2, Or.inr ⟨rfl, n1, by omega, by omega, (hN 5 (by omega) (by omega)).trans h5, ?_⟩⟩
      · rw [hE, ← hbe]
        exact (en_c (q1 (s + 1) 0 (by omega) (by omega) (by omega) (fun q => by omega)) (hE1 (s + 1) (by omega) hn).1).symm
      · rw [← hce]
        exact (en_c (q1 n1 0 (by omega) (by omega) (by omega) (fun q => by omega)) (hE2 n1 (by omega) hn1).1).symm
    · rcases hab with q | ⟨u, g1, g2, g3, g4⟩
      · left; rw [hN 7 (by omega) (by omega), h7, q]
      · right; exact ⟨u, g1, by rw [hN 7 (by omega) (by omega), h7, g2], by rw [hL]; exact g3, g4⟩
  · by_cases c2 : s < n1
    · exact hbg N A E2 lv2 az nz CS ⟨fun s f g1 g2 g3 _ => q1 s f (by omega) (by omega) g3 (fun q => by omega), fun i g1 g2 => q2 i (by omega) (by omega), hE1, q4, by omega, by omega, q7⟩ (hab' _ (by omega)) (hend _ (Bh_j (by rw [q2 _ (by omega) (by omega)]; exact hj) (by rw [q2 _ (by omega) (by omega)]; exact hj2) (by omega) _ _ hB)) s (by omega) c2
    · exact hcg N A E2 lv2 az nz CS ⟨fun s f g1 g2 g3 _ => q1 s f (by omega) (by omega) g3 (fun q => by omega), fun i g1 g2 => q2 i (by omega) (by omega), hE2, q4, by omega, by omega, q7⟩ (hab' _ (by omega)) (hend _ (Bh_m (by omega) _ _ _ _ (Nat.le_refl _) hB)) s (by omega) hs2
