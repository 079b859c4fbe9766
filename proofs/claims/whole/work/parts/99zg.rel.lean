/-! THE CLASS: a MACHINE runs its PROGRAM: what holds all along -/
def cxN (N : Nat → Int32) (w h n m c qq z wh b v la lb : Nat) : Prop :=
  mo_W N w h ∧ (N (630 + 40 * m + 1) = nI c ∧ c < w * h) ∧ (N (630 + 40 * m + 2) = nI qq ∧ 1 ≤ qq ∧ qq ≤ 100) ∧ (N (630 + 40 * m + 4) = nI z ∧ z ≤ 10) ∧ (N (630 + 40 * m + 5) = nI wh ∧ wh ≤ 1) ∧ (N 4 = nI b ∧ b < 2 ^ 31) ∧ (N 12 = nI v ∧ v < 2 ^ 31) ∧ (N 2 = nI la ∧ N 3 = nI lb ∧ (1 ≤ la ∧ la ≤ 24) ∧ lb ≤ 24) ∧ mo_D N n ∧ mo_K N (w * h) ∧ mo_Q N n ∧ mo_C N n (w * h) ∧ mo_B N n
theorem cx_c {N N' : Nat → Int32} {w h n m c qq z wh b v la lb : Nat} (H : cxN N w h n m c qq z wh b v la lb) (hn : n ≤ 5) (hm : m < 5) (hX : eqX m N' N) : cxN N' w h n m c qq z wh b v la lb := by
  obtain ⟨hW, ⟨a1, a2⟩, ⟨b1, b2⟩, ⟨c1, c2⟩, ⟨d1, d2⟩, ⟨e1, e2⟩, ⟨f1, f2⟩, ⟨g1, g2, g3⟩, hD, hK, hQ, hC, hB⟩ := H
  have hc := mo_W_c hW
  refine ⟨⟨(hX 0 (by omega)).trans hW.1, (hX 1 (by omega)).trans hW.2.1, hW.2.2⟩, ⟨(hX _ (by omega)).trans a1, a2⟩, ⟨(hX _ (by omega)).trans b1, b2⟩, ⟨(hX _ (by omega)).trans c1, c2⟩, ⟨(hX _ (by omega)).trans d1, d2⟩, ⟨(hX _ (by omega)).trans e1, e2⟩, ⟨(hX _ (by omega)).trans f1, f2⟩, ⟨(hX _ (by omega)).trans g1, (hX _ (by omega)).trans g2, g3⟩, ?_, ?_, ?_, ?_, ?_⟩
  · intro i j h1 h2
    rw [hX _ (by omega), hX _ (by omega)]; exact hD i j h1 h2
  · intro i hi
    rw [hX _ (by omega)]; exact hK i hi
  · intro i hi
    rw [hX _ (by omega)]; exact hQ i hi
  · intro i hi
    rw [hX _ (by omega)]; exact hC i hi
  · intro i hi
    rw [hX _ (by omega), hX _ (by omega)]; exact hB i hi
theorem lv4 {N Aa : Nat → Int32} {p a nS s : Nat} {E lv : Nat → Nat} {CS : List Nat} (hg : gS N p Aa E lv a CS nS s) (h10 : sf N p s 0 = 10) : lv s < 4 := by
  obtain ⟨⟨o, ho, e0, -, -, -, -, -, -, hv⟩, -⟩ := hg
  have : o = 10 := nI_j (e0.symm.trans (h10.trans (rfl : (10 : Int32) = nI 10))) (by omega) (by decide)
  obtain ⟨v, -, -, -, q, -⟩ := hv this
  exact q
/-- a MACHINE's next step, written down -/
theorem plR_up {N LF LF' Aa : Nat → Int32} {m p a nS y : Nat} {E lv : Nat → Nat} {CS : List Nat} {t : Int32} (hn : nS ≤ 32) (hp : p < 6) (hm : m < 5) (hg : ∀ s, s < nS → gS N p Aa E lv a CS nS s) (h : (t = -1 ∧ LdP Aa a 5 y) ∨ ∃ s' L', t = nI s' ∧ plS N LF m p E lv Aa nS y s' L') (hL : ∀ j, j < 4 → LF' j = LF j) : plR (upd N (630 + 40 * m + 7) t) LF' m p E lv a Aa nS y := by
  rcases h with ⟨h1, h2⟩ | ⟨s, L, h1, h2⟩
  · exact Or.inl ⟨upd_y.trans h1, h2⟩
  · refine Or.inr ⟨s, L, upd_y.trans h1, plS_c h2 hn hp (fun y h1 h2 => upd_n (by omega)) (fun u hu => upd_n (by omega)) (fun u hu h10 hh => ?_) hL⟩
    have hs := h2.1
    rcases hh with e | e
    · rw [e] at h10 ⊢; exact lv4 (hg s hs) h10
    · have := (ch_in hn hg L s hs h2.2.1 u e).1
      exact lv4 (hg u (by omega)) h10
/-- what a run of a MACHINE leaves -/
def rnP (A0 A' : mm_I) (N' : Nat → Int32) (m p a nS : Nat) (E lv : Nat → Nat) (Aa : Nat → Int32) : Prop :=
  (∀ b, ¬ ((36 + 3 * m ≤ b ∧ b ≤ 38 + 3 * m) ∨ b = 172 ∨ b = 173 ∨ (13 ≤ b ∧ b ≤ 16)) → A' b = A0 b) ∧
  (N' (630 + 40 * m + 6) = -1 ∨ (N' (630 + 40 * m + 6) = nI p ∧ ∃ x, x ≤ 40 ∧ A' (36 + 3 * m) 7 = nI x ∧ plR N' (A' (37 + 3 * m + 1)) m p E lv a Aa nS x))
/-- a step's own number is none, unless it is a repeat's that goes on -/
theorem plS_m1 {N LF Aa : Nat → Int32} {m p nS x s : Nat} {E lv : Nat → Nat} {L : List Nat} (h : plS N LF m p E lv Aa nS x s L) (h10 : ¬ sf N p s 0 = 10) : (∀ u, u < 32 → ¬ u ∈ L → N (630 + 40 * m + (8 + u)) = -1) ∧ LdP Aa (E s) 5 x := by
  obtain ⟨h1, h2, h3, h4, h5⟩ := h
  rcases h5 with ⟨q1, q2⟩ | ⟨q1, -⟩
  · refine ⟨fun u hu hu2 => ?_, ?_⟩
    · by_cases e : u = s
      · rw [e]; exact q1
      · exact h3 u hu hu2 e
    · unfold en at q2; rw [if_neg h10] at q2; exact q2
  · exact absurd q1 h10
/-- places that are left alone by what MACHINES do -/
abbrev keepX (m : Nat) (N' N : Nat → Int32) : Prop := ∀ y, ((637 + 40 * m ≤ y ∧ y < 670 + 40 * m) ∨ 1226 ≤ y ∨ y = 630 + 40 * m + 6) → N' y = N y
theorem kx_costs {K : mm_I} {m : Nat} {c v : Int32} {N : Nat → Int32} (hm : m < 5) (h : keepX m (K 201) N) : keepX m (op_costs K m c v 201) N := fun y hy => by rw [costs_201, upd_n (by omega), upd_n (by omega)]; exact h y hy
theorem kx_u {m x : Nat} {N' N : Nat → Int32} {v : Int32} (h : keepX m N' N) (hx : ¬ ((637 + 40 * m ≤ x ∧ x < 670 + 40 * m) ∨ 1226 ≤ x ∨ x = 630 + 40 * m + 6)) : keepX m (upd N' x v) N := fun y hy => (upd_n (fun e => hx (by rw [← e]; exact hy))).trans (h y hy)
theorem kx_sc {J : mm_I} {m c : Nat} (hm : m < 5) (hc : c < 80) : keepX m (op_scoops J m c 201) (J 201) := by
  unfold op_scoops op_sc1
  split
  · split
    · exact kx_costs hm (by rw [up_201, up_201, up_201]; exact kx_u (kx_u (kx_u (fun _ _ => rfl) (by omega)) (by omega)) (by omega))
    · exact fun _ _ => rfl
  · split
    · exact kx_costs hm (by rw [up_201, up_201, up_201]; exact kx_u (kx_u (kx_u (fun _ _ => rfl) (by omega)) (by omega)) (by omega))
    · exact fun _ _ => rfl
theorem kx_dr {J : mm_I} {m c wh : Nat} (hm : m < 5) (hc : c < 80) (hw : wh ≤ 1) : keepX m (op_drops J m c wh 201) (J 201) := by
  unfold op_drops op_dr1
  split
  · exact fun _ _ => rfl
  split
  · exact kx_costs hm (by rw [up_201, up_201]; exact kx_u (kx_u (fun _ _ => rfl) (by omega)) (by omega))
  split
  · exact kx_costs hm (by rw [up_201, up_201]; exact kx_u (kx_u (fun _ _ => rfl) (by omega)) (by omega))
  · exact kx_costs hm (by rw [up_201, up_201]; exact kx_u (kx_u (fun _ _ => rfl) (by omega)) (by omega))
theorem kx_fu {J : mm_I} {m c : Nat} (hm : m < 5) (hc : c < 80) : keepX m (op_fuses J m c 201) (J 201) := by
  unfold op_fuses
  split
  · exact kx_costs hm (by rw [up_201, up_201, up_201]; exact kx_u (kx_u (kx_u (fun _ _ => rfl) (by omega)) (by omega)) (by omega))
  · exact fun _ _ => rfl
theorem kx_ch {J : mm_I} {m c : Nat} (hm : m < 5) : keepX m (op_charges J m c 201) (J 201) := by
  unfold op_charges
  split
  · rw [up_201, up_201]; exact kx_u (kx_u (fun _ _ => rfl) (by omega)) (by omega)
  · exact fun _ _ => rfl
theorem kx_me {J : mm_I} {w h n m c : Nat} (hm : m < 5) (hq : ∀ u, md_w (J 201) w h c n 4 = nI u → u < 5 → True) (hin : md_w (J 201) w h c n 4 = -1 ∨ ∃ u, u < 5 ∧ md_w (J 201) w h c n 4 = nI u) : keepX m (op_mends J w h n m c 201) (J 201) := by
  unfold op_mends op_md
  split
  · exact fun _ _ => rfl
  split
  · exact fun _ _ => rfl
  · rename_i h1 h2
    rcases hin with e | ⟨u, hu, e⟩
    · rw [e] at h2; exact absurd (by decide) h2
    · rw [e, vv_nI (by omega)]
      exact kx_costs hm (by rw [up_201, up_201]; exact kx_u (kx_u (fun _ _ => rfl) (by omega)) (by omega))
