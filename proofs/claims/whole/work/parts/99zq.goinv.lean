/-! What holds of the row all along: a MACHINE goes through its PROGRAM -/
/-- what a MACHINE's TICK leaves alone -/
abbrev frG (m y : Nat) : Prop := y = 2 ∨ y = 3 ∨ (5 ≤ y ∧ y ≤ 9) ∨ (15 ≤ y ∧ y < 30) ∨ (270 ≤ y ∧ y < 630) ∨ 830 ≤ y ∨ (630 ≤ y ∧ y < 830 ∧ ¬ (y - 630) % 40 = 3 ∧ ¬ (631 + 40 * m ≤ y ∧ y < 670 + 40 * m))
def goF (m : Nat) (N' N : Nat → Int32) : Prop := ∀ y, frG m y → N' y = N y
theorem goF_0 {m : Nat} {N : Nat → Int32} : goF m N N := fun _ _ => rfl
theorem goF_t {m : Nat} {N N' N2 : Nat → Int32} (h : goF m N' N) (h2 : goF m N2 N') : goF m N2 N := fun y hy => (h2 y hy).trans (h y hy)
theorem goF_u {m x : Nat} {N N' : Nat → Int32} {v : Int32} (h : goF m N' N) (hx : ¬ frG m x) : goF m (upd N' x v) N := fun y hy => (upd_n (y := y) (x := x) (fun e => hx (by rw [← e]; exact hy))).trans (h y hy)
theorem goF_a {m : Nat} {N' N : Nat → Int32} (h : acF m N' N) (hm : m < 5) : goF m N' N := fun y hy => h y (by omega)
/-- a place of a MACHINE's own -/
theorem iT_g {N : Nat → Int32} {w h n m x : Nat} {v : Int32} (H : iT N w h n) (hx : 636 + 40 * m ≤ x ∧ x < 670 + 40 * m) : iT (upd N x v) w h n := iT_x H (by omega)
def goC (N' N : Nat → Int32) (w h n m p k : Nat) : Prop := iT N' w h n ∧ goF m N' N ∧ (N' (630 + 40 * m + 6) = -1 ∨ (N' (630 + 40 * m + 6) = nI p ∧ mo_st k (N' (630 + 40 * m + 7))))
theorem goC_a {N' N1 N : Nat → Int32} {w h n m p k : Nat} (hm : m < 5) (ha : iT N' w h n ∧ acF m N' N1) (h1 : goF m N1 N) (h6 : N1 (630 + 40 * m + 6) = nI p) (h7 : mo_st k (N1 (630 + 40 * m + 7))) : goC N' N w h n m p k :=
  ⟨ha.1, goF_t h1 (goF_a ha.2 hm), Or.inr ⟨(ha.2 _ (by omega)).trans h6, by rw [ha.2 _ (by omega)]; exact h7⟩⟩
set_option maxHeartbeats 600000 in
theorem go_inv {w h n la lb m c p k wh : Nat} (hn : n ≤ 5) (hm : m < n) : ∀ (kk : Nat) (J : mm_I), mo_G (J 201) w h n la lb m c p k wh → mo_st k (J 201 (630 + 40 * m + 7)) → iT (J 201) w h n → (∃ q, 1 ≤ q ∧ q ≤ 100 ∧ J 201 (630 + 40 * m + 2) = nI q) → goC (op_go w h n m c wh p kk J 201) (J 201) w h n m p k := by
  have hm5 : m < 5 := by omega
  intro kk
  induction kk with
  | zero =>
    intro J hG hat H hq
    exact ⟨H, goF_0, Or.inr ⟨hG.2.2.2.2.2.2.1.1, hat⟩⟩
  | succ kk ih =>
    intro J hG hat H hq
    obtain ⟨hW, ⟨h16, -⟩, ⟨h2, h3, hla, hlb⟩, -, ⟨hc1, hcw⟩, ⟨hwh, hwh1⟩, ⟨hpp, hp⟩, hT⟩ := id hG
    have hc := mo_W_c hW
    have h32 := hT.1
    have hrec : ∀ K : mm_I, (∀ x, x < 637 + 40 * m ∨ 670 + 40 * m ≤ x → K 201 x = J 201 x) → mo_st k (K 201 (630 + 40 * m + 7)) → goC (op_go w h n m c wh p kk K 201) (J 201) w h n m p k := by
      intro K hK h7
      have e := ih K (mo_G_eq hG hK) h7 (iT_e H (fun y hy => hK y (by omega))) (by rw [hK _ (by omega)]; exact hq)
      exact ⟨e.1, goF_t (fun y hy => hK y (by omega)) e.2.1, e.2.2⟩
    rcases hat with e7 | ⟨s, hs, e7⟩
    · rw [op_go, if_pos (by rw [e7]; decide), up_201]
      exact ⟨iT_g (m := m) H (by omega), goF_u goF_0 (by omega), Or.inl upd_y⟩
    obtain ⟨⟨o, ho, e0⟩, -, -, q4, q5, q6⟩ := hT.2 s hs
    have hbi := bh_in hT 32 s (by omega) hs
    rw [op_go, if_neg (by rw [e7]; exact nI_pos (by omega)), e7, vv_nI (by omega), e0, vv_nI (by omega), op_gos]
    have hb1 : iT (upd (J 201) (630 + 40 * m + 7) (bh (J 201) p 32 s)) w h n := iT_g (m := m) H (by omega)
    have hb2 : goF m (upd (J 201) (630 + 40 * m + 7) (bh (J 201) p 32 s)) (J 201) := goF_u goF_0 (by omega)
    have hb6 : upd (J 201) (630 + 40 * m + 7) (bh (J 201) p 32 s) (630 + 40 * m + 6) = nI p := (upd_n (by omega)).trans hpp
    have hb7 : mo_st k (upd (J 201) (630 + 40 * m + 7) (bh (J 201) p 32 s) (630 + 40 * m + 7)) := by rw [upd_y]; exact hbi
    by_cases ho0 : o = 0
    · rw [if_pos ho0]
      by_cases hth : go_th (J 201) m p s
      · rw [if_pos hth]
        exact hrec _ (fun x hx => by rw [up_201, upd_n (by omega)]) (by rw [up_201]; exact hb7)
      · rw [if_neg hth]
        unfold op_goes
        split
        · have hw0 : 0 < w := by have := hW.2.2.1; omega
          have hbf : bf_m J (bf_r J w h (vv (sf (J 201) p s 2) * w + vv (sf (J 201) p s 1))) 201 = J 201 := bf_m_a (by decide) (by decide)
          rcases gs_in (f := (bf_r J w h (vv (sf (J 201) p s 2) * w + vv (sf (J 201) p s 1))).1) hw0 hcw 4 with eb | ⟨bb, hbb, eb⟩
          · rw [eb]; unfold op_gs; rw [if_pos (by decide), up_201, hbf]
            exact ⟨hb1, hb2, Or.inr ⟨hb6, hb7⟩⟩
          · rw [eb, soN_gs hbf (by omega)]
            exact goC_a hm5 (iv_so H hn hm hbb) goF_0 hpp (by rw [e7]; exact Or.inr ⟨s, hs, rfl⟩)
        · rw [up_201]; exact ⟨hb1, hb2, Or.inr ⟨hb6, hb7⟩⟩
    rw [if_neg ho0]
    have eN : ac_k J m p s 201 = upd (J 201) (630 + 40 * m + 7) (bh (J 201) p 32 s) := by unfold ac_k; rw [up_201]
    by_cases ho7 : o < 7
    · rw [if_pos ho7]
      rw [← eN] at hb1 hb2 hb6 hb7
      obtain ⟨q, q1, q2, q3⟩ := hq
      have hq' : ac_k J m p s 201 (630 + 40 * m + 2) = nI q := by rw [eN, upd_n (by omega)]; exact q3
      rcases show o = 1 ∨ o = 2 ∨ o = 3 ∨ o = 4 ∨ o = 5 ∨ o = 6 by omega with e | e | e | e | e | e <;> subst e
      · exact goC_a hm5 (iv_sc (c := c) hb1 hn hm (by omega)) hb2 hb6 hb7
      · exact goC_a hm5 (iv_dr (c := c) hb1 hn hm (by omega) hwh1 hq' q1 q2) hb2 hb6 hb7
      · exact goC_a hm5 (iv_fu (c := c) hb1 hn hm hcw) hb2 hb6 hb7
      · exact goC_a hm5 (iv_ch (c := c) hb1 hn hm) hb2 hb6 hb7
      · exact goC_a hm5 (iv_me (c := c) hb1 hn hm) hb2 hb6 hb7
      · exact ⟨hb1, hb2, Or.inr ⟨hb6, hb7⟩⟩
    rw [if_neg ho7]
    by_cases hoE : o = 7
    · rw [if_pos hoE]
      split
      · rw [vo_m_a (by decide)]
        exact ⟨H, goF_0, Or.inr ⟨hpp, by rw [e7]; exact Or.inr ⟨s, hs, rfl⟩⟩⟩
      · exact hrec _ (fun x hx => by rw [up_201, vo_m_a (by decide), upd_n (by omega)]) (by rw [up_201, vo_m_a (by decide)]; exact hb7)
    · rw [if_neg hoE]
      have h8 : 8 ≤ sf (J 201) p s 0 := by rw [e0]; exact (nI_leI (a := 8) (by decide) (by omega)).mpr (by omega)
      exact hrec _ (fun x hx => by rw [up_201, upd_n (by omega)]; exact op_in_ne (by omega) (by omega)) (by rw [up_201, upd_y]; exact op_in_in hT hs h8)
/-- MACHINES and their PROGRAMS -/
def pT (N : Nat → Int32) : Prop := ∀ p, p < 6 → ∃ k, N (1226 + 418 * p) = nI k ∧ mo_T N p k
def mP (N : Nat → Int32) (n : Nat) : Prop := ∀ i, i < n → N (630 + 40 * i + 6) = -1 ∨ ∃ p k, p < 6 ∧ N (630 + 40 * i + 6) = nI p ∧ N (1226 + 418 * p) = nI k ∧ mo_T N p k ∧ mo_st k (N (630 + 40 * i + 7))
theorem mP_c {N N' : Nat → Int32} {n i : Nat} (h6 : N' (630 + 40 * i + 6) = N (630 + 40 * i + 6)) (h7 : N' (630 + 40 * i + 7) = N (630 + 40 * i + 7)) (hN : ∀ x, 1226 ≤ x → N' x = N x) (h : N (630 + 40 * i + 6) = -1 ∨ ∃ p k, p < 6 ∧ N (630 + 40 * i + 6) = nI p ∧ N (1226 + 418 * p) = nI k ∧ mo_T N p k ∧ mo_st k (N (630 + 40 * i + 7))) : N' (630 + 40 * i + 6) = -1 ∨ ∃ p k, p < 6 ∧ N' (630 + 40 * i + 6) = nI p ∧ N' (1226 + 418 * p) = nI k ∧ mo_T N' p k ∧ mo_st k (N' (630 + 40 * i + 7)) := by
  rcases h with h | ⟨p, k, p1, p2, p3, p4, p5⟩
  · exact Or.inl (h6.trans h)
  · exact Or.inr ⟨p, k, p1, h6.trans p2, (hN _ (by omega)).trans p3, mo_T_eq hN p4, by rw [h7]; exact p5⟩
/-- MACHINES one by one -/
def tkC (N' N : Nat → Int32) (w h n : Nat) : Prop := iT N' w h n ∧ mP N' n ∧ ∀ y, (y = 2 ∨ y = 3 ∨ (5 ≤ y ∧ y ≤ 9) ∨ (15 ≤ y ∧ y < 30) ∨ (270 ≤ y ∧ y < 630) ∨ 830 ≤ y) → N' y = N y
theorem tk_G {N : Nat → Int32} {w h n la lb i : Nat} (H : iT N w h n) (hP : mP N n) (h16 : N 16 = nI n) (hn : n ≤ 5) (hL : N 2 = nI la ∧ N 3 = nI lb ∧ (1 ≤ la ∧ la ≤ 24) ∧ lb ≤ 24) (hi : i < n) (hno : ¬ tk_no N i) : ∃ c p k wh, mo_G N w h n la lb i c p k wh ∧ N (1226 + 418 * p) = nI k ∧ mo_st k (N (630 + 40 * i + 7)) ∧ ∃ q, 1 ≤ q ∧ q ≤ 100 ∧ N (630 + 40 * i + 2) = nI q := by
  obtain ⟨-, ⟨c, c1, c2⟩, ⟨q, q1, q2⟩, -, -, ⟨wh, u1, u2⟩⟩ := H.2.1 i hi
  rcases hP i hi with e | ⟨p, k, p1, p2, p3, p4, p5⟩
  · exact absurd (Or.inr (Or.inr (by rw [e]; decide))) hno
  · refine ⟨c, p, k, wh, ⟨H.1, ⟨h16, hn⟩, hL, by omega, ⟨c2, c1⟩, ⟨u2, u1⟩, ⟨p2, p1⟩, p4⟩, p3, p5, q, ?_, q1, q2⟩
    refine Nat.pos_of_ne_zero (fun z => hno (Or.inr (Or.inl ?_)))
    rw [q2, z]; exact Int32.le_refl _
theorem tk_inv {J : mm_I} {w h n la lb : Nat} (hn : n ≤ 5) (h16 : J 201 16 = nI n) (hL : J 201 2 = nI la ∧ J 201 3 = nI lb ∧ (1 ≤ la ∧ la ≤ 24) ∧ lb ≤ 24) (H : iT (J 201) w h n) (hP : mP (J 201) n) : ∀ i, i ≤ n → tkC (tk_m w h n J i 201) (J 201) w h n := by
  intro i
  induction i with
  | zero => intro _; exact ⟨H, hP, fun _ _ => rfl⟩
  | succ i ih =>
    intro hi
    obtain ⟨e1, e2, e3⟩ := ih (by omega)
    unfold tk_m
    by_cases hno : tk_no (tk_m w h n J i 201) i
    · rw [if_pos hno]; exact ⟨e1, e2, e3⟩
    · rw [if_neg hno]
      obtain ⟨c, p, k, wh, hG, h0, h7, hq⟩ := tk_G e1 e2 ((e3 16 (by omega)).trans h16) hn ⟨(e3 2 (by omega)).trans hL.1, (e3 3 (by omega)).trans hL.2.1, hL.2.2⟩ (by omega) hno
      have hcc := mo_W_c e1.1
      rw [hG.2.2.2.2.1.1, vv_nI (by have := hG.2.2.2.2.1.2; omega), hG.2.2.2.2.2.1.1, vv_nI (by have := hG.2.2.2.2.2.1.2; omega), hG.2.2.2.2.2.2.1.1, vv_nI (by have := hG.2.2.2.2.2.2.1.2; omega)]
      obtain ⟨g1, g2, g3⟩ := go_inv hn (by omega) 50 (tk_m w h n J i) hG h7 e1 hq
      refine ⟨g1, fun j hj => ?_, fun y hy => (g2 y (by omega)).trans (e3 y hy)⟩
      by_cases e : j = i
      · subst e
        rcases g3 with g | ⟨g, g'⟩
        · exact Or.inl g
        · exact Or.inr ⟨p, k, hG.2.2.2.2.2.2.1.2, g, (g2 _ (by omega)).trans h0, mo_T_eq (fun x hx => g2 x (by omega)) hG.2.2.2.2.2.2.2, g'⟩
      · exact mP_c (n := n) (g2 _ (by omega)) (g2 _ (by omega)) (fun x hx => g2 x (by omega)) (e2 j hj)
