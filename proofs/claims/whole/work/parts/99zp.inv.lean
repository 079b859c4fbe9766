/-! What holds of the row all along: MACHINES, CELLS, THE BANK, PARTS -/
def mf1 (N : Nat → Int32) (c i : Nat) : Prop := (∃ a, a ≤ 3 ∧ N (630 + 40 * i + 0) = nI a) ∧ (∃ x, x < c ∧ N (630 + 40 * i + 1) = nI x) ∧ (∃ q, q ≤ 100 ∧ N (630 + 40 * i + 2) = nI q) ∧ (∃ v, v ≤ 100 ∧ N (630 + 40 * i + 3) = nI v) ∧ (∃ z, z ≤ 10 ∧ N (630 + 40 * i + 4) = nI z) ∧ ∃ u, u ≤ 1 ∧ N (630 + 40 * i + 5) = nI u
def gK (N : Nat → Int32) (c : Nat) : Prop := ∀ x, x < c → ∃ q, q ≤ 4 ∧ N (30 + x) = nI q ∧ (q = 4 ↔ x = 0)
def iT (N : Nat → Int32) (w h n : Nat) : Prop := mo_W N w h ∧ (∀ i, i < n → mf1 N (w * h) i) ∧ mo_D N n ∧ gK N (w * h) ∧ (∃ b, b ≤ 9999 ∧ N 4 = nI b) ∧ ∃ v, v ≤ 9999 ∧ N 12 = nI v
theorem mf1_c {N N' : Nat → Int32} {c i : Nat} (h : mf1 N c i) (e : ∀ j, j < 6 → N' (630 + 40 * i + j) = N (630 + 40 * i + j)) : mf1 N' c i := by
  obtain ⟨⟨a, a1, a2⟩, ⟨b, b1, b2⟩, ⟨c, c1, c2⟩, ⟨d, d1, d2⟩, ⟨f, f1, f2⟩, ⟨g, g1, g2⟩⟩ := h
  exact ⟨⟨a, a1, (e 0 (by decide)).trans a2⟩, ⟨b, b1, (e 1 (by decide)).trans b2⟩, ⟨c, c1, (e 2 (by decide)).trans c2⟩, ⟨d, d1, (e 3 (by decide)).trans d2⟩, ⟨f, f1, (e 4 (by decide)).trans f2⟩, ⟨g, g1, (e 5 (by decide)).trans g2⟩⟩
theorem iT_m {N N' : Nat → Int32} {w h n m : Nat} (H : iT N w h n) (h0 : N' 0 = N 0) (h1 : N' 1 = N 1) (hk : ∀ x, x < 80 → N' (30 + x) = N (30 + x)) (ho : ∀ i j, i < n → ¬ i = m → j < 6 → N' (630 + 40 * i + j) = N (630 + 40 * i + j)) (hc : N' (630 + 40 * m + 1) = N (630 + 40 * m + 1)) (hf : m < n → mf1 N' (w * h) m) (hb : ∃ b, b ≤ 9999 ∧ N' 4 = nI b) (hv : ∃ v, v ≤ 9999 ∧ N' 12 = nI v) : iT N' w h n := by
  obtain ⟨hW, hM, hD, hK, -, -⟩ := H
  have hcc := mo_W_c hW
  have e1 : ∀ i, i < n → N' (630 + 40 * i + 1) = N (630 + 40 * i + 1) := fun i hi => by
    by_cases e : i = m
    · rw [e]; exact hc
    · exact ho i 1 hi e (by decide)
  refine ⟨⟨h0.trans hW.1, h1.trans hW.2.1, hW.2.2⟩, fun i hi => ?_, fun i j h1 h2 => ?_, fun x hx => ?_, hb, hv⟩
  · by_cases e : i = m
    · rw [e] at hi ⊢; exact hf hi
    · exact mf1_c (hM i hi) (fun j hj => ho i j hi e hj)
  · rw [e1 i (by omega), e1 j h2]; exact hD i j h1 h2
  · rw [hk x (by omega)]; exact hK x hx
theorem iT_e {N N' : Nat → Int32} {w h n : Nat} (H : iT N w h n) (e : ∀ y, (y = 0 ∨ y = 1 ∨ y = 4 ∨ y = 12 ∨ (30 ≤ y ∧ y < 110) ∨ (630 ≤ y ∧ (y - 630) % 40 < 6)) → N' y = N y) : iT N' w h n := by
  have H' := H
  obtain ⟨hW, hM, hD, hK, ⟨b, b1, b2⟩, ⟨v, v1, v2⟩⟩ := H
  exact iT_m (m := n) H' (e 0 (by omega)) (e 1 (by omega)) (fun x hx => e _ (by omega)) (fun i j _ _ _ => e _ (by omega)) (e _ (by omega)) (fun q => absurd q (Nat.lt_irrefl _)) ⟨b, b1, (e 4 (by omega)).trans b2⟩ ⟨v, v1, (e 12 (by omega)).trans v2⟩
theorem iT_x {N : Nat → Int32} {w h n x : Nat} {v : Int32} (H : iT N w h n) (hx : ¬ (x = 0 ∨ x = 1 ∨ x = 4 ∨ x = 12 ∨ (30 ≤ x ∧ x < 110) ∨ (630 ≤ x ∧ (x - 630) % 40 < 6))) : iT (upd N x v) w h n := iT_e H (fun y hy => upd_n (fun e => hx (e ▸ hy)))
theorem iT_b {N : Nat → Int32} {w h n b : Nat} (H : iT N w h n) (hb : b ≤ 9999) : iT (upd N 4 (nI b)) w h n := by
  have H' := H
  obtain ⟨hW, hM, hD, hK, -, ⟨v, v1, v2⟩⟩ := H
  exact iT_m (m := n) H' (upd_n (by omega)) (upd_n (by omega)) (fun x hx => upd_n (by omega)) (fun i j _ _ _ => upd_n (by omega)) (upd_n (by omega)) (fun q => absurd q (Nat.lt_irrefl _)) ⟨b, hb, upd_y⟩ ⟨v, v1, (upd_n (by omega)).trans v2⟩
theorem iT_p {N : Nat → Int32} {w h n v : Nat} (H : iT N w h n) (hv : v ≤ 9999) : iT (upd N 12 (nI v)) w h n := by
  have H' := H
  obtain ⟨hW, hM, hD, hK, ⟨b, b1, b2⟩, -⟩ := H
  exact iT_m (m := n) H' (upd_n (by omega)) (upd_n (by omega)) (fun x hx => upd_n (by omega)) (fun i j _ _ _ => upd_n (by omega)) (upd_n (by omega)) (fun q => absurd q (Nat.lt_irrefl _)) ⟨b, b1, (upd_n (by omega)).trans b2⟩ ⟨v, hv, upd_y⟩
/-- a MACHINE's CHARGE, WEAR, what it carries -/
theorem iT_f {N : Nat → Int32} {w h n m j v : Nat} (H : iT N w h n) (hj : (j = 2 ∧ v ≤ 100) ∨ (j = 3 ∧ v ≤ 100) ∨ (j = 4 ∧ v ≤ 10) ∨ (j = 5 ∧ v ≤ 1)) : iT (upd N (630 + 40 * m + j) (nI v)) w h n := by
  have H' := H
  obtain ⟨hW, hM, hD, hK, ⟨b, b1, b2⟩, ⟨p, p1, p2⟩⟩ := H
  refine iT_m (m := m) H' (upd_n (by omega)) (upd_n (by omega)) (fun x hx => upd_n (by omega)) (fun i j _ _ _ => upd_n (by omega)) (upd_n (by omega)) (fun hm => ?_) ⟨b, b1, (upd_n (by omega)).trans b2⟩ ⟨p, p1, (upd_n (by omega)).trans p2⟩
  obtain ⟨⟨a, a1, a2⟩, ⟨b, b1, b2⟩, ⟨c, c1, c2⟩, ⟨d, d1, d2⟩, ⟨f, f1, f2⟩, ⟨g, g1, g2⟩⟩ := hM m hm
  refine ⟨⟨a, a1, (upd_n (by omega)).trans a2⟩, ⟨b, b1, (upd_n (by omega)).trans b2⟩, ?_, ?_, ?_, ?_⟩
  · by_cases e : j = 2
    · subst e; exact ⟨v, by omega, upd_y⟩
    · exact ⟨c, c1, (upd_n (by omega)).trans c2⟩
  · by_cases e : j = 3
    · subst e; exact ⟨v, by omega, upd_y⟩
    · exact ⟨d, d1, (upd_n (by omega)).trans d2⟩
  · by_cases e : j = 4
    · subst e; exact ⟨v, by omega, upd_y⟩
    · exact ⟨f, f1, (upd_n (by omega)).trans f2⟩
  · by_cases e : j = 5
    · subst e; exact ⟨v, by omega, upd_y⟩
    · exact ⟨g, g1, (upd_n (by omega)).trans g2⟩
/-- a MACHINE comes to a CELL that is free -/
theorem iT_c {N : Nat → Int32} {w h n m b : Nat} (H : iT N w h n) (hb : b < w * h) (hno : ∀ i, i < n → ¬ N (630 + 40 * i + 1) = nI b) : iT (upd N (630 + 40 * m + 1) (nI b)) w h n := by
  obtain ⟨hW, hM, hD, hK, ⟨x, x1, x2⟩, ⟨p, p1, p2⟩⟩ := H
  refine ⟨⟨(upd_n (by omega)).trans hW.1, (upd_n (by omega)).trans hW.2.1, hW.2.2⟩, fun i hi => ?_, fun i j h1 h2 => ?_, fun x hx => ?_, ⟨x, x1, (upd_n (by omega)).trans x2⟩, ⟨p, p1, (upd_n (by omega)).trans p2⟩⟩
  · by_cases e : i = m
    · subst e
      obtain ⟨⟨a, a1, a2⟩, ⟨b', b1, b2⟩, ⟨c, c1, c2⟩, ⟨d, d1, d2⟩, ⟨f, f1, f2⟩, ⟨g, g1, g2⟩⟩ := hM i hi
      exact ⟨⟨a, a1, (upd_n (by omega)).trans a2⟩, ⟨b, hb, upd_y⟩, ⟨c, c1, (upd_n (by omega)).trans c2⟩, ⟨d, d1, (upd_n (by omega)).trans d2⟩, ⟨f, f1, (upd_n (by omega)).trans f2⟩, ⟨g, g1, (upd_n (by omega)).trans g2⟩⟩
    · exact mf1_c (hM i hi) (fun j hj => upd_n (by omega))
  · by_cases e : i = m
    · subst e; rw [upd_y, upd_n (by omega)]; exact fun q => hno j h2 q.symm
    · by_cases e2 : j = m
      · subst e2; rw [upd_y, upd_n (by omega)]; exact hno i (by omega)
      · rw [upd_n (by omega), upd_n (by omega)]; exact hD i j h1 h2
  · have hcc := mo_W_c hW
    rw [upd_n (by omega)]; exact hK x hx
/-- a ROAD is made -/
theorem iT_k {N : Nat → Int32} {w h n c v : Nat} (H : iT N w h n) (hc : ¬ c = 0) (hc8 : c < w * h) (hv : v ≤ 3) : iT (upd N (30 + c) (nI v)) w h n := by
  obtain ⟨hW, hM, hD, hK, ⟨x, x1, x2⟩, ⟨p, p1, p2⟩⟩ := H
  have hcc := mo_W_c hW
  refine ⟨⟨(upd_n (by omega)).trans hW.1, (upd_n (by omega)).trans hW.2.1, hW.2.2⟩, fun i hi => mf1_c (hM i hi) (fun j hj => upd_n (by omega)), fun i j h1 h2 => ?_, fun x hx => ?_, ⟨x, x1, (upd_n (by omega)).trans x2⟩, ⟨p, p1, (upd_n (by omega)).trans p2⟩⟩
  · rw [upd_n (by omega), upd_n (by omega)]; exact hD i j h1 h2
  · by_cases e : x = c
    · subst e; exact ⟨v, by omega, upd_y, by omega⟩
    · rw [upd_n (by omega)]; exact hK x hx
/-- what acts leave alone -/
abbrev frY (m y : Nat) : Prop := y = 2 ∨ y = 3 ∨ (5 ≤ y ∧ y ≤ 9) ∨ (15 ≤ y ∧ y < 30) ∨ (270 ≤ y ∧ y < 630) ∨ 830 ≤ y ∨ (630 ≤ y ∧ y < 830 ∧ ¬ (y - 630) % 40 = 3 ∧ ¬ (631 + 40 * m ≤ y ∧ y < 636 + 40 * m))
def acF (m : Nat) (N' N : Nat → Int32) : Prop := ∀ y, frY m y → N' y = N y
theorem acF_0 {m : Nat} {N : Nat → Int32} : acF m N N := fun _ _ => rfl
theorem acF_u {m x : Nat} {N N' : Nat → Int32} {v : Int32} (h : acF m N' N) (hx : ¬ frY m x) : acF m (upd N' x v) N := fun y hy => (upd_n (y := y) (x := x) (fun e => hx (by rw [← e]; exact hy))).trans (h y hy)
theorem acF_t {m : Nat} {N N' N2 : Nat → Int32} (h : acF m N' N) (h2 : acF m N2 N') : acF m N2 N := fun y hy => (h2 y hy).trans (h y hy)
theorem acF_co {m : Nat} {K : mm_I} {N : Nat → Int32} {c v : Int32} (hm : m < 5) (h : acF m (K 201) N) : acF m (op_costs K m c v 201) N := by
  rw [costs_201]; exact acF_u (acF_u h (by omega)) (by omega)
theorem iT_co {K : mm_I} {w h n m q c e : Nat} (H : iT (K 201) w h n) (hm : m < n) (hq : K 201 (630 + 40 * m + 2) = nI q) (hcq : c ≤ q) (hq1 : q ≤ 100) (he : e ≤ 100) : iT (op_costs K m (nI c) (nI e) 201) w h n := by
  obtain ⟨-, -, -, ⟨v, v1, v2⟩, -⟩ := H.2.1 m hm
  rw [costs_201, hq, pk_sub hcq, v2, nI_add, show (100 : Int32) = nI 100 from rfl, spm (by decide) (by omega)]
  exact iT_f (iT_f H (Or.inl ⟨rfl, by omega⟩)) (Or.inr (Or.inl ⟨rfl, by omega⟩))
theorem ge_nI {q c : Nat} (hq : q ≤ 100) (hc : c ≤ 100) (h : ¬ nI q < nI c) : c ≤ q := Nat.not_lt.mp (fun z => h ((nI_ltI (by omega) (by omega)).mpr z))
theorem min_r {a b : Int32} : sp_min a b ≤ b := by
  by_cases h : b < a
  · rw [show sp_min a b = b from if_pos h]; exact Int32.le_refl _
  · rw [show sp_min a b = a from if_neg h]; exact Int32.not_lt.mp h
theorem iv_sc1 {J : mm_I} {w h n m a wh : Nat} (H : iT (J 201) w h n) (hn : n ≤ 5) (hm : m < n) (ha : 110 ≤ a ∧ a < 270) (hwh : wh ≤ 1) : iT (op_sc1 J m a (nI wh) 201) w h n ∧ acF m (op_sc1 J m a (nI wh) 201) (J 201) := by
  unfold op_sc1
  by_cases c : sc_P J m a (nI wh)
  · rw [if_pos c]
    obtain ⟨-, -, ⟨q, q1, q2⟩, -, ⟨z, z1, z2⟩, -⟩ := H.2.1 m hm
    obtain ⟨e, e1, e2⟩ : ∃ e, e ≤ 10 - z ∧ sc_n J m a = nI e := by
      refine sp_wi_nat _ (by omega) ⟨Int32.le_of_lt c.2.2.2, ?_⟩
      have : (10 : Int32) - J 201 (630 + 40 * m + 4) = nI (10 - z) := by rw [z2, show (10 : Int32) = nI 10 from rfl, pk_sub z1]
      rw [← this]; exact min_r
    have c3 : ¬ nI q < nI 3 := by have := c.2.2.1; rw [q2] at this; exact this
    constructor
    · rw [show (3 : Int32) = nI 3 from rfl, show (2 : Int32) = nI 2 from rfl]
      refine iT_co (q := q) ?_ hm ?_ (ge_nI q1 (by decide) c3) q1 (by decide)
      · rw [up_201, up_201, up_201, z2, e2, nI_add]
        exact iT_f (iT_f (iT_x H (by omega)) (Or.inr (Or.inr (Or.inl ⟨rfl, by omega⟩)))) (Or.inr (Or.inr (Or.inr ⟨rfl, hwh⟩)))
      · rw [up_201, up_201, up_201, upd_n (by omega), upd_n (by omega), upd_n (by omega)]; exact q2
    · exact acF_co (by omega) (by rw [up_201, up_201, up_201]; exact acF_u (acF_u (acF_u acF_0 (by omega)) (by omega)) (by omega))
  · rw [if_neg c]; exact ⟨H, acF_0⟩
theorem iv_sc {J : mm_I} {w h n m c : Nat} (H : iT (J 201) w h n) (hn : n ≤ 5) (hm : m < n) (hc : c < 80) : iT (op_scoops J m c 201) w h n ∧ acF m (op_scoops J m c 201) (J 201) := by
  unfold op_scoops
  split
  · exact iv_sc1 (wh := 1) H hn hm (by omega) (by decide)
  · exact iv_sc1 (wh := 0) H hn hm (by omega) (by decide)
theorem iv_dr1 {J : mm_I} {w h n m a q : Nat} (H : iT (J 201) w h n) (hn : n ≤ 5) (hm : m < n) (ha : a = 10 ∨ a = 11 ∨ (110 ≤ a ∧ a < 270)) (hq : J 201 (630 + 40 * m + 2) = nI q) (hq1 : 1 ≤ q) (q1 : q ≤ 100) : iT (op_dr1 J m a 201) w h n ∧ acF m (op_dr1 J m a 201) (J 201) := by
  unfold op_dr1
  constructor
  · rw [show (1 : Int32) = nI 1 from rfl, show (0 : Int32) = nI 0 from rfl]
    refine iT_co (q := q) ?_ hm ?_ hq1 q1 (by decide)
    · rw [up_201, up_201]
      exact iT_f (iT_x H (by omega)) (Or.inr (Or.inr (Or.inl ⟨rfl, by decide⟩)))
    · rw [up_201, up_201, upd_n (by omega), upd_n (by omega)]; exact hq
  · exact acF_co (by omega) (by rw [up_201, up_201]; exact acF_u (acF_u acF_0 (by omega)) (by omega))
theorem iv_dr {J : mm_I} {w h n m c wh q : Nat} (H : iT (J 201) w h n) (hn : n ≤ 5) (hm : m < n) (hc : c < 80) (hwh : wh ≤ 1) (hq : J 201 (630 + 40 * m + 2) = nI q) (hq1 : 1 ≤ q) (q1 : q ≤ 100) : iT (op_drops J m c wh 201) w h n ∧ acF m (op_drops J m c wh 201) (J 201) := by
  unfold op_drops
  split
  · exact ⟨H, acF_0⟩
  split
  · exact iv_dr1 H hn hm (by omega) hq hq1 q1
  split
  · exact iv_dr1 H hn hm (by omega) hq hq1 q1
  · exact iv_dr1 H hn hm (by omega) hq hq1 q1
theorem iv_fu {J : mm_I} {w h n m c : Nat} (H : iT (J 201) w h n) (hn : n ≤ 5) (hm : m < n) (hc : c < w * h) : iT (op_fuses J m c 201) w h n ∧ acF m (op_fuses J m c 201) (J 201) := by
  have hcc := mo_W_c H.1
  unfold op_fuses
  split
  · rename_i cc
    obtain ⟨-, c6, c0, -⟩ := cc
    obtain ⟨-, -, ⟨q, q1, q2⟩, -⟩ := H.2.1 m hm
    have hc0 : ¬ c = 0 := fun e => by
      obtain ⟨k, k1, k2, k3⟩ := H.2.2.2.1 c hc
      rw [k3.mpr e, c0] at k2; exact absurd k2 (by decide)
    rw [q2] at c6
    constructor
    · rw [show (6 : Int32) = nI 6 from rfl, show (3 : Int32) = nI 3 from rfl]
      refine iT_co (q := q) ?_ hm ?_ (ge_nI q1 (by decide) c6) q1 (by decide)
      · rw [up_201, up_201, up_201]
        exact iT_x (iT_x (iT_k H hc0 hc (by decide)) (by omega)) (by omega)
      · rw [up_201, up_201, up_201, upd_n (by omega), upd_n (by omega), upd_n (by omega)]; exact q2
    · exact acF_co (by omega) (by rw [up_201, up_201, up_201]; exact acF_u (acF_u (acF_u acF_0 (by omega)) (by omega)) (by omega))
  · exact ⟨H, acF_0⟩
theorem iv_ch {J : mm_I} {w h n m c : Nat} (H : iT (J 201) w h n) (hn : n ≤ 5) (hm : m < n) : iT (op_charges J m c 201) w h n ∧ acF m (op_charges J m c 201) (J 201) := by
  unfold op_charges
  split
  · obtain ⟨-, -, ⟨q, q1, q2⟩, -⟩ := H.2.1 m hm
    obtain ⟨b, b1, b2⟩ := H.2.2.2.2.1
    have e : ch_n J m = nI (min 20 (min b (100 - q))) := by
      unfold ch_n
      rw [b2, q2, show (100 : Int32) = nI 100 from rfl, pk_sub q1, spm (by omega) (by omega), show (20 : Int32) = nI 20 from rfl, spm (by decide) (by omega)]
    rw [up_201, up_201, e, b2, q2, pk_sub (by omega), nI_add]
    exact ⟨iT_f (iT_b H (by omega)) (Or.inl ⟨rfl, by omega⟩), acF_u (acF_u acF_0 (by omega)) (by omega)⟩
  · exact ⟨H, acF_0⟩
theorem iv_me {J : mm_I} {w h n m c : Nat} (H : iT (J 201) w h n) (hn : n ≤ 5) (hm : m < n) : iT (op_mends J w h n m c 201) w h n ∧ acF m (op_mends J w h n m c 201) (J 201) := by
  unfold op_mends
  split
  · exact ⟨H, acF_0⟩
  split
  · exact ⟨H, acF_0⟩
  · rename_i c1 c2
    rcases mdw_in (N := J 201) (w := w) (h := h) (c := c) hn H.2.2.1 4 with e | ⟨u, hu, e⟩
    · rw [e] at c2; exact absurd (by decide) c2
    rw [e, vv_nI (by omega)]
    unfold op_md
    obtain ⟨-, -, ⟨q, q1, q2⟩, -⟩ := H.2.1 m hm
    obtain ⟨-, -, -, ⟨x, x1, x2⟩, -⟩ := H.2.1 u hu
    obtain ⟨v, v1, v2⟩ := H.2.2.2.2.2
    have c4 : ¬ nI q < nI 4 := by
      intro z; apply c1; refine Or.inr (Or.inl ?_); rw [q2]; exact z
    have cv : ¬ v = 0 := fun z => c1 (Or.inr (Or.inr (by rw [v2, z]; rfl)))
    have em : sp_max 0 (J 201 (630 + 40 * u + 3) - 30) = nI (x - 30) := by
      rw [x2]
      by_cases c : 30 ≤ x
      · rw [show (30 : Int32) = nI 30 from rfl, pk_sub c]
        by_cases c0 : 0 < x - 30
        · exact if_pos ((nI_ltI (a := 0) (by decide) (by omega)).mpr c0)
        · rw [show x - 30 = 0 by omega]; rfl
      · rw [show x - 30 = 0 by omega]
        refine if_neg ?_
        have : ∀ y : Nat, y < 30 → ¬ (0 : Int32) < nI y - 30 := by decide
        exact this x (by omega)
    rw [em, v2, show (1 : Int32) = nI 1 from rfl, pk_sub (by omega)]
    constructor
    · rw [show (4 : Int32) = nI 4 from rfl, show (0 : Int32) = nI 0 from rfl]
      refine iT_co (q := q) ?_ hm ?_ (ge_nI q1 (by decide) c4) q1 (by decide)
      · rw [up_201, up_201]
        exact iT_p (iT_f H (Or.inr (Or.inl ⟨rfl, by omega⟩))) (by omega)
      · rw [up_201, up_201, upd_n (by omega), upd_n (by omega)]; exact q2
    · exact acF_co (by omega) (by rw [up_201, up_201]; exact acF_u (acF_u acF_0 (by omega)) (by omega))
theorem iv_so {N : Nat → Int32} {w h n m b : Nat} (H : iT N w h n) (hn : n ≤ 5) (hm : m < n) (hb : b < w * h) : iT (soN N n m b) w h n ∧ acF m (soN N n m b) N := by
  unfold soN
  split
  · rename_i cc
    obtain ⟨c1, c2⟩ := cc
    obtain ⟨-, -, ⟨q, q1, q2⟩, ⟨v, v1, v2⟩, -⟩ := H.2.1 m hm
    have hno : ∀ i, i < n → ¬ N (630 + 40 * i + 1) = nI b := fun i hi e => by
      rw [sp_mo_at n H.2.2.1 hi e] at c1
      exact absurd c1 (nI_pos (by omega))
    obtain ⟨k, k1, k2, ek⟩ : ∃ k, 1 ≤ k ∧ k ≤ 2 ∧ gs_c N b = nI k := by
      unfold gs_c
      split
      · exact ⟨1, by decide, by decide, rfl⟩
      · exact ⟨2, by decide, by decide, rfl⟩
    rw [ek, q2] at c2
    have hkq : k ≤ q := (nI_leI (by omega) (by omega)).mp c2
    rw [ek, q2, v2, pk_sub hkq, show (1 : Int32) = nI 1 from rfl, pk_sub k1, nI_add, show (100 : Int32) = nI 100 from rfl, spm (by decide) (by omega)]
    exact ⟨iT_f (iT_f (iT_c H hb hno) (Or.inl ⟨rfl, by omega⟩)) (Or.inr (Or.inl ⟨rfl, by omega⟩)), acF_u (acF_u (acF_u acF_0 (by omega)) (by omega)) (by omega)⟩
  · exact ⟨H, acF_0⟩
