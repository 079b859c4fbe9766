/-! THE CLASS: a MACHINE runs its PROGRAM: go, its end, all of it -/
theorem sf_go {N Aa : Nat → Int32} {p a nS s : Nat} {E lv : Nat → Nat} {CS : List Nat} (hg : gS N p Aa E lv a CS nS s) (e : sf N p s 0 = nI 0) : ∃ x y, x ≤ 9999 ∧ y ≤ 9999 ∧ sf N p s 1 = nI x ∧ sf N p s 2 = nI y ∧ Aa (3 * E s + 1) = nI x ∧ Aa (3 * E s + 2) = nI y := by
  obtain ⟨⟨o', h1, h2, -, -, h5, -⟩, -⟩ := hg
  have : (0 : Nat) = o' := nI_j (e.symm.trans h2) (by decide) (by omega)
  exact h5 this.symm
theorem rw_fl_na {I : mm_I} {b c k : Nat} {v : Int32} (h : c ≠ b) : rw_fl I b v k c = I c := funext fun _ => rw_fl_ne h
theorem at_iff {w h c x y : Nat} (hw : 0 < w) (hc : c < w * h) : (x < w ∧ y < h ∧ y * w + x = c) ↔ (c % w = x ∧ c / w = y) := by
  constructor
  · rintro ⟨h1, -, h3⟩
    subst h3
    refine ⟨?_, ?_⟩
    · rw [Nat.add_comm, Nat.add_mul_mod_self_right, Nat.mod_eq_of_lt h1]
    · rw [Nat.add_comm, Nat.add_mul_div_right _ _ hw, Nat.div_eq_of_lt h1, Nat.zero_add]
  · rintro ⟨h1, h2⟩
    subst h1 h2
    refine ⟨Nat.mod_lt _ hw, (Nat.div_lt_iff_lt_mul hw).mpr (by rw [Nat.mul_comm]; exact hc), ?_⟩
    have := Nat.mod_add_div c w
    rw [Nat.mul_comm w] at this
    omega
theorem soN_gs {J K : mm_I} {n m p s b : Nat} (hK : K 201 = J 201) (hb : b < 1000) : op_gs J K n m p s (nI b) 201 = soN (J 201) n m b := by
  unfold op_gs soN
  rw [if_neg (nI_pos (by omega)), vv_nI (by omega)]
  by_cases c : sp_mo (J 201) (nI b) n < 0 ∧ gs_c (J 201) b ≤ J 201 (630 + 40 * m + 2)
  · rw [if_pos c, if_pos c, costs_201, up_201, hK, upd_n (by omega), upd_n (by omega)]
  · rw [if_neg c, if_neg c, hK]
theorem kx_so {N : Nat → Int32} {n m b : Nat} (hm : m < 5) : keepX m (soN N n m b) N := by
  unfold soN
  split
  · exact kx_u (kx_u (kx_u (fun _ _ => rfl) (by omega)) (by omega)) (by omega)
  · exact fun _ _ => rfl
set_option maxRecDepth 100000 in
set_option maxHeartbeats 600000 in
theorem rn_0 {g : mm_G} {d : Nat} {w h n l k o r : Nat} {A A0 J : mm_I} {N : Nat → Int32} {m p a nS c qq z wh b v la lb j q x s kk : Nat} {E lv : Nat → Nat} {Aa : Nat → Int32} {CS : List Nat} {L : List Nat} {Q : Option Value → mm_Sh → mm_I → Prop} (hz : zOK (w * h) n l k o r) (hcx : cxN N w h n m c qq z wh b v la lb) (hm : m < n) (hpg : pgX N m p a nS E lv Aa CS) (hj : j < 50) (hq9 : q ≤ 900) (hd : 7 ≤ d) (hA : axA A p a Aa CS) (hX : eqX m (J 201) N) (hpl : A (36 + 3 * m) 7 = nI (E s)) (hat : J 201 (630 + 40 * m + 7) = nI s) (hS : plS (J 201) (A (37 + 3 * m + 1)) m p E lv Aa nS x s L) (hF : frA m A0 A) (h0 : sf (J 201) p s 0 = nI 0) (hQ : ∀ A', rnP A0 A' (op_go w h n m c wh p (kk + 1) J 201) m p a nS E lv Aa → Q none sh_S (cN (w * h) n l k o r A' (op_go w h n m c wh p (kk + 1) J 201))) (hih : ∀ (A' J' : mm_I) (x' : Nat), axA A' p a Aa CS → eqX m (J' 201) N → A' (36 + 3 * m) 7 = nI x' → x' ≤ 40 → plR (J' 201) (A' (37 + 3 * m + 1)) m p E lv a Aa nS x' → frA m A0 A' → op_go w h n m c wh p (kk + 1) J 201 = op_go w h n m c wh p kk J' 201 → mm_Ex g zX6_runScript d (0, 0) (0, 0) sh_S (cN (w * h) n l k o r A' N) 41 [(4, .int (nI (q + 1))), (3, .int (nI (j + 1))), (0, .ref 171), (1, .ref (36 + 3 * m)), (2, .ref (52 + 5 * p))] [] Q) : mm_Ex g zX6_runScript d (0, 0) (0, 0) sh_S (cN (w * h) n l k o r A N) 41 [(4, .int (nI (q))), (3, .int (nI (j))), (0, .ref 171), (1, .ref (36 + 3 * m)), (2, .ref (52 + 5 * p))] [] Q := by
  obtain ⟨hz1, hz2, hz3, hz4, hz5, hz6⟩ := id hz
  obtain ⟨hp, ha, hnS, hcs, h6, hco, hgq⟩ := id hpg
  have hm5 : m < 5 := by omega
  have hgS := (hgq _ hX).1
  have hs := hS.1
  obtain ⟨f1, f2, f3⟩ := sf_nI (hgS s hs) h0 (by decide)
  have n10 : ¬ sf (J 201) p s 0 = 10 := by rw [h0]; decide
  obtain ⟨m1, m2⟩ := plS_m1 hS n10
  obtain ⟨hW, ⟨h1, hcc⟩, ⟨h2, hq1, hq100⟩, ⟨h4, hz10⟩, ⟨h5, hwh⟩, ⟨hb, hb31⟩, ⟨h12, hv31⟩, ⟨hla1, hla2, hla3, hlb⟩, hD, hK, hQm, hC, hB⟩ := id hcx
  have hc80 := mo_W_c hW
  have hc0 : A (54 + 5 * p) (3 * E s) = 1 := (hA.2.1 _ (by omega)).trans f1
  have hw0 : 0 < w := by have := hW.2.2.1; omega
  obtain ⟨u, v', hu9, hv9, e1, e2, a1, a2⟩ := sf_go (hgS s hs) h0
  have hc1 : A (54 + 5 * p) (3 * E s + 1) = nI u := (hA.2.1 _ (by omega)).trans a1
  have hc2 : A (54 + 5 * p) (3 * E s + 2) = nI v' := (hA.2.1 _ (by omega)).trans a2
  have hcx2 := cx_c hcx hz2 hm5 hX
  obtain ⟨hW2, ⟨k1, -⟩, ⟨k2, -, -⟩, -, -, -, -, -, kD, kK, -, -, -⟩ := hcx2
  have nsL : ¬ s ∈ L := fun q => by have := (ch_in hnS hgS L s hs hS.2.1 s q).1; omega
  have hcl := climb (m := m) (LF := A (37 + 3 * m + 1)) hnS hgS ((hgq _ hX).2) (s + 1) s L (E s + 1) 32 (by omega) hs hS.2.1 m1 hS.2.2.2.1 (f3 (by decide))
  have ego : op_go w h n m c wh p (kk + 1) J = if go_th (J 201) m p s then op_go w h n m c wh p kk (mm_up J 201 (630 + 40 * m + 7) (bh (J 201) p 32 s)) else op_goes J w h n m p s c := by
    rw [op_go, if_neg (by rw [hat]; exact nI_pos (by omega)), hat, vv_nI (by omega), h0, vv_nI (by decide)]
    unfold op_gos
    rw [if_pos rfl]
  have hlt1 : ∀ i j : Nat, i ≤ 9999 → j ≤ 9999 → (nI i < nI j ↔ i < j) := fun i j h1 h2 => nI_ltI (by omega) (by omega)
  have hw9 : w ≤ 9999 := by have := hW.2.2.2.1; omega
  have hh9 : h ≤ 9999 := by have := hW.2.2.2.2.2; omega
  have hth : go_th (J 201) m p s ↔ (c % w = u ∧ c / w = v') := by
    unfold go_th
    rw [e1, e2, hW2.1, hW2.2.1, k1, hlt1 _ _ hu9 hw9, hlt1 _ _ hv9 hh9, ← at_iff hw0 hcc]
    constructor
    · rintro ⟨q1, q2, q3⟩
      refine ⟨q1, q2, ?_⟩
      rw [pk_mul, nI_add] at q3
      have hg := sp_goal q1 q2
      exact (nI_eq (by omega) (by omega)).mp q3
    · rintro ⟨q1, q2, q3⟩
      exact ⟨q1, q2, by rw [pk_mul, nI_add, q3]⟩
  have eJ : ∀ K : mm_I, K 201 = J 201 → mm_up K 201 (630 + 40 * m + 7) (bh (J 201) p 32 s) 201 = upd (J 201) (630 + 40 * m + 7) (bh (J 201) p 32 s) := fun K hK => by rw [up_201, hK]
  have hXb : eqX m (upd (J 201) (630 + 40 * m + 7) (bh (J 201) p 32 s)) N := eqX_u hX (by omega)
  by_cases c0 : c % w = u ∧ c / w = v'
  · rw [if_pos (hth.mpr c0)] at ego
    refine lg_pG hz hW hm hp ha hj hA hpl f2 hq9 hd h1 hcc hu9 hv9 c0 hc0 hc1 hc2 ?_
    refine hih _ (mm_up J 201 (630 + 40 * m + 7) (bh (J 201) p 32 s)) (E s + 1) (axA_c hA (fun x h1 h2 => mm_up_a (by omega))) (by rw [eJ J rfl]; exact hXb) mm_up_at (by omega) ?_ (fun b hb => (mm_up_a (by omega)).trans (hF b hb)) (by rw [ego])
    rw [eJ J rfl]
    exact plR_up hnS hp hm5 hgS hcl (fun j _ => by rw [mm_up_ne (by omega)])
  · rw [if_neg (fun q => c0 (hth.mp q))] at ego
    by_cases cO : u < w ∧ v' < h
    · have cO' : sf (J 201) p s 1 < J 201 0 ∧ sf (J 201) p s 2 < J 201 1 := by rw [e1, e2, hW2.1, hW2.2.1, hlt1 _ _ hu9 hw9, hlt1 _ _ hv9 hh9]; exact cO
      unfold op_goes at ego
      rw [if_pos cO', e1, e2, vv_nI (by omega), vv_nI (by omega)] at ego
      have hbf : bf_m J (bf_r J w h (v' * w + u)) 201 = J 201 := rfl
      rcases gs_in (f := (bf_r J w h (v' * w + u)).1) hw0 hcc 4 with eb | ⟨bb, hbb, eb⟩
      · have e201 : op_go w h n m c wh p (kk + 1) J 201 = upd (J 201) (630 + 40 * m + 7) (bh (J 201) p 32 s) := by
          rw [ego, eb]; unfold op_gs; rw [if_pos (by decide), eJ _ hbf]
        rw [e201] at hQ
        rw [← cN_x (A := A) hz hm5 hX]
        refine lg_tGN hz hW2 hm hp ha hj hA hpl f2 hq9 hd k1 hcc hu9 hv9 c0 (J := J) rfl cO.1 cO.2 (by rw [eb]; decide) hc0 hc1 hc2 ?_
        rw [cN_x hz hm5 hX, ← cN_x (A := bcM (mm_up A (36 + 3 * m) 7 (nI (E s + 1))) (J 201) w h (v' * w + u)) hz hm5 hXb]
        refine hQ _ ⟨fun b hb => by rw [bcM_a (by omega), mm_up_a (by omega)]; exact hF b hb, Or.inr ⟨(hXb _ (by omega)).trans h6, E s + 1, by omega, by rw [bcM_a (by omega)]; exact mm_up_at, ?_⟩⟩
        rw [bcM_a (by omega)]
        exact plR_up hnS hp hm5 hgS hcl (fun j _ => by rw [mm_up_ne (by omega)])
      · have e201 : op_go w h n m c wh p (kk + 1) J 201 = soN (J 201) n m bb := by
          rw [ego, eb, soN_gs hbf (by omega)]
        rw [e201] at hQ
        rw [← cN_x (A := A) hz hm5 hX]
        refine lg_tGY hz hW2 hm hp ha hj hA hpl f2 hq9 hd k1 hcc hu9 hv9 c0 (J := J) rfl cO.1 cO.2 eb hbb k2 hq100 kD kK hc0 hc1 hc2 ?_
        have hkx := kx_so (N := J 201) (n := n) (m := m) (b := bb) hm5
        refine hQ _ ⟨fun b hb => by rw [mm_up_a (by omega), bcM_a (by omega), mm_up_a (by omega)]; exact hF b hb, Or.inr ⟨(hkx _ (by omega)).trans ((hX _ (by omega)).trans h6), E s, by omega, mm_up_at, ?_⟩⟩
        refine plR_k (CS := CS) hnS hp hgS (LF := A (37 + 3 * m + 1)) (Or.inr ⟨s, L, hat, hs, hS.2.1, fun u hu hu1 _ => m1 u hu hu1, hS.2.2.2.1, Or.inl ⟨m1 s (by omega) nsL, by unfold en; rw [if_neg n10]; exact LdP_0 5⟩⟩) hkx (fun j _ => by rw [mm_up_ne (by omega), bcM_a (by omega), mm_up_ne (by omega)])
    · have cO' : ¬ (sf (J 201) p s 1 < J 201 0 ∧ sf (J 201) p s 2 < J 201 1) := by rw [e1, e2, hW2.1, hW2.2.1, hlt1 _ _ hu9 hw9, hlt1 _ _ hv9 hh9]; exact cO
      unfold op_goes at ego
      rw [if_neg cO'] at ego
      have e201 : op_go w h n m c wh p (kk + 1) J 201 = upd (J 201) (630 + 40 * m + 7) (bh (J 201) p 32 s) := by rw [ego, eJ J rfl]
      rw [e201] at hQ
      rw [← cN_x (A := A) hz hm5 hX]
      refine lg_tGO hz hW2 hm hp ha hj hA hpl f2 hq9 hd k1 hcc hu9 hv9 c0 (J := J) rfl (by omega) hc0 hc1 hc2 ?_
      rw [cN_x hz hm5 hX, ← cN_x (A := mm_up A (36 + 3 * m) 7 (nI (E s + 1))) hz hm5 hXb]
      refine hQ _ ⟨fun b hb => (mm_up_a (by omega)).trans (hF b hb), Or.inr ⟨(hXb _ (by omega)).trans h6, E s + 1, by omega, mm_up_at, ?_⟩⟩
      exact plR_up hnS hp hm5 hgS hcl (fun j _ => by rw [mm_up_ne (by omega)])
set_option maxRecDepth 100000 in
set_option maxHeartbeats 600000 in
theorem rn_all {g : mm_G} {d : Nat} {w h n l k o r : Nat} {A0 : mm_I} {N : Nat → Int32} {m p a nS c qq z wh b v la lb : Nat} {E lv : Nat → Nat} {Aa : Nat → Int32} {CS : List Nat} {Q : Option Value → mm_Sh → mm_I → Prop} (hz : zOK (w * h) n l k o r) (hcx : cxN N w h n m c qq z wh b v la lb) (hm : m < n) (hpg : pgX N m p a nS E lv Aa CS) (hd : 7 ≤ d) : ∀ (kk j q x : Nat) (A J : mm_I), j + kk = 50 → q ≤ 7 * j → axA A p a Aa CS → eqX m (J 201) N → A (36 + 3 * m) 7 = nI x → x ≤ 40 → plR (J 201) (A (37 + 3 * m + 1)) m p E lv a Aa nS x → frA m A0 A → (∀ A', rnP A0 A' (op_go w h n m c wh p kk J 201) m p a nS E lv Aa → Q none sh_S (cN (w * h) n l k o r A' (op_go w h n m c wh p kk J 201))) → mm_Ex g zX6_runScript d (0, 0) (0, 0) sh_S (cN (w * h) n l k o r A N) 41 [(4, .int (nI (q))), (3, .int (nI (j))), (0, .ref 171), (1, .ref (36 + 3 * m)), (2, .ref (52 + 5 * p))] [] Q := by
  obtain ⟨hz1, hz2, hz3, hz4, hz5, hz6⟩ := id hz
  obtain ⟨hp, ha, hnS, hcs, h6, hco, hgq⟩ := id hpg
  have hm5 : m < 5 := by omega
  intro kk
  induction kk with
  | zero =>
    intro j q x A J hj hq hA hX hpl hx hR hF hQ
    have : j = 50 := by omega
    subst this
    refine lg_fif hz hcx.1 hm hp (by omega) ?_
    rw [← cN_x (A := A) hz hm5 hX]
    exact hQ A ⟨hF, Or.inr ⟨(hX _ (by omega)).trans h6, x, hx, hpl, hR⟩⟩
  | succ kk ih =>
    intro j q x A J hj hq hA hX hpl hx hR hF hQ
    have hih : ∀ q0, q0 ≤ q + 6 → ∀ (A' J' : mm_I) (x' : Nat), axA A' p a Aa CS → eqX m (J' 201) N → A' (36 + 3 * m) 7 = nI x' → x' ≤ 40 → plR (J' 201) (A' (37 + 3 * m + 1)) m p E lv a Aa nS x' → frA m A0 A' → op_go w h n m c wh p (kk + 1) J 201 = op_go w h n m c wh p kk J' 201 → mm_Ex g zX6_runScript d (0, 0) (0, 0) sh_S (cN (w * h) n l k o r A' N) 41 [(4, .int (nI (q0 + 1))), (3, .int (nI (j + 1))), (0, .ref 171), (1, .ref (36 + 3 * m)), (2, .ref (52 + 5 * p))] [] Q := by
      intro q0 hq0 A' J' x' i1 i2 i3 i4 i5 i6 i7
      refine ih (j + 1) (q0 + 1) x' A' J' (by omega) (by omega) i1 i2 i3 i4 i5 i6 ?_
      rw [← i7]; exact hQ
    have hgS := (hgq _ hX).1
    rcases hR with ⟨hat, hL⟩ | ⟨s, L, hat, hS⟩
    · have ego : op_go w h n m c wh p (kk + 1) J 201 = upd (J 201) (630 + 40 * m + 6) (-1) := by
        rw [op_go, if_pos (by rw [hat]; decide), up_201]
      rw [ego] at hQ
      refine lg_nav hz hcx.1 hm hp ha (by omega) (by omega) 5 x q A hA hpl hx hL (by omega) (fun q' A' hq' hA' hp' => ?_)
      refine lg_end hz hcx.1 hm hp ha (by omega) (axA_c hA (fun x h1 h2 => hA' x (by omega))) hp' (by omega) hd ?_
      have hXu : eqX m (upd (J 201) (630 + 40 * m + 6) (-1)) (upd N (630 + 40 * m + 6) (-1)) := fun y hy => by unfold upd; rw [hX y hy]
      rw [← cN_x (A := bsA A' m) hz hm5 hXu]
      refine hQ _ ⟨fun b hb => ?_, Or.inl upd_y⟩
      unfold bsA
      rw [rw_fl_na (by omega), mm_up_a (by omega), mm_up_a (by omega), hA' b (by omega)]
      exact hF b hb
    · have hs := hS.1
      obtain ⟨o', ho, e0⟩ : ∃ o', o' ≤ 10 ∧ sf (J 201) p s 0 = nI o' := by
        obtain ⟨⟨o', h1, h2, -⟩, -⟩ := hgS s hs
        exact ⟨o', h1, h2⟩
      by_cases e10 : o' = 10
      · subst e10
        obtain ⟨s1, s2, s3, s4, s5⟩ := id hS
        obtain ⟨v0, v1, v2, v3, l4, -, t1, t2, t3⟩ := sf_rp (hgS s hs) e0
        have hEs := (sf_nI (hgS s hs) e0 (by decide)).2.1
        have hlvn : ∀ u, u ∈ L → ¬ lv u = lv s := fun u hu => by have := (ch_in hnS hgS L s hs s2 u hu).2; omega
        rcases s5 with ⟨q1, q2⟩ | ⟨-, v, q1, q2, q3, q4⟩
        · have een : en (J 201) p E s = E s - 1 := by unfold en; rw [if_pos (show sf (J 201) p s 0 = 10 from e0)]
          rw [een] at q2
          refine lg_nav hz hcx.1 hm hp ha (by omega) (by omega) 5 x q A hA hpl hx q2 (by omega) (fun q' A' hq' hA' hp' => ?_)
          have hA2 := axA_c hA (fun x h1 h2 => hA' x (by omega))
          refine lg_pS hz hcx.1 hm hp ha (by omega) hA2 hp' (by omega) (by omega) hd l4 ((hA2.2.1 _ (by omega)).trans t1) ((hA2.2.1 _ (by omega)).trans t2) ((hA2.2.1 _ (by omega)).trans t3) ?_
          have hj0 : j + 0 = j := rfl
          rw [hj0]
          refine rn_10 (A := mm_up (mm_up A' (36 + 3 * m) 7 (nI (E s - 1 + 1))) (37 + 3 * m + 1) (lv s) (nI v0)) (J := J) (x := x) (s := s) (L := L) (kk := kk) (vl := v0) hz hcx hm hpg (by omega) (by omega) hd (axA_c hA2 (fun x h1 h2 => by rw [mm_up_a (by omega), mm_up_a (by omega)])) hX (by rw [mm_up_ne (by omega), mm_up_at]; congr 1; omega) hat hs s2 s3 (fun u hu => ?_) v1 ?_ mm_up_at (fun b hb => by rw [mm_up_a (by omega), mm_up_a (by omega), hA' b (by omega)]; exact hF b hb) e0 (hih (q' + 1) (by omega))
          · rw [mm_up_ni (hlvn u hu), mm_up_ne (by omega), hA' _ (by omega)]; exact s4 u hu
          · unfold sp_lf; rw [q1, if_neg (by decide)]; exact v2
        · refine lg_nav hz hcx.1 hm hp ha (by omega) (by omega) 5 x q A hA hpl hx q4 (by omega) (fun q' A' hq' hA' hp' => ?_)
          have hA2 := axA_c hA (fun x h1 h2 => hA' x (by omega))
          refine rn_10 (A := A') (J := J) (x := x) (s := s) (L := L) (kk := kk) (vl := v) hz hcx hm hpg (by omega) (by omega) hd hA2 hX hp' hat hs s2 s3 (fun u hu => by rw [hA' _ (by omega)]; exact s4 u hu) q1 ?_ (by rw [hA' _ (by omega)]; exact q3) (fun b hb => (hA' b (by omega)).trans (hF b hb)) e0 (hih q' (by omega))
          unfold sp_lf; rw [q2, if_pos (nI_pos' (by omega))]
      · have n10 : ¬ sf (J 201) p s 0 = 10 := fun q => e10 (nI_j (e0.symm.trans q) (by omega) (by decide))
        obtain ⟨m1, m2⟩ := plS_m1 hS n10
        refine lg_nav hz hcx.1 hm hp ha (by omega) (by omega) 5 x q A hA hpl hx m2 (by omega) (fun q' A' hq' hA' hp' => ?_)
        have hA2 := axA_c hA (fun x h1 h2 => hA' x (by omega))
        have hS' : plS (J 201) (A' (37 + 3 * m + 1)) m p E lv Aa nS x s L := by rw [hA' _ (by omega)]; exact hS
        have hF' : frA m A0 A' := fun b hb => (hA' b (by omega)).trans (hF b hb)
        rcases show o' = 0 ∨ o' = 1 ∨ o' = 2 ∨ o' = 3 ∨ o' = 4 ∨ o' = 5 ∨ o' = 6 ∨ o' = 7 ∨ o' = 8 ∨ o' = 9 by omega with e | e | e | e | e | e | e | e | e | e <;> subst e
        · exact rn_0 hz hcx hm hpg (by omega) (by omega) hd hA2 hX hp' hat hS' hF' e0 hQ (hih q' (by omega))
        · exact rn_t1 hz hcx hm hpg (by omega) (by omega) hd hA2 hX hp' hat hS' hF' e0 hQ
        · exact rn_t2 hz hcx hm hpg (by omega) (by omega) hd hA2 hX hp' hat hS' hF' e0 hQ
        · exact rn_t3 hz hcx hm hpg (by omega) (by omega) hd hA2 hX hp' hat hS' hF' e0 hQ
        · exact rn_t4 hz hcx hm hpg (by omega) (by omega) hd hA2 hX hp' hat hS' hF' e0 hQ
        · exact rn_t5 hz hcx hm hpg (by omega) (by omega) hd hA2 hX hp' hat hS' hF' e0 hQ
        · exact rn_t6 hz hcx hm hpg (by omega) (by omega) hd hA2 hX hp' hat hS' hF' e0 hQ
        · exact rn_7 hz hcx hm hpg (by omega) (by omega) hd hA2 hX hp' hat hS' hF' e0 hQ (hih q' (by omega))
        · exact rn_8 hz hcx hm hpg (by omega) (by omega) hd hA2 hX hp' hat hS' hF' e0 (hih q' (by omega))
        · exact rn_9 hz hcx hm hpg (by omega) (by omega) hd hA2 hX hp' hat hS' hF' e0 (hih q' (by omega))
