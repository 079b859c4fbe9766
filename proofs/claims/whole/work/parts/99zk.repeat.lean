/-! THE CLASS: a MACHINE runs its PROGRAM: repeat -/
theorem sf_rp {N Aa : Nat → Int32} {p a nS s : Nat} {E lv : Nat → Nat} {CS : List Nat} (hg : gS N p Aa E lv a CS nS s) (e : sf N p s 0 = nI 10) : ∃ v, v ≤ 9999 ∧ sf N p s 1 = nI v ∧ 1 ≤ E s ∧ lv s < 4 ∧ Aa (3 * E s + 1) = nI (lv s) ∧ Aa (3 * (E s - 1)) = 13 ∧ Aa (3 * (E s - 1) + 1) = nI (lv s) ∧ Aa (3 * (E s - 1) + 2) = nI v := by
  obtain ⟨⟨o', h1, h2, -, -, -, -, -, -, h10⟩, -⟩ := hg
  have : (10 : Nat) = o' := nI_j (e.symm.trans h2) (by decide) (by omega)
  exact h10 this.symm
set_option maxRecDepth 100000 in
set_option maxHeartbeats 600000 in
theorem rn_10 {g : mm_G} {d : Nat} {w h n l k o r : Nat} {A A0 J : mm_I} {N : Nat → Int32} {m p a nS c qq z wh b v la lb j q x s kk : Nat} {E lv : Nat → Nat} {Aa : Nat → Int32} {CS : List Nat} {L : List Nat} {Q : Option Value → mm_Sh → mm_I → Prop} (hz : zOK (w * h) n l k o r) (hcx : cxN N w h n m c qq z wh b v la lb) (hm : m < n) (hpg : pgX N m p a nS E lv Aa CS) (hj : j < 50) (hq9 : q ≤ 900) (hd : 7 ≤ d) (hA : axA A p a Aa CS) (hX : eqX m (J 201) N) (hpl : A (36 + 3 * m) 7 = nI (E s)) (hat : J 201 (630 + 40 * m + 7) = nI s) {vl : Nat} (hs : s < nS) (hch : isCh (J 201) p s L) (hm1 : ∀ u, u < 32 → ¬ u ∈ L → ¬ u = s → J 201 (630 + 40 * m + (8 + u)) = -1) (hlr : lfR (J 201) (A (37 + 3 * m + 1)) m p lv L) (hvl : vl ≤ 9999) (hsl : sp_lf (J 201) m p s = nI vl) (hLF : A (37 + 3 * m + 1) (lv s) = nI vl) (hF : frA m A0 A) (h0 : sf (J 201) p s 0 = nI 10) (hih : ∀ (A' J' : mm_I) (x' : Nat), axA A' p a Aa CS → eqX m (J' 201) N → A' (36 + 3 * m) 7 = nI x' → x' ≤ 40 → plR (J' 201) (A' (37 + 3 * m + 1)) m p E lv a Aa nS x' → frA m A0 A' → op_go w h n m c wh p (kk + 1) J 201 = op_go w h n m c wh p kk J' 201 → mm_Ex g zX6_runScript d (0, 0) (0, 0) sh_S (cN (w * h) n l k o r A' N) 41 [(4, .int (nI (q + 1))), (3, .int (nI (j + 1))), (0, .ref 171), (1, .ref (36 + 3 * m)), (2, .ref (52 + 5 * p))] [] Q) : mm_Ex g zX6_runScript d (0, 0) (0, 0) sh_S (cN (w * h) n l k o r A N) 41 [(4, .int (nI (q))), (3, .int (nI (j))), (0, .ref 171), (1, .ref (36 + 3 * m)), (2, .ref (52 + 5 * p))] [] Q := by
  obtain ⟨hz1, hz2, hz3, hz4, hz5, hz6⟩ := id hz
  obtain ⟨hp, ha, hnS, hcs, h6, hco, hgq⟩ := id hpg
  have hm5 : m < 5 := by omega
  have hgS := (hgq _ hX).1
  obtain ⟨f1, f2, f3⟩ := sf_nI (hgS s hs) h0 (by decide)
  obtain ⟨hW, ⟨h1, hcc⟩, ⟨h2, hq1, hq100⟩, ⟨h4, hz10⟩, ⟨h5, hwh⟩, ⟨hb, hb31⟩, ⟨h12, hv31⟩, ⟨hla1, hla2, hla3, hlb⟩, hD, hK, hQm, hC, hB⟩ := id hcx
  have hc0 : A (54 + 5 * p) (3 * E s) = 5 := (hA.2.1 _ (by omega)).trans f1
  obtain ⟨b', b1, b2, b3, b7, b4, y, y1, y2, y3⟩ := sf_bk (hgS s hs) ((hgq _ hX).2 s hs) hnS h0 (by decide)
  obtain ⟨v0, -, -, -, l4, a1, -⟩ := sf_rp (hgS s hs) h0
  have hc1 : A (54 + 5 * p) (3 * E s + 1) = nI (lv s) := (hA.2.1 _ (by omega)).trans a1
  have hc2 : A (54 + 5 * p) (3 * E s + 2) = nI y := (hA.2.1 _ (by omega)).trans y2
  have hin := ch_in hnS hgS L s hs hch
  have nsL : ¬ s ∈ L := fun q => by have := (hin s q).1; omega
  have e10 : sf (J 201) p s 0 = 10 := h0
  have ego : op_go w h n m c wh p (kk + 1) J = op_go w h n m c wh p kk (mm_up (mm_up J 201 (630 + 40 * m + (8 + s)) (nI vl - 1)) 201 (630 + 40 * m + 7) (in_f (J 201) p s (decide (0 < nI vl)))) := by
    rw [op_go, if_neg (by rw [hat]; exact nI_pos (by omega)), hat, vv_nI (by omega), h0, vv_nI (by decide)]
    unfold op_gos
    rw [if_neg (by decide), if_neg (by decide), if_neg (by decide)]
    unfold op_in
    rw [if_pos e10, hsl]
  have eJ : ∀ u t, mm_up (mm_up J 201 (630 + 40 * m + (8 + s)) u) 201 (630 + 40 * m + 7) t 201 = upd (upd (J 201) (630 + 40 * m + (8 + s)) u) (630 + 40 * m + 7) t := fun u t => by rw [up_201, up_201]
  have hup : ∀ u t, ∀ y, 1226 + 418 * p ≤ y → y < 1226 + 418 * (p + 1) → upd (upd (J 201) (630 + 40 * m + (8 + s)) u) (630 + 40 * m + 7) t y = J 201 y := fun u t y h1 h2 => by rw [upd_n (by omega), upd_n (by omega)]
  have hml : ∀ v t u, u < 32 → ¬ u = s → upd (upd (J 201) (630 + 40 * m + (8 + s)) v) (630 + 40 * m + 7) t (630 + 40 * m + (8 + u)) = J 201 (630 + 40 * m + (8 + u)) := fun v t u hu hus => by rw [upd_n (by omega), upd_n (by omega)]
  by_cases c0 : 0 < vl
  · have d0 : decide (0 < nI vl) = true := decide_eq_true ((nI_ltI (a := 0) (by decide) (by omega)).mpr c0)
    have eM : nI vl - 1 = nI (vl - 1) := by rw [show (1 : Int32) = nI 1 from rfl, pk_sub (by omega)]
    rw [d0, in_f4 b3 (by omega), eM] at ego
    refine lg_pR1 hz hW hm hp ha hj hA hpl f2 hq9 hd l4 hLF c0 (by omega) hc0 hc1 hc2 ?_
    refine hih _ (mm_up (mm_up J 201 (630 + 40 * m + (8 + s)) (nI (vl - 1))) 201 (630 + 40 * m + 7) (nI b')) (E s + 1) (axA_c hA (fun x h1 h2 => by rw [mm_up_a (by omega), mm_up_a (by omega)])) (by rw [eJ]; exact eqX_u (eqX_u hX (by omega)) (by omega)) (by rw [mm_up_ne (by omega)]; exact mm_up_at) (by omega) ?_ (fun b hb => by rw [mm_up_a (by omega), mm_up_a (by omega)]; exact hF b hb) (by rw [ego])
    rw [eJ]
    refine Or.inr ⟨b', s :: L, upd_y, intoB (LF := A (37 + 3 * m + 1)) hnS hgS hs hch ⟨b1, b2⟩ b7 hp (hup _ _) (fun u hu h1 h2 => (hml _ _ u hu h2).trans (hm1 u hu h1 h2)) (fun u hu => ?_) b4⟩
    rcases List.mem_cons.mp hu with e | e
    · rw [e, show sf (upd (upd (J 201) (630 + 40 * m + (8 + s)) (nI (vl - 1))) (630 + 40 * m + 7) (nI b')) p s 0 = sf (J 201) p s 0 from hup _ _ _ (by omega) (by omega)]
      refine ⟨fun _ => ⟨vl - 1, by omega, by rw [upd_n (by omega)]; exact upd_y, mm_up_at⟩, fun q => absurd e10 q⟩
    · have hu32 := ch32 L s hch u e
      have hlt := hin u e
      rw [hml _ _ u hu32 (by omega), show sf (upd (upd (J 201) (630 + 40 * m + (8 + s)) (nI (vl - 1))) (630 + 40 * m + 7) (nI b')) p u 0 = sf (J 201) p u 0 from hup _ _ _ (by omega) (by omega), mm_up_ni (by omega), mm_up_ne (by omega)]
      exact hlr u e
  · have ev0 : vl = 0 := by omega
    subst ev0
    have d0 : decide ((0 : Int32) < nI 0) = false := by decide
    have e5 : sf (J 201) p s 5 = -1 ∧ Bh (J 201) p Aa E a 5 (s + 1) y s := by
      obtain ⟨⟨o', q1, q2, -, -, -, -, -, q8, -⟩, -⟩ := hgS s hs
      have : (10 : Nat) = o' := nI_j (h0.symm.trans q2) (by decide) (by omega)
      subst this
      obtain ⟨bq, -, -, -, -, yq, yq1, yq2, yq3⟩ := q8 (by decide)
      have ey : yq = y := by
        have := yq2.symm.trans y2
        exact nI_j this (by omega) (by omega)
      subst ey
      rcases yq3 with q | ⟨q, -⟩
      · exact q
      · exact absurd q (by decide)
    rw [d0, in_f0 e5.1] at ego
    have eM : nI 0 - 1 = (-1 : Int32) := by decide
    rw [eM] at ego
    refine lg_pR0 hz hW hm hp ha hj hA hpl f2 hq9 hd l4 hLF hc0 hc1 hc2 ?_
    refine hih _ (mm_up (mm_up J 201 (630 + 40 * m + (8 + s)) (-1)) 201 (630 + 40 * m + 7) (bh (J 201) p 32 s)) y (axA_c hA (fun x h1 h2 => by rw [mm_up_a (by omega), mm_up_a (by omega)])) (by rw [eJ]; exact eqX_u (eqX_u hX (by omega)) (by omega)) mm_up_at (by omega) ?_ (fun b hb => by rw [mm_up_a (by omega), mm_up_a (by omega)]; exact hF b hb) (by rw [ego])
    rw [eJ]
    have hX1 : eqX m (upd (J 201) (630 + 40 * m + (8 + s)) (-1)) N := eqX_u hX (by omega)
    have hg1 := (hgq _ hX1).1
    have hsf : ∀ s' f, s' < 32 → f < 8 → sf (upd (J 201) (630 + 40 * m + (8 + s)) (-1)) p s' f = sf (J 201) p s' f := fun s' f h1 h2 => upd_n (by omega)
    have hchU : ∀ (L : List Nat) (s' : Nat), s' < 32 → isCh (J 201) p s' L → isCh (upd (J 201) (630 + 40 * m + (8 + s)) (-1)) p s' L := by
      intro L
      induction L with
      | nil => intro s' hs' h; exact (hsf s' 7 hs' (by decide)).trans h
      | cons t L ih => intro s' hs' h; exact ⟨h.1, (hsf s' 7 hs' (by decide)).trans h.2.1, ih t h.1 h.2.2⟩
    have hbh : Bh (upd (J 201) (630 + 40 * m + (8 + s)) (-1)) p Aa E a 5 (s + 1) y s := by
      obtain ⟨⟨o', q1, q2, -, -, -, -, -, q8, -⟩, -⟩ := hg1 s hs
      have : (10 : Nat) = o' := nI_j ((hsf s 0 (by omega) (by decide)).trans h0 |>.symm.trans q2) (by decide) (by omega)
      subst this
      obtain ⟨bq, -, -, -, -, yq, yq1, yq2, yq3⟩ := q8 (by decide)
      have ey : yq = y := nI_j (yq2.symm.trans y2) (by omega) (by omega)
      subst ey
      rcases yq3 with q | ⟨q, -⟩
      · exact q.2
      · exact absurd q (by decide)
    have hcl := climb (m := m) (LF := A (37 + 3 * m + 1)) hnS hg1 ((hgq _ hX1).2) (s + 1) s L y 32 (by omega) hs (hchU L s (by omega) hch) (fun u hu hu2 => by
      by_cases e : u = s
      · rw [e]; exact upd_y
      · rw [upd_n (by omega)]; exact hm1 u hu hu2 e) (fun u hu => by
      have hu32 := ch32 L s hch u hu
      have hlt := hin u hu
      rw [hsf u 0 hu32 (by decide), upd_n (by omega)]; exact hlr u hu) hbh
    rw [bh_eq (N := J 201) (fun x hx => upd_n (by omega))] at hcl
    exact plR_up hnS hp hm5 hg1 hcl (fun j _ => by rw [mm_up_ne (by omega), mm_up_ne (by omega)])
