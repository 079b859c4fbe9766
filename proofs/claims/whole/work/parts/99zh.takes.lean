/-! THE CLASS: a MACHINE runs its PROGRAM: steps that take the TICK -/
theorem plR_k {N N' LF LF' Aa : Nat → Int32} {m p a nS x : Nat} {E lv : Nat → Nat} {CS : List Nat} (hn : nS ≤ 32) (hp : p < 6) (hg : ∀ s, s < nS → gS N p Aa E lv a CS nS s) (h : plR N LF m p E lv a Aa nS x) (hk : keepX m N' N) (hL : ∀ j, j < 4 → LF' j = LF j) : plR N' LF' m p E lv a Aa nS x := by
  rcases h with ⟨h1, h2⟩ | ⟨s, L, h1, h2⟩
  · exact Or.inl ⟨(hk _ (by omega)).trans h1, h2⟩
  · refine Or.inr ⟨s, L, (hk _ (by omega)).trans h1, plS_c h2 hn hp (fun y h1 h2 => hk y (by omega)) (fun u hu => hk _ (by omega)) (fun u hu h10 hh => ?_) hL⟩
    have hs := h2.1
    rcases hh with e | e
    · rw [e] at h10 ⊢; exact lv4 (hg s hs) h10
    · have := (ch_in hn hg L s hs h2.2.1 u e).1
      exact lv4 (hg u (by omega)) h10
/-- a PROGRAM that is run -/
def pgX (N : Nat → Int32) (m p a nS : Nat) (E lv : Nat → Nat) (Aa : Nat → Int32) (CS : List Nat) : Prop := p < 6 ∧ a ≤ 38 ∧ nS ≤ 32 ∧ CS.length ≤ 96 ∧ N (630 + 40 * m + 6) = nI p ∧ (∀ i, i < CS.length → N (1226 + 418 * p + 258 + i) = nI (CS.getD i 0)) ∧ ∀ N', eqX m N' N → (∀ s, s < nS → gS N' p Aa E lv a CS nS s) ∧ ∀ s, s < nS → qs p nS N' s
def frA (m : Nat) (A0 A : mm_I) : Prop := ∀ b, ¬ ((36 + 3 * m ≤ b ∧ b ≤ 38 + 3 * m) ∨ b = 172 ∨ b = 173 ∨ (13 ≤ b ∧ b ≤ 16)) → A b = A0 b
theorem sf_nI {N Aa : Nat → Int32} {p a nS s o : Nat} {E lv : Nat → Nat} {CS : List Nat} (hg : gS N p Aa E lv a CS nS s) (e : sf N p s 0 = nI o) (ho : o ≤ 10) : Aa (3 * E s) = cc_ o ∧ E s < a ∧ (o ≤ 7 → Bh N p Aa E a 5 (s + 1) (E s + 1) s) := by
  obtain ⟨⟨o', h1, h2, h3, h4, -, -, h7, -, -⟩, -⟩ := hg
  have : o = o' := nI_j (e.symm.trans h2) (by omega) (by omega)
  subst this
  exact ⟨h3, h4, h7⟩
set_option maxRecDepth 100000 in
set_option maxHeartbeats 600000 in
theorem rn_t1 {g : mm_G} {d : Nat} {w h n l k o r : Nat} {A A0 J : mm_I} {N : Nat → Int32} {m p a nS c qq z wh b v la lb j q x s kk : Nat} {E lv : Nat → Nat} {Aa : Nat → Int32} {CS : List Nat} {L : List Nat} {Q : Option Value → mm_Sh → mm_I → Prop} (hz : zOK (w * h) n l k o r) (hcx : cxN N w h n m c qq z wh b v la lb) (hm : m < n) (hpg : pgX N m p a nS E lv Aa CS) (hj : j < 50) (hq9 : q ≤ 900) (hd : 7 ≤ d) (hA : axA A p a Aa CS) (hX : eqX m (J 201) N) (hpl : A (36 + 3 * m) 7 = nI (E s)) (hat : J 201 (630 + 40 * m + 7) = nI s) (hS : plS (J 201) (A (37 + 3 * m + 1)) m p E lv Aa nS x s L) (hF : frA m A0 A) (h0 : sf (J 201) p s 0 = nI 1) (hQ : ∀ A', rnP A0 A' (op_go w h n m c wh p (kk + 1) J 201) m p a nS E lv Aa → Q none sh_S (cN (w * h) n l k o r A' (op_go w h n m c wh p (kk + 1) J 201))) : mm_Ex g zX6_runScript d (0, 0) (0, 0) sh_S (cN (w * h) n l k o r A N) 41 [(4, .int (nI (q))), (3, .int (nI (j))), (0, .ref 171), (1, .ref (36 + 3 * m)), (2, .ref (52 + 5 * p))] [] Q := by
  obtain ⟨hz1, hz2, hz3, hz4, hz5, hz6⟩ := id hz
  obtain ⟨hp, ha, hnS, hcs, h6, hco, hgq⟩ := id hpg
  have hm5 : m < 5 := by omega
  have hgS := (hgq _ hX).1
  have hs := hS.1
  obtain ⟨f1, f2, f3⟩ := sf_nI (hgS s hs) h0 (by decide)
  have n10 : ¬ sf (J 201) p s 0 = 10 := by rw [h0]; decide
  obtain ⟨m1, m2⟩ := plS_m1 hS n10
  have hcl := climb (m := m) (LF := A (37 + 3 * m + 1)) hnS hgS ((hgq _ hX).2) (s + 1) s L (E s + 1) 32 (by omega) hs hS.2.1 m1 hS.2.2.2.1 (f3 (by decide))
  have eN : ac_k J m p s 201 = upd (J 201) (630 + 40 * m + 7) (bh (J 201) p 32 s) := by unfold ac_k; rw [up_201]
  have hX2 : eqX m (ac_k J m p s 201) N := by rw [eN]; exact eqX_u hX (by omega)
  have hcx2 := cx_c hcx hz2 hm5 hX2
  obtain ⟨hW, ⟨h1, hcc⟩, ⟨h2, hq1, hq100⟩, ⟨h4, hz10⟩, ⟨h5, hwh⟩, ⟨hb, hb31⟩, ⟨h12, hv31⟩, ⟨hla1, hla2, hla3, hlb⟩, hD, hK, hQm, hC, hB⟩ := hcx2
  have hc80 := mo_W_c hW
  have ego : op_go w h n m c wh p (kk + 1) J = op_scoops (ac_k J m p s) m c := by
    rw [op_go, if_neg (by rw [hat]; exact nI_pos (by omega)), hat, vv_nI (by omega), h0, vv_nI (by decide)]; rfl
  have hrow : keepX m ((op_scoops (ac_k J m p s) m c) 201) (ac_k J m p s 201) := kx_sc hm5 (by omega)
  have hpR : plR ((op_scoops (ac_k J m p s) m c) 201) ((mm_up A (36 + 3 * m) 7 (nI (E s + 1))) (37 + 3 * m + 1)) m p E lv a Aa nS (E s + 1) := by
    refine plR_k (CS := CS) hnS hp (fun s hs => (hgq _ hX2).1 s hs) (LF := A (37 + 3 * m + 1)) ?_ hrow (fun j hj => by rw [mm_up_ne (by omega)])
    rw [eN]
    exact plR_up hnS hp hm5 hgS hcl (fun _ _ => rfl)
  have hP : rnP A0 (mm_up A (36 + 3 * m) 7 (nI (E s + 1))) (op_go w h n m c wh p (kk + 1) J 201) m p a nS E lv Aa := by
    rw [ego]
    refine ⟨fun b hb => (mm_up_a (by omega)).trans (hF b hb), Or.inr ⟨?_, E s + 1, by omega, mm_up_at, hpR⟩⟩
    rw [hrow _ (by omega), hX2 _ (by omega)]; exact h6
  have hfin := hQ _ hP
  rw [ego] at hfin
  rw [← cN_x (A := A) hz hm5 hX2]
  have hc0 : A (54 + 5 * p) (3 * E s) = 6 := (hA.2.1 _ (by omega)).trans f1
  exact lg_tsc hz hW hm hp ha hj hA hpl f2 hq9 hd (J := ac_k J m p s) rfl h1 hcc h2 hq100 hK hQm hc0 hfin
set_option maxRecDepth 100000 in
set_option maxHeartbeats 600000 in
theorem rn_t2 {g : mm_G} {d : Nat} {w h n l k o r : Nat} {A A0 J : mm_I} {N : Nat → Int32} {m p a nS c qq z wh b v la lb j q x s kk : Nat} {E lv : Nat → Nat} {Aa : Nat → Int32} {CS : List Nat} {L : List Nat} {Q : Option Value → mm_Sh → mm_I → Prop} (hz : zOK (w * h) n l k o r) (hcx : cxN N w h n m c qq z wh b v la lb) (hm : m < n) (hpg : pgX N m p a nS E lv Aa CS) (hj : j < 50) (hq9 : q ≤ 900) (hd : 7 ≤ d) (hA : axA A p a Aa CS) (hX : eqX m (J 201) N) (hpl : A (36 + 3 * m) 7 = nI (E s)) (hat : J 201 (630 + 40 * m + 7) = nI s) (hS : plS (J 201) (A (37 + 3 * m + 1)) m p E lv Aa nS x s L) (hF : frA m A0 A) (h0 : sf (J 201) p s 0 = nI 2) (hQ : ∀ A', rnP A0 A' (op_go w h n m c wh p (kk + 1) J 201) m p a nS E lv Aa → Q none sh_S (cN (w * h) n l k o r A' (op_go w h n m c wh p (kk + 1) J 201))) : mm_Ex g zX6_runScript d (0, 0) (0, 0) sh_S (cN (w * h) n l k o r A N) 41 [(4, .int (nI (q))), (3, .int (nI (j))), (0, .ref 171), (1, .ref (36 + 3 * m)), (2, .ref (52 + 5 * p))] [] Q := by
  obtain ⟨hz1, hz2, hz3, hz4, hz5, hz6⟩ := id hz
  obtain ⟨hp, ha, hnS, hcs, h6, hco, hgq⟩ := id hpg
  have hm5 : m < 5 := by omega
  have hgS := (hgq _ hX).1
  have hs := hS.1
  obtain ⟨f1, f2, f3⟩ := sf_nI (hgS s hs) h0 (by decide)
  have n10 : ¬ sf (J 201) p s 0 = 10 := by rw [h0]; decide
  obtain ⟨m1, m2⟩ := plS_m1 hS n10
  have hcl := climb (m := m) (LF := A (37 + 3 * m + 1)) hnS hgS ((hgq _ hX).2) (s + 1) s L (E s + 1) 32 (by omega) hs hS.2.1 m1 hS.2.2.2.1 (f3 (by decide))
  have eN : ac_k J m p s 201 = upd (J 201) (630 + 40 * m + 7) (bh (J 201) p 32 s) := by unfold ac_k; rw [up_201]
  have hX2 : eqX m (ac_k J m p s 201) N := by rw [eN]; exact eqX_u hX (by omega)
  have hcx2 := cx_c hcx hz2 hm5 hX2
  obtain ⟨hW, ⟨h1, hcc⟩, ⟨h2, hq1, hq100⟩, ⟨h4, hz10⟩, ⟨h5, hwh⟩, ⟨hb, hb31⟩, ⟨h12, hv31⟩, ⟨hla1, hla2, hla3, hlb⟩, hD, hK, hQm, hC, hB⟩ := hcx2
  have hc80 := mo_W_c hW
  have ego : op_go w h n m c wh p (kk + 1) J = op_drops (ac_k J m p s) m c wh := by
    rw [op_go, if_neg (by rw [hat]; exact nI_pos (by omega)), hat, vv_nI (by omega), h0, vv_nI (by decide)]; rfl
  have hrow : keepX m ((op_drops (ac_k J m p s) m c wh) 201) (ac_k J m p s 201) := kx_dr hm5 (by omega) hwh
  have hpR : plR ((op_drops (ac_k J m p s) m c wh) 201) ((mm_up A (36 + 3 * m) 7 (nI (E s + 1))) (37 + 3 * m + 1)) m p E lv a Aa nS (E s + 1) := by
    refine plR_k (CS := CS) hnS hp (fun s hs => (hgq _ hX2).1 s hs) (LF := A (37 + 3 * m + 1)) ?_ hrow (fun j hj => by rw [mm_up_ne (by omega)])
    rw [eN]
    exact plR_up hnS hp hm5 hgS hcl (fun _ _ => rfl)
  have hP : rnP A0 (mm_up A (36 + 3 * m) 7 (nI (E s + 1))) (op_go w h n m c wh p (kk + 1) J 201) m p a nS E lv Aa := by
    rw [ego]
    refine ⟨fun b hb => (mm_up_a (by omega)).trans (hF b hb), Or.inr ⟨?_, E s + 1, by omega, mm_up_at, hpR⟩⟩
    rw [hrow _ (by omega), hX2 _ (by omega)]; exact h6
  have hfin := hQ _ hP
  rw [ego] at hfin
  rw [← cN_x (A := A) hz hm5 hX2]
  have hc0 : A (54 + 5 * p) (3 * E s) = 7 := (hA.2.1 _ (by omega)).trans f1
  rcases show wh = 0 ∨ wh = 1 by omega with e | e <;> subst e
  · exact lg_tdr0 hz hW hm hp ha hj hA hpl f2 hq9 hd rfl h1 hcc h2 hq100 hK hQm h4 hz10 h5 hq1 hc0 hfin
  · exact lg_tdr1 hz hW hm hp ha hj hA hpl f2 hq9 hd rfl h1 hcc h2 hq100 hK hQm h4 hz10 h5 hq1 hc0 hfin
set_option maxRecDepth 100000 in
set_option maxHeartbeats 600000 in
theorem rn_t3 {g : mm_G} {d : Nat} {w h n l k o r : Nat} {A A0 J : mm_I} {N : Nat → Int32} {m p a nS c qq z wh b v la lb j q x s kk : Nat} {E lv : Nat → Nat} {Aa : Nat → Int32} {CS : List Nat} {L : List Nat} {Q : Option Value → mm_Sh → mm_I → Prop} (hz : zOK (w * h) n l k o r) (hcx : cxN N w h n m c qq z wh b v la lb) (hm : m < n) (hpg : pgX N m p a nS E lv Aa CS) (hj : j < 50) (hq9 : q ≤ 900) (hd : 7 ≤ d) (hA : axA A p a Aa CS) (hX : eqX m (J 201) N) (hpl : A (36 + 3 * m) 7 = nI (E s)) (hat : J 201 (630 + 40 * m + 7) = nI s) (hS : plS (J 201) (A (37 + 3 * m + 1)) m p E lv Aa nS x s L) (hF : frA m A0 A) (h0 : sf (J 201) p s 0 = nI 3) (hQ : ∀ A', rnP A0 A' (op_go w h n m c wh p (kk + 1) J 201) m p a nS E lv Aa → Q none sh_S (cN (w * h) n l k o r A' (op_go w h n m c wh p (kk + 1) J 201))) : mm_Ex g zX6_runScript d (0, 0) (0, 0) sh_S (cN (w * h) n l k o r A N) 41 [(4, .int (nI (q))), (3, .int (nI (j))), (0, .ref 171), (1, .ref (36 + 3 * m)), (2, .ref (52 + 5 * p))] [] Q := by
  obtain ⟨hz1, hz2, hz3, hz4, hz5, hz6⟩ := id hz
  obtain ⟨hp, ha, hnS, hcs, h6, hco, hgq⟩ := id hpg
  have hm5 : m < 5 := by omega
  have hgS := (hgq _ hX).1
  have hs := hS.1
  obtain ⟨f1, f2, f3⟩ := sf_nI (hgS s hs) h0 (by decide)
  have n10 : ¬ sf (J 201) p s 0 = 10 := by rw [h0]; decide
  obtain ⟨m1, m2⟩ := plS_m1 hS n10
  have hcl := climb (m := m) (LF := A (37 + 3 * m + 1)) hnS hgS ((hgq _ hX).2) (s + 1) s L (E s + 1) 32 (by omega) hs hS.2.1 m1 hS.2.2.2.1 (f3 (by decide))
  have eN : ac_k J m p s 201 = upd (J 201) (630 + 40 * m + 7) (bh (J 201) p 32 s) := by unfold ac_k; rw [up_201]
  have hX2 : eqX m (ac_k J m p s 201) N := by rw [eN]; exact eqX_u hX (by omega)
  have hcx2 := cx_c hcx hz2 hm5 hX2
  obtain ⟨hW, ⟨h1, hcc⟩, ⟨h2, hq1, hq100⟩, ⟨h4, hz10⟩, ⟨h5, hwh⟩, ⟨hb, hb31⟩, ⟨h12, hv31⟩, ⟨hla1, hla2, hla3, hlb⟩, hD, hK, hQm, hC, hB⟩ := hcx2
  have hc80 := mo_W_c hW
  have ego : op_go w h n m c wh p (kk + 1) J = op_fuses (ac_k J m p s) m c := by
    rw [op_go, if_neg (by rw [hat]; exact nI_pos (by omega)), hat, vv_nI (by omega), h0, vv_nI (by decide)]; rfl
  have hrow : keepX m ((op_fuses (ac_k J m p s) m c) 201) (ac_k J m p s 201) := kx_fu hm5 (by omega)
  have hpR : plR ((op_fuses (ac_k J m p s) m c) 201) ((mm_up A (36 + 3 * m) 7 (nI (E s + 1))) (37 + 3 * m + 1)) m p E lv a Aa nS (E s + 1) := by
    refine plR_k (CS := CS) hnS hp (fun s hs => (hgq _ hX2).1 s hs) (LF := A (37 + 3 * m + 1)) ?_ hrow (fun j hj => by rw [mm_up_ne (by omega)])
    rw [eN]
    exact plR_up hnS hp hm5 hgS hcl (fun _ _ => rfl)
  have hP : rnP A0 (mm_up A (36 + 3 * m) 7 (nI (E s + 1))) (op_go w h n m c wh p (kk + 1) J 201) m p a nS E lv Aa := by
    rw [ego]
    refine ⟨fun b hb => (mm_up_a (by omega)).trans (hF b hb), Or.inr ⟨?_, E s + 1, by omega, mm_up_at, hpR⟩⟩
    rw [hrow _ (by omega), hX2 _ (by omega)]; exact h6
  have hfin := hQ _ hP
  rw [ego] at hfin
  rw [← cN_x (A := A) hz hm5 hX2]
  have hc0 : A (54 + 5 * p) (3 * E s) = 8 := (hA.2.1 _ (by omega)).trans f1
  exact lg_tfu hz hW hm hp ha hj hA hpl f2 hq9 hd (J := ac_k J m p s) rfl h1 hcc h2 hq100 hK hQm hc0 hfin
set_option maxRecDepth 100000 in
set_option maxHeartbeats 600000 in
theorem rn_t4 {g : mm_G} {d : Nat} {w h n l k o r : Nat} {A A0 J : mm_I} {N : Nat → Int32} {m p a nS c qq z wh b v la lb j q x s kk : Nat} {E lv : Nat → Nat} {Aa : Nat → Int32} {CS : List Nat} {L : List Nat} {Q : Option Value → mm_Sh → mm_I → Prop} (hz : zOK (w * h) n l k o r) (hcx : cxN N w h n m c qq z wh b v la lb) (hm : m < n) (hpg : pgX N m p a nS E lv Aa CS) (hj : j < 50) (hq9 : q ≤ 900) (hd : 7 ≤ d) (hA : axA A p a Aa CS) (hX : eqX m (J 201) N) (hpl : A (36 + 3 * m) 7 = nI (E s)) (hat : J 201 (630 + 40 * m + 7) = nI s) (hS : plS (J 201) (A (37 + 3 * m + 1)) m p E lv Aa nS x s L) (hF : frA m A0 A) (h0 : sf (J 201) p s 0 = nI 4) (hQ : ∀ A', rnP A0 A' (op_go w h n m c wh p (kk + 1) J 201) m p a nS E lv Aa → Q none sh_S (cN (w * h) n l k o r A' (op_go w h n m c wh p (kk + 1) J 201))) : mm_Ex g zX6_runScript d (0, 0) (0, 0) sh_S (cN (w * h) n l k o r A N) 41 [(4, .int (nI (q))), (3, .int (nI (j))), (0, .ref 171), (1, .ref (36 + 3 * m)), (2, .ref (52 + 5 * p))] [] Q := by
  obtain ⟨hz1, hz2, hz3, hz4, hz5, hz6⟩ := id hz
  obtain ⟨hp, ha, hnS, hcs, h6, hco, hgq⟩ := id hpg
  have hm5 : m < 5 := by omega
  have hgS := (hgq _ hX).1
  have hs := hS.1
  obtain ⟨f1, f2, f3⟩ := sf_nI (hgS s hs) h0 (by decide)
  have n10 : ¬ sf (J 201) p s 0 = 10 := by rw [h0]; decide
  obtain ⟨m1, m2⟩ := plS_m1 hS n10
  have hcl := climb (m := m) (LF := A (37 + 3 * m + 1)) hnS hgS ((hgq _ hX).2) (s + 1) s L (E s + 1) 32 (by omega) hs hS.2.1 m1 hS.2.2.2.1 (f3 (by decide))
  have eN : ac_k J m p s 201 = upd (J 201) (630 + 40 * m + 7) (bh (J 201) p 32 s) := by unfold ac_k; rw [up_201]
  have hX2 : eqX m (ac_k J m p s 201) N := by rw [eN]; exact eqX_u hX (by omega)
  have hcx2 := cx_c hcx hz2 hm5 hX2
  obtain ⟨hW, ⟨h1, hcc⟩, ⟨h2, hq1, hq100⟩, ⟨h4, hz10⟩, ⟨h5, hwh⟩, ⟨hb, hb31⟩, ⟨h12, hv31⟩, ⟨hla1, hla2, hla3, hlb⟩, hD, hK, hQm, hC, hB⟩ := hcx2
  have hc80 := mo_W_c hW
  have ego : op_go w h n m c wh p (kk + 1) J = op_charges (ac_k J m p s) m c := by
    rw [op_go, if_neg (by rw [hat]; exact nI_pos (by omega)), hat, vv_nI (by omega), h0, vv_nI (by decide)]; rfl
  have hrow : keepX m ((op_charges (ac_k J m p s) m c) 201) (ac_k J m p s 201) := kx_ch hm5
  have hpR : plR ((op_charges (ac_k J m p s) m c) 201) ((mm_up A (36 + 3 * m) 7 (nI (E s + 1))) (37 + 3 * m + 1)) m p E lv a Aa nS (E s + 1) := by
    refine plR_k (CS := CS) hnS hp (fun s hs => (hgq _ hX2).1 s hs) (LF := A (37 + 3 * m + 1)) ?_ hrow (fun j hj => by rw [mm_up_ne (by omega)])
    rw [eN]
    exact plR_up hnS hp hm5 hgS hcl (fun _ _ => rfl)
  have hP : rnP A0 (mm_up A (36 + 3 * m) 7 (nI (E s + 1))) (op_go w h n m c wh p (kk + 1) J 201) m p a nS E lv Aa := by
    rw [ego]
    refine ⟨fun b hb => (mm_up_a (by omega)).trans (hF b hb), Or.inr ⟨?_, E s + 1, by omega, mm_up_at, hpR⟩⟩
    rw [hrow _ (by omega), hX2 _ (by omega)]; exact h6
  have hfin := hQ _ hP
  rw [ego] at hfin
  rw [← cN_x (A := A) hz hm5 hX2]
  have hc0 : A (54 + 5 * p) (3 * E s) = 9 := (hA.2.1 _ (by omega)).trans f1
  exact lg_tch hz hW hm hp ha hj hA hpl f2 hq9 hd (J := ac_k J m p s) rfl h1 hcc h2 hq100 hK hQm hb hb31 hc0 hfin
set_option maxRecDepth 100000 in
set_option maxHeartbeats 600000 in
theorem rn_t5 {g : mm_G} {d : Nat} {w h n l k o r : Nat} {A A0 J : mm_I} {N : Nat → Int32} {m p a nS c qq z wh b v la lb j q x s kk : Nat} {E lv : Nat → Nat} {Aa : Nat → Int32} {CS : List Nat} {L : List Nat} {Q : Option Value → mm_Sh → mm_I → Prop} (hz : zOK (w * h) n l k o r) (hcx : cxN N w h n m c qq z wh b v la lb) (hm : m < n) (hpg : pgX N m p a nS E lv Aa CS) (hj : j < 50) (hq9 : q ≤ 900) (hd : 7 ≤ d) (hA : axA A p a Aa CS) (hX : eqX m (J 201) N) (hpl : A (36 + 3 * m) 7 = nI (E s)) (hat : J 201 (630 + 40 * m + 7) = nI s) (hS : plS (J 201) (A (37 + 3 * m + 1)) m p E lv Aa nS x s L) (hF : frA m A0 A) (h0 : sf (J 201) p s 0 = nI 5) (hQ : ∀ A', rnP A0 A' (op_go w h n m c wh p (kk + 1) J 201) m p a nS E lv Aa → Q none sh_S (cN (w * h) n l k o r A' (op_go w h n m c wh p (kk + 1) J 201))) : mm_Ex g zX6_runScript d (0, 0) (0, 0) sh_S (cN (w * h) n l k o r A N) 41 [(4, .int (nI (q))), (3, .int (nI (j))), (0, .ref 171), (1, .ref (36 + 3 * m)), (2, .ref (52 + 5 * p))] [] Q := by
  obtain ⟨hz1, hz2, hz3, hz4, hz5, hz6⟩ := id hz
  obtain ⟨hp, ha, hnS, hcs, h6, hco, hgq⟩ := id hpg
  have hm5 : m < 5 := by omega
  have hgS := (hgq _ hX).1
  have hs := hS.1
  obtain ⟨f1, f2, f3⟩ := sf_nI (hgS s hs) h0 (by decide)
  have n10 : ¬ sf (J 201) p s 0 = 10 := by rw [h0]; decide
  obtain ⟨m1, m2⟩ := plS_m1 hS n10
  have hcl := climb (m := m) (LF := A (37 + 3 * m + 1)) hnS hgS ((hgq _ hX).2) (s + 1) s L (E s + 1) 32 (by omega) hs hS.2.1 m1 hS.2.2.2.1 (f3 (by decide))
  have eN : ac_k J m p s 201 = upd (J 201) (630 + 40 * m + 7) (bh (J 201) p 32 s) := by unfold ac_k; rw [up_201]
  have hX2 : eqX m (ac_k J m p s 201) N := by rw [eN]; exact eqX_u hX (by omega)
  have hcx2 := cx_c hcx hz2 hm5 hX2
  obtain ⟨hW, ⟨h1, hcc⟩, ⟨h2, hq1, hq100⟩, ⟨h4, hz10⟩, ⟨h5, hwh⟩, ⟨hb, hb31⟩, ⟨h12, hv31⟩, ⟨hla1, hla2, hla3, hlb⟩, hD, hK, hQm, hC, hB⟩ := hcx2
  have hc80 := mo_W_c hW
  have ego : op_go w h n m c wh p (kk + 1) J = op_mends (ac_k J m p s) w h n m c := by
    rw [op_go, if_neg (by rw [hat]; exact nI_pos (by omega)), hat, vv_nI (by omega), h0, vv_nI (by decide)]; rfl
  have hrow : keepX m ((op_mends (ac_k J m p s) w h n m c) 201) (ac_k J m p s 201) := kx_me hm5 (fun _ _ _ => trivial) (by rcases mdw_in (N := ac_k J m p s 201) (w := w) (h := h) (c := c) (n := n) hz2 hD 4 with e | ⟨u, hu, e⟩; exact Or.inl e; exact Or.inr ⟨u, by omega, e⟩)
  have hpR : plR ((op_mends (ac_k J m p s) w h n m c) 201) ((mm_up A (36 + 3 * m) 7 (nI (E s + 1))) (37 + 3 * m + 1)) m p E lv a Aa nS (E s + 1) := by
    refine plR_k (CS := CS) hnS hp (fun s hs => (hgq _ hX2).1 s hs) (LF := A (37 + 3 * m + 1)) ?_ hrow (fun j hj => by rw [mm_up_ne (by omega)])
    rw [eN]
    exact plR_up hnS hp hm5 hgS hcl (fun _ _ => rfl)
  have hP : rnP A0 (mm_up A (36 + 3 * m) 7 (nI (E s + 1))) (op_go w h n m c wh p (kk + 1) J 201) m p a nS E lv Aa := by
    rw [ego]
    refine ⟨fun b hb => (mm_up_a (by omega)).trans (hF b hb), Or.inr ⟨?_, E s + 1, by omega, mm_up_at, hpR⟩⟩
    rw [hrow _ (by omega), hX2 _ (by omega)]; exact h6
  have hfin := hQ _ hP
  rw [ego] at hfin
  rw [← cN_x (A := A) hz hm5 hX2]
  have hc0 : A (54 + 5 * p) (3 * E s) = 10 := (hA.2.1 _ (by omega)).trans f1
  exact lg_tme hz hW hm hp ha hj hA hpl f2 hq9 hd (J := ac_k J m p s) rfl h1 hcc h2 hq100 hK hQm hD hC hB h12 hv31 hc0 hfin
set_option maxRecDepth 100000 in
set_option maxHeartbeats 600000 in
theorem rn_t6 {g : mm_G} {d : Nat} {w h n l k o r : Nat} {A A0 J : mm_I} {N : Nat → Int32} {m p a nS c qq z wh b v la lb j q x s kk : Nat} {E lv : Nat → Nat} {Aa : Nat → Int32} {CS : List Nat} {L : List Nat} {Q : Option Value → mm_Sh → mm_I → Prop} (hz : zOK (w * h) n l k o r) (hcx : cxN N w h n m c qq z wh b v la lb) (hm : m < n) (hpg : pgX N m p a nS E lv Aa CS) (hj : j < 50) (hq9 : q ≤ 900) (hd : 7 ≤ d) (hA : axA A p a Aa CS) (hX : eqX m (J 201) N) (hpl : A (36 + 3 * m) 7 = nI (E s)) (hat : J 201 (630 + 40 * m + 7) = nI s) (hS : plS (J 201) (A (37 + 3 * m + 1)) m p E lv Aa nS x s L) (hF : frA m A0 A) (h0 : sf (J 201) p s 0 = nI 6) (hQ : ∀ A', rnP A0 A' (op_go w h n m c wh p (kk + 1) J 201) m p a nS E lv Aa → Q none sh_S (cN (w * h) n l k o r A' (op_go w h n m c wh p (kk + 1) J 201))) : mm_Ex g zX6_runScript d (0, 0) (0, 0) sh_S (cN (w * h) n l k o r A N) 41 [(4, .int (nI (q))), (3, .int (nI (j))), (0, .ref 171), (1, .ref (36 + 3 * m)), (2, .ref (52 + 5 * p))] [] Q := by
  obtain ⟨hz1, hz2, hz3, hz4, hz5, hz6⟩ := id hz
  obtain ⟨hp, ha, hnS, hcs, h6, hco, hgq⟩ := id hpg
  have hm5 : m < 5 := by omega
  have hgS := (hgq _ hX).1
  have hs := hS.1
  obtain ⟨f1, f2, f3⟩ := sf_nI (hgS s hs) h0 (by decide)
  have n10 : ¬ sf (J 201) p s 0 = 10 := by rw [h0]; decide
  obtain ⟨m1, m2⟩ := plS_m1 hS n10
  have hcl := climb (m := m) (LF := A (37 + 3 * m + 1)) hnS hgS ((hgq _ hX).2) (s + 1) s L (E s + 1) 32 (by omega) hs hS.2.1 m1 hS.2.2.2.1 (f3 (by decide))
  have eN : ac_k J m p s 201 = upd (J 201) (630 + 40 * m + 7) (bh (J 201) p 32 s) := by unfold ac_k; rw [up_201]
  have hX2 : eqX m (ac_k J m p s 201) N := by rw [eN]; exact eqX_u hX (by omega)
  have hcx2 := cx_c hcx hz2 hm5 hX2
  obtain ⟨hW, ⟨h1, hcc⟩, ⟨h2, hq1, hq100⟩, ⟨h4, hz10⟩, ⟨h5, hwh⟩, ⟨hb, hb31⟩, ⟨h12, hv31⟩, ⟨hla1, hla2, hla3, hlb⟩, hD, hK, hQm, hC, hB⟩ := hcx2
  have hc80 := mo_W_c hW
  have ego : op_go w h n m c wh p (kk + 1) J = ac_k J m p s := by
    rw [op_go, if_neg (by rw [hat]; exact nI_pos (by omega)), hat, vv_nI (by omega), h0, vv_nI (by decide)]; rfl
  have hrow : keepX m ((ac_k J m p s) 201) (ac_k J m p s 201) := (fun _ _ => rfl)
  have hpR : plR ((ac_k J m p s) 201) ((mm_up A (36 + 3 * m) 7 (nI (E s + 1))) (37 + 3 * m + 1)) m p E lv a Aa nS (E s + 1) := by
    refine plR_k (CS := CS) hnS hp (fun s hs => (hgq _ hX2).1 s hs) (LF := A (37 + 3 * m + 1)) ?_ hrow (fun j hj => by rw [mm_up_ne (by omega)])
    rw [eN]
    exact plR_up hnS hp hm5 hgS hcl (fun _ _ => rfl)
  have hP : rnP A0 (mm_up A (36 + 3 * m) 7 (nI (E s + 1))) (op_go w h n m c wh p (kk + 1) J 201) m p a nS E lv Aa := by
    rw [ego]
    refine ⟨fun b hb => (mm_up_a (by omega)).trans (hF b hb), Or.inr ⟨?_, E s + 1, by omega, mm_up_at, hpR⟩⟩
    rw [hrow _ (by omega), hX2 _ (by omega)]; exact h6
  have hfin := hQ _ hP
  rw [ego] at hfin
  rw [← cN_x (A := A) hz hm5 hX2]
  have hc0 : A (54 + 5 * p) (3 * E s) = 11 := (hA.2.1 _ (by omega)).trans f1
  exact lg_twa hz hW hm hp ha hj hA hpl f2 hq9 hd (J := ac_k J m p s) rfl h1 hcc h2 hq100 hK hQm hc0 hfin
