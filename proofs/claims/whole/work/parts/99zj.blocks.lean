/-! THE CLASS: a MACHINE runs its PROGRAM: if, while, repeat -/
theorem sf_bk {N Aa : Nat → Int32} {p a nS s o : Nat} {E lv : Nat → Nat} {CS : List Nat} (hg : gS N p Aa E lv a CS nS s) (hq : qs p nS N s) (hn : nS ≤ 32) (e : sf N p s 0 = nI o) (ho : 8 ≤ o ∧ o ≤ 10) : ∃ b, s < b ∧ b < nS ∧ sf N p s 4 = nI b ∧ sf N p b 7 = nI s ∧ E s + 1 = en N p E b ∧ ∃ y, y ≤ a ∧ Aa (3 * E s + 2) = nI y ∧ ((sf N p s 5 = -1 ∧ Bh N p Aa E a 5 (s + 1) y s) ∨ ∃ b2, s < b2 ∧ b2 < nS ∧ sf N p s 5 = nI b2 ∧ sf N p b2 7 = nI s ∧ y = en N p E b2) := by
  obtain ⟨⟨o', h1, h2, -, -, -, -, -, h8, -⟩, -⟩ := hg
  have : o = o' := nI_j (e.symm.trans h2) (by omega) (by omega)
  subst this
  obtain ⟨b, b1, b2, b3, b4, y, y1, y2, y3⟩ := h8 ho.1
  have q7 : sf N p b 7 = nI s := by
    rcases hq.1 with q | ⟨b', c1, c2, c3, c4⟩
    · exact (nI_m (b3.symm.trans q) (by omega)).elim
    · have := nI_j (b3.symm.trans c3) (by omega) (by omega)
      rw [this]; exact c4
  refine ⟨b, b1, b2, b3, q7, b4, y, y1, y2, ?_⟩
  rcases y3 with ⟨z1, z2⟩ | ⟨-, b2', z1, z2, z3, z4⟩
  · exact Or.inl ⟨z1, z2⟩
  · refine Or.inr ⟨b2', z1, z2, z3, ?_, z4⟩
    rcases hq.2.1 with q | ⟨b', c1, c2, c3, c4⟩
    · exact (nI_m (z3.symm.trans q) (by omega)).elim
    · have := nI_j (z3.symm.trans c3) (by omega) (by omega)
      rw [this]; exact c4
theorem in_f4 {N : Nat → Int32} {p s b : Nat} (h : sf N p s 4 = nI b) (hb : b < 1000) : in_f N p s true = nI b := by
  unfold in_f; rw [if_pos rfl, h, if_neg (nI_pos (by omega))]
theorem in_f5 {N : Nat → Int32} {p s b : Nat} (h : sf N p s 5 = nI b) (hb : b < 1000) : in_f N p s false = nI b := by
  rw [in_fe rfl (by rw [h]; exact nI_pos (by omega))]; exact h
theorem in_f0 {N : Nat → Int32} {p s : Nat} (h : sf N p s 5 = -1) : in_f N p s false = bh N p 32 s := by
  rw [in_fc rfl (by rw [h]; decide)]
set_option maxRecDepth 100000 in
set_option maxHeartbeats 600000 in
theorem rn_8 {g : mm_G} {d : Nat} {w h n l k o r : Nat} {A A0 J : mm_I} {N : Nat → Int32} {m p a nS c qq z wh b v la lb j q x s kk : Nat} {E lv : Nat → Nat} {Aa : Nat → Int32} {CS : List Nat} {L : List Nat} {Q : Option Value → mm_Sh → mm_I → Prop} (hz : zOK (w * h) n l k o r) (hcx : cxN N w h n m c qq z wh b v la lb) (hm : m < n) (hpg : pgX N m p a nS E lv Aa CS) (hj : j < 50) (hq9 : q ≤ 900) (hd : 7 ≤ d) (hA : axA A p a Aa CS) (hX : eqX m (J 201) N) (hpl : A (36 + 3 * m) 7 = nI (E s)) (hat : J 201 (630 + 40 * m + 7) = nI s) (hS : plS (J 201) (A (37 + 3 * m + 1)) m p E lv Aa nS x s L) (hF : frA m A0 A) (h0 : sf (J 201) p s 0 = nI 8) (hih : ∀ (A' J' : mm_I) (x' : Nat), axA A' p a Aa CS → eqX m (J' 201) N → A' (36 + 3 * m) 7 = nI x' → x' ≤ 40 → plR (J' 201) (A' (37 + 3 * m + 1)) m p E lv a Aa nS x' → frA m A0 A' → op_go w h n m c wh p (kk + 1) J 201 = op_go w h n m c wh p kk J' 201 → mm_Ex g zX6_runScript d (0, 0) (0, 0) sh_S (cN (w * h) n l k o r A' N) 41 [(4, .int (nI (q + 1))), (3, .int (nI (j + 1))), (0, .ref 171), (1, .ref (36 + 3 * m)), (2, .ref (52 + 5 * p))] [] Q) : mm_Ex g zX6_runScript d (0, 0) (0, 0) sh_S (cN (w * h) n l k o r A N) 41 [(4, .int (nI (q))), (3, .int (nI (j))), (0, .ref 171), (1, .ref (36 + 3 * m)), (2, .ref (52 + 5 * p))] [] Q := by
  obtain ⟨hz1, hz2, hz3, hz4, hz5, hz6⟩ := id hz
  obtain ⟨hp, ha, hnS, hcs, h6, hco, hgq⟩ := id hpg
  have hm5 : m < 5 := by omega
  have hgS := (hgq _ hX).1
  have hs := hS.1
  obtain ⟨f1, f2, f3⟩ := sf_nI (hgS s hs) h0 (by decide)
  have n10 : ¬ sf (J 201) p s 0 = 10 := by rw [h0]; decide
  obtain ⟨m1, m2⟩ := plS_m1 hS n10
  obtain ⟨hW, ⟨h1, hcc⟩, ⟨h2, hq1, hq100⟩, ⟨h4, hz10⟩, ⟨h5, hwh⟩, ⟨hb, hb31⟩, ⟨h12, hv31⟩, ⟨hla1, hla2, hla3, hlb⟩, hD, hK, hQm, hC, hB⟩ := id hcx
  have hc80 := mo_W_c hW
  have hc0 : A (54 + 5 * p) (3 * E s) = 3 := (hA.2.1 _ (by omega)).trans f1
  obtain ⟨e, e1, e2, cs, g1, g2, g3, g4, g5⟩ := sf_ex (hgS s hs) h0 (by decide)
  have hc1 : A (54 + 5 * p) (3 * E s + 1) = nI e := (hA.2.1 _ (by omega)).trans e2
  have hv := val_eq (A := A) (w := w) (c := c) hm5 (by omega) hp hX hco hcs g1 g2 g3 g4 g5
  have e96 : e < 2 ^ 31 := by omega
  have hvc := gX_vc hA.2.2.2.2 cs e g1 g2 g3 g5
  obtain ⟨b', b1, b2, b3, b7, b4, y, y1, y2, y3⟩ := sf_bk (hgS s hs) ((hgq _ hX).2 s hs) hnS h0 (by decide)
  have hc2 : A (54 + 5 * p) (3 * E s + 2) = nI y := (hA.2.1 _ (by omega)).trans y2
  have nsL : ¬ s ∈ L := fun q => by have := (ch_in hnS hgS L s hs hS.2.1 s q).1; omega
  have ego : op_go w h n m c wh p (kk + 1) J = op_go w h n m c wh p kk (mm_up (vo_m J (sp_vo J w m c (1226 + 418 * p + 258 + e)).2) 201 (630 + 40 * m + 7) (in_f (J 201) p s (decide (¬ (sp_vo J w m c (1226 + 418 * p + 258 + e)).2 0 = 0)))) := by
    rw [op_go, if_neg (by rw [hat]; exact nI_pos (by omega)), hat, vv_nI (by omega), h0, vv_nI (by decide)]
    unfold op_gos
    rw [if_neg (by decide), if_neg (by decide), if_neg (by decide)]
    unfold op_in
    rw [if_neg n10, e1, vv_nI e96]
  have eJ : ∀ t, mm_up (vo_m J (sp_vo J w m c (1226 + 418 * p + 258 + e)).2) 201 (630 + 40 * m + 7) t 201 = upd (J 201) (630 + 40 * m + 7) t := fun t => by rw [up_201, vo_m_a (by decide)]
  have hup : ∀ t, ∀ y, 1226 + 418 * p ≤ y → y < 1226 + 418 * (p + 1) → upd (J 201) (630 + 40 * m + 7) t y = J 201 y := fun t y h1 h2 => upd_n (by omega)
  have hml : ∀ t u, u < 32 → upd (J 201) (630 + 40 * m + 7) t (630 + 40 * m + (8 + u)) = J 201 (630 + 40 * m + (8 + u)) := fun t u hu => upd_n (by omega)
  refine lg_pI hz hW hm hp ha hj hA hpl f2 hq9 hd h1 hcc hla1 hla2 hla3 hlb hcs g1 hvc g4 hc0 hc1 hc2 (fun A1 hA1 hp1 => ?_)
  have hlf : ∀ t, lfR (upd (J 201) (630 + 40 * m + 7) t) (A1 (37 + 3 * m + 1)) m p lv (s :: L) := fun t u hu => by
    rw [hA1 (37 + 3 * m + 1) (by omega)]
    rcases List.mem_cons.mp hu with e | e
    · rw [e, hml t s (by omega), show sf (upd (J 201) (630 + 40 * m + 7) t) p s 0 = sf (J 201) p s 0 from hup t _ (by omega) (by omega)]
      exact ⟨fun q => absurd q n10, fun _ => m1 s (by omega) nsL⟩
    · have hu32 := ch32 L s hS.2.1 u e
      rw [hml t u hu32, show sf (upd (J 201) (630 + 40 * m + 7) t) p u 0 = sf (J 201) p u 0 from hup t _ (by omega) (by omega)]
      exact hS.2.2.2.1 u e
  by_cases c0 : (ev (sp_nm N w m c) cs (0, A 173)).2 0 = 0
  · rw [if_pos c0] at hp1
    rw [decide_eq_false (fun q => q (hv.trans c0))] at ego
    refine hih A1 (mm_up (vo_m J (sp_vo J w m c (1226 + 418 * p + 258 + e)).2) 201 (630 + 40 * m + 7) (in_f (J 201) p s false)) y (axA_c hA (fun x h1 h2 => hA1 x (by omega))) (by rw [eJ (in_f (J 201) p s false)]; exact eqX_u hX (by omega)) hp1 (by omega) ?_ (fun b hb => (hA1 b (by omega)).trans (hF b hb)) (by rw [ego])
    rw [eJ]
    rcases y3 with ⟨z1, z2⟩ | ⟨bb, z1, z2, z3, z7, z4⟩
    · rw [in_f0 z1]
      exact plR_up hnS hp hm5 hgS (climb (m := m) (LF := A (37 + 3 * m + 1)) hnS hgS ((hgq _ hX).2) (s + 1) s L y 32 (by omega) hs hS.2.1 m1 hS.2.2.2.1 z2) (fun j _ => by rw [hA1 _ (by omega)])
    · rw [in_f5 z3 (by omega)]
      exact Or.inr ⟨bb, s :: L, upd_y, intoB (LF := A (37 + 3 * m + 1)) hnS hgS hs hS.2.1 ⟨z1, z2⟩ z7 hp (hup _) (fun u hu h1 h2 => (hml _ u hu).trans (m1 u hu h1)) (hlf _) z4⟩
  · rw [if_neg c0] at hp1
    rw [decide_eq_true (show ¬ (sp_vo J w m c (1226 + 418 * p + 258 + e)).2 0 = 0 from fun q => c0 (hv.symm.trans q))] at ego
    refine hih A1 (mm_up (vo_m J (sp_vo J w m c (1226 + 418 * p + 258 + e)).2) 201 (630 + 40 * m + 7) (in_f (J 201) p s true)) (E s + 1) (axA_c hA (fun x h1 h2 => hA1 x (by omega))) (by rw [eJ (in_f (J 201) p s true)]; exact eqX_u hX (by omega)) hp1 (by omega) ?_ (fun b hb => (hA1 b (by omega)).trans (hF b hb)) (by rw [ego])
    rw [eJ, in_f4 b3 (by omega)]
    exact Or.inr ⟨b', s :: L, upd_y, intoB (LF := A (37 + 3 * m + 1)) hnS hgS hs hS.2.1 ⟨b1, b2⟩ b7 hp (hup _) (fun u hu h1 h2 => (hml _ u hu).trans (m1 u hu h1)) (hlf _) b4⟩
set_option maxRecDepth 100000 in
set_option maxHeartbeats 600000 in
theorem rn_9 {g : mm_G} {d : Nat} {w h n l k o r : Nat} {A A0 J : mm_I} {N : Nat → Int32} {m p a nS c qq z wh b v la lb j q x s kk : Nat} {E lv : Nat → Nat} {Aa : Nat → Int32} {CS : List Nat} {L : List Nat} {Q : Option Value → mm_Sh → mm_I → Prop} (hz : zOK (w * h) n l k o r) (hcx : cxN N w h n m c qq z wh b v la lb) (hm : m < n) (hpg : pgX N m p a nS E lv Aa CS) (hj : j < 50) (hq9 : q ≤ 900) (hd : 7 ≤ d) (hA : axA A p a Aa CS) (hX : eqX m (J 201) N) (hpl : A (36 + 3 * m) 7 = nI (E s)) (hat : J 201 (630 + 40 * m + 7) = nI s) (hS : plS (J 201) (A (37 + 3 * m + 1)) m p E lv Aa nS x s L) (hF : frA m A0 A) (h0 : sf (J 201) p s 0 = nI 9) (hih : ∀ (A' J' : mm_I) (x' : Nat), axA A' p a Aa CS → eqX m (J' 201) N → A' (36 + 3 * m) 7 = nI x' → x' ≤ 40 → plR (J' 201) (A' (37 + 3 * m + 1)) m p E lv a Aa nS x' → frA m A0 A' → op_go w h n m c wh p (kk + 1) J 201 = op_go w h n m c wh p kk J' 201 → mm_Ex g zX6_runScript d (0, 0) (0, 0) sh_S (cN (w * h) n l k o r A' N) 41 [(4, .int (nI (q + 1))), (3, .int (nI (j + 1))), (0, .ref 171), (1, .ref (36 + 3 * m)), (2, .ref (52 + 5 * p))] [] Q) : mm_Ex g zX6_runScript d (0, 0) (0, 0) sh_S (cN (w * h) n l k o r A N) 41 [(4, .int (nI (q))), (3, .int (nI (j))), (0, .ref 171), (1, .ref (36 + 3 * m)), (2, .ref (52 + 5 * p))] [] Q := by
  obtain ⟨hz1, hz2, hz3, hz4, hz5, hz6⟩ := id hz
  obtain ⟨hp, ha, hnS, hcs, h6, hco, hgq⟩ := id hpg
  have hm5 : m < 5 := by omega
  have hgS := (hgq _ hX).1
  have hs := hS.1
  obtain ⟨f1, f2, f3⟩ := sf_nI (hgS s hs) h0 (by decide)
  have n10 : ¬ sf (J 201) p s 0 = 10 := by rw [h0]; decide
  obtain ⟨m1, m2⟩ := plS_m1 hS n10
  obtain ⟨hW, ⟨h1, hcc⟩, ⟨h2, hq1, hq100⟩, ⟨h4, hz10⟩, ⟨h5, hwh⟩, ⟨hb, hb31⟩, ⟨h12, hv31⟩, ⟨hla1, hla2, hla3, hlb⟩, hD, hK, hQm, hC, hB⟩ := id hcx
  have hc80 := mo_W_c hW
  have hc0 : A (54 + 5 * p) (3 * E s) = 4 := (hA.2.1 _ (by omega)).trans f1
  obtain ⟨e, e1, e2, cs, g1, g2, g3, g4, g5⟩ := sf_ex (hgS s hs) h0 (by decide)
  have hc1 : A (54 + 5 * p) (3 * E s + 1) = nI e := (hA.2.1 _ (by omega)).trans e2
  have hv := val_eq (A := A) (w := w) (c := c) hm5 (by omega) hp hX hco hcs g1 g2 g3 g4 g5
  have e96 : e < 2 ^ 31 := by omega
  have hvc := gX_vc hA.2.2.2.2 cs e g1 g2 g3 g5
  obtain ⟨b', b1, b2, b3, b7, b4, y, y1, y2, y3⟩ := sf_bk (hgS s hs) ((hgq _ hX).2 s hs) hnS h0 (by decide)
  have hc2 : A (54 + 5 * p) (3 * E s + 2) = nI y := (hA.2.1 _ (by omega)).trans y2
  have nsL : ¬ s ∈ L := fun q => by have := (ch_in hnS hgS L s hs hS.2.1 s q).1; omega
  have ego : op_go w h n m c wh p (kk + 1) J = op_go w h n m c wh p kk (mm_up (vo_m J (sp_vo J w m c (1226 + 418 * p + 258 + e)).2) 201 (630 + 40 * m + 7) (in_f (J 201) p s (decide (¬ (sp_vo J w m c (1226 + 418 * p + 258 + e)).2 0 = 0)))) := by
    rw [op_go, if_neg (by rw [hat]; exact nI_pos (by omega)), hat, vv_nI (by omega), h0, vv_nI (by decide)]
    unfold op_gos
    rw [if_neg (by decide), if_neg (by decide), if_neg (by decide)]
    unfold op_in
    rw [if_neg n10, e1, vv_nI e96]
  have eJ : ∀ t, mm_up (vo_m J (sp_vo J w m c (1226 + 418 * p + 258 + e)).2) 201 (630 + 40 * m + 7) t 201 = upd (J 201) (630 + 40 * m + 7) t := fun t => by rw [up_201, vo_m_a (by decide)]
  have hup : ∀ t, ∀ y, 1226 + 418 * p ≤ y → y < 1226 + 418 * (p + 1) → upd (J 201) (630 + 40 * m + 7) t y = J 201 y := fun t y h1 h2 => upd_n (by omega)
  have hml : ∀ t u, u < 32 → upd (J 201) (630 + 40 * m + 7) t (630 + 40 * m + (8 + u)) = J 201 (630 + 40 * m + (8 + u)) := fun t u hu => upd_n (by omega)
  refine lg_pW hz hW hm hp ha hj hA hpl f2 hq9 hd h1 hcc hla1 hla2 hla3 hlb hcs g1 hvc g4 hc0 hc1 hc2 (fun A1 hA1 hp1 => ?_)
  have hlf : ∀ t, lfR (upd (J 201) (630 + 40 * m + 7) t) (A1 (37 + 3 * m + 1)) m p lv (s :: L) := fun t u hu => by
    rw [hA1 (37 + 3 * m + 1) (by omega)]
    rcases List.mem_cons.mp hu with e | e
    · rw [e, hml t s (by omega), show sf (upd (J 201) (630 + 40 * m + 7) t) p s 0 = sf (J 201) p s 0 from hup t _ (by omega) (by omega)]
      exact ⟨fun q => absurd q n10, fun _ => m1 s (by omega) nsL⟩
    · have hu32 := ch32 L s hS.2.1 u e
      rw [hml t u hu32, show sf (upd (J 201) (630 + 40 * m + 7) t) p u 0 = sf (J 201) p u 0 from hup t _ (by omega) (by omega)]
      exact hS.2.2.2.1 u e
  by_cases c0 : (ev (sp_nm N w m c) cs (0, A 173)).2 0 = 0
  · rw [if_pos c0] at hp1
    rw [decide_eq_false (fun q => q (hv.trans c0))] at ego
    refine hih A1 (mm_up (vo_m J (sp_vo J w m c (1226 + 418 * p + 258 + e)).2) 201 (630 + 40 * m + 7) (in_f (J 201) p s false)) y (axA_c hA (fun x h1 h2 => hA1 x (by omega))) (by rw [eJ (in_f (J 201) p s false)]; exact eqX_u hX (by omega)) hp1 (by omega) ?_ (fun b hb => (hA1 b (by omega)).trans (hF b hb)) (by rw [ego])
    rw [eJ]
    rcases y3 with ⟨z1, z2⟩ | ⟨bb, z1, z2, z3, z7, z4⟩
    · rw [in_f0 z1]
      exact plR_up hnS hp hm5 hgS (climb (m := m) (LF := A (37 + 3 * m + 1)) hnS hgS ((hgq _ hX).2) (s + 1) s L y 32 (by omega) hs hS.2.1 m1 hS.2.2.2.1 z2) (fun j _ => by rw [hA1 _ (by omega)])
    · rw [in_f5 z3 (by omega)]
      exact Or.inr ⟨bb, s :: L, upd_y, intoB (LF := A (37 + 3 * m + 1)) hnS hgS hs hS.2.1 ⟨z1, z2⟩ z7 hp (hup _) (fun u hu h1 h2 => (hml _ u hu).trans (m1 u hu h1)) (hlf _) z4⟩
  · rw [if_neg c0] at hp1
    rw [decide_eq_true (show ¬ (sp_vo J w m c (1226 + 418 * p + 258 + e)).2 0 = 0 from fun q => c0 (hv.symm.trans q))] at ego
    refine hih A1 (mm_up (vo_m J (sp_vo J w m c (1226 + 418 * p + 258 + e)).2) 201 (630 + 40 * m + 7) (in_f (J 201) p s true)) (E s + 1) (axA_c hA (fun x h1 h2 => hA1 x (by omega))) (by rw [eJ (in_f (J 201) p s true)]; exact eqX_u hX (by omega)) hp1 (by omega) ?_ (fun b hb => (hA1 b (by omega)).trans (hF b hb)) (by rw [ego])
    rw [eJ, in_f4 b3 (by omega)]
    exact Or.inr ⟨b', s :: L, upd_y, intoB (LF := A (37 + 3 * m + 1)) hnS hgS hs hS.2.1 ⟨b1, b2⟩ b7 hp (hup _) (fun u hu h1 h2 => (hml _ u hu).trans (m1 u hu h1)) (hlf _) b4⟩
