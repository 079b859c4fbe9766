/-! THE CLASS: a MACHINE runs its PROGRAM: until -/
theorem val_eq {J A : mm_I} {N : Nat → Int32} {w m c p e : Nat} {CS cs : List Nat} (hm : m < 5) (hc : c < 80) (hp : p < 6) (hX : eqX m (J 201) N) (hco : ∀ i, i < CS.length → N (1226 + 418 * p + 258 + i) = nI (CS.getD i 0)) (h96 : CS.length ≤ 96) (g1 : e + cs.length < CS.length) (g2 : ∀ i, i < cs.length → CS.getD (e + i) 0 = cs.getD i 0) (g3 : CS.getD (e + cs.length) 0 = 30000) (g4 : wf cs 0) (g5 : ∀ c, c ∈ cs → c < 30000) : (sp_vo J w m c (1226 + 418 * p + 258 + e)).2 0 = (ev (sp_nm N w m c) cs (0, A 173)).2 0 := by
  unfold sp_vo
  rw [vo_co cs 160 _ (by omega) (gX_vo (fun i hi => (hX _ (by omega)).trans (hco i hi)) cs e g1 g2 g3 g5), nm_x hm hc hX]
  exact ev_j cs 0 _ _ g4 (fun i hi => absurd hi (Nat.not_lt_zero _))
theorem sf_ex {N Aa : Nat → Int32} {p a nS s o : Nat} {E lv : Nat → Nat} {CS : List Nat} (hg : gS N p Aa E lv a CS nS s) (e : sf N p s 0 = nI o) (ho : o = 7 ∨ o = 8 ∨ o = 9) : ∃ e, sf N p s 3 = nI e ∧ Aa (3 * E s + 1) = nI e ∧ gX CS e := by
  obtain ⟨⟨o', h1, h2, -, -, -, h6, -, -, -⟩, -⟩ := hg
  have : o = o' := nI_j (e.symm.trans h2) (by omega) (by omega)
  subst this
  exact h6 ho
set_option maxRecDepth 100000 in
set_option maxHeartbeats 600000 in
theorem rn_7 {g : mm_G} {d : Nat} {w h n l k o r : Nat} {A A0 J : mm_I} {N : Nat → Int32} {m p a nS c qq z wh b v la lb j q x s kk : Nat} {E lv : Nat → Nat} {Aa : Nat → Int32} {CS : List Nat} {L : List Nat} {Q : Option Value → mm_Sh → mm_I → Prop} (hz : zOK (w * h) n l k o r) (hcx : cxN N w h n m c qq z wh b v la lb) (hm : m < n) (hpg : pgX N m p a nS E lv Aa CS) (hj : j < 50) (hq9 : q ≤ 900) (hd : 7 ≤ d) (hA : axA A p a Aa CS) (hX : eqX m (J 201) N) (hpl : A (36 + 3 * m) 7 = nI (E s)) (hat : J 201 (630 + 40 * m + 7) = nI s) (hS : plS (J 201) (A (37 + 3 * m + 1)) m p E lv Aa nS x s L) (hF : frA m A0 A) (h0 : sf (J 201) p s 0 = nI 7) (hQ : ∀ A', rnP A0 A' (op_go w h n m c wh p (kk + 1) J 201) m p a nS E lv Aa → Q none sh_S (cN (w * h) n l k o r A' (op_go w h n m c wh p (kk + 1) J 201))) (hih : ∀ (A' J' : mm_I) (x' : Nat), axA A' p a Aa CS → eqX m (J' 201) N → A' (36 + 3 * m) 7 = nI x' → x' ≤ 40 → plR (J' 201) (A' (37 + 3 * m + 1)) m p E lv a Aa nS x' → frA m A0 A' → op_go w h n m c wh p (kk + 1) J 201 = op_go w h n m c wh p kk J' 201 → mm_Ex g zX6_runScript d (0, 0) (0, 0) sh_S (cN (w * h) n l k o r A' N) 41 [(4, .int (nI (q + 1))), (3, .int (nI (j + 1))), (0, .ref 171), (1, .ref (36 + 3 * m)), (2, .ref (52 + 5 * p))] [] Q) : mm_Ex g zX6_runScript d (0, 0) (0, 0) sh_S (cN (w * h) n l k o r A N) 41 [(4, .int (nI (q))), (3, .int (nI (j))), (0, .ref 171), (1, .ref (36 + 3 * m)), (2, .ref (52 + 5 * p))] [] Q := by
  obtain ⟨hz1, hz2, hz3, hz4, hz5, hz6⟩ := id hz
  obtain ⟨hp, ha, hnS, hcs, h6, hco, hgq⟩ := id hpg
  have hm5 : m < 5 := by omega
  have hgS := (hgq _ hX).1
  have hs := hS.1
  obtain ⟨f1, f2, f3⟩ := sf_nI (hgS s hs) h0 (by decide)
  have n10 : ¬ sf (J 201) p s 0 = 10 := by rw [h0]; decide
  obtain ⟨m1, m2⟩ := plS_m1 hS n10
  obtain ⟨hW, ⟨h1, hcc⟩, ⟨h2, hq1, hq100⟩, ⟨h4, hz10⟩, ⟨h5, hwh⟩, ⟨hb, hb31⟩, ⟨h12, hv31⟩, ⟨hla1, hla2, hla3, hlb⟩, hD, hK, hQm, hC, hB⟩ := id hcx
  have hc80 := mo_W_c hW
  have hc0 : A (54 + 5 * p) (3 * E s) = 2 := (hA.2.1 _ (by omega)).trans f1
  obtain ⟨e, e1, e2, cs, g1, g2, g3, g4, g5⟩ := sf_ex (hgS s hs) h0 (by decide)
  have hc1 : A (54 + 5 * p) (3 * E s + 1) = nI e := (hA.2.1 _ (by omega)).trans e2
  have hv := val_eq (A := A) (w := w) (c := c) hm5 (by omega) hp hX hco hcs g1 g2 g3 g4 g5
  have e96 : e < 2 ^ 31 := by omega
  have hvc := gX_vc hA.2.2.2.2 cs e g1 g2 g3 g5
  have ego : op_go w h n m c wh p (kk + 1) J = if (sp_vo J w m c (1226 + 418 * p + 258 + e)).2 0 = 0 then vo_m J (sp_vo J w m c (1226 + 418 * p + 258 + e)).2 else op_go w h n m c wh p kk (mm_up (vo_m J (sp_vo J w m c (1226 + 418 * p + 258 + e)).2) 201 (630 + 40 * m + 7) (bh (J 201) p 32 s)) := by
    rw [op_go, if_neg (by rw [hat]; exact nI_pos (by omega)), hat, vv_nI (by omega), h0, vv_nI (by decide)]
    unfold op_gos
    rw [if_neg (by decide), if_neg (by decide), if_pos rfl, e1, vv_nI e96]
  by_cases c0 : (ev (sp_nm N w m c) cs (0, A 173)).2 0 = 0
  · rw [if_pos (hv.trans c0)] at ego
    have e201 : op_go w h n m c wh p (kk + 1) J 201 = J 201 := by rw [ego, vo_m_a (by decide)]
    refine lg_tU hz hW hm hp ha hj hA hpl f2 hq9 hd h1 hcc hla1 hla2 hla3 hlb hcs g1 hvc g4 c0 hc0 hc1 (fun A1 hA1 hp1 => ?_)
    rw [← cN_x (A := A1) hz hm5 hX]
    rw [e201] at hQ
    refine hQ A1 ⟨fun b hb => (hA1 b (by omega)).trans (hF b hb), Or.inr ⟨(hX _ (by omega)).trans h6, E s, by omega, hp1, Or.inr ⟨s, L, hat, ?_⟩⟩⟩
    refine plS_c (LF := A (37 + 3 * m + 1)) ⟨hs, hS.2.1, fun u hu hu1 _ => m1 u hu hu1, hS.2.2.2.1, Or.inl ⟨m1 s (by omega) (fun q => by have := (ch_in hnS hgS L s hs hS.2.1 s q).1; omega), ?_⟩⟩ hnS hp (fun _ _ _ => rfl) (fun _ _ => rfl) (fun u hu h10 hh => ?_) (fun j _ => by rw [hA1 _ (by omega)])
    · unfold en; rw [if_neg n10]; exact LdP_0 5
    · rcases hh with e | e
      · rw [e] at h10; exact absurd h10 n10
      · have := (ch_in hnS hgS L s hs hS.2.1 u e).1
        exact lv4 (hgS u (by omega)) h10
  · rw [if_neg (fun q => c0 (hv.symm.trans q))] at ego
    have hcl := climb (m := m) (LF := A (37 + 3 * m + 1)) hnS hgS ((hgq _ hX).2) (s + 1) s L (E s + 1) 32 (by omega) hs hS.2.1 m1 hS.2.2.2.1 (f3 (by decide))
    have eJ : mm_up (vo_m J (sp_vo J w m c (1226 + 418 * p + 258 + e)).2) 201 (630 + 40 * m + 7) (bh (J 201) p 32 s) 201 = upd (J 201) (630 + 40 * m + 7) (bh (J 201) p 32 s) := by rw [up_201, vo_m_a (by decide)]
    refine lg_pU hz hW hm hp ha hj hA hpl f2 hq9 hd h1 hcc hla1 hla2 hla3 hlb hcs g1 hvc g4 c0 hc0 hc1 (fun A1 hA1 hp1 => ?_)
    refine hih A1 (mm_up (vo_m J (sp_vo J w m c (1226 + 418 * p + 258 + e)).2) 201 (630 + 40 * m + 7) (bh (J 201) p 32 s)) (E s + 1) (axA_c hA (fun x h1 h2 => hA1 x (by omega))) (by rw [eJ]; exact eqX_u hX (by omega)) hp1 (by omega) ?_ (fun b hb => (hA1 b (by omega)).trans (hF b hb)) (by rw [ego])
    rw [eJ]
    exact plR_up hnS hp hm5 hgS hcl (fun j _ => by rw [hA1 _ (by omega)])
