/-! THE SITE as both have it: a MACHINE's TICK -/
theorem pgR_p {M M' : mm_I} {N N' : Nat → Int32} {n m p nS a : Nat} {CS : List Nat} {E lv : Nat → Nat} (hn : n ≤ 5) (hp : p < 6) (h1 : nS ≤ 32) (h2 : N (1226 + 418 * p) = nI nS) (h3 : M (52 + 5 * p) 2 = nI nS) (h4 : ∀ s, s < nS → qs p nS N s) (h0 : 0 < nS) (w1 : prW M N p nS a CS E lv) (w2 : plM M N n p nS a E lv) (hM : ∀ b, 52 + 5 * p ≤ b → b ≤ 56 + 5 * p → M' b = M b) (hm' : ∀ i, i < n → ¬ i = m → M' (36 + 3 * i) 7 = M (36 + 3 * i) 7 ∧ M' (37 + 3 * i + 1) = M (37 + 3 * i + 1)) (hN : ∀ y, (630 ≤ y ∧ y < 830 ∧ 6 ≤ (y - 630) % 40 ∧ ¬ (630 + 40 * m ≤ y ∧ y < 670 + 40 * m)) ∨ 1226 ≤ y → N' y = N y) (hmm : N' (630 + 40 * m + 6) = nI p → ∃ x, x ≤ 40 ∧ M' (36 + 3 * m) 7 = nI x ∧ plR N' (M' (37 + 3 * m + 1)) m p E lv a (pgA M p a) nS x) : pgR M' N' n p := by
  have e54 : M' (54 + 5 * p) = M (54 + 5 * p) := hM _ (by omega) (by omega)
  have eA : pgA M' p a = pgA M p a := by unfold pgA; rw [e54]
  refine ⟨nS, h1, (hN _ (by omega)).trans h2, by rw [hM _ (by omega) (by omega)]; exact h3, fun s hs => qs_c (h4 s hs) (Nat.le_refl _) hs (fun s f _ _ => hN _ (by omega)), fun _ => ⟨a, CS, E, lv, prW_c w1 h1 (by rw [hM _ (by omega) (by omega)]) (fun i _ => by rw [hM _ (by omega) (by omega)]) (by rw [hM _ (by omega) (by omega)]) (fun i _ => by rw [hM _ (by omega) (by omega)]) (fun x _ _ => hN x (by omega)), fun i hi hr => ?_⟩, fun q => by omega⟩
  rw [eA]
  by_cases e : i = m
  · subst e; exact hmm hr
  · rw [hN _ (by omega)] at hr
    obtain ⟨x, x1, x2, x3⟩ := w2 i hi hr
    refine ⟨x, x1, (hm' i hi e).1.trans x2, ?_⟩
    rw [(hm' i hi e).2]
    exact plR_k (CS := CS) h1 hp (prW_g w1).2 x3 (fun y hy => hN y (by omega)) (fun _ _ => rfl)
theorem pgR_o {M M' : mm_I} {N N' : Nat → Int32} {n m p : Nat} (h : pgR M N n p) (hn : n ≤ 5) (hp : p < 6) (hM : ∀ b, 52 + 5 * p ≤ b → b ≤ 56 + 5 * p → M' b = M b) (hm' : ∀ i, i < n → ¬ i = m → M' (36 + 3 * i) 7 = M (36 + 3 * i) 7 ∧ M' (37 + 3 * i + 1) = M (37 + 3 * i + 1)) (hN : ∀ y, (630 ≤ y ∧ y < 830 ∧ 6 ≤ (y - 630) % 40 ∧ ¬ (630 + 40 * m ≤ y ∧ y < 670 + 40 * m)) ∨ 1226 ≤ y → N' y = N y) (hmm : ¬ N' (630 + 40 * m + 6) = nI p) : pgR M' N' n p := by
  obtain ⟨nS, h1, h2, h3, h4, h5, h6⟩ := h
  by_cases h0 : 0 < nS
  · obtain ⟨a, CS, E, lv, w1, w2⟩ := h5 h0
    exact pgR_p hn hp h1 h2 h3 h4 h0 w1 w2 hM hm' hN (fun q => absurd q hmm)
  · refine ⟨nS, h1, (hN _ (by omega)).trans h2, by rw [hM _ (by omega) (by omega)]; exact h3, fun s hs => absurd hs (by omega), fun q => absurd q h0, fun q i hi hr => ?_⟩
    by_cases e : i = m
    · subst e; exact hmm hr
    · rw [hN _ (by omega)] at hr; exact h6 q i hi hr
def tk_one (w h n : Nat) (J : mm_I) (i : Nat) : mm_I := if tk_no (J 201) i then J else op_go w h n i (vv (J 201 (630 + 40 * i + 1))) (vv (J 201 (630 + 40 * i + 5))) (vv (J 201 (630 + 40 * i + 6))) 50 J
theorem tk_ms {w h n : Nat} {J : mm_I} {i : Nat} : tk_m w h n J (i + 1) = tk_one w h n (tk_m w h n J i) i := rfl
theorem iT_K {N : Nat → Int32} {w h n : Nat} (H : iT N w h n) : mo_K N (w * h) := fun i hi => by
  obtain ⟨q, q1, q2, -⟩ := H.2.2.2.1 i hi
  rw [q2]; exact ⟨nI_pos' (by omega), (nI_leI (b := 4) (by omega) (by decide)).mpr q1⟩
theorem iT_Q {N : Nat → Int32} {w h n : Nat} (H : iT N w h n) : mo_Q N n := fun i hi => by
  obtain ⟨⟨q, q1, q2⟩, -⟩ := H.2.1 i hi
  rw [q2]; exact ⟨nI_pos' (by omega), (nI_leI (b := 3) (by omega) (by decide)).mpr q1⟩
theorem iT_C {N : Nat → Int32} {w h n : Nat} (H : iT N w h n) : mo_C N n (w * h) := fun i hi => (H.2.1 i hi).2.1
theorem iT_B {N : Nat → Int32} {w h n : Nat} (H : iT N w h n) : mo_B N n := fun i hi => ⟨(H.2.1 i hi).2.2.2.2.1, (H.2.1 i hi).2.2.2.1⟩
set_option maxHeartbeats 600000 in
theorem cg_rs {g : mm_G} {d : Nat} {M J : mm_I} {w h n l k o r la lb m : Nat} (hz : zOK (w * h) n l k o r) (H : iT (J 201) w h n) (hP : mP (J 201) n) (h16 : J 201 16 = nI n) (hL : J 201 2 = nI la ∧ J 201 3 = nI lb ∧ (1 ≤ la ∧ la ≤ 24) ∧ lb ≤ 24) (hS : sS (w * h) n l k o r M (J 201)) (hG : ∀ p, p < 6 → pgR M (J 201) n p) (hm : m < n) (hd : 7 ≤ d) : mm_Dv g zX6_runScript d [.ref 171, .ref (36 + 3 * m)] sh_S M (fun M' => sS (w * h) n l k o r M' (tk_one w h n J m 201) ∧ (∀ p, p < 6 → pgR M' (tk_one w h n J m 201) n p) ∧ tkF M' M) := by
  obtain ⟨hz1, hz2, hz3, hz4, hz5, hz6⟩ := id hz
  have hself := sS_self hS
  have hW := H.1
  have hcc := mo_W_c hW
  obtain ⟨-, -, ⟨q, q1, q2⟩, ⟨v, v1, v2⟩, ⟨z, z1, z2⟩, -⟩ := H.2.1 m hm
  unfold tk_one
  by_cases hno : tk_no (J 201) m
  · rw [if_pos hno]
    have hno' : 100 ≤ J 201 (630 + 40 * m + 3) ∨ J 201 (630 + 40 * m + 2) ≤ 0 ∨ J 201 (630 + 40 * m + 6) < 0 := by
      rcases hno with e | e | e
      · exact Or.inl (by rw [e]; exact Int32.le_refl _)
      · exact Or.inr (Or.inl e)
      · exact Or.inr (Or.inr e)
    have hc := cg_rs0 (g := g) (d := d) (A := M) hz hW hm hno' (by omega)
    rw [← hself] at hc
    exact mm_Cv_Dv hc ⟨hS, hG, fun _ _ => rfl⟩
  · rw [if_neg hno]
    obtain ⟨c, p, k', wh, hGo, h0, h7, q', hq1, hq2, hq3⟩ := tk_G H hP h16 hz2 hL hm hno
    obtain ⟨-, -, -, hm5, ⟨hc1, hcw⟩, ⟨hwh, hwh1⟩, ⟨hpp, hp⟩, hT⟩ := id hGo
    rw [hc1, vv_nI (by omega), hwh, vv_nI (by omega), hpp, vv_nI (by omega)]
    obtain ⟨nS, n1, n2, n3, n4, n5, n6⟩ := hG p hp
    have hk : k' = nS := nI_j (h0.symm.trans n2) (by have := hT.1; omega) (by omega)
    subst hk
    have h0' : 0 < k' := Nat.pos_of_ne_zero (fun e => n6 e m hm hpp)
    obtain ⟨a, CS, E, lv, w1, w2⟩ := n5 h0'
    obtain ⟨x, x1, x2, x3⟩ := w2 m hm hpp
    obtain ⟨b, b1, b2⟩ := H.2.2.2.2.1
    obtain ⟨pt, t1, t2⟩ := H.2.2.2.2.2
    have hb : ¬ 100 ≤ J 201 (630 + 40 * m + 3) := fun e => hno (Or.inl (by rw [v2] at e ⊢; have := (nI_leI (a := 100) (by decide) (by omega)).mp e; rw [show v = 100 by omega]; rfl))
    have hcx : cxN (J 201) w h n m c q' z wh b pt la lb := ⟨hW, ⟨hc1, hcw⟩, ⟨hq3, hq1, hq2⟩, ⟨z2, z1⟩, ⟨hwh, hwh1⟩, ⟨b2, by omega⟩, ⟨t2, by omega⟩, hL, H.2.2.1, iT_K H, iT_Q H, iT_C H, iT_B H⟩
    obtain ⟨v1', v2', v3', v4', v5', v6', v7', v8'⟩ := id w1
    have hpg : pgX (J 201) m p a k' E lv (pgA M p a) CS := ⟨hp, v2', n1, v5', hpp, v7', fun N' hX => ⟨(v8' N' (pgA M p a) (fun s f _ _ => hX _ (by omega)) (fun i hi => if_pos hi)).2, fun s hs => qs_c (n4 s hs) (Nat.le_refl _) hs (fun s f _ _ => hX _ (by omega))⟩⟩
    have hA : axA M p a (pgA M p a) CS := ⟨v3', fun i hi => (if_pos hi).symm, fun i hi => if_neg (by omega), v4', v6'⟩
    have hc := cg_rs1 (g := g) (d := d) (A := M) (J := J) hz hcx hm hpg rfl hb hA x2 x1 x3 hd
    rw [← hself] at hc
    obtain ⟨g1, g2, g3⟩ := go_inv hz2 hm 50 J hGo h7 H ⟨q', hq1, hq2, hq3⟩
    refine mm_Dv_w hc (fun M' hM' => ?_)
    obtain ⟨A', ⟨r1, r2⟩, rfl⟩ := hM'
    have hoff : ∀ b, offC b → ¬ ((36 + 3 * m ≤ b ∧ b ≤ 38 + 3 * m) ∨ b = 172 ∨ b = 173 ∨ (13 ≤ b ∧ b ≤ 16)) → cN (w * h) n l k o r A' (op_go w h n m c wh p 50 J 201) b = M b := fun b h1 h2 => by rw [cN_oa hz2 h1]; exact r1 b h2
    have hoth : ∀ i, i < n → ¬ i = m → cN (w * h) n l k o r A' (op_go w h n m c wh p 50 J 201) (36 + 3 * i) 7 = M (36 + 3 * i) 7 ∧ cN (w * h) n l k o r A' (op_go w h n m c wh p 50 J 201) (37 + 3 * i + 1) = M (37 + 3 * i + 1) := fun i hi hne => ⟨by rw [s_m7 hz2 (by omega), r1 _ (by omega)], hoff _ (by omega) (by omega)⟩
    have hfN : ∀ y, (630 ≤ y ∧ y < 830 ∧ 6 ≤ (y - 630) % 40 ∧ ¬ (630 + 40 * m ≤ y ∧ y < 670 + 40 * m)) ∨ 1226 ≤ y → op_go w h n m c wh p 50 J 201 y = J 201 y := fun y hy => g2 y (by omega)
    refine ⟨sS_cN hz, fun p' hp' => ?_, fun b hb => hoff b (by omega) (by omega)⟩
    by_cases e : p' = p
    · subst e
      refine pgR_p hz2 hp' n1 n2 n3 n4 h0' w1 w2 (fun b h1 h2 => hoff b (by omega) (by omega)) hoth hfN (fun hr => ?_)
      rcases r2 with r2 | ⟨-, x', y1, y2, y3⟩
      · exact (nI_m (hr.symm.trans r2) (by omega)).elim
      · exact ⟨x', y1, by rw [s_m7 hz2 (by omega)]; exact y2, by rw [cN_oa hz2 (by omega)]; exact y3⟩
    · refine pgR_o (hG p' hp') hz2 hp' (fun b h1 h2 => hoff b (by omega) (by omega)) hoth hfN (fun hr => ?_)
      rcases r2 with r2 | ⟨r2, -⟩
      · exact nI_m (hr.symm.trans r2) (by omega)
      · exact e (nI_j (hr.symm.trans r2) (by omega) (by omega))
