/-! Calls of the class, as the reference would do them: program -/
theorem mo_T_of {M : mm_I} {N : Nat → Int32} {p nS a : Nat} {CS : List Nat} {E lv : Nat → Nat} (hp : p < 6) (h1 : nS ≤ 32) (w1 : prW M N p nS a CS E lv) : mo_T N p nS := by
  have hg := (prW_g w1).2
  obtain ⟨-, -, -, -, hcs, -, hco, -⟩ := id w1
  refine ⟨h1, fun s hs => ?_⟩
  obtain ⟨⟨q, hq, e0, -, -, g0, gx, -, g8, -⟩, g6, g7⟩ := hg s hs
  have eq : ∀ c : Nat, c ≤ 10 → sf N p s 0 = nI c → q = c := fun c hc z => nI_j (e0.symm.trans z) (by omega) (by omega)
  refine ⟨⟨q, hq, e0⟩, ?_, ?_, fun z => ?_, fun z => ?_, fun z => ?_⟩
  · rcases g6 with z | ⟨u, -, u2, u3⟩
    · exact Or.inl z
    · exact Or.inr ⟨u, u2, u3⟩
  · rcases g7 with z | ⟨u, u1, u2, -⟩
    · exact Or.inl z
    · exact Or.inr ⟨u, u1, u2⟩
  · obtain ⟨x, y, x1, y1, x2, y2, -⟩ := g0 (eq 0 (by decide) z)
    exact ⟨x, y, x1, y1, x2, y2⟩
  · have hq7 : q = 7 ∨ q = 8 ∨ q = 9 := by
      rcases z with z | z | z
      · exact Or.inl (eq 7 (by decide) z)
      · exact Or.inr (Or.inl (eq 8 (by decide) z))
      · exact Or.inr (Or.inr (eq 9 (by decide) z))
    obtain ⟨e, e1, -, cs, c1, c2, c3, c4, c5⟩ := gx hq7
    have hv : vo_at N (1226 + 418 * p + 258 + e) cs := gX_vo hco cs e c1 c2 c3 c5
    refine ⟨e, by omega, e1, ?_⟩
    unfold mo_X
    rw [vo_co cs 160 _ (by omega) hv]
    exact ⟨hv, c4, by omega⟩
  · rw [e0] at z
    have h8 : 8 ≤ q := (nI_leI (a := 8) (by decide) (by omega)).mp z
    obtain ⟨b, -, b2, b3, -, y, -, -, y3⟩ := g8 h8
    refine ⟨⟨b, b2, b3⟩, ?_⟩
    rcases y3 with ⟨z1, -⟩ | ⟨-, b', -, z2, z3, -⟩
    · exact Or.inl z1
    · exact Or.inr ⟨b', z2, z3⟩
theorem pT_of {M : mm_I} {N : Nat → Int32} {n : Nat} (hG : ∀ p, p < 6 → pgR M N n p) : pT N := fun p hp => by
  obtain ⟨nS, h1, h2, -, -, h5, -⟩ := hG p hp
  by_cases z : 0 < nS
  · obtain ⟨a, CS, E, lv, w1, -⟩ := h5 z
    exact ⟨nS, h2, mo_T_of hp h1 w1⟩
  · exact ⟨nS, h2, h1, fun s hs => absurd hs (by omega)⟩
theorem mP_of {M : mm_I} {N : Nat → Int32} {n : Nat} (hG : ∀ p, p < 6 → pgR M N n p) (h6 : ∀ i, i < n → N (630 + 40 * i + 6) = -1 ∨ ∃ p, p < 6 ∧ N (630 + 40 * i + 6) = nI p) : mP N n := fun i hi => by
  rcases h6 i hi with z | ⟨p, hp, z⟩
  · exact Or.inl z
  · obtain ⟨nS, h1, h2, -, -, h5, h7⟩ := hG p hp
    have h0 : 0 < nS := Nat.pos_of_ne_zero (fun q => h7 q i hi z)
    obtain ⟨a, CS, E, lv, w1, w2⟩ := h5 h0
    obtain ⟨x, -, -, x3⟩ := w2 i hi z
    refine Or.inr ⟨p, nS, hp, z, h2, mo_T_of hp h1 w1, ?_⟩
    rcases x3 with ⟨y, -⟩ | ⟨s, L, y, y2⟩
    · exact Or.inl y
    · exact Or.inr ⟨s, y2.1, y⟩
theorem plR_e {N N' LF Aa : Nat → Int32} {m p a nS x : Nat} {E lv : Nat → Nat} {CS : List Nat} (hn : nS ≤ 32) (hp : p < 6) (hg : ∀ s, s < nS → gS N p Aa E lv a CS nS s) (hR : plR N LF m p E lv a Aa nS x) (hk : ∀ y, (636 + 40 * m ≤ y ∧ y < 670 + 40 * m) ∨ (1226 + 418 * p ≤ y ∧ y < 1226 + 418 * (p + 1)) → N' y = N y) : plR N' LF m p E lv a Aa nS x := by
  rcases hR with ⟨h1, h2⟩ | ⟨s, L, h1, h2⟩
  · exact Or.inl ⟨(hk _ (by omega)).trans h1, h2⟩
  · refine Or.inr ⟨s, L, (hk _ (by omega)).trans h1, plS_c h2 hn hp (fun y h1 h2 => hk y (by omega)) (fun u hu => hk _ (by omega)) (fun u hu h10 hh => ?_) (fun _ _ => rfl)⟩
    have hs := h2.1
    rcases hh with e | e
    · rw [e] at h10 ⊢; exact lv4 (hg s hs) h10
    · have := (ch_in hn hg L s hs h2.2.1 u e).1
      exact lv4 (hg u (by omega)) h10
theorem pgR_an2 {M M' : mm_I} {N N' : Nat → Int32} {n p : Nat} (hg : pgR M N n p) (hn : n ≤ 5) (hp : p < 6) (hM : ∀ b, 52 + 5 * p ≤ b → b ≤ 56 + 5 * p → M' b = M b) (hN : ∀ y, 1226 + 418 * p ≤ y → y < 1226 + 418 * (p + 1) → N' y = N y) (hm' : ∀ i, i < n → N' (630 + 40 * i + 6) = nI p → M' (36 + 3 * i) 7 = M (36 + 3 * i) 7 ∧ M' (37 + 3 * i + 1) = M (37 + 3 * i + 1) ∧ ∀ y, 636 + 40 * i ≤ y → y < 670 + 40 * i → N' y = N y) : pgR M' N' n p := by
  obtain ⟨nS, h1, h2, h3, h4, h5, h6⟩ := hg
  have e54 : M' (54 + 5 * p) = M (54 + 5 * p) := hM _ (by omega) (by omega)
  have eA : ∀ a, pgA M' p a = pgA M p a := fun a => by unfold pgA; rw [e54]
  refine ⟨nS, h1, (hN _ (by omega) (by omega)).trans h2, by rw [hM _ (by omega) (by omega)]; exact h3, fun s hs => qs_c (h4 s hs) (Nat.le_refl _) hs (fun s f _ _ => hN _ (by omega) (by omega)), fun h0 => ?_, fun h0 i hi hr => ?_⟩
  · obtain ⟨a, CS, E, lv, w1, w2⟩ := h5 h0
    refine ⟨a, CS, E, lv, prW_c w1 h1 (by rw [hM _ (by omega) (by omega)]) (fun i _ => by rw [hM _ (by omega) (by omega)]) (by rw [hM _ (by omega) (by omega)]) (fun i _ => by rw [hM _ (by omega) (by omega)]) hN, fun i hi hr => ?_⟩
    obtain ⟨i2, i3, i4⟩ := hm' i hi hr
    rw [i4 _ (by omega) (by omega)] at hr
    obtain ⟨x, x1, x2, x3⟩ := w2 i hi hr
    refine ⟨x, x1, i2.trans x2, ?_⟩
    rw [eA, i3]
    refine plR_e (CS := CS) h1 hp (prW_g w1).2 x3 (fun y hy => ?_)
    rcases hy with z | z
    · exact i4 y z.1 z.2
    · exact hN y z.1 z.2
  · obtain ⟨-, -, i4⟩ := hm' i hi hr
    rw [i4 _ (by omega) (by omega)] at hr
    exact h6 h0 i hi hr
theorem row_pg {J : mm_I} {p n t y : Nat} (hB : tp_ok (J 203) t) (hy : y < 1226 + 418 * p ∨ 1226 + 418 * (p + 1) ≤ y) : (op_pg J p n t).2 201 y = peN (J 201) p n y := by
  have e : pg_Z J p n t 0 201 y = peN (J 201) p n y := pg_N_x hB hy
  have e1 : pg_Z J p n t 1 201 y = peN (J 201) p n y := pg_N_x hB hy
  unfold op_pg
  split
  · exact e
  · show mm_up (pg_Z J p n t 1) 201 (1226 + 418 * p) 0 201 y = _
    rw [up_201, upd_n (by omega)]; exact e1
theorem pgJ_a {J : mm_I} {p n a : Nat} (ha : ¬ (a = 200 ∨ a = 201)) : pg_J J p n a = J a := by
  unfold pg_J; funext x; rw [op_pe_ne n (fun q => absurd q (by omega)), mm_up_ne (by omega)]
theorem pg_a {J : mm_I} {p n t a : Nat} (ha : ¬ (a = 200 ∨ a = 201)) : (op_pg J p n t).2 a = J a := by
  have e : ∀ fl, pg_Z J p n t fl a = J a := fun fl => by unfold pg_Z; rw [pz_n (by omega) (by omega), mm_up_a (by omega), pgJ_a ha]
  unfold op_pg
  split
  · exact e 0
  · show mm_up (pg_Z J p n t 1) 201 (1226 + 418 * p) 0 a = _
    rw [mm_up_a (by omega)]; exact e 1
theorem pg_i {J : mm_I} {p n t i : Nat} (hi : i < 11) : (op_pg J p n t).2 200 i = (if i = 4 then 0 else J 200 i) := by
  have e : ∀ fl, pg_Z J p n t fl 200 i = (if i = 4 then 0 else J 200 i) := fun fl => by
    unfold pg_Z
    rw [pz_200 (by omega)]
    by_cases z : i = 4
    · rw [if_pos z, z, mm_up_at]
    · rw [if_neg z, mm_up_ni z]
      unfold pg_J
      rw [op_pe_ne n (fun q => absurd q (by decide)), mm_up_ni (by omega)]
  unfold op_pg
  split
  · exact e 0
  · show mm_up (pg_Z J p n t 1) 201 (1226 + 418 * p) 0 200 i = _
    rw [mm_up_ne (by decide)]; exact e 1
set_option maxHeartbeats 400000 in
theorem cl_program {g : mm_G} {d : Nat} {I : mm_I} {w h n l k o r T : Nat} (H : RC I) (hS : siR I (I 201) w h n l k o r T) {t : Nat} (ht : tpR I I t) {x : Int32} (hd : 160 ≤ d) : mm_Di g zX11_program d [.ref 0, .int x] sh_S I (St I (op_program n t I x)) := by
  have hz := iV_z hS.1
  have hr := iV_r hS.1
  obtain ⟨hz1, hz2, hz3, hz4, hz5, hz6⟩ := id hz
  refine mm_Di_w (cb_program hz hS.2.1 (J := I) rfl ht (by omega)) (fun r_ K hK => ?_)
  obtain ⟨e, s1, k1, k2, k3, k4, k5, k6⟩ := hK
  obtain ⟨-, b, -, ⟨t2, wt⟩, sh, pl⟩ := id H
  have fin : ∀ J' : mm_I, J' 200 4 = 0 → J' 200 2 = I 200 2 → J' 200 5 = I 200 5 → (∀ a, 202 ≤ a → a ≤ 206 → J' a = I a) → (∃ w h n l k o r T, siR K (J' 201) w h n l k o r T) → RC2 K J' := fun J' j4 j2 j5 ja js =>
    ⟨js, imR_c b (by rw [k3 0 (by omega)]) (fun a h1 h2 => k3 a (by omega)) j2 (ja 202 (by decide) (by decide)), ⟨0, k1, j4, by rw [k2, ja 203 (by decide) (by decide)]; exact ht.2.2.1, by decide, fun i hi => absurd hi (Nat.not_lt_zero _)⟩, ⟨t2, wtR_c wt (by rw [k3 191 (by omega)]) (k3 192 (by omega)) j5 (ja 204 (by decide) (by decide))⟩, shR_c sh (fun a h1 h2 => k3 a (by omega)) (ja 205 (by decide) (by decide)) (ja 206 (by decide) (by decide)), pl_c pl (ja 205 (by decide) (by decide))⟩
  refine ⟨fun a ha => k3 a (by omega), e, ?_⟩
  by_cases c : sp_wi x 0 5
  · obtain ⟨p, hp, rfl⟩ := sp_wi_nat 5 (by decide) c
    have hp6 : p < 6 := by omega
    have eo : op_program n t I (nI p) = op_pg I p n t := by unfold op_program; rw [if_neg (fun q => q c), vv_nI (by omega)]
    rw [eo] at s1 k5 ⊢
    have hB := ht.2.2.2
    have hrow : ∀ y, y < 1226 + 418 * p ∨ 1226 + 418 * (p + 1) ≤ y → (op_pg I p n t).2 201 y = peN (I 201) p n y := fun y hy => row_pg hB hy
    have hsame : ∀ y, (y < 630 ∨ 830 ≤ y ∨ ¬ (y - 630) % 40 = 6) → (y < 1226 + 418 * p ∨ 1226 + 418 * (p + 1) ≤ y) → (op_pg I p n t).2 201 y = I 201 y := fun y h1 h2 => by rw [hrow y h2]; exact peN_o n (fun q hq => by omega)
    have h6 : ∀ i, i < n → (op_pg I p n t).2 201 (630 + 40 * i + 6) = (if I 201 (630 + 40 * i + 6) = nI p then -1 else I 201 (630 + 40 * i + 6)) := fun i hi => by rw [hrow _ (by omega)]; exact peN_i n hi
    have h6n : ∀ i, i < n → ¬ (op_pg I p n t).2 201 (630 + 40 * i + 6) = nI p := fun i hi z => by
      rw [h6 i hi] at z
      by_cases q : I 201 (630 + 40 * i + 6) = nI p
      · rw [if_pos q] at z; exact nI_m z.symm (by omega)
      · rw [if_neg q] at z; exact q z
    have hG : ∀ p', p' < 6 → pgR K ((op_pg I p n t).2 201) n p' := by
      intro p' hp'
      by_cases z : p' = p
      · subst z
        obtain ⟨n2, m1, m2, m3, m4⟩ := k5 p' hp' rfl
        obtain ⟨n3, q1, q2, q3⟩ := prQ_pg (J := I) (p := p') (n := n) (t := t) hB
        have : n3 = n2 := nI_j (q2.symm.trans m2) (by omega) (by omega)
        subst this
        refine ⟨n3, m1, m2, m3, q3, fun h0 => ?_, fun _ i hi => h6n i hi⟩
        obtain ⟨a, CS, E, lv, w1⟩ := m4 h0
        exact ⟨a, CS, E, lv, w1, fun i hi hr => absurd hr (h6n i hi)⟩
      · refine pgR_an2 (hS.2.2 p' hp') hz2 hp' (fun b h1 h2 => k4 p' hp' (fun q => z (nI_j q.symm (by omega) (by omega))) b h1 h2) (fun y h1 h2 => hsame y (by omega) (by omega)) (fun i hi hr => ?_)
        have hr2 := hr
        rw [h6 i hi] at hr2
        have hne : ¬ I 201 (630 + 40 * i + 6) = nI p := fun q => by rw [if_pos q] at hr2; exact nI_m hr2.symm (by omega)
        have hcm := k6 i hi (Or.inr hne)
        refine ⟨by rw [hcm _ (by omega) (by omega)], hcm _ (by omega) (by omega), fun y h1 h2 => ?_⟩
        by_cases q : y = 630 + 40 * i + 6
        · rw [q, h6 i hi, if_neg hne]
        · exact hsame y (by omega) (by omega)
    have hr45 := hr
    obtain ⟨H1, H2, H3, ⟨h15, h16, h17, h18, h19⟩, ⟨hn, hl, hk, ho⟩, ⟨la, lb, hL⟩, h5, h6', hLo, hH, hY, hO, ⟨h7, hT7⟩, hR, hC⟩ := hS.1
    refine fin _ ((pg_i (by decide)).trans (if_pos rfl)) ((pg_i (by decide)).trans (if_neg (by decide))) ((pg_i (by decide)).trans (if_neg (by decide))) (fun a h1 h2 => pg_a (by omega)) ⟨w, h, n, l, k, o, r, T, ⟨iT_e2 H1 hn (fun y hy => hsame y (by omega) (by omega)), mP_of hG (fun i hi => ?_), pT_of hG, ⟨(hsame 15 (by omega) (by omega)).trans h15, (hsame 16 (by omega) (by omega)).trans h16, (hsame 17 (by omega) (by omega)).trans h17, (hsame 18 (by omega) (by omega)).trans h18, (hsame 19 (by omega) (by omega)).trans h19⟩, ⟨hn, hl, hk, ho⟩, ⟨la, lb, (hsame 2 (by omega) (by omega)).trans hL.1, (hsame 3 (by omega) (by omega)).trans hL.2.1, hL.2.2⟩, by rw [hsame 5 (by omega) (by omega)]; exact h5, by rw [hsame 6 (by omega) (by omega)]; exact h6', fun i hi => by rw [hsame _ (by omega) (by omega)]; exact hLo i hi, fun i hi => by rw [hsame _ (by omega) (by omega)]; exact hH i hi, fun i hi => by rw [hsame _ (by omega) (by omega)]; exact hY i hi, fun i hi => by rw [hsame _ (by omega) (by omega), hsame _ (by omega) (by omega)]; exact hO i hi, ⟨(hsame 7 (by omega) (by omega)).trans h7, hT7⟩, fun i hi => by rw [hsame _ (by omega) (by omega), hsame _ (by omega) (by omega), hsame _ (by omega) (by omega)]; exact hR i hi, fun j => by rw [rcnt_c _ (fun i hi => hsame _ (by omega) (by omega))]; exact hC j⟩, s1, hG⟩
    rw [h6 i hi]
    by_cases q : I 201 (630 + 40 * i + 6) = nI p
    · rw [if_pos q]; exact Or.inl rfl
    · rw [if_neg q]
      rcases H2 i hi with z | ⟨p', k', p1, p2, -⟩
      · exact Or.inl z
      · exact Or.inr ⟨p', p1, p2⟩
  · have eo : op_program n t I x = (-1000000001, mm_up I 200 4 0) := by unfold op_program; rw [if_pos c]
    rw [eo] at s1 ⊢
    have hu : ∀ a, a ≠ 200 → mm_up I 200 4 0 a = I a := fun a h => mm_up_a h
    have s1' : sS (w * h) n l k o r K (mm_up I 200 4 0 201) := s1
    rw [hu 201 (by decide)] at s1'
    refine fin (mm_up I 200 4 0) mm_up_at (mm_up_ni (by decide)) (mm_up_ni (by decide)) (fun a h1 h2 => hu a (by omega)) ⟨w, h, n, l, k, o, r, T, ?_⟩
    rw [hu 201 (by decide)]
    refine ⟨hS.1, s1', fun p hp => pgR_an2 (hS.2.2 p hp) hz2 hp (fun b h1 h2 => k4 p hp (fun q => c (by rw [q]; exact (sp_wi_nI (b := 5) (by omega) (by decide)).mpr (by omega))) b h1 h2) (fun _ _ _ => rfl) (fun i hi _ => ?_)⟩
    have hcm := k6 i hi (Or.inl c)
    exact ⟨by rw [hcm _ (by omega) (by omega)], hcm _ (by omega) (by omega), fun _ _ _ => rfl⟩
