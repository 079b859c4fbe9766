/-! Steps and those beside, within and above them: a reading -/
theorem BdQ_w {p n f : Nat} {ab : Int32} {N0 : Nat → Int32} {S S' : rS} {v : Int32} (hf : f = 1 ∨ f = 2 ∨ f = 3) (h : BdQ p n ab N0 S) (e1 : S'.2.2.1 = sw p S.2.2.1 n f v) (e2 : S'.2.2.2.2 = S.2.2.2.2) : BdQ p n ab N0 S' := by
  obtain ⟨h1, h2, h3, h4, h5⟩ := h
  unfold BdQ
  rw [e1, e2]
  exact ⟨h1, fun s a b => qs_sw (by omega) (h2 s a b) (Or.inr hf), (sw_n (by omega) (by omega) (by decide)).trans h3, (sw_n (by omega) (by omega) (by decide)).trans h4, FrS_t h5 (FrS_sw (Nat.le_refl _) (by omega)) (Nat.le_refl _)⟩
theorem new_4 {p n o : Nat} {N : Nat → Int32} {ab : Int32} : sf (r_new p N n o ab) p n 4 = -1 := by
  unfold r_new; rw [sw_n (by omega) (by decide) (by decide), sw_n (by omega) (by decide) (by decide), sw_n (by omega) (by decide) (by decide), sw_y]
theorem FrS_new {p n o : Nat} {N : Nat → Int32} {ab : Int32} : FrS p n N (r_new p N n o ab) := fun s f hs hf => by
  unfold r_new
  rw [sw_n (by omega) (by decide) hf, sw_n (by omega) (by decide) hf, sw_n (by omega) (by decide) hf, sw_n (by omega) (by decide) hf, sw_n (by omega) (by decide) hf]
  exact upd_n (by omega)
theorem BdQ_new {p n o k : Nat} {ab : Int32} {N : Nat → Int32} {CS : List Nat} {ok : Bool} : BdQ p n ab N (ok, k, r_new p N n o ab, CS, n + 1) := by
  refine ⟨by show n < n + 1; omega, fun s a b => ?_, new_7, new_6, FrS_new⟩
  change s < n + 1 at b
  have e : s = n := by omega
  subst e
  exact ⟨Or.inl new_4, Or.inl new_5, Or.inl new_6⟩
theorem BdQ_op {K V : Nat → Nat} {p D n o : Nat} {row : Int32 → rS → Int32 × rS} {ab : Int32} {N0 : Nat → Int32} {S : rS} (hR : RowQ p row) (hg : ∀ ab S, gn_ p S (row ab S).2) (h : BdQ p n ab N0 S) (hok : (r_op K V p D row n o S).1 = true) (hb : (r_op K V p D row n o S).2.2.2.2 < 1000) : BdQ p n ab N0 (r_op K V p D row n o S) := by
  unfold r_op at hok hb ⊢
  by_cases c0 : o = 0
  · rw [if_pos c0]
    exact BdQ_w (f := 2) (Or.inr (Or.inl rfl)) (BdQ_w (f := 1) (S' := r_nu K V p 1 n S) (Or.inl rfl) h rfl rfl) rfl rfl
  rw [if_neg c0] at hok hb ⊢
  by_cases c1 : o = 10
  · rw [if_pos c1] at hok hb ⊢
    exact BdQ_bd hR (Or.inl rfl) (BdQ_w (f := 1) (S' := r_nu K V p 1 n S) (Or.inl rfl) h rfl rfl) hok hb
  rw [if_neg c1] at hok hb ⊢
  by_cases c2 : o = 7
  · rw [if_pos c2]
    exact BdQ_w (f := 3) (S' := r_ex K V p n S) (Or.inr (Or.inr rfl)) h rfl rfl
  rw [if_neg c2] at hok hb ⊢
  by_cases c3 : o = 9
  · rw [if_pos c3] at hok hb ⊢
    exact BdQ_bd hR (Or.inl rfl) (BdQ_w (f := 3) (S' := r_ex K V p n S) (Or.inr (Or.inr rfl)) h rfl rfl) hok hb
  rw [if_neg c3] at hok hb ⊢
  by_cases c4 : o = 8
  · rw [if_pos c4] at hok hb ⊢
    have hx : BdQ p n ab N0 (r_ex K V p n S) := BdQ_w (f := 3) (S' := r_ex K V p n S) (Or.inr (Or.inr rfl)) h rfl rfl
    unfold r_el at hok hb ⊢
    by_cases c : (r_bd K p D row 4 n (r_ex K V p n S)).1 = true ∧ K (r_bd K p D row 4 n (r_ex K V p n S)).2.1 = 403
    · rw [if_pos c] at hok hb ⊢
      have hn : n < (r_bd K p D row 4 n (r_ex K V p n S)).2.2.2.2 := Nat.lt_of_lt_of_le hx.1 (gn_bd hg (by decide) hx.1).1
      have hm : (r_bd K p D row 4 n (r_ex K V p n S)).2.2.2.2 ≤ (r_bd K p D row 5 n (true, (r_bd K p D row 4 n (r_ex K V p n S)).2.1 + 1, (r_bd K p D row 4 n (r_ex K V p n S)).2.2)).2.2.2.2 := (gn_bd (S := (true, (r_bd K p D row 4 n (r_ex K V p n S)).2.1 + 1, (r_bd K p D row 4 n (r_ex K V p n S)).2.2)) hg (by decide) hn).1
      have h2 := BdQ_bd hR (Or.inl rfl) hx c.1 (Nat.lt_of_le_of_lt hm hb)
      exact BdQ_bd hR (Or.inr rfl) (S := (true, (r_bd K p D row 4 n (r_ex K V p n S)).2.1 + 1, (r_bd K p D row 4 n (r_ex K V p n S)).2.2)) h2 hok hb
    · rw [if_neg c] at hok hb ⊢
      exact BdQ_bd hR (Or.inl rfl) hx hok hb
  rw [if_neg c4]; exact h
set_option maxRecDepth 100000 in
theorem OneQ {K V : Nat → Nat} {p D : Nat} {row : Int32 → rS → Int32 × rS} {ab : Int32} {S : rS} (hR : RowQ p row) (hg : ∀ ab S, gn_ p S (row ab S).2) (hok : (r_one K V p D row ab S).2.1 = true) (hb : (r_one K V p D row ab S).2.2.2.2.2 < 1000) : (r_one K V p D row ab S).1 = nI S.2.2.2.2 ∧ BdQ p S.2.2.2.2 ab S.2.2.1 (r_one K V p D row ab S).2 := by
  unfold r_one at hok hb ⊢
  by_cases c : isW (K S.2.1)
  · rw [if_pos c] at hok hb ⊢
    exact ⟨rfl, BdQ_op hR hg BdQ_new hok hb⟩
  · rw [if_neg c] at hok
    exact absurd (show false = true from hok) (by decide)
theorem BdQ_bd0 {K : Nat → Nat} {p n f : Nat} {row : Int32 → rS → Int32 × rS} {S : rS} (hok : (r_bd K p 0 row f n S).1 = true) : False := by
  have e : r_br K 0 row n S = (-1, false, S.2) := if_neg (fun q => absurd q.2.2 (by decide))
  unfold r_bd at hok
  rw [e] at hok
  exact absurd (show false = true from hok) (by decide)
theorem BdQ_op0 {K V : Nat → Nat} {p n o : Nat} {row : Int32 → rS → Int32 × rS} {ab : Int32} {N0 : Nat → Int32} {S : rS} (h : BdQ p n ab N0 S) (hok : (r_op K V p 0 row n o S).1 = true) : BdQ p n ab N0 (r_op K V p 0 row n o S) := by
  unfold r_op at hok ⊢
  by_cases c0 : o = 0
  · rw [if_pos c0]
    exact BdQ_w (f := 2) (Or.inr (Or.inl rfl)) (BdQ_w (f := 1) (S' := r_nu K V p 1 n S) (Or.inl rfl) h rfl rfl) rfl rfl
  rw [if_neg c0] at hok ⊢
  by_cases c1 : o = 10
  · rw [if_pos c1] at hok; exact (BdQ_bd0 hok).elim
  rw [if_neg c1] at hok ⊢
  by_cases c2 : o = 7
  · rw [if_pos c2]
    exact BdQ_w (f := 3) (S' := r_ex K V p n S) (Or.inr (Or.inr rfl)) h rfl rfl
  rw [if_neg c2] at hok ⊢
  by_cases c3 : o = 9
  · rw [if_pos c3] at hok; exact (BdQ_bd0 hok).elim
  rw [if_neg c3] at hok ⊢
  by_cases c4 : o = 8
  · rw [if_pos c4] at hok
    unfold r_el at hok
    by_cases c : (r_bd K p 0 row 4 n (r_ex K V p n S)).1 = true ∧ K (r_bd K p 0 row 4 n (r_ex K V p n S)).2.1 = 403
    · exact (BdQ_bd0 c.1).elim
    · rw [if_neg c] at hok; exact (BdQ_bd0 hok).elim
  rw [if_neg c4]; exact h
set_option maxRecDepth 100000 in
theorem OneQ0 {K V : Nat → Nat} {p : Nat} {row : Int32 → rS → Int32 × rS} {ab : Int32} {S : rS} (hok : (r_one K V p 0 row ab S).2.1 = true) (hb : (r_one K V p 0 row ab S).2.2.2.2.2 < 1000) : (r_one K V p 0 row ab S).1 = nI S.2.2.2.2 ∧ BdQ p S.2.2.2.2 ab S.2.2.1 (r_one K V p 0 row ab S).2 := by
  unfold r_one at hok hb ⊢
  by_cases c : isW (K S.2.1)
  · rw [if_pos c] at hok hb ⊢
    exact ⟨rfl, BdQ_op0 BdQ_new hok⟩
  · rw [if_neg c] at hok
    exact absurd (show false = true from hok) (by decide)
theorem LpQ {K : Nat → Nat} {p n0 : Nat} {ab : Int32} {N0 : Nat → Int32} {one : rS → Int32 × rS} (hg : ∀ S, gn_ p S (one S).2 ∧ ((one S).2.1 = true → (one S).1 = nI S.2.2.2.2 ∧ S.2.2.2.2 < (one S).2.2.2.2.2)) (h1 : ∀ S, (one S).2.1 = true → (one S).2.2.2.2.2 < 1000 → (one S).1 = nI S.2.2.2.2 ∧ BdQ p S.2.2.2.2 ab S.2.2.1 (one S).2) : ∀ (m : Nat) (f l : Int32) (S : rS) (q : Nat), (f < 0 → S.2.2.2.2 = n0) → (¬ f < 0 → f = nI n0 ∧ l = nI q ∧ n0 ≤ q ∧ q < S.2.2.2.2 ∧ sf S.2.2.1 p q 7 = ab ∧ sf S.2.2.1 p q 6 = -1 ∧ sf S.2.2.1 p n0 7 = ab ∧ ∀ s, n0 ≤ s → s < S.2.2.2.2 → qs p S.2.2.2.2 S.2.2.1 s) → FrS p n0 N0 S.2.2.1 → n0 ≤ S.2.2.2.2 → (¬ f < 0 ∨ 0 < m) → (r_lp K p one m f l S).2.1 = true → (r_lp K p one m f l S).2.2.2.2.2 < 1000 → (r_lp K p one m f l S).1 = nI n0 ∧ n0 < (r_lp K p one m f l S).2.2.2.2.2 ∧ sf (r_lp K p one m f l S).2.2.2.1 p n0 7 = ab ∧ (∀ s, n0 ≤ s → s < (r_lp K p one m f l S).2.2.2.2.2 → qs p (r_lp K p one m f l S).2.2.2.2.2 (r_lp K p one m f l S).2.2.2.1 s) ∧ FrS p n0 N0 (r_lp K p one m f l S).2.2.2.1 := by
  intro m
  induction m with
  | zero =>
    intro f l S q _ hnf hF _ h0 _ _
    obtain ⟨e1, e2, e3, e4, e5, e6, e7, e8⟩ := hnf (h0.resolve_right (by omega))
    exact ⟨e1, Nat.lt_of_le_of_lt e3 e4, e7, e8, hF⟩
  | succ m ih =>
    intro f l S q hf hnf hF hle _ hok hb
    -- what one step gives
    have key : (one S).2.1 = true → (one S).2.2.2.2.2 < 1000 → (if f < 0 then (one S).1 else f) = nI n0 ∧ (one S).1 = nI S.2.2.2.2 ∧ n0 ≤ S.2.2.2.2 ∧ S.2.2.2.2 < (one S).2.2.2.2.2 ∧ sf (r_nx p f l (one S)).2.2.1 p S.2.2.2.2 7 = ab ∧ sf (r_nx p f l (one S)).2.2.1 p S.2.2.2.2 6 = -1 ∧ sf (r_nx p f l (one S)).2.2.1 p n0 7 = ab ∧ (∀ s, n0 ≤ s → s < (one S).2.2.2.2.2 → qs p (one S).2.2.2.2.2 (r_nx p f l (one S)).2.2.1 s) ∧ FrS p n0 N0 (r_nx p f l (one S)).2.2.1 := by
      intro k1 k2
      obtain ⟨y1, b1, b2, b3, b4, b5⟩ := h1 S k1 k2
      by_cases cf : f < 0
      · have e := hf cf
        have en : (r_nx p f l (one S)).2.2.1 = (one S).2.2.2.1 := if_pos cf
        rw [if_pos cf, en, ← e]
        refine ⟨y1, y1, Nat.le_refl _, b1, b3, b4, b3, b2, ?_⟩
        rw [e]; rw [e] at b5
        exact FrS_t hF b5 (Nat.le_refl _)
      · obtain ⟨e1, e2, e3, e4, e5, e6, e7, e8⟩ := hnf cf
        have en : (r_nx p f l (one S)).2.2.1 = sw p (one S).2.2.2.1 q 6 (one S).1 := by
          show (if f < 0 then _ else if (one S).2.1 = true then sw p (one S).2.2.2.1 (vv l) 6 (one S).1 else _) = _
          rw [if_neg cf, if_pos k1, e2, vv_nI (by omega)]
        have sn : ∀ s f', f' < 8 → ¬ (s = q ∧ f' = 6) → sf (sw p (one S).2.2.2.1 q 6 (one S).1) p s f' = sf (one S).2.2.2.1 p s f' := fun s f' a b => sw_n b (by decide) a
        rw [if_neg cf, en]
        refine ⟨e1, y1, hle, b1, (sn _ 7 (by decide) (by omega)).trans b3, (sn _ 6 (by decide) (by omega)).trans b4, (sn _ 7 (by decide) (by omega)).trans ((b5 n0 7 (by omega) (by decide)).trans e7), fun s a b => ?_, fun s f' a b => (sn s f' b (by omega)).trans ((b5 s f' (by omega) b).trans (hF s f' a b))⟩
        by_cases es : s = q
        · subst es
          obtain ⟨z4, z5, -⟩ := qs_c (e8 s a e4) (Nat.le_of_lt b1) e4 (fun s' f' a b => b5 s' f' a b)
          refine ⟨?_, ?_, Or.inr ⟨S.2.2.2.2, e4, b1, sw_y.trans y1, ?_⟩⟩
          · rcases z4 with z | ⟨b', c1, c2, c3, c4⟩
            · exact Or.inl ((sn s 4 (by decide) (by omega)).trans z)
            · exact Or.inr ⟨b', c1, c2, (sn s 4 (by decide) (by omega)).trans c3, (sn b' 7 (by decide) (by omega)).trans c4⟩
          · rcases z5 with z | ⟨b', c1, c2, c3, c4⟩
            · exact Or.inl ((sn s 5 (by decide) (by omega)).trans z)
            · exact Or.inr ⟨b', c1, c2, (sn s 5 (by decide) (by omega)).trans c3, (sn b' 7 (by decide) (by omega)).trans c4⟩
          · rw [sn _ 7 (by decide) (by omega), sn s 7 (by decide) (by omega), b3, b5 s 7 e4 (by decide), e5]
        · refine qs_sw (by decide) ?_ (Or.inl es)
          by_cases e9 : s < S.2.2.2.2
          · exact qs_c (e8 s a e9) (Nat.le_of_lt b1) e9 (fun s' f' a b => b5 s' f' a b)
          · exact b2 s (Nat.not_lt.mp e9) b
    by_cases c : (one S).2.1 = true ∧ isW (K (one S).2.2.1)
    · have eL : r_lp K p one (m + 1) f l S = r_lp K p one m (if f < 0 then (one S).1 else f) (one S).1 (r_nx p f l (one S)) := by rw [r_lp, if_pos c]
      rw [eL] at hok hb ⊢
      have hl : ¬ f < 0 → vv l < S.2.2.2.2 := fun cf => by obtain ⟨-, e2, -, e4, -⟩ := hnf cf; rw [e2]; exact Nat.lt_of_le_of_lt (vv_nIle _) e4
      have hmono : (one S).2.2.2.2.2 ≤ (r_lp K p one m (if f < 0 then (one S).1 else f) (one S).1 (r_nx p f l (one S))).2.2.2.2.2 := (gn_lp hg m _ _ (r_nx p f l (one S)) (fun _ => by obtain ⟨z1, z2⟩ := (hg S).2 c.1; rw [z1]; exact Nat.lt_of_le_of_lt (vv_nIle _) z2)).1
      obtain ⟨w1, w2, w3, w4, w5, w6, w7, w8, w9⟩ := key c.1 (Nat.lt_of_le_of_lt hmono hb)
      refine ih _ _ (r_nx p f l (one S)) S.2.2.2.2 (fun z => ?_) (fun _ => ⟨w1, w2, w3, w4, w5, w6, w7, w8⟩) w9 (Nat.le_trans w3 (Nat.le_of_lt w4)) (Or.inl (by rw [w1]; exact nI_pos (by omega))) hok hb
      rw [w1] at z; exact absurd z (nI_pos (by omega))
    · have eL : r_lp K p one (m + 1) f l S = ((if f < 0 then (one S).1 else f), r_nx p f l (one S)) := by rw [r_lp, if_neg c]
      rw [eL] at hok hb ⊢
      obtain ⟨w1, w2, w3, w4, w5, w6, w7, w8, w9⟩ := key hok hb
      exact ⟨w1, Nat.lt_of_le_of_lt w3 w4, w7, w8, w9⟩
theorem RowQ_all {K V : Nat → Nat} {p : Nat} : ∀ D, RowQ p (r_row K V p D) := by
  intro D
  induction D with
  | zero =>
    intro ab S hok hb
    refine LpQ (n0 := S.2.2.2.2) (N0 := S.2.2.1) (ab := ab) (fun S => gn_one (fun _ _ => ⟨Nat.le_refl _, Frm_0⟩)) (fun S' k1 k2 => ?_) 97 (-1) (-1) S 0 (fun _ => rfl) (fun q => absurd (by decide) q) (fun _ _ _ _ => rfl) (Nat.le_refl _) (Or.inr (by decide)) hok hb
    exact OneQ0 k1 k2
  | succ D ih =>
    intro ab S hok hb
    exact LpQ (n0 := S.2.2.2.2) (N0 := S.2.2.1) (ab := ab) (fun S => gn_one (gn_row D)) (fun S' k1 k2 => OneQ ih (gn_row D) k1 k2) 97 (-1) (-1) S 0 (fun _ => rfl) (fun q => absurd (by decide) q) (fun _ _ _ _ => rfl) (Nat.le_refl _) (Or.inr (by decide)) hok hb
/-- steps of a PROGRAM that was read -/
def prQ (N : Nat → Int32) (p : Nat) : Prop := ∃ n, n ≤ 32 ∧ N (1226 + 418 * p) = nI n ∧ ∀ s, s < n → qs p n N s
theorem prQ_c {N N' : Nat → Int32} {p : Nat} (h : prQ N p) (hN : ∀ x, 1226 + 418 * p ≤ x → x < 1226 + 418 * (p + 1) → N' x = N x) : prQ N' p := by
  obtain ⟨n, h1, h2, h3⟩ := h
  exact ⟨n, h1, (hN _ (by omega) (by omega)).trans h2, fun s hs => qs_c (h3 s hs) (Nat.le_refl _) hs (fun s' f' a b => hN _ (by omega) (by omega))⟩
theorem prQ_pg {J : mm_I} {p n t : Nat} (hB : tp_ok (J 203) t) : prQ ((op_pg J p n t).2 201) p := by
  have hr : r1_ (J 203) t p (true, 0, pg_N J p n, [], 0) := ⟨⟨Nat.zero_le _, Nat.le_refl _, (if_pos rfl : pg_N J p n (1226 + 418 * p) = 0), Nat.zero_le _⟩, fun _ => Nat.zero_le _⟩
  have hG := (r_row_good hB.1 hB 4 (-1) (true, 0, pg_N J p n, [], 0) rfl hr).1
  have h32 : (pg_R J p n t).2.2.2.2 ≤ 32 := hG.1.2.2.2
  have hN0 : (pg_R J p n t).2.2.1 (1226 + 418 * p) = nI (pg_R J p n t).2.2.2.2 := hG.1.2.2.1
  have enc : ∀ x, x < 1226 + 418 * p + 257 → nc (pg_R J p n t).2.2.1 p (pg_R J p n t).2.2.2.1 x = (pg_R J p n t).2.2.1 x := fun x hx => by unfold nc; rw [if_neg (by omega), if_neg (by omega)]
  unfold op_pg
  by_cases c : pg_ok J p n t
  · rw [if_pos c]
    have hq := RowQ_all (K := tK (J 203) t) (V := tV (J 203) t) (p := p) 4 (-1) (true, 0, pg_N J p n, [], 0) c.1 (Nat.lt_of_le_of_lt h32 (by decide))
    refine ⟨(pg_R J p n t).2.2.2.2, h32, (enc _ (by omega)).trans hN0, fun s hs => ?_⟩
    exact qs_c (hq.2.2.2.1 s (Nat.zero_le _) hs) (Nat.le_refl _) hs (fun s' f' a b => enc _ (by have := h32; change s' < (pg_R J p n t).2.2.2.2 at a; omega))
  · rw [if_neg c]
    refine ⟨0, by decide, ?_, fun s hs => absurd hs (Nat.not_lt_zero _)⟩
    show mm_up (pg_Z J p n t 1) 201 (1226 + 418 * p) 0 201 (1226 + 418 * p) = nI 0
    rw [mm_up_at]; rfl
