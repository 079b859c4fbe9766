/-! THE CLASS: the tape is split, and both readers' words are one -/
def tq_pr (T : Nat → Int32) (t : Nat) (q : Nat × Nat × Nat) : Prop := (q.2.2 = 1 → 0 < q.2.1 ∧ tk_L T t (q.2.1 - 1)) ∧ (q.2.2 = 2 → 0 < q.2.1 ∧ tk_D T t (q.2.1 - 1)) ∧ (q.2.2 = 3 → ¬ tk_L T t (q.2.1 - 1) ∧ ¬ tk_D T t (q.2.1 - 1)) ∧ (q.2.2 = 0 → q.2.1 = 0 ∨ q.2.1 = t)
theorem tk_s1 {T : Nat → Int32} {t k : Nat} (h : tk_s T t k = 1) : tk_L T t k := by
  unfold tk_s at h
  by_cases c : tk_L T t k
  · exact c
  · rw [if_neg c] at h; exfalso; revert h; split <;> decide
theorem tk_s2 {T : Nat → Int32} {t k : Nat} (h : tk_s T t k = 2) : tk_D T t k := by
  unfold tk_s at h
  by_cases c : tk_L T t k
  · rw [if_pos c] at h; exact absurd h (by decide)
  · rw [if_neg c] at h
    by_cases c2 : tk_D T t k
    · exact c2
    · rw [if_neg c2] at h; exact absurd h (by decide)
theorem tk_s3 {T : Nat → Int32} {t k : Nat} (h : tk_s T t k = 3) : ¬ tk_L T t k ∧ ¬ tk_D T t k := by
  unfold tk_s at h
  by_cases c : tk_L T t k
  · rw [if_pos c] at h; exact absurd h (by decide)
  · rw [if_neg c] at h
    by_cases c2 : tk_D T t k
    · rw [if_pos c2] at h; exact absurd h (by decide)
    · exact ⟨c, c2⟩
theorem nx_pr {T : Nat → Int32} {t : Nat} (q : Nat × Nat × Nat) (he : q.2.1 ≤ t) : tq_pr T t (nx T t q) := by
  obtain ⟨h1, h2⟩ := tk_sb_le (T := T) (t := t) 96 q.2.1 he
  unfold nx
  by_cases c : tk_sb T t 96 q.2.1 = t
  · rw [if_pos c]
    exact ⟨fun h => absurd h (by show ¬ (0 = 1); decide), fun h => absurd h (by show ¬ (0 = 2); decide), fun h => absurd h (by show ¬ (0 = 3); decide), fun _ => Or.inr rfl⟩
  · rw [if_neg c]
    generalize tk_sb T t 96 q.2.1 = f at h1 h2 c
    have hs := tk_s_in T t f
    unfold nx_s
    by_cases c2 : (¬ tk_s T t f = 3 ∧ (q.2.2 = 1 ∨ q.2.2 = 2) ∧ f = q.2.1) ∨ (tk_s T t f = 2 ∧ 4 < tk_we T t (tk_s T t f) 96 (f + 1) - f)
    · rw [if_pos c2]
      exact ⟨fun h => absurd h (by show ¬ (4 = 1); decide), fun h => absurd h (by show ¬ (4 = 2); decide), fun h => absurd h (by show ¬ (4 = 3); decide), fun h => absurd h (by show ¬ (4 = 0); decide)⟩
    · rw [if_neg c2]
      have hall := tk_we_all (T := T) (t := t) (s := tk_s T t f) 96 (f + 1)
      obtain ⟨h3, h4⟩ := tk_we_le (T := T) (t := t) (s := tk_s T t f) 96 (f + 1) (by omega)
      refine ⟨fun h => ?_, fun h => ?_, fun h => ?_, fun h => ?_⟩
      · replace h : tk_s T t f = 1 := h
        show 0 < tk_we T t (tk_s T t f) 96 (f + 1) ∧ tk_L T t (tk_we T t (tk_s T t f) 96 (f + 1) - 1)
        refine ⟨by omega, ?_⟩
        by_cases e : tk_we T t (tk_s T t f) 96 (f + 1) = f + 1
        · rw [e]; exact tk_s1 h
        · rcases hall (tk_we T t (tk_s T t f) 96 (f + 1) - 1) (by omega) (by omega) with q9 | q9
          · exact q9.2
          · omega
      · replace h : tk_s T t f = 2 := h
        show 0 < tk_we T t (tk_s T t f) 96 (f + 1) ∧ tk_D T t (tk_we T t (tk_s T t f) 96 (f + 1) - 1)
        refine ⟨by omega, ?_⟩
        by_cases e : tk_we T t (tk_s T t f) 96 (f + 1) = f + 1
        · rw [e]; exact tk_s2 h
        · rcases hall (tk_we T t (tk_s T t f) 96 (f + 1) - 1) (by omega) (by omega) with q9 | q9
          · omega
          · exact q9.2
      · replace h : tk_s T t f = 3 := h
        show ¬ tk_L T t (tk_we T t (tk_s T t f) 96 (f + 1) - 1) ∧ ¬ tk_D T t (tk_we T t (tk_s T t f) 96 (f + 1) - 1)
        rw [h, tk_we_3]; exact tk_s3 h
      · replace h : tk_s T t f = 0 := h; omega
theorem tk_sb_32 {T : Nat → Int32} {t : Nat} : ∀ f k, k < tk_sb T t f k → T (tk_sb T t f k - 1) = 32 := by
  intro f
  induction f with
  | zero => intro k h; exact absurd h (by show ¬ k < k; omega)
  | succ f ih =>
    intro k h
    unfold tk_sb at h ⊢
    by_cases c : k < t ∧ T k = 32
    · rw [if_pos c] at h ⊢
      by_cases e : k + 1 < tk_sb T t f (k + 1)
      · exact ih (k + 1) e
      · rw [show tk_sb T t f (k + 1) - 1 = k by omega]; exact c.2
    · rw [if_neg c] at h; omega
theorem nx_cnx {T : Nat → Int32} {t : Nat} {q : Nat × Nat × Nat} (he : q.2.1 ≤ t) (hp : tq_pr T t q) (h4 : ¬ q.2.2 = 4) (h5 : q.2.2 ≤ 4) : nx T t q = cnx T t q.2.1 := by
  obtain ⟨h1, h2⟩ := tk_sb_le (T := T) (t := t) 96 q.2.1 he
  have h32 := tk_sb_32 (T := T) (t := t) 96 q.2.1
  unfold nx cnx
  by_cases c : tk_sb T t 96 q.2.1 = t
  · rw [if_pos c, if_pos c]
  · rw [if_neg c, if_neg c]
    generalize tk_sb T t 96 q.2.1 = f at h1 h2 c h32
    have key : ((q.2.2 = 1 ∨ q.2.2 = 2) ∧ f = q.2.1) ↔ gl T t f = true := by
      constructor
      · rintro ⟨hs, rfl⟩
        rcases hs with hs | hs
        · exact decide_eq_true ⟨(hp.1 hs).1, Or.inl (hp.1 hs).2⟩
        · exact decide_eq_true ⟨(hp.2.1 hs).1, Or.inr (hp.2.1 hs).2⟩
      · intro hg
        obtain ⟨g0, g1⟩ := of_decide_eq_true hg
        by_cases e : f = q.2.1
        · refine ⟨?_, e⟩
          by_cases s3 : q.2.2 = 3
          · have := hp.2.2.1 s3; rw [← e] at this; rcases g1 with g1 | g1; exact absurd g1 this.1; exact absurd g1 this.2
          · by_cases s0 : q.2.2 = 0
            · rcases hp.2.2.2 s0 with z | z
              · omega
              · omega
            · omega
        · have h9 := h32 (by omega)
          exfalso
          rcases g1 with ⟨-, a, b⟩ | ⟨-, a, b⟩
          · rw [h9] at a; revert a; decide
          · rw [h9] at a; revert a; decide
    unfold nx_s cx
    have e2 : ((¬ tk_s T t f = 3 ∧ (q.2.2 = 1 ∨ q.2.2 = 2) ∧ f = q.2.1) ∨ (tk_s T t f = 2 ∧ 4 < tk_we T t (tk_s T t f) 96 (f + 1) - f)) ↔ ((¬ tk_s T t f = 3 ∧ gl T t f = true) ∨ (tk_s T t f = 2 ∧ 4 < tk_we T t (tk_s T t f) 96 (f + 1) - f)) := by rw [key]
    simp only [e2]
theorem cq_tq {T : Nat → Int32} {t : Nat} : ∀ k, (∀ j, j < k → ¬ (tq T t j).2.2 = 4) → cq T t k = tq T t k := by
  intro k
  induction k with
  | zero => intro _; exact (nx_cnx (q := (0, 0, 0)) (Nat.zero_le _) ⟨fun h => absurd h (by show ¬ (0 = 1); decide), fun h => absurd h (by show ¬ (0 = 2); decide), fun h => absurd h (by show ¬ (0 = 3); decide), fun _ => Or.inl rfl⟩ (by show ¬ (0 = 4); decide) (by show 0 ≤ 4; decide)).symm
  | succ k ih =>
    intro h
    have hk := tq_good T t k
    have hp : tq_pr T t (tq T t k) := by
      cases k with
      | zero => exact nx_pr _ (Nat.zero_le _)
      | succ k => exact nx_pr _ (tq_good T t k).2.1
    show cnx T t (cq T t k).2.1 = nx T t (tq T t k)
    rw [ih (fun j hj => h j (by omega)), nx_cnx hk.2.1 hp (h k (by omega)) hk.2.2.1]
/-- the rows of words hold both readers' words, up to the first end or wrong one -/
def WR (I : mm_I) (T : Nat → Int32) (t W : Nat) : Prop := W ≤ 96 ∧ (tK T t W = 400 ∨ tK T t W = 404) ∧ (∀ j, j < W → ¬ tK T t j = 400 ∧ ¬ tK T t j = 404) ∧ ∀ j, j ≤ W → I 179 j = ckd (tK T t j) ∧ I 181 j = cv T t (tq T t j) ∧ I 183 j = nI (tq T t j).1
theorem tK_404 {T : Nat → Int32} {t k : Nat} (hB : tp_ok T t) (h : ¬ tK T t k = 404) : ¬ (tq T t k).2.2 = 4 := by
  intro q
  apply h
  show tkd T (tq T t k) = 404
  unfold tkd
  rw [if_neg (by omega), if_neg (by omega), if_neg (by omega), if_neg (by omega)]
theorem wz_WR {I : mm_I} {T : Nat → Int32} {t E : Nat} (hB : tp_ok T t) (hE : E ≤ 96) (h0 : (cq T t E).2.2 = 0) : ∃ W, WR (wz I (wl T t (E + 1))) T t W := by
  have hx : ∃ W, W ≤ E ∧ (tK T t W = 400 ∨ tK T t W = 404) ∧ ∀ j, j < W → ¬ tK T t j = 400 ∧ ¬ tK T t j = 404 := by
    have key : ∀ n, (∃ W, W ≤ n ∧ (tK T t W = 400 ∨ tK T t W = 404) ∧ ∀ j, j < W → ¬ tK T t j = 400 ∧ ¬ tK T t j = 404) ∨ ∀ j, j ≤ n → ¬ tK T t j = 400 ∧ ¬ tK T t j = 404 := by
      intro n
      induction n with
      | zero =>
        by_cases c : tK T t 0 = 400 ∨ tK T t 0 = 404
        · exact Or.inl ⟨0, Nat.le_refl _, c, fun j hj => absurd hj (Nat.not_lt_zero _)⟩
        · exact Or.inr (fun j hj => by rw [show j = 0 by omega]; exact ⟨fun q => c (Or.inl q), fun q => c (Or.inr q)⟩)
      | succ n ih =>
        rcases ih with ⟨W, hW, h⟩ | h
        · exact Or.inl ⟨W, by omega, h⟩
        · by_cases c : tK T t (n + 1) = 400 ∨ tK T t (n + 1) = 404
          · exact Or.inl ⟨n + 1, Nat.le_refl _, c, fun j hj => h j (by omega)⟩
          · refine Or.inr (fun j hj => ?_)
            by_cases e : j = n + 1
            · rw [e]; exact ⟨fun q => c (Or.inl q), fun q => c (Or.inr q)⟩
            · exact h j (by omega)
    rcases key E with h | h
    · exact h
    · exfalso
      have e := cq_tq (T := T) (t := t) E (fun j hj => tK_404 hB (h j (by omega)).2)
      rw [e] at h0
      exact (h E (Nat.le_refl _)).1 ((tkd_end hB (tq_good T t E)).mpr h0)
  obtain ⟨W, hW, h1, h2⟩ := hx
  refine ⟨W, by omega, h1, h2, fun j hj => ?_⟩
  have e := cq_tq (T := T) (t := t) j (fun i hi => tK_404 hB (h2 i (by omega)).2)
  have hl : j < (wl T t (E + 1)).length := by rw [wl_len]; omega
  have ha := wl_at (T := T) (t := t) (E + 1) j (by omega)
  rw [e] at ha
  refine ⟨?_, ?_, ?_⟩
  · show (if j < (wl T t (E + 1)).length then ((wl T t (E + 1)).getD j (0, 0, 0)).1 else I 179 j) = _
    rw [if_pos hl, ha]; rfl
  · show (if j < (wl T t (E + 1)).length then ((wl T t (E + 1)).getD j (0, 0, 0)).2.1 else I 181 j) = _
    rw [if_pos hl, ha]; rfl
  · show (if j < (wl T t (E + 1)).length then ((wl T t (E + 1)).getD j (0, 0, 0)).2.2 else I 183 j) = _
    rw [if_pos hl, ha]; rfl
theorem wz_0 {I : mm_I} : mm_up (mm_up (mm_up I 178 1 0) 180 1 0) 182 1 0 = wz I [] := by
  funext a i
  unfold wz mm_up
  simp only [List.length_nil, Nat.not_lt_zero, if_false]
  by_cases e1 : a = 182
  · subst e1; simp; split <;> rfl
  · by_cases e2 : a = 180
    · subst e2; simp; split <;> rfl
    · by_cases e3 : a = 178
      · subst e3; simp; split <;> rfl
      · simp [e1, e2, e3]
set_option maxRecDepth 100000 in
set_option maxHeartbeats 600000 in
theorem lk_split {g : mm_G} {I : mm_I} {d : Nat} {Q : Option Value → mm_Sh → mm_I → Prop} {t : Nat} (ht : I 174 1 = nI t) (ht96 : t ≤ 96) (hB : tp_ok (I 175) t) (hd : 7 ≤ d) (hq : ∀ E, E ≤ 96 → (cq (I 175) t E).2.2 = 0 → (∀ i, i < E → ¬ (cq (I 175) t i).2.2 = 0) → Q none sh_S (wz I (wl (I 175) t (E + 1)))) : ∀ (m : Nat) (n q j : Nat), (n ≤ q) → (q ≤ t) → (j ≤ q) → (cnx (I 175) t q = cq (I 175) t j) → (∀ i, i < j → ¬ (cq (I 175) t i).2.2 = 0) → t - q < m → mm_Ex g zX9_split d (0, 0) (0, 0) sh_S (wz I (wl (I 175) t j)) 28 [(2, .int (nI (n))), (1, .int (nI (q))), (0, .ref 177)] [] Q := by
  intro m
  induction m with
  | zero => intro n q j hnq hqt hjq hc hn hmz; exact absurd hmz (Nat.not_lt_zero _)
  | succ m ih =>
    intro n q j hnq hqt hjq hc hn hmz
    refine mm_iload_n 0 dX9_split_28 rfl rfl ?_
    refine mm_bipush (v := 96) dX9_split_29 rfl ?_
    refine mm_icmp_geN (n) (96) (tgt := 76) dX9_split_31 (by decide) (by omega) (by omega) (fun c31 => ?_) (fun c31 => ?_)
    · have e8 : t = q := by omega
      subst e8
      refine mm_aload_n 2 dX9_split_76 rfl rfl ?_
      refine mm_bipush (v := -101) dX9_split_77 rfl ?_
      refine mm_iconst (v := 0) dX9_split_79 rfl ?_
      refine mm_aload_n 2 dX9_split_80 rfl rfl ?_
      refine mm_getr (b := 174) dX9_split_81 rfl fk_X9_9 rfl so_177 sr_177_0 ?_
      refine mm_cV0i (dz := d - 1) dX9_split_84 rfl mzX5_size ml_X9_32 imX5_size (by omega) so_174 ⟨rfl, rfl⟩ (ct_size rw_174) (Nat.le_of_ble_eq_true rfl) ⟨Nat.le_refl _, Nat.le_refl _⟩ ?_
      refine mm_top (v := nI (t)) ht ?_
      refine mm_cV3v (dz := d - 1) dX9_split_87 rfl mzX9_addWord ml_X9_43 imX9_addWord (by omega) so_177 ⟨rfl, rfl⟩ (show mm_Cv g zX9_addWord (d - 1) [.ref 177, .int (-101), .int 0, .int (nI (t))] sh_S (wz I (wl (I 175) t j)) (wz I (wl (I 175) t (j + 1))) from by have h := ck_addW (g := g) (I := I) (d := d - 1) (L := wl (I 175) t j) (by rw [wl_len]; omega) (x := -101) (y := 0) (z := nI t) (by omega); rw [show ((-101 : Int32), (0 : Int32), nI t) = wv (I 175) t (cq (I 175) t j) from by rw [← hc, cnx_end, wv, cv, if_neg (fun q => absurd q.1 (Nat.lt_irrefl _)), if_neg (fun q => absurd q.1 (Nat.lt_irrefl _))]; rfl] at h; exact h) (Nat.le_of_ble_eq_true rfl) ⟨Nat.le_refl _, Nat.le_refl _⟩ ?_
      refine mm_vret dX9_split_90 rfl ⟨Nat.le_refl _, Nat.le_refl _⟩ ?_
      exact hq j (by omega) (by rw [← hc, cnx_end]) hn
    · refine mm_iload_n 1 dX9_split_34 rfl rfl ?_
      refine mm_aload_n 2 dX9_split_35 rfl rfl ?_
      refine mm_getr (b := 174) dX9_split_36 rfl fk_X9_9 rfl so_177 sr_177_0 ?_
      refine mm_cV0i (dz := d - 1) dX9_split_39 rfl mzX5_size ml_X9_32 imX5_size (by omega) so_174 ⟨rfl, rfl⟩ (ct_size rw_174) (Nat.le_of_ble_eq_true rfl) ⟨Nat.le_refl _, Nat.le_refl _⟩ ?_
      refine mm_top (v := nI (t)) ht ?_
      refine mm_icmp_geN (q) (t) (tgt := 76) dX9_split_42 (by decide) (by omega) (by omega) (fun c42 => ?_) (fun c42 => ?_)
      · have e8 : t = q := by omega
        subst e8
        refine mm_aload_n 2 dX9_split_76 rfl rfl ?_
        refine mm_bipush (v := -101) dX9_split_77 rfl ?_
        refine mm_iconst (v := 0) dX9_split_79 rfl ?_
        refine mm_aload_n 2 dX9_split_80 rfl rfl ?_
        refine mm_getr (b := 174) dX9_split_81 rfl fk_X9_9 rfl so_177 sr_177_0 ?_
        refine mm_cV0i (dz := d - 1) dX9_split_84 rfl mzX5_size ml_X9_32 imX5_size (by omega) so_174 ⟨rfl, rfl⟩ (ct_size rw_174) (Nat.le_of_ble_eq_true rfl) ⟨Nat.le_refl _, Nat.le_refl _⟩ ?_
        refine mm_top (v := nI (t)) ht ?_
        refine mm_cV3v (dz := d - 1) dX9_split_87 rfl mzX9_addWord ml_X9_43 imX9_addWord (by omega) so_177 ⟨rfl, rfl⟩ (show mm_Cv g zX9_addWord (d - 1) [.ref 177, .int (-101), .int 0, .int (nI (t))] sh_S (wz I (wl (I 175) t j)) (wz I (wl (I 175) t (j + 1))) from by have h := ck_addW (g := g) (I := I) (d := d - 1) (L := wl (I 175) t j) (by rw [wl_len]; omega) (x := -101) (y := 0) (z := nI t) (by omega); rw [show ((-101 : Int32), (0 : Int32), nI t) = wv (I 175) t (cq (I 175) t j) from by rw [← hc, cnx_end, wv, cv, if_neg (fun q => absurd q.1 (Nat.lt_irrefl _)), if_neg (fun q => absurd q.1 (Nat.lt_irrefl _))]; rfl] at h; exact h) (Nat.le_of_ble_eq_true rfl) ⟨Nat.le_refl _, Nat.le_refl _⟩ ?_
        refine mm_vret dX9_split_90 rfl ⟨Nat.le_refl _, Nat.le_refl _⟩ ?_
        exact hq j (by omega) (by rw [← hc, cnx_end]) hn
      · refine mm_aload_n 2 dX9_split_45 rfl rfl ?_
        refine mm_getr (b := 174) dX9_split_46 rfl fk_X9_9 rfl so_177 sr_177_0 ?_
        refine mm_iload_n 1 dX9_split_49 rfl rfl ?_
        refine mm_cV1i (dz := d - 1) dX9_split_50 rfl mzX5_at ml_X9_36 imX5_at (by omega) so_174 ⟨rfl, rfl⟩ (ct_at rw_174 (q) (by omega)) (Nat.le_of_ble_eq_true rfl) ⟨Nat.le_refl _, Nat.le_refl _⟩ ?_
        refine mm_top (v := I 175 q) rfl ?_
        refine mm_bipush (v := 32) dX9_split_53 rfl ?_
        refine mm_icmp_ne (tgt := 64) dX9_split_55 (by decide) (fun c55 => ?_) (fun c55 => ?_)
        · refine mm_aload_n 2 dX9_split_64 rfl rfl ?_
          refine mm_iload_n 1 dX9_split_65 rfl rfl ?_
          refine mm_cV1i (dz := d - 1) dX9_split_66 rfl mzX9_splitAt ml_X9_40 imX9_splitAt (by omega) so_177 ⟨rfl, rfl⟩ (show mm_Ci g zX9_splitAt (d - 1) [.ref 177, .int (nI q)] sh_S (wz I (wl (I 175) t j)) (nI (cx (I 175) t q).2.1) (wz I (wl (I 175) t (j + 1))) from by have h := ck_spa (g := g) (d := d - 1) (L := wl (I 175) t j) ht ht96 hB (by rw [wl_len]; omega) (f := q) (by omega) (by omega); rw [show cx (I 175) t q = cq (I 175) t j from by rw [← cnx_tk (by omega) c55]; exact hc] at h ⊢; exact h) (Nat.le_of_ble_eq_true rfl) ⟨Nat.le_refl _, Nat.le_refl _⟩ ?_
          refine mm_istore_n (ls' := [(1, .int (nI ((cx (I 175) t q).2.1))), (2, .int (nI (n))), (0, .ref 177)]) dX9_split_69 rfl (by decide) rfl ?_
          refine mm_iincN (ls' := [(2, .int (nI (n + 1))), (1, .int (nI ((cx (I 175) t q).2.1))), (0, .ref 177)]) 1 (n) 1 dX9_split_70 rfl rfl (by decide) rfl ?_
          refine mm_goto (tgt := 28) dX9_split_73 (by decide) ?_
          have e9 : cx (I 175) t q = cq (I 175) t j := by rw [← cnx_tk (by omega) c55]; exact hc
          obtain ⟨hw1, hw2⟩ := tk_we_le (T := I 175) (t := t) (s := tk_s (I 175) t q) 96 (q + 1) (by omega)
          rw [← cx_2] at hw1 hw2
          exact mm_sub [0, 1, 2] rfl (ih (n + 1) (cx (I 175) t q).2.1 (j + 1) (by omega) hw2 (by omega) (by rw [e9]; rfl) (fun i hi => by by_cases e : i = j; rw [e, ← e9]; exact cx_s; exact hn i (by omega)) (by omega))
        · refine mm_iload_n 1 dX9_split_58 rfl rfl ?_
          refine mm_iconst (v := 1) dX9_split_59 rfl ?_
          refine mm_iaddN (q) (1) dX9_split_60 ?_
          refine mm_goto (tgt := 69) dX9_split_61 (by decide) ?_
          refine mm_istore_n (ls' := [(1, .int (nI (q + 1))), (2, .int (nI (n))), (0, .ref 177)]) dX9_split_69 rfl (by decide) rfl ?_
          refine mm_iincN (ls' := [(2, .int (nI (n + 1))), (1, .int (nI (q + 1))), (0, .ref 177)]) 1 (n) 1 dX9_split_70 rfl rfl (by decide) rfl ?_
          refine mm_goto (tgt := 28) dX9_split_73 (by decide) ?_
          exact mm_sub [0, 1, 2] rfl (ih (n + 1) (q + 1) j (by omega) (by omega) (by omega) ((cnx_bl ht96 (by omega) c55).symm.trans hc) hn (by omega))
set_option maxRecDepth 100000 in
set_option maxHeartbeats 600000 in
theorem ck_split {g : mm_G} {I : mm_I} {d : Nat} {t : Nat} (ht : I 174 1 = nI t) (ht96 : t ≤ 96) (hB : tp_ok (I 175) t) (hd : 7 ≤ d) : mm_Dv g zX9_split d [.ref 177] sh_S I (fun I2 => (∃ W, WR I2 (I 175) t W) ∧ ∀ a, a < 178 ∨ 183 < a → I2 a = I a) := by
  refine mm_begin (ls := [(0, .ref 177)]) (Nat.le_of_ble_eq_true rfl) rfl rfl ?_
  refine mm_aload_n 0 dX9_split_0 rfl rfl ?_
  refine mm_getr (b := 178) dX9_split_1 rfl fk_X9_20 rfl so_177 sr_177_1 ?_
  refine mm_iconst (v := 0) dX9_split_4 rfl ?_
  refine mm_cV1v (dz := d - 1) dX9_split_5 rfl mzX5_shorten ml_X9_29 imX5_shorten (by omega) so_178 ⟨rfl, rfl⟩ (ct_short0 rw_178 (by omega)) (Nat.le_of_ble_eq_true rfl) ⟨Nat.le_refl _, Nat.le_refl _⟩ ?_
  refine mm_aload_n 0 dX9_split_8 rfl rfl ?_
  refine mm_getr (b := 180) dX9_split_9 rfl fk_X9_23 rfl so_177 sr_177_2 ?_
  refine mm_iconst (v := 0) dX9_split_12 rfl ?_
  refine mm_cV1v (dz := d - 1) dX9_split_13 rfl mzX5_shorten ml_X9_29 imX5_shorten (by omega) so_180 ⟨rfl, rfl⟩ (ct_short0 rw_180 (by omega)) (Nat.le_of_ble_eq_true rfl) ⟨Nat.le_refl _, Nat.le_refl _⟩ ?_
  refine mm_at (pc' := 16) rfl ?_
  refine mm_aload_n 0 dX9_split_16 rfl rfl ?_
  refine mm_getr (b := 182) dX9_split_17 rfl fk_X9_26 rfl so_177 sr_177_3 ?_
  refine mm_iconst (v := 0) dX9_split_20 rfl ?_
  refine mm_cV1v (dz := d - 1) dX9_split_21 rfl mzX5_shorten ml_X9_29 imX5_shorten (by omega) so_182 ⟨rfl, rfl⟩ (ct_short0 rw_182 (by omega)) (Nat.le_of_ble_eq_true rfl) ⟨Nat.le_refl _, Nat.le_refl _⟩ ?_
  refine mm_iconst (v := 0) dX9_split_24 rfl ?_
  refine mm_istore_n (ls' := [(1, .int (0)), (0, .ref 177)]) dX9_split_25 rfl (by decide) rfl ?_
  refine mm_iconst (v := 0) dX9_split_26 rfl ?_
  refine mm_istore_n (ls' := [(2, .int (0)), (1, .int (0)), (0, .ref 177)]) dX9_split_27 rfl (by decide) rfl ?_
  refine mm_at (pc' := 28) rfl ?_
  refine mm_mem wz_0 ?_
  exact mm_sub [0, 1, 2] rfl (lk_split ht ht96 hB hd (fun E h1 h2 h3 => ⟨rfl, rfl, wz_WR hB h1 h2, fun a ha => wz_n ha⟩) (t + 1) 0 0 0 (Nat.zero_le _) (Nat.zero_le _) (Nat.zero_le _) rfl (fun i hi => absurd hi (Nat.not_lt_zero _)) (by omega))
