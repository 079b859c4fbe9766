/-! THE SITE as both have it: REPORTS go -/
/-- THE MAP learns at once -/
def lr (J : mm_I) : Nat → Nat → Int32
  | 0 => J 201
  | m + 1 => if J 201 (630 + 40 * m + 3) = 100 then lr J m else mp_ (lr J m) (vv (J 201 (630 + 40 * m + 1))) (rg_f (J 201) m 1) (rg_f (J 201) m 2) (rg_f (J 201) m 3) (rg_f (J 201) m 4)
theorem mp_n {N : Nat → Int32} {c y : Nat} {a b e t : Int32} (h : ¬ (270 + 4 * c ≤ y ∧ y < 274 + 4 * c)) : mp_ N c a b e t y = N y := by
  unfold mp_; rw [upd_n (by omega), upd_n (by omega), upd_n (by omega), upd_n (by omega)]
theorem upd_cc {N N' : Nat → Int32} {x y : Nat} {v : Int32} (h : N y = N' y) : upd N x v y = upd N' x v y := by
  unfold upd; rw [h]
theorem mp_c {N N' : Nat → Int32} {c y : Nat} {a b e t : Int32} (h : N y = N' y) : mp_ N c a b e t y = mp_ N' c a b e t y := by
  unfold mp_; exact upd_cc (upd_cc (upd_cc (upd_cc h)))
theorem lr_n {J : mm_I} {n c : Nat} (hC : mo_C (J 201) n c) (hc : c ≤ 80) : ∀ m, m ≤ n → ∀ y, y < 270 ∨ 590 ≤ y → lr J m y = J 201 y := by
  intro m
  induction m with
  | zero => intro _ y _; rfl
  | succ m ih =>
    intro hm y hy
    unfold lr
    obtain ⟨x, x1, x2⟩ := hC m (by omega)
    split
    · exact ih (by omega) y hy
    · rw [x2, vv_nI (by omega), mp_n (by omega)]; exact ih (by omega) y hy
theorem rg_keep {J : mm_I} {r0 m e : Nat} (hb : ¬ J 201 (630 + 40 * m + 3) = 100) (he : e < 6) : ∀ m', m + 1 ≤ m' → (rg J r0 m').1 201 (866 + 6 * (rg J r0 m).2 + e) = rg_f (J 201) m e := by
  intro m' hm'
  induction m' with
  | zero => omega
  | succ m' ih =>
    by_cases z : m' = m
    · subst z
      rw [rg, if_neg hb]; exact rg_a_at he
    · have q := ih (by omega)
      have hmono : ∀ d, (rg J r0 m).2 + 1 ≤ (rg J r0 (m + 1 + d)).2 := by
        intro d
        induction d with
        | zero => rw [Nat.add_zero, rg, if_neg hb]; exact Nat.le_refl _
        | succ d ihd =>
          refine Nat.le_trans ihd ?_
          show _ ≤ (rg J r0 ((m + 1 + d) + 1)).2
          rw [rg]
          split
          · exact Nat.le_refl _
          · exact Nat.le_succ _
      have h2 := hmono (m' - (m + 1))
      rw [show m + 1 + (m' - (m + 1)) = m' by omega] at h2
      rw [rg]
      split
      · exact q
      · show rg_a (rg J r0 m').1 (rg J r0 m').2 (rg_f (J 201) m') 201 _ = _
        rw [rg_a_ne (by omega) (Nat.zero_le _)]; exact q
theorem rg_mono {J : mm_I} {r0 : Nat} : ∀ m d, (rg J r0 m).2 ≤ (rg J r0 (m + d)).2 := by
  intro m d
  induction d with
  | zero => exact Nat.le_refl _
  | succ d ih =>
    refine Nat.le_trans ih ?_
    show _ ≤ (rg J r0 ((m + d) + 1)).2
    rw [rg]
    split
    · exact Nat.le_refl _
    · exact Nat.le_succ _
theorem lr_rc {J : mm_I} {n r0 T c : Nat} (hT : T ≤ 2000) (hr0 : r0 ≤ 45) (hn : n ≤ 5) (h7 : J 201 7 = nI T) (h6 : J 201 6 = 0) (hC : mo_C (J 201) n c) (hc : c ≤ 80) (hR : rpt (J 201) c (T + 1) T r0) : ∀ m, m ≤ n → (rc (rg J r0 n).1 (rg J r0 m).2).2 = r0 ∧ ∀ y, y < 866 + 6 * r0 → ¬ y = 18 → (rc (rg J r0 n).1 (rg J r0 m).2).1 201 y = lr J m y := by
  have hle := fun m => rg_le (J := J) (r0 := r0) m
  have hK : ∀ y, y < 866 + 6 * r0 → ¬ y = 18 → (rg J r0 n).1 201 y = J 201 y := fun y h1 h2 => rg_ne (Or.inr ⟨h2, h1⟩) n
  have h7K : (rg J r0 n).1 201 7 = nI T := (hK 7 (by omega) (by omega)).trans h7
  have base : ∀ i, i ≤ r0 → (rc (rg J r0 n).1 i).2 = i ∧ ∀ y, (rc (rg J r0 n).1 i).1 201 y = (rg J r0 n).1 201 y := by
    intro i
    induction i with
    | zero => intro _; exact ⟨rfl, fun _ => rfl⟩
    | succ i ih =>
      intro hi
      obtain ⟨e1, e2⟩ := ih (by omega)
      obtain ⟨-, s, u, h2, h3, h4, h5, h8⟩ := hR i (by omega)
      have hdue : ¬ (rg J r0 n).1 201 (866 + 6 * i + 5) = (rg J r0 n).1 201 7 := by
        rw [hK _ (by omega) (by omega), h3, h7K]
        intro q
        have := (nI_eq (a := u) (b := T) (by omega) (by omega)).mp q
        omega
      rw [rc, if_neg hdue]
      refine ⟨by show (rc (rg J r0 n).1 i).2 + 1 = i + 1; rw [e1], fun y => ?_⟩
      show rc_mv (rc (rg J r0 n).1 i).1 (rc (rg J r0 n).1 i).2 (fun j => (rg J r0 n).1 201 (866 + 6 * i + j)) 201 y = _
      rw [e1]
      by_cases z : 866 + 6 * i ≤ y ∧ y < 872 + 6 * i
      · have q := rc_mv_at (K := (rc (rg J r0 n).1 i).1) (k := i) (e := y - (866 + 6 * i)) (f := fun j => (rg J r0 n).1 201 (866 + 6 * i + j)) (by omega)
        rw [show 866 + 6 * i + (y - (866 + 6 * i)) = y by omega] at q
        rw [q]
      · rw [rc_mv_n z]; exact e2 y
  intro m
  induction m with
  | zero =>
    intro _
    obtain ⟨e1, e2⟩ := base r0 (Nat.le_refl _)
    exact ⟨e1, fun y h1 h2 => (e2 y).trans (hK y h1 h2)⟩
  | succ m ih =>
    intro hm
    obtain ⟨e1, e2⟩ := ih (by omega)
    by_cases hb : J 201 (630 + 40 * m + 3) = 100
    · have ez : (rg J r0 (m + 1)).2 = (rg J r0 m).2 := by rw [rg, if_pos hb]
      rw [ez]
      refine ⟨e1, fun y h1 h2 => ?_⟩
      rw [lr, if_pos hb]; exact e2 y h1 h2
    · have ez : (rg J r0 (m + 1)).2 = (rg J r0 m).2 + 1 := by rw [rg, if_neg hb]
      rw [ez]
      have hf := fun e he => rg_keep (J := J) (r0 := r0) (m := m) (e := e) hb he n hm
      obtain ⟨x, x1, x2⟩ := hC m (by omega)
      have h0 : (rg J r0 n).1 201 (866 + 6 * (rg J r0 m).2) = nI x := (hf 0 (by decide)).trans x2
      have hdue : (rg J r0 n).1 201 (866 + 6 * (rg J r0 m).2 + 5) = (rg J r0 n).1 201 7 := by
        rw [hf 5 (by decide), h7K]
        show J 201 7 + J 201 6 = _
        rw [h7, h6, Int32.add_zero]
      rw [rc, if_pos hdue, h0, vv_nI (by omega)]
      refine ⟨e1, fun y h1 h2 => ?_⟩
      show rc_mp (rc (rg J r0 n).1 (rg J r0 m).2).1 x (fun j => (rg J r0 n).1 201 (866 + 6 * (rg J r0 m).2 + j)) 201 y = _
      rw [rc_mp_201, lr, if_neg hb, x2, vv_nI (by omega), hf 1 (by decide), hf 2 (by decide), hf 3 (by decide), hf 4 (by decide)]
      exact mp_c (e2 y h1 h2)
/-- one REPORT more -/
theorem sS_ra {c n l k o r : Nat} {M M' : mm_I} {N N' : Nat → Int32} (hz : zOK c n l k o r) (H : sS c n l k o r M N) (hM : ∀ a, ¬ (a = 84 ∨ a = 85) → M' a = M a) (h1 : ∀ i, i < 6 * r → M' 85 i = M 85 i) (h2 : ∀ e, e < 6 → M' 85 (6 * r + e) = N' (866 + 6 * r + e)) (h3 : M' 84 1 = nI (6 * (r + 1))) (hN : ∀ y, ¬ y = 18 → y < 866 + 6 * r → N' y = N y) : sS c n l k o (r + 1) M' N' := by
  have hz1 := hz.1; have hz2 := hz.2.1; have hz3 := hz.2.2.1; have hz4 := hz.2.2.2.1; have hz5 := hz.2.2.2.2.1
  refine sS.mk ?_ ?_ ?_ ?_ (fun i hi => ?_) (fun i hi => ?_) (fun i hi => ?_) (fun y hy => ?_) (fun y j hy hj hh => ?_) (fun i hi => ?_) ?_ (fun i hi => ?_) ?_ ?_ (fun i hi => ?_) (fun i hi => ?_) (fun i hi => ?_) (fun i hi => ?_) (fun i hi => ?_) (fun i hi => ?_) (fun m i hm hi => ?_) (fun i hi => ?_) (fun i hi => ?_) (fun a ha => ?_) (fun a ha => ?_) ?_ h3 ?_
  · rw [hM 2 (by decide), hN _ (by omega) (by omega)]; exact H.w
  · rw [hM 2 (by decide), hN _ (by omega) (by omega)]; exact H.h
  · rw [hM 2 (by decide), hN _ (by omega) (by omega)]; exact H.fu
  · rw [hM 2 (by decide), hN _ (by omega) (by omega)]; exact H.lo
  · rw [hM 4 (by decide), hN _ (by omega) (by omega)]; exact H.ki i hi
  · rw [hM 6 (by decide), hN _ (by omega) (by omega)]; exact H.du i hi
  · rw [hM 8 (by decide), hN _ (by omega) (by omega)]; exact H.ic i hi
  · rw [hM 10 (by decide), hN _ (by omega) (by omega)]; exact H.se y hy
  · rw [hN _ (by omega) (by omega)] at hh; rw [hM 10 (by decide), hN _ (by omega) (by omega)]; exact H.sf y j hy hj hh
  · rw [hM 12 (by decide), hN _ (by omega) (by omega)]; exact H.st i hi
  · rw [hM 17 (by decide), hN _ (by omega) (by omega)]; exact H.p0
  · rw [hM 17 (by decide), hN _ (by omega) (by omega)]; exact H.p1 i hi
  · rw [hM 17 (by decide), hN _ (by omega) (by omega)]; exact H.p6
  · rw [hM 17 (by decide), hN _ (by omega) (by omega)]; exact H.p7
  · rw [hM 19 (by decide), hN _ (by omega) (by omega)]; exact H.l0 i hi
  · rw [hM 21 (by decide), hN _ (by omega) (by omega)]; exact H.l1 i hi
  · rw [hM 24 (by decide), hN _ (by omega) (by omega)]; exact H.k0 i hi
  · rw [hM 26 (by decide), hN _ (by omega) (by omega)]; exact H.k1 i hi
  · rw [hM 28 (by decide), hN _ (by omega) (by omega)]; exact H.k2 i hi
  · rw [hM 30 (by decide), hN _ (by omega) (by omega)]; exact H.k3 i hi
  · rw [hM _ (by omega), hN _ (by omega) (by omega)]; exact H.m m i hm hi
  · rw [hM 83 (by decide), hN _ (by omega) (by omega)]; exact H.o0 i hi
  · by_cases z : i < 6 * r
    · rw [h1 i z, hN _ (by omega) (by omega)]; exact H.r0 i z
    · have q := h2 (i - 6 * r) (by omega)
      rw [show 6 * r + (i - 6 * r) = i by omega, show 866 + 6 * r + (i - 6 * r) = 866 + i by omega] at q
      exact q
  · rw [hM a (by omega)]; exact H.cl a ha
  · rw [hM a (by omega)]; exact H.ck a ha
  · rw [hM 82 (by decide)]; exact H.co
  · rw [hM 1 (by decide)]; exact H.cn
