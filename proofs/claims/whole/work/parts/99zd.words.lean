/-! THE CLASS: a MACHINE runs its PROGRAM: words for it -/
/-- rows that differ in what a MACHINE's place says alone -/
def eqX (m : Nat) (N' N : Nat → Int32) : Prop := ∀ y, ¬ (637 + 40 * m ≤ y ∧ y < 670 + 40 * m) → N' y = N y
theorem eqX_t {m : Nat} {N N' N2 : Nat → Int32} (h : eqX m N' N) (h2 : eqX m N2 N') : eqX m N2 N := fun y hy => (h2 y hy).trans (h y hy)
theorem eqX_u {m x : Nat} {N N' : Nat → Int32} {v : Int32} (h : eqX m N' N) (hx : 637 + 40 * m ≤ x ∧ x < 670 + 40 * m) : eqX m (upd N' x v) N := fun y hy => (upd_n (by omega)).trans (h y hy)
/-- places that no MACHINE's place is -/
theorem lo_no {c n l k o r : Nat} {b : Nat → Bool} {a i x : Nat} (hz : zOK c n l k o r) (h : lo_ c n l k o r b a i = some x) : x < 630 ∨ 830 ≤ x ∨ (x - 630) % 40 < 7 := by
  obtain ⟨hz1, hz2, hz3, hz4, hz5, hz6⟩ := hz
  by_cases e : a = 2
  · subst e; have := lo_2_iv (lo_at2.symm.trans h); left
    rw [lo_at2] at h; unfold lo_2 at h
    by_cases q : i = 0
    · rw [if_pos q] at h; cases h; omega
    rw [if_neg q] at h
    by_cases q1 : i = 1
    · rw [if_pos q1] at h; cases h; omega
    rw [if_neg q1] at h
    by_cases q2 : i = 7
    · rw [if_pos q2] at h; cases h; omega
    rw [if_neg q2] at h
    by_cases q3 : i = 8
    · rw [if_pos q3] at h; cases h; omega
    rw [if_neg q3] at h; cases h
  by_cases e4 : a = 4
  · subst e4; rw [lo_at4] at h; obtain ⟨q, rfl⟩ := if_some h; omega
  by_cases e6 : a = 6
  · subst e6; rw [lo_at6] at h; obtain ⟨q, rfl⟩ := if_some h; omega
  by_cases e8 : a = 8
  · subst e8; rw [lo_at8] at h; obtain ⟨q, rfl⟩ := if_some h; omega
  by_cases e10 : a = 10
  · subst e10; rw [lo_at10] at h; obtain ⟨⟨q, -⟩, rfl⟩ := if_some h; omega
  by_cases e12 : a = 12
  · subst e12; rw [lo_at12] at h; obtain ⟨q, rfl⟩ := if_some h; omega
  by_cases e17 : a = 17
  · subst e17; rw [lo_at17] at h; left
    have hh := lo_17_iv h
    unfold lo_17 at h
    by_cases q0 : i = 0
    · rw [if_pos q0] at h; cases h; omega
    rw [if_neg q0] at h
    by_cases q1 : i = 1
    · rw [if_pos q1] at h; cases h; omega
    rw [if_neg q1] at h
    by_cases q2 : i = 2
    · rw [if_pos q2] at h; cases h; omega
    rw [if_neg q2] at h
    by_cases q3 : i = 3
    · rw [if_pos q3] at h; cases h; omega
    rw [if_neg q3] at h
    by_cases q4 : i = 4
    · rw [if_pos q4] at h; cases h; omega
    rw [if_neg q4] at h
    by_cases q5 : i = 5
    · rw [if_pos q5] at h; cases h; omega
    rw [if_neg q5] at h
    by_cases q6 : i = 6
    · rw [if_pos q6] at h; cases h; omega
    rw [if_neg q6] at h
    by_cases q7 : i = 7
    · rw [if_pos q7] at h; cases h; omega
    rw [if_neg q7] at h; cases h
  by_cases e19 : a = 19
  · subst e19; rw [lo_at19] at h; obtain ⟨q, rfl⟩ := if_some h; omega
  by_cases e21 : a = 21
  · subst e21; rw [lo_at21] at h; obtain ⟨q, rfl⟩ := if_some h; omega
  by_cases e24 : a = 24
  · subst e24; rw [lo_at24] at h; obtain ⟨q, rfl⟩ := if_some h; omega
  by_cases e26 : a = 26
  · subst e26; rw [lo_at26] at h; obtain ⟨q, rfl⟩ := if_some h; omega
  by_cases e28 : a = 28
  · subst e28; rw [lo_at28] at h; obtain ⟨q, rfl⟩ := if_some h; omega
  by_cases e30 : a = 30
  · subst e30; rw [lo_at30] at h; obtain ⟨q, rfl⟩ := if_some h; omega
  by_cases e83 : a = 83
  · subst e83; rw [lo_at83] at h; obtain ⟨q, rfl⟩ := if_some h; omega
  by_cases e85 : a = 85
  · subst e85; rw [lo_at85] at h; obtain ⟨q, rfl⟩ := if_some h; omega
  rw [lo_ato e e4 e6 e8 e10 e12 e17 e19 e21 e24 e26 e28 e30 e83 e85] at h
  obtain ⟨⟨q1, q2, q3, q4⟩, rfl⟩ := if_some h
  right; right; omega
/-- the class's memory does not show them -/
theorem cN_x {c n l k o r m : Nat} {A : mm_I} {N N' : Nat → Int32} (hz : zOK c n l k o r) (hm : m < 5) (h : eqX m N' N) : cN c n l k o r A N' = cN c n l k o r A N := by
  have hs : sn_ N' = sn_ N ∨ True := Or.inr trivial
  have hsn : ∀ y, y < 80 → sn_ N' y = sn_ N y := fun y hy => by unfold sn_; rw [h _ (by omega)]
  funext a i
  have hlo : lo_ c n l k o r (sn_ N') a i = lo_ c n l k o r (sn_ N) a i := by
    by_cases e10 : a = 10
    · subst e10
      rw [lo_at10, lo_at10]
      by_cases q : i < 4 * c
      · rw [hsn (i / 4) (by have := hz.1; omega)]
      · rw [if_neg (fun z => q z.1), if_neg (fun z => q z.1)]
    · unfold lo_
      by_cases e2 : a = 2
      · rw [if_pos e2, if_pos e2]
      by_cases e4 : a = 4
      · simp only [if_neg e2, if_pos e4]
      by_cases e6 : a = 6
      · simp only [if_neg e2, if_neg e4, if_pos e6]
      by_cases e8 : a = 8
      · simp only [if_neg e2, if_neg e4, if_neg e6, if_pos e8]
      simp only [if_neg e2, if_neg e4, if_neg e6, if_neg e8, if_neg e10]
  cases e : lo_ c n l k o r (sn_ N) a i with
  | some x =>
    rw [cN_r (hlo.trans e), cN_r e]
    have := lo_no hz e
    exact h x (by omega)
  | none =>
    cases e2 : cn_ n l k o r a i with
    | some y => rw [cN_c (hlo.trans e) e2, cN_c e e2]
    | none => rw [cN_j (hlo.trans e) e2, cN_j e e2]
theorem rw_fl_cN {c n l k o r : Nat} (hn : n ≤ 5) {A : mm_I} {N : Nat → Int32} {b q : Nat} {v : Int32} (h : offC b) : rw_fl (cN c n l k o r A N) b v q = cN c n l k o r (rw_fl A b v q) N := by
  funext a i
  by_cases e : a = b
  · subst e
    rw [cN_off hn h]
    by_cases hi : i < q
    · rw [rw_fl_in hi, rw_fl_in hi]
    · rw [rw_fl_out (Nat.not_lt.mp hi), rw_fl_out (Nat.not_lt.mp hi), cN_off hn h]
  · rw [rw_fl_ne e]
    cases e1 : lo_ c n l k o r (sn_ N) a i with
    | some x => rw [cN_r e1, cN_r e1]
    | none =>
      cases e2 : cn_ n l k o r a i with
      | some y => rw [cN_c e1 e2, cN_c e1 e2]
      | none => rw [cN_j e1 e2, cN_j e1 e2, rw_fl_ne e]
/-- a MACHINE ends its PROGRAM, or begins one -/
def bsA (A : mm_I) (m : Nat) : mm_I := rw_fl (mm_up (mm_up A (36 + 3 * m) 7 0) (36 + 3 * m + 1) 1 (nI 4)) (36 + 3 * m + 1 + 1) 0 4
theorem bsM_cN {c n l k o r m : Nat} {A : mm_I} {N : Nat → Int32} {v : Int32} (hz : zOK c n l k o r) (hm : m < n) : bsM (cN c n l k o r A N) (36 + 3 * m) v = cN c n l k o r (bsA A m) (upd N (630 + 40 * m + 6) v) := by
  have hn := hz.2.1
  unfold bsM bsA
  rw [s_mu hz hm (by omega), s_m7u hn (by omega), cN_dof hn (by omega), rw_fl_cN hn (by omega)]
/-- codes of an E -/
theorem vo_co {N : Nat → Int32} : ∀ (cs : List Nat) (f K : Nat), cs.length < f → vo_at N K cs → co N f K = cs := by
  intro cs
  induction cs with
  | nil =>
    intro f K hf h
    cases f with
    | zero => exact absurd hf (Nat.not_lt_zero _)
    | succ f => unfold co; rw [if_pos (show N K = 30000 from h)]
  | cons c cs ih =>
    intro f K hf h
    cases f with
    | zero => exact absurd hf (Nat.not_lt_zero _)
    | succ f =>
      obtain ⟨h1, h2, h3⟩ := h
      unfold co
      rw [if_neg (by rw [h1]; intro q; have := nI_eq (a := c) (b := 30000) (by omega) (by decide) |>.mp q; omega), h1, vv_nI (by omega), ih f (K + 1) (by simp at hf; omega) h3]
theorem gX_vo {N : Nat → Int32} {CS : List Nat} {K0 : Nat} (hN : ∀ i, i < CS.length → N (K0 + i) = nI (CS.getD i 0)) : ∀ (cs : List Nat) (e : Nat), e + cs.length < CS.length → (∀ i, i < cs.length → CS.getD (e + i) 0 = cs.getD i 0) → CS.getD (e + cs.length) 0 = 30000 → (∀ c, c ∈ cs → c < 30000) → vo_at N (K0 + e) cs := by
  intro cs
  induction cs with
  | nil =>
    intro e he _ h2 _
    have h2' : CS.getD e 0 = 30000 := h2
    have he' : e < CS.length := he
    show N (K0 + e) = 30000
    rw [hN e he', h2']; rfl
  | cons c cs ih =>
    intro e he h1 h2 h3
    simp at he
    have e0 := h1 0 (by simp)
    simp at e0
    refine ⟨?_, h3 c (by simp), ?_⟩
    · rw [hN e (by omega)]; congr 1
    · have := ih (e + 1) (by omega) (fun i hi => ?_) ?_ (fun x hx => h3 x (by simp [hx]))
      · rw [show K0 + e + 1 = K0 + (e + 1) by omega]; exact this
      · have q := h1 (i + 1) (by simp; omega)
        rw [show e + (i + 1) = e + 1 + i by omega] at q
        rw [q]; simp
      · rw [show e + 1 + cs.length = e + (c :: cs).length by simp; omega]; exact h2
theorem gX_vc {F : Nat → Int32} {CS : List Nat} (hF : ∀ i, i < CS.length → F i = cs_ (CS.getD i 0)) : ∀ (cs : List Nat) (e : Nat), e + cs.length < CS.length → (∀ i, i < cs.length → CS.getD (e + i) 0 = cs.getD i 0) → CS.getD (e + cs.length) 0 = 30000 → (∀ c, c ∈ cs → c < 30000) → vc_at F e cs := by
  intro cs
  induction cs with
  | nil =>
    intro e he _ h2 _
    have h2' : CS.getD e 0 = 30000 := h2
    have he' : e < CS.length := he
    show F e = -1
    rw [hF e he', h2']; rfl
  | cons c cs ih =>
    intro e he h1 h2 h3
    simp at he
    have e0 := h1 0 (by simp)
    simp at e0
    refine ⟨?_, h3 c (by simp), ?_⟩
    · rw [hF e (by omega)]; congr 1
    · refine ih (e + 1) (by omega) (fun i hi => ?_) ?_ (fun x hx => h3 x (by simp [hx]))
      · have q := h1 (i + 1) (by simp; omega)
        rw [show e + (i + 1) = e + 1 + i by omega] at q
        rw [q]; simp
      · rw [show e + 1 + cs.length = e + (c :: cs).length by simp; omega]; exact h2
/-- what a MACHINE senses -/
theorem nm_x {N N' : Nat → Int32} {w m c : Nat} (hm : m < 5) (hc : c < 80) (h : eqX m N' N) : sp_nm N' w m c = sp_nm N w m c := by
  have hl : sp_light N' ↔ sp_light N := by unfold sp_light sp_rest; rw [h 7 (by omega), h 2 (by omega), h 3 (by omega)]
  funext j
  unfold sp_nm
  split
  · exact h _ (by omega)
  · exact h _ (by omega)
  · exact h _ (by omega)
  · exact mm_iff hl
  · exact h _ (by omega)
  · exact h _ (by omega)
  · exact h _ (by omega)
  · unfold sp_rest; rw [h 7 (by omega), h 2 (by omega), h 3 (by omega)]
  · rfl
  · rfl
