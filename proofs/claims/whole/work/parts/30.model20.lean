/-! THE REFERENCE: steps of a program: a field, what comes behind one, tables in order -/
abbrev sf (N : Nat → Int32) (p s f : Nat) : Int32 := N (1226 + 418 * p + 1 + 8 * s + f)
def bh (N : Nat → Int32) (p : Nat) : Nat → Nat → Int32
  | 0, _ => -1
  | k + 1, s => if sf N p s 6 < 0 then (if sf N p s 7 < 0 then sf N p s 7 else if sf N p (vv (sf N p s 7)) 0 < 9 then bh N p k (vv (sf N p s 7)) else sf N p s 7) else sf N p s 6
/-- a number of a step, or none -/
abbrev mo_st (k : Nat) (x : Int32) : Prop := x = -1 ∨ ∃ u, u < k ∧ x = nI u
def mo_S (N : Nat → Int32) (p k s : Nat) : Prop :=
  (∃ o, o ≤ 10 ∧ sf N p s 0 = nI o) ∧ mo_st k (sf N p s 6) ∧ mo_st s (sf N p s 7) ∧
  (sf N p s 0 = 0 → ∃ x y, x ≤ 9999 ∧ y ≤ 9999 ∧ sf N p s 1 = nI x ∧ sf N p s 2 = nI y) ∧
  (sf N p s 0 = 7 ∨ sf N p s 0 = 8 ∨ sf N p s 0 = 9 → ∃ e, e < 160 ∧ sf N p s 3 = nI e ∧ mo_X N (1226 + 418 * p + 258 + e)) ∧
  (8 ≤ sf N p s 0 → (∃ b, b < k ∧ sf N p s 4 = nI b) ∧ mo_st k (sf N p s 5))
def mo_T (N : Nat → Int32) (p k : Nat) : Prop := k ≤ 32 ∧ ∀ s, s < k → mo_S N p k s
/-- only what is in order counts -/
theorem co_eq {N N' : Nat → Int32} : ∀ (f K : Nat), (∀ x, K ≤ x → N' x = N x) → co N' f K = co N f K := by
  intro f
  induction f with
  | zero => intro K _; rfl
  | succ f ih =>
    intro K h
    show (if N' K = 30000 then [] else vv (N' K) :: co N' f (K + 1)) = (if N K = 30000 then [] else vv (N K) :: co N f (K + 1))
    rw [h K (Nat.le_refl _), ih (K + 1) (fun x hx => h x (by omega))]
theorem vo_at_eq {N N' : Nat → Int32} : ∀ (cs : List Nat) (K : Nat), (∀ x, K ≤ x → N' x = N x) → vo_at N K cs → vo_at N' K cs := by
  intro cs
  induction cs with
  | nil => intro K h q; exact (h K (Nat.le_refl _)).trans q
  | cons c cs ih => intro K h q; exact ⟨(h K (Nat.le_refl _)).trans q.1, q.2.1, ih (K + 1) (fun x hx => h x (by omega)) q.2.2⟩
theorem mo_X_eq {N N' : Nat → Int32} {K : Nat} (h : ∀ x, K ≤ x → N' x = N x) (q : mo_X N K) : mo_X N' K := by
  unfold mo_X at *
  rw [co_eq 160 K h]
  exact ⟨vo_at_eq _ K h q.1, q.2⟩
theorem mo_T_eq {N N' : Nat → Int32} {p k : Nat} (h : ∀ x, 1226 ≤ x → N' x = N x) (q : mo_T N p k) : mo_T N' p k := by
  refine ⟨q.1, fun s hs => ?_⟩
  have e : ∀ f, sf N' p s f = sf N p s f := fun f => h _ (by omega)
  obtain ⟨q1, q2, q3, q4, q5, q6⟩ := q.2 s hs
  unfold mo_S
  simp only [e]
  refine ⟨q1, q2, q3, q4, fun hh => ?_, q6⟩
  obtain ⟨x, hx, ex, hX⟩ := q5 hh
  exact ⟨x, hx, ex, mo_X_eq (fun y hy => h y (by omega)) hX⟩
theorem bh_eq {N N' : Nat → Int32} {p : Nat} (h : ∀ x, 1226 ≤ x → N' x = N x) : ∀ k s, bh N' p k s = bh N p k s := by
  intro k
  induction k with
  | zero => intro s; rfl
  | succ k ih =>
    intro s
    have e : ∀ s f, sf N' p s f = sf N p s f := fun s f => h _ (by omega)
    unfold bh
    simp only [e, ih]
theorem bh_in {N : Nat → Int32} {p k : Nat} (hT : mo_T N p k) : ∀ f s, s < f → s < k → mo_st k (bh N p f s) := by
  intro f
  induction f with
  | zero => intro s h; exact absurd h (Nat.not_lt_zero _)
  | succ f ih =>
    intro s hs hk
    obtain ⟨-, q2, q3, -⟩ := hT.2 s hk
    unfold bh
    by_cases c1 : sf N p s 6 < 0
    · rw [if_pos c1]
      rcases q3 with e | ⟨u, hu, e⟩
      · rw [e, if_pos (by decide)]; exact Or.inl rfl
      · rw [e, if_neg (nI_pos (by have := hT.1; omega)), vv_nI (by have := hT.1; omega)]
        by_cases c2 : sf N p u 0 < 9
        · rw [if_pos c2]; exact ih u (by omega) (by omega)
        · rw [if_neg c2]; exact Or.inr ⟨u, by omega, rfl⟩
    · rw [if_neg c1]; exact q2
set_option maxRecDepth 100000 in
set_option maxHeartbeats 600000 in
theorem lm_bh {g : mm_G} {I : mm_I} {d : Nat} {Q : Option Value → mm_Sh → mm_I → Prop} {p k : Nat} (hp : p < 6) (hT : mo_T (I 201) p k) {x : Int32} (hd : 1 ≤ d) : ∀ (m : Nat) (s : Nat), s < m → s < k → Q (some (.int (bh (I 201) p m s))) sh_S I → mm_Ex g zX12_behind d (0, 0) (0, 0) sh_S I 2 [(3, .int (nI s)), (0, .ref 200), (1, .int (nI p)), (2, .int x)] [] Q := by
  have h32 := hT.1
  intro m
  induction m with
  | zero => intro s hs; exact absurd hs (Nat.not_lt_zero _)
  | succ m ih =>
    intro s hs hk hq
    replace ih : ∀ s, s < m → s < k → Q (some (.int (bh (I 201) p m s))) sh_S I → True → mm_Ex g zX12_behind d (0, 0) (0, 0) sh_S I 2 [(3, .int (nI s)), (0, .ref 200), (1, .int (nI p)), (2, .int x)] [] Q := fun s a b c _ => ih s a b c
    obtain ⟨-, -, q3, -⟩ := hT.2 s hk
    rcases q3 with e7 | ⟨u, hu, e7⟩
    · refine mm_aload_n 1 dX12_behind_2 rfl rfl ?_
      refine mm_iload_n 2 dX12_behind_3 rfl rfl ?_
      refine mm_iload_n 0 dX12_behind_4 rfl rfl ?_
      refine mm_bipush (v := 6) dX12_behind_5 rfl ?_
      refine mm_cV3i (dz := d - 1) dX12_behind_7 rfl mzX12_ofStep ml_X12_263 imX12_ofStep (by omega) so_200 ⟨rfl, rfl⟩ (cm_ofStep (s := s) (f := 6) (by omega) (by omega) (by decide)) (Nat.le_of_ble_eq_true rfl) ⟨Nat.le_refl _, Nat.le_refl _⟩ ?_
      refine mm_if_lt (tgt := 22) dX12_behind_10 (by decide) (fun c10 => ?_) (fun c10 => ?_)
      · refine mm_aload_n 1 dX12_behind_22 rfl rfl ?_
        refine mm_iload_n 2 dX12_behind_23 rfl rfl ?_
        refine mm_iload_n 0 dX12_behind_24 rfl rfl ?_
        refine mm_bipush (v := 7) dX12_behind_25 rfl ?_
        refine mm_cV3i (dz := d - 1) dX12_behind_27 rfl mzX12_ofStep ml_X12_263 imX12_ofStep (by omega) so_200 ⟨rfl, rfl⟩ (cm_ofStep (s := s) (f := 7) (by omega) (by omega) (by decide)) (Nat.le_of_ble_eq_true rfl) ⟨Nat.le_refl _, Nat.le_refl _⟩ ?_
        refine mm_top (v := -1) e7 ?_
        refine mm_istore_n (ls' := [(3, .int (-1)), (0, .ref 200), (1, .int (nI (p))), (2, .int (x))]) dX12_behind_30 rfl (by decide) rfl ?_
        refine mm_iload_n 0 dX12_behind_31 rfl rfl ?_
        refine mm_if_lt (tgt := 47) dX12_behind_32 (by decide) (fun _ => ?_) (fun q => absurd (by decide) q)
        refine mm_iload_n 0 dX12_behind_47 rfl rfl ?_
        refine mm_iret dX12_behind_48 rfl ⟨Nat.le_refl _, Nat.le_refl _⟩ ?_
        rw [bh, if_pos c10, e7, if_pos (by decide)] at hq
        exact hq
      · refine mm_aload_n 1 dX12_behind_13 rfl rfl ?_
        refine mm_iload_n 2 dX12_behind_14 rfl rfl ?_
        refine mm_iload_n 0 dX12_behind_15 rfl rfl ?_
        refine mm_bipush (v := 6) dX12_behind_16 rfl ?_
        refine mm_cV3i (dz := d - 1) dX12_behind_18 rfl mzX12_ofStep ml_X12_263 imX12_ofStep (by omega) so_200 ⟨rfl, rfl⟩ (cm_ofStep (s := s) (f := 6) (by omega) (by omega) (by decide)) (Nat.le_of_ble_eq_true rfl) ⟨Nat.le_refl _, Nat.le_refl _⟩ ?_
        refine mm_iret dX12_behind_21 rfl ⟨Nat.le_refl _, Nat.le_refl _⟩ ?_
        rw [bh, if_neg c10] at hq
        exact hq
    · refine mm_aload_n 1 dX12_behind_2 rfl rfl ?_
      refine mm_iload_n 2 dX12_behind_3 rfl rfl ?_
      refine mm_iload_n 0 dX12_behind_4 rfl rfl ?_
      refine mm_bipush (v := 6) dX12_behind_5 rfl ?_
      refine mm_cV3i (dz := d - 1) dX12_behind_7 rfl mzX12_ofStep ml_X12_263 imX12_ofStep (by omega) so_200 ⟨rfl, rfl⟩ (cm_ofStep (s := s) (f := 6) (by omega) (by omega) (by decide)) (Nat.le_of_ble_eq_true rfl) ⟨Nat.le_refl _, Nat.le_refl _⟩ ?_
      refine mm_if_lt (tgt := 22) dX12_behind_10 (by decide) (fun c10 => ?_) (fun c10 => ?_)
      · refine mm_aload_n 1 dX12_behind_22 rfl rfl ?_
        refine mm_iload_n 2 dX12_behind_23 rfl rfl ?_
        refine mm_iload_n 0 dX12_behind_24 rfl rfl ?_
        refine mm_bipush (v := 7) dX12_behind_25 rfl ?_
        refine mm_cV3i (dz := d - 1) dX12_behind_27 rfl mzX12_ofStep ml_X12_263 imX12_ofStep (by omega) so_200 ⟨rfl, rfl⟩ (cm_ofStep (s := s) (f := 7) (by omega) (by omega) (by decide)) (Nat.le_of_ble_eq_true rfl) ⟨Nat.le_refl _, Nat.le_refl _⟩ ?_
        refine mm_top (v := nI (u)) e7 ?_
        refine mm_istore_n (ls' := [(3, .int (nI (u))), (0, .ref 200), (1, .int (nI (p))), (2, .int (x))]) dX12_behind_30 rfl (by decide) rfl ?_
        refine mm_iload_n 0 dX12_behind_31 rfl rfl ?_
        refine mm_if_ltN (u) (tgt := 47) dX12_behind_32 (by decide) (by omega) ?_
        refine mm_at (pc' := 35) rfl ?_
        refine mm_aload_n 1 dX12_behind_35 rfl rfl ?_
        refine mm_iload_n 2 dX12_behind_36 rfl rfl ?_
        refine mm_iload_n 0 dX12_behind_37 rfl rfl ?_
        refine mm_iconst (v := 0) dX12_behind_38 rfl ?_
        refine mm_cV3i (dz := d - 1) dX12_behind_39 rfl mzX12_ofStep ml_X12_263 imX12_ofStep (by omega) so_200 ⟨rfl, rfl⟩ (cm_ofStep (s := u) (f := 0) (by omega) (by omega) (by decide)) (Nat.le_of_ble_eq_true rfl) ⟨Nat.le_refl _, Nat.le_refl _⟩ ?_
        refine mm_bipush (v := 9) dX12_behind_42 rfl ?_
        refine mm_icmp_lt (tgt := 2) dX12_behind_44 (by decide) (fun c44 => ?_) (fun c44 => ?_)
        · exact ih u (by omega) (by omega) (by have e := hq; rw [bh, if_pos c10, e7, if_neg (nI_pos (by omega)), vv_nI (by omega), if_pos c44] at e; exact e) trivial
        · refine mm_iload_n 0 dX12_behind_47 rfl rfl ?_
          refine mm_iret dX12_behind_48 rfl ⟨Nat.le_refl _, Nat.le_refl _⟩ ?_
          rw [bh, if_pos c10, e7, if_neg (nI_pos (by omega)), vv_nI (by omega), if_neg (Int32.not_lt.mpr (by first | exact c44 | exact Int32.not_lt.mp c44))] at hq
          exact hq
      · refine mm_aload_n 1 dX12_behind_13 rfl rfl ?_
        refine mm_iload_n 2 dX12_behind_14 rfl rfl ?_
        refine mm_iload_n 0 dX12_behind_15 rfl rfl ?_
        refine mm_bipush (v := 6) dX12_behind_16 rfl ?_
        refine mm_cV3i (dz := d - 1) dX12_behind_18 rfl mzX12_ofStep ml_X12_263 imX12_ofStep (by omega) so_200 ⟨rfl, rfl⟩ (cm_ofStep (s := s) (f := 6) (by omega) (by omega) (by decide)) (Nat.le_of_ble_eq_true rfl) ⟨Nat.le_refl _, Nat.le_refl _⟩ ?_
        refine mm_iret dX12_behind_21 rfl ⟨Nat.le_refl _, Nat.le_refl _⟩ ?_
        rw [bh, if_neg c10] at hq
        exact hq
set_option maxRecDepth 100000 in
set_option maxHeartbeats 600000 in
theorem cm_behind {g : mm_G} {I : mm_I} {d : Nat} {p k : Nat} (hp : p < 6) (hT : mo_T (I 201) p k) {s : Nat} (hs : s < k) (hd : 1 ≤ d) : mm_Ci g zX12_behind d [.ref 200, .int (nI p), .int (nI s)] sh_S I (bh (I 201) p 32 s) I := by
  have h32 := hT.1
  refine mm_Ci_of (fun Q hq => ?_)
  refine mm_begin (ls := [(0, .ref 200), (1, .int (nI (p))), (2, .int (nI (s)))]) (Nat.le_of_ble_eq_true rfl) rfl rfl ?_
  refine mm_iload_n 2 dX12_behind_0 rfl rfl ?_
  refine mm_istore_n (ls' := [(3, .int (nI (s))), (0, .ref 200), (1, .int (nI (p))), (2, .int (nI (s)))]) dX12_behind_1 rfl (by decide) rfl ?_
  exact mm_sub [0, 1, 2, 3] rfl (lm_bh hp hT hd 32 s (by omega) hs hq)
/-- the same, told by a row that has the program -/
theorem cm_behindN {g : mm_G} {I : mm_I} {d : Nat} {N : Nat → Int32} (hN : ∀ x, 1226 ≤ x → I 201 x = N x) {p k : Nat} (hp : p < 6) (hT : mo_T N p k) {s : Nat} (hs : s < k) (hd : 1 ≤ d) : mm_Ci g zX12_behind d [.ref 200, .int (nI p), .int (nI s)] sh_S I (bh N p 32 s) I := by
  have e := cm_behind (g := g) (I := I) hp (mo_T_eq hN hT) hs hd
  rw [bh_eq hN] at e
  exact e
/-- how often a repeat goes on, where an if, while, repeat goes on -/
def sp_lf (N : Nat → Int32) (m p s : Nat) : Int32 := if 0 ≤ N (630 + 40 * m + (8 + s)) then N (630 + 40 * m + (8 + s)) else sf N p s 1
def in_f (N : Nat → Int32) (p s : Nat) (b : Bool) : Int32 := if sf N p s (if b = true then 4 else 5) < 0 then bh N p 32 s else sf N p s (if b = true then 4 else 5)
def op_in (J : mm_I) (w m p s c : Nat) : Int32 × mm_I := if sf (J 201) p s 0 = 10 then (in_f (J 201) p s (decide (0 < sp_lf (J 201) m p s)), mm_up J 201 (630 + 40 * m + (8 + s)) (sp_lf (J 201) m p s - 1)) else
  (in_f (J 201) p s (decide (¬ (sp_vo J w m c (1226 + 418 * p + 258 + vv (sf (J 201) p s 3))).2 0 = 0)), vo_m J (sp_vo J w m c (1226 + 418 * p + 258 + vv (sf (J 201) p s 3))).2)
