/-! THE REFERENCE'S READER: expressions -/
def fb (b : Bool) : Nat := if b = true then 0 else 1
theorem fb_le (b : Bool) : fb b ≤ 1 := by cases b <;> decide
theorem px_le_t {T : Nat → Int32} {t k : Nat} (hB : tp_ok T t) {r : Bool × Nat × List Nat} (h : px_ok (tK T t) k r) (hk : k ≤ t) : r.2.1 ≤ t := by
  by_cases e : r.2.1 ≤ k
  · omega
  · have := tK_lt hB (h.2.1 (r.2.1 - 1) (by omega) (by omega)); omega
theorem px_lp_n {K : Nat → Nat} {nxt : Nat → Bool × Nat × List Nat} {l m : Nat} {r : Bool × Nat × List Nat} (h : ¬ (r.1 = true ∧ lo (K r.2.1) = l)) : px_lp K nxt l m r = r := by
  cases m with
  | zero => rfl
  | succ m => unfold px_lp; rw [if_neg h]
theorem si_le (x : Nat) : si x ≤ 7 := by unfold si; (repeat' split) <;> omega
theorem lo_400 : ∀ l, l < 5 → ¬ lo 400 = l := by decide
theorem si_0 {x : Nat} (h : lo x = 0) : si x = 0 := by
  have e : x = 124 := by unfold lo at h; revert h; (repeat' split) <;> omega
  subst e; rfl
theorem si_1 {x : Nat} (h : lo x = 1) : si x = 1 := by
  have e : x = 38 := by unfold lo at h; revert h; (repeat' split) <;> omega
  subst e; rfl
theorem si_4 {x : Nat} (h : lo x = 4) : si x = 7 := by
  have e : x = 42 := by unfold lo at h; revert h; (repeat' split) <;> omega
  subst e; rfl
set_option maxRecDepth 100000 in
set_option maxHeartbeats 600000 in
theorem lm_lv0 {g : mm_G} {J : mm_I} {d : Nat} {p t : Nat} (ht : J 200 4 = nI t) (ht96 : t ≤ 96) (hB : tp_ok (J 203) t) (hrd : J 200 18 = nI p) (hp : p < 6) {bs br ns : Nat} {N : Nat → Int32} {Q : Option Value → mm_Sh → mm_I → Prop} {nxt : Nat → Bool × Nat × List Nat} (hok : ∀ k, px_ok (tK (J 203) t) k (nxt k)) {dd : Nat} (hd4 : 5 ≤ dd) (hN : (∀ (k : Nat) (CS : List Nat) (d : Nat), dd ≤ d → CS.length ≤ k → k ≤ t → mm_Cv g zX12_both d [.ref 200] sh_S (pz J p (tq (J 203) t k) 0 bs br ns N CS) (pz J p (tq (J 203) t ((nxt k).2.1)) (fb (nxt k).1) bs br ns N (CS ++ (nxt k).2.2)))) {CS : List Nat} (hd : dd + 1 ≤ d) : ∀ (m : Nat) (rb : Bool) (rk : Nat) (rc : List Nat), t ≤ rk + m → rk ≤ t → (CS ++ rc).length ≤ rk → Q none sh_S (pz J p (tq (J 203) t (px_lp (tK (J 203) t) nxt 0 m (rb, rk, rc)).2.1) (fb (px_lp (tK (J 203) t) nxt 0 m (rb, rk, rc)).1) bs br ns N (CS ++ (px_lp (tK (J 203) t) nxt 0 m (rb, rk, rc)).2.2)) → mm_Ex g zX12_either d (0, 0) (0, 0) sh_S (pz J p (tq (J 203) t rk) (fb rb) bs br ns N (CS ++ rc)) 4 [(0, .ref 200)] [] Q := by
  intro m
  induction m with
  | zero =>
    intro rb rk rc hm hk hl hq
    have eK : ¬ (rb = true ∧ lo (tK (J 203) t rk) = 0) := by
      rintro ⟨-, q⟩
      have := tK_lt hB (k := rk) (by intro q2; rw [q2] at q; exact lo_400 0 (by decide) q)
      omega
    rw [px_lp_n eK] at hq
    have hS : mm_Ci g zX12_signHere (d - 1) [.ref 200, .int 0, .int 0] sh_S (pz J p (tq (J 203) t rk) (fb rb) bs br ns N (CS ++ rc)) (-1) (pz J p (tq (J 203) t rk) (fb rb) bs br ns N (CS ++ rc)) := by
      have h := cm_sign0 (g := g) (J := J) (d := d - 1) (p := p) (fl := fb rb) (bs := bs) (br := br) (ns := ns) (N := N) (CS := CS ++ rc) ht ht96 (tq_good (J 203) t rk) (fb_le _) (by omega)
      cases rb with
      | false => rw [if_neg (by decide)] at h; exact h
      | true => rw [if_pos (by decide), sh_lo hB (by decide), if_neg (fun q => eK ⟨rfl, q⟩)] at h; exact h
    refine mm_aload_n 0 dX12_either_4 rfl rfl ?_
    refine mm_iconst (v := 0) dX12_either_5 rfl ?_
    refine mm_iconst (v := 0) dX12_either_6 rfl ?_
    refine mm_cV2i (dz := d - 1) dX12_either_7 rfl mzX12_signHere ml_X12_205 imX12_signHere (by omega) so_200 ⟨rfl, rfl⟩ hS (Nat.le_of_ble_eq_true rfl) ⟨Nat.le_refl _, Nat.le_refl _⟩ ?_
    refine mm_if_lt (tgt := 31) dX12_either_10 (by decide) (fun _ => ?_) (fun q => absurd (by decide) q)
    refine mm_vret dX12_either_31 rfl ⟨Nat.le_refl _, Nat.le_refl _⟩ ?_
    exact hq
  | succ m ih =>
    intro rb rk rc hm hk hl hq
    by_cases eK : rb = true ∧ lo (tK (J 203) t rk) = 0
    · obtain ⟨rfl, eL⟩ := eK
      have hs7 := si_le (tK (J 203) t rk)
      have hlt := tK_lt hB (k := rk) (by intro q2; rw [q2] at eL; exact lo_400 0 (by decide) eL)
      obtain ⟨h1, h2, h3, h4⟩ := hok (rk + 1)
      have h5 := px_le_t hB (hok (rk + 1)) (by omega)
      rw [px_lp, if_pos ⟨rfl, eL⟩] at hq
      have hS : mm_Ci g zX12_signHere (d - 1) [.ref 200, .int 0, .int 0] sh_S (pz J p (tq (J 203) t rk) 0 bs br ns N (CS ++ rc)) (nI (si (tK (J 203) t rk))) (pz J p (tq (J 203) t rk) 0 bs br ns N (CS ++ rc)) := by
        have h := cm_sign0 (g := g) (J := J) (d := d - 1) (p := p) (fl := 0) (bs := bs) (br := br) (ns := ns) (N := N) (CS := CS ++ rc) ht ht96 (tq_good (J 203) t rk) (by decide) (by omega)
        rw [if_pos rfl, sh_lo hB (by decide), if_pos eL] at h
        exact h
      refine mm_mem (J := pz J p (tq (J 203) t rk) 0 bs br ns N (CS ++ rc)) rfl ?_
      refine mm_aload_n 0 dX12_either_4 rfl rfl ?_
      refine mm_iconst (v := 0) dX12_either_5 rfl ?_
      refine mm_iconst (v := 0) dX12_either_6 rfl ?_
      refine mm_cV2i (dz := d - 1) dX12_either_7 rfl mzX12_signHere ml_X12_205 imX12_signHere (by omega) so_200 ⟨rfl, rfl⟩ hS (Nat.le_of_ble_eq_true rfl) ⟨Nat.le_refl _, Nat.le_refl _⟩ ?_
      refine mm_if_ltN (si (tK (J 203) t rk)) (tgt := 31) dX12_either_10 (by decide) (by omega) ?_
      refine mm_aload_n 0 dX12_either_13 rfl rfl ?_
      refine mm_cV0v (dz := d - 1) dX12_either_14 rfl mzX12_next ml_X12_171 imX12_next (by omega) so_200 ⟨rfl, rfl⟩ (cm_nextQ (q := tq (J 203) t rk) ht ht96 (tq_good (J 203) t rk) (by omega)) (Nat.le_of_ble_eq_true rfl) ⟨Nat.le_refl _, Nat.le_refl _⟩ ?_
      refine mm_aload_n 0 dX12_either_17 rfl rfl ?_
      refine mm_at (pc' := 18) rfl ?_
      refine mm_cV0v (dz := d - 1) dX12_either_18 rfl mzX12_both ml_X12_217 imX12_both (by omega) so_200 ⟨rfl, rfl⟩ (hN (rk + 1) (CS ++ rc) (d - 1) (by omega) (by omega) (by omega)) (Nat.le_of_ble_eq_true rfl) ⟨Nat.le_refl _, Nat.le_refl _⟩ ?_
      refine mm_aload_n 0 dX12_either_21 rfl rfl ?_
      refine mm_sipush (v := 20000) dX12_either_22 rfl ?_
      refine mm_cV1v (dz := d - 1) dX12_either_25 rfl mzX12_code ml_X12_182 imX12_code (by omega) so_200 ⟨rfl, rfl⟩ (cm_code hrd hp (by simp only [List.length_append] at hl h3 ⊢; omega)) (Nat.le_of_ble_eq_true rfl) ⟨Nat.le_refl _, Nat.le_refl _⟩ ?_
      refine mm_goto (tgt := 4) dX12_either_28 (by decide) ?_
      have hh := ih (nxt (rk + 1)).1 (nxt (rk + 1)).2.1 (rc ++ (nxt (rk + 1)).2.2 ++ [20000 + si (tK (J 203) t rk)]) (by omega) h5 (by simp only [List.length_append, List.length_cons, List.length_nil] at hl ⊢; omega) hq
      rw [si_0 eL, ← List.append_assoc, ← List.append_assoc] at hh
      exact hh
    · rw [px_lp_n eK] at hq
      have hS : mm_Ci g zX12_signHere (d - 1) [.ref 200, .int 0, .int 0] sh_S (pz J p (tq (J 203) t rk) (fb rb) bs br ns N (CS ++ rc)) (-1) (pz J p (tq (J 203) t rk) (fb rb) bs br ns N (CS ++ rc)) := by
        have h := cm_sign0 (g := g) (J := J) (d := d - 1) (p := p) (fl := fb rb) (bs := bs) (br := br) (ns := ns) (N := N) (CS := CS ++ rc) ht ht96 (tq_good (J 203) t rk) (fb_le _) (by omega)
        cases rb with
        | false => rw [if_neg (by decide)] at h; exact h
        | true => rw [if_pos (by decide), sh_lo hB (by decide), if_neg (fun q => eK ⟨rfl, q⟩)] at h; exact h
      refine mm_aload_n 0 dX12_either_4 rfl rfl ?_
      refine mm_iconst (v := 0) dX12_either_5 rfl ?_
      refine mm_iconst (v := 0) dX12_either_6 rfl ?_
      refine mm_cV2i (dz := d - 1) dX12_either_7 rfl mzX12_signHere ml_X12_205 imX12_signHere (by omega) so_200 ⟨rfl, rfl⟩ hS (Nat.le_of_ble_eq_true rfl) ⟨Nat.le_refl _, Nat.le_refl _⟩ ?_
      refine mm_if_lt (tgt := 31) dX12_either_10 (by decide) (fun _ => ?_) (fun q => absurd (by decide) q)
      refine mm_vret dX12_either_31 rfl ⟨Nat.le_refl _, Nat.le_refl _⟩ ?_
      exact hq
set_option maxRecDepth 100000 in
set_option maxHeartbeats 600000 in
theorem lm_lv1 {g : mm_G} {J : mm_I} {d : Nat} {p t : Nat} (ht : J 200 4 = nI t) (ht96 : t ≤ 96) (hB : tp_ok (J 203) t) (hrd : J 200 18 = nI p) (hp : p < 6) {bs br ns : Nat} {N : Nat → Int32} {Q : Option Value → mm_Sh → mm_I → Prop} {nxt : Nat → Bool × Nat × List Nat} (hok : ∀ k, px_ok (tK (J 203) t) k (nxt k)) {dd : Nat} (hd4 : 5 ≤ dd) (hN : (∀ (k : Nat) (CS : List Nat) (d : Nat), dd ≤ d → CS.length ≤ k → k ≤ t → mm_Cv g zX12_test d [.ref 200] sh_S (pz J p (tq (J 203) t k) 0 bs br ns N CS) (pz J p (tq (J 203) t ((nxt k).2.1)) (fb (nxt k).1) bs br ns N (CS ++ (nxt k).2.2)))) {CS : List Nat} (hd : dd + 1 ≤ d) : ∀ (m : Nat) (rb : Bool) (rk : Nat) (rc : List Nat), t ≤ rk + m → rk ≤ t → (CS ++ rc).length ≤ rk → Q none sh_S (pz J p (tq (J 203) t (px_lp (tK (J 203) t) nxt 1 m (rb, rk, rc)).2.1) (fb (px_lp (tK (J 203) t) nxt 1 m (rb, rk, rc)).1) bs br ns N (CS ++ (px_lp (tK (J 203) t) nxt 1 m (rb, rk, rc)).2.2)) → mm_Ex g zX12_both d (0, 0) (0, 0) sh_S (pz J p (tq (J 203) t rk) (fb rb) bs br ns N (CS ++ rc)) 4 [(0, .ref 200)] [] Q := by
  intro m
  induction m with
  | zero =>
    intro rb rk rc hm hk hl hq
    have eK : ¬ (rb = true ∧ lo (tK (J 203) t rk) = 1) := by
      rintro ⟨-, q⟩
      have := tK_lt hB (k := rk) (by intro q2; rw [q2] at q; exact lo_400 1 (by decide) q)
      omega
    rw [px_lp_n eK] at hq
    have hS : mm_Ci g zX12_signHere (d - 1) [.ref 200, .int 1, .int 1] sh_S (pz J p (tq (J 203) t rk) (fb rb) bs br ns N (CS ++ rc)) (-1) (pz J p (tq (J 203) t rk) (fb rb) bs br ns N (CS ++ rc)) := by
      have h := cm_sign1 (g := g) (J := J) (d := d - 1) (p := p) (fl := fb rb) (bs := bs) (br := br) (ns := ns) (N := N) (CS := CS ++ rc) ht ht96 (tq_good (J 203) t rk) (fb_le _) (by omega)
      cases rb with
      | false => rw [if_neg (by decide)] at h; exact h
      | true => rw [if_pos (by decide), sh_lo hB (by decide), if_neg (fun q => eK ⟨rfl, q⟩)] at h; exact h
    refine mm_aload_n 0 dX12_both_4 rfl rfl ?_
    refine mm_iconst (v := 1) dX12_both_5 rfl ?_
    refine mm_iconst (v := 1) dX12_both_6 rfl ?_
    refine mm_cV2i (dz := d - 1) dX12_both_7 rfl mzX12_signHere ml_X12_205 imX12_signHere (by omega) so_200 ⟨rfl, rfl⟩ hS (Nat.le_of_ble_eq_true rfl) ⟨Nat.le_refl _, Nat.le_refl _⟩ ?_
    refine mm_if_lt (tgt := 31) dX12_both_10 (by decide) (fun _ => ?_) (fun q => absurd (by decide) q)
    refine mm_vret dX12_both_31 rfl ⟨Nat.le_refl _, Nat.le_refl _⟩ ?_
    exact hq
  | succ m ih =>
    intro rb rk rc hm hk hl hq
    by_cases eK : rb = true ∧ lo (tK (J 203) t rk) = 1
    · obtain ⟨rfl, eL⟩ := eK
      have hs7 := si_le (tK (J 203) t rk)
      have hlt := tK_lt hB (k := rk) (by intro q2; rw [q2] at eL; exact lo_400 1 (by decide) eL)
      obtain ⟨h1, h2, h3, h4⟩ := hok (rk + 1)
      have h5 := px_le_t hB (hok (rk + 1)) (by omega)
      rw [px_lp, if_pos ⟨rfl, eL⟩] at hq
      have hS : mm_Ci g zX12_signHere (d - 1) [.ref 200, .int 1, .int 1] sh_S (pz J p (tq (J 203) t rk) 0 bs br ns N (CS ++ rc)) (nI (si (tK (J 203) t rk))) (pz J p (tq (J 203) t rk) 0 bs br ns N (CS ++ rc)) := by
        have h := cm_sign1 (g := g) (J := J) (d := d - 1) (p := p) (fl := 0) (bs := bs) (br := br) (ns := ns) (N := N) (CS := CS ++ rc) ht ht96 (tq_good (J 203) t rk) (by decide) (by omega)
        rw [if_pos rfl, sh_lo hB (by decide), if_pos eL] at h
        exact h
      refine mm_mem (J := pz J p (tq (J 203) t rk) 0 bs br ns N (CS ++ rc)) rfl ?_
      refine mm_aload_n 0 dX12_both_4 rfl rfl ?_
      refine mm_iconst (v := 1) dX12_both_5 rfl ?_
      refine mm_iconst (v := 1) dX12_both_6 rfl ?_
      refine mm_cV2i (dz := d - 1) dX12_both_7 rfl mzX12_signHere ml_X12_205 imX12_signHere (by omega) so_200 ⟨rfl, rfl⟩ hS (Nat.le_of_ble_eq_true rfl) ⟨Nat.le_refl _, Nat.le_refl _⟩ ?_
      refine mm_if_ltN (si (tK (J 203) t rk)) (tgt := 31) dX12_both_10 (by decide) (by omega) ?_
      refine mm_aload_n 0 dX12_both_13 rfl rfl ?_
      refine mm_cV0v (dz := d - 1) dX12_both_14 rfl mzX12_next ml_X12_171 imX12_next (by omega) so_200 ⟨rfl, rfl⟩ (cm_nextQ (q := tq (J 203) t rk) ht ht96 (tq_good (J 203) t rk) (by omega)) (Nat.le_of_ble_eq_true rfl) ⟨Nat.le_refl _, Nat.le_refl _⟩ ?_
      refine mm_aload_n 0 dX12_both_17 rfl rfl ?_
      refine mm_at (pc' := 18) rfl ?_
      refine mm_cV0v (dz := d - 1) dX12_both_18 rfl mzX12_test ml_X12_214 imX12_test (by omega) so_200 ⟨rfl, rfl⟩ (hN (rk + 1) (CS ++ rc) (d - 1) (by omega) (by omega) (by omega)) (Nat.le_of_ble_eq_true rfl) ⟨Nat.le_refl _, Nat.le_refl _⟩ ?_
      refine mm_aload_n 0 dX12_both_21 rfl rfl ?_
      refine mm_sipush (v := 20001) dX12_both_22 rfl ?_
      refine mm_cV1v (dz := d - 1) dX12_both_25 rfl mzX12_code ml_X12_182 imX12_code (by omega) so_200 ⟨rfl, rfl⟩ (cm_code hrd hp (by simp only [List.length_append] at hl h3 ⊢; omega)) (Nat.le_of_ble_eq_true rfl) ⟨Nat.le_refl _, Nat.le_refl _⟩ ?_
      refine mm_goto (tgt := 4) dX12_both_28 (by decide) ?_
      have hh := ih (nxt (rk + 1)).1 (nxt (rk + 1)).2.1 (rc ++ (nxt (rk + 1)).2.2 ++ [20000 + si (tK (J 203) t rk)]) (by omega) h5 (by simp only [List.length_append, List.length_cons, List.length_nil] at hl ⊢; omega) hq
      rw [si_1 eL, ← List.append_assoc, ← List.append_assoc] at hh
      exact hh
    · rw [px_lp_n eK] at hq
      have hS : mm_Ci g zX12_signHere (d - 1) [.ref 200, .int 1, .int 1] sh_S (pz J p (tq (J 203) t rk) (fb rb) bs br ns N (CS ++ rc)) (-1) (pz J p (tq (J 203) t rk) (fb rb) bs br ns N (CS ++ rc)) := by
        have h := cm_sign1 (g := g) (J := J) (d := d - 1) (p := p) (fl := fb rb) (bs := bs) (br := br) (ns := ns) (N := N) (CS := CS ++ rc) ht ht96 (tq_good (J 203) t rk) (fb_le _) (by omega)
        cases rb with
        | false => rw [if_neg (by decide)] at h; exact h
        | true => rw [if_pos (by decide), sh_lo hB (by decide), if_neg (fun q => eK ⟨rfl, q⟩)] at h; exact h
      refine mm_aload_n 0 dX12_both_4 rfl rfl ?_
      refine mm_iconst (v := 1) dX12_both_5 rfl ?_
      refine mm_iconst (v := 1) dX12_both_6 rfl ?_
      refine mm_cV2i (dz := d - 1) dX12_both_7 rfl mzX12_signHere ml_X12_205 imX12_signHere (by omega) so_200 ⟨rfl, rfl⟩ hS (Nat.le_of_ble_eq_true rfl) ⟨Nat.le_refl _, Nat.le_refl _⟩ ?_
      refine mm_if_lt (tgt := 31) dX12_both_10 (by decide) (fun _ => ?_) (fun q => absurd (by decide) q)
      refine mm_vret dX12_both_31 rfl ⟨Nat.le_refl _, Nat.le_refl _⟩ ?_
      exact hq
set_option maxRecDepth 100000 in
set_option maxHeartbeats 600000 in
theorem lm_lv4 {g : mm_G} {J : mm_I} {d : Nat} {p t : Nat} (ht : J 200 4 = nI t) (ht96 : t ≤ 96) (hB : tp_ok (J 203) t) (hrd : J 200 18 = nI p) (hp : p < 6) {bs br ns : Nat} {N : Nat → Int32} {Q : Option Value → mm_Sh → mm_I → Prop} {nxt : Nat → Bool × Nat × List Nat} (hok : ∀ k, px_ok (tK (J 203) t) k (nxt k)) {dd : Nat} (hd4 : 5 ≤ dd) (hN : (∀ (k : Nat) (CS : List Nat) (d : Nat), dd ≤ d → CS.length ≤ k → k ≤ t → mm_Cv g zX12_part d [.ref 200] sh_S (pz J p (tq (J 203) t k) 0 bs br ns N CS) (pz J p (tq (J 203) t ((nxt k).2.1)) (fb (nxt k).1) bs br ns N (CS ++ (nxt k).2.2)))) {CS : List Nat} (hd : dd + 1 ≤ d) : ∀ (m : Nat) (rb : Bool) (rk : Nat) (rc : List Nat), t ≤ rk + m → rk ≤ t → (CS ++ rc).length ≤ rk → Q none sh_S (pz J p (tq (J 203) t (px_lp (tK (J 203) t) nxt 4 m (rb, rk, rc)).2.1) (fb (px_lp (tK (J 203) t) nxt 4 m (rb, rk, rc)).1) bs br ns N (CS ++ (px_lp (tK (J 203) t) nxt 4 m (rb, rk, rc)).2.2)) → mm_Ex g zX12_term d (0, 0) (0, 0) sh_S (pz J p (tq (J 203) t rk) (fb rb) bs br ns N (CS ++ rc)) 4 [(0, .ref 200)] [] Q := by
  intro m
  induction m with
  | zero =>
    intro rb rk rc hm hk hl hq
    have eK : ¬ (rb = true ∧ lo (tK (J 203) t rk) = 4) := by
      rintro ⟨-, q⟩
      have := tK_lt hB (k := rk) (by intro q2; rw [q2] at q; exact lo_400 4 (by decide) q)
      omega
    rw [px_lp_n eK] at hq
    have hS : mm_Ci g zX12_signHere (d - 1) [.ref 200, .int 7, .int 7] sh_S (pz J p (tq (J 203) t rk) (fb rb) bs br ns N (CS ++ rc)) (-1) (pz J p (tq (J 203) t rk) (fb rb) bs br ns N (CS ++ rc)) := by
      have h := cm_sign4 (g := g) (J := J) (d := d - 1) (p := p) (fl := fb rb) (bs := bs) (br := br) (ns := ns) (N := N) (CS := CS ++ rc) ht ht96 (tq_good (J 203) t rk) (fb_le _) (by omega)
      cases rb with
      | false => rw [if_neg (by decide)] at h; exact h
      | true => rw [if_pos (by decide), sh_lo hB (by decide), if_neg (fun q => eK ⟨rfl, q⟩)] at h; exact h
    refine mm_aload_n 0 dX12_term_4 rfl rfl ?_
    refine mm_bipush (v := 7) dX12_term_5 rfl ?_
    refine mm_bipush (v := 7) dX12_term_7 rfl ?_
    refine mm_cV2i (dz := d - 1) dX12_term_9 rfl mzX12_signHere ml_X12_205 imX12_signHere (by omega) so_200 ⟨rfl, rfl⟩ hS (Nat.le_of_ble_eq_true rfl) ⟨Nat.le_refl _, Nat.le_refl _⟩ ?_
    refine mm_if_lt (tgt := 33) dX12_term_12 (by decide) (fun _ => ?_) (fun q => absurd (by decide) q)
    refine mm_vret dX12_term_33 rfl ⟨Nat.le_refl _, Nat.le_refl _⟩ ?_
    exact hq
  | succ m ih =>
    intro rb rk rc hm hk hl hq
    by_cases eK : rb = true ∧ lo (tK (J 203) t rk) = 4
    · obtain ⟨rfl, eL⟩ := eK
      have hs7 := si_le (tK (J 203) t rk)
      have hlt := tK_lt hB (k := rk) (by intro q2; rw [q2] at eL; exact lo_400 4 (by decide) eL)
      obtain ⟨h1, h2, h3, h4⟩ := hok (rk + 1)
      have h5 := px_le_t hB (hok (rk + 1)) (by omega)
      rw [px_lp, if_pos ⟨rfl, eL⟩] at hq
      have hS : mm_Ci g zX12_signHere (d - 1) [.ref 200, .int 7, .int 7] sh_S (pz J p (tq (J 203) t rk) 0 bs br ns N (CS ++ rc)) (nI (si (tK (J 203) t rk))) (pz J p (tq (J 203) t rk) 0 bs br ns N (CS ++ rc)) := by
        have h := cm_sign4 (g := g) (J := J) (d := d - 1) (p := p) (fl := 0) (bs := bs) (br := br) (ns := ns) (N := N) (CS := CS ++ rc) ht ht96 (tq_good (J 203) t rk) (by decide) (by omega)
        rw [if_pos rfl, sh_lo hB (by decide), if_pos eL] at h
        exact h
      refine mm_mem (J := pz J p (tq (J 203) t rk) 0 bs br ns N (CS ++ rc)) rfl ?_
      refine mm_aload_n 0 dX12_term_4 rfl rfl ?_
      refine mm_bipush (v := 7) dX12_term_5 rfl ?_
      refine mm_bipush (v := 7) dX12_term_7 rfl ?_
      refine mm_cV2i (dz := d - 1) dX12_term_9 rfl mzX12_signHere ml_X12_205 imX12_signHere (by omega) so_200 ⟨rfl, rfl⟩ hS (Nat.le_of_ble_eq_true rfl) ⟨Nat.le_refl _, Nat.le_refl _⟩ ?_
      refine mm_if_ltN (si (tK (J 203) t rk)) (tgt := 33) dX12_term_12 (by decide) (by omega) ?_
      refine mm_aload_n 0 dX12_term_15 rfl rfl ?_
      refine mm_cV0v (dz := d - 1) dX12_term_16 rfl mzX12_next ml_X12_171 imX12_next (by omega) so_200 ⟨rfl, rfl⟩ (cm_nextQ (q := tq (J 203) t rk) ht ht96 (tq_good (J 203) t rk) (by omega)) (Nat.le_of_ble_eq_true rfl) ⟨Nat.le_refl _, Nat.le_refl _⟩ ?_
      refine mm_aload_n 0 dX12_term_19 rfl rfl ?_
      refine mm_at (pc' := 20) rfl ?_
      refine mm_cV0v (dz := d - 1) dX12_term_20 rfl mzX12_part ml_X12_193 imX12_part (by omega) so_200 ⟨rfl, rfl⟩ (hN (rk + 1) (CS ++ rc) (d - 1) (by omega) (by omega) (by omega)) (Nat.le_of_ble_eq_true rfl) ⟨Nat.le_refl _, Nat.le_refl _⟩ ?_
      refine mm_aload_n 0 dX12_term_23 rfl rfl ?_
      refine mm_sipush (v := 20007) dX12_term_24 rfl ?_
      refine mm_cV1v (dz := d - 1) dX12_term_27 rfl mzX12_code ml_X12_182 imX12_code (by omega) so_200 ⟨rfl, rfl⟩ (cm_code hrd hp (by simp only [List.length_append] at hl h3 ⊢; omega)) (Nat.le_of_ble_eq_true rfl) ⟨Nat.le_refl _, Nat.le_refl _⟩ ?_
      refine mm_goto (tgt := 4) dX12_term_30 (by decide) ?_
      have hh := ih (nxt (rk + 1)).1 (nxt (rk + 1)).2.1 (rc ++ (nxt (rk + 1)).2.2 ++ [20000 + si (tK (J 203) t rk)]) (by omega) h5 (by simp only [List.length_append, List.length_cons, List.length_nil] at hl ⊢; omega) hq
      rw [si_4 eL, ← List.append_assoc, ← List.append_assoc] at hh
      exact hh
    · rw [px_lp_n eK] at hq
      have hS : mm_Ci g zX12_signHere (d - 1) [.ref 200, .int 7, .int 7] sh_S (pz J p (tq (J 203) t rk) (fb rb) bs br ns N (CS ++ rc)) (-1) (pz J p (tq (J 203) t rk) (fb rb) bs br ns N (CS ++ rc)) := by
        have h := cm_sign4 (g := g) (J := J) (d := d - 1) (p := p) (fl := fb rb) (bs := bs) (br := br) (ns := ns) (N := N) (CS := CS ++ rc) ht ht96 (tq_good (J 203) t rk) (fb_le _) (by omega)
        cases rb with
        | false => rw [if_neg (by decide)] at h; exact h
        | true => rw [if_pos (by decide), sh_lo hB (by decide), if_neg (fun q => eK ⟨rfl, q⟩)] at h; exact h
      refine mm_aload_n 0 dX12_term_4 rfl rfl ?_
      refine mm_bipush (v := 7) dX12_term_5 rfl ?_
      refine mm_bipush (v := 7) dX12_term_7 rfl ?_
      refine mm_cV2i (dz := d - 1) dX12_term_9 rfl mzX12_signHere ml_X12_205 imX12_signHere (by omega) so_200 ⟨rfl, rfl⟩ hS (Nat.le_of_ble_eq_true rfl) ⟨Nat.le_refl _, Nat.le_refl _⟩ ?_
      refine mm_if_lt (tgt := 33) dX12_term_12 (by decide) (fun _ => ?_) (fun q => absurd (by decide) q)
      refine mm_vret dX12_term_33 rfl ⟨Nat.le_refl _, Nat.le_refl _⟩ ?_
      exact hq
