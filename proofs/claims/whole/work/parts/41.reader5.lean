/-! THE REFERENCE'S READER: expressions, level by level -/
theorem wh_in {T : Nat → Int32} {q : Nat × Nat × Nat} : ∀ k, k ≤ 11 → wh T q k = -1 ∨ ∃ j, j < 11 ∧ wh T q k = nI j := by
  intro k
  induction k with
  | zero => intro _; exact Or.inl rfl
  | succ k ih =>
    intro hk
    unfold wh
    split
    · exact Or.inr ⟨k, by omega, rfl⟩
    · exact ih (by omega)
theorem tkd_in {T : Nat → Int32} {t : Nat} (hB : tp_ok T t) {q : Nat × Nat × Nat} (hq : tq_ok T t q) : (q.2.2 = 0 ∧ tkd T q = 400) ∨ (q.2.2 = 2 ∧ tkd T q = 401) ∨ (q.2.2 = 3 ∧ tkd T q < 256) ∨ (q.2.2 = 1 ∧ q.2.1 - q.1 = 1 ∧ 0 ≤ nm_ix (vv (T q.1)) ∧ tkd T q = 402) ∨ (q.2.2 = 1 ∧ ¬ (q.2.1 - q.1 = 1 ∧ 0 ≤ nm_ix (vv (T q.1))) ∧ ∃ j, j < 11 ∧ wh T q 11 = nI j ∧ tkd T q = 300 + j) ∨ (q.2.2 = 1 ∧ ¬ (q.2.1 - q.1 = 1 ∧ 0 ≤ nm_ix (vv (T q.1))) ∧ wh T q 11 = -1 ∧ wd T q 11 = true ∧ tkd T q = 403) ∨ ((q.2.2 = 1 → ¬ (q.2.1 - q.1 = 1 ∧ 0 ≤ nm_ix (vv (T q.1))) ∧ wh T q 11 = -1 ∧ ¬ wd T q 11 = true) ∧ (q.2.2 = 1 ∨ q.2.2 = 4) ∧ tkd T q = 404) := by
  obtain ⟨h1, h2, h3, h4, h5, h6⟩ := hq
  unfold tkd
  by_cases c0 : q.2.2 = 0
  · rw [if_pos c0]; exact Or.inl ⟨c0, rfl⟩
  rw [if_neg c0]
  by_cases c2 : q.2.2 = 2
  · rw [if_pos c2]; exact Or.inr (Or.inl ⟨c2, rfl⟩)
  rw [if_neg c2]
  by_cases c3 : q.2.2 = 3
  · rw [if_pos c3]
    obtain ⟨b, hb, eb⟩ := hB.2 q.1 (by have := h5 c0; omega)
    rw [eb, vv_nI (by omega)]; exact Or.inr (Or.inr (Or.inl ⟨c3, hb⟩))
  rw [if_neg c3]
  by_cases c1 : q.2.2 = 1
  · rw [if_pos c1]
    by_cases c5 : q.2.1 - q.1 = 1 ∧ 0 ≤ nm_ix (vv (T q.1))
    · rw [if_pos c5]; exact Or.inr (Or.inr (Or.inr (Or.inl ⟨c1, c5.1, c5.2, rfl⟩)))
    · rw [if_neg c5]
      rcases wh_in (T := T) (q := q) 11 (Nat.le_refl _) with e | ⟨j, hj, e⟩
      · rw [e, if_neg (by decide)]
        by_cases c6 : wd T q 11 = true
        · rw [if_pos c6]; exact Or.inr (Or.inr (Or.inr (Or.inr (Or.inr (Or.inl ⟨c1, c5, rfl, c6, rfl⟩)))))
        · rw [if_neg c6]; exact Or.inr (Or.inr (Or.inr (Or.inr (Or.inr (Or.inr ⟨fun _ => ⟨c5, rfl, c6⟩, Or.inl c1, rfl⟩)))))
      · rw [e, if_pos (nI_pos' (by omega)), vv_nI (by omega)]
        exact Or.inr (Or.inr (Or.inr (Or.inr (Or.inl ⟨c1, c5, j, hj, rfl, rfl⟩))))
  · rw [if_neg c1]
    exact Or.inr (Or.inr (Or.inr (Or.inr (Or.inr (Or.inr ⟨fun h => absurd h c1, Or.inr (by omega), rfl⟩)))))
theorem tK_401 {T : Nat → Int32} {t k : Nat} (hB : tp_ok T t) : tK T t k = 401 ↔ (tq T t k).2.2 = 2 := by
  show tkd T (tq T t k) = 401 ↔ _
  rcases tkd_in hB (tq_good T t k) with ⟨a, b⟩ | ⟨a, b⟩ | ⟨a, b⟩ | ⟨a, -, -, b⟩ | ⟨a, -, j, hj, -, b⟩ | ⟨a, -, -, -, b⟩ | ⟨-, a, b⟩ <;> omega
theorem tK_402 {T : Nat → Int32} {t k : Nat} (hB : tp_ok T t) : tK T t k = 402 ↔ ((tq T t k).2.2 = 1 ∧ (tq T t k).2.1 - (tq T t k).1 = 1 ∧ 0 ≤ nm_ix (vv (T (tq T t k).1))) := by
  show tkd T (tq T t k) = 402 ↔ _
  rcases tkd_in hB (tq_good T t k) with ⟨a, b⟩ | ⟨a, b⟩ | ⟨a, b⟩ | ⟨a, a2, a3, b⟩ | ⟨a, a2, j, hj, -, b⟩ | ⟨a, a2, -, -, b⟩ | ⟨a2, a, b⟩
  · exact ⟨fun h => by omega, fun h => by omega⟩
  · exact ⟨fun h => by omega, fun h => by omega⟩
  · exact ⟨fun h => by omega, fun h => by omega⟩
  · exact ⟨fun _ => ⟨a, a2, a3⟩, fun _ => b⟩
  · exact ⟨fun h => by omega, fun h => absurd ⟨h.2.1, h.2.2⟩ a2⟩
  · exact ⟨fun h => by omega, fun h => absurd ⟨h.2.1, h.2.2⟩ a2⟩
  · exact ⟨fun h => by omega, fun h => absurd ⟨h.2.1, h.2.2⟩ (a2 h.1).1⟩
set_option maxRecDepth 100000 in
set_option maxHeartbeats 600000 in
theorem cm_lv0 {g : mm_G} {J : mm_I}  {p t : Nat} (ht : J 200 4 = nI t) (ht96 : t ≤ 96) (hB : tp_ok (J 203) t) (hrd : J 200 18 = nI p) (hp : p < 6) {bs br ns : Nat} {N : Nat → Int32} {nxt : Nat → Bool × Nat × List Nat} (hok : ∀ k, px_ok (tK (J 203) t) k (nxt k)) {dd : Nat} (hd4 : 5 ≤ dd) (hN : (∀ (k : Nat) (CS : List Nat) (d : Nat), dd ≤ d → CS.length ≤ k → k ≤ t → mm_Cv g zX12_both d [.ref 200] sh_S (pz J p (tq (J 203) t k) 0 bs br ns N CS) (pz J p (tq (J 203) t ((nxt k).2.1)) (fb (nxt k).1) bs br ns N (CS ++ (nxt k).2.2)))) : (∀ (k : Nat) (CS : List Nat) (d : Nat), dd + 1 ≤ d → CS.length ≤ k → k ≤ t → mm_Cv g zX12_either d [.ref 200] sh_S (pz J p (tq (J 203) t k) 0 bs br ns N CS) (pz J p (tq (J 203) t ((px_lp (tK (J 203) t) nxt 0 96 (nxt k)).2.1)) (fb (px_lp (tK (J 203) t) nxt 0 96 (nxt k)).1) bs br ns N (CS ++ (px_lp (tK (J 203) t) nxt 0 96 (nxt k)).2.2))) := by
  intro k CS d hd hl hk
  obtain ⟨h1, h2, h3, h4⟩ := hok k
  have h5 := px_le_t hB (hok k) hk
  refine mm_Cv_of (fun Q hq => ?_)
  refine mm_begin (ls := [(0, .ref 200)]) (Nat.le_of_ble_eq_true rfl) rfl rfl ?_
  refine mm_aload_n 0 dX12_either_0 rfl rfl ?_
  refine mm_cV0v (dz := d - 1) dX12_either_1 rfl mzX12_both ml_X12_217 imX12_both (by omega) so_200 ⟨rfl, rfl⟩ (hN k CS (d - 1) (by omega) hl hk) (Nat.le_of_ble_eq_true rfl) ⟨Nat.le_refl _, Nat.le_refl _⟩ ?_
  exact lm_lv0 ht ht96 hB hrd hp hok hd4 hN hd 96 (nxt k).1 (nxt k).2.1 (nxt k).2.2 (by omega) h5 (by simp only [List.length_append]; omega) hq
set_option maxRecDepth 100000 in
set_option maxHeartbeats 600000 in
theorem cm_lv1 {g : mm_G} {J : mm_I}  {p t : Nat} (ht : J 200 4 = nI t) (ht96 : t ≤ 96) (hB : tp_ok (J 203) t) (hrd : J 200 18 = nI p) (hp : p < 6) {bs br ns : Nat} {N : Nat → Int32} {nxt : Nat → Bool × Nat × List Nat} (hok : ∀ k, px_ok (tK (J 203) t) k (nxt k)) {dd : Nat} (hd4 : 5 ≤ dd) (hN : (∀ (k : Nat) (CS : List Nat) (d : Nat), dd ≤ d → CS.length ≤ k → k ≤ t → mm_Cv g zX12_test d [.ref 200] sh_S (pz J p (tq (J 203) t k) 0 bs br ns N CS) (pz J p (tq (J 203) t ((nxt k).2.1)) (fb (nxt k).1) bs br ns N (CS ++ (nxt k).2.2)))) : (∀ (k : Nat) (CS : List Nat) (d : Nat), dd + 1 ≤ d → CS.length ≤ k → k ≤ t → mm_Cv g zX12_both d [.ref 200] sh_S (pz J p (tq (J 203) t k) 0 bs br ns N CS) (pz J p (tq (J 203) t ((px_lp (tK (J 203) t) nxt 1 96 (nxt k)).2.1)) (fb (px_lp (tK (J 203) t) nxt 1 96 (nxt k)).1) bs br ns N (CS ++ (px_lp (tK (J 203) t) nxt 1 96 (nxt k)).2.2))) := by
  intro k CS d hd hl hk
  obtain ⟨h1, h2, h3, h4⟩ := hok k
  have h5 := px_le_t hB (hok k) hk
  refine mm_Cv_of (fun Q hq => ?_)
  refine mm_begin (ls := [(0, .ref 200)]) (Nat.le_of_ble_eq_true rfl) rfl rfl ?_
  refine mm_aload_n 0 dX12_both_0 rfl rfl ?_
  refine mm_cV0v (dz := d - 1) dX12_both_1 rfl mzX12_test ml_X12_214 imX12_test (by omega) so_200 ⟨rfl, rfl⟩ (hN k CS (d - 1) (by omega) hl hk) (Nat.le_of_ble_eq_true rfl) ⟨Nat.le_refl _, Nat.le_refl _⟩ ?_
  exact lm_lv1 ht ht96 hB hrd hp hok hd4 hN hd 96 (nxt k).1 (nxt k).2.1 (nxt k).2.2 (by omega) h5 (by simp only [List.length_append]; omega) hq
set_option maxRecDepth 100000 in
set_option maxHeartbeats 600000 in
theorem cm_lv4 {g : mm_G} {J : mm_I}  {p t : Nat} (ht : J 200 4 = nI t) (ht96 : t ≤ 96) (hB : tp_ok (J 203) t) (hrd : J 200 18 = nI p) (hp : p < 6) {bs br ns : Nat} {N : Nat → Int32} {nxt : Nat → Bool × Nat × List Nat} (hok : ∀ k, px_ok (tK (J 203) t) k (nxt k)) {dd : Nat} (hd4 : 5 ≤ dd) (hN : (∀ (k : Nat) (CS : List Nat) (d : Nat), dd ≤ d → CS.length ≤ k → k ≤ t → mm_Cv g zX12_part d [.ref 200] sh_S (pz J p (tq (J 203) t k) 0 bs br ns N CS) (pz J p (tq (J 203) t ((nxt k).2.1)) (fb (nxt k).1) bs br ns N (CS ++ (nxt k).2.2)))) : (∀ (k : Nat) (CS : List Nat) (d : Nat), dd + 1 ≤ d → CS.length ≤ k → k ≤ t → mm_Cv g zX12_term d [.ref 200] sh_S (pz J p (tq (J 203) t k) 0 bs br ns N CS) (pz J p (tq (J 203) t ((px_lp (tK (J 203) t) nxt 4 96 (nxt k)).2.1)) (fb (px_lp (tK (J 203) t) nxt 4 96 (nxt k)).1) bs br ns N (CS ++ (px_lp (tK (J 203) t) nxt 4 96 (nxt k)).2.2))) := by
  intro k CS d hd hl hk
  obtain ⟨h1, h2, h3, h4⟩ := hok k
  have h5 := px_le_t hB (hok k) hk
  refine mm_Cv_of (fun Q hq => ?_)
  refine mm_begin (ls := [(0, .ref 200)]) (Nat.le_of_ble_eq_true rfl) rfl rfl ?_
  refine mm_aload_n 0 dX12_term_0 rfl rfl ?_
  refine mm_cV0v (dz := d - 1) dX12_term_1 rfl mzX12_part ml_X12_193 imX12_part (by omega) so_200 ⟨rfl, rfl⟩ (hN k CS (d - 1) (by omega) hl hk) (Nat.le_of_ble_eq_true rfl) ⟨Nat.le_refl _, Nat.le_refl _⟩ ?_
  exact lm_lv4 ht ht96 hB hrd hp hok hd4 hN hd 96 (nxt k).1 (nxt k).2.1 (nxt k).2.2 (by omega) h5 (by simp only [List.length_append]; omega) hq
set_option maxRecDepth 100000 in
set_option maxHeartbeats 600000 in
theorem lm_lv3 {g : mm_G} {J : mm_I} {d : Nat} {p t : Nat} (ht : J 200 4 = nI t) (ht96 : t ≤ 96) (hB : tp_ok (J 203) t) (hrd : J 200 18 = nI p) (hp : p < 6) {bs br ns : Nat} {N : Nat → Int32} {Q : Option Value → mm_Sh → mm_I → Prop} {nxt : Nat → Bool × Nat × List Nat} (hok : ∀ k, px_ok (tK (J 203) t) k (nxt k)) {dd : Nat} (hd4 : 5 ≤ dd) (hN : (∀ (k : Nat) (CS : List Nat) (d : Nat), dd ≤ d → CS.length ≤ k → k ≤ t → mm_Cv g zX12_term d [.ref 200] sh_S (pz J p (tq (J 203) t k) 0 bs br ns N CS) (pz J p (tq (J 203) t ((nxt k).2.1)) (fb (nxt k).1) bs br ns N (CS ++ (nxt k).2.2)))) {CS : List Nat} (hd : dd + 1 ≤ d) : ∀ (m : Nat) (rb : Bool) (rk : Nat) (rc : List Nat), t ≤ rk + m → rk ≤ t → (CS ++ rc).length ≤ rk → Q none sh_S (pz J p (tq (J 203) t (px_lp (tK (J 203) t) nxt 3 m (rb, rk, rc)).2.1) (fb (px_lp (tK (J 203) t) nxt 3 m (rb, rk, rc)).1) bs br ns N (CS ++ (px_lp (tK (J 203) t) nxt 3 m (rb, rk, rc)).2.2)) → mm_Ex g zX12_sum d (0, 0) (0, 0) sh_S (pz J p (tq (J 203) t rk) (fb rb) bs br ns N (CS ++ rc)) 12 [(1, .int (if fb rb = 0 then sh_ (J 203) (tq (J 203) t rk) 3 else -1)), (0, .ref 200)] [] Q := by
  intro m
  induction m with
  | zero =>
    intro rb rk rc hm hk hl hq
    have eK : ¬ (rb = true ∧ lo (tK (J 203) t rk) = 3) := by
      rintro ⟨-, q⟩
      have := tK_lt hB (k := rk) (by intro q2; rw [q2] at q; exact lo_400 3 (by decide) q)
      omega
    rw [px_lp_n eK] at hq
    have hv : (if fb rb = 0 then sh_ (J 203) (tq (J 203) t rk) 3 else -1) = -1 := by
      cases rb with
      | false => rw [if_neg (by decide)]
      | true => rw [if_pos (by decide), sh_lo hB (by decide), if_neg (fun q => eK ⟨rfl, q⟩)]
    rw [hv]
    refine mm_iload_n 0 dX12_sum_12 rfl rfl ?_
    refine mm_if_lt (tgt := 44) dX12_sum_13 (by decide) (fun _ => ?_) (fun q => absurd (by decide) q)
    refine mm_vret dX12_sum_44 rfl ⟨Nat.le_refl _, Nat.le_refl _⟩ ?_
    exact hq
  | succ m ih =>
    intro rb rk rc hm hk hl hq
    by_cases eK : rb = true ∧ lo (tK (J 203) t rk) = 3
    · obtain ⟨rfl, eL⟩ := eK
      have hs7 := si_le (tK (J 203) t rk)
      have hlt := tK_lt hB (k := rk) (by intro q2; rw [q2] at eL; exact lo_400 3 (by decide) eL)
      obtain ⟨h1, h2, h3, h4⟩ := hok (rk + 1)
      have h5 := px_le_t hB (hok (rk + 1)) (by omega)
      rw [px_lp, if_pos ⟨rfl, eL⟩] at hq
      have hv : (if fb true = 0 then sh_ (J 203) (tq (J 203) t rk) 3 else -1) = nI (si (tK (J 203) t rk)) := by rw [if_pos (by decide), sh_lo hB (by decide), if_pos eL]
      rw [hv]
      refine mm_mem (J := pz J p (tq (J 203) t rk) 0 bs br ns N (CS ++ rc)) rfl ?_
      refine mm_iload_n 0 dX12_sum_12 rfl rfl ?_
      refine mm_if_ltN (si (tK (J 203) t rk)) (tgt := 44) dX12_sum_13 (by decide) (by omega) ?_
      refine mm_aload_n 1 dX12_sum_16 rfl rfl ?_
      refine mm_cV0v (dz := d - 1) dX12_sum_17 rfl mzX12_next ml_X12_171 imX12_next (by omega) so_200 ⟨rfl, rfl⟩ (cm_nextQ (q := tq (J 203) t rk) ht ht96 (tq_good (J 203) t rk) (by omega)) (Nat.le_of_ble_eq_true rfl) ⟨Nat.le_refl _, Nat.le_refl _⟩ ?_
      refine mm_aload_n 1 dX12_sum_20 rfl rfl ?_
      refine mm_cV0v (dz := d - 1) dX12_sum_21 rfl mzX12_term ml_X12_208 imX12_term (by omega) so_200 ⟨rfl, rfl⟩ (hN (rk + 1) (CS ++ rc) (d - 1) (by omega) (by omega) (by omega)) (Nat.le_of_ble_eq_true rfl) ⟨Nat.le_refl _, Nat.le_refl _⟩ ?_
      refine mm_aload_n 1 dX12_sum_24 rfl rfl ?_
      refine mm_sipush (v := 20000) dX12_sum_25 rfl ?_
      refine mm_at (pc' := 28) rfl ?_
      refine mm_iload_n 0 dX12_sum_28 rfl rfl ?_
      refine mm_iaddN (20000) (si (tK (J 203) t rk)) dX12_sum_29 ?_
      refine mm_cV1v (dz := d - 1) dX12_sum_30 rfl mzX12_code ml_X12_182 imX12_code (by omega) so_200 ⟨rfl, rfl⟩ (cm_code hrd hp (by simp only [List.length_append] at hl h3 ⊢; omega)) (Nat.le_of_ble_eq_true rfl) ⟨Nat.le_refl _, Nat.le_refl _⟩ ?_
      refine mm_aload_n 1 dX12_sum_33 rfl rfl ?_
      refine mm_iconst (v := 5) dX12_sum_34 rfl ?_
      refine mm_bipush (v := 6) dX12_sum_35 rfl ?_
      refine mm_cV2i (dz := d - 1) dX12_sum_37 rfl mzX12_signHere ml_X12_205 imX12_signHere (by omega) so_200 ⟨rfl, rfl⟩ (cm_sign3 ht ht96 (tq_good (J 203) t _) (fb_le _) (by omega)) (Nat.le_of_ble_eq_true rfl) ⟨Nat.le_refl _, Nat.le_refl _⟩ ?_
      refine mm_istore_n (ls' := [(1, .int (if fb (nxt (rk + 1)).1 = 0 then sh_ (J 203) (tq (J 203) t (nxt (rk + 1)).2.1) 3 else -1)), (0, .ref 200)]) dX12_sum_40 rfl (by decide) rfl ?_
      refine mm_at (pc' := 41) rfl ?_
      refine mm_goto (tgt := 12) dX12_sum_41 (by decide) ?_
      have hh := ih (nxt (rk + 1)).1 (nxt (rk + 1)).2.1 (rc ++ (nxt (rk + 1)).2.2 ++ [20000 + si (tK (J 203) t rk)]) (by omega) h5 (by simp only [List.length_append, List.length_cons, List.length_nil] at hl ⊢; omega) hq
      rw [← List.append_assoc, ← List.append_assoc] at hh
      exact hh
    · rw [px_lp_n eK] at hq
      have hv : (if fb rb = 0 then sh_ (J 203) (tq (J 203) t rk) 3 else -1) = -1 := by
        cases rb with
        | false => rw [if_neg (by decide)]
        | true => rw [if_pos (by decide), sh_lo hB (by decide), if_neg (fun q => eK ⟨rfl, q⟩)]
      rw [hv]
      refine mm_iload_n 0 dX12_sum_12 rfl rfl ?_
      refine mm_if_lt (tgt := 44) dX12_sum_13 (by decide) (fun _ => ?_) (fun q => absurd (by decide) q)
      refine mm_vret dX12_sum_44 rfl ⟨Nat.le_refl _, Nat.le_refl _⟩ ?_
      exact hq
set_option maxRecDepth 100000 in
set_option maxHeartbeats 600000 in
theorem cm_lv3 {g : mm_G} {J : mm_I}  {p t : Nat} (ht : J 200 4 = nI t) (ht96 : t ≤ 96) (hB : tp_ok (J 203) t) (hrd : J 200 18 = nI p) (hp : p < 6) {bs br ns : Nat} {N : Nat → Int32} {nxt : Nat → Bool × Nat × List Nat} (hok : ∀ k, px_ok (tK (J 203) t) k (nxt k)) {dd : Nat} (hd4 : 5 ≤ dd) (hN : (∀ (k : Nat) (CS : List Nat) (d : Nat), dd ≤ d → CS.length ≤ k → k ≤ t → mm_Cv g zX12_term d [.ref 200] sh_S (pz J p (tq (J 203) t k) 0 bs br ns N CS) (pz J p (tq (J 203) t ((nxt k).2.1)) (fb (nxt k).1) bs br ns N (CS ++ (nxt k).2.2)))) : (∀ (k : Nat) (CS : List Nat) (d : Nat), dd + 1 ≤ d → CS.length ≤ k → k ≤ t → mm_Cv g zX12_sum d [.ref 200] sh_S (pz J p (tq (J 203) t k) 0 bs br ns N CS) (pz J p (tq (J 203) t ((px_lp (tK (J 203) t) nxt 3 96 (nxt k)).2.1)) (fb (px_lp (tK (J 203) t) nxt 3 96 (nxt k)).1) bs br ns N (CS ++ (px_lp (tK (J 203) t) nxt 3 96 (nxt k)).2.2))) := by
  intro k CS d hd hl hk
  obtain ⟨h1, h2, h3, h4⟩ := hok k
  have h5 := px_le_t hB (hok k) hk
  refine mm_Cv_of (fun Q hq => ?_)
  refine mm_begin (ls := [(0, .ref 200)]) (Nat.le_of_ble_eq_true rfl) rfl rfl ?_
  refine mm_aload_n 0 dX12_sum_0 rfl rfl ?_
  refine mm_cV0v (dz := d - 1) dX12_sum_1 rfl mzX12_term ml_X12_208 imX12_term (by omega) so_200 ⟨rfl, rfl⟩ (hN k CS (d - 1) (by omega) hl hk) (Nat.le_of_ble_eq_true rfl) ⟨Nat.le_refl _, Nat.le_refl _⟩ ?_
  refine mm_aload_n 0 dX12_sum_4 rfl rfl ?_
  refine mm_iconst (v := 5) dX12_sum_5 rfl ?_
  refine mm_bipush (v := 6) dX12_sum_6 rfl ?_
  refine mm_cV2i (dz := d - 1) dX12_sum_8 rfl mzX12_signHere ml_X12_205 imX12_signHere (by omega) so_200 ⟨rfl, rfl⟩ (cm_sign3 ht ht96 (tq_good (J 203) t _) (fb_le _) (by omega)) (Nat.le_of_ble_eq_true rfl) ⟨Nat.le_refl _, Nat.le_refl _⟩ ?_
  refine mm_istore_n (ls' := [(1, .int (if fb (nxt k).1 = 0 then sh_ (J 203) (tq (J 203) t (nxt k).2.1) 3 else -1)), (0, .ref 200)]) dX12_sum_11 rfl (by decide) rfl ?_
  exact lm_lv3 ht ht96 hB hrd hp hok hd4 hN hd 96 (nxt k).1 (nxt k).2.1 (nxt k).2.2 (by omega) h5 (by simp only [List.length_append]; omega) hq
set_option maxRecDepth 100000 in
set_option maxHeartbeats 600000 in
theorem cm_lv2 {g : mm_G} {J : mm_I}  {p t : Nat} (ht : J 200 4 = nI t) (ht96 : t ≤ 96) (hB : tp_ok (J 203) t) (hrd : J 200 18 = nI p) (hp : p < 6) {bs br ns : Nat} {N : Nat → Int32} {nxt : Nat → Bool × Nat × List Nat} (hok : ∀ k, px_ok (tK (J 203) t) k (nxt k)) {dd : Nat} (hd4 : 5 ≤ dd) (hN : (∀ (k : Nat) (CS : List Nat) (d : Nat), dd ≤ d → CS.length ≤ k → k ≤ t → mm_Cv g zX12_sum d [.ref 200] sh_S (pz J p (tq (J 203) t k) 0 bs br ns N CS) (pz J p (tq (J 203) t ((nxt k).2.1)) (fb (nxt k).1) bs br ns N (CS ++ (nxt k).2.2)))) : (∀ (k : Nat) (CS : List Nat) (d : Nat), dd + 1 ≤ d → CS.length ≤ k → k ≤ t → mm_Cv g zX12_test d [.ref 200] sh_S (pz J p (tq (J 203) t k) 0 bs br ns N CS) (pz J p (tq (J 203) t ((px_lp (tK (J 203) t) nxt 2 1 (nxt k)).2.1)) (fb (px_lp (tK (J 203) t) nxt 2 1 (nxt k)).1) bs br ns N (CS ++ (px_lp (tK (J 203) t) nxt 2 1 (nxt k)).2.2))) := by
  intro k CS d hd hl hk
  obtain ⟨h1, h2, h3, h4⟩ := hok k
  have h5 := px_le_t hB (hok k) hk
  refine mm_Cv_of (fun Q hq => ?_)
  refine mm_begin (ls := [(0, .ref 200)]) (Nat.le_of_ble_eq_true rfl) rfl rfl ?_
  by_cases eK : (nxt k).1 = true ∧ lo (tK (J 203) t (nxt k).2.1) = 2
  · have hs7 := si_le (tK (J 203) t (nxt k).2.1)
    have hlt := tK_lt hB (k := (nxt k).2.1) (by intro q2; have := eK.2; rw [q2] at this; exact lo_400 2 (by decide) this)
    obtain ⟨g1, g2, g3, g4⟩ := hok ((nxt k).2.1 + 1)
    have g5 := px_le_t hB (hok ((nxt k).2.1 + 1)) (by omega)
    rw [px_lp, if_pos eK, px_lp] at hq
    have hv : (if fb (nxt k).1 = 0 then sh_ (J 203) (tq (J 203) t (nxt k).2.1) 2 else -1) = nI (si (tK (J 203) t (nxt k).2.1)) := by rw [eK.1, if_pos (by decide), sh_lo hB (by decide), if_pos eK.2]
    have hS : mm_Ci g zX12_signHere (d - 1) [.ref 200, .int 2, .int 4] sh_S (pz J p (tq (J 203) t ((nxt k).2.1)) (fb (nxt k).1) bs br ns N (CS ++ (nxt k).2.2)) (nI (si (tK (J 203) t (nxt k).2.1))) (pz J p (tq (J 203) t ((nxt k).2.1)) (fb (nxt k).1) bs br ns N (CS ++ (nxt k).2.2)) := by
      have h := cm_sign2 (g := g) (J := J) (d := d - 1) (p := p) (fl := fb (nxt k).1) (bs := bs) (br := br) (ns := ns) (N := N) (CS := CS ++ (nxt k).2.2) ht ht96 (tq_good (J 203) t (nxt k).2.1) (fb_le _) (by omega)
      rw [hv] at h
      exact h
    refine mm_aload_n 0 dX12_test_0 rfl rfl ?_
    refine mm_cV0v (dz := d - 1) dX12_test_1 rfl mzX12_sum ml_X12_211 imX12_sum (by omega) so_200 ⟨rfl, rfl⟩ (hN k CS (d - 1) (by omega) hl hk) (Nat.le_of_ble_eq_true rfl) ⟨Nat.le_refl _, Nat.le_refl _⟩ ?_
    refine mm_aload_n 0 dX12_test_4 rfl rfl ?_
    refine mm_iconst (v := 2) dX12_test_5 rfl ?_
    refine mm_iconst (v := 4) dX12_test_6 rfl ?_
    refine mm_cV2i (dz := d - 1) dX12_test_7 rfl mzX12_signHere ml_X12_205 imX12_signHere (by omega) so_200 ⟨rfl, rfl⟩ hS (Nat.le_of_ble_eq_true rfl) ⟨Nat.le_refl _, Nat.le_refl _⟩ ?_
    refine mm_istore_n (ls' := [(1, .int (nI (si (tK (J 203) t (nxt k).2.1)))), (0, .ref 200)]) dX12_test_10 rfl (by decide) rfl ?_
    refine mm_iload_n 0 dX12_test_11 rfl rfl ?_
    refine mm_at (pc' := 12) rfl ?_
    refine mm_if_ltN (si (tK (J 203) t (nxt k).2.1)) (tgt := 32) dX12_test_12 (by decide) (by omega) ?_
    refine mm_aload_n 1 dX12_test_15 rfl rfl ?_
    refine mm_cV0v (dz := d - 1) dX12_test_16 rfl mzX12_next ml_X12_171 imX12_next (by omega) so_200 ⟨rfl, rfl⟩ (show mm_Cv g zX12_next (d - 1) [.ref 200] sh_S (pz J p (tq (J 203) t ((nxt k).2.1)) (fb (nxt k).1) bs br ns N (CS ++ (nxt k).2.2)) (pz J p (tq (J 203) t ((nxt k).2.1 + 1)) 0 bs br ns N (CS ++ (nxt k).2.2)) from by rw [eK.1]; exact cm_nextQ (q := tq (J 203) t (nxt k).2.1) ht ht96 (tq_good (J 203) t (nxt k).2.1) (by omega)) (Nat.le_of_ble_eq_true rfl) ⟨Nat.le_refl _, Nat.le_refl _⟩ ?_
    refine mm_aload_n 1 dX12_test_19 rfl rfl ?_
    refine mm_cV0v (dz := d - 1) dX12_test_20 rfl mzX12_sum ml_X12_211 imX12_sum (by omega) so_200 ⟨rfl, rfl⟩ (hN ((nxt k).2.1 + 1) (CS ++ (nxt k).2.2) (d - 1) (by omega) (by simp only [List.length_append]; omega) (by omega)) (Nat.le_of_ble_eq_true rfl) ⟨Nat.le_refl _, Nat.le_refl _⟩ ?_
    refine mm_aload_n 1 dX12_test_23 rfl rfl ?_
    refine mm_sipush (v := 20000) dX12_test_24 rfl ?_
    refine mm_iload_n 0 dX12_test_27 rfl rfl ?_
    refine mm_at (pc' := 28) rfl ?_
    refine mm_iaddN (20000) (si (tK (J 203) t (nxt k).2.1)) dX12_test_28 ?_
    refine mm_cV1v (dz := d - 1) dX12_test_29 rfl mzX12_code ml_X12_182 imX12_code (by omega) so_200 ⟨rfl, rfl⟩ (cm_code hrd hp (by simp only [List.length_append]; omega)) (Nat.le_of_ble_eq_true rfl) ⟨Nat.le_refl _, Nat.le_refl _⟩ ?_
    refine mm_vret dX12_test_32 rfl ⟨Nat.le_refl _, Nat.le_refl _⟩ ?_
    rw [← List.append_assoc, ← List.append_assoc] at hq
    exact hq
  · rw [px_lp_n eK] at hq
    have hv : (if fb (nxt k).1 = 0 then sh_ (J 203) (tq (J 203) t (nxt k).2.1) 2 else -1) = -1 := by
      cases hb : (nxt k).1 with
      | false => rw [if_neg (by decide)]
      | true => rw [if_pos (by decide), sh_lo hB (by decide), if_neg (fun q => eK ⟨hb, q⟩)]
    have hS : mm_Ci g zX12_signHere (d - 1) [.ref 200, .int 2, .int 4] sh_S (pz J p (tq (J 203) t ((nxt k).2.1)) (fb (nxt k).1) bs br ns N (CS ++ (nxt k).2.2)) (-1) (pz J p (tq (J 203) t ((nxt k).2.1)) (fb (nxt k).1) bs br ns N (CS ++ (nxt k).2.2)) := by
      have h := cm_sign2 (g := g) (J := J) (d := d - 1) (p := p) (fl := fb (nxt k).1) (bs := bs) (br := br) (ns := ns) (N := N) (CS := CS ++ (nxt k).2.2) ht ht96 (tq_good (J 203) t (nxt k).2.1) (fb_le _) (by omega)
      rw [hv] at h
      exact h
    refine mm_aload_n 0 dX12_test_0 rfl rfl ?_
    refine mm_cV0v (dz := d - 1) dX12_test_1 rfl mzX12_sum ml_X12_211 imX12_sum (by omega) so_200 ⟨rfl, rfl⟩ (hN k CS (d - 1) (by omega) hl hk) (Nat.le_of_ble_eq_true rfl) ⟨Nat.le_refl _, Nat.le_refl _⟩ ?_
    refine mm_aload_n 0 dX12_test_4 rfl rfl ?_
    refine mm_iconst (v := 2) dX12_test_5 rfl ?_
    refine mm_iconst (v := 4) dX12_test_6 rfl ?_
    refine mm_cV2i (dz := d - 1) dX12_test_7 rfl mzX12_signHere ml_X12_205 imX12_signHere (by omega) so_200 ⟨rfl, rfl⟩ hS (Nat.le_of_ble_eq_true rfl) ⟨Nat.le_refl _, Nat.le_refl _⟩ ?_
    refine mm_istore_n (ls' := [(1, .int (-1)), (0, .ref 200)]) dX12_test_10 rfl (by decide) rfl ?_
    refine mm_iload_n 0 dX12_test_11 rfl rfl ?_
    refine mm_at (pc' := 12) rfl ?_
    refine mm_if_lt (tgt := 32) dX12_test_12 (by decide) (fun _ => ?_) (fun q => absurd (by decide) q)
    refine mm_vret dX12_test_32 rfl ⟨Nat.le_refl _, Nat.le_refl _⟩ ?_
    exact hq
