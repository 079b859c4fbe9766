/-! What holds of the row all along: ORDERS and REPORTS come -/
theorem iT_e2 {N N' : Nat → Int32} {w h n : Nat} (H : iT N w h n) (hn : n ≤ 5) (e : ∀ y, (y = 0 ∨ y = 1 ∨ y = 4 ∨ y = 12 ∨ (30 ≤ y ∧ y < 110) ∨ (630 ≤ y ∧ y < 830 ∧ (y - 630) % 40 < 6)) → N' y = N y) : iT N' w h n := by
  obtain ⟨hW, hM, hD, hK, ⟨b, b1, b2⟩, ⟨v, v1, v2⟩⟩ := H
  have hcc := mo_W_c hW
  refine ⟨⟨(e 0 (by omega)).trans hW.1, (e 1 (by omega)).trans hW.2.1, hW.2.2⟩, fun i hi => mf1_c (hM i hi) (fun j hj => e _ (by omega)), fun i j h1 h2 => ?_, fun x hx => ?_, ⟨b, b1, (e 4 (by omega)).trans b2⟩, ⟨v, v1, (e 12 (by omega)).trans v2⟩⟩
  · rw [e _ (by omega), e _ (by omega)]; exact hD i j h1 h2
  · rw [e _ (by omega)]; exact hK x hx
theorem mP_e {N N' : Nat → Int32} {n : Nat} (h : mP N n) (hn : n ≤ 5) (h1 : ∀ y, (630 ≤ y ∧ y < 830 ∧ ((y - 630) % 40 = 6 ∨ (y - 630) % 40 = 7)) → N' y = N y) (h2 : ∀ y, 1226 ≤ y → N' y = N y) : mP N' n := fun i hi => mP_c (n := n) (h1 _ (by omega)) (h1 _ (by omega)) h2 (h i hi)
theorem oc_inv {J : mm_I} {w h n o : Nat} (hn : n ≤ 5) (ho : o ≤ 12) (H : iT (J 201) w h n) (hP : mP (J 201) n) (hT : pT (J 201)) (hO : mo_On (J 201) n o) : ∀ i, i ≤ o → iT ((oc J i).1 201) w h n ∧ mP ((oc J i).1 201) n ∧ mo_On ((oc J i).1 201) n (oc J i).2 := by
  have hO5 := On_O hO hn
  intro i
  induction i with
  | zero => intro _; exact ⟨H, hP, fun i hi => absurd hi (Nat.not_lt_zero _)⟩
  | succ i ih =>
    intro hi
    obtain ⟨e1, e2, e3⟩ := ih (by omega)
    have hle := oc_le (J := J) i
    obtain ⟨⟨m, hm, em⟩, p, hp, ep⟩ := hO i (by omega)
    unfold oc
    by_cases c : J 201 (830 + 3 * i + 2) = J 201 7
    · rw [if_pos c, em, ep, vv_nI (by omega), vv_nI (by omega)]
      show iT (op_begin (oc J i).1 m p 201) w h n ∧ mP (op_begin (oc J i).1 m p 201) n ∧ mo_On (op_begin (oc J i).1 m p 201) n (oc J i).2
      refine ⟨iT_e2 e1 hn (fun y hy => begin_n (by omega)), fun j hj => ?_, fun j hj => ?_⟩
      · by_cases e : j = m
        · subst e
          rw [begin_6]
          by_cases z : (oc J i).1 201 (1226 + 418 * p) = 0
          · rw [if_pos z]; exact Or.inl rfl
          · rw [if_neg z]
            obtain ⟨k, k1, k2⟩ := hT p hp
            have ek : ∀ x, 1226 ≤ x → op_begin (oc J i).1 j p 201 x = J 201 x := fun x hx => (begin_n (by omega)).trans (oc_ne hO5 i (by omega) (by omega))
            refine Or.inr ⟨p, k, hp, rfl, (ek _ (by omega)).trans k1, mo_T_eq ek k2, ?_⟩
            rw [begin_7]
            refine Or.inr ⟨0, Nat.pos_of_ne_zero (fun q => z ?_), rfl⟩
            rw [oc_ne hO5 i (by omega) (by omega), k1, q]; rfl
        · exact mP_c (n := n) (begin_n (by omega)) (begin_n (by omega)) (fun x hx => begin_n (by omega)) (e2 j hj)
      · rw [begin_n (by omega), begin_n (by omega)]; exact e3 j hj
    · rw [if_neg c]
      show iT (oc_mv (oc J i).1 (oc J i).2 (J 201 (830 + 3 * i + 0)) (J 201 (830 + 3 * i + 1)) (J 201 (830 + 3 * i + 2)) 201) w h n ∧ mP (oc_mv (oc J i).1 (oc J i).2 (J 201 (830 + 3 * i + 0)) (J 201 (830 + 3 * i + 1)) (J 201 (830 + 3 * i + 2)) 201) n ∧ mo_On (oc_mv (oc J i).1 (oc J i).2 (J 201 (830 + 3 * i + 0)) (J 201 (830 + 3 * i + 1)) (J 201 (830 + 3 * i + 2)) 201) n ((oc J i).2 + 1)
      unfold oc_mv
      rw [up_201, up_201, up_201]
      refine ⟨iT_e2 e1 hn (fun y hy => by rw [upd_n (by omega), upd_n (by omega), upd_n (by omega)]), mP_e e2 hn (fun y hy => by rw [upd_n (by omega), upd_n (by omega), upd_n (by omega)]) (fun y hy => by rw [upd_n (by omega), upd_n (by omega), upd_n (by omega)]), fun j hj => ?_⟩
      by_cases e : j = (oc J i).2
      · subst e
        rw [upd_n (by omega), upd_n (by omega), upd_y, upd_n (by omega), upd_y]
        exact ⟨⟨m, hm, em⟩, p, hp, ep⟩
      · rw [upd_n (by omega), upd_n (by omega), upd_n (by omega), upd_n (by omega), upd_n (by omega), upd_n (by omega)]
        exact e3 j (by omega)
theorem oc_all {J : mm_I} {w h n o : Nat} (hn : n ≤ 5) (ho : o ≤ 12) (H : iT (J 201) w h n) (hP : mP (J 201) n) (hT : pT (J 201)) (hO : mo_On (J 201) n o) : iT (op_oc J o 201) w h n ∧ mP (op_oc J o 201) n ∧ mo_On (op_oc J o 201) n (oc J o).2 ∧ op_oc J o 201 17 = nI (oc J o).2 ∧ ∀ y, ¬ y = 17 → y < 630 ∨ 866 ≤ y → op_oc J o 201 y = J 201 y := by
  obtain ⟨e1, e2, e3⟩ := oc_inv hn ho H hP hT hO o (Nat.le_refl _)
  unfold op_oc
  rw [up_201]
  refine ⟨iT_x e1 (by omega), mP_e e2 hn (fun y hy => upd_n (by omega)) (fun y hy => upd_n (by omega)), fun j hj => ?_, upd_y, fun y h1 h2 => (upd_n h1).trans (oc_ne (On_O hO hn) o (Nat.le_refl _) (by omega))⟩
  rw [upd_n (by omega), upd_n (by omega)]; exact e3 j hj
/-- REPORTS on their way: CELL, when sent (before b), when due (from a on) -/
def rpt (N : Nat → Int32) (c a b r : Nat) : Prop := ∀ i, i < r → (∃ x, x < c ∧ N (866 + 6 * i) = nI x) ∧ ∃ s u, N (866 + 6 * i + 4) = nI s ∧ N (866 + 6 * i + 5) = nI u ∧ s < b ∧ a ≤ u ∧ u ≤ s + 9
def rcnt (N : Nat → Int32) (v : Nat) : Nat → Nat
  | 0 => 0
  | i + 1 => rcnt N v i + if v ≤ vv (N (866 + 6 * i + 4)) then 1 else 0
theorem rcnt_c {N N' : Nat → Int32} {v : Nat} : ∀ r, (∀ i, i < r → N' (866 + 6 * i + 4) = N (866 + 6 * i + 4)) → rcnt N' v r = rcnt N v r := by
  intro r
  induction r with
  | zero => intro _; rfl
  | succ r ih => intro h; show rcnt N' v r + _ = rcnt N v r + _; rw [ih (fun i hi => h i (by omega)), h r (by omega)]
theorem rcnt_all {N : Nat → Int32} {v : Nat} : ∀ r, (∀ i, i < r → v ≤ vv (N (866 + 6 * i + 4))) → rcnt N v r = r := by
  intro r
  induction r with
  | zero => intro _; rfl
  | succ r ih => intro h; show rcnt N v r + _ = _; rw [ih (fun i hi => h i (by omega)), if_pos (h r (by omega))]
theorem rcnt_0 {N : Nat → Int32} {v : Nat} : ∀ r, (∀ i, i < r → ¬ v ≤ vv (N (866 + 6 * i + 4))) → rcnt N v r = 0 := by
  intro r
  induction r with
  | zero => intro _; rfl
  | succ r ih => intro h; show rcnt N v r + _ = _; rw [ih (fun i hi => h i (by omega)), if_neg (h r (by omega))]
def rpC (N : Nat → Int32) (r T : Nat) : Prop := ∀ j, rcnt N (T - j) r ≤ 5 * j
theorem rp_le {N : Nat → Int32} {c a b r T : Nat} (h : rpt N c a b r) (hC : rpC N r T) (ha : T ≤ a) (hb : b ≤ 3000) : r ≤ 5 * (T + 9 - a) := by
  have := hC (T + 9 - a)
  rw [rcnt_all r (fun i hi => ?_)] at this
  · exact this
  · obtain ⟨-, s, u, h1, h2, h3, h4, h5⟩ := h i hi
    rw [h1, vv_nI (by omega)]; omega
theorem rpt_Rn {N : Nat → Int32} {c a b r : Nat} (h : rpt N c a b r) (hb : b ≤ 3000) : mo_Rn N c r := fun i hi => by
  obtain ⟨h1, s, u, h2, -, h3, -⟩ := h i hi
  exact ⟨h1, by rw [h2]; exact nI_pos' (by omega)⟩
theorem rc_mv_at {K : mm_I} {k e : Nat} {f : Nat → Int32} (he : e < 6) : rc_mv K k f 201 (866 + 6 * k + e) = f e := by
  unfold rc_mv
  rw [up_201, up_201, up_201, up_201, up_201, up_201]
  rcases show e = 0 ∨ e = 1 ∨ e = 2 ∨ e = 3 ∨ e = 4 ∨ e = 5 by omega with q | q | q | q | q | q <;> subst q
  · rw [upd_n (by omega), upd_n (by omega), upd_n (by omega), upd_n (by omega), upd_n (by omega), upd_y]
  · rw [upd_n (by omega), upd_n (by omega), upd_n (by omega), upd_n (by omega), upd_y]
  · rw [upd_n (by omega), upd_n (by omega), upd_n (by omega), upd_y]
  · rw [upd_n (by omega), upd_n (by omega), upd_y]
  · rw [upd_n (by omega), upd_y]
  · rw [upd_y]
theorem rc_mv_n {K : mm_I} {k y : Nat} {f : Nat → Int32} (hy : ¬ (866 + 6 * k ≤ y ∧ y < 872 + 6 * k)) : rc_mv K k f 201 y = K 201 y := by
  unfold rc_mv
  rw [up_201, up_201, up_201, up_201, up_201, up_201, upd_n (by omega), upd_n (by omega), upd_n (by omega), upd_n (by omega), upd_n (by omega), upd_n (by omega)]
theorem rc_mp_n {K : mm_I} {c y : Nat} {f : Nat → Int32} (hy : ¬ (270 + 4 * c ≤ y ∧ y < 274 + 4 * c)) : rc_mp K c f 201 y = K 201 y := by
  unfold rc_mp
  rw [up_201, up_201, up_201, up_201, upd_n (by omega), upd_n (by omega), upd_n (by omega), upd_n (by omega)]
theorem rc_src {J : mm_I} {r : Nat} (hR : mo_R (J 201) r) : ∀ i, i ≤ r → (∀ j, j < (rc J i).2 → ∃ j', j' < i ∧ ¬ J 201 (866 + 6 * j' + 5) = J 201 7 ∧ ∀ e, e < 6 → (rc J i).1 201 (866 + 6 * j + e) = J 201 (866 + 6 * j' + e)) ∧ ∀ v, rcnt ((rc J i).1 201) v (rc J i).2 ≤ rcnt (J 201) v i := by
  intro i
  induction i with
  | zero => intro _; exact ⟨fun j hj => absurd hj (Nat.not_lt_zero _), fun v => Nat.le_refl _⟩
  | succ i ih =>
    intro hi
    obtain ⟨e1, e2⟩ := ih (by omega)
    have hle := rc_le (J := J) i
    obtain ⟨x, hx, ex⟩ := hR i (by omega)
    unfold rc
    by_cases c : J 201 (866 + 6 * i + 5) = J 201 7
    · rw [if_pos c, ex, vv_nI (by omega)]
      show (∀ j, j < (rc J i).2 → ∃ j', j' < i + 1 ∧ ¬ J 201 (866 + 6 * j' + 5) = J 201 7 ∧ ∀ e, e < 6 → rc_mp (rc J i).1 x (fun j => J 201 (866 + 6 * i + j)) 201 (866 + 6 * j + e) = J 201 (866 + 6 * j' + e)) ∧ ∀ v, rcnt (rc_mp (rc J i).1 x (fun j => J 201 (866 + 6 * i + j)) 201) v (rc J i).2 ≤ rcnt (J 201) v (i + 1)
      refine ⟨fun j hj => ?_, fun v => ?_⟩
      · obtain ⟨j', h1, h2, h3⟩ := e1 j hj
        exact ⟨j', by omega, h2, fun e he => (rc_mp_n (by omega)).trans (h3 e he)⟩
      · rw [rcnt_c _ (fun q hq => rc_mp_n (by omega))]
        exact Nat.le_trans (e2 v) (Nat.le_add_right _ _)
    · rw [if_neg c]
      show (∀ j, j < (rc J i).2 + 1 → ∃ j', j' < i + 1 ∧ ¬ J 201 (866 + 6 * j' + 5) = J 201 7 ∧ ∀ e, e < 6 → rc_mv (rc J i).1 (rc J i).2 (fun j => J 201 (866 + 6 * i + j)) 201 (866 + 6 * j + e) = J 201 (866 + 6 * j' + e)) ∧ ∀ v, rcnt (rc_mv (rc J i).1 (rc J i).2 (fun j => J 201 (866 + 6 * i + j)) 201) v ((rc J i).2 + 1) ≤ rcnt (J 201) v (i + 1)
      refine ⟨fun j hj => ?_, fun v => ?_⟩
      · by_cases e : j = (rc J i).2
        · subst e
          exact ⟨i, by omega, c, fun e he => rc_mv_at he⟩
        · obtain ⟨j', h1, h2, h3⟩ := e1 j (by omega)
          exact ⟨j', by omega, h2, fun e he => (rc_mv_n (by omega)).trans (h3 e he)⟩
      · show rcnt _ v (rc J i).2 + _ ≤ rcnt (J 201) v i + _
        rw [rcnt_c _ (fun q hq => rc_mv_n (by omega)), rc_mv_at (by decide)]
        exact Nat.add_le_add_right (e2 v) _
theorem rc_all {J : mm_I} {w h n r c a b T : Nat} (hn : n ≤ 5) (hr : r ≤ 60) (hc : c ≤ 80) (H : iT (J 201) w h n) (hP : mP (J 201) n) (h7 : J 201 7 = nI T) (hT : T ≤ 2000) (hR : rpt (J 201) c a b r) (hb : b ≤ 3000) (ha : a = T) : iT (op_rc J r 201) w h n ∧ mP (op_rc J r 201) n ∧ rpt (op_rc J r 201) c (T + 1) b (rc J r).2 ∧ op_rc J r 201 18 = nI (rc J r).2 ∧ (∀ v, rcnt (op_rc J r 201) v (rc J r).2 ≤ rcnt (J 201) v r) ∧ ∀ y, ¬ y = 18 → y < 270 ∨ (590 ≤ y ∧ y < 866) ∨ 1226 ≤ y → op_rc J r 201 y = J 201 y := by
  have hR8 := Rn_R (rpt_Rn hR hb) hc
  obtain ⟨e1, e2⟩ := rc_src hR8 r (Nat.le_refl _)
  have hle := rc_le (J := J) r
  have hfr : ∀ y, ¬ y = 18 → y < 270 ∨ (590 ≤ y ∧ y < 866) ∨ 1226 ≤ y → op_rc J r 201 y = J 201 y := fun y h1 h2 => by
    unfold op_rc; rw [up_201, upd_n h1]; exact rc_ne hR8 r (Nat.le_refl _) (by omega)
  have hrp : ∀ y, 866 ≤ y → op_rc J r 201 y = (rc J r).1 201 y := fun y h1 => by unfold op_rc; rw [up_201, upd_n (by omega)]
  refine ⟨iT_e2 H hn (fun y hy => hfr y (by omega) (by omega)), mP_e hP hn (fun y hy => hfr y (by omega) (by omega)) (fun y hy => hfr y (by omega) (by omega)), fun i hi => ?_, ?_, fun v => ?_, hfr⟩
  · obtain ⟨j', h1, h2, h3⟩ := e1 i hi
    obtain ⟨h4, s, u, h5, h6, h8, h9, h10⟩ := hR j' h1
    have e0 : op_rc J r 201 (866 + 6 * i) = J 201 (866 + 6 * j') := (hrp _ (by omega)).trans (h3 0 (by decide))
    refine ⟨?_, s, u, ?_, ?_, h8, ?_, h10⟩
    · rw [e0]; exact h4
    · rw [hrp _ (by omega), h3 4 (by decide)]; exact h5
    · rw [hrp _ (by omega), h3 5 (by decide)]; exact h6
    · have : ¬ u = T := fun z => h2 (by rw [h6, h7, z])
      omega
  · unfold op_rc; rw [up_201, upd_y]
  · rw [rcnt_c _ (fun i hi => hrp _ (by omega))]; exact e2 v
