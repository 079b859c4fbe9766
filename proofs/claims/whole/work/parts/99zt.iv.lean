/-! What holds of the row all along: a TICK, TICKS -/
def iV (N : Nat → Int32) (w h n l k o r T : Nat) : Prop := iT N w h n ∧ mP N n ∧ pT N ∧ (N 15 = nI l ∧ N 16 = nI n ∧ N 17 = nI o ∧ N 18 = nI r ∧ N 19 = nI k) ∧ (n ≤ 5 ∧ l ≤ 8 ∧ k ≤ 6 ∧ o ≤ 12) ∧ (∃ la lb, N 2 = nI la ∧ N 3 = nI lb ∧ (1 ≤ la ∧ la ≤ 24) ∧ lb ≤ 24) ∧ (∃ x, x ≤ 99 ∧ N 5 = nI x) ∧ (∃ x, x ≤ 9 ∧ N 6 = nI x) ∧ mo_L N l ∧ mo_H N l ∧ mo_Y N k ∧ mo_On N n o ∧ (N 7 = nI T ∧ T ≤ 2000) ∧ rpt N (w * h) T T r ∧ rpC N r T
theorem iV_r {N : Nat → Int32} {w h n l k o r T : Nat} (H : iV N w h n l k o r T) : r ≤ 45 := by
  obtain ⟨-, -, -, -, -, -, -, -, -, -, -, -, ⟨-, hT⟩, hR, hC⟩ := H
  have := rp_le hR hC (Nat.le_refl _) (by omega)
  omega
theorem iV_z {N : Nat → Int32} {w h n l k o r T : Nat} (H : iV N w h n l k o r T) : zOK (w * h) n l k o r := by
  have hr := iV_r H
  have hc := mo_W_c H.1.1
  obtain ⟨h1, h2, h3, h4⟩ := H.2.2.2.2.1
  exact ⟨hc.2, h1, h2, h3, h4, by omega⟩
/-- stages of a TICK -/
def tk_S (J : mm_I) (w h n l k o r T : Nat) : Prop :=
  (iT (op_oc J o 201) w h n ∧ mP (op_oc J o 201) n ∧ mo_On (op_oc J o 201) n (oc J o).2 ∧ op_oc J o 201 17 = nI (oc J o).2 ∧ (oc J o).2 ≤ 12 ∧ (∀ y, ¬ y = 17 → y < 630 ∨ 866 ≤ y → op_oc J o 201 y = J 201 y)) ∧
  (iT (op_rc (op_oc J o) r 201) w h n ∧ mP (op_rc (op_oc J o) r 201) n ∧ rpt (op_rc (op_oc J o) r 201) (w * h) (T + 1) T (rc (op_oc J o) r).2 ∧ op_rc (op_oc J o) r 201 18 = nI (rc (op_oc J o) r).2 ∧ (rc (op_oc J o) r).2 ≤ 40 ∧ rpC (op_rc (op_oc J o) r 201) (rc (op_oc J o) r).2 T ∧ (∀ y, ¬ y = 18 → y < 270 ∨ (590 ≤ y ∧ y < 866) ∨ 1226 ≤ y → op_rc (op_oc J o) r 201 y = op_oc J o 201 y)) ∧
  (iT (op_pc (op_rc (op_oc J o) r) n l 201) w h n ∧ mP (op_pc (op_rc (op_oc J o) r) n l 201) n ∧ (∀ y, ¬ (y = 4 ∨ y = 8 ∨ y = 9 ∨ (630 ≤ y ∧ y < 830 ∧ (y - 630) % 40 = 2)) → op_pc (op_rc (op_oc J o) r) n l 201 y = op_rc (op_oc J o) r 201 y)) ∧
  (∀ i, i ≤ n → tkC (tk_m w h n (op_pc (op_rc (op_oc J o) r) n l) i 201) (op_pc (op_rc (op_oc J o) r) n l 201) w h n)
theorem tk_st {J : mm_I} {w h n l k o r T : Nat} (H : iV (J 201) w h n l k o r T) : tk_S J w h n l k o r T := by
  have hr := iV_r H
  obtain ⟨H1, H2, H3, ⟨h15, h16, h17, h18, h19⟩, ⟨hn, hl, hk, ho⟩, ⟨la, lb, hL⟩, h5, h6, hLo, hH, hY, hO, ⟨h7, hT⟩, hR, hC⟩ := id H
  have hcc := mo_W_c H1.1
  obtain ⟨a1, a2, a3, a4, a5⟩ := oc_all hn ho H1 H2 H3 hO
  have hR1 : rpt (op_oc J o 201) (w * h) T T r := fun i hi => by
    rw [a5 _ (by omega) (by omega), a5 _ (by omega) (by omega), a5 _ (by omega) (by omega)]; exact hR i hi
  obtain ⟨b1, b2, b3, b4, b5, b6⟩ := rc_all (J := op_oc J o) hn (by omega) hcc.2 a1 a2 ((a5 7 (by omega) (by omega)).trans h7) hT hR1 (by omega) rfl
  have hC1 : rpC (op_rc (op_oc J o) r 201) (rc (op_oc J o) r).2 T := fun j => by
    refine Nat.le_trans (b5 _) ?_
    rw [rcnt_c r (fun i hi => a5 _ (by omega) (by omega))]; exact hC j
  have h40 := rp_le b3 hC1 (by omega) (by omega)
  have e15 : ∀ y, (y = 2 ∨ y = 3 ∨ (5 ≤ y ∧ y ≤ 9) ∨ y = 15 ∨ y = 16 ∨ y = 19 ∨ (590 ≤ y ∧ y < 630) ∨ 1226 ≤ y) → op_rc (op_oc J o) r 201 y = J 201 y := fun y hy => (b6 y (by omega) (by omega)).trans (a5 y (by omega) (by omega))
  obtain ⟨c1, c2, c3⟩ := pc_all (J := op_rc (op_oc J o) r) hn hl b1 b2 (by rw [e15 5 (by omega)]; exact h5) (fun i hi => by rw [e15 _ (by omega)]; exact hLo i hi)
  have hoc := oc_le (J := J) o
  exact ⟨⟨a1, a2, a3, a4, by omega, a5⟩, ⟨b1, b2, b3, b4, by omega, hC1, b6⟩, ⟨c1, c2, c3⟩, fun i hi => tk_inv hn ((c3 16 (by omega)).trans ((e15 16 (by omega)).trans h16)) (la := la) (lb := lb) ⟨(c3 2 (by omega)).trans ((e15 2 (by omega)).trans hL.1), (c3 3 (by omega)).trans ((e15 3 (by omega)).trans hL.2.1), hL.2.2⟩ c1 c2 i hi⟩
theorem tk_1e {J : mm_I} {o r : Nat} (h17 : J 201 17 = nI o) (h18 : J 201 18 = nI r) (ho : o ≤ 12) (hr : r ≤ 50) : tk_1 J = op_rc (op_oc J o) r := by
  unfold tk_1; rw [h17, h18, vv_nI (by omega), vv_nI (by omega)]
/-- the row at the end of stage 4 -/
theorem tk_fr {J : mm_I} {w h n l k o r T : Nat} (S : tk_S J w h n l k o r T) : ∀ y, (y = 2 ∨ y = 3 ∨ (5 ≤ y ∧ y ≤ 7) ∨ y = 15 ∨ y = 16 ∨ y = 19 ∨ (590 ≤ y ∧ y < 630) ∨ 1226 ≤ y) → tk_m w h n (op_pc (op_rc (op_oc J o) r) n l) n 201 y = J 201 y := fun y hy =>
  ((S.2.2.2 n (Nat.le_refl _)).2.2 y (by omega)).trans ((S.2.2.1.2.2 y (by omega)).trans ((S.2.1.2.2.2.2.2.2 y (by omega) (by omega)).trans (S.1.2.2.2.2.2 y (by omega) (by omega))))
theorem tk_rp {J : mm_I} {w h n l k o r T : Nat} (S : tk_S J w h n l k o r T) : rpt (tk_m w h n (op_pc (op_rc (op_oc J o) r) n l) n 201) (w * h) (T + 1) T (rc (op_oc J o) r).2 ∧ tk_m w h n (op_pc (op_rc (op_oc J o) r) n l) n 201 18 = nI (rc (op_oc J o) r).2 ∧ ∀ v, rcnt (tk_m w h n (op_pc (op_rc (op_oc J o) r) n l) n 201) v (rc (op_oc J o) r).2 = rcnt (op_rc (op_oc J o) r 201) v (rc (op_oc J o) r).2 := by
  have e : ∀ y, (y = 18 ∨ 866 ≤ y) → tk_m w h n (op_pc (op_rc (op_oc J o) r) n l) n 201 y = op_rc (op_oc J o) r 201 y := fun y hy => ((S.2.2.2 n (Nat.le_refl _)).2.2 y (by omega)).trans (S.2.2.1.2.2 y (by omega))
  obtain ⟨-, ⟨b1, b2, b3, b4, b5, b6, b7⟩, -⟩ := S
  refine ⟨fun i hi => ?_, (e 18 (by omega)).trans b4, fun v => rcnt_c _ (fun i hi => e _ (by omega))⟩
  rw [e _ (by omega), e _ (by omega), e _ (by omega)]; exact b3 i hi
set_option maxHeartbeats 600000 in
theorem tk_all {J : mm_I} {w h n l k o r T : Nat} (H : iV (J 201) w h n l k o r T) (hT1 : T < 2000) : tk_H2 w h n l J ∧ ∃ r', op_rg (tk_3 w h n l J) n (rc (op_oc J o) r).2 201 18 = nI r' ∧ r' ≤ 45 ∧ iV (op_tick w h n l J 201) w h n l k (oc J o).2 r' (T + 1) := by
  have hr := iV_r H
  have S := tk_st H
  obtain ⟨H1, H2, H3, ⟨h15, h16, h17, h18, h19⟩, ⟨hn, hl, hk, ho⟩, ⟨la, lb, hL⟩, h5, ⟨L, hL9, h6⟩, hLo, hH, hY, hO, ⟨h7, hT⟩, hR, hC⟩ := id H
  have hcc := mo_W_c H1.1
  have e1 := tk_1e h17 h18 ho (by omega)
  have e2 : tk_2 n l J = op_pc (op_rc (op_oc J o) r) n l := by unfold tk_2; rw [e1]
  have e3 : tk_3 w h n l J = tk_m w h n (op_pc (op_rc (op_oc J o) r) n l) n := by unfold tk_3; rw [e2]
  have hfr := tk_fr S
  obtain ⟨r1, r2, r3⟩ := tk_rp S
  obtain ⟨⟨a1, a2, a3, a4, a5, a6⟩, ⟨b1, b2, b3, b4, b5, b6, b7⟩, ⟨c1, c2, c3⟩, S4⟩ := id S
  obtain ⟨t1, t2, t3⟩ := S4 n (Nat.le_refl _)
  obtain ⟨r', q1, q2, q3, q4, q5, q6, q7⟩ := rg_all (J := tk_m w h n (op_pc (op_rc (op_oc J o) r) n l) n) hn hT ((hfr 7 (by omega)).trans h7) ((hfr 6 (by omega)).trans h6) hL9 r2 (by omega) t1 t2 r1
  have e4 : tk_4 w h n l J = op_rg (tk_m w h n (op_pc (op_rc (op_oc J o) r) n l) n) n (rc (op_oc J o) r).2 := by unfold tk_4; rw [e3, r2, vv_nI (by omega)]
  have b16 : op_rc (op_oc J o) r 201 16 = nI n := (b7 16 (by omega) (by omega)).trans ((a6 16 (by omega) (by omega)).trans h16)
  refine ⟨⟨hn, hl, ⟨o, h17, ho, On_O hO hn⟩, ⟨r, h18, by omega, ?_, ?_⟩, ⟨?_, ?_, ⟨la, lb, ?_, ?_, hL.2.2⟩, ?_⟩, fun i hi => ⟨?_, fun hin hno => ?_⟩, ⟨(rc (op_oc J o) r).2, ?_, by omega, ?_⟩, ?_, ?_⟩, r', ?_, by omega, ?_⟩
  · rw [h17, vv_nI (by omega)]; exact (a6 18 (by omega) (by omega)).trans h18
  · rw [h17, vv_nI (by omega)]
    refine Rn_R (rpt_Rn (c := w * h) (a := T) (b := T) (fun i hi => ?_) (by omega)) hcc.2
    rw [a6 _ (by omega) (by omega), a6 _ (by omega) (by omega), a6 _ (by omega) (by omega)]; exact hR i hi
  · rw [e1]; exact b16
  · rw [e1]; exact (b7 15 (by omega) (by omega)).trans ((a6 15 (by omega) (by omega)).trans h15)
  · rw [e1]; exact (b7 2 (by omega) (by omega)).trans ((a6 2 (by omega) (by omega)).trans hL.1)
  · rw [e1]; exact (b7 3 (by omega) (by omega)).trans ((a6 3 (by omega) (by omega)).trans hL.2.1)
  · rw [e1]
    obtain ⟨b, x1, x2⟩ := (opa_inv hn b1 (by rw [b7 5 (by omega) (by omega), a6 5 (by omega) (by omega)]; exact h5)).1.2.2.2.2.1
    exact ⟨b, by omega, x2⟩
  · rw [e2]
    exact ((S4 i hi).2.2 16 (by omega)).trans ((c3 16 (by omega)).trans b16)
  · rw [e2] at hno ⊢
    obtain ⟨u1, u2, u3⟩ := S4 i hi
    obtain ⟨c, p, k', wh, hG, h0, h7', -⟩ := tk_G u1 u2 ((u3 16 (by omega)).trans ((c3 16 (by omega)).trans b16)) hn (la := la) (lb := lb) ⟨(u3 2 (by omega)).trans ((c3 2 (by omega)).trans ((b7 2 (by omega) (by omega)).trans ((a6 2 (by omega) (by omega)).trans hL.1))), (u3 3 (by omega)).trans ((c3 3 (by omega)).trans ((b7 3 (by omega) (by omega)).trans ((a6 3 (by omega) (by omega)).trans hL.2.1))), hL.2.2⟩ hin hno
    exact ⟨la, lb, c, p, k', wh, hG, h7'⟩
  · rw [e3]; exact r2
  · rw [e3]; exact Rn_R (rpt_Rn r1 (by omega)) hcc.2
  · rw [e3]; exact (hfr 16 (by omega)).trans h16
  · rw [e3]; exact fun i hi => by obtain ⟨x, x1, x2⟩ := (t1.2.1 i hi).2.1; exact ⟨x, by omega, x2⟩
  · rw [e3]; exact q2
  · have et : op_tick w h n l J 201 = upd (op_rg (tk_m w h n (op_pc (op_rc (op_oc J o) r) n l) n) n (rc (op_oc J o) r).2 201) 7 (nI (T + 1)) := by
      unfold op_tick
      rw [up_201, e4, q7 7 (by omega) (by omega), hfr 7 (by omega), h7, show (1 : Int32) = nI 1 from rfl, nI_add]
    have hal : ∀ y, (y = 2 ∨ y = 3 ∨ y = 5 ∨ y = 6 ∨ y = 15 ∨ y = 16 ∨ y = 19 ∨ (590 ≤ y ∧ y < 630) ∨ 1226 ≤ y) → op_tick w h n l J 201 y = J 201 y := fun y hy => by
      rw [et, upd_n (by omega), q7 y (by omega) (by omega)]; exact hfr y (by omega)
    have hO2 : ∀ y, (y = 17 ∨ (830 ≤ y ∧ y < 866)) → op_tick w h n l J 201 y = op_oc J o 201 y := fun y hy => by
      rw [et, upd_n (by omega), q7 y (by omega) (by omega)]
      exact (t3 y (by omega)).trans ((c3 y (by omega)).trans (b7 y (by omega) (by omega)))
    have hgt : ∀ y, ¬ y = 7 → op_tick w h n l J 201 y = op_rg (tk_m w h n (op_pc (op_rc (op_oc J o) r) n l) n) n (rc (op_oc J o) r).2 201 y := fun y hy => by rw [et, upd_n hy]
    refine ⟨by rw [et]; exact iT_x q3 (by omega), mP_e q4 hn (fun y hy => hgt y (by omega)) (fun y hy => hgt y (by omega)), fun p hp => ?_, ⟨(hal 15 (by omega)).trans h15, (hal 16 (by omega)).trans h16, (hO2 17 (by omega)).trans a4, (hgt 18 (by omega)).trans q2, (hal 19 (by omega)).trans h19⟩, ⟨hn, hl, hk, a5⟩, ⟨la, lb, (hal 2 (by omega)).trans hL.1, (hal 3 (by omega)).trans hL.2.1, hL.2.2⟩, by rw [hal 5 (by omega)]; exact h5, ⟨L, hL9, (hal 6 (by omega)).trans h6⟩, fun i hi => by rw [hal _ (by omega)]; exact hLo i hi, fun i hi => by rw [hal _ (by omega)]; exact hH i hi, fun i hi => by rw [hal _ (by omega)]; exact hY i hi, fun i hi => by rw [hO2 _ (by omega), hO2 _ (by omega)]; exact a3 i hi, ⟨by rw [et]; exact upd_y, by omega⟩, fun i hi => ?_, fun j => ?_⟩
    · obtain ⟨k', k1, k2⟩ := H3 p hp
      exact ⟨k', (hal _ (by omega)).trans k1, mo_T_eq (fun x hx => hal x (by omega)) k2⟩
    · rw [hgt _ (by omega), hgt _ (by omega), hgt _ (by omega)]; exact q5 i hi
    · rw [rcnt_c _ (fun i hi => hgt _ (by omega))]
      by_cases hj : j = 0
      · subst hj
        refine Nat.le_of_eq (rcnt_0 _ (fun i hi => ?_))
        obtain ⟨-, s, u, h2, h3, h4, -⟩ := q5 i hi
        rw [h2, vv_nI (by omega)]; omega
      · have z1 := q6 (T - (j - 1))
        have z2 := b6 (j - 1)
        rw [r3] at z1
        rw [show T + 1 - j = T - (j - 1) by omega]; omega
