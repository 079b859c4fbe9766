/-! Calls of the class, as the reference would do them: send, machine, ground -/
/-- PROGRAMS where MACHINES have come, or gone -/
theorem pgR_any {M M' : mm_I} {N N' : Nat → Int32} {n n' p : Nat} (hg : pgR M N n p) (hn : n ≤ 5) (hp : p < 6) (hM : ∀ b, 52 + 5 * p ≤ b → b ≤ 56 + 5 * p → M' b = M b) (hN : ∀ y, 1226 ≤ y → N' y = N y) (hm' : ∀ i, i < n' → N' (630 + 40 * i + 6) = nI p → i < n ∧ M' (36 + 3 * i) 7 = M (36 + 3 * i) 7 ∧ M' (37 + 3 * i + 1) = M (37 + 3 * i + 1) ∧ ∀ y, 636 + 40 * i ≤ y → y < 670 + 40 * i → N' y = N y) : pgR M' N' n' p := by
  obtain ⟨nS, h1, h2, h3, h4, h5, h6⟩ := hg
  have e54 : M' (54 + 5 * p) = M (54 + 5 * p) := hM _ (by omega) (by omega)
  have eA : ∀ a, pgA M' p a = pgA M p a := fun a => by unfold pgA; rw [e54]
  refine ⟨nS, h1, (hN _ (by omega)).trans h2, by rw [hM _ (by omega) (by omega)]; exact h3, fun s hs => qs_c (h4 s hs) (Nat.le_refl _) hs (fun s f _ _ => hN _ (by omega)), fun h0 => ?_, fun h0 i hi hr => ?_⟩
  · obtain ⟨a, CS, E, lv, w1, w2⟩ := h5 h0
    refine ⟨a, CS, E, lv, prW_c w1 h1 (by rw [hM _ (by omega) (by omega)]) (fun i _ => by rw [hM _ (by omega) (by omega)]) (by rw [hM _ (by omega) (by omega)]) (fun i _ => by rw [hM _ (by omega) (by omega)]) (fun x _ _ => hN x (by omega)), fun i hi hr => ?_⟩
    obtain ⟨i1, i2, i3, i4⟩ := hm' i hi hr
    rw [i4 _ (by omega) (by omega)] at hr
    obtain ⟨x, x1, x2, x3⟩ := w2 i i1 hr
    refine ⟨x, x1, i2.trans x2, ?_⟩
    rw [eA, i3]
    refine plR_k (CS := CS) h1 hp (prW_g w1).2 x3 (fun y hy => ?_) (fun _ _ => rfl)
    by_cases z : y < 830
    · exact i4 y (by omega) (by omega)
    · exact hN y (by omega)
  · obtain ⟨i1, i2, i3, i4⟩ := hm' i hi hr
    rw [i4 _ (by omega) (by omega)] at hr
    exact h6 h0 i i1 hr
/-- one ORDER more -/
theorem sS_oa {c n l k o r : Nat} {M M' : mm_I} {N N' : Nat → Int32} (hz : zOK c n l k o r) (ho : o < 12) (Hs : sS c n l k o r M N) (hM : ∀ a, ¬ (a = 82 ∨ a = 83) → M' a = M a) (h1 : ∀ i, i < 3 * o → M' 83 i = M 83 i) (h2 : ∀ e, e < 3 → M' 83 (3 * o + e) = N' (830 + 3 * o + e)) (h3 : M' 82 1 = nI (3 * (o + 1))) (hN : ∀ y, ¬ (y = 17 ∨ (830 + 3 * o ≤ y ∧ y < 833 + 3 * o)) → N' y = N y) : sS c n l k (o + 1) r M' N' := by
  have hz1 := hz.1; have hz2 := hz.2.1; have hz3 := hz.2.2.1; have hz4 := hz.2.2.2.1; have hz6 := hz.2.2.2.2.2
  refine sS.mk ?_ ?_ ?_ ?_ (fun i hi => ?_) (fun i hi => ?_) (fun i hi => ?_) (fun y hy => ?_) (fun y j hy hj hh => ?_) (fun i hi => ?_) ?_ (fun i hi => ?_) ?_ ?_ (fun i hi => ?_) (fun i hi => ?_) (fun i hi => ?_) (fun i hi => ?_) (fun i hi => ?_) (fun i hi => ?_) (fun m i hm hi => ?_) (fun i hi => ?_) (fun i hi => ?_) (fun a ha => ?_) (fun a ha => ?_) ?_ ?_ ?_
  · rw [hM 2 (by omega), hN _ (by omega)]; exact Hs.w
  · rw [hM 2 (by omega), hN _ (by omega)]; exact Hs.h
  · rw [hM 2 (by omega), hN _ (by omega)]; exact Hs.fu
  · rw [hM 2 (by omega), hN _ (by omega)]; exact Hs.lo
  · rw [hM 4 (by omega), hN _ (by omega)]; exact Hs.ki i hi
  · rw [hM 6 (by omega), hN _ (by omega)]; exact Hs.du i hi
  · rw [hM 8 (by omega), hN _ (by omega)]; exact Hs.ic i hi
  · rw [hM 10 (by omega), hN _ (by omega)]; exact Hs.se y hy
  · rw [hN _ (by omega)] at hh; rw [hM 10 (by omega), hN _ (by omega)]; exact Hs.sf y j hy hj hh
  · rw [hM 12 (by omega), hN _ (by omega)]; exact Hs.st i hi
  · rw [hM 17 (by omega), hN _ (by omega)]; exact Hs.p0
  · rw [hM 17 (by omega), hN _ (by omega)]; exact Hs.p1 i hi
  · rw [hM 17 (by omega), hN _ (by omega)]; exact Hs.p6
  · rw [hM 17 (by omega), hN _ (by omega)]; exact Hs.p7
  · rw [hM 19 (by omega), hN _ (by omega)]; exact Hs.l0 i hi
  · rw [hM 21 (by omega), hN _ (by omega)]; exact Hs.l1 i hi
  · rw [hM 24 (by omega), hN _ (by omega)]; exact Hs.k0 i hi
  · rw [hM 26 (by omega), hN _ (by omega)]; exact Hs.k1 i hi
  · rw [hM 28 (by omega), hN _ (by omega)]; exact Hs.k2 i hi
  · rw [hM 30 (by omega), hN _ (by omega)]; exact Hs.k3 i hi
  · rw [hM _ (by omega), hN _ (by omega)]; exact Hs.m m i hm hi
  · by_cases z : i < 3 * o
    · rw [h1 i z, hN _ (by omega)]; exact Hs.o0 i z
    · have q := h2 (i - 3 * o) (by omega)
      rw [show 3 * o + (i - 3 * o) = i by omega, show 830 + 3 * o + (i - 3 * o) = 830 + i by omega] at q
      exact q
  · rw [hM 85 (by omega), hN _ (by omega)]; exact Hs.r0 i hi
  · rw [hM a (by omega)]; exact Hs.cl a ha
  · rw [hM a (by omega)]; exact Hs.ck a ha
  · exact h3
  · rw [hM 84 (by omega)]; exact Hs.cr
  · rw [hM 1 (by omega)]; exact Hs.cn
theorem iV_send {N N' : Nat → Int32} {w h n l k o r T m p : Nat} (hV : iV N w h n l k o r T) (ho : o < 12) (hm : m < n) (hp : p < 6) (h0 : N' (830 + 3 * o + 0) = nI m) (h1 : N' (830 + 3 * o + 1) = nI p) (h2 : N' 17 = nI (o + 1)) (e : ∀ y, ¬ (y = 17 ∨ (830 + 3 * o ≤ y ∧ y < 833 + 3 * o)) → N' y = N y) : iV N' w h n l k (o + 1) r T := by
  have hr := iV_r hV
  obtain ⟨H1, H2, H3, ⟨h15, h16, h17, h18, h19⟩, ⟨hn, hl8, hk, ho12⟩, ⟨la, lb, hL⟩, h5, h6, hLo, hH, hY, hO, ⟨h7, hT7⟩, hR, hC⟩ := hV
  refine ⟨iT_e2 H1 hn (fun y hy => e y (by omega)), mP_e H2 hn (fun y hy => e y (by omega)) (fun y hy => e y (by omega)), fun p hp => ?_, ⟨(e 15 (by omega)).trans h15, (e 16 (by omega)).trans h16, h2, (e 18 (by omega)).trans h18, (e 19 (by omega)).trans h19⟩, ⟨hn, hl8, hk, by omega⟩, ⟨la, lb, (e 2 (by omega)).trans hL.1, (e 3 (by omega)).trans hL.2.1, hL.2.2⟩, by rw [e 5 (by omega)]; exact h5, by rw [e 6 (by omega)]; exact h6, fun i hi => by rw [e _ (by omega)]; exact hLo i hi, fun i hi => by rw [e _ (by omega)]; exact hH i hi, fun i hi => by rw [e _ (by omega)]; exact hY i hi, fun i hi => ?_, ⟨(e 7 (by omega)).trans h7, hT7⟩, fun i hi => by rw [e _ (by omega), e _ (by omega), e _ (by omega)]; exact hR i hi, fun j => by rw [rcnt_c _ (fun i hi => e _ (by omega))]; exact hC j⟩
  · obtain ⟨k', k1, k2⟩ := H3 p hp
    exact ⟨k', (e _ (by omega)).trans k1, mo_T_eq (fun x hx => e x (by omega)) k2⟩
  · by_cases z : i = o
    · subst z; exact ⟨⟨m, hm, h0⟩, p, hp, h1⟩
    · rw [e _ (by omega), e _ (by omega)]; exact hO i (by omega)
set_option maxHeartbeats 400000 in
theorem cl_send {g : mm_G} {d : Nat} {I : mm_I} {w h n l k o r T : Nat} (H : RC I) (hS : siR I (I 201) w h n l k o r T) {m p : Int32} (hd : 160 ≤ d) : mm_Di g zX11_send d [.ref 0, .int m, .int p] sh_S I (St I (op_send n o I m p)) := by
  have hz := iV_z hS.1
  obtain ⟨hz1, hz2, hz3, hz4, hz5, hz6⟩ := id hz
  have hW := hS.1.1.1
  by_cases hm : sp_isM n m
  · obtain ⟨m', m1, rfl⟩ := sp_isM_nat (by omega) hm
    by_cases hp : sp_wi p 0 5
    · obtain ⟨p', p1, rfl⟩ := sp_wi_nat 5 (by decide) hp
      have hx : ¬ (¬ sp_isM n (nI m') ∨ ¬ sp_wi (nI p') 0 5) := fun z => by rcases z with z | z; exact z hm; exact z hp
      obtain ⟨nS, n1, n2, n3, -⟩ := hS.2.2 p' (by omega)
      by_cases h0 : I 201 (1226 + 418 * p') = 0
      · have q := cb_sendN (g := g) (d := d) (A := I) hz hW m1 (show p' < 6 by omega) (by rw [n3, ← n2]; exact h0) (by omega)
        rw [← sS_self hS.2.1] at q
        have e : op_send n o I (nI m') (nI p') = (-1000000002, I) := by unfold op_send; rw [if_neg hx, vv_nI (by omega), if_pos h0]
        rw [e]; exact mm_Ci_Di q (St_id H)
      · have h0' : ¬ I (52 + 5 * p') 2 = 0 := by rw [n3, ← n2]; exact h0
        by_cases ho : o = 12
        · have q := cb_sendF (g := g) (d := d) (A := I) hz hW m1 (show p' < 6 by omega) h0' ho (by omega)
          rw [← sS_self hS.2.1] at q
          have e : op_send n o I (nI m') (nI p') = (-1000000003, I) := by unfold op_send; rw [if_neg hx, vv_nI (by omega), if_neg h0, if_pos ho]
          rw [e]; exact mm_Ci_Di q (St_id H)
        · have q := cb_send (g := g) (d := d) (A := I) hz hW m1 (show p' < 6 by omega) h0' (by omega) (by omega)
          rw [← sS_self hS.2.1] at q
          have e : op_send n o I (nI m') (nI p') = (I 201 7 + I 201 6, mm_up (mm_up (mm_up (mm_up I 201 (830 + 3 * o + 0) (nI m')) 201 (830 + 3 * o + 1) (nI p')) 201 (830 + 3 * o + 2) (I 201 7 + I 201 6)) 201 17 (nI (o + 1))) := by unfold op_send; rw [if_neg hx, vv_nI (by omega), if_neg h0, if_neg ho]
          rw [e]
          have er : mm_up (mm_up (mm_up (mm_up I 201 (830 + 3 * o + 0) (nI m')) 201 (830 + 3 * o + 1) (nI p')) 201 (830 + 3 * o + 2) (I 201 7 + I 201 6)) 201 17 (nI (o + 1)) 201 = upd (upd (upd (upd (I 201) (830 + 3 * o + 0) (nI m')) (830 + 3 * o + 1) (nI p')) (830 + 3 * o + 2) (I 201 7 + I 201 6)) 17 (nI (o + 1)) := by rw [up_201, up_201, up_201, up_201]
          have en : ∀ y, ¬ (y = 17 ∨ (830 + 3 * o ≤ y ∧ y < 833 + 3 * o)) → upd (upd (upd (upd (I 201) (830 + 3 * o + 0) (nI m')) (830 + 3 * o + 1) (nI p')) (830 + 3 * o + 2) (I 201 7 + I 201 6)) 17 (nI (o + 1)) y = I 201 y := fun y hy => by rw [upd_n (by omega), upd_n (by omega), upd_n (by omega), upd_n (by omega)]
          have r0 : upd (upd (upd (upd (I 201) (830 + 3 * o + 0) (nI m')) (830 + 3 * o + 1) (nI p')) (830 + 3 * o + 2) (I 201 7 + I 201 6)) 17 (nI (o + 1)) (830 + 3 * o + 0) = nI m' := by rw [upd_n (by omega), upd_n (by omega), upd_n (by omega), upd_y]
          have r1 : upd (upd (upd (upd (I 201) (830 + 3 * o + 0) (nI m')) (830 + 3 * o + 1) (nI p')) (830 + 3 * o + 2) (I 201 7 + I 201 6)) 17 (nI (o + 1)) (830 + 3 * o + 1) = nI p' := by rw [upd_n (by omega), upd_n (by omega), upd_y]
          have r2 : upd (upd (upd (upd (I 201) (830 + 3 * o + 0) (nI m')) (830 + 3 * o + 1) (nI p')) (830 + 3 * o + 2) (I 201 7 + I 201 6)) 17 (nI (o + 1)) (830 + 3 * o + 2) = I 201 7 + I 201 6 := by rw [upd_n (by omega), upd_y]
          refine mm_Ci_Di q ⟨fun b hb => ?_, rfl, RC_now (w := w) (h := h) (n := n) (l := l) (k := k) (o := o + 1) (r := r) (T := T) H (fun b hb => ?_) (outJ_a (fun a h1 h2 => (mm_up_a h2).trans ((mm_up_a h2).trans ((mm_up_a h2).trans (mm_up_a h2))))) ⟨?_, ?_, fun p hp => ?_⟩⟩
          · rw [mm_up_a (by omega), mm_up_a (by omega), mm_up_a (by omega), mm_up_a (by omega), mm_up_a (by omega), mm_up_a (by omega)]
          · rw [mm_up_a (by omega), mm_up_a (by omega), mm_up_a (by omega), mm_up_a (by omega), mm_up_a (by omega), mm_up_a (by omega)]
          · dsimp only; rw [er]; exact iV_send hS.1 (by omega) m1 (show p' < 6 by omega) r0 r1 upd_y en
          · dsimp only; rw [er]
            refine sS_oa hz (by omega) hS.2.1 (fun a ha => ?_) (fun i hi => ?_) (fun e he => ?_) ?_ en
            · rw [mm_up_a (by omega), mm_up_a (by omega), mm_up_a (by omega), mm_up_a (by omega), mm_up_a (by omega), mm_up_a (by omega)]
            · rw [mm_up_ne (by decide), mm_up_ni (by omega), mm_up_ne (by decide), mm_up_ni (by omega), mm_up_ne (by decide), mm_up_ni (by omega)]
            · rcases show e = 0 ∨ e = 1 ∨ e = 2 by omega with z | z | z <;> subst z
              · rw [r0, mm_up_ne (by decide), mm_up_ni (by omega), mm_up_ne (by decide), mm_up_ni (by omega), mm_up_ne (by decide), mm_up_at]
              · rw [r1, mm_up_ne (by decide), mm_up_ni (by omega), mm_up_ne (by decide), mm_up_at]
              · rw [r2, mm_up_ne (by decide), mm_up_at]
            · rw [mm_up_at]; congr 1
          · dsimp only; rw [er]
            refine pgR_c (hS.2.2 p hp) hz2 hp (fun b hb => ?_) (fun m hm => ?_) (fun y hy => en y (by omega))
            · rw [mm_up_a (by omega), mm_up_a (by omega), mm_up_a (by omega), mm_up_a (by omega), mm_up_a (by omega), mm_up_a (by omega)]
            · rw [mm_up_ne (by omega), mm_up_ne (by omega), mm_up_ne (by omega), mm_up_ne (by omega), mm_up_ne (by omega), mm_up_ne (by omega)]
    · have q := cb_sendB3 (g := g) (d := d) (A := I) hz hW m1 hp (by omega)
      rw [← sS_self hS.2.1] at q
      have e : op_send n o I (nI m') p = (-1000000001, I) := by unfold op_send; rw [if_pos (Or.inr hp)]
      rw [e]; exact mm_Ci_Di q (St_id H)
  · have e : op_send n o I m p = (-1000000001, I) := by unfold op_send; rw [if_pos (Or.inl hm)]
    rw [e]
    by_cases hp : sp_wi p 0 5
    · obtain ⟨p', p1, rfl⟩ := sp_wi_nat 5 (by decide) hp
      have q := cb_sendB2 (g := g) (d := d) (A := I) hz hW hm (show p' < 6 by omega) (by omega)
      rw [← sS_self hS.2.1] at q
      exact mm_Ci_Di q (St_id H)
    · have q := cb_sendB1 (g := g) (d := d) (A := I) hz hW hm hp (by omega)
      rw [← sS_self hS.2.1] at q
      exact mm_Ci_Di q (St_id H)
