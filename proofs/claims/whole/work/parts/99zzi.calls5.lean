/-! Calls of the class, as the reference would do them: machine, ground -/
theorem mb_at {I : mm_I} {a : Nat} {x y : Int32} : mbM I a x y a 0 = x ∧ mbM I a x y a 1 = y ∧ mbM I a x y a 2 = 50 ∧ mbM I a x y a 3 = 0 ∧ mbM I a x y a 4 = 0 ∧ mbM I a x y a 5 = 0 ∧ mbM I a x y a 6 = -1 := by
  unfold mbM bsM
  refine ⟨?_, ?_, ?_, ?_, ?_, ?_, ?_⟩
  · rw [rw_fl_na (by omega), mm_up_ne (by omega), mm_up_ni (by decide), mm_up_ni (by decide), mm_up_ni (by decide), mm_up_ni (by decide), mm_up_ni (by decide), mm_up_ni (by decide), mm_up_ni (by decide), mm_up_at]
  · rw [rw_fl_na (by omega), mm_up_ne (by omega), mm_up_ni (by decide), mm_up_ni (by decide), mm_up_ni (by decide), mm_up_ni (by decide), mm_up_ni (by decide), mm_up_ni (by decide), mm_up_at]
  · rw [rw_fl_na (by omega), mm_up_ne (by omega), mm_up_ni (by decide), mm_up_ni (by decide), mm_up_ni (by decide), mm_up_ni (by decide), mm_up_ni (by decide), mm_up_at]
  · rw [rw_fl_na (by omega), mm_up_ne (by omega), mm_up_ni (by decide), mm_up_ni (by decide), mm_up_ni (by decide), mm_up_ni (by decide), mm_up_at]
  · rw [rw_fl_na (by omega), mm_up_ne (by omega), mm_up_ni (by decide), mm_up_ni (by decide), mm_up_ni (by decide), mm_up_at]
  · rw [rw_fl_na (by omega), mm_up_ne (by omega), mm_up_ni (by decide), mm_up_ni (by decide), mm_up_at]
  · rw [rw_fl_na (by omega), mm_up_ne (by omega), mm_up_ni (by decide), mm_up_at]
theorem mb_n {I : mm_I} {a b : Nat} {x y : Int32} (h : ¬ (b = a ∨ b = a + 1 ∨ b = a + 2)) : mbM I a x y b = I b := by
  unfold mbM bsM
  rw [rw_fl_na (by omega), mm_up_a (by omega), mm_up_a (by omega), mm_up_a (by omega), mm_up_a (by omega), mm_up_a (by omega), mm_up_a (by omega), mm_up_a (by omega), mm_up_a (by omega), mm_up_a (by omega)]
theorem sS_ma {c n l k o r : Nat} {M M' : mm_I} {N N' : Nat → Int32} (hz : zOK c n l k o r) (hn5 : n < 5) (Hs : sS c n l k o r M N) (hM : ∀ a, ¬ (a = 1 ∨ a = 36 + 3 * n ∨ a = 37 + 3 * n ∨ a = 38 + 3 * n) → M' a = M a) (h1 : M' 1 4 = nI (n + 1)) (h2 : ∀ i, i < 7 → M' (36 + 3 * n) i = N' (630 + 40 * n + i)) (hN : ∀ y, ¬ (y = 16 ∨ (630 + 40 * n ≤ y ∧ y < 670 + 40 * n)) → N' y = N y) : sS c (n + 1) l k o r M' N' := by
  have hz1 := hz.1; have hz3 := hz.2.2.1; have hz4 := hz.2.2.2.1; have hz5 := hz.2.2.2.2.1; have hz6 := hz.2.2.2.2.2
  refine sS.mk ?_ ?_ ?_ ?_ (fun i hi => ?_) (fun i hi => ?_) (fun i hi => ?_) (fun y hy => ?_) (fun y j hy hj hh => ?_) (fun i hi => ?_) ?_ (fun i hi => ?_) ?_ ?_ (fun i hi => ?_) (fun i hi => ?_) (fun i hi => ?_) (fun i hi => ?_) (fun i hi => ?_) (fun i hi => ?_) (fun m i hm hi => ?_) (fun i hi => ?_) (fun i hi => ?_) (fun a ha => ?_) (fun a ha => ?_) ?_ ?_ ?_
  · rw [hM 2 (by omega), hN _ (by omega)]; exact Hs.w
  · rw [hM 2 (by omega), hN _ (by omega)]; exact Hs.h
  · rw [hM 2 (by omega), hN _ (by omega)]; exact Hs.fu
  · rw [hM 2 (by omega), hN _ (by omega)]; exact Hs.lo
  · rw [hM 4 (by omega), hN _ (by omega)]; exact Hs.ki i hi
  · rw [hM 6 (by omega), hN _ (by omega)]; exact Hs.du i hi
  · rw [hM 8 (by omega), hN _ (by omega)]; exact Hs.ic i hi
  · rw [hM 10 (by omega), hN _ (by omega)]; exact Hs.se y hy
  · rw [hN _ (by omega)] at hh; rw [hM 10 (by omega), hN _ (by omega)]; exact Hs.sf y j hy hj hh
  · rw [hM 12 (by omega), hN _ (by omega)]; exact Hs.st i hi
  · rw [hM 17 (by omega), hN _ (by omega)]; exact Hs.p0
  · rw [hM 17 (by omega), hN _ (by omega)]; exact Hs.p1 i hi
  · rw [hM 17 (by omega), hN _ (by omega)]; exact Hs.p6
  · rw [hM 17 (by omega), hN _ (by omega)]; exact Hs.p7
  · rw [hM 19 (by omega), hN _ (by omega)]; exact Hs.l0 i hi
  · rw [hM 21 (by omega), hN _ (by omega)]; exact Hs.l1 i hi
  · rw [hM 24 (by omega), hN _ (by omega)]; exact Hs.k0 i hi
  · rw [hM 26 (by omega), hN _ (by omega)]; exact Hs.k1 i hi
  · rw [hM 28 (by omega), hN _ (by omega)]; exact Hs.k2 i hi
  · rw [hM 30 (by omega), hN _ (by omega)]; exact Hs.k3 i hi
  · by_cases z : m = n
    · subst z; exact h2 i hi
    · rw [hM _ (by omega), hN _ (by omega)]; exact Hs.m m i (by omega) hi
  · rw [hM 83 (by omega), hN _ (by omega)]; exact Hs.o0 i hi
  · rw [hM 85 (by omega), hN _ (by omega)]; exact Hs.r0 i hi
  · rw [hM a (by omega)]; exact Hs.cl a ha
  · rw [hM a (by omega)]; exact Hs.ck a ha
  · rw [hM 82 (by omega)]; exact Hs.co
  · rw [hM 84 (by omega)]; exact Hs.cr
  · exact h1
theorem iV_mach {N N' : Nat → Int32} {w h n l k o r T a c : Nat} (hV : iV N w h n l k o r T) (hn5 : n < 5) (ha : a ≤ 3) (hc : c < w * h) (hno : ∀ i, i < n → ¬ N (630 + 40 * i + 1) = nI c) (f0 : N' (630 + 40 * n + 0) = nI a) (f1 : N' (630 + 40 * n + 1) = nI c) (f2 : N' (630 + 40 * n + 2) = 50) (f3 : N' (630 + 40 * n + 3) = 0) (f4 : N' (630 + 40 * n + 4) = 0) (f5 : N' (630 + 40 * n + 5) = 0) (f6 : N' (630 + 40 * n + 6) = -1) (g16 : N' 16 = nI (n + 1)) (e : ∀ y, ¬ (y = 16 ∨ (630 + 40 * n ≤ y ∧ y < 670 + 40 * n)) → N' y = N y) : iV N' w h (n + 1) l k o r T := by
  have hr := iV_r hV
  obtain ⟨⟨t1, t2, t3, t4, ⟨b, b1, b2⟩, ⟨v, v1, v2⟩⟩, H2, H3, ⟨h15, h16, h17, h18, h19⟩, ⟨hn, hl8, hk, ho⟩, ⟨la, lb, hL⟩, h5, h6, hLo, hH, hY, hO, ⟨h7, hT7⟩, hR, hC⟩ := hV
  have hcc := mo_W_c t1
  refine ⟨⟨⟨(e 0 (by omega)).trans t1.1, (e 1 (by omega)).trans t1.2.1, t1.2.2⟩, fun i hi => ?_, fun i j h1 h2 => ?_, fun x hx => by rw [e _ (by omega)]; exact t4 x hx, ⟨b, b1, (e 4 (by omega)).trans b2⟩, ⟨v, v1, (e 12 (by omega)).trans v2⟩⟩, fun i hi => ?_, fun p hp => ?_, ⟨(e 15 (by omega)).trans h15, g16, (e 17 (by omega)).trans h17, (e 18 (by omega)).trans h18, (e 19 (by omega)).trans h19⟩, ⟨by omega, hl8, hk, ho⟩, ⟨la, lb, (e 2 (by omega)).trans hL.1, (e 3 (by omega)).trans hL.2.1, hL.2.2⟩, by rw [e 5 (by omega)]; exact h5, by rw [e 6 (by omega)]; exact h6, fun i hi => by rw [e _ (by omega)]; exact hLo i hi, fun i hi => by rw [e _ (by omega)]; exact hH i hi, fun i hi => by rw [e _ (by omega)]; exact hY i hi, fun i hi => ?_, ⟨(e 7 (by omega)).trans h7, hT7⟩, fun i hi => by rw [e _ (by omega), e _ (by omega), e _ (by omega)]; exact hR i hi, fun j => by rw [rcnt_c _ (fun i hi => e _ (by omega))]; exact hC j⟩
  · by_cases z : i = n
    · subst z; exact ⟨⟨a, ha, f0⟩, ⟨c, hc, f1⟩, ⟨50, by decide, f2⟩, ⟨0, by decide, f3⟩, ⟨0, by decide, f4⟩, ⟨0, by decide, f5⟩⟩
    · exact mf1_c (t2 i (by omega)) (fun j hj => e _ (by omega))
  · by_cases z : j = n
    · subst z; rw [f1, e _ (by omega)]; exact hno i (by omega)
    · rw [e _ (by omega), e _ (by omega)]; exact t3 i j h1 (by omega)
  · by_cases z : i = n
    · subst z; exact Or.inl f6
    · exact mP_c (n := n) (e _ (by omega)) (e _ (by omega)) (fun x hx => e x (by omega)) (H2 i (by omega))
  · obtain ⟨k', k1, k2⟩ := H3 p hp
    exact ⟨k', (e _ (by omega)).trans k1, mo_T_eq (fun x hx => e x (by omega)) k2⟩
  · obtain ⟨⟨m, m1, m2⟩, p, p1, p2⟩ := hO i hi
    exact ⟨⟨m, by omega, (e _ (by omega)).trans m2⟩, p, p1, (e _ (by omega)).trans p2⟩
set_option maxHeartbeats 400000 in
theorem cl_machine {g : mm_G} {d : Nat} {I : mm_I} {w h n l k o r T : Nat} (H : RC I) (hS : siR I (I 201) w h n l k o r T) {x c : Int32} (hd : 160 ≤ d) : mm_Di g zX11_machine d [.ref 0, .int x, .int c] sh_S I (St I (op_machine w h n I x c)) := by
  have hz := iV_z hS.1
  obtain ⟨hz1, hz2, hz3, hz4, hz5, hz6⟩ := id hz
  have hW := hS.1.1.1
  have hD := hS.1.1.2.2.1
  by_cases c1 : ¬ sp_wi x 0 3 ∨ ¬ sp_isC w h c
  · have q := cb_machB (g := g) (d := d) (A := I) hz hW c1 (by omega)
    rw [← sS_self hS.2.1] at q
    have e : op_machine w h n I x c = (-1000000001, I) := by unfold op_machine; rw [if_pos c1]
    rw [e]; exact mm_Ci_Di q (St_id H)
  have a1 : sp_wi x 0 3 := Decidable.not_not.mp (fun z => c1 (Or.inl z))
  have a2 : sp_isC w h c := Decidable.not_not.mp (fun z => c1 (Or.inr z))
  obtain ⟨c', cc, rfl⟩ := sp_isC_nat (by omega) a2
  by_cases c2 : I 201 (30 + c') = 1 ∨ 0 ≤ sp_mo (I 201) (nI c') n
  · have q := cb_machN (g := g) (d := d) (A := I) hz hW a1 cc hD c2 (by omega)
    rw [← sS_self hS.2.1] at q
    have e : op_machine w h n I x (nI c') = (-1000000002, I) := by unfold op_machine; rw [if_neg c1, vv_nI (by omega), if_pos c2]
    rw [e]; exact mm_Ci_Di q (St_id H)
  by_cases c3 : n = 5
  · have q := cb_machF (g := g) (d := d) (A := I) hz hW a1 cc hD c2 c3 (by omega)
    rw [← sS_self hS.2.1] at q
    have e : op_machine w h n I x (nI c') = (-1000000003, I) := by unfold op_machine; rw [if_neg c1, vv_nI (by omega), if_neg c2, if_pos c3]
    rw [e]; exact mm_Ci_Di q (St_id H)
  have q := cb_mach (g := g) (d := d) (A := I) hz hW a1 cc hD c2 (by omega) (by omega)
  rw [← sS_self hS.2.1] at q
  have e : op_machine w h n I x (nI c') = (nI n, mm_up (mm_up (mm_up (mm_up (mm_up (mm_up (mm_up (mm_up I 201 (630 + 40 * n + 0) x) 201 (630 + 40 * n + 1) (nI c')) 201 (630 + 40 * n + 2) 50) 201 (630 + 40 * n + 3) 0) 201 (630 + 40 * n + 4) 0) 201 (630 + 40 * n + 5) 0) 201 (630 + 40 * n + 6) (-1)) 201 16 (nI (n + 1))) := by unfold op_machine; rw [if_neg c1, vv_nI (by omega), if_neg c2, if_neg c3]
  rw [e]
  obtain ⟨x', x1, rfl⟩ := sp_wi_nat 3 (by decide) a1
  have er : mm_up (mm_up (mm_up (mm_up (mm_up (mm_up (mm_up (mm_up I 201 (630 + 40 * n + 0) (nI x')) 201 (630 + 40 * n + 1) (nI c')) 201 (630 + 40 * n + 2) 50) 201 (630 + 40 * n + 3) 0) 201 (630 + 40 * n + 4) 0) 201 (630 + 40 * n + 5) 0) 201 (630 + 40 * n + 6) (-1)) 201 16 (nI (n + 1)) 201 = upd (upd (upd (upd (upd (upd (upd (upd (I 201) (630 + 40 * n + 0) (nI x')) (630 + 40 * n + 1) (nI c')) (630 + 40 * n + 2) 50) (630 + 40 * n + 3) 0) (630 + 40 * n + 4) 0) (630 + 40 * n + 5) 0) (630 + 40 * n + 6) (-1)) 16 (nI (n + 1)) := by rw [up_201, up_201, up_201, up_201, up_201, up_201, up_201, up_201]
  generalize hNN : upd (upd (upd (upd (upd (upd (upd (upd (I 201) (630 + 40 * n + 0) (nI x')) (630 + 40 * n + 1) (nI c')) (630 + 40 * n + 2) 50) (630 + 40 * n + 3) 0) (630 + 40 * n + 4) 0) (630 + 40 * n + 5) 0) (630 + 40 * n + 6) (-1)) 16 (nI (n + 1)) = NN at er
  have g16 : NN 16 = nI (n + 1) := by rw [← hNN]; exact upd_y
  have g0 : NN (630 + 40 * n + 0) = nI x' := by rw [← hNN, upd_n (by omega), upd_n (by omega), upd_n (by omega), upd_n (by omega), upd_n (by omega), upd_n (by omega), upd_n (by omega), upd_y]
  have g1 : NN (630 + 40 * n + 1) = nI c' := by rw [← hNN, upd_n (by omega), upd_n (by omega), upd_n (by omega), upd_n (by omega), upd_n (by omega), upd_n (by omega), upd_y]
  have g2 : NN (630 + 40 * n + 2) = 50 := by rw [← hNN, upd_n (by omega), upd_n (by omega), upd_n (by omega), upd_n (by omega), upd_n (by omega), upd_y]
  have g3 : NN (630 + 40 * n + 3) = 0 := by rw [← hNN, upd_n (by omega), upd_n (by omega), upd_n (by omega), upd_n (by omega), upd_y]
  have g4 : NN (630 + 40 * n + 4) = 0 := by rw [← hNN, upd_n (by omega), upd_n (by omega), upd_n (by omega), upd_y]
  have g5 : NN (630 + 40 * n + 5) = 0 := by rw [← hNN, upd_n (by omega), upd_n (by omega), upd_y]
  have g6 : NN (630 + 40 * n + 6) = -1 := by rw [← hNN, upd_n (by omega), upd_y]
  have ge : ∀ y, ¬ (y = 16 ∨ (630 + 40 * n ≤ y ∧ y < 670 + 40 * n)) → NN y = I 201 y := fun y hy => by rw [← hNN, upd_n (by omega), upd_n (by omega), upd_n (by omega), upd_n (by omega), upd_n (by omega), upd_n (by omega), upd_n (by omega), upd_n (by omega)]
  have hno : ∀ i, i < n → ¬ I 201 (630 + 40 * i + 1) = nI c' := fun i hi z => c2 (Or.inr (by rw [sp_mo_at n hD hi z]; exact nI_pos' (by omega)))
  obtain ⟨k0, k1, k2, k3, k4, k5, k6⟩ := mb_at (I := mm_up I 1 4 (nI (n + 1))) (a := 36 + 3 * n) (x := nI x') (y := nI c')
  have kM : ∀ a, ¬ (a = 1 ∨ a = 36 + 3 * n ∨ a = 37 + 3 * n ∨ a = 38 + 3 * n) → mbM (mm_up I 1 4 (nI (n + 1))) (36 + 3 * n) (nI x') (nI c') a = I a := fun a ha => by rw [mb_n (by omega), mm_up_a (by omega)]
  refine mm_Ci_Di q ⟨fun b hb => kM b (by omega), rfl, RC_now (w := w) (h := h) (n := n + 1) (l := l) (k := k) (o := o) (r := r) (T := T) H (fun b hb => kM b (by omega)) (outJ_a (fun a h1 h2 => by dsimp only; rw [mm_up_a h2, mm_up_a h2, mm_up_a h2, mm_up_a h2, mm_up_a h2, mm_up_a h2, mm_up_a h2, mm_up_a h2])) ?_⟩
  show siR _ (mm_up (mm_up (mm_up (mm_up (mm_up (mm_up (mm_up (mm_up I 201 (630 + 40 * n + 0) (nI x')) 201 (630 + 40 * n + 1) (nI c')) 201 (630 + 40 * n + 2) 50) 201 (630 + 40 * n + 3) 0) 201 (630 + 40 * n + 4) 0) 201 (630 + 40 * n + 5) 0) 201 (630 + 40 * n + 6) (-1)) 201 16 (nI (n + 1)) 201) _ _ _ _ _ _ _ _
  rw [er]
  refine ⟨iV_mach hS.1 (by omega) x1 cc hno g0 g1 g2 g3 g4 g5 g6 g16 ge, sS_ma hz (by omega) hS.2.1 kM (am_n (by omega)) (fun i hi => ?_) ge, fun p hp => ?_⟩
  · rcases show i = 0 ∨ i = 1 ∨ i = 2 ∨ i = 3 ∨ i = 4 ∨ i = 5 ∨ i = 6 by omega with z | z | z | z | z | z | z <;> subst z
    · exact k0.trans g0.symm
    · exact k1.trans g1.symm
    · exact k2.trans g2.symm
    · exact k3.trans g3.symm
    · exact k4.trans g4.symm
    · exact k5.trans g5.symm
    · exact k6.trans g6.symm
  · refine pgR_any (hS.2.2 p hp) hz2 hp (fun b h1 h2 => kM b (by omega)) (fun y hy => ge y (by omega)) (fun i hi hr => ?_)
    have hin : ¬ i = n := fun z => by subst z; exact nI_m (hr.symm.trans g6) (by omega)
    exact ⟨by omega, by rw [kM _ (by omega)], kM _ (by omega), fun y h1 h2 => ge y (by omega)⟩
