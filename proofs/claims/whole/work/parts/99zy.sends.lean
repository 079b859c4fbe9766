/-! THE SITE as both have it: REPORTS go, one MACHINE after the other -/
theorem sS_w {c n l k o r : Nat} {M : mm_I} {N N' : Nat → Int32} (hz : zOK c n l k o r) (H : sS c n l k o r M N) (hN : ∀ y, ¬ y = 18 → y < 866 + 6 * r → N' y = N y) : sS c n l k o r M N' := by
  have hz1 := hz.1; have hz2 := hz.2.1; have hz3 := hz.2.2.1; have hz4 := hz.2.2.2.1; have hz5 := hz.2.2.2.2.1
  refine sS.mk ?_ ?_ ?_ ?_ (fun i hi => ?_) (fun i hi => ?_) (fun i hi => ?_) (fun y hy => ?_) (fun y j hy hj hh => ?_) (fun i hi => ?_) ?_ (fun i hi => ?_) ?_ ?_ (fun i hi => ?_) (fun i hi => ?_) (fun i hi => ?_) (fun i hi => ?_) (fun i hi => ?_) (fun i hi => ?_) (fun m i hm hi => ?_) (fun i hi => ?_) (fun i hi => ?_) H.cl H.ck H.co H.cr H.cn
  · rw [hN _ (by omega) (by omega)]; exact H.w
  · rw [hN _ (by omega) (by omega)]; exact H.h
  · rw [hN _ (by omega) (by omega)]; exact H.fu
  · rw [hN _ (by omega) (by omega)]; exact H.lo
  · rw [hN _ (by omega) (by omega)]; exact H.ki i hi
  · rw [hN _ (by omega) (by omega)]; exact H.du i hi
  · rw [hN _ (by omega) (by omega)]; exact H.ic i hi
  · rw [hN _ (by omega) (by omega)]; exact H.se y hy
  · rw [hN _ (by omega) (by omega)] at hh; rw [hN _ (by omega) (by omega)]; exact H.sf y j hy hj hh
  · rw [hN _ (by omega) (by omega)]; exact H.st i hi
  · rw [hN _ (by omega) (by omega)]; exact H.p0
  · rw [hN _ (by omega) (by omega)]; exact H.p1 i hi
  · rw [hN _ (by omega) (by omega)]; exact H.p6
  · rw [hN _ (by omega) (by omega)]; exact H.p7
  · rw [hN _ (by omega) (by omega)]; exact H.l0 i hi
  · rw [hN _ (by omega) (by omega)]; exact H.l1 i hi
  · rw [hN _ (by omega) (by omega)]; exact H.k0 i hi
  · rw [hN _ (by omega) (by omega)]; exact H.k1 i hi
  · rw [hN _ (by omega) (by omega)]; exact H.k2 i hi
  · rw [hN _ (by omega) (by omega)]; exact H.k3 i hi
  · rw [hN _ (by omega) (by omega)]; exact H.m m i hm hi
  · rw [hN _ (by omega) (by omega)]; exact H.o0 i hi
  · rw [hN _ (by omega) (by omega)]; exact H.r0 i hi
def ofF (M' M : mm_I) : Prop := (∀ b, offC b → M' b = M b) ∧ ∀ i, i < 5 → M' (36 + 3 * i) 7 = M (36 + 3 * i) 7
theorem ofF_0 {M : mm_I} : ofF M M := ⟨fun _ _ => rfl, fun _ _ => rfl⟩
theorem ofF_t {M M' M2 : mm_I} (h : ofF M' M) (h2 : ofF M2 M') : ofF M2 M := ⟨fun b hb => (h2.1 b hb).trans (h.1 b hb), fun i hi => (h2.2 i hi).trans (h.2 i hi)⟩
theorem ofF_cN {c n l k o r : Nat} {A : mm_I} {N : Nat → Int32} (hn : n ≤ 5) : ofF (cN c n l k o r A N) A := ⟨fun b hb => cN_oa hn hb, fun i hi => s_m7 hn hi⟩
theorem ofF_u {M M' : mm_I} {a i : Nat} {v : Int32} (h : ofF M' M) (ha : a = 84 ∨ a = 85) : ofF (mm_up M' a i v) M := ⟨fun b hb => by rw [mm_up_a (by omega)]; exact h.1 b hb, fun j hj => by rw [mm_up_ne (by omega)]; exact h.2 j hj⟩
def r5 (J M : mm_I) (c n l k o r0 i : Nat) : Prop := (J 201 6 = 0 → sS c n l k o r0 M (lr J i)) ∧ (¬ J 201 6 = 0 → sS c n l k o (rg J r0 i).2 M ((rg J r0 i).1 201))
set_option maxHeartbeats 600000 in
theorem cg_sr {g : mm_G} {d : Nat} {M J : mm_I} {w h n l k o r0 m T : Nat} (hz : zOK (w * h) n l k o r0) (hr0 : r0 ≤ 40) (H : iT (J 201) w h n) (h7 : J 201 7 = nI T) (hT : T ≤ 2000) (hS : r5 J M (w * h) n l k o r0 m) (hm : m < n) (hd : 2 ≤ d) : mm_Dv g zX6_sendReport d [.ref 171, .ref (36 + 3 * m)] sh_S M (fun M' => r5 J M' (w * h) n l k o r0 (m + 1) ∧ ofF M' M) := by
  obtain ⟨hz1, hz2, hz3, hz4, hz5, hz6⟩ := id hz
  have hcc := mo_W_c H.1
  obtain ⟨-, ⟨c, c1, c2⟩, -, ⟨v, v1, v2⟩, -⟩ := H.2.1 m hm
  by_cases h6 : J 201 6 = 0
  · have hs := hS.1 h6
    have hself := sS_self hs
    have hln := lr_n (iT_C H) hcc.2 m (by omega)
    have hW : mo_W (lr J m) w h := ⟨(hln 0 (by omega)).trans H.1.1, (hln 1 (by omega)).trans H.1.2.1, H.1.2.2⟩
    by_cases hb : J 201 (630 + 40 * m + 3) = 100
    · have hc := cg_srB (g := g) (d := d) (A := M) hz hW hm (by rw [hln _ (by omega), hb]; exact Int32.le_refl _) (by omega)
      rw [← hself] at hc
      refine mm_Cv_Dv hc ⟨⟨fun _ => ?_, fun q => absurd h6 q⟩, ofF_0⟩
      rw [lr, if_pos hb]; exact hs
    · have hb' : ¬ 100 ≤ lr J m (630 + 40 * m + 3) := fun e => hb (by rw [hln _ (by omega), v2] at e; rw [v2]; have := (nI_leI (a := 100) (by decide) (by omega)).mp e; rw [show v = 100 by omega]; rfl)
      have hc := cg_sr0 (g := g) (d := d) (A := M) hz hW hm hb' ((hln _ (by omega)).trans c2) c1 ((hln 6 (by omega)).trans h6) (by rw [hln 7 (by omega), h7]; exact nI_pos' (by omega)) hd
      rw [← hself] at hc
      have e : mp_ (lr J m) c (lr J m (30 + c)) (lr J m (110 + c)) (lr J m (190 + c)) (lr J m 7) = lr J (m + 1) := by
        show _ = (if J 201 (630 + 40 * m + 3) = 100 then lr J m else mp_ (lr J m) (vv (J 201 (630 + 40 * m + 1))) (J 201 (30 + vv (J 201 (630 + 40 * m + 1)))) (J 201 (110 + vv (J 201 (630 + 40 * m + 1)))) (J 201 (190 + vv (J 201 (630 + 40 * m + 1)))) (J 201 7))
        rw [if_neg hb, c2, vv_nI (by omega), hln _ (by omega), hln _ (by omega), hln _ (by omega), hln 7 (by omega)]
      rw [e] at hc
      exact mm_Cv_Dv hc ⟨⟨fun _ => sS_cN hz, fun q => absurd h6 q⟩, ofF_cN hz2⟩
  · have hs := hS.2 h6
    have hl := rg_le (J := J) (r0 := r0) m
    have hz' : zOK (w * h) n l k o (rg J r0 m).2 := ⟨hz1, hz2, hz3, hz4, hz5, by omega⟩
    have hself := sS_self hs
    have hln : ∀ y, y < 866 → ¬ y = 18 → (rg J r0 m).1 201 y = J 201 y := fun y h1 h2 => rg_ne (Or.inr ⟨h2, by omega⟩) m
    have hW : mo_W ((rg J r0 m).1 201) w h := ⟨(hln 0 (by omega) (by omega)).trans H.1.1, (hln 1 (by omega) (by omega)).trans H.1.2.1, H.1.2.2⟩
    by_cases hb : J 201 (630 + 40 * m + 3) = 100
    · have hc := cg_srB (g := g) (d := d) (A := M) hz' hW hm (by rw [hln _ (by omega) (by omega), hb]; exact Int32.le_refl _) (by omega)
      rw [← hself] at hc
      refine mm_Cv_Dv hc ⟨⟨fun q => absurd q h6, fun _ => ?_⟩, ofF_0⟩
      rw [rg, if_pos hb]; exact hs
    · have hb' : ¬ 100 ≤ (rg J r0 m).1 201 (630 + 40 * m + 3) := fun e => hb (by rw [hln _ (by omega) (by omega), v2] at e; rw [v2]; have := (nI_leI (a := 100) (by decide) (by omega)).mp e; rw [show v = 100 by omega]; rfl)
      have hc := cg_sr1 (g := g) (d := d) (A := M) hz' hW hm hb' ((hln _ (by omega) (by omega)).trans c2) c1 (by rw [hln 6 (by omega) (by omega)]; exact h6) (by omega) hd
      have hc2 : mm_Cv g zX6_sendReport d [.ref 171, .ref (36 + 3 * m)] sh_S M (mm_up (mm_up (mm_up (mm_up (mm_up (mm_up (mm_up (mm_up (mm_up (mm_up (mm_up (mm_up (cN (w * h) n l k o ((rg J r0 m).2) M ((rg J r0 m).1 201)) 85 (6 * (rg J r0 m).2 + 0) (nI c)) 84 1 (nI (6 * (rg J r0 m).2 + 0 + 1))) 85 (6 * (rg J r0 m).2 + 1) ((rg J r0 m).1 201 (30 + c))) 84 1 (nI (6 * (rg J r0 m).2 + 1 + 1))) 85 (6 * (rg J r0 m).2 + 2) ((rg J r0 m).1 201 (110 + c))) 84 1 (nI (6 * (rg J r0 m).2 + 2 + 1))) 85 (6 * (rg J r0 m).2 + 3) ((rg J r0 m).1 201 (190 + c))) 84 1 (nI (6 * (rg J r0 m).2 + 3 + 1))) 85 (6 * (rg J r0 m).2 + 4) ((rg J r0 m).1 201 7)) 84 1 (nI (6 * (rg J r0 m).2 + 4 + 1))) 85 (6 * (rg J r0 m).2 + 5) ((rg J r0 m).1 201 7 + (rg J r0 m).1 201 6)) 84 1 (nI (6 * (rg J r0 m).2 + 5 + 1))) := by
        have hc3 := hc
        rw [show mm_Cv g zX6_sendReport d [.ref 171, .ref (36 + 3 * m)] sh_S (cN (w * h) n l k o ((rg J r0 m).2) M ((rg J r0 m).1 201)) = mm_Cv g zX6_sendReport d [.ref 171, .ref (36 + 3 * m)] sh_S M by rw [← hself]] at hc3
        exact hc3
      refine mm_Cv_Dv hc2 ⟨⟨fun q => absurd q h6, fun _ => ?_⟩, ?_⟩
      · have ez : rg J r0 (m + 1) = (rg_a (rg J r0 m).1 (rg J r0 m).2 (rg_f (J 201) m), (rg J r0 m).2 + 1) := by rw [rg, if_neg hb]
        rw [ez]
        refine sS_ra hz' (sS_cN (A := M) hz') (fun a ha => ?_) (fun i hi => ?_) (fun e he => ?_) ?_ (fun y h1 h2 => show rg_a (rg J r0 m).1 (rg J r0 m).2 (rg_f (J 201) m) 201 y = (rg J r0 m).1 201 y from rg_a_ne (by omega) (Nat.zero_le _))
        · rw [mm_up_a (by omega), mm_up_a (by omega), mm_up_a (by omega), mm_up_a (by omega), mm_up_a (by omega), mm_up_a (by omega), mm_up_a (by omega), mm_up_a (by omega), mm_up_a (by omega), mm_up_a (by omega), mm_up_a (by omega), mm_up_a (by omega)]
        · rw [mm_up_ne (by decide), mm_up_ni (by omega), mm_up_ne (by decide), mm_up_ni (by omega), mm_up_ne (by decide), mm_up_ni (by omega), mm_up_ne (by decide), mm_up_ni (by omega), mm_up_ne (by decide), mm_up_ni (by omega), mm_up_ne (by decide), mm_up_ni (by omega)]
        · show _ = rg_a (rg J r0 m).1 (rg J r0 m).2 (rg_f (J 201) m) 201 (866 + 6 * (rg J r0 m).2 + e)
          rw [rg_a_at he]
          rcases show e = 0 ∨ e = 1 ∨ e = 2 ∨ e = 3 ∨ e = 4 ∨ e = 5 by omega with q | q | q | q | q | q <;> subst q
          · rw [mm_up_ne (by decide), mm_up_ni (by omega), mm_up_ne (by decide), mm_up_ni (by omega), mm_up_ne (by decide), mm_up_ni (by omega), mm_up_ne (by decide), mm_up_ni (by omega), mm_up_ne (by decide), mm_up_ni (by omega), mm_up_ne (by decide), mm_up_at]; exact c2.symm
          · rw [mm_up_ne (by decide), mm_up_ni (by omega), mm_up_ne (by decide), mm_up_ni (by omega), mm_up_ne (by decide), mm_up_ni (by omega), mm_up_ne (by decide), mm_up_ni (by omega), mm_up_ne (by decide), mm_up_at]
            show _ = J 201 (30 + vv (J 201 (630 + 40 * m + 1)))
            rw [c2, vv_nI (by omega)]; exact hln _ (by omega) (by omega)
          · rw [mm_up_ne (by decide), mm_up_ni (by omega), mm_up_ne (by decide), mm_up_ni (by omega), mm_up_ne (by decide), mm_up_ni (by omega), mm_up_ne (by decide), mm_up_at]
            show _ = J 201 (110 + vv (J 201 (630 + 40 * m + 1)))
            rw [c2, vv_nI (by omega)]; exact hln _ (by omega) (by omega)
          · rw [mm_up_ne (by decide), mm_up_ni (by omega), mm_up_ne (by decide), mm_up_ni (by omega), mm_up_ne (by decide), mm_up_at]
            show _ = J 201 (190 + vv (J 201 (630 + 40 * m + 1)))
            rw [c2, vv_nI (by omega)]; exact hln _ (by omega) (by omega)
          · rw [mm_up_ne (by decide), mm_up_ni (by omega), mm_up_ne (by decide), mm_up_at]
            show _ = J 201 7
            exact hln _ (by omega) (by omega)
          · rw [mm_up_ne (by decide), mm_up_at]
            show _ = J 201 7 + J 201 6
            rw [hln 7 (by omega) (by omega), hln 6 (by omega) (by omega)]
        · rw [mm_up_at]; congr 1
      · exact ofF_u (ofF_u (ofF_u (ofF_u (ofF_u (ofF_u (ofF_u (ofF_u (ofF_u (ofF_u (ofF_u (ofF_u (ofF_cN hz2) (by decide)) (by decide)) (by decide)) (by decide)) (by decide)) (by decide)) (by decide)) (by decide)) (by decide)) (by decide)) (by decide)) (by decide)
theorem r5_end {M J : mm_I} {w h n l k o r0 T L : Nat} (hz : zOK (w * h) n l k o r0) (hr0 : r0 ≤ 40) (H : iT (J 201) w h n) (h7 : J 201 7 = nI T) (hT : T ≤ 2000) (h6 : J 201 6 = nI L) (h18 : J 201 18 = nI r0) (hR : rpt (J 201) (w * h) (T + 1) T r0) (hS : r5 J M (w * h) n l k o r0 n) {r' : Nat} (hr' : r' ≤ 45) (he : op_rg J n r0 201 18 = nI r') : sS (w * h) n l k o r' M (op_rg J n r0 201) := by
  have hcc := mo_W_c H.1
  have hl := rg_le (J := J) (r0 := r0) n
  obtain ⟨hz1, hz2, hz3, hz4, hz5, hz6⟩ := id hz
  by_cases c : J 201 6 = 0
  · obtain ⟨q1, q2⟩ := lr_rc hT (by omega) hz2 h7 c (iT_C H) hcc.2 hR n (Nat.le_refl _)
    have e : op_rg J n r0 = op_rc (rg J r0 n).1 (rg J r0 n).2 := by unfold op_rg; rw [if_pos c]
    have e2 : op_rc (rg J r0 n).1 (rg J r0 n).2 201 = upd ((rc (rg J r0 n).1 (rg J r0 n).2).1 201) 18 (nI r0) := by unfold op_rc; rw [up_201, q1]
    rw [e, e2] at he ⊢
    rw [upd_y] at he
    have := nI_j he (by omega) (by omega)
    subst this
    exact sS_w hz (hS.1 c) (fun y h1 h2 => (upd_n h1).trans (q2 y h2 h1))
  · have e : op_rg J n r0 = (rg J r0 n).1 := by unfold op_rg; rw [if_neg c]
    rw [e] at he ⊢
    rw [rg_18 h18 n] at he
    have := nI_j he (by omega) (by omega)
    rw [← this]; exact hS.2 c
