/-! THE SITE as both have it: stages of a TICK -/
theorem sS_o {c n l k o r o' : Nat} {M : mm_I} {N : Nat → Int32} {v : Int32} (hz : zOK c n l k o r) (H : sS c n l k o r M N) (ho : o' ≤ o) : sS c n l k o' r (mm_up M 82 1 (nI (3 * o'))) (upd N 17 v) := by
  have hz1 := hz.1; have hz2 := hz.2.1
  have e : ∀ a, a ≠ 82 → mm_up M 82 1 (nI (3 * o')) a = M a := fun a h => mm_up_a h
  refine sS.mk ?_ ?_ ?_ ?_ (fun i hi => ?_) (fun i hi => ?_) (fun i hi => ?_) (fun y hy => ?_) (fun y j hy hj hh => ?_) (fun i hi => ?_) ?_ (fun i hi => ?_) ?_ ?_ (fun i hi => ?_) (fun i hi => ?_) (fun i hi => ?_) (fun i hi => ?_) (fun i hi => ?_) (fun i hi => ?_) (fun m i hm hi => ?_) (fun i hi => ?_) (fun i hi => ?_) (fun a ha => ?_) (fun a ha => ?_) mm_up_at ?_ ?_
  · rw [e 2 (by decide), upd_n (by omega)]; exact H.w
  · rw [e 2 (by decide), upd_n (by omega)]; exact H.h
  · rw [e 2 (by decide), upd_n (by omega)]; exact H.fu
  · rw [e 2 (by decide), upd_n (by omega)]; exact H.lo
  · rw [e 4 (by decide), upd_n (by omega)]; exact H.ki i hi
  · rw [e 6 (by decide), upd_n (by omega)]; exact H.du i hi
  · rw [e 8 (by decide), upd_n (by omega)]; exact H.ic i hi
  · rw [e 10 (by decide), upd_n (by omega)]; exact H.se y hy
  · rw [upd_n (by omega)] at hh; rw [e 10 (by decide), upd_n (by omega)]; exact H.sf y j hy hj hh
  · rw [e 12 (by decide), upd_n (by omega)]; exact H.st i hi
  · rw [e 17 (by decide), upd_n (by omega)]; exact H.p0
  · rw [e 17 (by decide), upd_n (by omega)]; exact H.p1 i hi
  · rw [e 17 (by decide), upd_n (by omega)]; exact H.p6
  · rw [e 17 (by decide), upd_n (by omega)]; exact H.p7
  · rw [e 19 (by decide), upd_n (by omega)]; exact H.l0 i hi
  · rw [e 21 (by decide), upd_n (by omega)]; exact H.l1 i hi
  · rw [e 24 (by decide), upd_n (by omega)]; exact H.k0 i hi
  · rw [e 26 (by decide), upd_n (by omega)]; exact H.k1 i hi
  · rw [e 28 (by decide), upd_n (by omega)]; exact H.k2 i hi
  · rw [e 30 (by decide), upd_n (by omega)]; exact H.k3 i hi
  · rw [e _ (by omega), upd_n (by omega)]; exact H.m m i hm hi
  · rw [e 83 (by decide), upd_n (by omega)]; exact H.o0 i (by omega)
  · rw [e 85 (by decide), upd_n (by omega)]; exact H.r0 i hi
  · rw [e a (by omega)]; exact H.cl a ha
  · rw [e a (by omega)]; exact H.ck a ha
  · rw [e 84 (by decide)]; exact H.cr
  · rw [e 1 (by decide)]; exact H.cn
theorem sS_r {c n l k o r r' : Nat} {M : mm_I} {N : Nat → Int32} {v : Int32} (hz : zOK c n l k o r) (H : sS c n l k o r M N) (hr : r' ≤ r) : sS c n l k o r' (mm_up M 84 1 (nI (6 * r'))) (upd N 18 v) := by
  have hz1 := hz.1; have hz2 := hz.2.1
  have e : ∀ a, a ≠ 84 → mm_up M 84 1 (nI (6 * r')) a = M a := fun a h => mm_up_a h
  refine sS.mk ?_ ?_ ?_ ?_ (fun i hi => ?_) (fun i hi => ?_) (fun i hi => ?_) (fun y hy => ?_) (fun y j hy hj hh => ?_) (fun i hi => ?_) ?_ (fun i hi => ?_) ?_ ?_ (fun i hi => ?_) (fun i hi => ?_) (fun i hi => ?_) (fun i hi => ?_) (fun i hi => ?_) (fun i hi => ?_) (fun m i hm hi => ?_) (fun i hi => ?_) (fun i hi => ?_) (fun a ha => ?_) (fun a ha => ?_) ?_ mm_up_at ?_
  · rw [e 2 (by decide), upd_n (by omega)]; exact H.w
  · rw [e 2 (by decide), upd_n (by omega)]; exact H.h
  · rw [e 2 (by decide), upd_n (by omega)]; exact H.fu
  · rw [e 2 (by decide), upd_n (by omega)]; exact H.lo
  · rw [e 4 (by decide), upd_n (by omega)]; exact H.ki i hi
  · rw [e 6 (by decide), upd_n (by omega)]; exact H.du i hi
  · rw [e 8 (by decide), upd_n (by omega)]; exact H.ic i hi
  · rw [e 10 (by decide), upd_n (by omega)]; exact H.se y hy
  · rw [upd_n (by omega)] at hh; rw [e 10 (by decide), upd_n (by omega)]; exact H.sf y j hy hj hh
  · rw [e 12 (by decide), upd_n (by omega)]; exact H.st i hi
  · rw [e 17 (by decide), upd_n (by omega)]; exact H.p0
  · rw [e 17 (by decide), upd_n (by omega)]; exact H.p1 i hi
  · rw [e 17 (by decide), upd_n (by omega)]; exact H.p6
  · rw [e 17 (by decide), upd_n (by omega)]; exact H.p7
  · rw [e 19 (by decide), upd_n (by omega)]; exact H.l0 i hi
  · rw [e 21 (by decide), upd_n (by omega)]; exact H.l1 i hi
  · rw [e 24 (by decide), upd_n (by omega)]; exact H.k0 i hi
  · rw [e 26 (by decide), upd_n (by omega)]; exact H.k1 i hi
  · rw [e 28 (by decide), upd_n (by omega)]; exact H.k2 i hi
  · rw [e 30 (by decide), upd_n (by omega)]; exact H.k3 i hi
  · rw [e _ (by omega), upd_n (by omega)]; exact H.m m i hm hi
  · rw [e 83 (by decide), upd_n (by omega)]; exact H.o0 i hi
  · rw [e 85 (by decide), upd_n (by omega)]; exact H.r0 i (by omega)
  · rw [e a (by omega)]; exact H.cl a ha
  · rw [e a (by omega)]; exact H.ck a ha
  · rw [e 82 (by decide)]; exact H.co
  · rw [e 1 (by decide)]; exact H.cn
/-- cells that a TICK leaves alone -/
abbrev tkF (M' M : mm_I) : Prop := ∀ b, (b = 0 ∨ (51 ≤ b ∧ b < 82) ∨ (86 ≤ b ∧ ¬ (b = 172 ∨ b = 173)) ∨ (31 ≤ b ∧ b ≤ 35) ∨ b = 22) → M' b = M b
theorem st_1 {M J : mm_I} {w h n l k o r T : Nat} (H : siR M (J 201) w h n l k o r T) : sS (w * h) n l k (oc J o).2 r (mm_up (cN (w * h) n l k o r (oA J M o) ((oc J o).1 201)) 82 1 (nI (3 * (oc J o).2))) (op_oc J o 201) ∧ (∀ p, p < 6 → pgR (mm_up (cN (w * h) n l k o r (oA J M o) ((oc J o).1 201)) 82 1 (nI (3 * (oc J o).2))) (op_oc J o 201) n p) ∧ tkF (mm_up (cN (w * h) n l k o r (oA J M o) ((oc J o).1 201)) 82 1 (nI (3 * (oc J o).2))) M := by
  obtain ⟨H1, H2, H3⟩ := H
  have hz := iV_z H1
  obtain ⟨hz1, hz2, hz3, hz4, hz5, hz6⟩ := id hz
  have hO : mo_On (J 201) n o := H1.2.2.2.2.2.2.2.2.2.2.2.1
  have e17 : op_oc J o 201 = upd ((oc J o).1 201) 17 (nI (oc J o).2) := by unfold op_oc; rw [up_201]
  have hM : ∀ b, offC b → ¬ b = 82 → mm_up (cN (w * h) n l k o r (oA J M o) ((oc J o).1 201)) 82 1 (nI (3 * (oc J o).2)) b = oA J M o b := fun b hb h => by rw [mm_up_a h, cN_oa hz2 hb]
  refine ⟨?_, fun p hp => ?_, fun b hb => ?_⟩
  · rw [e17]; exact sS_o hz (sS_cN hz) (oc_le o)
  · refine pgR_bg (H3 p hp) hz2 hp (fun b h1 h2 => ?_) (fun y hy => ?_) (fun m hm => ?_)
    · rw [hM b (by omega) (by omega), oA_n hO hz2 (by omega) o (Nat.le_refl _)]
    · rw [e17, upd_n (by omega)]; exact oc_ne (On_O hO hz2) o (Nat.le_refl _) (by omega)
    · have e := oc_bg (A := M) hz2 hz5 hO (show m < 5 by omega) o (Nat.le_refl _)
      have e7 : mm_up (cN (w * h) n l k o r (oA J M o) ((oc J o).1 201)) 82 1 (nI (3 * (oc J o).2)) (36 + 3 * m) 7 = oA J M o (36 + 3 * m) 7 := by rw [mm_up_ne (by omega)]; exact s_m7 hz2 (by omega)
      rcases e with ⟨e1, e2, e3⟩ | ⟨p', p1, p2, p3, p4, p5⟩
      · exact Or.inl ⟨fun j hj => by rw [e17, upd_n (by omega)]; exact e1 j hj, e7.trans e2, (hM _ (by omega) (by omega)).trans e3⟩
      · exact Or.inr ⟨p', p1, by rw [e17, upd_n (by omega)]; exact p2, by rw [e17, upd_n (by omega)]; exact p3, fun s hs => by rw [e17, upd_n (by omega)]; exact p4 s hs, e7.trans p5⟩
  · rw [hM b (by omega) (by omega), oA_n hO hz2 (by omega) o (Nat.le_refl _)]
theorem st_2 {M J : mm_I} {w h n l k o r : Nat} (hz : zOK (w * h) n l k o r) (hR : mo_R (J 201) r) (H3 : ∀ p, p < 6 → pgR M (J 201) n p) : sS (w * h) n l k o (rc J r).2 (mm_up (cN (w * h) n l k o r M ((rc J r).1 201)) 84 1 (nI (6 * (rc J r).2))) (op_rc J r 201) ∧ (∀ p, p < 6 → pgR (mm_up (cN (w * h) n l k o r M ((rc J r).1 201)) 84 1 (nI (6 * (rc J r).2))) (op_rc J r 201) n p) ∧ tkF (mm_up (cN (w * h) n l k o r M ((rc J r).1 201)) 84 1 (nI (6 * (rc J r).2))) M := by
  obtain ⟨hz1, hz2, hz3, hz4, hz5, hz6⟩ := id hz
  have e18 : op_rc J r 201 = upd ((rc J r).1 201) 18 (nI (rc J r).2) := by unfold op_rc; rw [up_201]
  have hM : ∀ b, offC b → ¬ b = 84 → mm_up (cN (w * h) n l k o r M ((rc J r).1 201)) 84 1 (nI (6 * (rc J r).2)) b = M b := fun b hb h => by rw [mm_up_a h, cN_oa hz2 hb]
  refine ⟨?_, fun p hp => ?_, fun b hb => hM b (by omega) (by omega)⟩
  · rw [e18]; exact sS_r hz (sS_cN hz) (rc_le r)
  · refine pgR_c (H3 p hp) hz2 hp (fun b hb => hM b (by omega) (by omega)) (fun m hm => ?_) (fun y hy => ?_)
    · rw [mm_up_ne (by omega)]; exact s_m7 hz2 (by omega)
    · rw [e18, upd_n (by omega)]; exact rc_ne hR r (Nat.le_refl _) (by omega)
/-- a row that shows other numbers of MACHINES, THE BANK .. -/
theorem st_n {M : mm_I} {N N' : Nat → Int32} {w h n l k o r : Nat} (hz : zOK (w * h) n l k o r) (H3 : ∀ p, p < 6 → pgR M N n p) (hN : ∀ y, (630 ≤ y ∧ y < 830 ∧ 6 ≤ (y - 630) % 40) ∨ 1226 ≤ y → N' y = N y) : sS (w * h) n l k o r (cN (w * h) n l k o r M N') N' ∧ (∀ p, p < 6 → pgR (cN (w * h) n l k o r M N') N' n p) ∧ tkF (cN (w * h) n l k o r M N') M := by
  obtain ⟨hz1, hz2, hz3, hz4, hz5, hz6⟩ := id hz
  refine ⟨sS_cN hz, fun p hp => pgR_c (H3 p hp) hz2 hp (fun b hb => cN_oa hz2 (by omega)) (fun m hm => s_m7 hz2 (by omega)) hN, fun b hb => cN_oa hz2 (by omega)⟩
theorem tkF_t {M M' M2 : mm_I} (h : tkF M' M) (h2 : tkF M2 M') : tkF M2 M := fun b hb => (h2 b hb).trans (h b hb)
