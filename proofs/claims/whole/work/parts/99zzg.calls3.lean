/-! Calls of the class, as the reference would do them: LOADS, WORKS, ORDERS, MACHINES, ground -/
theorem St_gen {I A' J' : mm_I} {a : Int32} {w h n l k o r l' k' o' r' T T' : Nat} (H : RC I) (hS : siR I (I 201) w h n l k o r T) (hA : ofF A' I) (hV : iV (J' 201) w h n l' k' o' r' T') (hN : ∀ y, (630 ≤ y ∧ y < 830 ∧ 6 ≤ (y - 630) % 40) ∨ 1226 ≤ y → J' 201 y = I 201 y) (hJ : outJ J' I) : St I (a, J') a (cN (w * h) n l' k' o' r' A' (J' 201)) := by
  have hz := iV_z hV
  have hn := hz.2.1
  refine ⟨fun b hb => (cN_oa hn (by omega)).trans (hA.1 b (by omega)), rfl, RC_now H (fun b hb => (cN_oa hn (by omega)).trans (hA.1 b (by omega))) hJ ⟨hV, sS_cN hz, fun p hp => ?_⟩⟩
  exact pgR_c (hS.2.2 p hp) hn hp (fun b hb => (cN_oa hn (by omega)).trans (hA.1 b (by omega))) (fun m hm => (s_m7 hn (by omega)).trans (hA.2 m (by omega))) hN
theorem iV_load {N : Nat → Int32} {w h n l k o r T p v : Nat} (hV : iV N w h n l k o r T) (hl : l < 8) (hp : p ≤ 50) (hv : v ≤ 99) : iV (upd (upd (upd N (590 + l) (nI p)) (598 + l) (nI v)) 15 (nI (l + 1))) w h n (l + 1) k o r T := by
  have hr := iV_r hV
  obtain ⟨H1, H2, H3, ⟨h15, h16, h17, h18, h19⟩, ⟨hn, hl8, hk, ho⟩, ⟨la, lb, hL⟩, h5, h6, hLo, hH, hY, hO, ⟨h7, hT7⟩, hR, hC⟩ := hV
  have e : ∀ y, ¬ (y = 590 + l ∨ y = 598 + l ∨ y = 15) → upd (upd (upd N (590 + l) (nI p)) (598 + l) (nI v)) 15 (nI (l + 1)) y = N y := fun y hy => by rw [upd_n (by omega), upd_n (by omega), upd_n (by omega)]
  refine ⟨iT_e2 H1 hn (fun y hy => e y (by omega)), mP_e H2 hn (fun y hy => e y (by omega)) (fun y hy => e y (by omega)), fun p hp => ?_, ⟨upd_y, (e 16 (by omega)).trans h16, (e 17 (by omega)).trans h17, (e 18 (by omega)).trans h18, (e 19 (by omega)).trans h19⟩, ⟨hn, by omega, hk, ho⟩, ⟨la, lb, (e 2 (by omega)).trans hL.1, (e 3 (by omega)).trans hL.2.1, hL.2.2⟩, by rw [e 5 (by omega)]; exact h5, by rw [e 6 (by omega)]; exact h6, fun i hi => ?_, fun i hi => ?_, fun i hi => by rw [e _ (by omega)]; exact hY i hi, fun i hi => by rw [e _ (by omega), e _ (by omega)]; exact hO i hi, ⟨(e 7 (by omega)).trans h7, hT7⟩, fun i hi => by rw [e _ (by omega), e _ (by omega), e _ (by omega)]; exact hR i hi, fun j => by rw [rcnt_c _ (fun i hi => e _ (by omega))]; exact hC j⟩
  · obtain ⟨k', k1, k2⟩ := H3 p hp
    exact ⟨k', (e _ (by omega)).trans k1, mo_T_eq (fun x hx => e x (by omega)) k2⟩
  · by_cases z : i = l
    · subst z; exact ⟨p, hp, by rw [upd_n (by omega), upd_n (by omega), upd_y]⟩
    · rw [e _ (by omega)]; exact hLo i (by omega)
  · by_cases z : i = l
    · subst z; exact ⟨v, hv, by rw [upd_n (by omega), upd_y]⟩
    · rw [e _ (by omega)]; exact hH i (by omega)
theorem cl_load {g : mm_G} {d : Nat} {I : mm_I} {w h n l k o r T : Nat} (H : RC I) (hS : siR I (I 201) w h n l k o r T) {p v : Int32} (hd : 160 ≤ d) : mm_Di g zX11_load d [.ref 0, .int p, .int v] sh_S I (St I (op_load l I p v)) := by
  have hz := iV_z hS.1
  have hl8 := hz.2.2.1
  have q := cb_load (g := g) (d := d) (A := I) hz hS.1.1.1 (J := I) rfl hS.1.1.2.2.1 (iT_K hS.1.1) hS.1.2.2.2.1.1 (p := p) (v := v) (by omega)
  rw [← sS_self hS.2.1] at q
  refine mm_Ci_Di q ?_
  have id0 : ∀ a : Int32, St I (a, I) a (cN (w * h) n (vv (I 201 15)) k o r I (I 201)) := fun a => by
    rw [hS.1.2.2.2.1.1, vv_nI (by omega), ← sS_self hS.2.1]; exact St_id H
  by_cases c1 : ¬ sp_wi p 1 50 ∨ ¬ sp_wi v 1 99
  · have e : op_load l I p v = (-1000000001, I) := by unfold op_load; rw [if_pos c1]
    rw [e]; exact id0 _
  · by_cases c2 : l = 8
    · have e : op_load l I p v = (-1000000003, I) := by unfold op_load; rw [if_neg c1, if_pos c2]
      rw [e]; exact id0 _
    · have e : op_load l I p v = (nI l, mm_up (mm_up (mm_up I 201 (590 + l) p) 201 (598 + l) v) 201 15 (nI (l + 1))) := by unfold op_load; rw [if_neg c1, if_neg c2]
      rw [e]
      have a1 : sp_wi p 1 50 := Decidable.not_not.mp (fun z => c1 (Or.inl z))
      have a2 : sp_wi v 1 99 := Decidable.not_not.mp (fun z => c1 (Or.inr z))
      obtain ⟨p', p1, rfl⟩ := sp_wi_n 1 50 (by decide) (by decide) a1
      obtain ⟨v', v1, rfl⟩ := sp_wi_n 1 99 (by decide) (by decide) a2
      have er : mm_up (mm_up (mm_up I 201 (590 + l) (nI p')) 201 (598 + l) (nI v')) 201 15 (nI (l + 1)) 201 = upd (upd (upd (I 201) (590 + l) (nI p')) (598 + l) (nI v')) 15 (nI (l + 1)) := by rw [up_201, up_201, up_201]
      show St I _ (nI l) (cN (w * h) n (vv (mm_up (mm_up (mm_up I 201 (590 + l) (nI p')) 201 (598 + l) (nI v')) 201 15 (nI (l + 1)) 201 15)) k o r I (mm_up (mm_up (mm_up I 201 (590 + l) (nI p')) 201 (598 + l) (nI v')) 201 15 (nI (l + 1)) 201))
      rw [mm_up_at, vv_nI (by omega)]
      refine St_gen (l' := l + 1) (T' := T) H hS ofF_0 ?_ (fun y hy => ?_) (outJ_a (fun a h1 h2 => by rw [mm_up_a h2, mm_up_a h2, mm_up_a h2]))
      · rw [er]; exact iV_load hS.1 (by omega) p1.2 v1.2
      · rw [er, upd_n (by omega), upd_n (by omega), upd_n (by omega)]
theorem iV_work {N : Nat → Int32} {w h n l k o r T a : Nat} {b c e : Int32} (hV : iV N w h n l k o r T) (hk : k < 6) (ha : 1 ≤ a ∧ a ≤ 9) : iV (upd (upd (upd (upd (upd N (606 + k) (nI a)) (612 + k) b) (618 + k) c) (624 + k) e) 19 (nI (k + 1))) w h n l (k + 1) o r T := by
  have hr := iV_r hV
  obtain ⟨H1, H2, H3, ⟨h15, h16, h17, h18, h19⟩, ⟨hn, hl8, hk6, ho⟩, ⟨la, lb, hL⟩, h5, h6, hLo, hH, hY, hO, ⟨h7, hT7⟩, hR, hC⟩ := hV
  have ee : ∀ y, ¬ (y = 606 + k ∨ y = 612 + k ∨ y = 618 + k ∨ y = 624 + k ∨ y = 19) → upd (upd (upd (upd (upd N (606 + k) (nI a)) (612 + k) b) (618 + k) c) (624 + k) e) 19 (nI (k + 1)) y = N y := fun y hy => by rw [upd_n (by omega), upd_n (by omega), upd_n (by omega), upd_n (by omega), upd_n (by omega)]
  refine ⟨iT_e2 H1 hn (fun y hy => ee y (by omega)), mP_e H2 hn (fun y hy => ee y (by omega)) (fun y hy => ee y (by omega)), fun p hp => ?_, ⟨(ee 15 (by omega)).trans h15, (ee 16 (by omega)).trans h16, (ee 17 (by omega)).trans h17, (ee 18 (by omega)).trans h18, upd_y⟩, ⟨hn, hl8, by omega, ho⟩, ⟨la, lb, (ee 2 (by omega)).trans hL.1, (ee 3 (by omega)).trans hL.2.1, hL.2.2⟩, by rw [ee 5 (by omega)]; exact h5, by rw [ee 6 (by omega)]; exact h6, fun i hi => by rw [ee _ (by omega)]; exact hLo i hi, fun i hi => by rw [ee _ (by omega)]; exact hH i hi, fun i hi => ?_, fun i hi => by rw [ee _ (by omega), ee _ (by omega)]; exact hO i hi, ⟨(ee 7 (by omega)).trans h7, hT7⟩, fun i hi => by rw [ee _ (by omega), ee _ (by omega), ee _ (by omega)]; exact hR i hi, fun j => by rw [rcnt_c _ (fun i hi => ee _ (by omega))]; exact hC j⟩
  · obtain ⟨k', k1, k2⟩ := H3 p hp
    exact ⟨k', (ee _ (by omega)).trans k1, mo_T_eq (fun x hx => ee x (by omega)) k2⟩
  · by_cases z : i = k
    · subst z; exact ⟨a, ha.1, ha.2, by rw [upd_n (by omega), upd_n (by omega), upd_n (by omega), upd_n (by omega), upd_y]⟩
    · rw [ee _ (by omega)]; exact hY i (by omega)
theorem cl_work {g : mm_G} {d : Nat} {I : mm_I} {w h n l k o r T : Nat} (H : RC I) (hS : siR I (I 201) w h n l k o r T) {a b c e : Int32} (hd : 160 ≤ d) : mm_Di g zX11_work d [.ref 0, .int a, .int b, .int c, .int e] sh_S I (St I (op_work k I a b c e)) := by
  have hz := iV_z hS.1
  have hk6 := hz.2.2.2.1
  have h19 := hS.1.2.2.2.1.2.2.2.2
  have q := cb_work (g := g) (d := d) (A := I) hz hS.1.1.1 (J := I) rfl hS.1.1.2.2.1 (iT_K hS.1.1) h19 (p0 := a) (p1 := b) (p2 := c) (p3 := e) (by omega)
  rw [← sS_self hS.2.1] at q
  refine mm_Ci_Di q ?_
  have id0 : ∀ x : Int32, St I (x, I) x (cN (w * h) n l (vv (I 201 19)) o r I (I 201)) := fun x => by
    rw [h19, vv_nI (by omega), ← sS_self hS.2.1]; exact St_id H
  by_cases c1 : ¬ sp_wi a 1 9 ∨ ¬ sp_wi b 0 50 ∨ ¬ sp_wi c 0 20 ∨ ¬ sp_wi e 0 (((1) <<< ((nI (k)) &&& 31)) - 1)
  · have e' : op_work k I a b c e = (-1000000001, I) := by unfold op_work; rw [if_pos c1]
    rw [e']; exact id0 _
  · by_cases c2 : k = 6
    · have e' : op_work k I a b c e = (-1000000003, I) := by unfold op_work; rw [if_neg c1, if_pos c2]
      rw [e']; exact id0 _
    · have e' : op_work k I a b c e = (nI k, mm_up (mm_up (mm_up (mm_up (mm_up I 201 (606 + k) a) 201 (612 + k) b) 201 (618 + k) c) 201 (624 + k) e) 201 19 (nI (k + 1))) := by unfold op_work; rw [if_neg c1, if_neg c2]
      rw [e']
      have a1 : sp_wi a 1 9 := Decidable.not_not.mp (fun z => c1 (Or.inl z))
      obtain ⟨p', p1, rfl⟩ := sp_wi_n 1 9 (by decide) (by decide) a1
      have er : mm_up (mm_up (mm_up (mm_up (mm_up I 201 (606 + k) (nI p')) 201 (612 + k) b) 201 (618 + k) c) 201 (624 + k) e) 201 19 (nI (k + 1)) 201 = upd (upd (upd (upd (upd (I 201) (606 + k) (nI p')) (612 + k) b) (618 + k) c) (624 + k) e) 19 (nI (k + 1)) := by rw [up_201, up_201, up_201, up_201, up_201]
      show St I _ (nI k) (cN (w * h) n l (vv (mm_up (mm_up (mm_up (mm_up (mm_up I 201 (606 + k) (nI p')) 201 (612 + k) b) 201 (618 + k) c) 201 (624 + k) e) 201 19 (nI (k + 1)) 201 19)) o r I (mm_up (mm_up (mm_up (mm_up (mm_up I 201 (606 + k) (nI p')) 201 (612 + k) b) 201 (618 + k) c) 201 (624 + k) e) 201 19 (nI (k + 1)) 201))
      rw [mm_up_at, vv_nI (by omega)]
      refine St_gen (k' := k + 1) (T' := T) H hS ofF_0 ?_ (fun y hy => ?_) (outJ_a (fun a h1 h2 => by rw [mm_up_a h2, mm_up_a h2, mm_up_a h2, mm_up_a h2, mm_up_a h2]))
      · rw [er]; exact iV_work hS.1 (by omega) p1
      · rw [er, upd_n (by omega), upd_n (by omega), upd_n (by omega), upd_n (by omega), upd_n (by omega)]
theorem iV_clear {N : Nat → Int32} {w h n l k o r T : Nat} (hV : iV N w h n l k o r T) : iV (upd N 19 0) w h n l 0 o r T := by
  have hr := iV_r hV
  obtain ⟨H1, H2, H3, ⟨h15, h16, h17, h18, h19⟩, ⟨hn, hl8, hk6, ho⟩, ⟨la, lb, hL⟩, h5, h6, hLo, hH, hY, hO, ⟨h7, hT7⟩, hR, hC⟩ := hV
  refine ⟨iT_x H1 (by omega), mP_e H2 hn (fun y hy => upd_n (by omega)) (fun y hy => upd_n (by omega)), fun p hp => ?_, ⟨(upd_n (by omega)).trans h15, (upd_n (by omega)).trans h16, (upd_n (by omega)).trans h17, (upd_n (by omega)).trans h18, upd_y⟩, ⟨hn, hl8, by omega, ho⟩, ⟨la, lb, (upd_n (by omega)).trans hL.1, (upd_n (by omega)).trans hL.2.1, hL.2.2⟩, by rw [upd_n (by omega)]; exact h5, by rw [upd_n (by omega)]; exact h6, fun i hi => by rw [upd_n (by omega)]; exact hLo i hi, fun i hi => by rw [upd_n (by omega)]; exact hH i hi, fun i hi => absurd hi (Nat.not_lt_zero _), fun i hi => by rw [upd_n (by omega), upd_n (by omega)]; exact hO i hi, ⟨(upd_n (by omega)).trans h7, hT7⟩, fun i hi => by rw [upd_n (by omega), upd_n (by omega), upd_n (by omega)]; exact hR i hi, fun j => by rw [rcnt_c (N := N) _ (fun i hi => upd_n (by omega))]; exact hC j⟩
  obtain ⟨k', k1, k2⟩ := H3 p hp
  exact ⟨k', (upd_n (by omega)).trans k1, mo_T_eq (fun x hx => upd_n (by omega)) k2⟩
theorem cl_clear {g : mm_G} {d : Nat} {I : mm_I} {w h n l k o r T : Nat} (H : RC I) (hS : siR I (I 201) w h n l k o r T) (hd : 160 ≤ d) : mm_Di g zX11_clear d [.ref 0] sh_S I (St I (op_clear I)) := by
  have hz := iV_z hS.1
  have q := cb_clear (g := g) (d := d) (A := I) hz hS.1.1.1 (J := I) rfl hS.1.1.2.2.1 (iT_K hS.1.1) hS.1.2.2.2.1.2.2.2.2 (by omega)
  rw [← sS_self hS.2.1] at q
  refine mm_Ci_Di q ?_
  refine St_gen (a := I 201 19) (J' := mm_up I 201 19 0) (k' := 0) (T' := T) H hS ⟨fun b hb => ?_, fun i hi => ?_⟩ ?_ (fun y hy => ?_) outJ_u
  · unfold kM; rw [mm_up_a (by omega), mm_up_a (by omega), mm_up_a (by omega), mm_up_a (by omega)]
  · unfold kM; rw [mm_up_ne (by omega), mm_up_ne (by omega), mm_up_ne (by omega), mm_up_ne (by omega)]
  · rw [up_201]; exact iV_clear hS.1
  · rw [up_201]; exact upd_n (by omega)
