/-! Calls of the class, as the reference would do them: those that only tell -/
theorem cl_told {g : mm_G} {d : Nat} {I : mm_I} {w h n l k o r T : Nat} (H : RC I) (hS : siR I (I 201) w h n l k o r T) {c : Int32} {x : Int32} (hd : 160 ≤ d) : mm_Di g zX11_told d [.ref 0, .int c, .int x] sh_S I (St I (op_told w h n I c x, I)) := by
  have hz := iV_z hS.1
  have hV := hS.1
  have q := cb_told (g := g) (d := d) (A := I) hz hS.1.1.1 (J := I) rfl hS.1.1.2.2.1 (iT_K hS.1.1) (c := c) (x := x) (by omega)
  rw [← sS_self hS.2.1] at q
  exact mm_Ci_Di q (St_id H)
theorem cl_isOf {g : mm_G} {d : Nat} {I : mm_I} {w h n l k o r T : Nat} (H : RC I) (hS : siR I (I 201) w h n l k o r T) {c : Int32} {x : Int32} (hd : 160 ≤ d) : mm_Di g zX11_isOf d [.ref 0, .int c, .int x] sh_S I (St I (op_isOf w h I c x, I)) := by
  have hz := iV_z hS.1
  have hV := hS.1
  have q := cb_isOf (g := g) (d := d) (A := I) hz hS.1.1.1 (J := I) rfl hS.1.1.2.2.1 (iT_K hS.1.1) (c := c) (x := x) (by omega)
  rw [← sS_self hS.2.1] at q
  exact mm_Ci_Di q (St_id H)
theorem cl_map {g : mm_G} {d : Nat} {I : mm_I} {w h n l k o r T : Nat} (H : RC I) (hS : siR I (I 201) w h n l k o r T) {c : Int32} {x : Int32} (hd : 160 ≤ d) : mm_Di g zX11_map d [.ref 0, .int c, .int x] sh_S I (St I (op_map w h I c x, I)) := by
  have hz := iV_z hS.1
  have hV := hS.1
  have q := cb_map (g := g) (d := d) (A := I) hz hS.1.1.1 (J := I) rfl hS.1.1.2.2.1 (iT_K hS.1.1) (c := c) (x := x) (by omega)
  rw [← sS_self hS.2.1] at q
  exact mm_Ci_Di q (St_id H)
theorem cl_base {g : mm_G} {d : Nat} {I : mm_I} {w h n l k o r T : Nat} (H : RC I) (hS : siR I (I 201) w h n l k o r T) {x : Int32} (hd : 160 ≤ d) : mm_Di g zX11_base d [.ref 0, .int x] sh_S I (St I (op_base I x, I)) := by
  have hz := iV_z hS.1
  have hV := hS.1
  obtain ⟨la, lb, l1, l2, l3, l4⟩ := hV.2.2.2.2.2.1
  have q := cb_base (g := g) (d := d) (A := I) hz hS.1.1.1 (J := I) rfl hS.1.1.2.2.1 (iT_K hS.1.1) l1 l2 l3 l4 (x := x) (by omega)
  rw [← sS_self hS.2.1] at q
  exact mm_Ci_Di q (St_id H)
theorem cl_is {g : mm_G} {d : Nat} {I : mm_I} {w h n l k o r T : Nat} (H : RC I) (hS : siR I (I 201) w h n l k o r T) {m : Int32} {x : Int32} (hd : 160 ≤ d) : mm_Di g zX11_is d [.ref 0, .int m, .int x] sh_S I (St I (op_is n I m x, I)) := by
  have hz := iV_z hS.1
  have hV := hS.1
  have q := cb_is (g := g) (d := d) (A := I) hz hS.1.1.1 (J := I) rfl hS.1.1.2.2.1 (iT_K hS.1.1) (iT_Q hS.1.1) (m := m) (x := x) (by omega)
  rw [← sS_self hS.2.1] at q
  exact mm_Ci_Di q (St_id H)
theorem cl_has {g : mm_G} {d : Nat} {I : mm_I} {w h n l k o r T : Nat} (H : RC I) (hS : siR I (I 201) w h n l k o r T) {m : Int32} {x : Int32} (hd : 160 ≤ d) : mm_Di g zX11_has d [.ref 0, .int m, .int x] sh_S I (St I (op_has n I m x, I)) := by
  have hz := iV_z hS.1
  have hV := hS.1
  have q := cb_has (g := g) (d := d) (A := I) hz hS.1.1.1 (J := I) rfl hS.1.1.2.2.1 (iT_K hS.1.1) (iT_B hS.1.1) (m := m) (x := x) (by omega)
  rw [← sS_self hS.2.1] at q
  exact mm_Ci_Di q (St_id H)
theorem cl_order {g : mm_G} {d : Nat} {I : mm_I} {w h n l k o r T : Nat} (H : RC I) (hS : siR I (I 201) w h n l k o r T) {x : Int32} {v : Int32} (hd : 160 ≤ d) : mm_Di g zX11_order d [.ref 0, .int x, .int v] sh_S I (St I (op_order o I x v, I)) := by
  have hz := iV_z hS.1
  have hV := hS.1
  have q := cb_order (g := g) (d := d) (A := I) hz hS.1.1.1 (J := I) rfl hS.1.1.2.2.1 (iT_K hS.1.1) (x := x) (v := v) (by omega)
  rw [← sS_self hS.2.1] at q
  exact mm_Ci_Di q (St_id H)
theorem cl_kilos {g : mm_G} {d : Nat} {I : mm_I} {w h n l k o r T : Nat} (H : RC I) (hS : siR I (I 201) w h n l k o r T) {x : Int32} (hd : 160 ≤ d) : mm_Di g zX11_kilos d [.ref 0, .int x] sh_S I (St I (op_kilos w h n I x, I)) := by
  have hz := iV_z hS.1
  have hV := hS.1
  have q := cb_kilos (g := g) (d := d) (A := I) hz hS.1.1.1 (J := I) rfl hS.1.1.2.2.1 (iT_K hS.1.1) (x := x) (by omega)
  rw [← sS_self hS.2.1] at q
  exact mm_Ci_Di q (St_id H)
theorem cl_night {g : mm_G} {d : Nat} {I : mm_I} {w h n l k o r T : Nat} (H : RC I) (hS : siR I (I 201) w h n l k o r T) {x : Int32} (hd : 160 ≤ d) : mm_Di g zX11_night d [.ref 0, .int x] sh_S I (St I (op_night l I x, I)) := by
  have hz := iV_z hS.1
  have hV := hS.1
  have hB : 0 ≤ I 201 4 := by obtain ⟨b, b1, b2⟩ := hV.1.2.2.2.2.1; rw [b2]; exact nI_pos' (by omega)
  have hH := hV.2.2.2.2.2.2.2.2.2.1
  have q := cb_night (g := g) (d := d) (A := I) hz hS.1.1.1 (J := I) rfl hS.1.1.2.2.1 (iT_K hS.1.1) hH hB (x := x) (by omega)
  rw [← sS_self hS.2.1] at q
  exact mm_Ci_Di q (St_id H)
theorem cl_cut {g : mm_G} {d : Nat} {I : mm_I} {w h n l k o r T : Nat} (H : RC I) (hS : siR I (I 201) w h n l k o r T) {x : Int32} (hd : 160 ≤ d) : mm_Di g zX11_cut d [.ref 0, .int x] sh_S I (St I (op_cut l I x, I)) := by
  have hz := iV_z hS.1
  have hV := hS.1
  have hB : 0 ≤ I 201 4 := by obtain ⟨b, b1, b2⟩ := hV.1.2.2.2.2.1; rw [b2]; exact nI_pos' (by omega)
  have hH := hV.2.2.2.2.2.2.2.2.2.1
  have q := cb_cut (g := g) (d := d) (A := I) hz hS.1.1.1 (J := I) rfl hS.1.1.2.2.1 (iT_K hS.1.1) hH hB (x := x) (by omega)
  rw [← sS_self hS.2.1] at q
  exact mm_Ci_Di q (St_id H)
theorem cl_count {g : mm_G} {d : Nat} {I : mm_I} {w h n l k o r T : Nat} (H : RC I) (hS : siR I (I 201) w h n l k o r T) {x : Int32} (hd : 160 ≤ d) : mm_Di g zX11_count d [.ref 0, .int x] sh_S I (St I (op_count w h I x, I)) := by
  have hz := iV_z hS.1
  have hV := hS.1
  obtain ⟨-, -, ⟨t1, t1a, t1b, -⟩, ⟨t2, t2a, t2b, -⟩, -⟩ := id H
  have q := cb_count (g := g) (d := d) (A := I) hz hS.1.1.1 (J := I) rfl hS.1.1.2.2.1 (iT_K hS.1.1) (fun p hp => by obtain ⟨nS, -, z1, z2, -⟩ := hS.2.2 p hp; rw [z1, z2]) hV.2.2.2.1.1 hV.2.2.2.1.2.1 hV.2.2.2.1.2.2.1 hV.2.2.2.1.2.2.2.1 hV.2.2.2.1.2.2.2.2 (t2b.trans t2a.symm) (t1b.trans t1a.symm) (x := x) (by omega)
  rw [← sS_self hS.2.1] at q
  exact mm_Ci_Di q (St_id H)
theorem outJ_a2 {J J' : mm_I} (h : ∀ a, 200 ≤ a → a ≤ 206 → J' a = J a) : outJ J' J := ⟨by rw [h 200 (by decide) (by decide)], by rw [h 200 (by decide) (by decide)], by rw [h 200 (by decide) (by decide)], fun a h1 h2 => h a (by omega) (by omega)⟩
theorem RC_scr {I K : mm_I} {w h n l k o r T : Nat} (H : RC I) (hS : siR I (I 201) w h n l k o r T) (hK : ∀ a, ¬ ((13 ≤ a ∧ a ≤ 16) ∨ a = 22 ∨ (31 ≤ a ∧ a ≤ 35) ∨ a = 193 ∨ a = 194) → K a = I a) {J : mm_I} (hJ : outJ J I) (h201 : J 201 = I 201) : RC2 K J := by
  refine RC_now H (fun a ha => hK a (by omega)) hJ (w := w) (h := h) (n := n) (l := l) (k := k) (o := o) (r := r) (T := T) ?_
  rw [h201]
  have hz := iV_z hS.1
  have hz2 := hz.2.1
  exact ⟨hS.1, sS_c hz2 hS.2.1 (fun a ha => hK a (by omega)) (fun _ _ => rfl) hz, fun p hp => pgR_c (hS.2.2 p hp) hz2 hp (fun b hb => hK b (by omega)) (fun m hm => by rw [hK _ (by omega)]) (fun _ _ => rfl)⟩
theorem cl_steps {g : mm_G} {d : Nat} {I : mm_I} {w h n l k o r T : Nat} (H : RC I) (hS : siR I (I 201) w h n l k o r T) {c t : Int32} (hd : 160 ≤ d) : mm_Di g zX11_steps d [.ref 0, .int c, .int t] sh_S I (St I (op_steps w h I c t)) := by
  have hz := iV_z hS.1
  have hc := mo_W_c hS.1.1.1
  by_cases hx : ¬ sp_isC w h c ∨ ¬ sp_isC w h t
  · have q := cb_stepsB (g := g) (d := d) (A := I) hz hS.1.1.1 hx (by omega)
    rw [← sS_self hS.2.1] at q
    have e : op_steps w h I c t = (-1000000001, I) := by unfold op_steps; rw [if_pos hx]
    rw [e]; exact mm_Ci_Di q (St_id H)
  · have h1 : sp_isC w h c := Decidable.not_not.mp (fun z => hx (Or.inl z))
    have h2 : sp_isC w h t := Decidable.not_not.mp (fun z => hx (Or.inr z))
    obtain ⟨c', c1, rfl⟩ := sp_isC_nat (by omega) h1
    obtain ⟨t', t1, rfl⟩ := sp_isC_nat (by omega) h2
    have q := cb_steps (g := g) (d := d) (A := I) hz hS.1.1.1 (J := I) rfl c1 t1 (by omega)
    have e201 : cN (w * h) n l k o r (bcM I (I 201) w h t') (I 201) = bcM I (I 201) w h t' := by
      have : sS (w * h) n l k o r (bcM I (I 201) w h t') (I 201) := sS_c hz.2.1 hS.2.1 (fun a ha => bcM_a (by omega)) (fun _ _ => rfl) hz
      exact (sS_self this).symm
    rw [← sS_self hS.2.1, e201] at q
    refine mm_Ci_Di q ⟨fun a ha => bcM_a (by omega), rfl, RC_scr H hS (fun a ha => bcM_a (by omega)) ?_ ?_⟩
    · refine outJ_a2 (fun a h1 h2 => ?_)
      unfold op_steps
      rw [if_neg hx]
      split <;> exact bf_m_a (by omega) (by omega)
    · unfold op_steps
      rw [if_neg hx]
      split <;> (show bf_m I (bf_r I w h (vv (nI t'))) 201 = I 201; exact bf_m_a (by decide) (by decide))
theorem cl_plan {g : mm_G} {d : Nat} {I : mm_I} {w h n l k o r T : Nat} (H : RC I) (hS : siR I (I 201) w h n l k o r T) {x : Int32} {y : Int32} (hd : 160 ≤ d) : mm_Di g zX11_plan d [.ref 0, .int x, .int y] sh_S I (St I (op_plan l k I x y, I)) := by
  have hz := iV_z hS.1
  have q := cb_plan (g := g) (d := d) (A := I) hz hS.1.1.1 (J0 := I) rfl (x := x) (y := y) (by omega)
  rw [← sS_self hS.2.1] at q
  refine mm_Di_w q (fun r_ K hK => ?_)
  obtain ⟨e, A2, eK, hF⟩ := hK
  have e2 : cN (w * h) n l k o r A2 (I 201) = A2 := (sS_self (sS_c hz.2.1 hS.2.1 (fun a ha => hF a (by omega)) (fun _ _ => rfl) hz)).symm
  rw [e2] at eK
  subst eK
  exact ⟨fun a ha => hF a (by omega), e, RC_scr H hS (fun a ha => hF a (by omega)) outJ_0 rfl⟩
theorem cl_planned {g : mm_G} {d : Nat} {I : mm_I} {w h n l k o r T : Nat} (H : RC I) (hS : siR I (I 201) w h n l k o r T) {x : Int32} {y : Int32} {z : Int32} (hd : 160 ≤ d) : mm_Di g zX11_planned d [.ref 0, .int x, .int y, .int z] sh_S I (St I (op_planned l k I x y z, I)) := by
  have hz := iV_z hS.1
  have q := cb_planned (g := g) (d := d) (A := I) hz hS.1.1.1 (J0 := I) rfl (x := x) (y := y) (z := z) (by omega)
  rw [← sS_self hS.2.1] at q
  refine mm_Di_w q (fun r_ K hK => ?_)
  obtain ⟨e, A2, eK, hF⟩ := hK
  have e2 : cN (w * h) n l k o r A2 (I 201) = A2 := (sS_self (sS_c hz.2.1 hS.2.1 (fun a ha => hF a (by omega)) (fun _ _ => rfl) hz)).symm
  rw [e2] at eK
  subst eK
  exact ⟨fun a ha => hF a (by omega), e, RC_scr H hS (fun a ha => hF a (by omega)) outJ_0 rfl⟩
theorem cl_check {g : mm_G} {d : Nat} {I : mm_I} {w h n l k o r T : Nat} (H : RC I) (hS : siR I (I 201) w h n l k o r T) {t : Nat} (ht : wtR I I t) {x y : Int32} (hd : 160 ≤ d) : mm_Di g zX11_check d [.ref 0, .int x, .int y] sh_S I (St I (op_check l k t I x y, mm_up I 200 5 0)) := by
  have hz := iV_z hS.1
  have hV := hS.1
  have hB : 0 ≤ I 201 4 := by obtain ⟨b, b1, b2⟩ := hV.1.2.2.2.2.1; rw [b2]; exact nI_pos' (by omega)
  have hH := hV.2.2.2.2.2.2.2.2.2.1
  have q := cb_check (g := g) (d := d) (A := I) hz hS.1.1.1 (J0 := I) rfl ht.1 ht.2.2.1 ht.2.2.2 hH hB hV.2.2.2.2.2.2.2.2.2.2.1 (x := x) (y := y) (by omega)
  rw [← sS_self hS.2.1] at q
  refine mm_Di_w q (fun r_ K hK => ?_)
  obtain ⟨e, A2, eK, h191, hF⟩ := hK
  have e2 : cN (w * h) n l k o r A2 (I 201) = A2 := (sS_self (sS_c hz.2.1 hS.2.1 (fun a ha => hF a (by omega)) (fun _ _ => rfl) hz)).symm
  rw [e2] at eK
  subst eK
  obtain ⟨-, b, ⟨t1, c⟩, -, e5, f⟩ := H
  have hu : ∀ a, a ≠ 200 → mm_up I 200 5 0 a = I a := fun a h => mm_up_a h
  have hv : ∀ i, i ≠ 5 → mm_up I 200 5 0 200 i = I 200 i := fun i h => mm_up_ni h
  refine ⟨fun a ha => hF a (by omega), e, ⟨w, h, n, l, k, o, r, T, ?_⟩, imR_c b (by rw [hF 0 (by omega)]) (fun a h1 h2 => hF a (by omega)) (hv 2 (by decide)) (hu 202 (by decide)), ⟨t1, tpR_c c (by rw [hF 174 (by omega)]) (hF 175 (by omega)) (hv 4 (by decide)) (hu 203 (by decide))⟩, ⟨0, h191, show mm_up I 200 5 0 200 5 = nI 0 from mm_up_at.trans (by decide), by decide, fun i hi => absurd hi (Nat.not_lt_zero _)⟩, shR_c e5 (fun a h1 h2 => hF a (by omega)) (hu 205 (by decide)) (hu 206 (by decide)), pl_c f (hu 205 (by decide))⟩
  show siR _ (mm_up I 200 5 0 201) w h n l k o r T
  rw [hu 201 (by decide)]
  have hz2 := hz.2.1
  exact ⟨hS.1, sS_c hz2 hS.2.1 (fun a ha => hF a (by omega)) (fun _ _ => rfl) hz, fun p hp => pgR_c (hS.2.2 p hp) hz2 hp (fun b hb => hF b (by omega)) (fun m hm => by rw [hF _ (by omega)]) (fun _ _ => rfl)⟩
