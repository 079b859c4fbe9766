/-! Calls of the class, as the reference would do them: numbers of the row -/
def okP (I : mm_I) (Z : Int32 × mm_I) (w h n l k o r T : Nat) : Prop := iV (Z.2 201) w h n l k o r T ∧ (∀ y, (630 ≤ y ∧ y < 830 ∧ 6 ≤ (y - 630) % 40) ∨ 1226 ≤ y → Z.2 201 y = I 201 y) ∧ outJ Z.2 I
theorem okP_0 {I : mm_I} {a : Int32} {w h n l k o r T : Nat} (hV : iV (I 201) w h n l k o r T) : okP I (a, I) w h n l k o r T := ⟨hV, fun _ _ => rfl, outJ_0⟩
theorem okP_u {I : mm_I} {a v : Int32} {x w h n l k o r T : Nat} (hV : iV (I 201) w h n l k o r T) (hT : iT (upd (I 201) x v) w h n) (hx : ¬ (x = 2 ∨ x = 3 ∨ (5 ≤ x ∧ x ≤ 7) ∨ (15 ≤ x ∧ x ≤ 19) ∨ (590 ≤ x ∧ x < 630) ∨ (630 ≤ x ∧ x < 830 ∧ 6 ≤ (x - 630) % 40) ∨ 830 ≤ x)) : okP I (a, mm_up I 201 x v) w h n l k o r T := by
  refine ⟨?_, fun y hy => ?_, outJ_u⟩
  · show iV (mm_up I 201 x v 201) w h n l k o r T
    rw [up_201]; exact iV_it hV hT (fun y hy => upd_n (by omega))
  · show mm_up I 201 x v 201 y = _
    rw [up_201]; exact upd_n (by omega)
theorem St_ok {I : mm_I} {Z : Int32 × mm_I} {w h n l k o r T : Nat} (H : RC I) (hS : siR I (I 201) w h n l k o r T) (hZ : okP I Z w h n l k o r T) : St I Z Z.1 (cN (w * h) n l k o r I (Z.2 201)) := St_row (a := Z.1) (J' := Z.2) H hS hZ.1 hZ.2.1 hZ.2.2
theorem ok_cell {I : mm_I} {c x : Int32} {w h n l k o r T : Nat} (hV : iV (I 201) w h n l k o r T) : okP I (op_cell w h n I c x) w h n l k o r T := by
  have hc := mo_W_c hV.1.1
  unfold op_cell
  split
  · exact okP_0 hV
  · split
    · exact okP_0 hV
    · rename_i h1 h2
      have a1 : sp_isC w h c := Decidable.not_not.mp (fun z => h1 (Or.inl z))
      have a2 : ¬ c = 0 := fun z => h1 (Or.inr (Or.inl z))
      have a3 : sp_wi x 0 3 := Decidable.not_not.mp (fun z => h1 (Or.inr (Or.inr z)))
      obtain ⟨c', c1, rfl⟩ := sp_isC_nat (by omega) a1
      obtain ⟨v, v1, rfl⟩ := sp_wi_nat 3 (by decide) a3
      rw [vv_nI (by omega)]
      exact okP_u hV (iT_k hV.1 (fun z => a2 (by rw [z]; rfl)) c1 v1) (by omega)
theorem ok_put {I : mm_I} {c x v : Int32} {w h n l k o r T : Nat} (hV : iV (I 201) w h n l k o r T) : okP I (op_put w h I c x v) w h n l k o r T := by
  have hc := mo_W_c hV.1.1
  unfold op_put
  split
  · exact okP_0 hV
  · rename_i h1
    have a1 : sp_isC w h c := Decidable.not_not.mp (fun z => h1 (Or.inl z))
    obtain ⟨c', c1, rfl⟩ := sp_isC_nat (by omega) a1
    rw [vv_nI (by omega)]
    split
    · exact okP_u hV (iT_x hV.1 (by omega)) (by omega)
    · exact okP_u hV (iT_x hV.1 (by omega)) (by omega)
theorem ok_store {I : mm_I} {x v : Int32} {w h n l k o r T : Nat} (hV : iV (I 201) w h n l k o r T) : okP I (op_store I x v) w h n l k o r T := by
  unfold op_store
  split
  · exact okP_0 hV
  · rename_i h1
    have a1 : sp_wi x 0 2 := Decidable.not_not.mp (fun z => h1 (Or.inl z))
    have a2 : sp_wi v 0 9999 := Decidable.not_not.mp (fun z => h1 (Or.inr z))
    obtain ⟨q, q1, rfl⟩ := sp_wi_nat 2 (by decide) a1
    obtain ⟨u, u1, rfl⟩ := sp_wi_nat 9999 (by decide) a2
    rw [vv_nI (by omega)]
    by_cases e : q = 2
    · subst e; exact okP_u hV (iT_p hV.1 u1) (by omega)
    · exact okP_u hV (iT_x hV.1 (by omega)) (by omega)
theorem ok_tune {I : mm_I} {m x v : Int32} {w h n l k o r T : Nat} (hV : iV (I 201) w h n l k o r T) : okP I (op_tune n I m x v) w h n l k o r T := by
  have hn := hV.2.2.2.2.1.1
  unfold op_tune
  split
  · exact okP_0 hV
  · rename_i h1
    have a1 : sp_isM n m := Decidable.not_not.mp (fun z => h1 (Or.inl z))
    have a2 : sp_wi x 0 1 := Decidable.not_not.mp (fun z => h1 (Or.inr (Or.inl z)))
    have a3 : sp_wi v 0 100 := Decidable.not_not.mp (fun z => h1 (Or.inr (Or.inr z)))
    obtain ⟨m', m1, rfl⟩ := sp_isM_nat (by omega) a1
    obtain ⟨q, q1, rfl⟩ := sp_wi_nat 1 (by decide) a2
    obtain ⟨u, u1, rfl⟩ := sp_wi_nat 100 (by decide) a3
    rw [vv_nI (by omega), vv_nI (by omega)]
    exact okP_u hV (iT_f hV.1 (by omega)) (by omega)
theorem ok_rule {I : mm_I} {x v : Int32} {w h n l k o r T : Nat} (hV : iV (I 201) w h n l k o r T) : okP I (op_rule I x v) w h n l k o r T := by
  have hV0 := hV
  have hr := iV_r hV
  obtain ⟨H1, H2, H3, ⟨h15, h16, h17, h18, h19⟩, ⟨hn, hl, hk, ho⟩, ⟨la, lb, hL⟩, h5, h6, hLo, hH, hY, hO, ⟨h7, hT7⟩, hR, hC⟩ := hV
  unfold op_rule
  split
  · exact okP_0 hV0
  · rename_i h1
    have a1 : sp_rule x v := Decidable.not_not.mp h1
    have gen : ∀ (q : Nat) (u : Int32), q ≤ 4 → ¬ q = 2 → (∃ la lb, upd (I 201) (2 + q) u 2 = nI la ∧ upd (I 201) (2 + q) u 3 = nI lb ∧ (1 ≤ la ∧ la ≤ 24) ∧ lb ≤ 24) → (∃ x, x ≤ 99 ∧ upd (I 201) (2 + q) u 5 = nI x) → (∃ x, x ≤ 9 ∧ upd (I 201) (2 + q) u 6 = nI x) → okP I (I 201 (2 + q), mm_up I 201 (2 + q) u) w h n l k o r T := by
      intro q u hq hq2 g1 g2 g3
      refine ⟨?_, fun y hy => ?_, outJ_u⟩
      · show iV (mm_up I 201 (2 + q) u 201) w h n l k o r T
        rw [up_201]
        refine ⟨iT_x H1 (by omega), mP_e H2 hn (fun y hy => upd_n (by omega)) (fun y hy => upd_n (by omega)), fun p hp => ?_, ⟨(upd_n (by omega)).trans h15, (upd_n (by omega)).trans h16, (upd_n (by omega)).trans h17, (upd_n (by omega)).trans h18, (upd_n (by omega)).trans h19⟩, ⟨hn, hl, hk, ho⟩, g1, g2, g3, fun i hi => by rw [upd_n (by omega)]; exact hLo i hi, fun i hi => by rw [upd_n (by omega)]; exact hH i hi, fun i hi => by rw [upd_n (by omega)]; exact hY i hi, fun i hi => by rw [upd_n (by omega), upd_n (by omega)]; exact hO i hi, ⟨(upd_n (by omega)).trans h7, hT7⟩, fun i hi => by rw [upd_n (by omega), upd_n (by omega), upd_n (by omega)]; exact hR i hi, fun j => by rw [rcnt_c (N := I 201) _ (fun i hi => upd_n (by omega))]; exact hC j⟩
        obtain ⟨k', k1, k2⟩ := H3 p hp
        exact ⟨k', (upd_n (by omega)).trans k1, mo_T_eq (fun x hx => upd_n (by omega)) k2⟩
      · show mm_up I 201 (2 + q) u 201 y = _
        rw [up_201]; exact upd_n (by omega)
    rcases a1 with ⟨e, z⟩ | ⟨e, z⟩ | ⟨e, z⟩ | ⟨e, z⟩ | ⟨e, z⟩
    · obtain ⟨u, u1, rfl⟩ := sp_wi_n 1 24 (by decide) (by decide) z
      rw [e, show vv (0 : Int32) = 0 from rfl]
      exact gen 0 _ (by decide) (by decide) ⟨u, lb, upd_y, (upd_n (by omega)).trans hL.2.1, u1, hL.2.2.2⟩ (by rw [upd_n (by omega)]; exact h5) (by rw [upd_n (by omega)]; exact h6)
    · obtain ⟨u, u1, rfl⟩ := sp_wi_nat 24 (by decide) z
      rw [e, show vv (1 : Int32) = 1 from rfl]
      exact gen 1 _ (by decide) (by decide) ⟨la, u, (upd_n (by omega)).trans hL.1, upd_y, hL.2.2.1, u1⟩ (by rw [upd_n (by omega)]; exact h5) (by rw [upd_n (by omega)]; exact h6)
    · obtain ⟨u, u1, rfl⟩ := sp_wi_nat 9999 (by decide) z
      rw [e, show vv (2 : Int32) = 2 from rfl]
      exact okP_u hV0 (iT_b H1 u1) (by omega)
    · obtain ⟨u, u1, rfl⟩ := sp_wi_nat 99 (by decide) z
      rw [e, show vv (3 : Int32) = 3 from rfl]
      exact gen 3 _ (by decide) (by decide) ⟨la, lb, (upd_n (by omega)).trans hL.1, (upd_n (by omega)).trans hL.2.1, hL.2.2⟩ ⟨u, u1, upd_y⟩ (by rw [upd_n (by omega)]; exact h6)
    · obtain ⟨u, u1, rfl⟩ := sp_wi_nat 9 (by decide) z
      rw [e, show vv (4 : Int32) = 4 from rfl]
      exact gen 4 _ (by decide) (by decide) ⟨la, lb, (upd_n (by omega)).trans hL.1, (upd_n (by omega)).trans hL.2.1, hL.2.2⟩ (by rw [upd_n (by omega)]; exact h5) ⟨u, u1, upd_y⟩
theorem ly_n {J : mm_I} {s y : Nat} (hy : ¬ (110 ≤ y ∧ y < 190)) : ∀ k, k ≤ 80 → op_ly J s k 201 y = J 201 y := by
  intro k
  induction k with
  | zero => intro _; rfl
  | succ k ih => intro hk; unfold op_ly; rw [up_201, upd_n (by omega)]; exact ih (by omega)
theorem okP_m {I J' : mm_I} {a : Int32} {w h n l k o r T : Nat} (hV : iV (I 201) w h n l k o r T) (hT : iT (J' 201) w h n) (hN : ∀ y, (y = 2 ∨ y = 3 ∨ (5 ≤ y ∧ y ≤ 7) ∨ (15 ≤ y ∧ y ≤ 19) ∨ (590 ≤ y ∧ y < 630) ∨ (630 ≤ y ∧ y < 830 ∧ 6 ≤ (y - 630) % 40) ∨ 830 ≤ y) → J' 201 y = I 201 y) (hJ : outJ J' I) : okP I (a, J') w h n l k o r T :=
  ⟨iV_it hV hT (fun y hy => hN y (by omega)), fun y hy => hN y (by omega), hJ⟩
theorem ok_lay {I : mm_I} {s : Int32} {w h n l k o r T : Nat} (hV : iV (I 201) w h n l k o r T) : okP I (op_lay w h I s) w h n l k o r T := by
  have hc := mo_W_c hV.1.1
  have hn := hV.2.2.2.2.1.1
  unfold op_lay
  split
  · exact okP_0 hV
  · split
    · exact okP_0 hV
    · have hm : min (vv (I 205 (vv s))) (w * h) ≤ 80 := by omega
      exact okP_m hV (iT_e2 hV.1 hn (fun y hy => ly_n (by omega) _ hm)) (fun y hy => ly_n (by omega) _ hm) (outJ_a (fun a h1 h2 => funext fun i => op_ly_ne h2 _))
theorem lw_nat {N : Nat → Int32} {w h n c m : Nat} (H : iT N w h n) (hm : m < n) (hc : c < w * h) (hlt : ¬ 3 ≤ sp_ap w (nI c) (N (630 + 40 * m + 1))) : ∃ v, v ≤ 100 ∧ sp_lw N w (nI c) m = nI v := by
  have hcc := mo_W_c H.1
  obtain ⟨-, -, hw1, hw2, hh1, hh2⟩ := id H.1
  obtain ⟨-, ⟨x, x1, x2⟩, -, ⟨u, u1, u2⟩, -⟩ := H.2.1 m hm
  have e := ap_n hw1 hw2 hh2 hc x1 hcc.2
  have hb : apN w c x ≤ 1000 := by
    unfold apN
    have q1 := Nat.mod_le c w
    have q2 := Nat.mod_le x w
    have q3 := Nat.div_le_self c w
    have q4 := Nat.div_le_self x w
    generalize c % w = a1 at q1 ⊢
    generalize x % w = a2 at q2 ⊢
    generalize c / w = a3 at q3 ⊢
    generalize x / w = a4 at q4 ⊢
    omega
  unfold sp_lw
  rw [x2, e] at hlt ⊢
  have hq : apN w c x < 3 := Nat.not_le.mp (fun z => hlt ((nI_leI (a := 3) (by decide) (by omega)).mpr z))
  rw [u2, show (20 : Int32) = nI 20 from rfl, show (5 : Int32) = nI 5 from rfl, nI_add, pk_mul, pk_sub (by omega), show (100 : Int32) = nI 100 from rfl, spm (by decide) (by omega)]
  exact ⟨_, by omega, rfl⟩
theorem lw_inv {J : mm_I} {w h n c : Nat} (hn : n ≤ 5) (hc : c < w * h) (H : iT (J 201) w h n) : ∀ m, m ≤ n → iT (op_lw J w (nI c) m 201) w h n ∧ ∀ y, ¬ (630 ≤ y ∧ y < 830 ∧ (y - 630) % 40 = 3) → op_lw J w (nI c) m 201 y = J 201 y := by
  intro m
  induction m with
  | zero => intro _; exact ⟨H, fun _ _ => rfl⟩
  | succ m ih =>
    intro hm
    obtain ⟨e1, e2⟩ := ih (by omega)
    unfold op_lw
    split
    · exact ⟨e1, e2⟩
    · rename_i hlt
      rw [up_201]
      refine ⟨?_, fun y hy => (upd_n (by omega)).trans (e2 y hy)⟩
      obtain ⟨v, v1, v2⟩ := lw_nat H (show m < n by omega) hc hlt
      rw [v2]
      exact iT_f e1 (Or.inr (Or.inl ⟨rfl, v1⟩))
theorem lw_a {J : mm_I} {w a : Nat} {c : Int32} (h : a ≠ 201) : ∀ m, op_lw J w c m a = J a := by
  intro m
  induction m with
  | zero => rfl
  | succ m ih =>
    unfold op_lw
    split
    · exact ih
    · rw [mm_up_a h]; exact ih
theorem lc_a {J : mm_I} {w a : Nat} {c : Int32} (h : a ≠ 201) : ∀ m, op_lc J w c m a = J a := by
  intro m
  induction m with
  | zero => rfl
  | succ m ih =>
    unfold op_lc
    split
    · rw [mm_up_a h, mm_up_a h]; exact ih
    · exact ih
theorem lc_n {J : mm_I} {w y : Nat} {c : Int32} (hy : ¬ (y = 13 ∨ (110 ≤ y ∧ y < 190))) : ∀ k, k ≤ 80 → op_lc J w c k 201 y = J 201 y := by
  intro k hk
  exact op_lc_ne k (fun _ => ⟨by omega, fun k' _ => by omega⟩)
theorem ok_land {I : mm_I} {c p : Int32} {w h n l k o r T : Nat} (hV : iV (I 201) w h n l k o r T) : okP I (op_land w h n I c p) w h n l k o r T := by
  have hc := mo_W_c hV.1.1
  have hn := hV.2.2.2.2.1.1
  unfold op_land
  split
  · exact okP_0 hV
  · split
    · exact okP_0 hV
    · rename_i h1 h2
      have a1 : sp_isC w h c := Decidable.not_not.mp (fun z => h1 (Or.inl z))
      have a2 : sp_wi p 0 99 := Decidable.not_not.mp (fun z => h1 (Or.inr z))
      obtain ⟨c', c1, rfl⟩ := sp_isC_nat (by omega) a1
      obtain ⟨q, q1, rfl⟩ := sp_wi_nat 99 (by decide) a2
      obtain ⟨e1, e2⟩ := lw_inv hn c1 hV.1 n (Nat.le_refl _)
      have e3 : iT (op_lc (op_lw I w (nI c') n) w (nI c') (w * h) 201) w h n := iT_e2 e1 hn (fun y hy => lc_n (by omega) _ hc.2)
      obtain ⟨v, v1, v2⟩ := e3.2.2.2.2.2
      have er : op_lp (op_lc (op_lw I w (nI c') n) w (nI c') (w * h)) (nI q) 201 = upd (op_lc (op_lw I w (nI c') n) w (nI c') (w * h) 201) 12 (nI (min 9999 (v + q))) := by
        unfold op_lp
        rw [up_201, v2, nI_add, show (9999 : Int32) = nI 9999 from rfl, spm (by decide) (by omega)]
      refine okP_m hV (by rw [er]; exact iT_p e3 (by omega)) (fun y hy => ?_) (outJ_a (fun a h1 h2 => ?_))
      · rw [er, upd_n (by omega), lc_n (by omega) _ hc.2]; exact e2 y (by omega)
      · unfold op_lp; rw [mm_up_a h2, lc_a h2, lw_a h2]
theorem cl_cell {g : mm_G} {d : Nat} {I : mm_I} {w h n l k o r T : Nat} (H : RC I) (hS : siR I (I 201) w h n l k o r T) {c : Int32} {x : Int32} (hd : 160 ≤ d) : mm_Di g zX11_cell d [.ref 0, .int c, .int x] sh_S I (St I (op_cell w h n I c x)) := by
  have hz := iV_z hS.1
  have q := cb_cell (g := g) (d := d) (A := I) hz hS.1.1.1 (J := I) rfl hS.1.1.2.2.1 (iT_K hS.1.1) (c := c) (x := x) (by omega)
  rw [← sS_self hS.2.1] at q
  exact mm_Ci_Di q (St_ok H hS (ok_cell hS.1))
theorem cl_put {g : mm_G} {d : Nat} {I : mm_I} {w h n l k o r T : Nat} (H : RC I) (hS : siR I (I 201) w h n l k o r T) {c : Int32} {x : Int32} {v : Int32} (hd : 160 ≤ d) : mm_Di g zX11_put d [.ref 0, .int c, .int x, .int v] sh_S I (St I (op_put w h I c x v)) := by
  have hz := iV_z hS.1
  have q := cb_put (g := g) (d := d) (A := I) hz hS.1.1.1 (J := I) rfl hS.1.1.2.2.1 (iT_K hS.1.1) (c := c) (x := x) (v := v) (by omega)
  rw [← sS_self hS.2.1] at q
  exact mm_Ci_Di q (St_ok H hS (ok_put hS.1))
theorem cl_store {g : mm_G} {d : Nat} {I : mm_I} {w h n l k o r T : Nat} (H : RC I) (hS : siR I (I 201) w h n l k o r T) {x : Int32} {v : Int32} (hd : 160 ≤ d) : mm_Di g zX11_store d [.ref 0, .int x, .int v] sh_S I (St I (op_store I x v)) := by
  have hz := iV_z hS.1
  have q := cb_store (g := g) (d := d) (A := I) hz hS.1.1.1 (J := I) rfl hS.1.1.2.2.1 (iT_K hS.1.1) (x := x) (v := v) (by omega)
  rw [← sS_self hS.2.1] at q
  exact mm_Ci_Di q (St_ok H hS (ok_store hS.1))
theorem cl_rule {g : mm_G} {d : Nat} {I : mm_I} {w h n l k o r T : Nat} (H : RC I) (hS : siR I (I 201) w h n l k o r T) {x : Int32} {v : Int32} (hd : 160 ≤ d) : mm_Di g zX11_rule d [.ref 0, .int x, .int v] sh_S I (St I (op_rule I x v)) := by
  have hz := iV_z hS.1
  have q := cb_rule (g := g) (d := d) (A := I) hz hS.1.1.1 (J := I) rfl hS.1.1.2.2.1 (iT_K hS.1.1) (x := x) (v := v) (by omega)
  rw [← sS_self hS.2.1] at q
  exact mm_Ci_Di q (St_ok H hS (ok_rule hS.1))
theorem cl_tune {g : mm_G} {d : Nat} {I : mm_I} {w h n l k o r T : Nat} (H : RC I) (hS : siR I (I 201) w h n l k o r T) {m : Int32} {x : Int32} {v : Int32} (hd : 160 ≤ d) : mm_Di g zX11_tune d [.ref 0, .int m, .int x, .int v] sh_S I (St I (op_tune n I m x v)) := by
  have hz := iV_z hS.1
  have q := cb_tune (g := g) (d := d) (A := I) hz hS.1.1.1 (J := I) rfl hS.1.1.2.2.1 (iT_K hS.1.1) (m := m) (x := x) (v := v) (by omega)
  rw [← sS_self hS.2.1] at q
  exact mm_Ci_Di q (St_ok H hS (ok_tune hS.1))
theorem cl_lay {g : mm_G} {d : Nat} {I : mm_I} {w h n l k o r T : Nat} (H : RC I) (hS : siR I (I 201) w h n l k o r T) {s : Int32} (hd : 160 ≤ d) : mm_Di g zX11_lay d [.ref 0, .int s] sh_S I (St I (op_lay w h I s)) := by
  have hz := iV_z hS.1
  have q := cb_lay (g := g) (d := d) (A := I) hz hS.1.1.1 (J := I) rfl (by rw [← sS_self hS.2.1]; exact H.2.2.2.2.1) H.2.2.2.2.2 (s := s) (by omega)
  rw [← sS_self hS.2.1] at q
  refine mm_Di_w q (fun r_ K hK => ?_)
  rw [hK.1, hK.2]
  exact St_ok H hS (ok_lay hS.1)
theorem cl_land {g : mm_G} {d : Nat} {I : mm_I} {w h n l k o r T : Nat} (H : RC I) (hS : siR I (I 201) w h n l k o r T) {c p : Int32} (hd : 160 ≤ d) : mm_Di g zX11_land d [.ref 0, .int c, .int p] sh_S I (St I (op_land w h n I c p)) := by
  have hz := iV_z hS.1
  have hc := mo_W_c hS.1.1.1
  by_cases hx : ¬ sp_isC w h c ∨ ¬ sp_wi p 0 99
  · have q := cb_landB (g := g) (d := d) (A := I) hz hS.1.1.1 hx (by omega)
    rw [← sS_self hS.2.1] at q
    have e : op_land w h n I c p = (-1000000001, I) := by unfold op_land; rw [if_pos hx]
    rw [e]; exact mm_Ci_Di q (St_id H)
  · have h1 : sp_isC w h c := Decidable.not_not.mp (fun z => hx (Or.inl z))
    have h2 : sp_wi p 0 99 := Decidable.not_not.mp (fun z => hx (Or.inr z))
    obtain ⟨c', c1, rfl⟩ := sp_isC_nat (by omega) h1
    have hK0 : ∀ x, x < w * h → (I 201 (30 + x) = 4 ↔ x = 0) := fun x hx => by
      obtain ⟨y, y1, y2, y3⟩ := hS.1.1.2.2.2.1 x hx
      rw [y2]
      constructor
      · intro z; exact y3.mp (nI_j (z.trans (show (4 : Int32) = nI 4 from rfl)) (by omega) (by decide))
      · intro z; rw [y3.mpr z]; rfl
    have q := cb_land (g := g) (d := d) (A := I) hz hS.1.1.1 (J := I) rfl c1 h2 hS.1.1.2.2.1 (iT_C hS.1.1) hK0 (by omega)
    rw [← sS_self hS.2.1] at q
    exact mm_Ci_Di q (St_ok H hS (ok_land hS.1))
