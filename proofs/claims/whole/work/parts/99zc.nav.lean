/-! THE CLASS: a MACHINE runs its PROGRAM: words, JUMPs -/
/-- the PROGRAM's cells, while it is run -/
def axA (A : mm_I) (p a : Nat) (Aa : Nat → Int32) (CS : List Nat) : Prop := A (53 + 5 * p) 1 = nI (3 * a) ∧ (∀ i, i < 3 * a → A (54 + 5 * p) i = Aa i) ∧ (∀ i, 3 * a ≤ i → Aa i = 0) ∧ A (55 + 5 * p) 1 = nI CS.length ∧ (∀ i, i < CS.length → A (56 + 5 * p) i = cs_ (CS.getD i 0))
theorem axA_c {A A' : mm_I} {p a : Nat} {Aa : Nat → Int32} {CS : List Nat} (h : axA A p a Aa CS) (hA : ∀ x, 52 + 5 * p ≤ x → x ≤ 56 + 5 * p → A' x = A x) : axA A' p a Aa CS := by
  obtain ⟨h1, h2, h3, h4, h5⟩ := h
  exact ⟨(congrFun (hA _ (by omega) (by omega)) 1).trans h1, fun i hi => (congrFun (hA _ (by omega) (by omega)) i).trans (h2 i hi), h3, (congrFun (hA _ (by omega) (by omega)) 1).trans h4, fun i hi => (congrFun (hA _ (by omega) (by omega)) i).trans (h5 i hi)⟩
theorem axA_lt {A : mm_I} {p a : Nat} {Aa : Nat → Int32} {CS : List Nat} {x : Nat} (h : axA A p a Aa CS) {v : Int32} (e : Aa (3 * x) = v) (hv : ¬ v = 0) : x < a := by
  refine Decidable.not_not.mp (fun q => hv ?_)
  rw [← e]; exact h.2.2.1 _ (by omega)
set_option maxRecDepth 100000 in
set_option maxHeartbeats 600000 in
theorem lg_nav {g : mm_G} {d : Nat} {w h n l k o r : Nat} {N : Nat → Int32} (hz : zOK (w * h) n l k o r) (hW : mo_W N w h) {m p a j : Nat} {Aa : Nat → Int32} {CS : List Nat} (hm : m < n) (hp : p < 6) (ha : a ≤ 38) (hj : j < 50) {Q : Option Value → mm_Sh → mm_I → Prop} {z : Nat} (hd : 6 ≤ d) : ∀ (f x q : Nat) (A : mm_I), axA A p a Aa CS → A (36 + 3 * m) 7 = nI x → x ≤ 40 → LdP Aa z f x → q + f ≤ 900 → (∀ q' A', q' ≤ q + f → (∀ b, ¬ b = 36 + 3 * m → A' b = A b) → A' (36 + 3 * m) 7 = nI z → mm_Ex g zX6_runScript d (0, 0) (0, 0) sh_S (cN (w * h) n l k o r (A') N) 41 [(4, .int (nI (q'))), (3, .int (nI (j))), (0, .ref 171), (1, .ref (36 + 3 * m)), (2, .ref (52 + 5 * p))] [] Q) → mm_Ex g zX6_runScript d (0, 0) (0, 0) sh_S (cN (w * h) n l k o r A N) 41 [(4, .int (nI (q))), (3, .int (nI (j))), (0, .ref 171), (1, .ref (36 + 3 * m)), (2, .ref (52 + 5 * p))] [] Q := by
  obtain ⟨hz1, hz2, hz3, hz4, hz5, hz6⟩ := id hz
  have hc := mo_W_c hW
  obtain ⟨-, -, hw1, hw2, hh1, hh2⟩ := id hW
  intro f
  induction f with
  | zero =>
    intro x q A hA hpl hx40 hL hq9 hk_
    have e : x = z := hL
    subst e
    exact hk_ q A (by omega) (fun _ _ => rfl) hpl
  | succ f ih =>
    intro x q A hA hpl hx40 hL hq9 hk_
    rcases hL with e | ⟨e1, y, e2, hy, hL⟩
    · subst e; exact hk_ q A (by omega) (fun _ _ => rfl) hpl
    have hxa : x < a := axA_lt hA e1 (by decide)
    have hc0 : A (54 + 5 * p) (3 * x) = 12 := (hA.2.1 _ (by omega)).trans e1
    have hc2 : A (54 + 5 * p) (3 * x + 2) = nI y := (hA.2.1 _ (by omega)).trans e2
    refine mm_iload 0 dX6_runScript_41 rfl ?_
    refine mm_sipush (v := 1000) dX6_runScript_43 rfl ?_
    refine mm_icmp_geN (q) (1000) (tgt := 147) dX6_runScript_46 (by decide) (by omega) (by omega) (fun c46 => ?_) (fun c46 => ?_)
    · exfalso; omega
    · refine mm_iload_n 1 dX6_runScript_49 rfl rfl ?_
      refine mm_bipush (v := 50) dX6_runScript_50 rfl ?_
      refine mm_icmp_geN (j) (50) (tgt := 147) dX6_runScript_52 (by decide) (by omega) (by omega) (fun c52 => ?_) (fun c52 => ?_)
      · exfalso; omega
      · refine mm_aload_n 3 dX6_runScript_55 rfl rfl ?_
        refine mm_geti dX6_runScript_56 rfl fk_X6_148 rfl (sm_1 (show m < 5 by omega)).1 ?_
        refine mm_top (v := nI (x)) ((s_m7 hz2 (by omega)).trans hpl) ?_
        refine mm_istore (ls' := [(5, .int (nI (x))), (4, .int (nI (q))), (3, .int (nI (j))), (0, .ref 171), (1, .ref (36 + 3 * m)), (2, .ref (52 + 5 * p))]) dX6_runScript_59 (by decide) rfl ?_
        refine mm_iload 0 dX6_runScript_61 rfl ?_
        refine mm_aload_n 5 dX6_runScript_63 rfl rfl ?_
        refine mm_cV0i (dz := d - 1) dX6_runScript_64 rfl mzX4_length ml_X6_151 imX4_length (by omega) (sp_1 hp).1 ⟨rfl, rfl⟩ (cg_len hp ((cN_off hz2 (by omega)).trans hA.1) (by omega) (by omega)) (Nat.le_of_ble_eq_true rfl) ⟨Nat.le_refl _, Nat.le_refl _⟩ ?_
        refine mm_icmp_ltN (x) (a) (tgt := 76) dX6_runScript_67 (by decide) (by omega) (by omega) (fun c67 => ?_) (fun c67 => ?_)
        · refine mm_aload_n 3 dX6_runScript_76 rfl rfl ?_
          refine mm_aload_n 4 dX6_runScript_77 rfl rfl ?_
          refine mm_aload_n 5 dX6_runScript_78 rfl rfl ?_
          refine mm_cV2i (dz := d - 1) dX6_runScript_79 rfl mzX6_steer ml_X6_154 imX6_steer (by omega) so_171 ⟨rfl, rfl⟩ (cg_stJ hz hW hm hp (x := x) (by omega) hpl (y := y) hc0 hc2 (by omega)) (Nat.le_of_ble_eq_true rfl) ⟨Nat.le_refl _, Nat.le_refl _⟩ ?_
          refine mm_istore (ls' := [(6, .int (0)), (5, .int (nI (x))), (4, .int (nI (q))), (3, .int (nI (j))), (0, .ref 171), (1, .ref (36 + 3 * m)), (2, .ref (52 + 5 * p))]) dX6_runScript_82 (by decide) rfl ?_
          refine mm_iload 0 dX6_runScript_84 rfl ?_
          refine mm_iconst (v := -1) dX6_runScript_86 rfl ?_
          refine mm_icmp_ne (tgt := 118) dX6_runScript_87 (by decide) (fun _ => ?_) (fun q => absurd q (by decide))
          refine mm_iload 0 dX6_runScript_118 rfl ?_
          refine mm_iconst (v := -1) dX6_runScript_120 rfl ?_
          refine mm_icmp_ne (tgt := 136) dX6_runScript_121 (by decide) (fun _ => ?_) (fun q => absurd q (by decide))
          refine mm_iload_n 3 dX6_runScript_136 rfl rfl ?_
          refine mm_iload 0 dX6_runScript_137 rfl ?_
          refine mm_iaddN (j) (0) dX6_runScript_139 ?_
          refine mm_istore_n (ls' := [(3, .int (nI (j + 0))), (6, .int (0)), (5, .int (nI (x))), (4, .int (nI (q))), (0, .ref 171), (1, .ref (36 + 3 * m)), (2, .ref (52 + 5 * p))]) dX6_runScript_140 rfl (by decide) rfl ?_
          refine mm_iincN (ls' := [(4, .int (nI (q + 1))), (3, .int (nI (j + 0))), (6, .int (0)), (5, .int (nI (x))), (0, .ref 171), (1, .ref (36 + 3 * m)), (2, .ref (52 + 5 * p))]) 3 (q) 1 dX6_runScript_141 rfl rfl (by decide) rfl ?_
          refine mm_goto (tgt := 41) dX6_runScript_144 (by decide) ?_
          refine mm_sub [0, 1, 4, 5, 6] rfl (ih y (q + 1) _ (axA_c hA (fun b h1 h2 => by rw [mm_up_a (by omega), mm_up_a (by omega)])) mm_up_at hy hL (by omega) (fun q2 A2 h1 h2 h3 => hk_ q2 A2 (by omega) (fun b hb => ?_) h3))
          rw [h2 b hb, mm_up_a hb, mm_up_a hb]
        · exfalso; omega
