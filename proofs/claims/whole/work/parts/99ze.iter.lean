/-! THE CLASS: a MACHINE runs its PROGRAM: one round of its loop -/
set_option maxRecDepth 100000 in
set_option maxHeartbeats 600000 in
theorem lg_pG {g : mm_G} {d : Nat} {w h n l k o r : Nat} {A : mm_I} {N : Nat → Int32} (hz : zOK (w * h) n l k o r) (hW : mo_W N w h) {m p a j : Nat} {Aa : Nat → Int32} {CS : List Nat} (hm : m < n) (hp : p < 6) (ha : a ≤ 38) (hj : j < 50) {x q : Nat} (hA : axA A p a Aa CS) (hpl : A (36 + 3 * m) 7 = nI x) (hxa : x < a) (hq9 : q ≤ 900) (hd : 7 ≤ d) {c u v : Nat} (h1 : N (630 + 40 * m + 1) = nI c) (hcc : c < w * h) (hu : u ≤ 9999) (hv : v ≤ 9999) (hat : c % w = u ∧ c / w = v) {Q : Option Value → mm_Sh → mm_I → Prop} (hc0 : A (54 + 5 * p) (3 * x) = 1) (hc1 : A (54 + 5 * p) (3 * x + 1) = nI u) (hc2 : A (54 + 5 * p) (3 * x + 2) = nI v) (hk_ : mm_Ex g zX6_runScript d (0, 0) (0, 0) sh_S (cN (w * h) n l k o r (mm_up A (36 + 3 * m) 7 (nI (x + 1))) N) 41 [(4, .int (nI (q + 1))), (3, .int (nI (j + 1))), (0, .ref 171), (1, .ref (36 + 3 * m)), (2, .ref (52 + 5 * p))] [] Q) : mm_Ex g zX6_runScript d (0, 0) (0, 0) sh_S (cN (w * h) n l k o r A N) 41 [(4, .int (nI (q))), (3, .int (nI (j))), (0, .ref 171), (1, .ref (36 + 3 * m)), (2, .ref (52 + 5 * p))] [] Q := by
  obtain ⟨hz1, hz2, hz3, hz4, hz5, hz6⟩ := id hz
  have hc := mo_W_c hW
  obtain ⟨-, -, hw1, hw2, hh1, hh2⟩ := id hW
  refine mm_iload 0 dX6_runScript_41 rfl ?_
  refine mm_sipush (v := 1000) dX6_runScript_43 rfl ?_
  refine mm_icmp_geN (q) (1000) (tgt := 147) dX6_runScript_46 (by decide) (by omega) (by omega) (fun c46 => ?_) (fun c46 => ?_)
  · exfalso; omega
  · refine mm_iload_n 1 dX6_runScript_49 rfl rfl ?_
    refine mm_bipush (v := 50) dX6_runScript_50 rfl ?_
    refine mm_icmp_geN (j) (50) (tgt := 147) dX6_runScript_52 (by decide) (by omega) (by omega) (fun c52 => ?_) (fun c52 => ?_)
    · exfalso; omega
    · refine mm_aload_n 3 dX6_runScript_55 rfl rfl ?_
      refine mm_geti dX6_runScript_56 rfl fk_X6_148 rfl (sm_1 (show m < 5 by omega)).1 ?_
      refine mm_top (v := nI (x)) ((s_m7 hz2 (by omega)).trans hpl) ?_
      refine mm_istore (ls' := [(5, .int (nI (x))), (4, .int (nI (q))), (3, .int (nI (j))), (0, .ref 171), (1, .ref (36 + 3 * m)), (2, .ref (52 + 5 * p))]) dX6_runScript_59 (by decide) rfl ?_
      refine mm_iload 0 dX6_runScript_61 rfl ?_
      refine mm_aload_n 5 dX6_runScript_63 rfl rfl ?_
      refine mm_cV0i (dz := d - 1) dX6_runScript_64 rfl mzX4_length ml_X6_151 imX4_length (by omega) (sp_1 hp).1 ⟨rfl, rfl⟩ (cg_len hp ((cN_off hz2 (by omega)).trans hA.1) (by omega) (by omega)) (Nat.le_of_ble_eq_true rfl) ⟨Nat.le_refl _, Nat.le_refl _⟩ ?_
      refine mm_icmp_ltN (x) (a) (tgt := 76) dX6_runScript_67 (by decide) (by omega) (by omega) (fun c67 => ?_) (fun c67 => ?_)
      · refine mm_aload_n 3 dX6_runScript_76 rfl rfl ?_
        refine mm_aload_n 4 dX6_runScript_77 rfl rfl ?_
        refine mm_aload_n 5 dX6_runScript_78 rfl rfl ?_
        refine mm_cV2i (dz := d - 1) dX6_runScript_79 rfl mzX6_steer ml_X6_154 imX6_steer (by omega) so_171 ⟨rfl, rfl⟩ (by have z := cg_stG (g := g) (d := d - 1) (A := A) hz hW hm hp (x := x) (by omega) hpl h1 hcc hu hv hc0 hc1 hc2 (by omega); rw [if_pos hat] at z; exact z) (Nat.le_of_ble_eq_true rfl) ⟨Nat.le_refl _, Nat.le_refl _⟩ ?_
        refine mm_istore (ls' := [(6, .int (1)), (5, .int (nI (x))), (4, .int (nI (q))), (3, .int (nI (j))), (0, .ref 171), (1, .ref (36 + 3 * m)), (2, .ref (52 + 5 * p))]) dX6_runScript_82 (by decide) rfl ?_
        refine mm_iload 0 dX6_runScript_84 rfl ?_
        refine mm_iconst (v := -1) dX6_runScript_86 rfl ?_
        refine mm_icmp_ne (tgt := 118) dX6_runScript_87 (by decide) (fun _ => ?_) (fun q => absurd q (by decide))
        refine mm_iload 0 dX6_runScript_118 rfl ?_
        refine mm_iconst (v := -1) dX6_runScript_120 rfl ?_
        refine mm_icmp_ne (tgt := 136) dX6_runScript_121 (by decide) (fun _ => ?_) (fun q => absurd q (by decide))
        refine mm_iload_n 3 dX6_runScript_136 rfl rfl ?_
        refine mm_iload 0 dX6_runScript_137 rfl ?_
        refine mm_iaddN (j) (1) dX6_runScript_139 ?_
        refine mm_istore_n (ls' := [(3, .int (nI (j + 1))), (6, .int (1)), (5, .int (nI (x))), (4, .int (nI (q))), (0, .ref 171), (1, .ref (36 + 3 * m)), (2, .ref (52 + 5 * p))]) dX6_runScript_140 rfl (by decide) rfl ?_
        refine mm_iincN (ls' := [(4, .int (nI (q + 1))), (3, .int (nI (j + 1))), (6, .int (1)), (5, .int (nI (x))), (0, .ref 171), (1, .ref (36 + 3 * m)), (2, .ref (52 + 5 * p))]) 3 (q) 1 dX6_runScript_141 rfl rfl (by decide) rfl ?_
        refine mm_goto (tgt := 41) dX6_runScript_144 (by decide) ?_
        exact mm_sub [0, 1, 4, 5, 6] rfl (hk_)
      · exfalso; omega
set_option maxRecDepth 100000 in
set_option maxHeartbeats 600000 in
theorem lg_pR1 {g : mm_G} {d : Nat} {w h n l k o r : Nat} {A : mm_I} {N : Nat → Int32} (hz : zOK (w * h) n l k o r) (hW : mo_W N w h) {m p a j : Nat} {Aa : Nat → Int32} {CS : List Nat} (hm : m < n) (hp : p < 6) (ha : a ≤ 38) (hj : j < 50) {x q : Nat} (hA : axA A p a Aa CS) (hpl : A (36 + 3 * m) 7 = nI x) (hxa : x < a) (hq9 : q ≤ 900) (hd : 7 ≤ d) {i v y : Nat} (hi : i < 4) (hlf : A (37 + 3 * m + 1) i = nI v) (hv : 0 < v) (hv31 : v < 2 ^ 31) {Q : Option Value → mm_Sh → mm_I → Prop} (hc0 : A (54 + 5 * p) (3 * x) = 5) (hc1 : A (54 + 5 * p) (3 * x + 1) = nI i) (hc2 : A (54 + 5 * p) (3 * x + 2) = nI y) (hk_ : mm_Ex g zX6_runScript d (0, 0) (0, 0) sh_S (cN (w * h) n l k o r (mm_up (mm_up A (36 + 3 * m) 7 (nI (x + 1))) (37 + 3 * m + 1) i (nI (v - 1))) N) 41 [(4, .int (nI (q + 1))), (3, .int (nI (j + 1))), (0, .ref 171), (1, .ref (36 + 3 * m)), (2, .ref (52 + 5 * p))] [] Q) : mm_Ex g zX6_runScript d (0, 0) (0, 0) sh_S (cN (w * h) n l k o r A N) 41 [(4, .int (nI (q))), (3, .int (nI (j))), (0, .ref 171), (1, .ref (36 + 3 * m)), (2, .ref (52 + 5 * p))] [] Q := by
  obtain ⟨hz1, hz2, hz3, hz4, hz5, hz6⟩ := id hz
  have hc := mo_W_c hW
  obtain ⟨-, -, hw1, hw2, hh1, hh2⟩ := id hW
  refine mm_iload 0 dX6_runScript_41 rfl ?_
  refine mm_sipush (v := 1000) dX6_runScript_43 rfl ?_
  refine mm_icmp_geN (q) (1000) (tgt := 147) dX6_runScript_46 (by decide) (by omega) (by omega) (fun c46 => ?_) (fun c46 => ?_)
  · exfalso; omega
  · refine mm_iload_n 1 dX6_runScript_49 rfl rfl ?_
    refine mm_bipush (v := 50) dX6_runScript_50 rfl ?_
    refine mm_icmp_geN (j) (50) (tgt := 147) dX6_runScript_52 (by decide) (by omega) (by omega) (fun c52 => ?_) (fun c52 => ?_)
    · exfalso; omega
    · refine mm_aload_n 3 dX6_runScript_55 rfl rfl ?_
      refine mm_geti dX6_runScript_56 rfl fk_X6_148 rfl (sm_1 (show m < 5 by omega)).1 ?_
      refine mm_top (v := nI (x)) ((s_m7 hz2 (by omega)).trans hpl) ?_
      refine mm_istore (ls' := [(5, .int (nI (x))), (4, .int (nI (q))), (3, .int (nI (j))), (0, .ref 171), (1, .ref (36 + 3 * m)), (2, .ref (52 + 5 * p))]) dX6_runScript_59 (by decide) rfl ?_
      refine mm_iload 0 dX6_runScript_61 rfl ?_
      refine mm_aload_n 5 dX6_runScript_63 rfl rfl ?_
      refine mm_cV0i (dz := d - 1) dX6_runScript_64 rfl mzX4_length ml_X6_151 imX4_length (by omega) (sp_1 hp).1 ⟨rfl, rfl⟩ (cg_len hp ((cN_off hz2 (by omega)).trans hA.1) (by omega) (by omega)) (Nat.le_of_ble_eq_true rfl) ⟨Nat.le_refl _, Nat.le_refl _⟩ ?_
      refine mm_icmp_ltN (x) (a) (tgt := 76) dX6_runScript_67 (by decide) (by omega) (by omega) (fun c67 => ?_) (fun c67 => ?_)
      · refine mm_aload_n 3 dX6_runScript_76 rfl rfl ?_
        refine mm_aload_n 4 dX6_runScript_77 rfl rfl ?_
        refine mm_aload_n 5 dX6_runScript_78 rfl rfl ?_
        refine mm_cV2i (dz := d - 1) dX6_runScript_79 rfl mzX6_steer ml_X6_154 imX6_steer (by omega) so_171 ⟨rfl, rfl⟩ (cg_stR1 hz hW hm hp (x := x) (by omega) hpl hi hlf hv hv31 hc0 hc1 hc2 (by omega)) (Nat.le_of_ble_eq_true rfl) ⟨Nat.le_refl _, Nat.le_refl _⟩ ?_
        refine mm_istore (ls' := [(6, .int (1)), (5, .int (nI (x))), (4, .int (nI (q))), (3, .int (nI (j))), (0, .ref 171), (1, .ref (36 + 3 * m)), (2, .ref (52 + 5 * p))]) dX6_runScript_82 (by decide) rfl ?_
        refine mm_iload 0 dX6_runScript_84 rfl ?_
        refine mm_iconst (v := -1) dX6_runScript_86 rfl ?_
        refine mm_icmp_ne (tgt := 118) dX6_runScript_87 (by decide) (fun _ => ?_) (fun q => absurd q (by decide))
        refine mm_iload 0 dX6_runScript_118 rfl ?_
        refine mm_iconst (v := -1) dX6_runScript_120 rfl ?_
        refine mm_icmp_ne (tgt := 136) dX6_runScript_121 (by decide) (fun _ => ?_) (fun q => absurd q (by decide))
        refine mm_iload_n 3 dX6_runScript_136 rfl rfl ?_
        refine mm_iload 0 dX6_runScript_137 rfl ?_
        refine mm_iaddN (j) (1) dX6_runScript_139 ?_
        refine mm_istore_n (ls' := [(3, .int (nI (j + 1))), (6, .int (1)), (5, .int (nI (x))), (4, .int (nI (q))), (0, .ref 171), (1, .ref (36 + 3 * m)), (2, .ref (52 + 5 * p))]) dX6_runScript_140 rfl (by decide) rfl ?_
        refine mm_iincN (ls' := [(4, .int (nI (q + 1))), (3, .int (nI (j + 1))), (6, .int (1)), (5, .int (nI (x))), (0, .ref 171), (1, .ref (36 + 3 * m)), (2, .ref (52 + 5 * p))]) 3 (q) 1 dX6_runScript_141 rfl rfl (by decide) rfl ?_
        refine mm_goto (tgt := 41) dX6_runScript_144 (by decide) ?_
        exact mm_sub [0, 1, 4, 5, 6] rfl (hk_)
      · exfalso; omega
set_option maxRecDepth 100000 in
set_option maxHeartbeats 600000 in
theorem lg_pR0 {g : mm_G} {d : Nat} {w h n l k o r : Nat} {A : mm_I} {N : Nat → Int32} (hz : zOK (w * h) n l k o r) (hW : mo_W N w h) {m p a j : Nat} {Aa : Nat → Int32} {CS : List Nat} (hm : m < n) (hp : p < 6) (ha : a ≤ 38) (hj : j < 50) {x q : Nat} (hA : axA A p a Aa CS) (hpl : A (36 + 3 * m) 7 = nI x) (hxa : x < a) (hq9 : q ≤ 900) (hd : 7 ≤ d) {i y : Nat} (hi : i < 4) (hlf : A (37 + 3 * m + 1) i = 0) {Q : Option Value → mm_Sh → mm_I → Prop} (hc0 : A (54 + 5 * p) (3 * x) = 5) (hc1 : A (54 + 5 * p) (3 * x + 1) = nI i) (hc2 : A (54 + 5 * p) (3 * x + 2) = nI y) (hk_ : mm_Ex g zX6_runScript d (0, 0) (0, 0) sh_S (cN (w * h) n l k o r (mm_up (mm_up A (36 + 3 * m) 7 (nI (x + 1))) (36 + 3 * m) 7 (nI y)) N) 41 [(4, .int (nI (q + 1))), (3, .int (nI (j + 1))), (0, .ref 171), (1, .ref (36 + 3 * m)), (2, .ref (52 + 5 * p))] [] Q) : mm_Ex g zX6_runScript d (0, 0) (0, 0) sh_S (cN (w * h) n l k o r A N) 41 [(4, .int (nI (q))), (3, .int (nI (j))), (0, .ref 171), (1, .ref (36 + 3 * m)), (2, .ref (52 + 5 * p))] [] Q := by
  obtain ⟨hz1, hz2, hz3, hz4, hz5, hz6⟩ := id hz
  have hc := mo_W_c hW
  obtain ⟨-, -, hw1, hw2, hh1, hh2⟩ := id hW
  refine mm_iload 0 dX6_runScript_41 rfl ?_
  refine mm_sipush (v := 1000) dX6_runScript_43 rfl ?_
  refine mm_icmp_geN (q) (1000) (tgt := 147) dX6_runScript_46 (by decide) (by omega) (by omega) (fun c46 => ?_) (fun c46 => ?_)
  · exfalso; omega
  · refine mm_iload_n 1 dX6_runScript_49 rfl rfl ?_
    refine mm_bipush (v := 50) dX6_runScript_50 rfl ?_
    refine mm_icmp_geN (j) (50) (tgt := 147) dX6_runScript_52 (by decide) (by omega) (by omega) (fun c52 => ?_) (fun c52 => ?_)
    · exfalso; omega
    · refine mm_aload_n 3 dX6_runScript_55 rfl rfl ?_
      refine mm_geti dX6_runScript_56 rfl fk_X6_148 rfl (sm_1 (show m < 5 by omega)).1 ?_
      refine mm_top (v := nI (x)) ((s_m7 hz2 (by omega)).trans hpl) ?_
      refine mm_istore (ls' := [(5, .int (nI (x))), (4, .int (nI (q))), (3, .int (nI (j))), (0, .ref 171), (1, .ref (36 + 3 * m)), (2, .ref (52 + 5 * p))]) dX6_runScript_59 (by decide) rfl ?_
      refine mm_iload 0 dX6_runScript_61 rfl ?_
      refine mm_aload_n 5 dX6_runScript_63 rfl rfl ?_
      refine mm_cV0i (dz := d - 1) dX6_runScript_64 rfl mzX4_length ml_X6_151 imX4_length (by omega) (sp_1 hp).1 ⟨rfl, rfl⟩ (cg_len hp ((cN_off hz2 (by omega)).trans hA.1) (by omega) (by omega)) (Nat.le_of_ble_eq_true rfl) ⟨Nat.le_refl _, Nat.le_refl _⟩ ?_
      refine mm_icmp_ltN (x) (a) (tgt := 76) dX6_runScript_67 (by decide) (by omega) (by omega) (fun c67 => ?_) (fun c67 => ?_)
      · refine mm_aload_n 3 dX6_runScript_76 rfl rfl ?_
        refine mm_aload_n 4 dX6_runScript_77 rfl rfl ?_
        refine mm_aload_n 5 dX6_runScript_78 rfl rfl ?_
        refine mm_cV2i (dz := d - 1) dX6_runScript_79 rfl mzX6_steer ml_X6_154 imX6_steer (by omega) so_171 ⟨rfl, rfl⟩ (cg_stR0 hz hW hm hp (x := x) (by omega) hpl hi hlf hc0 hc1 hc2 (by omega)) (Nat.le_of_ble_eq_true rfl) ⟨Nat.le_refl _, Nat.le_refl _⟩ ?_
        refine mm_istore (ls' := [(6, .int (1)), (5, .int (nI (x))), (4, .int (nI (q))), (3, .int (nI (j))), (0, .ref 171), (1, .ref (36 + 3 * m)), (2, .ref (52 + 5 * p))]) dX6_runScript_82 (by decide) rfl ?_
        refine mm_iload 0 dX6_runScript_84 rfl ?_
        refine mm_iconst (v := -1) dX6_runScript_86 rfl ?_
        refine mm_icmp_ne (tgt := 118) dX6_runScript_87 (by decide) (fun _ => ?_) (fun q => absurd q (by decide))
        refine mm_iload 0 dX6_runScript_118 rfl ?_
        refine mm_iconst (v := -1) dX6_runScript_120 rfl ?_
        refine mm_icmp_ne (tgt := 136) dX6_runScript_121 (by decide) (fun _ => ?_) (fun q => absurd q (by decide))
        refine mm_iload_n 3 dX6_runScript_136 rfl rfl ?_
        refine mm_iload 0 dX6_runScript_137 rfl ?_
        refine mm_iaddN (j) (1) dX6_runScript_139 ?_
        refine mm_istore_n (ls' := [(3, .int (nI (j + 1))), (6, .int (1)), (5, .int (nI (x))), (4, .int (nI (q))), (0, .ref 171), (1, .ref (36 + 3 * m)), (2, .ref (52 + 5 * p))]) dX6_runScript_140 rfl (by decide) rfl ?_
        refine mm_iincN (ls' := [(4, .int (nI (q + 1))), (3, .int (nI (j + 1))), (6, .int (1)), (5, .int (nI (x))), (0, .ref 171), (1, .ref (36 + 3 * m)), (2, .ref (52 + 5 * p))]) 3 (q) 1 dX6_runScript_141 rfl rfl (by decide) rfl ?_
        refine mm_goto (tgt := 41) dX6_runScript_144 (by decide) ?_
        exact mm_sub [0, 1, 4, 5, 6] rfl (hk_)
      · exfalso; omega
set_option maxRecDepth 100000 in
set_option maxHeartbeats 600000 in
theorem lg_pS {g : mm_G} {d : Nat} {w h n l k o r : Nat} {A : mm_I} {N : Nat → Int32} (hz : zOK (w * h) n l k o r) (hW : mo_W N w h) {m p a j : Nat} {Aa : Nat → Int32} {CS : List Nat} (hm : m < n) (hp : p < 6) (ha : a ≤ 38) (hj : j < 50) {x q : Nat} (hA : axA A p a Aa CS) (hpl : A (36 + 3 * m) 7 = nI x) (hxa : x < a) (hq9 : q ≤ 900) (hd : 7 ≤ d) {i v : Nat} (hi : i < 4) {Q : Option Value → mm_Sh → mm_I → Prop} (hc0 : A (54 + 5 * p) (3 * x) = 13) (hc1 : A (54 + 5 * p) (3 * x + 1) = nI i) (hc2 : A (54 + 5 * p) (3 * x + 2) = nI v) (hk_ : mm_Ex g zX6_runScript d (0, 0) (0, 0) sh_S (cN (w * h) n l k o r (mm_up (mm_up A (36 + 3 * m) 7 (nI (x + 1))) (37 + 3 * m + 1) i (nI v)) N) 41 [(4, .int (nI (q + 1))), (3, .int (nI (j + 0))), (0, .ref 171), (1, .ref (36 + 3 * m)), (2, .ref (52 + 5 * p))] [] Q) : mm_Ex g zX6_runScript d (0, 0) (0, 0) sh_S (cN (w * h) n l k o r A N) 41 [(4, .int (nI (q))), (3, .int (nI (j))), (0, .ref 171), (1, .ref (36 + 3 * m)), (2, .ref (52 + 5 * p))] [] Q := by
  obtain ⟨hz1, hz2, hz3, hz4, hz5, hz6⟩ := id hz
  have hc := mo_W_c hW
  obtain ⟨-, -, hw1, hw2, hh1, hh2⟩ := id hW
  refine mm_iload 0 dX6_runScript_41 rfl ?_
  refine mm_sipush (v := 1000) dX6_runScript_43 rfl ?_
  refine mm_icmp_geN (q) (1000) (tgt := 147) dX6_runScript_46 (by decide) (by omega) (by omega) (fun c46 => ?_) (fun c46 => ?_)
  · exfalso; omega
  · refine mm_iload_n 1 dX6_runScript_49 rfl rfl ?_
    refine mm_bipush (v := 50) dX6_runScript_50 rfl ?_
    refine mm_icmp_geN (j) (50) (tgt := 147) dX6_runScript_52 (by decide) (by omega) (by omega) (fun c52 => ?_) (fun c52 => ?_)
    · exfalso; omega
    · refine mm_aload_n 3 dX6_runScript_55 rfl rfl ?_
      refine mm_geti dX6_runScript_56 rfl fk_X6_148 rfl (sm_1 (show m < 5 by omega)).1 ?_
      refine mm_top (v := nI (x)) ((s_m7 hz2 (by omega)).trans hpl) ?_
      refine mm_istore (ls' := [(5, .int (nI (x))), (4, .int (nI (q))), (3, .int (nI (j))), (0, .ref 171), (1, .ref (36 + 3 * m)), (2, .ref (52 + 5 * p))]) dX6_runScript_59 (by decide) rfl ?_
      refine mm_iload 0 dX6_runScript_61 rfl ?_
      refine mm_aload_n 5 dX6_runScript_63 rfl rfl ?_
      refine mm_cV0i (dz := d - 1) dX6_runScript_64 rfl mzX4_length ml_X6_151 imX4_length (by omega) (sp_1 hp).1 ⟨rfl, rfl⟩ (cg_len hp ((cN_off hz2 (by omega)).trans hA.1) (by omega) (by omega)) (Nat.le_of_ble_eq_true rfl) ⟨Nat.le_refl _, Nat.le_refl _⟩ ?_
      refine mm_icmp_ltN (x) (a) (tgt := 76) dX6_runScript_67 (by decide) (by omega) (by omega) (fun c67 => ?_) (fun c67 => ?_)
      · refine mm_aload_n 3 dX6_runScript_76 rfl rfl ?_
        refine mm_aload_n 4 dX6_runScript_77 rfl rfl ?_
        refine mm_aload_n 5 dX6_runScript_78 rfl rfl ?_
        refine mm_cV2i (dz := d - 1) dX6_runScript_79 rfl mzX6_steer ml_X6_154 imX6_steer (by omega) so_171 ⟨rfl, rfl⟩ (cg_stS hz hW hm hp (x := x) (by omega) hpl hi hc0 hc1 hc2 (by omega)) (Nat.le_of_ble_eq_true rfl) ⟨Nat.le_refl _, Nat.le_refl _⟩ ?_
        refine mm_istore (ls' := [(6, .int (0)), (5, .int (nI (x))), (4, .int (nI (q))), (3, .int (nI (j))), (0, .ref 171), (1, .ref (36 + 3 * m)), (2, .ref (52 + 5 * p))]) dX6_runScript_82 (by decide) rfl ?_
        refine mm_iload 0 dX6_runScript_84 rfl ?_
        refine mm_iconst (v := -1) dX6_runScript_86 rfl ?_
        refine mm_icmp_ne (tgt := 118) dX6_runScript_87 (by decide) (fun _ => ?_) (fun q => absurd q (by decide))
        refine mm_iload 0 dX6_runScript_118 rfl ?_
        refine mm_iconst (v := -1) dX6_runScript_120 rfl ?_
        refine mm_icmp_ne (tgt := 136) dX6_runScript_121 (by decide) (fun _ => ?_) (fun q => absurd q (by decide))
        refine mm_iload_n 3 dX6_runScript_136 rfl rfl ?_
        refine mm_iload 0 dX6_runScript_137 rfl ?_
        refine mm_iaddN (j) (0) dX6_runScript_139 ?_
        refine mm_istore_n (ls' := [(3, .int (nI (j + 0))), (6, .int (0)), (5, .int (nI (x))), (4, .int (nI (q))), (0, .ref 171), (1, .ref (36 + 3 * m)), (2, .ref (52 + 5 * p))]) dX6_runScript_140 rfl (by decide) rfl ?_
        refine mm_iincN (ls' := [(4, .int (nI (q + 1))), (3, .int (nI (j + 0))), (6, .int (0)), (5, .int (nI (x))), (0, .ref 171), (1, .ref (36 + 3 * m)), (2, .ref (52 + 5 * p))]) 3 (q) 1 dX6_runScript_141 rfl rfl (by decide) rfl ?_
        refine mm_goto (tgt := 41) dX6_runScript_144 (by decide) ?_
        exact mm_sub [0, 1, 4, 5, 6] rfl (hk_)
      · exfalso; omega
set_option maxRecDepth 100000 in
set_option maxHeartbeats 600000 in
theorem lg_pI {g : mm_G} {d : Nat} {w h n l k o r : Nat} {A : mm_I} {N : Nat → Int32} (hz : zOK (w * h) n l k o r) (hW : mo_W N w h) {m p a j : Nat} {Aa : Nat → Int32} {CS : List Nat} (hm : m < n) (hp : p < 6) (ha : a ≤ 38) (hj : j < 50) {x q : Nat} (hA : axA A p a Aa CS) (hpl : A (36 + 3 * m) 7 = nI x) (hxa : x < a) (hq9 : q ≤ 900) (hd : 7 ≤ d) {c : Nat} (h1 : N (630 + 40 * m + 1) = nI c) (hcc : c < w * h) {la lb : Nat} (h2 : N 2 = nI la) (h3 : N 3 = nI lb) (hla : 1 ≤ la ∧ la ≤ 24) (hlb : lb ≤ 24) {e0 : Nat} (hL96 : CS.length ≤ 96) {cs : List Nat} (hi : e0 + cs.length < CS.length) (hv : vc_at (A (56 + 5 * p)) e0 cs) (hw : wf cs 0) {y : Nat} {Q : Option Value → mm_Sh → mm_I → Prop} (hc0 : A (54 + 5 * p) (3 * x) = 3) (hc1 : A (54 + 5 * p) (3 * x + 1) = nI e0) (hc2 : A (54 + 5 * p) (3 * x + 2) = nI y) (hk_ : ∀ A', (∀ b, ¬ (b = 172 ∨ b = 173 ∨ b = 36 + 3 * m) → A' b = A b) → A' (36 + 3 * m) 7 = (if (ev (sp_nm N w m c) cs (0, A 173)).2 0 = 0 then nI y else nI (x + 1)) → mm_Ex g zX6_runScript d (0, 0) (0, 0) sh_S (cN (w * h) n l k o r (A') N) 41 [(4, .int (nI (q + 1))), (3, .int (nI (j + 1))), (0, .ref 171), (1, .ref (36 + 3 * m)), (2, .ref (52 + 5 * p))] [] Q) : mm_Ex g zX6_runScript d (0, 0) (0, 0) sh_S (cN (w * h) n l k o r A N) 41 [(4, .int (nI (q))), (3, .int (nI (j))), (0, .ref 171), (1, .ref (36 + 3 * m)), (2, .ref (52 + 5 * p))] [] Q := by
  obtain ⟨hz1, hz2, hz3, hz4, hz5, hz6⟩ := id hz
  have hc := mo_W_c hW
  obtain ⟨-, -, hw1, hw2, hh1, hh2⟩ := id hW
  refine mm_iload 0 dX6_runScript_41 rfl ?_
  refine mm_sipush (v := 1000) dX6_runScript_43 rfl ?_
  refine mm_icmp_geN (q) (1000) (tgt := 147) dX6_runScript_46 (by decide) (by omega) (by omega) (fun c46 => ?_) (fun c46 => ?_)
  · exfalso; omega
  · refine mm_iload_n 1 dX6_runScript_49 rfl rfl ?_
    refine mm_bipush (v := 50) dX6_runScript_50 rfl ?_
    refine mm_icmp_geN (j) (50) (tgt := 147) dX6_runScript_52 (by decide) (by omega) (by omega) (fun c52 => ?_) (fun c52 => ?_)
    · exfalso; omega
    · refine mm_aload_n 3 dX6_runScript_55 rfl rfl ?_
      refine mm_geti dX6_runScript_56 rfl fk_X6_148 rfl (sm_1 (show m < 5 by omega)).1 ?_
      refine mm_top (v := nI (x)) ((s_m7 hz2 (by omega)).trans hpl) ?_
      refine mm_istore (ls' := [(5, .int (nI (x))), (4, .int (nI (q))), (3, .int (nI (j))), (0, .ref 171), (1, .ref (36 + 3 * m)), (2, .ref (52 + 5 * p))]) dX6_runScript_59 (by decide) rfl ?_
      refine mm_iload 0 dX6_runScript_61 rfl ?_
      refine mm_aload_n 5 dX6_runScript_63 rfl rfl ?_
      refine mm_cV0i (dz := d - 1) dX6_runScript_64 rfl mzX4_length ml_X6_151 imX4_length (by omega) (sp_1 hp).1 ⟨rfl, rfl⟩ (cg_len hp ((cN_off hz2 (by omega)).trans hA.1) (by omega) (by omega)) (Nat.le_of_ble_eq_true rfl) ⟨Nat.le_refl _, Nat.le_refl _⟩ ?_
      refine mm_icmp_ltN (x) (a) (tgt := 76) dX6_runScript_67 (by decide) (by omega) (by omega) (fun c67 => ?_) (fun c67 => ?_)
      · refine mm_aload_n 3 dX6_runScript_76 rfl rfl ?_
        refine mm_aload_n 4 dX6_runScript_77 rfl rfl ?_
        refine mm_aload_n 5 dX6_runScript_78 rfl rfl ?_
        refine mm_dV2i (dz := d - 1) dX6_runScript_79 rfl mzX6_steer ml_X6_154 imX6_steer (by omega) so_171 ⟨rfl, rfl⟩ (cg_stI hz hW hm hp (x := x) (by omega) hpl h1 hcc h2 h3 hla hlb hA.2.2.2.1 hL96 hi hv hw hc0 hc1 hc2 (by omega)) (Nat.le_of_ble_eq_true rfl) ⟨Nat.le_refl _, Nat.le_refl _⟩ (fun rr K1 hK1 => ?_)
        obtain ⟨hr_, A1, rfl, hF1, hp1⟩ := hK1
        subst hr_
        refine mm_istore (ls' := [(6, .int (1)), (5, .int (nI (x))), (4, .int (nI (q))), (3, .int (nI (j))), (0, .ref 171), (1, .ref (36 + 3 * m)), (2, .ref (52 + 5 * p))]) dX6_runScript_82 (by decide) rfl ?_
        refine mm_iload 0 dX6_runScript_84 rfl ?_
        refine mm_iconst (v := -1) dX6_runScript_86 rfl ?_
        refine mm_icmp_ne (tgt := 118) dX6_runScript_87 (by decide) (fun _ => ?_) (fun q => absurd q (by decide))
        refine mm_iload 0 dX6_runScript_118 rfl ?_
        refine mm_iconst (v := -1) dX6_runScript_120 rfl ?_
        refine mm_icmp_ne (tgt := 136) dX6_runScript_121 (by decide) (fun _ => ?_) (fun q => absurd q (by decide))
        refine mm_iload_n 3 dX6_runScript_136 rfl rfl ?_
        refine mm_iload 0 dX6_runScript_137 rfl ?_
        refine mm_iaddN (j) (1) dX6_runScript_139 ?_
        refine mm_istore_n (ls' := [(3, .int (nI (j + 1))), (6, .int (1)), (5, .int (nI (x))), (4, .int (nI (q))), (0, .ref 171), (1, .ref (36 + 3 * m)), (2, .ref (52 + 5 * p))]) dX6_runScript_140 rfl (by decide) rfl ?_
        refine mm_iincN (ls' := [(4, .int (nI (q + 1))), (3, .int (nI (j + 1))), (6, .int (1)), (5, .int (nI (x))), (0, .ref 171), (1, .ref (36 + 3 * m)), (2, .ref (52 + 5 * p))]) 3 (q) 1 dX6_runScript_141 rfl rfl (by decide) rfl ?_
        refine mm_goto (tgt := 41) dX6_runScript_144 (by decide) ?_
        exact mm_sub [0, 1, 4, 5, 6] rfl (hk_ A1 hF1 hp1)
      · exfalso; omega
set_option maxRecDepth 100000 in
set_option maxHeartbeats 600000 in
theorem lg_pW {g : mm_G} {d : Nat} {w h n l k o r : Nat} {A : mm_I} {N : Nat → Int32} (hz : zOK (w * h) n l k o r) (hW : mo_W N w h) {m p a j : Nat} {Aa : Nat → Int32} {CS : List Nat} (hm : m < n) (hp : p < 6) (ha : a ≤ 38) (hj : j < 50) {x q : Nat} (hA : axA A p a Aa CS) (hpl : A (36 + 3 * m) 7 = nI x) (hxa : x < a) (hq9 : q ≤ 900) (hd : 7 ≤ d) {c : Nat} (h1 : N (630 + 40 * m + 1) = nI c) (hcc : c < w * h) {la lb : Nat} (h2 : N 2 = nI la) (h3 : N 3 = nI lb) (hla : 1 ≤ la ∧ la ≤ 24) (hlb : lb ≤ 24) {e0 : Nat} (hL96 : CS.length ≤ 96) {cs : List Nat} (hi : e0 + cs.length < CS.length) (hv : vc_at (A (56 + 5 * p)) e0 cs) (hw : wf cs 0) {y : Nat} {Q : Option Value → mm_Sh → mm_I → Prop} (hc0 : A (54 + 5 * p) (3 * x) = 4) (hc1 : A (54 + 5 * p) (3 * x + 1) = nI e0) (hc2 : A (54 + 5 * p) (3 * x + 2) = nI y) (hk_ : ∀ A', (∀ b, ¬ (b = 172 ∨ b = 173 ∨ b = 36 + 3 * m) → A' b = A b) → A' (36 + 3 * m) 7 = (if (ev (sp_nm N w m c) cs (0, A 173)).2 0 = 0 then nI y else nI (x + 1)) → mm_Ex g zX6_runScript d (0, 0) (0, 0) sh_S (cN (w * h) n l k o r (A') N) 41 [(4, .int (nI (q + 1))), (3, .int (nI (j + 1))), (0, .ref 171), (1, .ref (36 + 3 * m)), (2, .ref (52 + 5 * p))] [] Q) : mm_Ex g zX6_runScript d (0, 0) (0, 0) sh_S (cN (w * h) n l k o r A N) 41 [(4, .int (nI (q))), (3, .int (nI (j))), (0, .ref 171), (1, .ref (36 + 3 * m)), (2, .ref (52 + 5 * p))] [] Q := by
  obtain ⟨hz1, hz2, hz3, hz4, hz5, hz6⟩ := id hz
  have hc := mo_W_c hW
  obtain ⟨-, -, hw1, hw2, hh1, hh2⟩ := id hW
  refine mm_iload 0 dX6_runScript_41 rfl ?_
  refine mm_sipush (v := 1000) dX6_runScript_43 rfl ?_
  refine mm_icmp_geN (q) (1000) (tgt := 147) dX6_runScript_46 (by decide) (by omega) (by omega) (fun c46 => ?_) (fun c46 => ?_)
  · exfalso; omega
  · refine mm_iload_n 1 dX6_runScript_49 rfl rfl ?_
    refine mm_bipush (v := 50) dX6_runScript_50 rfl ?_
    refine mm_icmp_geN (j) (50) (tgt := 147) dX6_runScript_52 (by decide) (by omega) (by omega) (fun c52 => ?_) (fun c52 => ?_)
    · exfalso; omega
    · refine mm_aload_n 3 dX6_runScript_55 rfl rfl ?_
      refine mm_geti dX6_runScript_56 rfl fk_X6_148 rfl (sm_1 (show m < 5 by omega)).1 ?_
      refine mm_top (v := nI (x)) ((s_m7 hz2 (by omega)).trans hpl) ?_
      refine mm_istore (ls' := [(5, .int (nI (x))), (4, .int (nI (q))), (3, .int (nI (j))), (0, .ref 171), (1, .ref (36 + 3 * m)), (2, .ref (52 + 5 * p))]) dX6_runScript_59 (by decide) rfl ?_
      refine mm_iload 0 dX6_runScript_61 rfl ?_
      refine mm_aload_n 5 dX6_runScript_63 rfl rfl ?_
      refine mm_cV0i (dz := d - 1) dX6_runScript_64 rfl mzX4_length ml_X6_151 imX4_length (by omega) (sp_1 hp).1 ⟨rfl, rfl⟩ (cg_len hp ((cN_off hz2 (by omega)).trans hA.1) (by omega) (by omega)) (Nat.le_of_ble_eq_true rfl) ⟨Nat.le_refl _, Nat.le_refl _⟩ ?_
      refine mm_icmp_ltN (x) (a) (tgt := 76) dX6_runScript_67 (by decide) (by omega) (by omega) (fun c67 => ?_) (fun c67 => ?_)
      · refine mm_aload_n 3 dX6_runScript_76 rfl rfl ?_
        refine mm_aload_n 4 dX6_runScript_77 rfl rfl ?_
        refine mm_aload_n 5 dX6_runScript_78 rfl rfl ?_
        refine mm_dV2i (dz := d - 1) dX6_runScript_79 rfl mzX6_steer ml_X6_154 imX6_steer (by omega) so_171 ⟨rfl, rfl⟩ (cg_stW hz hW hm hp (x := x) (by omega) hpl h1 hcc h2 h3 hla hlb hA.2.2.2.1 hL96 hi hv hw hc0 hc1 hc2 (by omega)) (Nat.le_of_ble_eq_true rfl) ⟨Nat.le_refl _, Nat.le_refl _⟩ (fun rr K1 hK1 => ?_)
        obtain ⟨hr_, A1, rfl, hF1, hp1⟩ := hK1
        subst hr_
        refine mm_istore (ls' := [(6, .int (1)), (5, .int (nI (x))), (4, .int (nI (q))), (3, .int (nI (j))), (0, .ref 171), (1, .ref (36 + 3 * m)), (2, .ref (52 + 5 * p))]) dX6_runScript_82 (by decide) rfl ?_
        refine mm_iload 0 dX6_runScript_84 rfl ?_
        refine mm_iconst (v := -1) dX6_runScript_86 rfl ?_
        refine mm_icmp_ne (tgt := 118) dX6_runScript_87 (by decide) (fun _ => ?_) (fun q => absurd q (by decide))
        refine mm_iload 0 dX6_runScript_118 rfl ?_
        refine mm_iconst (v := -1) dX6_runScript_120 rfl ?_
        refine mm_icmp_ne (tgt := 136) dX6_runScript_121 (by decide) (fun _ => ?_) (fun q => absurd q (by decide))
        refine mm_iload_n 3 dX6_runScript_136 rfl rfl ?_
        refine mm_iload 0 dX6_runScript_137 rfl ?_
        refine mm_iaddN (j) (1) dX6_runScript_139 ?_
        refine mm_istore_n (ls' := [(3, .int (nI (j + 1))), (6, .int (1)), (5, .int (nI (x))), (4, .int (nI (q))), (0, .ref 171), (1, .ref (36 + 3 * m)), (2, .ref (52 + 5 * p))]) dX6_runScript_140 rfl (by decide) rfl ?_
        refine mm_iincN (ls' := [(4, .int (nI (q + 1))), (3, .int (nI (j + 1))), (6, .int (1)), (5, .int (nI (x))), (0, .ref 171), (1, .ref (36 + 3 * m)), (2, .ref (52 + 5 * p))]) 3 (q) 1 dX6_runScript_141 rfl rfl (by decide) rfl ?_
        refine mm_goto (tgt := 41) dX6_runScript_144 (by decide) ?_
        exact mm_sub [0, 1, 4, 5, 6] rfl (hk_ A1 hF1 hp1)
      · exfalso; omega
set_option maxRecDepth 100000 in
set_option maxHeartbeats 600000 in
theorem lg_pU {g : mm_G} {d : Nat} {w h n l k o r : Nat} {A : mm_I} {N : Nat → Int32} (hz : zOK (w * h) n l k o r) (hW : mo_W N w h) {m p a j : Nat} {Aa : Nat → Int32} {CS : List Nat} (hm : m < n) (hp : p < 6) (ha : a ≤ 38) (hj : j < 50) {x q : Nat} (hA : axA A p a Aa CS) (hpl : A (36 + 3 * m) 7 = nI x) (hxa : x < a) (hq9 : q ≤ 900) (hd : 7 ≤ d) {c : Nat} (h1 : N (630 + 40 * m + 1) = nI c) (hcc : c < w * h) {la lb : Nat} (h2 : N 2 = nI la) (h3 : N 3 = nI lb) (hla : 1 ≤ la ∧ la ≤ 24) (hlb : lb ≤ 24) {e0 : Nat} (hL96 : CS.length ≤ 96) {cs : List Nat} (hi : e0 + cs.length < CS.length) (hv : vc_at (A (56 + 5 * p)) e0 cs) (hw : wf cs 0) (hne : ¬ (ev (sp_nm N w m c) cs (0, A 173)).2 0 = 0) {Q : Option Value → mm_Sh → mm_I → Prop} (hc0 : A (54 + 5 * p) (3 * x) = 2) (hc1 : A (54 + 5 * p) (3 * x + 1) = nI e0) (hk_ : ∀ A', (∀ b, ¬ (b = 172 ∨ b = 173 ∨ b = 36 + 3 * m) → A' b = A b) → A' (36 + 3 * m) 7 = nI (x + 1) → mm_Ex g zX6_runScript d (0, 0) (0, 0) sh_S (cN (w * h) n l k o r (A') N) 41 [(4, .int (nI (q + 1))), (3, .int (nI (j + 1))), (0, .ref 171), (1, .ref (36 + 3 * m)), (2, .ref (52 + 5 * p))] [] Q) : mm_Ex g zX6_runScript d (0, 0) (0, 0) sh_S (cN (w * h) n l k o r A N) 41 [(4, .int (nI (q))), (3, .int (nI (j))), (0, .ref 171), (1, .ref (36 + 3 * m)), (2, .ref (52 + 5 * p))] [] Q := by
  obtain ⟨hz1, hz2, hz3, hz4, hz5, hz6⟩ := id hz
  have hc := mo_W_c hW
  obtain ⟨-, -, hw1, hw2, hh1, hh2⟩ := id hW
  refine mm_iload 0 dX6_runScript_41 rfl ?_
  refine mm_sipush (v := 1000) dX6_runScript_43 rfl ?_
  refine mm_icmp_geN (q) (1000) (tgt := 147) dX6_runScript_46 (by decide) (by omega) (by omega) (fun c46 => ?_) (fun c46 => ?_)
  · exfalso; omega
  · refine mm_iload_n 1 dX6_runScript_49 rfl rfl ?_
    refine mm_bipush (v := 50) dX6_runScript_50 rfl ?_
    refine mm_icmp_geN (j) (50) (tgt := 147) dX6_runScript_52 (by decide) (by omega) (by omega) (fun c52 => ?_) (fun c52 => ?_)
    · exfalso; omega
    · refine mm_aload_n 3 dX6_runScript_55 rfl rfl ?_
      refine mm_geti dX6_runScript_56 rfl fk_X6_148 rfl (sm_1 (show m < 5 by omega)).1 ?_
      refine mm_top (v := nI (x)) ((s_m7 hz2 (by omega)).trans hpl) ?_
      refine mm_istore (ls' := [(5, .int (nI (x))), (4, .int (nI (q))), (3, .int (nI (j))), (0, .ref 171), (1, .ref (36 + 3 * m)), (2, .ref (52 + 5 * p))]) dX6_runScript_59 (by decide) rfl ?_
      refine mm_iload 0 dX6_runScript_61 rfl ?_
      refine mm_aload_n 5 dX6_runScript_63 rfl rfl ?_
      refine mm_cV0i (dz := d - 1) dX6_runScript_64 rfl mzX4_length ml_X6_151 imX4_length (by omega) (sp_1 hp).1 ⟨rfl, rfl⟩ (cg_len hp ((cN_off hz2 (by omega)).trans hA.1) (by omega) (by omega)) (Nat.le_of_ble_eq_true rfl) ⟨Nat.le_refl _, Nat.le_refl _⟩ ?_
      refine mm_icmp_ltN (x) (a) (tgt := 76) dX6_runScript_67 (by decide) (by omega) (by omega) (fun c67 => ?_) (fun c67 => ?_)
      · refine mm_aload_n 3 dX6_runScript_76 rfl rfl ?_
        refine mm_aload_n 4 dX6_runScript_77 rfl rfl ?_
        refine mm_aload_n 5 dX6_runScript_78 rfl rfl ?_
        refine mm_dV2i (dz := d - 1) dX6_runScript_79 rfl mzX6_steer ml_X6_154 imX6_steer (by omega) so_171 ⟨rfl, rfl⟩ (cg_stU hz hW hm hp (x := x) (by omega) hpl h1 hcc h2 h3 hla hlb hA.2.2.2.1 hL96 hi hv hw hc0 hc1 (by omega)) (Nat.le_of_ble_eq_true rfl) ⟨Nat.le_refl _, Nat.le_refl _⟩ (fun rr K1 hK1 => ?_)
        obtain ⟨hr_, A1, rfl, hF1, hp1⟩ := hK1
        rw [if_neg hne] at hr_ hp1
        subst hr_
        refine mm_istore (ls' := [(6, .int (1)), (5, .int (nI (x))), (4, .int (nI (q))), (3, .int (nI (j))), (0, .ref 171), (1, .ref (36 + 3 * m)), (2, .ref (52 + 5 * p))]) dX6_runScript_82 (by decide) rfl ?_
        refine mm_iload 0 dX6_runScript_84 rfl ?_
        refine mm_iconst (v := -1) dX6_runScript_86 rfl ?_
        refine mm_icmp_ne (tgt := 118) dX6_runScript_87 (by decide) (fun _ => ?_) (fun q => absurd q (by decide))
        refine mm_iload 0 dX6_runScript_118 rfl ?_
        refine mm_iconst (v := -1) dX6_runScript_120 rfl ?_
        refine mm_icmp_ne (tgt := 136) dX6_runScript_121 (by decide) (fun _ => ?_) (fun q => absurd q (by decide))
        refine mm_iload_n 3 dX6_runScript_136 rfl rfl ?_
        refine mm_iload 0 dX6_runScript_137 rfl ?_
        refine mm_iaddN (j) (1) dX6_runScript_139 ?_
        refine mm_istore_n (ls' := [(3, .int (nI (j + 1))), (6, .int (1)), (5, .int (nI (x))), (4, .int (nI (q))), (0, .ref 171), (1, .ref (36 + 3 * m)), (2, .ref (52 + 5 * p))]) dX6_runScript_140 rfl (by decide) rfl ?_
        refine mm_iincN (ls' := [(4, .int (nI (q + 1))), (3, .int (nI (j + 1))), (6, .int (1)), (5, .int (nI (x))), (0, .ref 171), (1, .ref (36 + 3 * m)), (2, .ref (52 + 5 * p))]) 3 (q) 1 dX6_runScript_141 rfl rfl (by decide) rfl ?_
        refine mm_goto (tgt := 41) dX6_runScript_144 (by decide) ?_
        exact mm_sub [0, 1, 4, 5, 6] rfl (hk_ A1 hF1 hp1)
      · exfalso; omega
set_option maxRecDepth 100000 in
set_option maxHeartbeats 600000 in
theorem lg_tsc {g : mm_G} {d : Nat} {w h n l k o r : Nat} {A : mm_I} {N : Nat → Int32} (hz : zOK (w * h) n l k o r) (hW : mo_W N w h) {m p a j : Nat} {Aa : Nat → Int32} {CS : List Nat} (hm : m < n) (hp : p < 6) (ha : a ≤ 38) (hj : j < 50) {x q : Nat} (hA : axA A p a Aa CS) (hpl : A (36 + 3 * m) 7 = nI x) (hxa : x < a) (hq9 : q ≤ 900) (hd : 7 ≤ d) {J : mm_I} (hJ : J 201 = N) {c : Nat} (h1 : N (630 + 40 * m + 1) = nI c) (hcc : c < w * h) {qq : Nat} (h2 : N (630 + 40 * m + 2) = nI qq) (hq100 : qq ≤ 100) (hK : mo_K N (w * h)) (hQ : mo_Q N n) {Q : Option Value → mm_Sh → mm_I → Prop} (hc0 : A (54 + 5 * p) (3 * x) = 6) (hk_ : Q none sh_S (cN (w * h) n l k o r (mm_up A (36 + 3 * m) 7 (nI (x + 1))) (op_scoops J m c 201))) : mm_Ex g zX6_runScript d (0, 0) (0, 0) sh_S (cN (w * h) n l k o r A N) 41 [(4, .int (nI (q))), (3, .int (nI (j))), (0, .ref 171), (1, .ref (36 + 3 * m)), (2, .ref (52 + 5 * p))] [] Q := by
  obtain ⟨hz1, hz2, hz3, hz4, hz5, hz6⟩ := id hz
  have hc := mo_W_c hW
  obtain ⟨-, -, hw1, hw2, hh1, hh2⟩ := id hW
  have hAp : ∀ b, 52 + 5 * p ≤ b → b ≤ 56 + 5 * p → (mm_up A (36 + 3 * m) 7 (nI (x + 1))) b = A b := fun b h1 h2 => mm_up_a (by omega)
  refine mm_iload 0 dX6_runScript_41 rfl ?_
  refine mm_sipush (v := 1000) dX6_runScript_43 rfl ?_
  refine mm_icmp_geN (q) (1000) (tgt := 147) dX6_runScript_46 (by decide) (by omega) (by omega) (fun c46 => ?_) (fun c46 => ?_)
  · exfalso; omega
  · refine mm_iload_n 1 dX6_runScript_49 rfl rfl ?_
    refine mm_bipush (v := 50) dX6_runScript_50 rfl ?_
    refine mm_icmp_geN (j) (50) (tgt := 147) dX6_runScript_52 (by decide) (by omega) (by omega) (fun c52 => ?_) (fun c52 => ?_)
    · exfalso; omega
    · refine mm_aload_n 3 dX6_runScript_55 rfl rfl ?_
      refine mm_geti dX6_runScript_56 rfl fk_X6_148 rfl (sm_1 (show m < 5 by omega)).1 ?_
      refine mm_top (v := nI (x)) ((s_m7 hz2 (by omega)).trans hpl) ?_
      refine mm_istore (ls' := [(5, .int (nI (x))), (4, .int (nI (q))), (3, .int (nI (j))), (0, .ref 171), (1, .ref (36 + 3 * m)), (2, .ref (52 + 5 * p))]) dX6_runScript_59 (by decide) rfl ?_
      refine mm_iload 0 dX6_runScript_61 rfl ?_
      refine mm_aload_n 5 dX6_runScript_63 rfl rfl ?_
      refine mm_cV0i (dz := d - 1) dX6_runScript_64 rfl mzX4_length ml_X6_151 imX4_length (by omega) (sp_1 hp).1 ⟨rfl, rfl⟩ (cg_len hp ((cN_off hz2 (by omega)).trans hA.1) (by omega) (by omega)) (Nat.le_of_ble_eq_true rfl) ⟨Nat.le_refl _, Nat.le_refl _⟩ ?_
      refine mm_icmp_ltN (x) (a) (tgt := 76) dX6_runScript_67 (by decide) (by omega) (by omega) (fun c67 => ?_) (fun c67 => ?_)
      · refine mm_aload_n 3 dX6_runScript_76 rfl rfl ?_
        refine mm_aload_n 4 dX6_runScript_77 rfl rfl ?_
        refine mm_aload_n 5 dX6_runScript_78 rfl rfl ?_
        refine mm_cV2i (dz := d - 1) dX6_runScript_79 rfl mzX6_steer ml_X6_154 imX6_steer (by omega) so_171 ⟨rfl, rfl⟩ (cg_stT6 hz hW hm hp (x := x) (by omega) hpl hc0 (by omega)) (Nat.le_of_ble_eq_true rfl) ⟨Nat.le_refl _, Nat.le_refl _⟩ ?_
        refine mm_istore (ls' := [(6, .int (-1)), (5, .int (nI (x))), (4, .int (nI (q))), (3, .int (nI (j))), (0, .ref 171), (1, .ref (36 + 3 * m)), (2, .ref (52 + 5 * p))]) dX6_runScript_82 (by decide) rfl ?_
        refine mm_iload 0 dX6_runScript_84 rfl ?_
        refine mm_iconst (v := -1) dX6_runScript_86 rfl ?_
        refine mm_icmp_ne (tgt := 118) dX6_runScript_87 (by decide) (fun q => absurd q (by decide)) (fun _ => ?_)
        refine mm_aload_n 6 dX6_runScript_90 rfl rfl ?_
        refine mm_iload 1 dX6_runScript_91 rfl ?_
        refine mm_cV1i (dz := d - 1) dX6_runScript_93 rfl mzX4_code ml_X6_158 imX4_code (by omega) (sp_1 hp).1 ⟨rfl, rfl⟩ (cg_code hp (x := x) (by omega) (by omega)) (Nat.le_of_ble_eq_true rfl) ⟨Nat.le_refl _, Nat.le_refl _⟩ ?_
        refine mm_top (v := 6) (by rw [cN_off hz2 (by omega), show 53 + 5 * p + 1 = 54 + 5 * p by omega, show x * 3 = 3 * x by omega]; exact (congrFun (hAp _ (by omega) (by omega)) _).trans hc0) ?_
        refine mm_iconst (v := 1) dX6_runScript_96 rfl ?_
        refine mm_icmp_ne (tgt := 118) dX6_runScript_97 (by decide) (fun _ => ?_) (fun q => absurd q (by decide))
        refine mm_iload 0 dX6_runScript_118 rfl ?_
        refine mm_iconst (v := -1) dX6_runScript_120 rfl ?_
        refine mm_icmp_ne (tgt := 136) dX6_runScript_121 (by decide) (fun q => absurd q (by decide)) (fun _ => ?_)
        refine mm_aload_n 4 dX6_runScript_124 rfl rfl ?_
        refine mm_aload_n 5 dX6_runScript_125 rfl rfl ?_
        refine mm_aload_n 6 dX6_runScript_126 rfl rfl ?_
        refine mm_iload 1 dX6_runScript_127 rfl ?_
        refine mm_cV1i (dz := d - 1) dX6_runScript_129 rfl mzX4_code ml_X6_158 imX4_code (by omega) (sp_1 hp).1 ⟨rfl, rfl⟩ (cg_code hp (x := x) (by omega) (by omega)) (Nat.le_of_ble_eq_true rfl) ⟨Nat.le_refl _, Nat.le_refl _⟩ ?_
        refine mm_top (v := 6) (by rw [cN_off hz2 (by omega), show 53 + 5 * p + 1 = 54 + 5 * p by omega, show x * 3 = 3 * x by omega]; exact (congrFun (hAp _ (by omega) (by omega)) _).trans hc0) ?_
        refine mm_cV2v (dz := d - 1) dX6_runScript_132 rfl mzX6_labour ml_X6_171 imX6_labour (by omega) so_171 ⟨rfl, rfl⟩ (cg_lasc hz hW hJ hm h1 hcc h2 hq100 hK hQ (by omega)) (Nat.le_of_ble_eq_true rfl) ⟨Nat.le_refl _, Nat.le_refl _⟩ ?_
        refine mm_vret dX6_runScript_135 rfl ⟨Nat.le_refl _, Nat.le_refl _⟩ ?_
        exact hk_
      · exfalso; omega
set_option maxRecDepth 100000 in
set_option maxHeartbeats 600000 in
theorem lg_tdr0 {g : mm_G} {d : Nat} {w h n l k o r : Nat} {A : mm_I} {N : Nat → Int32} (hz : zOK (w * h) n l k o r) (hW : mo_W N w h) {m p a j : Nat} {Aa : Nat → Int32} {CS : List Nat} (hm : m < n) (hp : p < 6) (ha : a ≤ 38) (hj : j < 50) {x q : Nat} (hA : axA A p a Aa CS) (hpl : A (36 + 3 * m) 7 = nI x) (hxa : x < a) (hq9 : q ≤ 900) (hd : 7 ≤ d) {J : mm_I} (hJ : J 201 = N) {c : Nat} (h1 : N (630 + 40 * m + 1) = nI c) (hcc : c < w * h) {qq : Nat} (h2 : N (630 + 40 * m + 2) = nI qq) (hq100 : qq ≤ 100) (hK : mo_K N (w * h)) (hQ : mo_Q N n) {z : Nat} (h4 : N (630 + 40 * m + 4) = nI z) (hz10 : z ≤ 10) (h5 : N (630 + 40 * m + 5) = 0) (hq1 : 1 ≤ qq) {Q : Option Value → mm_Sh → mm_I → Prop} (hc0 : A (54 + 5 * p) (3 * x) = 7) (hk_ : Q none sh_S (cN (w * h) n l k o r (mm_up A (36 + 3 * m) 7 (nI (x + 1))) (op_drops J m c 0 201))) : mm_Ex g zX6_runScript d (0, 0) (0, 0) sh_S (cN (w * h) n l k o r A N) 41 [(4, .int (nI (q))), (3, .int (nI (j))), (0, .ref 171), (1, .ref (36 + 3 * m)), (2, .ref (52 + 5 * p))] [] Q := by
  obtain ⟨hz1, hz2, hz3, hz4, hz5, hz6⟩ := id hz
  have hc := mo_W_c hW
  obtain ⟨-, -, hw1, hw2, hh1, hh2⟩ := id hW
  have hAp : ∀ b, 52 + 5 * p ≤ b → b ≤ 56 + 5 * p → (mm_up A (36 + 3 * m) 7 (nI (x + 1))) b = A b := fun b h1 h2 => mm_up_a (by omega)
  refine mm_iload 0 dX6_runScript_41 rfl ?_
  refine mm_sipush (v := 1000) dX6_runScript_43 rfl ?_
  refine mm_icmp_geN (q) (1000) (tgt := 147) dX6_runScript_46 (by decide) (by omega) (by omega) (fun c46 => ?_) (fun c46 => ?_)
  · exfalso; omega
  · refine mm_iload_n 1 dX6_runScript_49 rfl rfl ?_
    refine mm_bipush (v := 50) dX6_runScript_50 rfl ?_
    refine mm_icmp_geN (j) (50) (tgt := 147) dX6_runScript_52 (by decide) (by omega) (by omega) (fun c52 => ?_) (fun c52 => ?_)
    · exfalso; omega
    · refine mm_aload_n 3 dX6_runScript_55 rfl rfl ?_
      refine mm_geti dX6_runScript_56 rfl fk_X6_148 rfl (sm_1 (show m < 5 by omega)).1 ?_
      refine mm_top (v := nI (x)) ((s_m7 hz2 (by omega)).trans hpl) ?_
      refine mm_istore (ls' := [(5, .int (nI (x))), (4, .int (nI (q))), (3, .int (nI (j))), (0, .ref 171), (1, .ref (36 + 3 * m)), (2, .ref (52 + 5 * p))]) dX6_runScript_59 (by decide) rfl ?_
      refine mm_iload 0 dX6_runScript_61 rfl ?_
      refine mm_aload_n 5 dX6_runScript_63 rfl rfl ?_
      refine mm_cV0i (dz := d - 1) dX6_runScript_64 rfl mzX4_length ml_X6_151 imX4_length (by omega) (sp_1 hp).1 ⟨rfl, rfl⟩ (cg_len hp ((cN_off hz2 (by omega)).trans hA.1) (by omega) (by omega)) (Nat.le_of_ble_eq_true rfl) ⟨Nat.le_refl _, Nat.le_refl _⟩ ?_
      refine mm_icmp_ltN (x) (a) (tgt := 76) dX6_runScript_67 (by decide) (by omega) (by omega) (fun c67 => ?_) (fun c67 => ?_)
      · refine mm_aload_n 3 dX6_runScript_76 rfl rfl ?_
        refine mm_aload_n 4 dX6_runScript_77 rfl rfl ?_
        refine mm_aload_n 5 dX6_runScript_78 rfl rfl ?_
        refine mm_cV2i (dz := d - 1) dX6_runScript_79 rfl mzX6_steer ml_X6_154 imX6_steer (by omega) so_171 ⟨rfl, rfl⟩ (cg_stT7 hz hW hm hp (x := x) (by omega) hpl hc0 (by omega)) (Nat.le_of_ble_eq_true rfl) ⟨Nat.le_refl _, Nat.le_refl _⟩ ?_
        refine mm_istore (ls' := [(6, .int (-1)), (5, .int (nI (x))), (4, .int (nI (q))), (3, .int (nI (j))), (0, .ref 171), (1, .ref (36 + 3 * m)), (2, .ref (52 + 5 * p))]) dX6_runScript_82 (by decide) rfl ?_
        refine mm_iload 0 dX6_runScript_84 rfl ?_
        refine mm_iconst (v := -1) dX6_runScript_86 rfl ?_
        refine mm_icmp_ne (tgt := 118) dX6_runScript_87 (by decide) (fun q => absurd q (by decide)) (fun _ => ?_)
        refine mm_aload_n 6 dX6_runScript_90 rfl rfl ?_
        refine mm_iload 1 dX6_runScript_91 rfl ?_
        refine mm_cV1i (dz := d - 1) dX6_runScript_93 rfl mzX4_code ml_X6_158 imX4_code (by omega) (sp_1 hp).1 ⟨rfl, rfl⟩ (cg_code hp (x := x) (by omega) (by omega)) (Nat.le_of_ble_eq_true rfl) ⟨Nat.le_refl _, Nat.le_refl _⟩ ?_
        refine mm_top (v := 7) (by rw [cN_off hz2 (by omega), show 53 + 5 * p + 1 = 54 + 5 * p by omega, show x * 3 = 3 * x by omega]; exact (congrFun (hAp _ (by omega) (by omega)) _).trans hc0) ?_
        refine mm_iconst (v := 1) dX6_runScript_96 rfl ?_
        refine mm_icmp_ne (tgt := 118) dX6_runScript_97 (by decide) (fun _ => ?_) (fun q => absurd q (by decide))
        refine mm_iload 0 dX6_runScript_118 rfl ?_
        refine mm_iconst (v := -1) dX6_runScript_120 rfl ?_
        refine mm_icmp_ne (tgt := 136) dX6_runScript_121 (by decide) (fun q => absurd q (by decide)) (fun _ => ?_)
        refine mm_aload_n 4 dX6_runScript_124 rfl rfl ?_
        refine mm_aload_n 5 dX6_runScript_125 rfl rfl ?_
        refine mm_aload_n 6 dX6_runScript_126 rfl rfl ?_
        refine mm_iload 1 dX6_runScript_127 rfl ?_
        refine mm_cV1i (dz := d - 1) dX6_runScript_129 rfl mzX4_code ml_X6_158 imX4_code (by omega) (sp_1 hp).1 ⟨rfl, rfl⟩ (cg_code hp (x := x) (by omega) (by omega)) (Nat.le_of_ble_eq_true rfl) ⟨Nat.le_refl _, Nat.le_refl _⟩ ?_
        refine mm_top (v := 7) (by rw [cN_off hz2 (by omega), show 53 + 5 * p + 1 = 54 + 5 * p by omega, show x * 3 = 3 * x by omega]; exact (congrFun (hAp _ (by omega) (by omega)) _).trans hc0) ?_
        refine mm_cV2v (dz := d - 1) dX6_runScript_132 rfl mzX6_labour ml_X6_171 imX6_labour (by omega) so_171 ⟨rfl, rfl⟩ (cg_ladr0 hz hW hJ hm h1 hcc h2 hq100 hK hQ h4 hz10 h5 hq1 (by omega)) (Nat.le_of_ble_eq_true rfl) ⟨Nat.le_refl _, Nat.le_refl _⟩ ?_
        refine mm_vret dX6_runScript_135 rfl ⟨Nat.le_refl _, Nat.le_refl _⟩ ?_
        exact hk_
      · exfalso; omega
set_option maxRecDepth 100000 in
set_option maxHeartbeats 600000 in
theorem lg_tdr1 {g : mm_G} {d : Nat} {w h n l k o r : Nat} {A : mm_I} {N : Nat → Int32} (hz : zOK (w * h) n l k o r) (hW : mo_W N w h) {m p a j : Nat} {Aa : Nat → Int32} {CS : List Nat} (hm : m < n) (hp : p < 6) (ha : a ≤ 38) (hj : j < 50) {x q : Nat} (hA : axA A p a Aa CS) (hpl : A (36 + 3 * m) 7 = nI x) (hxa : x < a) (hq9 : q ≤ 900) (hd : 7 ≤ d) {J : mm_I} (hJ : J 201 = N) {c : Nat} (h1 : N (630 + 40 * m + 1) = nI c) (hcc : c < w * h) {qq : Nat} (h2 : N (630 + 40 * m + 2) = nI qq) (hq100 : qq ≤ 100) (hK : mo_K N (w * h)) (hQ : mo_Q N n) {z : Nat} (h4 : N (630 + 40 * m + 4) = nI z) (hz10 : z ≤ 10) (h5 : N (630 + 40 * m + 5) = 1) (hq1 : 1 ≤ qq) {Q : Option Value → mm_Sh → mm_I → Prop} (hc0 : A (54 + 5 * p) (3 * x) = 7) (hk_ : Q none sh_S (cN (w * h) n l k o r (mm_up A (36 + 3 * m) 7 (nI (x + 1))) (op_drops J m c 1 201))) : mm_Ex g zX6_runScript d (0, 0) (0, 0) sh_S (cN (w * h) n l k o r A N) 41 [(4, .int (nI (q))), (3, .int (nI (j))), (0, .ref 171), (1, .ref (36 + 3 * m)), (2, .ref (52 + 5 * p))] [] Q := by
  obtain ⟨hz1, hz2, hz3, hz4, hz5, hz6⟩ := id hz
  have hc := mo_W_c hW
  obtain ⟨-, -, hw1, hw2, hh1, hh2⟩ := id hW
  have hAp : ∀ b, 52 + 5 * p ≤ b → b ≤ 56 + 5 * p → (mm_up A (36 + 3 * m) 7 (nI (x + 1))) b = A b := fun b h1 h2 => mm_up_a (by omega)
  refine mm_iload 0 dX6_runScript_41 rfl ?_
  refine mm_sipush (v := 1000) dX6_runScript_43 rfl ?_
  refine mm_icmp_geN (q) (1000) (tgt := 147) dX6_runScript_46 (by decide) (by omega) (by omega) (fun c46 => ?_) (fun c46 => ?_)
  · exfalso; omega
  · refine mm_iload_n 1 dX6_runScript_49 rfl rfl ?_
    refine mm_bipush (v := 50) dX6_runScript_50 rfl ?_
    refine mm_icmp_geN (j) (50) (tgt := 147) dX6_runScript_52 (by decide) (by omega) (by omega) (fun c52 => ?_) (fun c52 => ?_)
    · exfalso; omega
    · refine mm_aload_n 3 dX6_runScript_55 rfl rfl ?_
      refine mm_geti dX6_runScript_56 rfl fk_X6_148 rfl (sm_1 (show m < 5 by omega)).1 ?_
      refine mm_top (v := nI (x)) ((s_m7 hz2 (by omega)).trans hpl) ?_
      refine mm_istore (ls' := [(5, .int (nI (x))), (4, .int (nI (q))), (3, .int (nI (j))), (0, .ref 171), (1, .ref (36 + 3 * m)), (2, .ref (52 + 5 * p))]) dX6_runScript_59 (by decide) rfl ?_
      refine mm_iload 0 dX6_runScript_61 rfl ?_
      refine mm_aload_n 5 dX6_runScript_63 rfl rfl ?_
      refine mm_cV0i (dz := d - 1) dX6_runScript_64 rfl mzX4_length ml_X6_151 imX4_length (by omega) (sp_1 hp).1 ⟨rfl, rfl⟩ (cg_len hp ((cN_off hz2 (by omega)).trans hA.1) (by omega) (by omega)) (Nat.le_of_ble_eq_true rfl) ⟨Nat.le_refl _, Nat.le_refl _⟩ ?_
      refine mm_icmp_ltN (x) (a) (tgt := 76) dX6_runScript_67 (by decide) (by omega) (by omega) (fun c67 => ?_) (fun c67 => ?_)
      · refine mm_aload_n 3 dX6_runScript_76 rfl rfl ?_
        refine mm_aload_n 4 dX6_runScript_77 rfl rfl ?_
        refine mm_aload_n 5 dX6_runScript_78 rfl rfl ?_
        refine mm_cV2i (dz := d - 1) dX6_runScript_79 rfl mzX6_steer ml_X6_154 imX6_steer (by omega) so_171 ⟨rfl, rfl⟩ (cg_stT7 hz hW hm hp (x := x) (by omega) hpl hc0 (by omega)) (Nat.le_of_ble_eq_true rfl) ⟨Nat.le_refl _, Nat.le_refl _⟩ ?_
        refine mm_istore (ls' := [(6, .int (-1)), (5, .int (nI (x))), (4, .int (nI (q))), (3, .int (nI (j))), (0, .ref 171), (1, .ref (36 + 3 * m)), (2, .ref (52 + 5 * p))]) dX6_runScript_82 (by decide) rfl ?_
        refine mm_iload 0 dX6_runScript_84 rfl ?_
        refine mm_iconst (v := -1) dX6_runScript_86 rfl ?_
        refine mm_icmp_ne (tgt := 118) dX6_runScript_87 (by decide) (fun q => absurd q (by decide)) (fun _ => ?_)
        refine mm_aload_n 6 dX6_runScript_90 rfl rfl ?_
        refine mm_iload 1 dX6_runScript_91 rfl ?_
        refine mm_cV1i (dz := d - 1) dX6_runScript_93 rfl mzX4_code ml_X6_158 imX4_code (by omega) (sp_1 hp).1 ⟨rfl, rfl⟩ (cg_code hp (x := x) (by omega) (by omega)) (Nat.le_of_ble_eq_true rfl) ⟨Nat.le_refl _, Nat.le_refl _⟩ ?_
        refine mm_top (v := 7) (by rw [cN_off hz2 (by omega), show 53 + 5 * p + 1 = 54 + 5 * p by omega, show x * 3 = 3 * x by omega]; exact (congrFun (hAp _ (by omega) (by omega)) _).trans hc0) ?_
        refine mm_iconst (v := 1) dX6_runScript_96 rfl ?_
        refine mm_icmp_ne (tgt := 118) dX6_runScript_97 (by decide) (fun _ => ?_) (fun q => absurd q (by decide))
        refine mm_iload 0 dX6_runScript_118 rfl ?_
        refine mm_iconst (v := -1) dX6_runScript_120 rfl ?_
        refine mm_icmp_ne (tgt := 136) dX6_runScript_121 (by decide) (fun q => absurd q (by decide)) (fun _ => ?_)
        refine mm_aload_n 4 dX6_runScript_124 rfl rfl ?_
        refine mm_aload_n 5 dX6_runScript_125 rfl rfl ?_
        refine mm_aload_n 6 dX6_runScript_126 rfl rfl ?_
        refine mm_iload 1 dX6_runScript_127 rfl ?_
        refine mm_cV1i (dz := d - 1) dX6_runScript_129 rfl mzX4_code ml_X6_158 imX4_code (by omega) (sp_1 hp).1 ⟨rfl, rfl⟩ (cg_code hp (x := x) (by omega) (by omega)) (Nat.le_of_ble_eq_true rfl) ⟨Nat.le_refl _, Nat.le_refl _⟩ ?_
        refine mm_top (v := 7) (by rw [cN_off hz2 (by omega), show 53 + 5 * p + 1 = 54 + 5 * p by omega, show x * 3 = 3 * x by omega]; exact (congrFun (hAp _ (by omega) (by omega)) _).trans hc0) ?_
        refine mm_cV2v (dz := d - 1) dX6_runScript_132 rfl mzX6_labour ml_X6_171 imX6_labour (by omega) so_171 ⟨rfl, rfl⟩ (cg_ladr1 hz hW hJ hm h1 hcc h2 hq100 hK hQ h4 hz10 h5 hq1 (by omega)) (Nat.le_of_ble_eq_true rfl) ⟨Nat.le_refl _, Nat.le_refl _⟩ ?_
        refine mm_vret dX6_runScript_135 rfl ⟨Nat.le_refl _, Nat.le_refl _⟩ ?_
        exact hk_
      · exfalso; omega
set_option maxRecDepth 100000 in
set_option maxHeartbeats 600000 in
theorem lg_tfu {g : mm_G} {d : Nat} {w h n l k o r : Nat} {A : mm_I} {N : Nat → Int32} (hz : zOK (w * h) n l k o r) (hW : mo_W N w h) {m p a j : Nat} {Aa : Nat → Int32} {CS : List Nat} (hm : m < n) (hp : p < 6) (ha : a ≤ 38) (hj : j < 50) {x q : Nat} (hA : axA A p a Aa CS) (hpl : A (36 + 3 * m) 7 = nI x) (hxa : x < a) (hq9 : q ≤ 900) (hd : 7 ≤ d) {J : mm_I} (hJ : J 201 = N) {c : Nat} (h1 : N (630 + 40 * m + 1) = nI c) (hcc : c < w * h) {qq : Nat} (h2 : N (630 + 40 * m + 2) = nI qq) (hq100 : qq ≤ 100) (hK : mo_K N (w * h)) (hQ : mo_Q N n) {Q : Option Value → mm_Sh → mm_I → Prop} (hc0 : A (54 + 5 * p) (3 * x) = 8) (hk_ : Q none sh_S (cN (w * h) n l k o r (mm_up A (36 + 3 * m) 7 (nI (x + 1))) (op_fuses J m c 201))) : mm_Ex g zX6_runScript d (0, 0) (0, 0) sh_S (cN (w * h) n l k o r A N) 41 [(4, .int (nI (q))), (3, .int (nI (j))), (0, .ref 171), (1, .ref (36 + 3 * m)), (2, .ref (52 + 5 * p))] [] Q := by
  obtain ⟨hz1, hz2, hz3, hz4, hz5, hz6⟩ := id hz
  have hc := mo_W_c hW
  obtain ⟨-, -, hw1, hw2, hh1, hh2⟩ := id hW
  have hAp : ∀ b, 52 + 5 * p ≤ b → b ≤ 56 + 5 * p → (mm_up A (36 + 3 * m) 7 (nI (x + 1))) b = A b := fun b h1 h2 => mm_up_a (by omega)
  refine mm_iload 0 dX6_runScript_41 rfl ?_
  refine mm_sipush (v := 1000) dX6_runScript_43 rfl ?_
  refine mm_icmp_geN (q) (1000) (tgt := 147) dX6_runScript_46 (by decide) (by omega) (by omega) (fun c46 => ?_) (fun c46 => ?_)
  · exfalso; omega
  · refine mm_iload_n 1 dX6_runScript_49 rfl rfl ?_
    refine mm_bipush (v := 50) dX6_runScript_50 rfl ?_
    refine mm_icmp_geN (j) (50) (tgt := 147) dX6_runScript_52 (by decide) (by omega) (by omega) (fun c52 => ?_) (fun c52 => ?_)
    · exfalso; omega
    · refine mm_aload_n 3 dX6_runScript_55 rfl rfl ?_
      refine mm_geti dX6_runScript_56 rfl fk_X6_148 rfl (sm_1 (show m < 5 by omega)).1 ?_
      refine mm_top (v := nI (x)) ((s_m7 hz2 (by omega)).trans hpl) ?_
      refine mm_istore (ls' := [(5, .int (nI (x))), (4, .int (nI (q))), (3, .int (nI (j))), (0, .ref 171), (1, .ref (36 + 3 * m)), (2, .ref (52 + 5 * p))]) dX6_runScript_59 (by decide) rfl ?_
      refine mm_iload 0 dX6_runScript_61 rfl ?_
      refine mm_aload_n 5 dX6_runScript_63 rfl rfl ?_
      refine mm_cV0i (dz := d - 1) dX6_runScript_64 rfl mzX4_length ml_X6_151 imX4_length (by omega) (sp_1 hp).1 ⟨rfl, rfl⟩ (cg_len hp ((cN_off hz2 (by omega)).trans hA.1) (by omega) (by omega)) (Nat.le_of_ble_eq_true rfl) ⟨Nat.le_refl _, Nat.le_refl _⟩ ?_
      refine mm_icmp_ltN (x) (a) (tgt := 76) dX6_runScript_67 (by decide) (by omega) (by omega) (fun c67 => ?_) (fun c67 => ?_)
      · refine mm_aload_n 3 dX6_runScript_76 rfl rfl ?_
        refine mm_aload_n 4 dX6_runScript_77 rfl rfl ?_
        refine mm_aload_n 5 dX6_runScript_78 rfl rfl ?_
        refine mm_cV2i (dz := d - 1) dX6_runScript_79 rfl mzX6_steer ml_X6_154 imX6_steer (by omega) so_171 ⟨rfl, rfl⟩ (cg_stT8 hz hW hm hp (x := x) (by omega) hpl hc0 (by omega)) (Nat.le_of_ble_eq_true rfl) ⟨Nat.le_refl _, Nat.le_refl _⟩ ?_
        refine mm_istore (ls' := [(6, .int (-1)), (5, .int (nI (x))), (4, .int (nI (q))), (3, .int (nI (j))), (0, .ref 171), (1, .ref (36 + 3 * m)), (2, .ref (52 + 5 * p))]) dX6_runScript_82 (by decide) rfl ?_
        refine mm_iload 0 dX6_runScript_84 rfl ?_
        refine mm_iconst (v := -1) dX6_runScript_86 rfl ?_
        refine mm_icmp_ne (tgt := 118) dX6_runScript_87 (by decide) (fun q => absurd q (by decide)) (fun _ => ?_)
        refine mm_aload_n 6 dX6_runScript_90 rfl rfl ?_
        refine mm_iload 1 dX6_runScript_91 rfl ?_
        refine mm_cV1i (dz := d - 1) dX6_runScript_93 rfl mzX4_code ml_X6_158 imX4_code (by omega) (sp_1 hp).1 ⟨rfl, rfl⟩ (cg_code hp (x := x) (by omega) (by omega)) (Nat.le_of_ble_eq_true rfl) ⟨Nat.le_refl _, Nat.le_refl _⟩ ?_
        refine mm_top (v := 8) (by rw [cN_off hz2 (by omega), show 53 + 5 * p + 1 = 54 + 5 * p by omega, show x * 3 = 3 * x by omega]; exact (congrFun (hAp _ (by omega) (by omega)) _).trans hc0) ?_
        refine mm_iconst (v := 1) dX6_runScript_96 rfl ?_
        refine mm_icmp_ne (tgt := 118) dX6_runScript_97 (by decide) (fun _ => ?_) (fun q => absurd q (by decide))
        refine mm_iload 0 dX6_runScript_118 rfl ?_
        refine mm_iconst (v := -1) dX6_runScript_120 rfl ?_
        refine mm_icmp_ne (tgt := 136) dX6_runScript_121 (by decide) (fun q => absurd q (by decide)) (fun _ => ?_)
        refine mm_aload_n 4 dX6_runScript_124 rfl rfl ?_
        refine mm_aload_n 5 dX6_runScript_125 rfl rfl ?_
        refine mm_aload_n 6 dX6_runScript_126 rfl rfl ?_
        refine mm_iload 1 dX6_runScript_127 rfl ?_
        refine mm_cV1i (dz := d - 1) dX6_runScript_129 rfl mzX4_code ml_X6_158 imX4_code (by omega) (sp_1 hp).1 ⟨rfl, rfl⟩ (cg_code hp (x := x) (by omega) (by omega)) (Nat.le_of_ble_eq_true rfl) ⟨Nat.le_refl _, Nat.le_refl _⟩ ?_
        refine mm_top (v := 8) (by rw [cN_off hz2 (by omega), show 53 + 5 * p + 1 = 54 + 5 * p by omega, show x * 3 = 3 * x by omega]; exact (congrFun (hAp _ (by omega) (by omega)) _).trans hc0) ?_
        refine mm_cV2v (dz := d - 1) dX6_runScript_132 rfl mzX6_labour ml_X6_171 imX6_labour (by omega) so_171 ⟨rfl, rfl⟩ (cg_lafu hz hW hJ hm h1 hcc h2 hq100 hK hQ (by omega)) (Nat.le_of_ble_eq_true rfl) ⟨Nat.le_refl _, Nat.le_refl _⟩ ?_
        refine mm_vret dX6_runScript_135 rfl ⟨Nat.le_refl _, Nat.le_refl _⟩ ?_
        exact hk_
      · exfalso; omega
set_option maxRecDepth 100000 in
set_option maxHeartbeats 600000 in
theorem lg_tch {g : mm_G} {d : Nat} {w h n l k o r : Nat} {A : mm_I} {N : Nat → Int32} (hz : zOK (w * h) n l k o r) (hW : mo_W N w h) {m p a j : Nat} {Aa : Nat → Int32} {CS : List Nat} (hm : m < n) (hp : p < 6) (ha : a ≤ 38) (hj : j < 50) {x q : Nat} (hA : axA A p a Aa CS) (hpl : A (36 + 3 * m) 7 = nI x) (hxa : x < a) (hq9 : q ≤ 900) (hd : 7 ≤ d) {J : mm_I} (hJ : J 201 = N) {c : Nat} (h1 : N (630 + 40 * m + 1) = nI c) (hcc : c < w * h) {qq : Nat} (h2 : N (630 + 40 * m + 2) = nI qq) (hq100 : qq ≤ 100) (hK : mo_K N (w * h)) (hQ : mo_Q N n) {b : Nat} (hb : N 4 = nI b) (hb31 : b < 2 ^ 31) {Q : Option Value → mm_Sh → mm_I → Prop} (hc0 : A (54 + 5 * p) (3 * x) = 9) (hk_ : Q none sh_S (cN (w * h) n l k o r (mm_up A (36 + 3 * m) 7 (nI (x + 1))) (op_charges J m c 201))) : mm_Ex g zX6_runScript d (0, 0) (0, 0) sh_S (cN (w * h) n l k o r A N) 41 [(4, .int (nI (q))), (3, .int (nI (j))), (0, .ref 171), (1, .ref (36 + 3 * m)), (2, .ref (52 + 5 * p))] [] Q := by
  obtain ⟨hz1, hz2, hz3, hz4, hz5, hz6⟩ := id hz
  have hc := mo_W_c hW
  obtain ⟨-, -, hw1, hw2, hh1, hh2⟩ := id hW
  have hAp : ∀ b, 52 + 5 * p ≤ b → b ≤ 56 + 5 * p → (mm_up A (36 + 3 * m) 7 (nI (x + 1))) b = A b := fun b h1 h2 => mm_up_a (by omega)
  refine mm_iload 0 dX6_runScript_41 rfl ?_
  refine mm_sipush (v := 1000) dX6_runScript_43 rfl ?_
  refine mm_icmp_geN (q) (1000) (tgt := 147) dX6_runScript_46 (by decide) (by omega) (by omega) (fun c46 => ?_) (fun c46 => ?_)
  · exfalso; omega
  · refine mm_iload_n 1 dX6_runScript_49 rfl rfl ?_
    refine mm_bipush (v := 50) dX6_runScript_50 rfl ?_
    refine mm_icmp_geN (j) (50) (tgt := 147) dX6_runScript_52 (by decide) (by omega) (by omega) (fun c52 => ?_) (fun c52 => ?_)
    · exfalso; omega
    · refine mm_aload_n 3 dX6_runScript_55 rfl rfl ?_
      refine mm_geti dX6_runScript_56 rfl fk_X6_148 rfl (sm_1 (show m < 5 by omega)).1 ?_
      refine mm_top (v := nI (x)) ((s_m7 hz2 (by omega)).trans hpl) ?_
      refine mm_istore (ls' := [(5, .int (nI (x))), (4, .int (nI (q))), (3, .int (nI (j))), (0, .ref 171), (1, .ref (36 + 3 * m)), (2, .ref (52 + 5 * p))]) dX6_runScript_59 (by decide) rfl ?_
      refine mm_iload 0 dX6_runScript_61 rfl ?_
      refine mm_aload_n 5 dX6_runScript_63 rfl rfl ?_
      refine mm_cV0i (dz := d - 1) dX6_runScript_64 rfl mzX4_length ml_X6_151 imX4_length (by omega) (sp_1 hp).1 ⟨rfl, rfl⟩ (cg_len hp ((cN_off hz2 (by omega)).trans hA.1) (by omega) (by omega)) (Nat.le_of_ble_eq_true rfl) ⟨Nat.le_refl _, Nat.le_refl _⟩ ?_
      refine mm_icmp_ltN (x) (a) (tgt := 76) dX6_runScript_67 (by decide) (by omega) (by omega) (fun c67 => ?_) (fun c67 => ?_)
      · refine mm_aload_n 3 dX6_runScript_76 rfl rfl ?_
        refine mm_aload_n 4 dX6_runScript_77 rfl rfl ?_
        refine mm_aload_n 5 dX6_runScript_78 rfl rfl ?_
        refine mm_cV2i (dz := d - 1) dX6_runScript_79 rfl mzX6_steer ml_X6_154 imX6_steer (by omega) so_171 ⟨rfl, rfl⟩ (cg_stT9 hz hW hm hp (x := x) (by omega) hpl hc0 (by omega)) (Nat.le_of_ble_eq_true rfl) ⟨Nat.le_refl _, Nat.le_refl _⟩ ?_
        refine mm_istore (ls' := [(6, .int (-1)), (5, .int (nI (x))), (4, .int (nI (q))), (3, .int (nI (j))), (0, .ref 171), (1, .ref (36 + 3 * m)), (2, .ref (52 + 5 * p))]) dX6_runScript_82 (by decide) rfl ?_
        refine mm_iload 0 dX6_runScript_84 rfl ?_
        refine mm_iconst (v := -1) dX6_runScript_86 rfl ?_
        refine mm_icmp_ne (tgt := 118) dX6_runScript_87 (by decide) (fun q => absurd q (by decide)) (fun _ => ?_)
        refine mm_aload_n 6 dX6_runScript_90 rfl rfl ?_
        refine mm_iload 1 dX6_runScript_91 rfl ?_
        refine mm_cV1i (dz := d - 1) dX6_runScript_93 rfl mzX4_code ml_X6_158 imX4_code (by omega) (sp_1 hp).1 ⟨rfl, rfl⟩ (cg_code hp (x := x) (by omega) (by omega)) (Nat.le_of_ble_eq_true rfl) ⟨Nat.le_refl _, Nat.le_refl _⟩ ?_
        refine mm_top (v := 9) (by rw [cN_off hz2 (by omega), show 53 + 5 * p + 1 = 54 + 5 * p by omega, show x * 3 = 3 * x by omega]; exact (congrFun (hAp _ (by omega) (by omega)) _).trans hc0) ?_
        refine mm_iconst (v := 1) dX6_runScript_96 rfl ?_
        refine mm_icmp_ne (tgt := 118) dX6_runScript_97 (by decide) (fun _ => ?_) (fun q => absurd q (by decide))
        refine mm_iload 0 dX6_runScript_118 rfl ?_
        refine mm_iconst (v := -1) dX6_runScript_120 rfl ?_
        refine mm_icmp_ne (tgt := 136) dX6_runScript_121 (by decide) (fun q => absurd q (by decide)) (fun _ => ?_)
        refine mm_aload_n 4 dX6_runScript_124 rfl rfl ?_
        refine mm_aload_n 5 dX6_runScript_125 rfl rfl ?_
        refine mm_aload_n 6 dX6_runScript_126 rfl rfl ?_
        refine mm_iload 1 dX6_runScript_127 rfl ?_
        refine mm_cV1i (dz := d - 1) dX6_runScript_129 rfl mzX4_code ml_X6_158 imX4_code (by omega) (sp_1 hp).1 ⟨rfl, rfl⟩ (cg_code hp (x := x) (by omega) (by omega)) (Nat.le_of_ble_eq_true rfl) ⟨Nat.le_refl _, Nat.le_refl _⟩ ?_
        refine mm_top (v := 9) (by rw [cN_off hz2 (by omega), show 53 + 5 * p + 1 = 54 + 5 * p by omega, show x * 3 = 3 * x by omega]; exact (congrFun (hAp _ (by omega) (by omega)) _).trans hc0) ?_
        refine mm_cV2v (dz := d - 1) dX6_runScript_132 rfl mzX6_labour ml_X6_171 imX6_labour (by omega) so_171 ⟨rfl, rfl⟩ (cg_lach hz hW hJ hm h1 hcc h2 hq100 hK hQ hb hb31 (by omega)) (Nat.le_of_ble_eq_true rfl) ⟨Nat.le_refl _, Nat.le_refl _⟩ ?_
        refine mm_vret dX6_runScript_135 rfl ⟨Nat.le_refl _, Nat.le_refl _⟩ ?_
        exact hk_
      · exfalso; omega
set_option maxRecDepth 100000 in
set_option maxHeartbeats 600000 in
theorem lg_tme {g : mm_G} {d : Nat} {w h n l k o r : Nat} {A : mm_I} {N : Nat → Int32} (hz : zOK (w * h) n l k o r) (hW : mo_W N w h) {m p a j : Nat} {Aa : Nat → Int32} {CS : List Nat} (hm : m < n) (hp : p < 6) (ha : a ≤ 38) (hj : j < 50) {x q : Nat} (hA : axA A p a Aa CS) (hpl : A (36 + 3 * m) 7 = nI x) (hxa : x < a) (hq9 : q ≤ 900) (hd : 7 ≤ d) {J : mm_I} (hJ : J 201 = N) {c : Nat} (h1 : N (630 + 40 * m + 1) = nI c) (hcc : c < w * h) {qq : Nat} (h2 : N (630 + 40 * m + 2) = nI qq) (hq100 : qq ≤ 100) (hK : mo_K N (w * h)) (hQ : mo_Q N n) (hD : mo_D N n) (hC : mo_C N n (w * h)) (hB : mo_B N n) {v : Nat} (h12 : N 12 = nI v) (hv : v < 2 ^ 31) {Q : Option Value → mm_Sh → mm_I → Prop} (hc0 : A (54 + 5 * p) (3 * x) = 10) (hk_ : Q none sh_S (cN (w * h) n l k o r (mm_up A (36 + 3 * m) 7 (nI (x + 1))) (op_mends J w h n m c 201))) : mm_Ex g zX6_runScript d (0, 0) (0, 0) sh_S (cN (w * h) n l k o r A N) 41 [(4, .int (nI (q))), (3, .int (nI (j))), (0, .ref 171), (1, .ref (36 + 3 * m)), (2, .ref (52 + 5 * p))] [] Q := by
  obtain ⟨hz1, hz2, hz3, hz4, hz5, hz6⟩ := id hz
  have hc := mo_W_c hW
  obtain ⟨-, -, hw1, hw2, hh1, hh2⟩ := id hW
  have hAp : ∀ b, 52 + 5 * p ≤ b → b ≤ 56 + 5 * p → (mm_up A (36 + 3 * m) 7 (nI (x + 1))) b = A b := fun b h1 h2 => mm_up_a (by omega)
  refine mm_iload 0 dX6_runScript_41 rfl ?_
  refine mm_sipush (v := 1000) dX6_runScript_43 rfl ?_
  refine mm_icmp_geN (q) (1000) (tgt := 147) dX6_runScript_46 (by decide) (by omega) (by omega) (fun c46 => ?_) (fun c46 => ?_)
  · exfalso; omega
  · refine mm_iload_n 1 dX6_runScript_49 rfl rfl ?_
    refine mm_bipush (v := 50) dX6_runScript_50 rfl ?_
    refine mm_icmp_geN (j) (50) (tgt := 147) dX6_runScript_52 (by decide) (by omega) (by omega) (fun c52 => ?_) (fun c52 => ?_)
    · exfalso; omega
    · refine mm_aload_n 3 dX6_runScript_55 rfl rfl ?_
      refine mm_geti dX6_runScript_56 rfl fk_X6_148 rfl (sm_1 (show m < 5 by omega)).1 ?_
      refine mm_top (v := nI (x)) ((s_m7 hz2 (by omega)).trans hpl) ?_
      refine mm_istore (ls' := [(5, .int (nI (x))), (4, .int (nI (q))), (3, .int (nI (j))), (0, .ref 171), (1, .ref (36 + 3 * m)), (2, .ref (52 + 5 * p))]) dX6_runScript_59 (by decide) rfl ?_
      refine mm_iload 0 dX6_runScript_61 rfl ?_
      refine mm_aload_n 5 dX6_runScript_63 rfl rfl ?_
      refine mm_cV0i (dz := d - 1) dX6_runScript_64 rfl mzX4_length ml_X6_151 imX4_length (by omega) (sp_1 hp).1 ⟨rfl, rfl⟩ (cg_len hp ((cN_off hz2 (by omega)).trans hA.1) (by omega) (by omega)) (Nat.le_of_ble_eq_true rfl) ⟨Nat.le_refl _, Nat.le_refl _⟩ ?_
      refine mm_icmp_ltN (x) (a) (tgt := 76) dX6_runScript_67 (by decide) (by omega) (by omega) (fun c67 => ?_) (fun c67 => ?_)
      · refine mm_aload_n 3 dX6_runScript_76 rfl rfl ?_
        refine mm_aload_n 4 dX6_runScript_77 rfl rfl ?_
        refine mm_aload_n 5 dX6_runScript_78 rfl rfl ?_
        refine mm_cV2i (dz := d - 1) dX6_runScript_79 rfl mzX6_steer ml_X6_154 imX6_steer (by omega) so_171 ⟨rfl, rfl⟩ (cg_stT10 hz hW hm hp (x := x) (by omega) hpl hc0 (by omega)) (Nat.le_of_ble_eq_true rfl) ⟨Nat.le_refl _, Nat.le_refl _⟩ ?_
        refine mm_istore (ls' := [(6, .int (-1)), (5, .int (nI (x))), (4, .int (nI (q))), (3, .int (nI (j))), (0, .ref 171), (1, .ref (36 + 3 * m)), (2, .ref (52 + 5 * p))]) dX6_runScript_82 (by decide) rfl ?_
        refine mm_iload 0 dX6_runScript_84 rfl ?_
        refine mm_iconst (v := -1) dX6_runScript_86 rfl ?_
        refine mm_icmp_ne (tgt := 118) dX6_runScript_87 (by decide) (fun q => absurd q (by decide)) (fun _ => ?_)
        refine mm_aload_n 6 dX6_runScript_90 rfl rfl ?_
        refine mm_iload 1 dX6_runScript_91 rfl ?_
        refine mm_cV1i (dz := d - 1) dX6_runScript_93 rfl mzX4_code ml_X6_158 imX4_code (by omega) (sp_1 hp).1 ⟨rfl, rfl⟩ (cg_code hp (x := x) (by omega) (by omega)) (Nat.le_of_ble_eq_true rfl) ⟨Nat.le_refl _, Nat.le_refl _⟩ ?_
        refine mm_top (v := 10) (by rw [cN_off hz2 (by omega), show 53 + 5 * p + 1 = 54 + 5 * p by omega, show x * 3 = 3 * x by omega]; exact (congrFun (hAp _ (by omega) (by omega)) _).trans hc0) ?_
        refine mm_iconst (v := 1) dX6_runScript_96 rfl ?_
        refine mm_icmp_ne (tgt := 118) dX6_runScript_97 (by decide) (fun _ => ?_) (fun q => absurd q (by decide))
        refine mm_iload 0 dX6_runScript_118 rfl ?_
        refine mm_iconst (v := -1) dX6_runScript_120 rfl ?_
        refine mm_icmp_ne (tgt := 136) dX6_runScript_121 (by decide) (fun q => absurd q (by decide)) (fun _ => ?_)
        refine mm_aload_n 4 dX6_runScript_124 rfl rfl ?_
        refine mm_aload_n 5 dX6_runScript_125 rfl rfl ?_
        refine mm_aload_n 6 dX6_runScript_126 rfl rfl ?_
        refine mm_iload 1 dX6_runScript_127 rfl ?_
        refine mm_cV1i (dz := d - 1) dX6_runScript_129 rfl mzX4_code ml_X6_158 imX4_code (by omega) (sp_1 hp).1 ⟨rfl, rfl⟩ (cg_code hp (x := x) (by omega) (by omega)) (Nat.le_of_ble_eq_true rfl) ⟨Nat.le_refl _, Nat.le_refl _⟩ ?_
        refine mm_top (v := 10) (by rw [cN_off hz2 (by omega), show 53 + 5 * p + 1 = 54 + 5 * p by omega, show x * 3 = 3 * x by omega]; exact (congrFun (hAp _ (by omega) (by omega)) _).trans hc0) ?_
        refine mm_cV2v (dz := d - 1) dX6_runScript_132 rfl mzX6_labour ml_X6_171 imX6_labour (by omega) so_171 ⟨rfl, rfl⟩ (cg_lame hz hW hJ hm h1 hcc h2 hq100 hK hQ hD hC hB h12 hv (by omega)) (Nat.le_of_ble_eq_true rfl) ⟨Nat.le_refl _, Nat.le_refl _⟩ ?_
        refine mm_vret dX6_runScript_135 rfl ⟨Nat.le_refl _, Nat.le_refl _⟩ ?_
        exact hk_
      · exfalso; omega
set_option maxRecDepth 100000 in
set_option maxHeartbeats 600000 in
theorem lg_twa {g : mm_G} {d : Nat} {w h n l k o r : Nat} {A : mm_I} {N : Nat → Int32} (hz : zOK (w * h) n l k o r) (hW : mo_W N w h) {m p a j : Nat} {Aa : Nat → Int32} {CS : List Nat} (hm : m < n) (hp : p < 6) (ha : a ≤ 38) (hj : j < 50) {x q : Nat} (hA : axA A p a Aa CS) (hpl : A (36 + 3 * m) 7 = nI x) (hxa : x < a) (hq9 : q ≤ 900) (hd : 7 ≤ d) {J : mm_I} (hJ : J 201 = N) {c : Nat} (h1 : N (630 + 40 * m + 1) = nI c) (hcc : c < w * h) {qq : Nat} (h2 : N (630 + 40 * m + 2) = nI qq) (hq100 : qq ≤ 100) (hK : mo_K N (w * h)) (hQ : mo_Q N n) {Q : Option Value → mm_Sh → mm_I → Prop} (hc0 : A (54 + 5 * p) (3 * x) = 11) (hk_ : Q none sh_S (cN (w * h) n l k o r (mm_up A (36 + 3 * m) 7 (nI (x + 1))) (N))) : mm_Ex g zX6_runScript d (0, 0) (0, 0) sh_S (cN (w * h) n l k o r A N) 41 [(4, .int (nI (q))), (3, .int (nI (j))), (0, .ref 171), (1, .ref (36 + 3 * m)), (2, .ref (52 + 5 * p))] [] Q := by
  obtain ⟨hz1, hz2, hz3, hz4, hz5, hz6⟩ := id hz
  have hc := mo_W_c hW
  obtain ⟨-, -, hw1, hw2, hh1, hh2⟩ := id hW
  have hAp : ∀ b, 52 + 5 * p ≤ b → b ≤ 56 + 5 * p → (mm_up A (36 + 3 * m) 7 (nI (x + 1))) b = A b := fun b h1 h2 => mm_up_a (by omega)
  refine mm_iload 0 dX6_runScript_41 rfl ?_
  refine mm_sipush (v := 1000) dX6_runScript_43 rfl ?_
  refine mm_icmp_geN (q) (1000) (tgt := 147) dX6_runScript_46 (by decide) (by omega) (by omega) (fun c46 => ?_) (fun c46 => ?_)
  · exfalso; omega
  · refine mm_iload_n 1 dX6_runScript_49 rfl rfl ?_
    refine mm_bipush (v := 50) dX6_runScript_50 rfl ?_
    refine mm_icmp_geN (j) (50) (tgt := 147) dX6_runScript_52 (by decide) (by omega) (by omega) (fun c52 => ?_) (fun c52 => ?_)
    · exfalso; omega
    · refine mm_aload_n 3 dX6_runScript_55 rfl rfl ?_
      refine mm_geti dX6_runScript_56 rfl fk_X6_148 rfl (sm_1 (show m < 5 by omega)).1 ?_
      refine mm_top (v := nI (x)) ((s_m7 hz2 (by omega)).trans hpl) ?_
      refine mm_istore (ls' := [(5, .int (nI (x))), (4, .int (nI (q))), (3, .int (nI (j))), (0, .ref 171), (1, .ref (36 + 3 * m)), (2, .ref (52 + 5 * p))]) dX6_runScript_59 (by decide) rfl ?_
      refine mm_iload 0 dX6_runScript_61 rfl ?_
      refine mm_aload_n 5 dX6_runScript_63 rfl rfl ?_
      refine mm_cV0i (dz := d - 1) dX6_runScript_64 rfl mzX4_length ml_X6_151 imX4_length (by omega) (sp_1 hp).1 ⟨rfl, rfl⟩ (cg_len hp ((cN_off hz2 (by omega)).trans hA.1) (by omega) (by omega)) (Nat.le_of_ble_eq_true rfl) ⟨Nat.le_refl _, Nat.le_refl _⟩ ?_
      refine mm_icmp_ltN (x) (a) (tgt := 76) dX6_runScript_67 (by decide) (by omega) (by omega) (fun c67 => ?_) (fun c67 => ?_)
      · refine mm_aload_n 3 dX6_runScript_76 rfl rfl ?_
        refine mm_aload_n 4 dX6_runScript_77 rfl rfl ?_
        refine mm_aload_n 5 dX6_runScript_78 rfl rfl ?_
        refine mm_cV2i (dz := d - 1) dX6_runScript_79 rfl mzX6_steer ml_X6_154 imX6_steer (by omega) so_171 ⟨rfl, rfl⟩ (cg_stT11 hz hW hm hp (x := x) (by omega) hpl hc0 (by omega)) (Nat.le_of_ble_eq_true rfl) ⟨Nat.le_refl _, Nat.le_refl _⟩ ?_
        refine mm_istore (ls' := [(6, .int (-1)), (5, .int (nI (x))), (4, .int (nI (q))), (3, .int (nI (j))), (0, .ref 171), (1, .ref (36 + 3 * m)), (2, .ref (52 + 5 * p))]) dX6_runScript_82 (by decide) rfl ?_
        refine mm_iload 0 dX6_runScript_84 rfl ?_
        refine mm_iconst (v := -1) dX6_runScript_86 rfl ?_
        refine mm_icmp_ne (tgt := 118) dX6_runScript_87 (by decide) (fun q => absurd q (by decide)) (fun _ => ?_)
        refine mm_aload_n 6 dX6_runScript_90 rfl rfl ?_
        refine mm_iload 1 dX6_runScript_91 rfl ?_
        refine mm_cV1i (dz := d - 1) dX6_runScript_93 rfl mzX4_code ml_X6_158 imX4_code (by omega) (sp_1 hp).1 ⟨rfl, rfl⟩ (cg_code hp (x := x) (by omega) (by omega)) (Nat.le_of_ble_eq_true rfl) ⟨Nat.le_refl _, Nat.le_refl _⟩ ?_
        refine mm_top (v := 11) (by rw [cN_off hz2 (by omega), show 53 + 5 * p + 1 = 54 + 5 * p by omega, show x * 3 = 3 * x by omega]; exact (congrFun (hAp _ (by omega) (by omega)) _).trans hc0) ?_
        refine mm_iconst (v := 1) dX6_runScript_96 rfl ?_
        refine mm_icmp_ne (tgt := 118) dX6_runScript_97 (by decide) (fun _ => ?_) (fun q => absurd q (by decide))
        refine mm_iload 0 dX6_runScript_118 rfl ?_
        refine mm_iconst (v := -1) dX6_runScript_120 rfl ?_
        refine mm_icmp_ne (tgt := 136) dX6_runScript_121 (by decide) (fun q => absurd q (by decide)) (fun _ => ?_)
        refine mm_aload_n 4 dX6_runScript_124 rfl rfl ?_
        refine mm_aload_n 5 dX6_runScript_125 rfl rfl ?_
        refine mm_aload_n 6 dX6_runScript_126 rfl rfl ?_
        refine mm_iload 1 dX6_runScript_127 rfl ?_
        refine mm_cV1i (dz := d - 1) dX6_runScript_129 rfl mzX4_code ml_X6_158 imX4_code (by omega) (sp_1 hp).1 ⟨rfl, rfl⟩ (cg_code hp (x := x) (by omega) (by omega)) (Nat.le_of_ble_eq_true rfl) ⟨Nat.le_refl _, Nat.le_refl _⟩ ?_
        refine mm_top (v := 11) (by rw [cN_off hz2 (by omega), show 53 + 5 * p + 1 = 54 + 5 * p by omega, show x * 3 = 3 * x by omega]; exact (congrFun (hAp _ (by omega) (by omega)) _).trans hc0) ?_
        refine mm_cV2v (dz := d - 1) dX6_runScript_132 rfl mzX6_labour ml_X6_171 imX6_labour (by omega) so_171 ⟨rfl, rfl⟩ (cg_lawa hz hW hJ hm h1 hcc h2 hq100 hK hQ (by omega)) (Nat.le_of_ble_eq_true rfl) ⟨Nat.le_refl _, Nat.le_refl _⟩ ?_
        refine mm_vret dX6_runScript_135 rfl ⟨Nat.le_refl _, Nat.le_refl _⟩ ?_
        exact hk_
      · exfalso; omega
