/-! THE CLASS: a MACHINE runs its PROGRAM: takes of go and until, its end -/
set_option maxRecDepth 100000 in
set_option maxHeartbeats 600000 in
theorem cg_la2 {g : mm_G} {d : Nat} {I : mm_I} {m : Nat} : mm_Cv g zX6_labour d [.ref 171, .ref (36 + 3 * m), .int (2)] sh_S (I) (I) := by
  refine mm_Cv_of (fun Q hq => ?_)
  refine mm_begin (ls := [(0, .ref 171), (1, .ref (36 + 3 * m)), (2, .int (2))]) (Nat.le_of_ble_eq_true rfl) rfl rfl ?_
  refine mm_iload_n 2 dX6_labour_0 rfl rfl ?_
  refine mm_tabOut 6 5 (tgt := 76) dX6_labour_1 rfl (by decide) (by decide) (by decide) ?_
  refine mm_vret dX6_labour_76 rfl ⟨Nat.le_refl _, Nat.le_refl _⟩ ?_
  exact hq
set_option maxRecDepth 100000 in
set_option maxHeartbeats 600000 in
theorem lg_tU {g : mm_G} {d : Nat} {w h n l k o r : Nat} {A : mm_I} {N : Nat → Int32} (hz : zOK (w * h) n l k o r) (hW : mo_W N w h) {m p a j : Nat} {Aa : Nat → Int32} {CS : List Nat} (hm : m < n) (hp : p < 6) (ha : a ≤ 38) (hj : j < 50) {x q : Nat} (hA : axA A p a Aa CS) (hpl : A (36 + 3 * m) 7 = nI x) (hxa : x < a) (hq9 : q ≤ 900) (hd : 7 ≤ d) {c : Nat} (h1 : N (630 + 40 * m + 1) = nI c) (hcc : c < w * h) {la lb : Nat} (h2 : N 2 = nI la) (h3 : N 3 = nI lb) (hla : 1 ≤ la ∧ la ≤ 24) (hlb : lb ≤ 24) {e0 : Nat} (hL96 : CS.length ≤ 96) {cs : List Nat} (hi : e0 + cs.length < CS.length) (hv : vc_at (A (56 + 5 * p)) e0 cs) (hw : wf cs 0) (hne : (ev (sp_nm N w m c) cs (0, A 173)).2 0 = 0) {Q : Option Value → mm_Sh → mm_I → Prop} (hc0 : A (54 + 5 * p) (3 * x) = 2) (hc1 : A (54 + 5 * p) (3 * x + 1) = nI e0) (hk_ : ∀ A', (∀ b, ¬ (b = 172 ∨ b = 173 ∨ b = 36 + 3 * m) → A' b = A b) → A' (36 + 3 * m) 7 = nI x → Q none sh_S (cN (w * h) n l k o r (A') N)) : mm_Ex g zX6_runScript d (0, 0) (0, 0) sh_S (cN (w * h) n l k o r A N) 41 [(4, .int (nI (q))), (3, .int (nI (j))), (0, .ref 171), (1, .ref (36 + 3 * m)), (2, .ref (52 + 5 * p))] [] Q := by
  obtain ⟨hz1, hz2, hz3, hz4, hz5, hz6⟩ := id hz
  have hc := mo_W_c hW
  obtain ⟨-, -, hw1, hw2, hh1, hh2⟩ := id hW
  refine mm_iload 0 dX6_runScript_41 rfl ?_
  refine mm_sipush (v := 1000) dX6_runScript_43 rfl ?_
  refine mm_icmp_geN (q) (1000) (tgt := 147) dX6_runScript_46 (by decide) (by omega) (by omega) (fun c46 => ?_) (fun c46 => ?_)
  · exfalso; omega
  · refine mm_iload_n 1 dX6_runScript_49 rfl rfl ?_
    refine mm_bipush (v := 50) dX6_runScript_50 rfl ?_
    refine mm_icmp_geN (j) (50) (tgt := 147) dX6_runScript_52 (by decide) (by omega) (by omega) (fun c52 => ?_) (fun c52 => ?_)
    · exfalso; omega
    · refine mm_aload_n 3 dX6_runScript_55 rfl rfl ?_
      refine mm_geti dX6_runScript_56 rfl fk_X6_148 rfl (sm_1 (show m < 5 by omega)).1 ?_
      refine mm_top (v := nI (x)) ((s_m7 hz2 (by omega)).trans hpl) ?_
      refine mm_istore (ls' := [(5, .int (nI (x))), (4, .int (nI (q))), (3, .int (nI (j))), (0, .ref 171), (1, .ref (36 + 3 * m)), (2, .ref (52 + 5 * p))]) dX6_runScript_59 (by decide) rfl ?_
      refine mm_iload 0 dX6_runScript_61 rfl ?_
      refine mm_aload_n 5 dX6_runScript_63 rfl rfl ?_
      refine mm_cV0i (dz := d - 1) dX6_runScript_64 rfl mzX4_length ml_X6_151 imX4_length (by omega) (sp_1 hp).1 ⟨rfl, rfl⟩ (cg_len hp ((cN_off hz2 (by omega)).trans hA.1) (by omega) (by omega)) (Nat.le_of_ble_eq_true rfl) ⟨Nat.le_refl _, Nat.le_refl _⟩ ?_
      refine mm_icmp_ltN (x) (a) (tgt := 76) dX6_runScript_67 (by decide) (by omega) (by omega) (fun c67 => ?_) (fun c67 => ?_)
      · refine mm_aload_n 3 dX6_runScript_76 rfl rfl ?_
        refine mm_aload_n 4 dX6_runScript_77 rfl rfl ?_
        refine mm_aload_n 5 dX6_runScript_78 rfl rfl ?_
        refine mm_dV2i (dz := d - 1) dX6_runScript_79 rfl mzX6_steer ml_X6_154 imX6_steer (by omega) so_171 ⟨rfl, rfl⟩ (cg_stU hz hW hm hp (x := x) (by omega) hpl h1 hcc h2 h3 hla hlb hA.2.2.2.1 hL96 hi hv hw hc0 hc1 (by omega)) (Nat.le_of_ble_eq_true rfl) ⟨Nat.le_refl _, Nat.le_refl _⟩ (fun rr K1 hK1 => ?_)
        obtain ⟨hr_, A1, rfl, hF1, hp1⟩ := hK1
        rw [if_pos hne] at hr_ hp1
        subst hr_
        have hAp : ∀ b, 52 + 5 * p ≤ b → b ≤ 56 + 5 * p → A1 b = A b := fun b h1 h2 => hF1 b (by omega)
        refine mm_istore (ls' := [(6, .int (-1)), (5, .int (nI (x))), (4, .int (nI (q))), (3, .int (nI (j))), (0, .ref 171), (1, .ref (36 + 3 * m)), (2, .ref (52 + 5 * p))]) dX6_runScript_82 (by decide) rfl ?_
        refine mm_iload 0 dX6_runScript_84 rfl ?_
        refine mm_iconst (v := -1) dX6_runScript_86 rfl ?_
        refine mm_icmp_ne (tgt := 118) dX6_runScript_87 (by decide) (fun q => absurd q (by decide)) (fun _ => ?_)
        refine mm_aload_n 6 dX6_runScript_90 rfl rfl ?_
        refine mm_iload 1 dX6_runScript_91 rfl ?_
        refine mm_cV1i (dz := d - 1) dX6_runScript_93 rfl mzX4_code ml_X6_158 imX4_code (by omega) (sp_1 hp).1 ⟨rfl, rfl⟩ (cg_code hp (x := x) (by omega) (by omega)) (Nat.le_of_ble_eq_true rfl) ⟨Nat.le_refl _, Nat.le_refl _⟩ ?_
        refine mm_top (v := 2) (by rw [cN_off hz2 (by omega), show 53 + 5 * p + 1 = 54 + 5 * p by omega, show x * 3 = 3 * x by omega]; exact (congrFun (hAp _ (by omega) (by omega)) _).trans hc0) ?_
        refine mm_iconst (v := 1) dX6_runScript_96 rfl ?_
        refine mm_icmp_ne (tgt := 118) dX6_runScript_97 (by decide) (fun _ => ?_) (fun q => absurd q (by decide))
        refine mm_iload 0 dX6_runScript_118 rfl ?_
        refine mm_iconst (v := -1) dX6_runScript_120 rfl ?_
        refine mm_icmp_ne (tgt := 136) dX6_runScript_121 (by decide) (fun q => absurd q (by decide)) (fun _ => ?_)
        refine mm_aload_n 4 dX6_runScript_124 rfl rfl ?_
        refine mm_aload_n 5 dX6_runScript_125 rfl rfl ?_
        refine mm_aload_n 6 dX6_runScript_126 rfl rfl ?_
        refine mm_iload 1 dX6_runScript_127 rfl ?_
        refine mm_cV1i (dz := d - 1) dX6_runScript_129 rfl mzX4_code ml_X6_158 imX4_code (by omega) (sp_1 hp).1 ⟨rfl, rfl⟩ (cg_code hp (x := x) (by omega) (by omega)) (Nat.le_of_ble_eq_true rfl) ⟨Nat.le_refl _, Nat.le_refl _⟩ ?_
        refine mm_top (v := 2) (by rw [cN_off hz2 (by omega), show 53 + 5 * p + 1 = 54 + 5 * p by omega, show x * 3 = 3 * x by omega]; exact (congrFun (hAp _ (by omega) (by omega)) _).trans hc0) ?_
        refine mm_cV2v (dz := d - 1) dX6_runScript_132 rfl mzX6_labour ml_X6_171 imX6_labour (by omega) so_171 ⟨rfl, rfl⟩ cg_la2 (Nat.le_of_ble_eq_true rfl) ⟨Nat.le_refl _, Nat.le_refl _⟩ ?_
        refine mm_vret dX6_runScript_135 rfl ⟨Nat.le_refl _, Nat.le_refl _⟩ ?_
        exact hk_ A1 hF1 hp1
      · exfalso; omega
set_option maxRecDepth 100000 in
set_option maxHeartbeats 600000 in
theorem lg_tGO {g : mm_G} {d : Nat} {w h n l k o r : Nat} {A : mm_I} {N : Nat → Int32} (hz : zOK (w * h) n l k o r) (hW : mo_W N w h) {m p a j : Nat} {Aa : Nat → Int32} {CS : List Nat} (hm : m < n) (hp : p < 6) (ha : a ≤ 38) (hj : j < 50) {x q : Nat} (hA : axA A p a Aa CS) (hpl : A (36 + 3 * m) 7 = nI x) (hxa : x < a) (hq9 : q ≤ 900) (hd : 7 ≤ d) {c u v : Nat} (h1 : N (630 + 40 * m + 1) = nI c) (hcc : c < w * h) (hu : u ≤ 9999) (hv : v ≤ 9999) (hat : ¬ (c % w = u ∧ c / w = v)) {J : mm_I} (hJ : J 201 = N) (ho : w ≤ u ∨ h ≤ v) {Q : Option Value → mm_Sh → mm_I → Prop} (hc0 : A (54 + 5 * p) (3 * x) = 1) (hc1 : A (54 + 5 * p) (3 * x + 1) = nI u) (hc2 : A (54 + 5 * p) (3 * x + 2) = nI v) (hk_ : Q none sh_S (cN (w * h) n l k o r (mm_up A (36 + 3 * m) 7 (nI (x + 1))) (N))) : mm_Ex g zX6_runScript d (0, 0) (0, 0) sh_S (cN (w * h) n l k o r A N) 41 [(4, .int (nI (q))), (3, .int (nI (j))), (0, .ref 171), (1, .ref (36 + 3 * m)), (2, .ref (52 + 5 * p))] [] Q := by
  obtain ⟨hz1, hz2, hz3, hz4, hz5, hz6⟩ := id hz
  have hc := mo_W_c hW
  obtain ⟨-, -, hw1, hw2, hh1, hh2⟩ := id hW
  have hAp : ∀ b, 52 + 5 * p ≤ b → b ≤ 56 + 5 * p → (mm_up A (36 + 3 * m) 7 (nI (x + 1))) b = A b := fun b h1 h2 => mm_up_a (by omega)
  refine mm_iload 0 dX6_runScript_41 rfl ?_
  refine mm_sipush (v := 1000) dX6_runScript_43 rfl ?_
  refine mm_icmp_geN (q) (1000) (tgt := 147) dX6_runScript_46 (by decide) (by omega) (by omega) (fun c46 => ?_) (fun c46 => ?_)
  · exfalso; omega
  · refine mm_iload_n 1 dX6_runScript_49 rfl rfl ?_
    refine mm_bipush (v := 50) dX6_runScript_50 rfl ?_
    refine mm_icmp_geN (j) (50) (tgt := 147) dX6_runScript_52 (by decide) (by omega) (by omega) (fun c52 => ?_) (fun c52 => ?_)
    · exfalso; omega
    · refine mm_aload_n 3 dX6_runScript_55 rfl rfl ?_
      refine mm_geti dX6_runScript_56 rfl fk_X6_148 rfl (sm_1 (show m < 5 by omega)).1 ?_
      refine mm_top (v := nI (x)) ((s_m7 hz2 (by omega)).trans hpl) ?_
      refine mm_istore (ls' := [(5, .int (nI (x))), (4, .int (nI (q))), (3, .int (nI (j))), (0, .ref 171), (1, .ref (36 + 3 * m)), (2, .ref (52 + 5 * p))]) dX6_runScript_59 (by decide) rfl ?_
      refine mm_iload 0 dX6_runScript_61 rfl ?_
      refine mm_aload_n 5 dX6_runScript_63 rfl rfl ?_
      refine mm_cV0i (dz := d - 1) dX6_runScript_64 rfl mzX4_length ml_X6_151 imX4_length (by omega) (sp_1 hp).1 ⟨rfl, rfl⟩ (cg_len hp ((cN_off hz2 (by omega)).trans hA.1) (by omega) (by omega)) (Nat.le_of_ble_eq_true rfl) ⟨Nat.le_refl _, Nat.le_refl _⟩ ?_
      refine mm_icmp_ltN (x) (a) (tgt := 76) dX6_runScript_67 (by decide) (by omega) (by omega) (fun c67 => ?_) (fun c67 => ?_)
      · refine mm_aload_n 3 dX6_runScript_76 rfl rfl ?_
        refine mm_aload_n 4 dX6_runScript_77 rfl rfl ?_
        refine mm_aload_n 5 dX6_runScript_78 rfl rfl ?_
        refine mm_cV2i (dz := d - 1) dX6_runScript_79 rfl mzX6_steer ml_X6_154 imX6_steer (by omega) so_171 ⟨rfl, rfl⟩ (by have z := cg_stG (g := g) (d := d - 1) (A := A) hz hW hm hp (x := x) (by omega) hpl h1 hcc hu hv hc0 hc1 hc2 (by omega); rw [if_neg hat] at z; exact z) (Nat.le_of_ble_eq_true rfl) ⟨Nat.le_refl _, Nat.le_refl _⟩ ?_
        refine mm_istore (ls' := [(6, .int (-1)), (5, .int (nI (x))), (4, .int (nI (q))), (3, .int (nI (j))), (0, .ref 171), (1, .ref (36 + 3 * m)), (2, .ref (52 + 5 * p))]) dX6_runScript_82 (by decide) rfl ?_
        refine mm_iload 0 dX6_runScript_84 rfl ?_
        refine mm_iconst (v := -1) dX6_runScript_86 rfl ?_
        refine mm_icmp_ne (tgt := 118) dX6_runScript_87 (by decide) (fun q => absurd q (by decide)) (fun _ => ?_)
        refine mm_aload_n 6 dX6_runScript_90 rfl rfl ?_
        refine mm_iload 1 dX6_runScript_91 rfl ?_
        refine mm_cV1i (dz := d - 1) dX6_runScript_93 rfl mzX4_code ml_X6_158 imX4_code (by omega) (sp_1 hp).1 ⟨rfl, rfl⟩ (cg_code hp (x := x) (by omega) (by omega)) (Nat.le_of_ble_eq_true rfl) ⟨Nat.le_refl _, Nat.le_refl _⟩ ?_
        refine mm_top (v := 1) (by rw [cN_off hz2 (by omega), show 53 + 5 * p + 1 = 54 + 5 * p by omega, show x * 3 = 3 * x by omega]; exact (congrFun (hAp _ (by omega) (by omega)) _).trans hc0) ?_
        refine mm_iconst (v := 1) dX6_runScript_96 rfl ?_
        refine mm_icmp_ne (tgt := 118) dX6_runScript_97 (by decide) (fun q => absurd q (by decide)) (fun _ => ?_)
        refine mm_aload_n 4 dX6_runScript_100 rfl rfl ?_
        refine mm_aload_n 5 dX6_runScript_101 rfl rfl ?_
        refine mm_aload_n 6 dX6_runScript_102 rfl rfl ?_
        refine mm_iload 1 dX6_runScript_103 rfl ?_
        refine mm_cV1i (dz := d - 1) dX6_runScript_105 rfl mzX4_first ml_X6_161 imX4_first (by omega) (sp_1 hp).1 ⟨rfl, rfl⟩ (cg_first hp (x := x) (by omega) (by omega)) (Nat.le_of_ble_eq_true rfl) ⟨Nat.le_refl _, Nat.le_refl _⟩ ?_
        refine mm_top (v := nI u) (by rw [cN_off hz2 (by omega), show 53 + 5 * p + 1 = 54 + 5 * p by omega, show x * 3 + 1 = 3 * x + 1 by omega]; exact (congrFun (hAp _ (by omega) (by omega)) _).trans hc1) ?_
        refine mm_aload_n 6 dX6_runScript_108 rfl rfl ?_
        refine mm_iload 1 dX6_runScript_109 rfl ?_
        refine mm_cV1i (dz := d - 1) dX6_runScript_111 rfl mzX4_second ml_X6_164 imX4_second (by omega) (sp_1 hp).1 ⟨rfl, rfl⟩ (cg_second hp (x := x) (by omega) (by omega)) (Nat.le_of_ble_eq_true rfl) ⟨Nat.le_refl _, Nat.le_refl _⟩ ?_
        refine mm_at (pc' := 114) rfl ?_
        refine mm_top (v := nI v) (by rw [cN_off hz2 (by omega), show 53 + 5 * p + 1 = 54 + 5 * p by omega, show x * 3 + 2 = 3 * x + 2 by omega]; exact (congrFun (hAp _ (by omega) (by omega)) _).trans hc2) ?_
        refine mm_cV3v (dz := d - 1) dX6_runScript_114 rfl mzX6_go ml_X6_167 imX6_go (by omega) so_171 ⟨rfl, rfl⟩ (cg_goO hz hW hJ (x := u) (y := v) hm h1 hcc hu hv ho (by omega)) (Nat.le_of_ble_eq_true rfl) ⟨Nat.le_refl _, Nat.le_refl _⟩ ?_
        refine mm_vret dX6_runScript_117 rfl ⟨Nat.le_refl _, Nat.le_refl _⟩ ?_
        exact hk_
      · exfalso; omega
set_option maxRecDepth 100000 in
set_option maxHeartbeats 600000 in
theorem lg_tGN {g : mm_G} {d : Nat} {w h n l k o r : Nat} {A : mm_I} {N : Nat → Int32} (hz : zOK (w * h) n l k o r) (hW : mo_W N w h) {m p a j : Nat} {Aa : Nat → Int32} {CS : List Nat} (hm : m < n) (hp : p < 6) (ha : a ≤ 38) (hj : j < 50) {x q : Nat} (hA : axA A p a Aa CS) (hpl : A (36 + 3 * m) 7 = nI x) (hxa : x < a) (hq9 : q ≤ 900) (hd : 7 ≤ d) {c u v : Nat} (h1 : N (630 + 40 * m + 1) = nI c) (hcc : c < w * h) (hu : u ≤ 9999) (hv : v ≤ 9999) (hat : ¬ (c % w = u ∧ c / w = v)) {J : mm_I} (hJ : J 201 = N) (hxw : u < w) (hyh : v < h) (hb : gs_b (bf_r J w h (v * w + u)).1 w h c 4 < 0) {Q : Option Value → mm_Sh → mm_I → Prop} (hc0 : A (54 + 5 * p) (3 * x) = 1) (hc1 : A (54 + 5 * p) (3 * x + 1) = nI u) (hc2 : A (54 + 5 * p) (3 * x + 2) = nI v) (hk_ : Q none sh_S (cN (w * h) n l k o r (bcM (mm_up A (36 + 3 * m) 7 (nI (x + 1))) N w h (v * w + u)) (N))) : mm_Ex g zX6_runScript d (0, 0) (0, 0) sh_S (cN (w * h) n l k o r A N) 41 [(4, .int (nI (q))), (3, .int (nI (j))), (0, .ref 171), (1, .ref (36 + 3 * m)), (2, .ref (52 + 5 * p))] [] Q := by
  obtain ⟨hz1, hz2, hz3, hz4, hz5, hz6⟩ := id hz
  have hc := mo_W_c hW
  obtain ⟨-, -, hw1, hw2, hh1, hh2⟩ := id hW
  have hAp : ∀ b, 52 + 5 * p ≤ b → b ≤ 56 + 5 * p → (mm_up A (36 + 3 * m) 7 (nI (x + 1))) b = A b := fun b h1 h2 => mm_up_a (by omega)
  refine mm_iload 0 dX6_runScript_41 rfl ?_
  refine mm_sipush (v := 1000) dX6_runScript_43 rfl ?_
  refine mm_icmp_geN (q) (1000) (tgt := 147) dX6_runScript_46 (by decide) (by omega) (by omega) (fun c46 => ?_) (fun c46 => ?_)
  · exfalso; omega
  · refine mm_iload_n 1 dX6_runScript_49 rfl rfl ?_
    refine mm_bipush (v := 50) dX6_runScript_50 rfl ?_
    refine mm_icmp_geN (j) (50) (tgt := 147) dX6_runScript_52 (by decide) (by omega) (by omega) (fun c52 => ?_) (fun c52 => ?_)
    · exfalso; omega
    · refine mm_aload_n 3 dX6_runScript_55 rfl rfl ?_
      refine mm_geti dX6_runScript_56 rfl fk_X6_148 rfl (sm_1 (show m < 5 by omega)).1 ?_
      refine mm_top (v := nI (x)) ((s_m7 hz2 (by omega)).trans hpl) ?_
      refine mm_istore (ls' := [(5, .int (nI (x))), (4, .int (nI (q))), (3, .int (nI (j))), (0, .ref 171), (1, .ref (36 + 3 * m)), (2, .ref (52 + 5 * p))]) dX6_runScript_59 (by decide) rfl ?_
      refine mm_iload 0 dX6_runScript_61 rfl ?_
      refine mm_aload_n 5 dX6_runScript_63 rfl rfl ?_
      refine mm_cV0i (dz := d - 1) dX6_runScript_64 rfl mzX4_length ml_X6_151 imX4_length (by omega) (sp_1 hp).1 ⟨rfl, rfl⟩ (cg_len hp ((cN_off hz2 (by omega)).trans hA.1) (by omega) (by omega)) (Nat.le_of_ble_eq_true rfl) ⟨Nat.le_refl _, Nat.le_refl _⟩ ?_
      refine mm_icmp_ltN (x) (a) (tgt := 76) dX6_runScript_67 (by decide) (by omega) (by omega) (fun c67 => ?_) (fun c67 => ?_)
      · refine mm_aload_n 3 dX6_runScript_76 rfl rfl ?_
        refine mm_aload_n 4 dX6_runScript_77 rfl rfl ?_
        refine mm_aload_n 5 dX6_runScript_78 rfl rfl ?_
        refine mm_cV2i (dz := d - 1) dX6_runScript_79 rfl mzX6_steer ml_X6_154 imX6_steer (by omega) so_171 ⟨rfl, rfl⟩ (by have z := cg_stG (g := g) (d := d - 1) (A := A) hz hW hm hp (x := x) (by omega) hpl h1 hcc hu hv hc0 hc1 hc2 (by omega); rw [if_neg hat] at z; exact z) (Nat.le_of_ble_eq_true rfl) ⟨Nat.le_refl _, Nat.le_refl _⟩ ?_
        refine mm_istore (ls' := [(6, .int (-1)), (5, .int (nI (x))), (4, .int (nI (q))), (3, .int (nI (j))), (0, .ref 171), (1, .ref (36 + 3 * m)), (2, .ref (52 + 5 * p))]) dX6_runScript_82 (by decide) rfl ?_
        refine mm_iload 0 dX6_runScript_84 rfl ?_
        refine mm_iconst (v := -1) dX6_runScript_86 rfl ?_
        refine mm_icmp_ne (tgt := 118) dX6_runScript_87 (by decide) (fun q => absurd q (by decide)) (fun _ => ?_)
        refine mm_aload_n 6 dX6_runScript_90 rfl rfl ?_
        refine mm_iload 1 dX6_runScript_91 rfl ?_
        refine mm_cV1i (dz := d - 1) dX6_runScript_93 rfl mzX4_code ml_X6_158 imX4_code (by omega) (sp_1 hp).1 ⟨rfl, rfl⟩ (cg_code hp (x := x) (by omega) (by omega)) (Nat.le_of_ble_eq_true rfl) ⟨Nat.le_refl _, Nat.le_refl _⟩ ?_
        refine mm_top (v := 1) (by rw [cN_off hz2 (by omega), show 53 + 5 * p + 1 = 54 + 5 * p by omega, show x * 3 = 3 * x by omega]; exact (congrFun (hAp _ (by omega) (by omega)) _).trans hc0) ?_
        refine mm_iconst (v := 1) dX6_runScript_96 rfl ?_
        refine mm_icmp_ne (tgt := 118) dX6_runScript_97 (by decide) (fun q => absurd q (by decide)) (fun _ => ?_)
        refine mm_aload_n 4 dX6_runScript_100 rfl rfl ?_
        refine mm_aload_n 5 dX6_runScript_101 rfl rfl ?_
        refine mm_aload_n 6 dX6_runScript_102 rfl rfl ?_
        refine mm_iload 1 dX6_runScript_103 rfl ?_
        refine mm_cV1i (dz := d - 1) dX6_runScript_105 rfl mzX4_first ml_X6_161 imX4_first (by omega) (sp_1 hp).1 ⟨rfl, rfl⟩ (cg_first hp (x := x) (by omega) (by omega)) (Nat.le_of_ble_eq_true rfl) ⟨Nat.le_refl _, Nat.le_refl _⟩ ?_
        refine mm_top (v := nI u) (by rw [cN_off hz2 (by omega), show 53 + 5 * p + 1 = 54 + 5 * p by omega, show x * 3 + 1 = 3 * x + 1 by omega]; exact (congrFun (hAp _ (by omega) (by omega)) _).trans hc1) ?_
        refine mm_aload_n 6 dX6_runScript_108 rfl rfl ?_
        refine mm_iload 1 dX6_runScript_109 rfl ?_
        refine mm_cV1i (dz := d - 1) dX6_runScript_111 rfl mzX4_second ml_X6_164 imX4_second (by omega) (sp_1 hp).1 ⟨rfl, rfl⟩ (cg_second hp (x := x) (by omega) (by omega)) (Nat.le_of_ble_eq_true rfl) ⟨Nat.le_refl _, Nat.le_refl _⟩ ?_
        refine mm_at (pc' := 114) rfl ?_
        refine mm_top (v := nI v) (by rw [cN_off hz2 (by omega), show 53 + 5 * p + 1 = 54 + 5 * p by omega, show x * 3 + 2 = 3 * x + 2 by omega]; exact (congrFun (hAp _ (by omega) (by omega)) _).trans hc2) ?_
        refine mm_cV3v (dz := d - 1) dX6_runScript_114 rfl mzX6_go ml_X6_167 imX6_go (by omega) so_171 ⟨rfl, rfl⟩ (cg_goN hz hW hJ (x := u) (y := v) hm h1 hcc hu hv hxw hyh hb (by omega)) (Nat.le_of_ble_eq_true rfl) ⟨Nat.le_refl _, Nat.le_refl _⟩ ?_
        refine mm_vret dX6_runScript_117 rfl ⟨Nat.le_refl _, Nat.le_refl _⟩ ?_
        exact hk_
      · exfalso; omega
set_option maxRecDepth 100000 in
set_option maxHeartbeats 600000 in
theorem lg_tGY {g : mm_G} {d : Nat} {w h n l k o r : Nat} {A : mm_I} {N : Nat → Int32} (hz : zOK (w * h) n l k o r) (hW : mo_W N w h) {m p a j : Nat} {Aa : Nat → Int32} {CS : List Nat} (hm : m < n) (hp : p < 6) (ha : a ≤ 38) (hj : j < 50) {x q : Nat} (hA : axA A p a Aa CS) (hpl : A (36 + 3 * m) 7 = nI x) (hxa : x < a) (hq9 : q ≤ 900) (hd : 7 ≤ d) {c u v : Nat} (h1 : N (630 + 40 * m + 1) = nI c) (hcc : c < w * h) (hu : u ≤ 9999) (hv : v ≤ 9999) (hat : ¬ (c % w = u ∧ c / w = v)) {J : mm_I} (hJ : J 201 = N) (hxw : u < w) (hyh : v < h) {b qq : Nat} (hb : gs_b (bf_r J w h (v * w + u)).1 w h c 4 = nI b) (hbb : b < w * h) (h2 : N (630 + 40 * m + 2) = nI qq) (hq100 : qq ≤ 100) (hD : mo_D N n) (hK : mo_K N (w * h)) {Q : Option Value → mm_Sh → mm_I → Prop} (hc0 : A (54 + 5 * p) (3 * x) = 1) (hc1 : A (54 + 5 * p) (3 * x + 1) = nI u) (hc2 : A (54 + 5 * p) (3 * x + 2) = nI v) (hk_ : Q none sh_S (cN (w * h) n l k o r (mm_up (bcM (mm_up A (36 + 3 * m) 7 (nI (x + 1))) N w h (v * w + u)) (36 + 3 * m) 7 (nI x)) (soN N n m b))) : mm_Ex g zX6_runScript d (0, 0) (0, 0) sh_S (cN (w * h) n l k o r A N) 41 [(4, .int (nI (q))), (3, .int (nI (j))), (0, .ref 171), (1, .ref (36 + 3 * m)), (2, .ref (52 + 5 * p))] [] Q := by
  obtain ⟨hz1, hz2, hz3, hz4, hz5, hz6⟩ := id hz
  have hc := mo_W_c hW
  obtain ⟨-, -, hw1, hw2, hh1, hh2⟩ := id hW
  have hAp : ∀ b, 52 + 5 * p ≤ b → b ≤ 56 + 5 * p → (mm_up A (36 + 3 * m) 7 (nI (x + 1))) b = A b := fun b h1 h2 => mm_up_a (by omega)
  refine mm_iload 0 dX6_runScript_41 rfl ?_
  refine mm_sipush (v := 1000) dX6_runScript_43 rfl ?_
  refine mm_icmp_geN (q) (1000) (tgt := 147) dX6_runScript_46 (by decide) (by omega) (by omega) (fun c46 => ?_) (fun c46 => ?_)
  · exfalso; omega
  · refine mm_iload_n 1 dX6_runScript_49 rfl rfl ?_
    refine mm_bipush (v := 50) dX6_runScript_50 rfl ?_
    refine mm_icmp_geN (j) (50) (tgt := 147) dX6_runScript_52 (by decide) (by omega) (by omega) (fun c52 => ?_) (fun c52 => ?_)
    · exfalso; omega
    · refine mm_aload_n 3 dX6_runScript_55 rfl rfl ?_
      refine mm_geti dX6_runScript_56 rfl fk_X6_148 rfl (sm_1 (show m < 5 by omega)).1 ?_
      refine mm_top (v := nI (x)) ((s_m7 hz2 (by omega)).trans hpl) ?_
      refine mm_istore (ls' := [(5, .int (nI (x))), (4, .int (nI (q))), (3, .int (nI (j))), (0, .ref 171), (1, .ref (36 + 3 * m)), (2, .ref (52 + 5 * p))]) dX6_runScript_59 (by decide) rfl ?_
      refine mm_iload 0 dX6_runScript_61 rfl ?_
      refine mm_aload_n 5 dX6_runScript_63 rfl rfl ?_
      refine mm_cV0i (dz := d - 1) dX6_runScript_64 rfl mzX4_length ml_X6_151 imX4_length (by omega) (sp_1 hp).1 ⟨rfl, rfl⟩ (cg_len hp ((cN_off hz2 (by omega)).trans hA.1) (by omega) (by omega)) (Nat.le_of_ble_eq_true rfl) ⟨Nat.le_refl _, Nat.le_refl _⟩ ?_
      refine mm_icmp_ltN (x) (a) (tgt := 76) dX6_runScript_67 (by decide) (by omega) (by omega) (fun c67 => ?_) (fun c67 => ?_)
      · refine mm_aload_n 3 dX6_runScript_76 rfl rfl ?_
        refine mm_aload_n 4 dX6_runScript_77 rfl rfl ?_
        refine mm_aload_n 5 dX6_runScript_78 rfl rfl ?_
        refine mm_cV2i (dz := d - 1) dX6_runScript_79 rfl mzX6_steer ml_X6_154 imX6_steer (by omega) so_171 ⟨rfl, rfl⟩ (by have z := cg_stG (g := g) (d := d - 1) (A := A) hz hW hm hp (x := x) (by omega) hpl h1 hcc hu hv hc0 hc1 hc2 (by omega); rw [if_neg hat] at z; exact z) (Nat.le_of_ble_eq_true rfl) ⟨Nat.le_refl _, Nat.le_refl _⟩ ?_
        refine mm_istore (ls' := [(6, .int (-1)), (5, .int (nI (x))), (4, .int (nI (q))), (3, .int (nI (j))), (0, .ref 171), (1, .ref (36 + 3 * m)), (2, .ref (52 + 5 * p))]) dX6_runScript_82 (by decide) rfl ?_
        refine mm_iload 0 dX6_runScript_84 rfl ?_
        refine mm_iconst (v := -1) dX6_runScript_86 rfl ?_
        refine mm_icmp_ne (tgt := 118) dX6_runScript_87 (by decide) (fun q => absurd q (by decide)) (fun _ => ?_)
        refine mm_aload_n 6 dX6_runScript_90 rfl rfl ?_
        refine mm_iload 1 dX6_runScript_91 rfl ?_
        refine mm_cV1i (dz := d - 1) dX6_runScript_93 rfl mzX4_code ml_X6_158 imX4_code (by omega) (sp_1 hp).1 ⟨rfl, rfl⟩ (cg_code hp (x := x) (by omega) (by omega)) (Nat.le_of_ble_eq_true rfl) ⟨Nat.le_refl _, Nat.le_refl _⟩ ?_
        refine mm_top (v := 1) (by rw [cN_off hz2 (by omega), show 53 + 5 * p + 1 = 54 + 5 * p by omega, show x * 3 = 3 * x by omega]; exact (congrFun (hAp _ (by omega) (by omega)) _).trans hc0) ?_
        refine mm_iconst (v := 1) dX6_runScript_96 rfl ?_
        refine mm_icmp_ne (tgt := 118) dX6_runScript_97 (by decide) (fun q => absurd q (by decide)) (fun _ => ?_)
        refine mm_aload_n 4 dX6_runScript_100 rfl rfl ?_
        refine mm_aload_n 5 dX6_runScript_101 rfl rfl ?_
        refine mm_aload_n 6 dX6_runScript_102 rfl rfl ?_
        refine mm_iload 1 dX6_runScript_103 rfl ?_
        refine mm_cV1i (dz := d - 1) dX6_runScript_105 rfl mzX4_first ml_X6_161 imX4_first (by omega) (sp_1 hp).1 ⟨rfl, rfl⟩ (cg_first hp (x := x) (by omega) (by omega)) (Nat.le_of_ble_eq_true rfl) ⟨Nat.le_refl _, Nat.le_refl _⟩ ?_
        refine mm_top (v := nI u) (by rw [cN_off hz2 (by omega), show 53 + 5 * p + 1 = 54 + 5 * p by omega, show x * 3 + 1 = 3 * x + 1 by omega]; exact (congrFun (hAp _ (by omega) (by omega)) _).trans hc1) ?_
        refine mm_aload_n 6 dX6_runScript_108 rfl rfl ?_
        refine mm_iload 1 dX6_runScript_109 rfl ?_
        refine mm_cV1i (dz := d - 1) dX6_runScript_111 rfl mzX4_second ml_X6_164 imX4_second (by omega) (sp_1 hp).1 ⟨rfl, rfl⟩ (cg_second hp (x := x) (by omega) (by omega)) (Nat.le_of_ble_eq_true rfl) ⟨Nat.le_refl _, Nat.le_refl _⟩ ?_
        refine mm_at (pc' := 114) rfl ?_
        refine mm_top (v := nI v) (by rw [cN_off hz2 (by omega), show 53 + 5 * p + 1 = 54 + 5 * p by omega, show x * 3 + 2 = 3 * x + 2 by omega]; exact (congrFun (hAp _ (by omega) (by omega)) _).trans hc2) ?_
        refine mm_cV3v (dz := d - 1) dX6_runScript_114 rfl mzX6_go ml_X6_167 imX6_go (by omega) so_171 ⟨rfl, rfl⟩ (cg_goY hz hW hJ (x := u) (y := v) (e := x) hm h1 hcc hu hv hxw hyh hb hbb h2 hq100 hD hK mm_up_at (by omega)) (Nat.le_of_ble_eq_true rfl) ⟨Nat.le_refl _, Nat.le_refl _⟩ ?_
        refine mm_vret dX6_runScript_117 rfl ⟨Nat.le_refl _, Nat.le_refl _⟩ ?_
        exact hk_
      · exfalso; omega
set_option maxRecDepth 100000 in
set_option maxHeartbeats 600000 in
theorem lg_end {g : mm_G} {d : Nat} {w h n l k o r : Nat} {A : mm_I} {N : Nat → Int32} (hz : zOK (w * h) n l k o r) (hW : mo_W N w h) {m p a j : Nat} {Aa : Nat → Int32} {CS : List Nat} (hm : m < n) (hp : p < 6) (ha : a ≤ 38) (hj : j < 50) {q : Nat} (hA : axA A p a Aa CS) (hpl : A (36 + 3 * m) 7 = nI a) (hq9 : q ≤ 900) (hd : 7 ≤ d) {Q : Option Value → mm_Sh → mm_I → Prop} (hk_ : Q none sh_S (cN (w * h) n l k o r (bsA A m) (upd N (630 + 40 * m + 6) (-1)))) : mm_Ex g zX6_runScript d (0, 0) (0, 0) sh_S (cN (w * h) n l k o r A N) 41 [(4, .int (nI (q))), (3, .int (nI (j))), (0, .ref 171), (1, .ref (36 + 3 * m)), (2, .ref (52 + 5 * p))] [] Q := by
  obtain ⟨hz1, hz2, hz3, hz4, hz5, hz6⟩ := id hz
  have hc := mo_W_c hW
  obtain ⟨-, -, hw1, hw2, hh1, hh2⟩ := id hW
  refine mm_iload 0 dX6_runScript_41 rfl ?_
  refine mm_sipush (v := 1000) dX6_runScript_43 rfl ?_
  refine mm_icmp_geN (q) (1000) (tgt := 147) dX6_runScript_46 (by decide) (by omega) (by omega) (fun c46 => ?_) (fun c46 => ?_)
  · exfalso; omega
  · refine mm_iload_n 1 dX6_runScript_49 rfl rfl ?_
    refine mm_bipush (v := 50) dX6_runScript_50 rfl ?_
    refine mm_icmp_geN (j) (50) (tgt := 147) dX6_runScript_52 (by decide) (by omega) (by omega) (fun c52 => ?_) (fun c52 => ?_)
    · exfalso; omega
    · refine mm_aload_n 3 dX6_runScript_55 rfl rfl ?_
      refine mm_geti dX6_runScript_56 rfl fk_X6_148 rfl (sm_1 (show m < 5 by omega)).1 ?_
      refine mm_top (v := nI (a)) ((s_m7 hz2 (by omega)).trans hpl) ?_
      refine mm_istore (ls' := [(5, .int (nI (a))), (4, .int (nI (q))), (3, .int (nI (j))), (0, .ref 171), (1, .ref (36 + 3 * m)), (2, .ref (52 + 5 * p))]) dX6_runScript_59 (by decide) rfl ?_
      refine mm_iload 0 dX6_runScript_61 rfl ?_
      refine mm_aload_n 5 dX6_runScript_63 rfl rfl ?_
      refine mm_cV0i (dz := d - 1) dX6_runScript_64 rfl mzX4_length ml_X6_151 imX4_length (by omega) (sp_1 hp).1 ⟨rfl, rfl⟩ (cg_len hp ((cN_off hz2 (by omega)).trans hA.1) (by omega) (by omega)) (Nat.le_of_ble_eq_true rfl) ⟨Nat.le_refl _, Nat.le_refl _⟩ ?_
      refine mm_icmp_ltN (a) (a) (tgt := 76) dX6_runScript_67 (by decide) (by omega) (by omega) (fun c67 => ?_) (fun c67 => ?_)
      · exfalso; omega
      · refine mm_aload_n 4 dX6_runScript_70 rfl rfl ?_
        refine mm_iconst (v := -1) dX6_runScript_71 rfl ?_
        refine mm_cV1v (dz := d - 1) dX6_runScript_72 rfl mzX1_beginScript ml_X6_100 imX1_beginScript (by omega) (sm_1 (show m < 5 by omega)).1 ⟨rfl, rfl⟩ (ct_bs (a := 36 + 3 * m) ⟨(sm_1 (show m < 5 by omega)).1, (sm_1 (show m < 5 by omega)).2.1.trans (by rw [show 37 + 3 * m = 36 + 3 * m + 1 by omega]), by have q := (sm_1 (show m < 5 by omega)).2.2.1; rw [show 37 + 3 * m = 36 + 3 * m + 1 by omega] at q; exact q⟩ (by omega)) (Nat.le_of_ble_eq_true rfl) ⟨Nat.le_refl _, Nat.le_refl _⟩ ?_
        refine mm_vret dX6_runScript_75 rfl ⟨Nat.le_refl _, Nat.le_refl _⟩ ?_
        rw [bsM_cN hz hm]; exact hk_
set_option maxRecDepth 100000 in
set_option maxHeartbeats 600000 in
theorem lg_fif {g : mm_G} {d : Nat} {w h n l k o r : Nat} {A : mm_I} {N : Nat → Int32} (hz : zOK (w * h) n l k o r) (hW : mo_W N w h) {m p q : Nat} (hm : m < n) (hp : p < 6) (hq9 : q ≤ 900) {Q : Option Value → mm_Sh → mm_I → Prop} (hk_ : Q none sh_S (cN (w * h) n l k o r A N)) : mm_Ex g zX6_runScript d (0, 0) (0, 0) sh_S (cN (w * h) n l k o r A N) 41 [(4, .int (nI (q))), (3, .int (nI (50))), (0, .ref 171), (1, .ref (36 + 3 * m)), (2, .ref (52 + 5 * p))] [] Q := by
  obtain ⟨hz1, hz2, hz3, hz4, hz5, hz6⟩ := id hz
  have hc := mo_W_c hW
  obtain ⟨-, -, hw1, hw2, hh1, hh2⟩ := id hW
  refine mm_iload 0 dX6_runScript_41 rfl ?_
  refine mm_sipush (v := 1000) dX6_runScript_43 rfl ?_
  refine mm_icmp_geN (q) (1000) (tgt := 147) dX6_runScript_46 (by decide) (by omega) (by omega) (fun c46 => ?_) (fun c46 => ?_)
  · refine mm_vret dX6_runScript_147 rfl ⟨Nat.le_refl _, Nat.le_refl _⟩ ?_
    exact hk_
  · refine mm_iload_n 1 dX6_runScript_49 rfl rfl ?_
    refine mm_bipush (v := 50) dX6_runScript_50 rfl ?_
    refine mm_icmp_ge (tgt := 147) dX6_runScript_52 (by decide) (fun _ => ?_) (fun q => absurd (by decide) q)
    refine mm_vret dX6_runScript_147 rfl ⟨Nat.le_refl _, Nat.le_refl _⟩ ?_
    exact hk_
