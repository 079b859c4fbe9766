/-! THE CLASS: its LOADS -/
theorem lo_rg {c n l k o r : Nat} {b : Nat → Bool} {a i x : Nat} (h : lo_ c n l k o r b a i = some x) : x < 15 ∨ 30 ≤ x := by
  by_cases h2 : a = 2
  · subst h2; rw [lo_at2] at h
    have hh : ∀ i, i ≤ 8 → (lo_2 i).getD 0 < 15 := by decide
    by_cases q : i ≤ 8
    · have := hh i q; rw [h] at this; exact Or.inl this
    · unfold lo_2 at h; rw [if_neg (by omega), if_neg (by omega), if_neg (by omega), if_neg (by omega)] at h; exact absurd h (by simp)
  by_cases h4 : a = 4
  · subst h4; rw [lo_at4] at h
    obtain ⟨q, rfl⟩ := if_some h; omega
  by_cases h6 : a = 6
  · subst h6; rw [lo_at6] at h
    obtain ⟨q, rfl⟩ := if_some h; omega
  by_cases h8 : a = 8
  · subst h8; rw [lo_at8] at h
    obtain ⟨q, rfl⟩ := if_some h; omega
  by_cases h10 : a = 10
  · subst h10; rw [lo_at10] at h
    obtain ⟨q, rfl⟩ := if_some h; omega
  by_cases h12 : a = 12
  · subst h12; rw [lo_at12] at h
    obtain ⟨q, rfl⟩ := if_some h; omega
  by_cases h17 : a = 17
  · subst h17; rw [lo_at17] at h
    have hh : ∀ i, i ≤ 8 → (lo_17 i).getD 0 < 15 := by decide
    by_cases q : i ≤ 8
    · have := hh i q; rw [h] at this; exact Or.inl this
    · unfold lo_17 at h; rw [if_neg (by omega), if_neg (by omega), if_neg (by omega), if_neg (by omega), if_neg (by omega), if_neg (by omega), if_neg (by omega), if_neg (by omega)] at h; exact absurd h (by simp)
  by_cases h19 : a = 19
  · subst h19; rw [lo_at19] at h
    obtain ⟨q, rfl⟩ := if_some h; omega
  by_cases h21 : a = 21
  · subst h21; rw [lo_at21] at h
    obtain ⟨q, rfl⟩ := if_some h; omega
  by_cases h24 : a = 24
  · subst h24; rw [lo_at24] at h
    obtain ⟨q, rfl⟩ := if_some h; omega
  by_cases h26 : a = 26
  · subst h26; rw [lo_at26] at h
    obtain ⟨q, rfl⟩ := if_some h; omega
  by_cases h28 : a = 28
  · subst h28; rw [lo_at28] at h
    obtain ⟨q, rfl⟩ := if_some h; omega
  by_cases h30 : a = 30
  · subst h30; rw [lo_at30] at h
    obtain ⟨q, rfl⟩ := if_some h; omega
  by_cases h83 : a = 83
  · subst h83; rw [lo_at83] at h
    obtain ⟨q, rfl⟩ := if_some h; omega
  by_cases h85 : a = 85
  · subst h85; rw [lo_at85] at h
    obtain ⟨q, rfl⟩ := if_some h; omega
  rw [lo_ato h2 h4 h6 h8 h10 h12 h17 h19 h21 h24 h26 h28 h30 h83 h85] at h
  obtain ⟨-, rfl⟩ := if_some h; omega
theorem cJ_c {N N' : Nat → Int32} {A : Int32} {x y : Option Nat} (h : ∀ z, x = some z → N' z = N z) : cJ N' A x y = cJ N A x y := by
  cases x with
  | none => cases y <;> rfl
  | some z => exact h z rfl
theorem cn_no {n l k o r a i : Nat} (h : a = 19 ∨ a = 21 ∨ a = 24 ∨ a = 26 ∨ a = 28 ∨ a = 30 ∨ a = 83 ∨ a = 85) : cn_ n l k o r a i = none := by
  unfold cn_; rw [if_neg (by omega), if_neg (by omega), if_neg (by omega), if_neg (by omega), if_neg (by omega)]
theorem up_at {I : mm_I} {b i a j : Nat} {v : Int32} : mm_up I b i v a j = if a = b ∧ j = i then v else I a j := by
  unfold mm_up
  by_cases e : a = b
  · subst e
    by_cases e2 : j = i
    · rw [if_pos rfl, if_pos e2, if_pos ⟨rfl, e2⟩]
    · rw [if_pos rfl, if_neg e2, if_neg (fun q => e2 q.2)]
  · rw [if_neg e, if_neg (fun q => e q.1)]
theorem sn_c {N N' : Nat → Int32} {c : Nat} (hc : c ≤ 80) (h : ∀ z, 270 ≤ z → z < 590 → N' z = N z) : ∀ y, y < c → sn_ N' y = sn_ N y := fun y hy => by
  unfold sn_; rw [h _ (by omega) (by omega)]
def ld_ (N : Nat → Int32) (l : Nat) (p v : Int32) : Nat → Int32 := upd (upd (upd N (590 + l) p) (598 + l) v) 15 (nI (l + 1))
theorem ld_at {N : Nat → Int32} {l z : Nat} {p v : Int32} : ld_ N l p v z = if z = 15 then nI (l + 1) else if z = 598 + l then v else if z = 590 + l then p else N z := rfl
theorem cN_load {c n l k o r : Nat} (hz : zOK c n l k o r) (hl : l < 8) {A : mm_I} {N : Nat → Int32} {p v : Int32} : mm_up (mm_up (mm_up (mm_up (cN c n l k o r A N) 19 l p) 18 1 (nI (l + 1))) 21 l v) 20 1 (nI (l + 1)) = cN c n (l + 1) k o r A (ld_ N l p v) := by
  obtain ⟨z1, z2, z3, z4, z5, z6⟩ := id hz
  have hs := sn_c (N := N) (N' := ld_ N l p v) z1 (fun z h1 h2 => by rw [ld_at, if_neg (by omega), if_neg (by omega), if_neg (by omega)])
  funext a i
  rw [up_at, up_at, up_at, up_at]
  show _ = cJ (ld_ N l p v) (A a i) (lo_ c n (l + 1) k o r (sn_ (ld_ N l p v)) a i) (cn_ n (l + 1) k o r a i)
  by_cases e19 : a = 19
  · subst e19
    rw [if_neg (by omega), if_neg (by omega), if_neg (by omega), lo_at19]
    by_cases q : i = l
    · subst q; rw [if_pos ⟨rfl, rfl⟩, if_pos (by omega)]
      show p = ld_ N i p v (590 + i)
      rw [ld_at, if_neg (by omega), if_neg (by omega), if_pos rfl]
    · rw [if_neg (fun w => q w.2)]
      show cJ N (A 19 i) (lo_ c n l k o r (sn_ N) 19 i) (cn_ n l k o r 19 i) = _
      rw [lo_at19]
      by_cases q2 : i < l
      · rw [if_pos q2, if_pos (by omega)]
        show N (590 + i) = ld_ N l p v (590 + i)
        rw [ld_at, if_neg (by omega), if_neg (by omega), if_neg (by omega)]
      · rw [if_neg q2, if_neg (by omega), cn_no (by omega), cn_no (by omega)]; rfl
  by_cases e21 : a = 21
  · subst e21
    rw [if_neg (by omega)]
    by_cases q : i = l
    · subst q; rw [if_pos ⟨rfl, rfl⟩, lo_at21, if_pos (by omega)]
      show v = ld_ N i p v (598 + i)
      rw [ld_at, if_neg (by omega), if_pos rfl]
    · rw [if_neg (fun w => q w.2), if_neg (by omega), if_neg (by omega)]
      show cJ N (A 21 i) (lo_ c n l k o r (sn_ N) 21 i) (cn_ n l k o r 21 i) = _
      rw [lo_at21, lo_at21]
      by_cases q2 : i < l
      · rw [if_pos q2, if_pos (by omega)]
        show N (598 + i) = ld_ N l p v (598 + i)
        rw [ld_at, if_neg (by omega), if_neg (by omega), if_neg (by omega)]
      · rw [if_neg q2, if_neg (by omega), cn_no (by omega), cn_no (by omega)]; rfl
  have hlo : lo_ c n (l + 1) k o r (sn_ (ld_ N l p v)) a i = lo_ c n l k o r (sn_ N) a i := by
    by_cases e : a = 10
    · subst e; rw [lo_at10, lo_at10]
      by_cases q : i < 4 * c
      · rw [hs (i / 4) (by omega)]
      · rw [if_neg (fun w => q w.1), if_neg (fun w => q w.1)]
    · unfold lo_
      simp only [if_neg e, if_neg e19, if_neg e21]
  rw [hlo]
  by_cases ec : i = 1 ∧ (a = 18 ∨ a = 20)
  · have hlo2 : lo_ c n l k o r (sn_ N) a i = none := by
      rw [lo_ato (by omega) (by omega) (by omega) (by omega) (by omega) (by omega) (by omega) (by omega) (by omega) (by omega) (by omega) (by omega) (by omega) (by omega) (by omega), if_neg (by omega)]
    have hcn : cn_ n (l + 1) k o r a i = some (l + 1) := by unfold cn_; rw [if_pos ec]
    rw [hlo2, hcn]
    rcases ec with ⟨e1, e2 | e2⟩
    · rw [if_neg (by omega), if_neg (by omega), if_pos ⟨e2, e1⟩]; rfl
    · rw [if_pos ⟨e2, e1⟩]; rfl
  · rw [if_neg (fun w => ec ⟨w.2, Or.inr w.1⟩), if_neg (fun w => e21 w.1), if_neg (fun w => ec ⟨w.2, Or.inl w.1⟩), if_neg (fun w => e19 w.1)]
    have hcn : cn_ n (l + 1) k o r a i = cn_ n l k o r a i := by unfold cn_; rw [if_neg ec, if_neg ec]
    rw [hcn]
    refine (cJ_c (fun z hz2 => ?_)).symm
    have hiv := lo_iv hz hz2
    have hrg := lo_rg hz2
    rw [ld_at, if_neg (by omega), if_neg (fun q => ?_), if_neg (fun q => ?_)]
    · subst q; rw [iv_19 (by omega)] at hiv; exact e19 (congrArg Prod.fst hiv).symm
    · subst q; rw [iv_21 (by omega)] at hiv; exact e21 (congrArg Prod.fst hiv).symm
set_option maxRecDepth 100000 in
set_option maxHeartbeats 600000 in
theorem cg_loads {g : mm_G} {d : Nat} {w h n l k o r : Nat} {A : mm_I} {N : Nat → Int32} (hz : zOK (w * h) n l k o r) (hW : mo_W N w h) (hd : 1 ≤ d) : mm_Ci g zX3_loads d [.ref 17] sh_S (cN (w * h) n l k o r A N) (nI l) (cN (w * h) n l k o r A N) := by
  obtain ⟨hz1, hz2, hz3, hz4, hz5, hz6⟩ := id hz
  have hc := mo_W_c hW
  obtain ⟨-, -, hw1, hw2, hh1, hh2⟩ := id hW
  refine mm_Ci_of (fun Q hq => ?_)
  refine mm_begin (ls := [(0, .ref 17)]) (Nat.le_of_ble_eq_true rfl) rfl rfl ?_
  refine mm_aload_n 0 dX3_loads_0 rfl rfl ?_
  refine mm_getr (b := 18) dX3_loads_1 rfl fk_X3_14 rfl so_17 sr_17_8 ?_
  refine mm_cV0i (dz := d - 1) dX3_loads_4 rfl mzX5_size ml_X3_56 imX5_size (by omega) so_18 ⟨rfl, rfl⟩ (ct_size rw_18) (Nat.le_of_ble_eq_true rfl) ⟨Nat.le_refl _, Nat.le_refl _⟩ ?_
  refine mm_top (v := nI (l)) (s_l (by decide)) ?_
  refine mm_iret dX3_loads_7 rfl ⟨Nat.le_refl _, Nat.le_refl _⟩ ?_
  exact hq
set_option maxRecDepth 100000 in
set_option maxHeartbeats 600000 in
theorem cg_addLoad {g : mm_G} {d : Nat} {w h n l k o r : Nat} {A : mm_I} {N : Nat → Int32} (hz : zOK (w * h) n l k o r) (hW : mo_W N w h) {p v : Int32} (hl8 : l < 8) (hd : 2 ≤ d) : mm_Ci g zX3_addLoad d [.ref 17, .int (p), .int (v)] sh_S (cN (w * h) n l k o r A N) (nI l) (cN (w * h) n (l + 1) k o r A (ld_ N l p v)) := by
  obtain ⟨hz1, hz2, hz3, hz4, hz5, hz6⟩ := id hz
  have hc := mo_W_c hW
  obtain ⟨-, -, hw1, hw2, hh1, hh2⟩ := id hW
  have hW2 : mo_W (ld_ N l p v) w h := ⟨by rw [ld_at, if_neg (by omega), if_neg (by omega), if_neg (by omega)]; exact hW.1, by rw [ld_at, if_neg (by omega), if_neg (by omega), if_neg (by omega)]; exact hW.2.1, hW.2.2⟩
  refine mm_Ci_of (fun Q hq => ?_)
  refine mm_begin (ls := [(0, .ref 17), (1, .int (p)), (2, .int (v))]) (Nat.le_of_ble_eq_true rfl) rfl rfl ?_
  refine mm_aload_n 0 dX3_addLoad_0 rfl rfl ?_
  refine mm_getr (b := 18) dX3_addLoad_1 rfl fk_X3_14 rfl so_17 sr_17_8 ?_
  refine mm_iload_n 1 dX3_addLoad_4 rfl rfl ?_
  refine mm_cV1i (dz := d - 1) dX3_addLoad_5 rfl mzX5_add ml_X3_59 imX5_add (by omega) so_18 ⟨rfl, rfl⟩ (ct_add rw_18 l (s_l (by decide)) (by omega)) (Nat.le_of_ble_eq_true rfl) ⟨Nat.le_refl _, Nat.le_refl _⟩ ?_
  refine mm_pop dX3_addLoad_8 rfl ?_
  refine mm_aload_n 0 dX3_addLoad_9 rfl rfl ?_
  refine mm_getr (b := 20) dX3_addLoad_10 rfl fk_X3_20 rfl so_17 sr_17_9 ?_
  refine mm_iload_n 2 dX3_addLoad_13 rfl rfl ?_
  refine mm_at (pc' := 14) rfl ?_
  refine mm_cV1i (dz := d - 1) dX3_addLoad_14 rfl mzX5_add ml_X3_59 imX5_add (by omega) so_20 ⟨rfl, rfl⟩ (ct_add rw_20 l (by rw [mm_up_ne (by decide), mm_up_ne (by decide)]; exact s_l (by decide)) (by omega)) (Nat.le_of_ble_eq_true rfl) ⟨Nat.le_refl _, Nat.le_refl _⟩ ?_
  refine mm_pop dX3_addLoad_17 rfl ?_
  refine mm_mem (J := cN (w * h) n (l + 1) k o r A (ld_ N l p v)) (cN_load hz hl8) ?_
  refine mm_aload_n 0 dX3_addLoad_18 rfl rfl ?_
  refine mm_cV0i (dz := d - 1) dX3_addLoad_19 rfl mzX3_loads ml_X3_63 imX3_loads (by omega) so_17 ⟨rfl, rfl⟩ (cg_loads (w := w) (h := h) (l := l + 1) ⟨hz1, hz2, by omega, hz4, hz5, hz6⟩ hW2 (by omega)) (Nat.le_of_ble_eq_true rfl) ⟨Nat.le_refl _, Nat.le_refl _⟩ ?_
  refine mm_iconst (v := 1) dX3_addLoad_22 rfl ?_
  refine mm_isubN (l + 1) (1) dX3_addLoad_23 (by omega) ?_
  refine mm_iret dX3_addLoad_24 rfl ⟨Nat.le_refl _, Nat.le_refl _⟩ ?_
  exact hq
set_option maxRecDepth 100000 in
set_option maxHeartbeats 600000 in
theorem cb_load {g : mm_G} {d : Nat} {w h n l k o r : Nat} {A : mm_I} {N : Nat → Int32} (hz : zOK (w * h) n l k o r) (hW : mo_W N w h) {J : mm_I} (hJ : J 201 = N) (hD : mo_D N n) (hK : mo_K N (w * h)) (hl : N 15 = nI l) {p v : Int32} (hd : 3 ≤ d) : mm_Ci g zX11_load d [.ref 0, .int (p), .int (v)] sh_S (cN (w * h) n l k o r A N) ((op_load l J p v).1) (cN (w * h) n (vv ((op_load l J p v).2 201 15)) k o r A ((op_load l J p v).2 201)) := by
  obtain ⟨hz1, hz2, hz3, hz4, hz5, hz6⟩ := id hz
  have hc := mo_W_c hW
  obtain ⟨-, -, hw1, hw2, hh1, hh2⟩ := id hW
  refine mm_Ci_of (fun Q hq => ?_)
  refine mm_begin (ls := [(0, .ref 0), (1, .int (p)), (2, .int (v))]) (Nat.le_of_ble_eq_true rfl) rfl rfl ?_
  refine mm_iload_n 1 dX11_load_0 rfl rfl ?_
  refine mm_iconst (v := 1) dX11_load_1 rfl ?_
  refine mm_bipush (v := 50) dX11_load_2 rfl ?_
  refine mm_cS3i (dz := d - 1) dX11_load_4 rfl mzX11_within ml_X11_63 imX11_within (by omega) cx_within (Nat.le_of_ble_eq_true rfl) ⟨Nat.le_refl _, Nat.le_refl _⟩ ?_
  refine mm_if_eqB (tgt := 20) dX11_load_7 (by decide) (fun c7 => ?_) (fun c7 => ?_)
  · refine mm_ldc dX11_load_20 rfl kc_X11_67 ?_
    refine mm_iret dX11_load_22 rfl ⟨Nat.le_refl _, Nat.le_refl _⟩ ?_
    subst hJ; exact mm_l2c (F := fun N => cN (w * h) n (vv (N 15)) k o r A N) (by unfold op_load; rw [if_pos (by first | exact Or.inl c7 | exact Or.inr (c17))]) (show cN (w * h) n (vv (J 201 15)) k o r A (J 201) = _ by rw [hl, vv_nI (by omega)]) hq
  · refine mm_iload_n 2 dX11_load_10 rfl rfl ?_
    refine mm_iconst (v := 1) dX11_load_11 rfl ?_
    refine mm_bipush (v := 99) dX11_load_12 rfl ?_
    refine mm_cS3i (dz := d - 1) dX11_load_14 rfl mzX11_within ml_X11_63 imX11_within (by omega) cx_within (Nat.le_of_ble_eq_true rfl) ⟨Nat.le_refl _, Nat.le_refl _⟩ ?_
    refine mm_if_neB (tgt := 23) dX11_load_17 (by decide) (fun c17 => ?_) (fun c17 => ?_)
    · refine mm_aload_n 0 dX11_load_23 rfl rfl ?_
      refine mm_getr (b := 1) dX11_load_24 rfl fk_X11_10 rfl so_0 sr_0_0 ?_
      refine mm_getr (b := 17) dX11_load_27 rfl fk_X11_158 rfl so_1 sr_1_1 ?_
      refine mm_cV0i (dz := d - 1) dX11_load_30 rfl mzX3_loads ml_X11_167 imX3_loads (by omega) so_17 ⟨rfl, rfl⟩ (cg_loads hz hW (by omega)) (Nat.le_of_ble_eq_true rfl) ⟨Nat.le_refl _, Nat.le_refl _⟩ ?_
      refine mm_bipush (v := 8) dX11_load_33 rfl ?_
      refine mm_icmp_ltN (l) (8) (tgt := 41) dX11_load_35 (by decide) (by omega) (by omega) (fun c35 => ?_) (fun c35 => ?_)
      · refine mm_aload_n 0 dX11_load_41 rfl rfl ?_
        refine mm_getr (b := 1) dX11_load_42 rfl fk_X11_10 rfl so_0 sr_0_0 ?_
        refine mm_getr (b := 17) dX11_load_45 rfl fk_X11_158 rfl so_1 sr_1_1 ?_
        refine mm_iload_n 1 dX11_load_48 rfl rfl ?_
        refine mm_iload_n 2 dX11_load_49 rfl rfl ?_
        refine mm_cV2i (dz := d - 1) dX11_load_50 rfl mzX3_addLoad ml_X11_171 imX3_addLoad (by omega) so_17 ⟨rfl, rfl⟩ (cg_addLoad hz hW (by omega) (by omega)) (Nat.le_of_ble_eq_true rfl) ⟨Nat.le_refl _, Nat.le_refl _⟩ ?_
        refine mm_iret dX11_load_53 rfl ⟨Nat.le_refl _, Nat.le_refl _⟩ ?_
        subst hJ; exact mm_l2c (F := fun N => cN (w * h) n (vv (N 15)) k o r A N) (by unfold op_load; rw [if_neg (by intro q; rcases q with q | q; exact q c7; exact q c17), if_neg (by omega)]) (by rw [up_201, up_201, up_201]; show cN (w * h) n (vv (nI (l + 1))) k o r A (ld_ (J 201) l p v) = _; rw [vv_nI (by omega)]) hq
      · refine mm_ldc dX11_load_38 rfl kc_X11_170 ?_
        refine mm_iret dX11_load_40 rfl ⟨Nat.le_refl _, Nat.le_refl _⟩ ?_
        subst hJ; exact mm_l2c (F := fun N => cN (w * h) n (vv (N 15)) k o r A N) (by unfold op_load; rw [if_neg (by intro q; rcases q with q | q; exact q c7; exact q c17), if_pos (by omega)]) (show cN (w * h) n (vv (J 201 15)) k o r A (J 201) = _ by rw [hl, vv_nI (by omega)]) hq
    · refine mm_ldc dX11_load_20 rfl kc_X11_67 ?_
      refine mm_iret dX11_load_22 rfl ⟨Nat.le_refl _, Nat.le_refl _⟩ ?_
      subst hJ; exact mm_l2c (F := fun N => cN (w * h) n (vv (N 15)) k o r A N) (by unfold op_load; rw [if_pos (by first | exact Or.inl c7 | exact Or.inr (c17))]) (show cN (w * h) n (vv (J 201 15)) k o r A (J 201) = _ by rw [hl, vv_nI (by omega)]) hq
