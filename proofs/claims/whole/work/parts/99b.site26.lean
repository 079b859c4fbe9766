/-! THE CLASS: land -/
def lwN (N : Nat → Int32) (w : Nat) (c : Int32) : Nat → (Nat → Int32)
  | 0 => N
  | m + 1 => if 3 ≤ sp_ap w c (N (630 + 40 * m + 1)) then lwN N w c m else upd (lwN N w c m) (630 + 40 * m + 3) (sp_lw N w c m)
def lcN (N : Nat → Int32) (w : Nat) (c : Int32) : Nat → (Nat → Int32)
  | 0 => N
  | k + 1 => if N (30 + k) = 0 ∧ ¬ 1 < sp_ap w c (nI k) then upd (upd (lcN N w c k) (110 + k) (N (110 + k) - N (110 + k) / 2)) 13 (lcN N w c k 13 + N (110 + k) / 2) else lcN N w c k
theorem lw_201 {J : mm_I} {w : Nat} {c : Int32} : ∀ m, op_lw J w c m 201 = lwN (J 201) w c m := by
  intro m
  induction m with
  | zero => rfl
  | succ m ih =>
    unfold op_lw lwN
    by_cases h : 3 ≤ sp_ap w c (J 201 (630 + 40 * m + 1))
    · rw [if_pos h, if_pos h]; exact ih
    · rw [if_neg h, if_neg h, up_201, ih]
theorem lc_201 {J : mm_I} {w : Nat} {c : Int32} : ∀ k, op_lc J w c k 201 = lcN (J 201) w c k := by
  intro k
  induction k with
  | zero => rfl
  | succ k ih =>
    unfold op_lc lcN
    by_cases h : J 201 (30 + k) = 0 ∧ ¬ 1 < sp_ap w c (nI k)
    · rw [if_pos h, if_pos h, up_201, up_201, ih]
    · rw [if_neg h, if_neg h]; exact ih
theorem lwN_ne {N : Nat → Int32} {w : Nat} {c : Int32} {x : Nat} : ∀ m, (∀ q, q < m → ¬ x = 630 + 40 * q + 3) → lwN N w c m x = N x := by
  intro m
  induction m with
  | zero => intro _; rfl
  | succ m ih =>
    intro h
    unfold lwN
    by_cases q : 3 ≤ sp_ap w c (N (630 + 40 * m + 1))
    · rw [if_pos q]; exact ih (fun a b => h a (by omega))
    · rw [if_neg q]; unfold upd; rw [if_neg (h m (by omega))]; exact ih (fun a b => h a (by omega))
theorem lcN_ne {N : Nat → Int32} {w : Nat} {c : Int32} {x : Nat} (h13 : ¬ x = 13) : ∀ k, (∀ q, q < k → ¬ x = 110 + q) → lcN N w c k x = N x := by
  intro k
  induction k with
  | zero => intro _; rfl
  | succ k ih =>
    intro h
    unfold lcN
    by_cases q : N (30 + k) = 0 ∧ ¬ 1 < sp_ap w c (nI k)
    · rw [if_pos q]; unfold upd; rw [if_neg h13, if_neg (h k (by omega))]; exact ih (fun a b => h a (by omega))
    · rw [if_neg q]; exact ih (fun a b => h a (by omega))
theorem lwN_c {N M : Nat → Int32} {w : Nat} {c : Int32} (h : ∀ x, 590 ≤ x → N x = M x) {x : Nat} (hx : 590 ≤ x) : ∀ m, lwN N w c m x = lwN M w c m x := by
  intro m
  induction m with
  | zero => exact h x hx
  | succ m ih =>
    unfold lwN sp_lw
    rw [h (630 + 40 * m + 1) (by omega), h (630 + 40 * m + 3) (by omega)]
    by_cases q : 3 ≤ sp_ap w c (M (630 + 40 * m + 1))
    · rw [if_pos q, if_pos q]; exact ih
    · rw [if_neg q, if_neg q]; unfold upd
      by_cases e : x = 630 + 40 * m + 3
      · rw [if_pos e, if_pos e]
      · rw [if_neg e, if_neg e]; exact ih
theorem lcN_c {N M : Nat → Int32} {w : Nat} {c : Int32} (h : ∀ x, x < 590 → N x = M x) : ∀ k, k ≤ 80 → ∀ x, x < 590 → lcN N w c k x = lcN M w c k x := by
  intro k
  induction k with
  | zero => intro _ x hx; exact h x hx
  | succ k ih =>
    intro hk x hx
    unfold lcN
    rw [h (30 + k) (by omega), h (110 + k) (by omega)]
    by_cases q : M (30 + k) = 0 ∧ ¬ 1 < sp_ap w c (nI k)
    · rw [if_pos q, if_pos q]; unfold upd
      rw [ih (by omega) 13 (by omega)]
      by_cases e : x = 13
      · rw [if_pos e, if_pos e]
      · rw [if_neg e, if_neg e]
        by_cases e2 : x = 110 + k
        · rw [if_pos e2, if_pos e2]
        · rw [if_neg e2, if_neg e2]; exact ih (by omega) x hx
    · rw [if_neg q, if_neg q]; exact ih (by omega) x hx
theorem land_N {J : mm_I} {w c : Nat} {b p : Int32} {n : Nat} (hc : c ≤ 80) : op_lp (op_lc (op_lw J w b n) w b c) p 201 = lwN (upd (lcN (J 201) w b c) 12 (sp_min 9999 (lcN (J 201) w b c 12 + p))) w b n := by
  unfold op_lp
  rw [up_201, lc_201, lw_201]
  have h1 : ∀ x, x < 590 → lwN (J 201) w b n x = J 201 x := fun x hx => lwN_ne n (fun q _ => by omega)
  have h12 : lcN (lwN (J 201) w b n) w b c 12 = lcN (J 201) w b c 12 := lcN_c h1 c hc 12 (by decide)
  funext x
  by_cases hx : x < 590
  · rw [lwN_ne n (fun q _ => by omega)]
    unfold upd
    by_cases e : x = 12
    · rw [if_pos e, if_pos e, h12]
    · rw [if_neg e, if_neg e]; exact lcN_c h1 c hc x hx
  · unfold upd
    rw [if_neg (by omega), lcN_ne (by omega) c (fun q _ => by omega)]
    refine lwN_c (fun y hy => ?_) (by omega) n
    rw [if_neg (by omega), lcN_ne (by omega) c (fun q _ => by omega)]
set_option maxRecDepth 100000 in
set_option maxHeartbeats 600000 in
theorem dk_bl {g : mm_G} {d : Nat} {w h n l k o r : Nat} {A : mm_I} {N : Nat → Int32} (hz : zOK (w * h) n l k o r) (hW : mo_W N w h) {Q : Option Value → mm_Sh → mm_I → Prop} {b : Nat} (hb : b < w * h) (hd : 2 ≤ d) (hq : Q none sh_S (cN (w * h) n l k o r A (lcN N w (nI b) (w * h)))) : ∀ (m : Nat) (i : Nat), (i ≤ w * h) → w * h - i < m → mm_Ex g zX0_blast d (0, 0) (0, 0) sh_S (cN (w * h) n l k o r A (lcN N w (nI b) i)) 2 [(2, .int (nI (i))), (0, .ref 2), (1, .int (nI (b)))] [] Q := by
  obtain ⟨hz1, hz2, hz3, hz4, hz5, hz6⟩ := id hz
  have hc := mo_W_c hW
  obtain ⟨-, -, hw1, hw2, hh1, hh2⟩ := id hW
  intro m
  induction m with
  | zero => intro i hi hmz; exact absurd hmz (Nat.not_lt_zero _)
  | succ m ih =>
    intro i hi hmz
    have hWi := (show mo_W (lcN N w (nI b) i) w h from ⟨(lcN_ne (by decide) i (fun q _ => by omega)).trans hW.1, (lcN_ne (by decide) i (fun q _ => by omega)).trans hW.2.1, hW.2.2⟩)
    have hple := apN_le (w := w) (h := h) (a := i) (b := b) hw1 hw2 hh2
    refine mm_iload_n 0 dX0_blast_2 rfl rfl ?_
    refine mm_aload_n 1 dX0_blast_3 rfl rfl ?_
    refine mm_cV0i (dz := d - 1) dX0_blast_4 rfl mzX0_cells ml_X0_49 imX0_cells (by omega) so_2 ⟨rfl, rfl⟩ (cg_cells hz hWi) (Nat.le_of_ble_eq_true rfl) ⟨Nat.le_refl _, Nat.le_refl _⟩ ?_
    refine mm_icmp_geN (i) (w * h) (tgt := 76) dX0_blast_7 (by decide) (by omega) (by omega) (fun c7 => ?_) (fun c7 => ?_)
    · refine mm_vret dX0_blast_76 rfl ⟨Nat.le_refl _, Nat.le_refl _⟩ ?_
      have e : i = w * h := by omega
      subst e; exact hq
    · refine mm_aload_n 1 dX0_blast_10 rfl rfl ?_
      refine mm_getr (b := 3) dX0_blast_11 rfl fk_X0_14 rfl so_2 sr_2_2 ?_
      refine mm_iload_n 0 dX0_blast_14 rfl rfl ?_
      refine mm_cV1i (dz := d - 1) dX0_blast_15 rfl mzX5_at ml_X0_73 imX5_at (by omega) so_3 ⟨rfl, rfl⟩ (ct_at rw_3 (i) (by omega)) (Nat.le_of_ble_eq_true rfl) ⟨Nat.le_refl _, Nat.le_refl _⟩ ?_
      refine mm_top (v := N (30 + i)) ((s_kind (by omega)).trans (lcN_ne (by omega) i (fun q _ => by omega))) ?_
      refine mm_if_ne (tgt := 70) dX0_blast_18 (by decide) (fun c18 => ?_) (fun c18 => ?_)
      · refine mm_iincN (ls' := [(2, .int (nI (i + 1))), (0, .ref 2), (1, .int (nI (b)))]) 0 (i) 1 dX0_blast_70 rfl rfl (by decide) rfl ?_
        refine mm_goto (tgt := 2) dX0_blast_73 (by decide) ?_
        have hh := ih (i + 1) (by omega) (by omega)
        have hap := ap_n (a := b) (b := i) hw1 hw2 hh2 hb (by omega) hc.2
        rw [show lcN N w (nI b) (i + 1) = (lcN N w (nI b) i) from if_neg (by rintro ⟨q1, q2⟩; first | exact c18 q1 | (rw [hap, apN_c] at q2; exact q2 ((nI_ltI (a := 1) (by omega) (by omega)).mpr (by omega))))] at hh
        exact mm_sub [0, 1, 2] rfl hh
      · refine mm_aload_n 1 dX0_blast_21 rfl rfl ?_
        refine mm_iload_n 0 dX0_blast_22 rfl rfl ?_
        refine mm_iload_n 2 dX0_blast_23 rfl rfl ?_
        have hple2 := hple (by omega) hb
        refine mm_cV2i (dz := d - 1) dX0_blast_24 rfl mzX0_apart ml_X0_112 imX0_apart (by omega) so_2 ⟨rfl, rfl⟩ (cg_apart hz hWi (a := i) (b := b) (by omega) (by omega) (by omega)) (Nat.le_of_ble_eq_true rfl) ⟨Nat.le_refl _, Nat.le_refl _⟩ ?_
        refine mm_iconst (v := 1) dX0_blast_27 rfl ?_
        refine mm_icmp_gtN (apN w i b) (1) (tgt := 70) dX0_blast_28 (by decide) (by omega) (by omega) (fun c28 => ?_) (fun c28 => ?_)
        · refine mm_iincN (ls' := [(2, .int (nI (i + 1))), (0, .ref 2), (1, .int (nI (b)))]) 0 (i) 1 dX0_blast_70 rfl rfl (by decide) rfl ?_
          refine mm_goto (tgt := 2) dX0_blast_73 (by decide) ?_
          have hh := ih (i + 1) (by omega) (by omega)
          have hap := ap_n (a := b) (b := i) hw1 hw2 hh2 hb (by omega) hc.2
          rw [show lcN N w (nI b) (i + 1) = (lcN N w (nI b) i) from if_neg (by rintro ⟨q1, q2⟩; first | exact c18 q1 | (rw [hap, apN_c] at q2; exact q2 ((nI_ltI (a := 1) (by omega) (by omega)).mpr (by omega))))] at hh
          exact mm_sub [0, 1, 2] rfl hh
        · refine mm_aload_n 1 dX0_blast_31 rfl rfl ?_
          refine mm_getr (b := 5) dX0_blast_32 rfl fk_X0_20 rfl so_2 sr_2_3 ?_
          refine mm_iload_n 0 dX0_blast_35 rfl rfl ?_
          refine mm_cV1i (dz := d - 1) dX0_blast_36 rfl mzX5_at ml_X0_73 imX5_at (by omega) so_5 ⟨rfl, rfl⟩ (ct_at rw_5 (i) (by omega)) (Nat.le_of_ble_eq_true rfl) ⟨Nat.le_refl _, Nat.le_refl _⟩ ?_
          refine mm_top (v := N (110 + i)) ((s_dust (by omega)).trans (lcN_ne (by omega) i (fun q _ => by omega))) ?_
          refine mm_iconst (v := 2) dX0_blast_39 rfl ?_
          refine mm_idiv dX0_blast_40 (by decide) ?_
          refine mm_istore_n (ls' := [(3, .int ((N (110 + i)) / (2))), (2, .int (nI (i))), (0, .ref 2), (1, .int (nI (b)))]) dX0_blast_41 rfl (by decide) rfl ?_
          refine mm_at (pc' := 42) rfl ?_
          refine mm_aload_n 2 dX0_blast_42 rfl rfl ?_
          refine mm_getr (b := 5) dX0_blast_43 rfl fk_X0_20 rfl so_2 sr_2_3 ?_
          refine mm_iload_n 1 dX0_blast_46 rfl rfl ?_
          refine mm_aload_n 2 dX0_blast_47 rfl rfl ?_
          refine mm_getr (b := 5) dX0_blast_48 rfl fk_X0_20 rfl so_2 sr_2_3 ?_
          refine mm_iload_n 1 dX0_blast_51 rfl rfl ?_
          refine mm_cV1i (dz := d - 1) dX0_blast_52 rfl mzX5_at ml_X0_73 imX5_at (by omega) so_5 ⟨rfl, rfl⟩ (ct_at rw_5 (i) (by omega)) (Nat.le_of_ble_eq_true rfl) ⟨Nat.le_refl _, Nat.le_refl _⟩ ?_
          refine mm_top (v := N (110 + i)) ((s_dust (by omega)).trans (lcN_ne (by omega) i (fun q _ => by omega))) ?_
          refine mm_iload_n 0 dX0_blast_55 rfl rfl ?_
          refine mm_at (pc' := 56) rfl ?_
          refine mm_isub dX0_blast_56 ?_
          refine mm_cV2v (dz := d - 1) dX0_blast_57 rfl mzX5_set ml_X0_56 imX5_set (by omega) so_5 ⟨rfl, rfl⟩ (ct_set rw_5 (i) (by omega)) (Nat.le_of_ble_eq_true rfl) ⟨Nat.le_refl _, Nat.le_refl _⟩ ?_
          refine mm_aload_n 2 dX0_blast_60 rfl rfl ?_
          refine mm_dup dX0_blast_61 rfl ?_
          refine mm_geti dX0_blast_62 rfl fk_X0_62 rfl so_2 ?_
          refine mm_top (v := (cN (w * h) n l k o r A (lcN N w (nI b) i)) 2 8) (by rw [mm_up_ne (by decide)]) ?_
          refine mm_top (v := lcN N w (nI b) i 13) (cN_r (lo_at2.trans rfl)) ?_
          refine mm_iload_n 0 dX0_blast_65 rfl rfl ?_
          refine mm_iadd dX0_blast_66 ?_
          refine mm_puti dX0_blast_67 rfl fk_X0_62 rfl fv_0_8 so_2 ?_
          refine mm_at (pc' := 70) rfl ?_
          refine mm_iincN (ls' := [(2, .int (nI (i + 1))), (3, .int ((N (110 + i)) / (2))), (0, .ref 2), (1, .int (nI (b)))]) 1 (i) 1 dX0_blast_70 rfl rfl (by decide) rfl ?_
          refine mm_goto (tgt := 2) dX0_blast_73 (by decide) ?_
          have hh := ih (i + 1) (by omega) (by omega)
          have hap := ap_n (a := b) (b := i) hw1 hw2 hh2 hb (by omega) hc.2
          rw [show lcN N w (nI b) (i + 1) = (upd (upd (lcN N w (nI b) i) (110 + i) (N (110 + i) - N (110 + i) / 2)) 13 (lcN N w (nI b) i 13 + N (110 + i) / 2)) from if_pos ⟨c18, by rw [hap, apN_c]; exact fun q => absurd ((nI_ltI (a := 1) (by omega) (by omega)).mp q) (by omega)⟩] at hh
          rw [cN_up hz (x := 110 + i) (lo_at6.trans (if_pos (by omega))) (sn_up (by omega) hz.1), cN_up hz (x := 13) (lo_at2.trans rfl) (sn_up (by omega) hz.1)]
          exact mm_sub [0, 2, 3] rfl hh
set_option maxRecDepth 100000 in
set_option maxHeartbeats 600000 in
theorem cg_blast {g : mm_G} {d : Nat} {w h n l k o r : Nat} {A : mm_I} {N : Nat → Int32} (hz : zOK (w * h) n l k o r) (hW : mo_W N w h) {b : Nat} (hb : b < w * h) (hd : 2 ≤ d) : mm_Cv g zX0_blast d [.ref 2, .int (nI (b))] sh_S (cN (w * h) n l k o r A N) (cN (w * h) n l k o r A (lcN N w (nI b) (w * h))) := by
  obtain ⟨hz1, hz2, hz3, hz4, hz5, hz6⟩ := id hz
  have hc := mo_W_c hW
  obtain ⟨-, -, hw1, hw2, hh1, hh2⟩ := id hW
  refine mm_Cv_of (fun Q hq => ?_)
  refine mm_begin (ls := [(0, .ref 2), (1, .int (nI (b)))]) (Nat.le_of_ble_eq_true rfl) rfl rfl ?_
  refine mm_iconst (v := 0) dX0_blast_0 rfl ?_
  refine mm_istore_n (ls' := [(2, .int (0)), (0, .ref 2), (1, .int (nI (b)))]) dX0_blast_1 rfl (by decide) rfl ?_
  exact mm_sub [0, 1, 2] rfl (dk_bl hz hW hb hd hq (w * h + 1) 0 (by omega) (by omega))
