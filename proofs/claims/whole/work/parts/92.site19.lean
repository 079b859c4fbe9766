/-! THE CLASS: trim -/
set_option maxRecDepth 100000 in
set_option maxHeartbeats 600000 in
theorem cb_trim {g : mm_G} {d : Nat} {w h n l k o r : Nat} {A : mm_I} {N : Nat → Int32} (hz : zOK (w * h) n l k o r) (hW : mo_W N w h) {J : mm_I} {t : Nat} (ht : A 174 1 = nI t) (ht96 : t ≤ 96) {x : Int32} (hd : 2 ≤ d) : mm_Ci g zX11_trim d [.ref 0, .int (x)] sh_S (cN (w * h) n l k o r A N) ((op_trim t J x).1) (if sp_wi x 0 (nI t) then cN (w * h) n l k o r (mm_up A 174 1 x) N else cN (w * h) n l k o r A N) := by
  obtain ⟨hz1, hz2, hz3, hz4, hz5, hz6⟩ := id hz
  have hc := mo_W_c hW
  obtain ⟨-, -, hw1, hw2, hh1, hh2⟩ := id hW
  refine mm_Ci_of (fun Q hq => ?_)
  refine mm_begin (ls := [(0, .ref 0), (1, .int (x))]) (Nat.le_of_ble_eq_true rfl) rfl rfl ?_
  refine mm_iload_n 1 dX11_trim_0 rfl rfl ?_
  refine mm_iconst (v := 0) dX11_trim_1 rfl ?_
  refine mm_aload_n 0 dX11_trim_2 rfl rfl ?_
  refine mm_getr (b := 174) dX11_trim_3 rfl fk_X11_37 rfl so_0 sr_0_4 ?_
  refine mm_cV0i (dz := d - 1) dX11_trim_6 rfl mzX5_size ml_X11_236 imX5_size (by omega) so_174 ⟨rfl, rfl⟩ (ct_size rw_174) (Nat.le_of_ble_eq_true rfl) ⟨Nat.le_refl _, Nat.le_refl _⟩ ?_
  refine mm_top (v := nI (t)) (by rw [cN_hi hz2 (by decide)]; exact ht) ?_
  refine mm_cS3i (dz := d - 1) dX11_trim_9 rfl mzX11_within ml_X11_63 imX11_within (by omega) cx_within (Nat.le_of_ble_eq_true rfl) ⟨Nat.le_refl _, Nat.le_refl _⟩ ?_
  refine mm_if_neB (tgt := 18) dX11_trim_12 (by decide) (fun c12 => ?_) (fun c12 => ?_)
  · obtain ⟨y, hy, rfl⟩ := sp_wi_nat t (by omega) c12
    refine mm_aload_n 0 dX11_trim_18 rfl rfl ?_
    refine mm_getr (b := 174) dX11_trim_19 rfl fk_X11_37 rfl so_0 sr_0_4 ?_
    refine mm_iload_n 1 dX11_trim_22 rfl rfl ?_
    refine mm_cV1v (dz := d - 1) dX11_trim_23 rfl mzX5_shorten ml_X11_242 imX5_shorten (by omega) so_174 ⟨rfl, rfl⟩ (ct_shorten rw_174 t y (by rw [cN_hi hz2 (by decide)]; exact ht) (by omega) (by omega) (by omega)) (Nat.le_of_ble_eq_true rfl) ⟨Nat.le_refl _, Nat.le_refl _⟩ ?_
    refine mm_iload_n 1 dX11_trim_26 rfl rfl ?_
    refine mm_iret dX11_trim_27 rfl ⟨Nat.le_refl _, Nat.le_refl _⟩ ?_
    have e : op_trim t J (nI y) = (nI y, mm_up J 200 4 (nI y)) := if_neg (fun q => q c12)
    rw [if_pos c12, e] at hq; rw [cN_dh hz2 (by decide)]; exact hq
  · refine mm_ldc dX11_trim_15 rfl kc_X11_67 ?_
    refine mm_iret dX11_trim_17 rfl ⟨Nat.le_refl _, Nat.le_refl _⟩ ?_
    have e : op_trim t J x = (-1000000001, J) := if_pos c12
    rw [if_neg c12, e] at hq; exact hq
