/-! THE CLASS: its WORKS, calls -/
theorem s_k {c n l k o r : Nat} {A : mm_I} {N : Nat → Int32} {a : Nat} (ha : a = 23 ∨ a = 25 ∨ a = 27 ∨ a = 29) : cN c n l k o r A N a 1 = nI k := by
  refine cN_c ?_ (by unfold cn_; rw [if_neg (by omega), if_pos ⟨rfl, ha⟩])
  rw [lo_ato (by omega) (by omega) (by omega) (by omega) (by omega) (by omega) (by omega) (by omega) (by omega) (by omega) (by omega) (by omega) (by omega) (by omega) (by omega), if_neg (by omega)]
set_option maxRecDepth 100000 in
set_option maxHeartbeats 600000 in
theorem cg_works {g : mm_G} {d : Nat} {w h n l k o r : Nat} {A : mm_I} {N : Nat → Int32} (hz : zOK (w * h) n l k o r) (hW : mo_W N w h) (hd : 1 ≤ d) : mm_Ci g zX10_many d [.ref 22] sh_S (cN (w * h) n l k o r A N) (nI k) (cN (w * h) n l k o r A N) := by
  obtain ⟨hz1, hz2, hz3, hz4, hz5, hz6⟩ := id hz
  have hc := mo_W_c hW
  obtain ⟨-, -, hw1, hw2, hh1, hh2⟩ := id hW
  refine mm_Ci_of (fun Q hq => ?_)
  refine mm_begin (ls := [(0, .ref 22)]) (Nat.le_of_ble_eq_true rfl) rfl rfl ?_
  refine mm_aload_n 0 dX10_many_0 rfl rfl ?_
  refine mm_getr (b := 23) dX10_many_1 rfl fk_X10_14 rfl so_22 sr_22_0 ?_
  refine mm_cV0i (dz := d - 1) dX10_many_4 rfl mzX5_size ml_X10_42 imX5_size (by omega) so_23 ⟨rfl, rfl⟩ (ct_size rw_23) (Nat.le_of_ble_eq_true rfl) ⟨Nat.le_refl _, Nat.le_refl _⟩ ?_
  refine mm_top (v := nI (k)) (s_k (by decide)) ?_
  refine mm_iret dX10_many_7 rfl ⟨Nat.le_refl _, Nat.le_refl _⟩ ?_
  exact hq
set_option maxRecDepth 100000 in
set_option maxHeartbeats 600000 in
theorem cg_addWork {g : mm_G} {d : Nat} {w h n l k o r : Nat} {A : mm_I} {N : Nat → Int32} (hz : zOK (w * h) n l k o r) (hW : mo_W N w h) {p0 p1 p2 p3 : Int32} (hk6 : k < 6) (hd : 2 ≤ d) : mm_Ci g zX10_addWork d [.ref 22, .int (p0), .int (p1), .int (p2), .int (p3)] sh_S (cN (w * h) n l k o r A N) (nI k) (cN (w * h) n l (k + 1) o r A (wk_ N k p0 p1 p2 p3)) := by
  obtain ⟨hz1, hz2, hz3, hz4, hz5, hz6⟩ := id hz
  have hc := mo_W_c hW
  obtain ⟨-, -, hw1, hw2, hh1, hh2⟩ := id hW
  have hW2 : mo_W (wk_ N k p0 p1 p2 p3) w h := ⟨by rw [wk_at, if_neg (by omega), if_neg (by omega), if_neg (by omega), if_neg (by omega), if_neg (by omega)]; exact hW.1, by rw [wk_at, if_neg (by omega), if_neg (by omega), if_neg (by omega), if_neg (by omega), if_neg (by omega)]; exact hW.2.1, hW.2.2⟩
  refine mm_Ci_of (fun Q hq => ?_)
  refine mm_begin (ls := [(0, .ref 22), (1, .int (p0)), (2, .int (p1)), (3, .int (p2)), (4, .int (p3))]) (Nat.le_of_ble_eq_true rfl) rfl rfl ?_
  refine mm_aload_n 0 dX10_addWork_0 rfl rfl ?_
  refine mm_getr (b := 23) dX10_addWork_1 rfl fk_X10_14 rfl so_22 sr_22_0 ?_
  refine mm_iload_n 1 dX10_addWork_4 rfl rfl ?_
  refine mm_cV1i (dz := d - 1) dX10_addWork_5 rfl mzX5_add ml_X10_46 imX5_add (by omega) so_23 ⟨rfl, rfl⟩ (ct_add rw_23 k (by exact s_k (by decide)) (by omega)) (Nat.le_of_ble_eq_true rfl) ⟨Nat.le_refl _, Nat.le_refl _⟩ ?_
  refine mm_pop dX10_addWork_8 rfl ?_
  refine mm_aload_n 0 dX10_addWork_9 rfl rfl ?_
  refine mm_getr (b := 25) dX10_addWork_10 rfl fk_X10_20 rfl so_22 sr_22_1 ?_
  refine mm_iload_n 2 dX10_addWork_13 rfl rfl ?_
  refine mm_at (pc' := 14) rfl ?_
  refine mm_cV1i (dz := d - 1) dX10_addWork_14 rfl mzX5_add ml_X10_46 imX5_add (by omega) so_25 ⟨rfl, rfl⟩ (ct_add rw_25 k (by rw [mm_up_ne (by decide), mm_up_ne (by decide)]; exact s_k (by decide)) (by omega)) (Nat.le_of_ble_eq_true rfl) ⟨Nat.le_refl _, Nat.le_refl _⟩ ?_
  refine mm_pop dX10_addWork_17 rfl ?_
  refine mm_aload_n 0 dX10_addWork_18 rfl rfl ?_
  refine mm_getr (b := 27) dX10_addWork_19 rfl fk_X10_23 rfl so_22 sr_22_2 ?_
  refine mm_iload_n 3 dX10_addWork_22 rfl rfl ?_
  refine mm_cV1i (dz := d - 1) dX10_addWork_23 rfl mzX5_add ml_X10_46 imX5_add (by omega) so_27 ⟨rfl, rfl⟩ (ct_add rw_27 k (by rw [mm_up_ne (by decide), mm_up_ne (by decide), mm_up_ne (by decide), mm_up_ne (by decide)]; exact s_k (by decide)) (by omega)) (Nat.le_of_ble_eq_true rfl) ⟨Nat.le_refl _, Nat.le_refl _⟩ ?_
  refine mm_pop dX10_addWork_26 rfl ?_
  refine mm_aload_n 0 dX10_addWork_27 rfl rfl ?_
  refine mm_at (pc' := 28) rfl ?_
  refine mm_getr (b := 29) dX10_addWork_28 rfl fk_X10_26 rfl so_22 sr_22_3 ?_
  refine mm_iload 4 dX10_addWork_31 rfl ?_
  refine mm_cV1i (dz := d - 1) dX10_addWork_33 rfl mzX5_add ml_X10_46 imX5_add (by omega) so_29 ⟨rfl, rfl⟩ (ct_add rw_29 k (by rw [mm_up_ne (by decide), mm_up_ne (by decide), mm_up_ne (by decide), mm_up_ne (by decide), mm_up_ne (by decide), mm_up_ne (by decide)]; exact s_k (by decide)) (by omega)) (Nat.le_of_ble_eq_true rfl) ⟨Nat.le_refl _, Nat.le_refl _⟩ ?_
  refine mm_pop dX10_addWork_36 rfl ?_
  refine mm_mem (J := cN (w * h) n l (k + 1) o r A (wk_ N k p0 p1 p2 p3)) (cN_work hz hk6) ?_
  refine mm_aload_n 0 dX10_addWork_37 rfl rfl ?_
  refine mm_cV0i (dz := d - 1) dX10_addWork_38 rfl mzX10_many ml_X10_50 imX10_many (by omega) so_22 ⟨rfl, rfl⟩ (cg_works (w := w) (h := h) (k := k + 1) ⟨hz1, hz2, hz3, by omega, hz5, hz6⟩ hW2 (by omega)) (Nat.le_of_ble_eq_true rfl) ⟨Nat.le_refl _, Nat.le_refl _⟩ ?_
  refine mm_iconst (v := 1) dX10_addWork_41 rfl ?_
  refine mm_isubN (k + 1) (1) dX10_addWork_42 (by omega) ?_
  refine mm_at (pc' := 43) rfl ?_
  refine mm_iret dX10_addWork_43 rfl ⟨Nat.le_refl _, Nat.le_refl _⟩ ?_
  exact hq
set_option maxRecDepth 100000 in
set_option maxHeartbeats 600000 in
theorem cb_work {g : mm_G} {d : Nat} {w h n l k o r : Nat} {A : mm_I} {N : Nat → Int32} (hz : zOK (w * h) n l k o r) (hW : mo_W N w h) {J : mm_I} (hJ : J 201 = N) (hD : mo_D N n) (hK : mo_K N (w * h)) (hk : N 19 = nI k) {p0 p1 p2 p3 : Int32} (hd : 3 ≤ d) : mm_Ci g zX11_work d [.ref 0, .int (p0), .int (p1), .int (p2), .int (p3)] sh_S (cN (w * h) n l k o r A N) ((op_work k J p0 p1 p2 p3).1) (cN (w * h) n l (vv ((op_work k J p0 p1 p2 p3).2 201 19)) o r A ((op_work k J p0 p1 p2 p3).2 201)) := by
  obtain ⟨hz1, hz2, hz3, hz4, hz5, hz6⟩ := id hz
  have hc := mo_W_c hW
  obtain ⟨-, -, hw1, hw2, hh1, hh2⟩ := id hW
  refine mm_Ci_of (fun Q hq => ?_)
  refine mm_begin (ls := [(0, .ref 0), (1, .int (p0)), (2, .int (p1)), (3, .int (p2)), (4, .int (p3))]) (Nat.le_of_ble_eq_true rfl) rfl rfl ?_
  refine mm_aload_n 0 dX11_work_0 rfl rfl ?_
  refine mm_getr (b := 1) dX11_work_1 rfl fk_X11_10 rfl so_0 sr_0_0 ?_
  refine mm_getr (b := 22) dX11_work_4 rfl fk_X11_309 rfl so_1 sr_1_2 ?_
  refine mm_astore (ls' := [(5, .ref 22), (0, .ref 0), (1, .int (p0)), (2, .int (p1)), (3, .int (p2)), (4, .int (p3))]) dX11_work_7 (by decide) rfl ?_
  refine mm_iload_n 2 dX11_work_9 rfl rfl ?_
  refine mm_iconst (v := 1) dX11_work_10 rfl ?_
  refine mm_bipush (v := 9) dX11_work_11 rfl ?_
  refine mm_cS3i (dz := d - 1) dX11_work_13 rfl mzX11_within ml_X11_63 imX11_within (by omega) cx_within (Nat.le_of_ble_eq_true rfl) ⟨Nat.le_refl _, Nat.le_refl _⟩ ?_
  refine mm_at (pc' := 16) rfl ?_
  refine mm_if_eqB (tgt := 39) dX11_work_16 (by decide) (fun c16 => ?_) (fun c16 => ?_)
  · refine mm_ldc dX11_work_39 rfl kc_X11_67 ?_
    refine mm_iret dX11_work_41 rfl ⟨Nat.le_refl _, Nat.le_refl _⟩ ?_
    subst hJ; exact mm_l2c (F := fun N => cN (w * h) n l (vv (N 19)) o r A N) (by unfold op_work; rw [if_pos (by first | exact Or.inl c16 | exact Or.inr (Or.inl c26) | exact Or.inr (Or.inr (Or.inl c36)) | exact Or.inr (Or.inr (Or.inr (c57))))]) (show cN (w * h) n l (vv (J 201 19)) o r A (J 201) = _ by rw [hk, vv_nI (by omega)]) hq
  · refine mm_iload_n 3 dX11_work_19 rfl rfl ?_
    refine mm_iconst (v := 0) dX11_work_20 rfl ?_
    refine mm_bipush (v := 50) dX11_work_21 rfl ?_
    refine mm_cS3i (dz := d - 1) dX11_work_23 rfl mzX11_within ml_X11_63 imX11_within (by omega) cx_within (Nat.le_of_ble_eq_true rfl) ⟨Nat.le_refl _, Nat.le_refl _⟩ ?_
    refine mm_if_eqB (tgt := 39) dX11_work_26 (by decide) (fun c26 => ?_) (fun c26 => ?_)
    · refine mm_ldc dX11_work_39 rfl kc_X11_67 ?_
      refine mm_iret dX11_work_41 rfl ⟨Nat.le_refl _, Nat.le_refl _⟩ ?_
      subst hJ; exact mm_l2c (F := fun N => cN (w * h) n l (vv (N 19)) o r A N) (by unfold op_work; rw [if_pos (by first | exact Or.inl c16 | exact Or.inr (Or.inl c26) | exact Or.inr (Or.inr (Or.inl c36)) | exact Or.inr (Or.inr (Or.inr (c57))))]) (show cN (w * h) n l (vv (J 201 19)) o r A (J 201) = _ by rw [hk, vv_nI (by omega)]) hq
    · refine mm_iload_n 4 dX11_work_29 rfl rfl ?_
      refine mm_iconst (v := 0) dX11_work_30 rfl ?_
      refine mm_bipush (v := 20) dX11_work_31 rfl ?_
      refine mm_cS3i (dz := d - 1) dX11_work_33 rfl mzX11_within ml_X11_63 imX11_within (by omega) cx_within (Nat.le_of_ble_eq_true rfl) ⟨Nat.le_refl _, Nat.le_refl _⟩ ?_
      refine mm_if_neB (tgt := 42) dX11_work_36 (by decide) (fun c36 => ?_) (fun c36 => ?_)
      · refine mm_iload 5 dX11_work_42 rfl ?_
        refine mm_iconst (v := 0) dX11_work_44 rfl ?_
        refine mm_iconst (v := 1) dX11_work_45 rfl ?_
        refine mm_aload 0 dX11_work_46 rfl ?_
        refine mm_cV0i (dz := d - 1) dX11_work_48 rfl mzX10_many ml_X11_313 imX10_many (by omega) so_22 ⟨rfl, rfl⟩ (cg_works hz hW (by omega)) (Nat.le_of_ble_eq_true rfl) ⟨Nat.le_refl _, Nat.le_refl _⟩ ?_
        refine mm_ishl dX11_work_51 ?_
        refine mm_iconst (v := 1) dX11_work_52 rfl ?_
        refine mm_isub dX11_work_53 ?_
        refine mm_at (pc' := 54) rfl ?_
        refine mm_cS3i (dz := d - 1) dX11_work_54 rfl mzX11_within ml_X11_63 imX11_within (by omega) cx_within (Nat.le_of_ble_eq_true rfl) ⟨Nat.le_refl _, Nat.le_refl _⟩ ?_
        refine mm_if_neB (tgt := 63) dX11_work_57 (by decide) (fun c57 => ?_) (fun c57 => ?_)
        · refine mm_aload 0 dX11_work_63 rfl ?_
          refine mm_cV0i (dz := d - 1) dX11_work_65 rfl mzX10_many ml_X11_313 imX10_many (by omega) so_22 ⟨rfl, rfl⟩ (cg_works hz hW (by omega)) (Nat.le_of_ble_eq_true rfl) ⟨Nat.le_refl _, Nat.le_refl _⟩ ?_
          refine mm_bipush (v := 6) dX11_work_68 rfl ?_
          refine mm_icmp_ltN (k) (6) (tgt := 76) dX11_work_70 (by decide) (by omega) (by omega) (fun c70 => ?_) (fun c70 => ?_)
          · refine mm_aload 0 dX11_work_76 rfl ?_
            refine mm_iload_n 2 dX11_work_78 rfl rfl ?_
            refine mm_iload_n 3 dX11_work_79 rfl rfl ?_
            refine mm_iload_n 4 dX11_work_80 rfl rfl ?_
            refine mm_iload 5 dX11_work_81 rfl ?_
            refine mm_cV4i (dz := d - 1) dX11_work_83 rfl mzX10_addWork ml_X11_317 imX10_addWork (by omega) so_22 ⟨rfl, rfl⟩ (cg_addWork hz hW (by omega) (by omega)) (Nat.le_of_ble_eq_true rfl) ⟨Nat.le_refl _, Nat.le_refl _⟩ ?_
            refine mm_iret dX11_work_86 rfl ⟨Nat.le_refl _, Nat.le_refl _⟩ ?_
            subst hJ; exact mm_l2c (F := fun N => cN (w * h) n l (vv (N 19)) o r A N) (by unfold op_work; rw [if_neg (by intro q; rcases q with q | q | q | q; exact q c16; exact q c26; exact q c36; exact q c57), if_neg (by omega)]) (by rw [up_201, up_201, up_201, up_201, up_201]; show cN (w * h) n l (vv (nI (k + 1))) o r A (wk_ (J 201) k p0 p1 p2 p3) = _; rw [vv_nI (by omega)]) hq
          · refine mm_ldc dX11_work_73 rfl kc_X11_170 ?_
            refine mm_iret dX11_work_75 rfl ⟨Nat.le_refl _, Nat.le_refl _⟩ ?_
            subst hJ; exact mm_l2c (F := fun N => cN (w * h) n l (vv (N 19)) o r A N) (by unfold op_work; rw [if_neg (by intro q; rcases q with q | q | q | q; exact q c16; exact q c26; exact q c36; exact q c57), if_pos (by omega)]) (show cN (w * h) n l (vv (J 201 19)) o r A (J 201) = _ by rw [hk, vv_nI (by omega)]) hq
        · refine mm_ldc dX11_work_60 rfl kc_X11_67 ?_
          refine mm_iret dX11_work_62 rfl ⟨Nat.le_refl _, Nat.le_refl _⟩ ?_
          subst hJ; exact mm_l2c (F := fun N => cN (w * h) n l (vv (N 19)) o r A N) (by unfold op_work; rw [if_pos (by first | exact Or.inl c16 | exact Or.inr (Or.inl c26) | exact Or.inr (Or.inr (Or.inl c36)) | exact Or.inr (Or.inr (Or.inr (c57))))]) (show cN (w * h) n l (vv (J 201 19)) o r A (J 201) = _ by rw [hk, vv_nI (by omega)]) hq
      · refine mm_ldc dX11_work_39 rfl kc_X11_67 ?_
        refine mm_iret dX11_work_41 rfl ⟨Nat.le_refl _, Nat.le_refl _⟩ ?_
        subst hJ; exact mm_l2c (F := fun N => cN (w * h) n l (vv (N 19)) o r A N) (by unfold op_work; rw [if_pos (by first | exact Or.inl c16 | exact Or.inr (Or.inl c26) | exact Or.inr (Or.inr (Or.inl c36)) | exact Or.inr (Or.inr (Or.inr (c57))))]) (show cN (w * h) n l (vv (J 201 19)) o r A (J 201) = _ by rw [hk, vv_nI (by omega)]) hq
