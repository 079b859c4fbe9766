/-! THE CLASS: its calls on ground and MACHINES -/
theorem isM_of {n m : Nat} (hn : n ≤ 5) (hm : m < n) : sp_isM n (nI m) := ⟨Int32.not_lt.mp (nI_pos (by omega)), (nI_ltI (by omega) (by omega)).mpr hm⟩
/-- kinds of MACHINES are kinds -/
def mo_Q (N : Nat → Int32) (n : Nat) : Prop := ∀ i, i < n → sp_wi (N (630 + 40 * i + 0)) 0 3
set_option maxRecDepth 100000 in
set_option maxHeartbeats 600000 in
theorem cg_kil1 {g : mm_G} {d : Nat} {w h n l k o r : Nat} {A : mm_I} {N : Nat → Int32} (hz : zOK (w * h) n l k o r) (hW : mo_W N w h) : mm_Cr g zX0_kilosOf d [.ref 2, .int (1)] sh_S (cN (w * h) n l k o r A N) (.ref 7) (cN (w * h) n l k o r A N) := by
  obtain ⟨hz1, hz2, hz3, hz4, hz5, hz6⟩ := id hz
  have hc := mo_W_c hW
  obtain ⟨-, -, hw1, hw2, hh1, hh2⟩ := id hW
  refine mm_Cr_of (fun Q hq => ?_)
  refine mm_begin (ls := [(0, .ref 2), (1, .int (1))]) (Nat.le_of_ble_eq_true rfl) rfl rfl ?_
  refine mm_iload_n 1 dX0_kilosOf_0 rfl rfl ?_
  refine mm_iconst (v := 1) dX0_kilosOf_1 rfl ?_
  refine mm_icmp_ne (tgt := 12) dX0_kilosOf_2 (by decide) (fun q => absurd q (by decide)) (fun _ => ?_)
  refine mm_aload_n 0 dX0_kilosOf_5 rfl rfl ?_
  refine mm_getr (b := 7) dX0_kilosOf_6 rfl fk_X0_23 rfl so_2 sr_2_4 ?_
  refine mm_goto (tgt := 16) dX0_kilosOf_9 (by decide) ?_
  refine mm_aret dX0_kilosOf_16 rfl (Or.inl ⟨_, rfl⟩) (Or.inr ⟨_, rfl⟩) ⟨Nat.le_refl _, Nat.le_refl _⟩ ?_
  first | exact hq | exact absurd rfl c2
set_option maxRecDepth 100000 in
set_option maxHeartbeats 600000 in
theorem cg_kil0 {g : mm_G} {d : Nat} {w h n l k o r : Nat} {A : mm_I} {N : Nat → Int32} (hz : zOK (w * h) n l k o r) (hW : mo_W N w h) {x : Int32} (hx : ¬ x = 1) : mm_Cr g zX0_kilosOf d [.ref 2, .int (x)] sh_S (cN (w * h) n l k o r A N) (.ref 5) (cN (w * h) n l k o r A N) := by
  obtain ⟨hz1, hz2, hz3, hz4, hz5, hz6⟩ := id hz
  have hc := mo_W_c hW
  obtain ⟨-, -, hw1, hw2, hh1, hh2⟩ := id hW
  refine mm_Cr_of (fun Q hq => ?_)
  refine mm_begin (ls := [(0, .ref 2), (1, .int (x))]) (Nat.le_of_ble_eq_true rfl) rfl rfl ?_
  refine mm_iload_n 1 dX0_kilosOf_0 rfl rfl ?_
  refine mm_iconst (v := 1) dX0_kilosOf_1 rfl ?_
  refine mm_icmp_ne (tgt := 12) dX0_kilosOf_2 (by decide) (fun c2 => ?_) (fun c2 => ?_)
  · refine mm_aload_n 0 dX0_kilosOf_12 rfl rfl ?_
    refine mm_getr (b := 5) dX0_kilosOf_13 rfl fk_X0_20 rfl so_2 sr_2_3 ?_
    refine mm_aret dX0_kilosOf_16 rfl (Or.inl ⟨_, rfl⟩) (Or.inr ⟨_, rfl⟩) ⟨Nat.le_refl _, Nat.le_refl _⟩ ?_
    first | exact hq | exact absurd c2 hx
  · refine mm_aload_n 0 dX0_kilosOf_5 rfl rfl ?_
    refine mm_getr (b := 7) dX0_kilosOf_6 rfl fk_X0_23 rfl so_2 sr_2_4 ?_
    refine mm_goto (tgt := 16) dX0_kilosOf_9 (by decide) ?_
    refine mm_aret dX0_kilosOf_16 rfl (Or.inl ⟨_, rfl⟩) (Or.inr ⟨_, rfl⟩) ⟨Nat.le_refl _, Nat.le_refl _⟩ ?_
    first | exact hq | exact absurd c2 hx
set_option maxRecDepth 100000 in
set_option maxHeartbeats 600000 in
theorem cb_put1 {g : mm_G} {d : Nat} {w h n l k o r : Nat} {A : mm_I} {N : Nat → Int32} (hz : zOK (w * h) n l k o r) (hW : mo_W N w h) {J : mm_I} (hJ : J 201 = N) (hD : mo_D N n) (hK : mo_K N (w * h)) {c v : Int32} (hd : 2 ≤ d) : mm_Ci g zX11_put d [.ref 0, .int (c), .int (1), .int (v)] sh_S (cN (w * h) n l k o r A N) ((op_put w h J c 1 v).1) (cN (w * h) n l k o r A ((op_put w h J c 1 v).2 201)) := by
  obtain ⟨hz1, hz2, hz3, hz4, hz5, hz6⟩ := id hz
  have hc := mo_W_c hW
  obtain ⟨-, -, hw1, hw2, hh1, hh2⟩ := id hW
  refine mm_Ci_of (fun Q hq => ?_)
  refine mm_begin (ls := [(0, .ref 0), (1, .int (c)), (2, .int (1)), (3, .int (v))]) (Nat.le_of_ble_eq_true rfl) rfl rfl ?_
  refine mm_aload_n 0 dX11_put_0 rfl rfl ?_
  refine mm_getr (b := 1) dX11_put_1 rfl fk_X11_10 rfl so_0 sr_0_0 ?_
  refine mm_getr (b := 2) dX11_put_4 rfl fk_X11_72 rfl so_1 sr_1_0 ?_
  refine mm_astore (ls' := [(4, .ref 2), (0, .ref 0), (1, .int (c)), (2, .int (1)), (3, .int (v))]) dX11_put_7 (by decide) rfl ?_
  refine mm_aload 0 dX11_put_9 rfl ?_
  refine mm_iload_n 2 dX11_put_11 rfl rfl ?_
  refine mm_cV1i (dz := d - 1) dX11_put_12 rfl mzX0_holds ml_X11_82 imX0_holds (by omega) so_2 ⟨rfl, rfl⟩ (cg_holds hz hW (by omega)) (Nat.le_of_ble_eq_true rfl) ⟨Nat.le_refl _, Nat.le_refl _⟩ ?_
  refine mm_if_eqB (tgt := 38) dX11_put_15 (by decide) (fun c15 => ?_) (fun c15 => ?_)
  · refine mm_ldc dX11_put_38 rfl kc_X11_67 ?_
    refine mm_iret dX11_put_40 rfl ⟨Nat.le_refl _, Nat.le_refl _⟩ ?_
    subst hJ; exact mm_l2c (F := fun N => cN (w * h) n l k o r A N) (by unfold op_put; rw [if_pos (by first | exact Or.inl c15 | exact Or.inr (Or.inl c24) | exact Or.inr (Or.inr (c35)))]) rfl hq
  · refine mm_iload_n 3 dX11_put_18 rfl rfl ?_
    refine mm_iconst (v := 0) dX11_put_19 rfl ?_
    refine mm_iconst (v := 1) dX11_put_20 rfl ?_
    refine mm_cS3i (dz := d - 1) dX11_put_21 rfl mzX11_within ml_X11_63 imX11_within (by omega) cx_within (Nat.le_of_ble_eq_true rfl) ⟨Nat.le_refl _, Nat.le_refl _⟩ ?_
    refine mm_if_eqB (tgt := 38) dX11_put_24 (by decide) (fun c24 => ?_) (fun c24 => ?_)
    · refine mm_ldc dX11_put_38 rfl kc_X11_67 ?_
      refine mm_iret dX11_put_40 rfl ⟨Nat.le_refl _, Nat.le_refl _⟩ ?_
      subst hJ; exact mm_l2c (F := fun N => cN (w * h) n l k o r A N) (by unfold op_put; rw [if_pos (by first | exact Or.inl c15 | exact Or.inr (Or.inl c24) | exact Or.inr (Or.inr (c35)))]) rfl hq
    · refine mm_iload_n 4 dX11_put_27 rfl rfl ?_
      refine mm_iconst (v := 0) dX11_put_28 rfl ?_
      refine mm_sipush (v := 999) dX11_put_29 rfl ?_
      refine mm_cS3i (dz := d - 1) dX11_put_32 rfl mzX11_within ml_X11_63 imX11_within (by omega) cx_within (Nat.le_of_ble_eq_true rfl) ⟨Nat.le_refl _, Nat.le_refl _⟩ ?_
      refine mm_if_neB (tgt := 41) dX11_put_35 (by decide) (fun c35 => ?_) (fun c35 => ?_)
      · obtain ⟨y, hky, rfl⟩ := sp_isC_nat (by omega) c15
        refine mm_aload 0 dX11_put_41 rfl ?_
        refine mm_iload_n 3 dX11_put_43 rfl rfl ?_
        refine mm_cV1r (dz := d - 1) dX11_put_44 rfl mzX0_kilosOf ml_X11_98 imX0_kilosOf (by omega) so_2 ⟨rfl, rfl⟩ (cg_kil1 hz hW) (Nat.le_of_ble_eq_true rfl) ⟨Nat.le_refl _, Nat.le_refl _⟩ ?_
        refine mm_iload_n 2 dX11_put_47 rfl rfl ?_
        refine mm_iload_n 4 dX11_put_48 rfl rfl ?_
        refine mm_cV2i (dz := d - 1) dX11_put_49 rfl mzX5_swap ml_X11_94 imX5_swap (by omega) so_7 ⟨rfl, rfl⟩ (ct_swap rw_7 (y) (by omega) (by omega)) (Nat.le_of_ble_eq_true rfl) ⟨Nat.le_refl _, Nat.le_refl _⟩ ?_
        refine mm_top (v := N (190 + y)) (s_ice (by omega)) ?_
        refine mm_iret dX11_put_52 rfl ⟨Nat.le_refl _, Nat.le_refl _⟩ ?_
        subst hJ; exact mm_l2c (F := fun N => cN (w * h) n l k o r A N) (by unfold op_put; rw [if_neg (by intro q; rcases q with q | q | q; exact q c15; exact q c24; exact q c35), if_neg (show ¬ (1 : Int32) = 0 by decide), vv_nI (by omega)]) (by rw [up_201]; exact (cN_up hz (lo_at8.trans (if_pos (by omega))) (sn_up (by omega) hz.1)).symm) hq
      · refine mm_ldc dX11_put_38 rfl kc_X11_67 ?_
        refine mm_iret dX11_put_40 rfl ⟨Nat.le_refl _, Nat.le_refl _⟩ ?_
        subst hJ; exact mm_l2c (F := fun N => cN (w * h) n l k o r A N) (by unfold op_put; rw [if_pos (by first | exact Or.inl c15 | exact Or.inr (Or.inl c24) | exact Or.inr (Or.inr (c35)))]) rfl hq
set_option maxRecDepth 100000 in
set_option maxHeartbeats 600000 in
theorem cb_put0 {g : mm_G} {d : Nat} {w h n l k o r : Nat} {A : mm_I} {N : Nat → Int32} (hz : zOK (w * h) n l k o r) (hW : mo_W N w h) {J : mm_I} (hJ : J 201 = N) (hD : mo_D N n) (hK : mo_K N (w * h)) {c x v : Int32} (hx : ¬ x = 1) (hd : 2 ≤ d) : mm_Ci g zX11_put d [.ref 0, .int (c), .int (x), .int (v)] sh_S (cN (w * h) n l k o r A N) ((op_put w h J c x v).1) (cN (w * h) n l k o r A ((op_put w h J c x v).2 201)) := by
  obtain ⟨hz1, hz2, hz3, hz4, hz5, hz6⟩ := id hz
  have hc := mo_W_c hW
  obtain ⟨-, -, hw1, hw2, hh1, hh2⟩ := id hW
  refine mm_Ci_of (fun Q hq => ?_)
  refine mm_begin (ls := [(0, .ref 0), (1, .int (c)), (2, .int (x)), (3, .int (v))]) (Nat.le_of_ble_eq_true rfl) rfl rfl ?_
  refine mm_aload_n 0 dX11_put_0 rfl rfl ?_
  refine mm_getr (b := 1) dX11_put_1 rfl fk_X11_10 rfl so_0 sr_0_0 ?_
  refine mm_getr (b := 2) dX11_put_4 rfl fk_X11_72 rfl so_1 sr_1_0 ?_
  refine mm_astore (ls' := [(4, .ref 2), (0, .ref 0), (1, .int (c)), (2, .int (x)), (3, .int (v))]) dX11_put_7 (by decide) rfl ?_
  refine mm_aload 0 dX11_put_9 rfl ?_
  refine mm_iload_n 2 dX11_put_11 rfl rfl ?_
  refine mm_cV1i (dz := d - 1) dX11_put_12 rfl mzX0_holds ml_X11_82 imX0_holds (by omega) so_2 ⟨rfl, rfl⟩ (cg_holds hz hW (by omega)) (Nat.le_of_ble_eq_true rfl) ⟨Nat.le_refl _, Nat.le_refl _⟩ ?_
  refine mm_if_eqB (tgt := 38) dX11_put_15 (by decide) (fun c15 => ?_) (fun c15 => ?_)
  · refine mm_ldc dX11_put_38 rfl kc_X11_67 ?_
    refine mm_iret dX11_put_40 rfl ⟨Nat.le_refl _, Nat.le_refl _⟩ ?_
    subst hJ; exact mm_l2c (F := fun N => cN (w * h) n l k o r A N) (by unfold op_put; rw [if_pos (by first | exact Or.inl c15 | exact Or.inr (Or.inl c24) | exact Or.inr (Or.inr (c35)))]) rfl hq
  · refine mm_iload_n 3 dX11_put_18 rfl rfl ?_
    refine mm_iconst (v := 0) dX11_put_19 rfl ?_
    refine mm_iconst (v := 1) dX11_put_20 rfl ?_
    refine mm_cS3i (dz := d - 1) dX11_put_21 rfl mzX11_within ml_X11_63 imX11_within (by omega) cx_within (Nat.le_of_ble_eq_true rfl) ⟨Nat.le_refl _, Nat.le_refl _⟩ ?_
    refine mm_if_eqB (tgt := 38) dX11_put_24 (by decide) (fun c24 => ?_) (fun c24 => ?_)
    · refine mm_ldc dX11_put_38 rfl kc_X11_67 ?_
      refine mm_iret dX11_put_40 rfl ⟨Nat.le_refl _, Nat.le_refl _⟩ ?_
      subst hJ; exact mm_l2c (F := fun N => cN (w * h) n l k o r A N) (by unfold op_put; rw [if_pos (by first | exact Or.inl c15 | exact Or.inr (Or.inl c24) | exact Or.inr (Or.inr (c35)))]) rfl hq
    · refine mm_iload_n 4 dX11_put_27 rfl rfl ?_
      refine mm_iconst (v := 0) dX11_put_28 rfl ?_
      refine mm_sipush (v := 999) dX11_put_29 rfl ?_
      refine mm_cS3i (dz := d - 1) dX11_put_32 rfl mzX11_within ml_X11_63 imX11_within (by omega) cx_within (Nat.le_of_ble_eq_true rfl) ⟨Nat.le_refl _, Nat.le_refl _⟩ ?_
      refine mm_if_neB (tgt := 41) dX11_put_35 (by decide) (fun c35 => ?_) (fun c35 => ?_)
      · obtain ⟨y, hky, rfl⟩ := sp_isC_nat (by omega) c15
        refine mm_aload 0 dX11_put_41 rfl ?_
        refine mm_iload_n 3 dX11_put_43 rfl rfl ?_
        refine mm_cV1r (dz := d - 1) dX11_put_44 rfl mzX0_kilosOf ml_X11_98 imX0_kilosOf (by omega) so_2 ⟨rfl, rfl⟩ (cg_kil0 hz hW hx) (Nat.le_of_ble_eq_true rfl) ⟨Nat.le_refl _, Nat.le_refl _⟩ ?_
        refine mm_iload_n 2 dX11_put_47 rfl rfl ?_
        refine mm_iload_n 4 dX11_put_48 rfl rfl ?_
        refine mm_cV2i (dz := d - 1) dX11_put_49 rfl mzX5_swap ml_X11_94 imX5_swap (by omega) so_5 ⟨rfl, rfl⟩ (ct_swap rw_5 (y) (by omega) (by omega)) (Nat.le_of_ble_eq_true rfl) ⟨Nat.le_refl _, Nat.le_refl _⟩ ?_
        refine mm_top (v := N (110 + y)) (s_dust (by omega)) ?_
        refine mm_iret dX11_put_52 rfl ⟨Nat.le_refl _, Nat.le_refl _⟩ ?_
        subst hJ; exact mm_l2c (F := fun N => cN (w * h) n l k o r A N) (by unfold op_put; rw [if_neg (by intro q; rcases q with q | q | q; exact q c15; exact q c24; exact q c35), if_pos (show x = 0 by obtain ⟨j, hj, rfl⟩ := sp_wi_nat 1 (by decide) c24; rcases show j = 0 ∨ j = 1 by omega with e | e <;> subst e; rfl; exact absurd rfl hx), vv_nI (by omega)]) (by rw [up_201]; exact (cN_up hz (lo_at6.trans (if_pos (by omega))) (sn_up (by omega) hz.1)).symm) hq
      · refine mm_ldc dX11_put_38 rfl kc_X11_67 ?_
        refine mm_iret dX11_put_40 rfl ⟨Nat.le_refl _, Nat.le_refl _⟩ ?_
        subst hJ; exact mm_l2c (F := fun N => cN (w * h) n l k o r A N) (by unfold op_put; rw [if_pos (by first | exact Or.inl c15 | exact Or.inr (Or.inl c24) | exact Or.inr (Or.inr (c35)))]) rfl hq
theorem cb_put {g : mm_G} {d : Nat} {w h n l k o r : Nat} {A : mm_I} {N : Nat → Int32} (hz : zOK (w * h) n l k o r) (hW : mo_W N w h) {J : mm_I} (hJ : J 201 = N) (hD : mo_D N n) (hK : mo_K N (w * h)) {c x v : Int32} (hd : 2 ≤ d) : mm_Ci g zX11_put d [.ref 0, .int c, .int x, .int v] sh_S (cN (w * h) n l k o r A N) (op_put w h J c x v).1 (cN (w * h) n l k o r A ((op_put w h J c x v).2 201)) := by
  by_cases hx : x = 1
  · subst hx; exact cb_put1 hz hW hJ hD hK hd
  · exact cb_put0 hz hW hJ hD hK hx hd
set_option maxRecDepth 100000 in
set_option maxHeartbeats 600000 in
theorem cb_is_v {g : mm_G} {d : Nat} {w h n l k o r : Nat} {A : mm_I} {N : Nat → Int32} (hz : zOK (w * h) n l k o r) (hW : mo_W N w h) {J : mm_I} (hJ : J 201 = N) (hD : mo_D N n) (hK : mo_K N (w * h)) (hQ : mo_Q N n) {m : Nat} (hm : m < n) {x : Int32} (hd : 3 ≤ d) : mm_Ci g zX11_is d [.ref 0, .int (nI (m)), .int (x)] sh_S (cN (w * h) n l k o r A N) (op_is n J (nI m) x) (cN (w * h) n l k o r A N) := by
  obtain ⟨hz1, hz2, hz3, hz4, hz5, hz6⟩ := id hz
  have hc := mo_W_c hW
  obtain ⟨-, -, hw1, hw2, hh1, hh2⟩ := id hW
  have hsm := isM_of hz2 hm
  refine mm_Ci_of (fun Q hq => ?_)
  refine mm_begin (ls := [(0, .ref 0), (1, .int (nI (m))), (2, .int (x))]) (Nat.le_of_ble_eq_true rfl) rfl rfl ?_
  refine mm_aload_n 0 dX11_is_0 rfl rfl ?_
  refine mm_getr (b := 1) dX11_is_1 rfl fk_X11_10 rfl so_0 sr_0_0 ?_
  refine mm_iload_n 1 dX11_is_4 rfl rfl ?_
  refine mm_cV1r (dz := d - 1) dX11_is_5 rfl mzX8_worker ml_X11_203 imX8_worker (by omega) so_1 ⟨rfl, rfl⟩ (cg_worker hz hW (m := m) (by omega)) (Nat.le_of_ble_eq_true rfl) ⟨Nat.le_refl _, Nat.le_refl _⟩ ?_
  refine mm_astore_n (ls' := [(3, .ref (36 + 3 * m)), (0, .ref 0), (1, .int (nI (m))), (2, .int (x))]) dX11_is_8 rfl (by decide) rfl ?_
  refine mm_aload_n 0 dX11_is_9 rfl rfl ?_
  refine mm_ifnull dX11_is_10 ?_
  refine mm_iload_n 3 dX11_is_13 rfl rfl ?_
  refine mm_at (pc' := 14) rfl ?_
  refine mm_iconst (v := 0) dX11_is_14 rfl ?_
  refine mm_iconst (v := 3) dX11_is_15 rfl ?_
  refine mm_cS3i (dz := d - 1) dX11_is_16 rfl mzX11_within ml_X11_63 imX11_within (by omega) cx_within (Nat.le_of_ble_eq_true rfl) ⟨Nat.le_refl _, Nat.le_refl _⟩ ?_
  refine mm_if_neB (tgt := 25) dX11_is_19 (by decide) (fun c19 => ?_) (fun c19 => ?_)
  · refine mm_aload_n 0 dX11_is_25 rfl rfl ?_
    refine mm_iload_n 3 dX11_is_26 rfl rfl ?_
    refine mm_cV1i (dz := d - 1) dX11_is_27 rfl mzX1_isA ml_X11_207 imX1_isA (by omega) (sm_1 (show m < 5 by omega)).1 ⟨rfl, rfl⟩ (cg_mIsA hz hW (m := m) hm (hQ _ hm) (by omega)) (Nat.le_of_ble_eq_true rfl) ⟨Nat.le_refl _, Nat.le_refl _⟩ ?_
    refine mm_cS1i (dz := d - 1) dX11_is_30 rfl mzX11_asBit ml_X11_118 imX11_asBit (by omega) cx_asBit (Nat.le_of_ble_eq_true rfl) ⟨Nat.le_refl _, Nat.le_refl _⟩ ?_
    refine mm_iret dX11_is_33 rfl ⟨Nat.le_refl _, Nat.le_refl _⟩ ?_
    subst hJ; exact mm_l1 (by unfold op_is; rw [if_neg (by intro q; rcases q with q | q; exact q hsm; exact q c19), vv_nI (by omega)]) hq
  · refine mm_ldc dX11_is_22 rfl kc_X11_67 ?_
    refine mm_iret dX11_is_24 rfl ⟨Nat.le_refl _, Nat.le_refl _⟩ ?_
    subst hJ; exact mm_l1 (by unfold op_is; rw [if_pos (Or.inr c19)]) hq
set_option maxRecDepth 100000 in
set_option maxHeartbeats 600000 in
theorem cb_is_n {g : mm_G} {d : Nat} {w h n l k o r : Nat} {A : mm_I} {N : Nat → Int32} (hz : zOK (w * h) n l k o r) (hW : mo_W N w h) {J : mm_I} (hJ : J 201 = N) (hD : mo_D N n) (hK : mo_K N (w * h)) (hQ : mo_Q N n) {m : Int32} (hm : ¬ sp_isM n m) {x : Int32} (hd : 3 ≤ d) : mm_Ci g zX11_is d [.ref 0, .int (m), .int (x)] sh_S (cN (w * h) n l k o r A N) (op_is n J m x) (cN (w * h) n l k o r A N) := by
  obtain ⟨hz1, hz2, hz3, hz4, hz5, hz6⟩ := id hz
  have hc := mo_W_c hW
  obtain ⟨-, -, hw1, hw2, hh1, hh2⟩ := id hW
  refine mm_Ci_of (fun Q hq => ?_)
  refine mm_begin (ls := [(0, .ref 0), (1, .int (m)), (2, .int (x))]) (Nat.le_of_ble_eq_true rfl) rfl rfl ?_
  refine mm_aload_n 0 dX11_is_0 rfl rfl ?_
  refine mm_getr (b := 1) dX11_is_1 rfl fk_X11_10 rfl so_0 sr_0_0 ?_
  refine mm_iload_n 1 dX11_is_4 rfl rfl ?_
  refine mm_cV1r (dz := d - 1) dX11_is_5 rfl mzX8_worker ml_X11_203 imX8_worker (by omega) so_1 ⟨rfl, rfl⟩ (cg_workerN hz hW hm) (Nat.le_of_ble_eq_true rfl) ⟨Nat.le_refl _, Nat.le_refl _⟩ ?_
  refine mm_astoreN_n (ls' := [(3, .null), (0, .ref 0), (1, .int (m)), (2, .int (x))]) dX11_is_8 rfl (by decide) rfl ?_
  refine mm_aloadN_n 0 dX11_is_9 rfl rfl ?_
  refine mm_ifnullN (tgt := 22) dX11_is_10 (by decide) ?_
  refine mm_ldc dX11_is_22 rfl kc_X11_67 ?_
  refine mm_iret dX11_is_24 rfl ⟨Nat.le_refl _, Nat.le_refl _⟩ ?_
  subst hJ; exact mm_l1 (by unfold op_is; rw [if_pos (Or.inl hm)]) hq
theorem cb_is {g : mm_G} {d : Nat} {w h n l k o r : Nat} {A : mm_I} {N : Nat → Int32} (hz : zOK (w * h) n l k o r) (hW : mo_W N w h) {J : mm_I} (hJ : J 201 = N) (hD : mo_D N n) (hK : mo_K N (w * h)) (hQ : mo_Q N n) {m : Int32} {x : Int32} (hd : 3 ≤ d) : mm_Ci g zX11_is d [.ref 0, .int m, .int x] sh_S (cN (w * h) n l k o r A N) (op_is n J m x) (cN (w * h) n l k o r A N) := by
  by_cases hm : sp_isM n m
  · obtain ⟨j, hj, rfl⟩ := sp_isM_nat (by have := hz.2.1; omega) hm
    exact cb_is_v hz hW hJ hD hK hQ hj hd
  · exact cb_is_n hz hW hJ hD hK hQ hm hd
set_option maxRecDepth 100000 in
set_option maxHeartbeats 600000 in
theorem cb_tune_v {g : mm_G} {d : Nat} {w h n l k o r : Nat} {A : mm_I} {N : Nat → Int32} (hz : zOK (w * h) n l k o r) (hW : mo_W N w h) {J : mm_I} (hJ : J 201 = N) (hD : mo_D N n) (hK : mo_K N (w * h)) {m : Nat} (hm : m < n) {x : Int32} {v : Int32} (hd : 3 ≤ d) : mm_Ci g zX11_tune d [.ref 0, .int (nI (m)), .int (x), .int (v)] sh_S (cN (w * h) n l k o r A N) ((op_tune n J (nI m) x v).1) (cN (w * h) n l k o r A ((op_tune n J (nI m) x v).2 201)) := by
  obtain ⟨hz1, hz2, hz3, hz4, hz5, hz6⟩ := id hz
  have hc := mo_W_c hW
  obtain ⟨-, -, hw1, hw2, hh1, hh2⟩ := id hW
  have hsm := isM_of hz2 hm
  refine mm_Ci_of (fun Q hq => ?_)
  refine mm_begin (ls := [(0, .ref 0), (1, .int (nI (m))), (2, .int (x)), (3, .int (v))]) (Nat.le_of_ble_eq_true rfl) rfl rfl ?_
  refine mm_aload_n 0 dX11_tune_0 rfl rfl ?_
  refine mm_getr (b := 1) dX11_tune_1 rfl fk_X11_10 rfl so_0 sr_0_0 ?_
  refine mm_iload_n 1 dX11_tune_4 rfl rfl ?_
  refine mm_cV1r (dz := d - 1) dX11_tune_5 rfl mzX8_worker ml_X11_203 imX8_worker (by omega) so_1 ⟨rfl, rfl⟩ (cg_worker hz hW (m := m) (by omega)) (Nat.le_of_ble_eq_true rfl) ⟨Nat.le_refl _, Nat.le_refl _⟩ ?_
  refine mm_astore (ls' := [(4, .ref (36 + 3 * m)), (0, .ref 0), (1, .int (nI (m))), (2, .int (x)), (3, .int (v))]) dX11_tune_8 (by decide) rfl ?_
  refine mm_aload 0 dX11_tune_10 rfl ?_
  refine mm_ifnull dX11_tune_12 ?_
  refine mm_iload_n 3 dX11_tune_15 rfl rfl ?_
  refine mm_at (pc' := 16) rfl ?_
  refine mm_iconst (v := 0) dX11_tune_16 rfl ?_
  refine mm_iconst (v := 1) dX11_tune_17 rfl ?_
  refine mm_cS3i (dz := d - 1) dX11_tune_18 rfl mzX11_within ml_X11_63 imX11_within (by omega) cx_within (Nat.le_of_ble_eq_true rfl) ⟨Nat.le_refl _, Nat.le_refl _⟩ ?_
  refine mm_if_eqB (tgt := 34) dX11_tune_21 (by decide) (fun c21 => ?_) (fun c21 => ?_)
  · refine mm_ldc dX11_tune_34 rfl kc_X11_67 ?_
    refine mm_iret dX11_tune_36 rfl ⟨Nat.le_refl _, Nat.le_refl _⟩ ?_
    subst hJ; exact mm_l2c (F := fun N => cN (w * h) n l k o r A N) (by unfold op_tune; rw [if_pos (by first | exact Or.inr (Or.inl c21) | exact Or.inr (Or.inr c31))]) rfl hq
  · refine mm_iload_n 4 dX11_tune_24 rfl rfl ?_
    refine mm_iconst (v := 0) dX11_tune_25 rfl ?_
    refine mm_bipush (v := 100) dX11_tune_26 rfl ?_
    refine mm_cS3i (dz := d - 1) dX11_tune_28 rfl mzX11_within ml_X11_63 imX11_within (by omega) cx_within (Nat.le_of_ble_eq_true rfl) ⟨Nat.le_refl _, Nat.le_refl _⟩ ?_
    refine mm_if_neB (tgt := 37) dX11_tune_31 (by decide) (fun c31 => ?_) (fun c31 => ?_)
    · refine mm_iload_n 3 dX11_tune_37 rfl rfl ?_
      refine mm_if_ne (tgt := 49) dX11_tune_38 (by decide) (fun c38 => ?_) (fun c38 => ?_)
      · refine mm_aload 0 dX11_tune_49 rfl ?_
        refine mm_geti dX11_tune_51 rfl fk_X11_214 rfl (sm_1 (show m < 5 by omega)).1 ?_
        refine mm_top (v := N (630 + 40 * m + 3)) (s_m (by omega) (by omega) (by omega)) ?_
        refine mm_istore (ls' := [(5, .int (N (630 + 40 * m + 3))), (4, .ref (36 + 3 * m)), (0, .ref 0), (1, .int (nI (m))), (2, .int (x)), (3, .int (v))]) dX11_tune_54 (by decide) rfl ?_
        refine mm_iload_n 4 dX11_tune_56 rfl rfl ?_
        refine mm_if_ne (tgt := 69) dX11_tune_57 (by decide) (fun c57 => ?_) (fun c57 => ?_)
        · refine mm_aload 1 dX11_tune_69 rfl ?_
          refine mm_iload_n 5 dX11_tune_71 rfl rfl ?_
          refine mm_puti dX11_tune_72 rfl fk_X11_214 rfl fv_1_3 (sm_1 (show m < 5 by omega)).1 ?_
          refine mm_iload 0 dX11_tune_75 rfl ?_
          refine mm_iret dX11_tune_77 rfl ⟨Nat.le_refl _, Nat.le_refl _⟩ ?_
          first | exact absurd c38 c57 | exact absurd c57 c38 | (have hx : x = 1 := (by obtain ⟨j, hj, rfl⟩ := sp_wi_nat 1 (by decide) c21; rcases show j = 0 ∨ j = 1 by omega with e | e <;> subst e; exact absurd rfl c38; rfl); subst hx; subst hJ; exact mm_l2c (F := fun N => cN (w * h) n l k o r A N) (by unfold op_tune; rw [if_neg (by intro q; rcases q with q | q | q; exact q hsm; exact q c21; exact q c31), vv_nI (n := m) (by omega), show 2 + vv 1 = 3 by decide]) (by rw [up_201]; exact (s_mu hz hm (by omega)).symm) hq)
        · refine mm_aload 1 dX11_tune_60 rfl ?_
          refine mm_iload_n 5 dX11_tune_62 rfl rfl ?_
          refine mm_puti dX11_tune_63 rfl fk_X11_211 rfl fv_1_2 (sm_1 (show m < 5 by omega)).1 ?_
          refine mm_goto (tgt := 75) dX11_tune_66 (by decide) ?_
          refine mm_iload 0 dX11_tune_75 rfl ?_
          refine mm_iret dX11_tune_77 rfl ⟨Nat.le_refl _, Nat.le_refl _⟩ ?_
          first | exact absurd c38 c57 | exact absurd c57 c38 | (have hx : x = 1 := (by obtain ⟨j, hj, rfl⟩ := sp_wi_nat 1 (by decide) c21; rcases show j = 0 ∨ j = 1 by omega with e | e <;> subst e; exact absurd rfl c38; rfl); subst hx; subst hJ; exact mm_l2c (F := fun N => cN (w * h) n l k o r A N) (by unfold op_tune; rw [if_neg (by intro q; rcases q with q | q | q; exact q hsm; exact q c21; exact q c31), vv_nI (n := m) (by omega), show 2 + vv 1 = 3 by decide]) (by rw [up_201]; exact (s_mu hz hm (by omega)).symm) hq)
      · refine mm_aload 0 dX11_tune_41 rfl ?_
        refine mm_geti dX11_tune_43 rfl fk_X11_211 rfl (sm_1 (show m < 5 by omega)).1 ?_
        refine mm_top (v := N (630 + 40 * m + 2)) (s_m (by omega) (by omega) (by omega)) ?_
        refine mm_goto (tgt := 54) dX11_tune_46 (by decide) ?_
        refine mm_istore (ls' := [(5, .int (N (630 + 40 * m + 2))), (4, .ref (36 + 3 * m)), (0, .ref 0), (1, .int (nI (m))), (2, .int (x)), (3, .int (v))]) dX11_tune_54 (by decide) rfl ?_
        refine mm_iload_n 4 dX11_tune_56 rfl rfl ?_
        refine mm_if_ne (tgt := 69) dX11_tune_57 (by decide) (fun c57 => ?_) (fun c57 => ?_)
        · refine mm_aload 1 dX11_tune_69 rfl ?_
          refine mm_iload_n 5 dX11_tune_71 rfl rfl ?_
          refine mm_puti dX11_tune_72 rfl fk_X11_214 rfl fv_1_3 (sm_1 (show m < 5 by omega)).1 ?_
          refine mm_iload 0 dX11_tune_75 rfl ?_
          refine mm_iret dX11_tune_77 rfl ⟨Nat.le_refl _, Nat.le_refl _⟩ ?_
          first | exact absurd c38 c57 | exact absurd c57 c38 | (have hx : x = 0 := c38; subst hx; subst hJ; exact mm_l2c (F := fun N => cN (w * h) n l k o r A N) (by unfold op_tune; rw [if_neg (by intro q; rcases q with q | q | q; exact q hsm; exact q c21; exact q c31), vv_nI (n := m) (by omega), show 2 + vv 0 = 2 by decide]) (by rw [up_201]; exact (s_mu hz hm (by omega)).symm) hq)
        · refine mm_aload 1 dX11_tune_60 rfl ?_
          refine mm_iload_n 5 dX11_tune_62 rfl rfl ?_
          refine mm_puti dX11_tune_63 rfl fk_X11_211 rfl fv_1_2 (sm_1 (show m < 5 by omega)).1 ?_
          refine mm_goto (tgt := 75) dX11_tune_66 (by decide) ?_
          refine mm_iload 0 dX11_tune_75 rfl ?_
          refine mm_iret dX11_tune_77 rfl ⟨Nat.le_refl _, Nat.le_refl _⟩ ?_
          first | exact absurd c38 c57 | exact absurd c57 c38 | (have hx : x = 0 := c38; subst hx; subst hJ; exact mm_l2c (F := fun N => cN (w * h) n l k o r A N) (by unfold op_tune; rw [if_neg (by intro q; rcases q with q | q | q; exact q hsm; exact q c21; exact q c31), vv_nI (n := m) (by omega), show 2 + vv 0 = 2 by decide]) (by rw [up_201]; exact (s_mu hz hm (by omega)).symm) hq)
    · refine mm_ldc dX11_tune_34 rfl kc_X11_67 ?_
      refine mm_iret dX11_tune_36 rfl ⟨Nat.le_refl _, Nat.le_refl _⟩ ?_
      subst hJ; exact mm_l2c (F := fun N => cN (w * h) n l k o r A N) (by unfold op_tune; rw [if_pos (by first | exact Or.inr (Or.inl c21) | exact Or.inr (Or.inr c31))]) rfl hq
set_option maxRecDepth 100000 in
set_option maxHeartbeats 600000 in
theorem cb_tune_n {g : mm_G} {d : Nat} {w h n l k o r : Nat} {A : mm_I} {N : Nat → Int32} (hz : zOK (w * h) n l k o r) (hW : mo_W N w h) {J : mm_I} (hJ : J 201 = N) (hD : mo_D N n) (hK : mo_K N (w * h)) {m : Int32} (hm : ¬ sp_isM n m) {x : Int32} {v : Int32} (hd : 3 ≤ d) : mm_Ci g zX11_tune d [.ref 0, .int (m), .int (x), .int (v)] sh_S (cN (w * h) n l k o r A N) ((op_tune n J m x v).1) (cN (w * h) n l k o r A ((op_tune n J m x v).2 201)) := by
  obtain ⟨hz1, hz2, hz3, hz4, hz5, hz6⟩ := id hz
  have hc := mo_W_c hW
  obtain ⟨-, -, hw1, hw2, hh1, hh2⟩ := id hW
  refine mm_Ci_of (fun Q hq => ?_)
  refine mm_begin (ls := [(0, .ref 0), (1, .int (m)), (2, .int (x)), (3, .int (v))]) (Nat.le_of_ble_eq_true rfl) rfl rfl ?_
  refine mm_aload_n 0 dX11_tune_0 rfl rfl ?_
  refine mm_getr (b := 1) dX11_tune_1 rfl fk_X11_10 rfl so_0 sr_0_0 ?_
  refine mm_iload_n 1 dX11_tune_4 rfl rfl ?_
  refine mm_cV1r (dz := d - 1) dX11_tune_5 rfl mzX8_worker ml_X11_203 imX8_worker (by omega) so_1 ⟨rfl, rfl⟩ (cg_workerN hz hW hm) (Nat.le_of_ble_eq_true rfl) ⟨Nat.le_refl _, Nat.le_refl _⟩ ?_
  refine mm_astoreN (ls' := [(4, .null), (0, .ref 0), (1, .int (m)), (2, .int (x)), (3, .int (v))]) dX11_tune_8 (by decide) rfl ?_
  refine mm_aloadN 0 dX11_tune_10 rfl ?_
  refine mm_ifnullN (tgt := 34) dX11_tune_12 (by decide) ?_
  refine mm_ldc dX11_tune_34 rfl kc_X11_67 ?_
  refine mm_iret dX11_tune_36 rfl ⟨Nat.le_refl _, Nat.le_refl _⟩ ?_
  subst hJ; exact mm_l2c (F := fun N => cN (w * h) n l k o r A N) (by unfold op_tune; rw [if_pos (Or.inl hm)]) rfl hq
theorem cb_tune {g : mm_G} {d : Nat} {w h n l k o r : Nat} {A : mm_I} {N : Nat → Int32} (hz : zOK (w * h) n l k o r) (hW : mo_W N w h) {J : mm_I} (hJ : J 201 = N) (hD : mo_D N n) (hK : mo_K N (w * h)) {m : Int32} {x : Int32} {v : Int32} (hd : 3 ≤ d) : mm_Ci g zX11_tune d [.ref 0, .int m, .int x, .int v] sh_S (cN (w * h) n l k o r A N) (op_tune n J m x v).1 (cN (w * h) n l k o r A ((op_tune n J m x v).2 201)) := by
  by_cases hm : sp_isM n m
  · obtain ⟨j, hj, rfl⟩ := sp_isM_nat (by have := hz.2.1; omega) hm
    exact cb_tune_v hz hW hJ hD hK hj hd
  · exact cb_tune_n hz hW hJ hD hK hm hd
