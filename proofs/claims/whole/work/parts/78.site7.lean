/-! THE CLASS: its calls on ground -/
theorem up_201 {J : mm_I} {i : Nat} {v : Int32} : mm_up J 201 i v 201 = upd (J 201) i v := by
  funext j; unfold mm_up upd; rw [if_pos rfl]
theorem mm_l2c {S : mm_Sh} {Q : Option Value → mm_Sh → mm_I → Prop} {x : Int32} {I J' : mm_I} {F : (Nat → Int32) → mm_I} {p : Int32 × mm_I} (h : p = (x, J')) (hm : F (J' 201) = I) (hq : Q (some (.int p.1)) S (F (p.2 201))) : Q (some (.int x)) S I := by
  rw [h] at hq; rw [← hm]; exact hq
theorem or_n {x z : Int32} : (if 0 ≤ x then x else z) = if x < 0 then z else x := by
  by_cases c : x < 0
  · rw [if_pos c, if_neg (Int32.not_le.mpr c)]
  · rw [if_neg c, if_pos (Int32.not_lt.mp c)]
/-- kinds of CELLS are kinds -/
def mo_K (N : Nat → Int32) (c : Nat) : Prop := ∀ i, i < c → sp_wi (N (30 + i)) 0 4
set_option maxRecDepth 100000 in
set_option maxHeartbeats 600000 in
theorem cb_cell {g : mm_G} {d : Nat} {w h n l k o r : Nat} {A : mm_I} {N : Nat → Int32} (hz : zOK (w * h) n l k o r) (hW : mo_W N w h) {J : mm_I} (hJ : J 201 = N) (hD : mo_D N n) (hK : mo_K N (w * h)) {c x : Int32} (hd : 3 ≤ d) : mm_Ci g zX11_cell d [.ref 0, .int (c), .int (x)] sh_S (cN (w * h) n l k o r A N) ((op_cell w h n J c x).1) (cN (w * h) n l k o r A ((op_cell w h n J c x).2 201)) := by
  obtain ⟨hz1, hz2, hz3, hz4, hz5, hz6⟩ := id hz
  have hc := mo_W_c hW
  obtain ⟨-, -, hw1, hw2, hh1, hh2⟩ := id hW
  refine mm_Ci_of (fun Q hq => ?_)
  refine mm_begin (ls := [(0, .ref 0), (1, .int (c)), (2, .int (x))]) (Nat.le_of_ble_eq_true rfl) rfl rfl ?_
  refine mm_aload_n 0 dX11_cell_0 rfl rfl ?_
  refine mm_getr (b := 1) dX11_cell_1 rfl fk_X11_10 rfl so_0 sr_0_0 ?_
  refine mm_getr (b := 2) dX11_cell_4 rfl fk_X11_72 rfl so_1 sr_1_0 ?_
  refine mm_astore_n (ls' := [(3, .ref 2), (0, .ref 0), (1, .int (c)), (2, .int (x))]) dX11_cell_7 rfl (by decide) rfl ?_
  refine mm_iload_n 2 dX11_cell_8 rfl rfl ?_
  refine mm_if_eq (tgt := 29) dX11_cell_9 (by decide) (fun c9 => ?_) (fun c9 => ?_)
  · refine mm_ldc dX11_cell_29 rfl kc_X11_67 ?_
    refine mm_iret dX11_cell_31 rfl ⟨Nat.le_refl _, Nat.le_refl _⟩ ?_
    subst hJ; exact mm_l2c (F := fun N => cN (w * h) n l k o r A N) (by unfold op_cell; rw [if_pos (by first | exact Or.inl c17 | exact Or.inr (Or.inl c9) | exact Or.inr (Or.inr (c26)))]) rfl hq
  · refine mm_aload_n 0 dX11_cell_12 rfl rfl ?_
    refine mm_iload_n 2 dX11_cell_13 rfl rfl ?_
    refine mm_cV1i (dz := d - 1) dX11_cell_14 rfl mzX0_holds ml_X11_82 imX0_holds (by omega) so_2 ⟨rfl, rfl⟩ (cg_holds hz hW (by omega)) (Nat.le_of_ble_eq_true rfl) ⟨Nat.le_refl _, Nat.le_refl _⟩ ?_
    refine mm_if_eqB (tgt := 29) dX11_cell_17 (by decide) (fun c17 => ?_) (fun c17 => ?_)
    · refine mm_ldc dX11_cell_29 rfl kc_X11_67 ?_
      refine mm_iret dX11_cell_31 rfl ⟨Nat.le_refl _, Nat.le_refl _⟩ ?_
      subst hJ; exact mm_l2c (F := fun N => cN (w * h) n l k o r A N) (by unfold op_cell; rw [if_pos (by first | exact Or.inl c17 | exact Or.inr (Or.inl c9) | exact Or.inr (Or.inr (c26)))]) rfl hq
    · refine mm_iload_n 3 dX11_cell_20 rfl rfl ?_
      refine mm_iconst (v := 0) dX11_cell_21 rfl ?_
      refine mm_iconst (v := 3) dX11_cell_22 rfl ?_
      refine mm_cS3i (dz := d - 1) dX11_cell_23 rfl mzX11_within ml_X11_63 imX11_within (by omega) cx_within (Nat.le_of_ble_eq_true rfl) ⟨Nat.le_refl _, Nat.le_refl _⟩ ?_
      refine mm_if_neB (tgt := 32) dX11_cell_26 (by decide) (fun c26 => ?_) (fun c26 => ?_)
      · obtain ⟨y, hky, rfl⟩ := sp_isC_nat (by omega) c17
        refine mm_iload_n 3 dX11_cell_32 rfl rfl ?_
        refine mm_iconst (v := 1) dX11_cell_33 rfl ?_
        refine mm_icmp_ne (tgt := 51) dX11_cell_34 (by decide) (fun c34 => ?_) (fun c34 => ?_)
        · refine mm_aload_n 0 dX11_cell_51 rfl rfl ?_
          refine mm_getr (b := 3) dX11_cell_52 rfl fk_X11_91 rfl so_2 sr_2_2 ?_
          refine mm_iload_n 2 dX11_cell_55 rfl rfl ?_
          refine mm_iload_n 3 dX11_cell_56 rfl rfl ?_
          refine mm_cV2i (dz := d - 1) dX11_cell_57 rfl mzX5_swap ml_X11_94 imX5_swap (by omega) so_3 ⟨rfl, rfl⟩ (ct_swap rw_3 (y) (by omega) (by omega)) (Nat.le_of_ble_eq_true rfl) ⟨Nat.le_refl _, Nat.le_refl _⟩ ?_
          refine mm_top (v := N (30 + y)) (s_kind (by omega)) ?_
          refine mm_iret dX11_cell_60 rfl ⟨Nat.le_refl _, Nat.le_refl _⟩ ?_
          subst hJ; exact mm_l2c (F := fun N => cN (w * h) n l k o r A N) (by unfold op_cell; rw [if_neg (by intro q; rcases q with q | q | q; exact q c17; exact absurd q c9; exact q c26), if_neg (by rintro ⟨q1, q2⟩; first | exact c34 q1 | exact absurd c45 (Int32.not_lt.mpr q2)), vv_nI (by omega)]) (by rw [up_201]; exact (cN_up hz (lo_at4.trans (if_pos (by omega))) (sn_up (by omega) hz.1)).symm) hq
        · refine mm_aload_n 1 dX11_cell_37 rfl rfl ?_
          refine mm_getr (b := 1) dX11_cell_38 rfl fk_X11_10 rfl so_0 sr_0_0 ?_
          refine mm_iload_n 2 dX11_cell_41 rfl rfl ?_
          refine mm_cV1i (dz := d - 1) dX11_cell_42 rfl mzX8_machineOn ml_X11_86 imX8_machineOn (by omega) so_1 ⟨rfl, rfl⟩ (cg_mo hz hW hD (by omega)) (Nat.le_of_ble_eq_true rfl) ⟨Nat.le_refl _, Nat.le_refl _⟩ ?_
          refine mm_if_lt (tgt := 51) dX11_cell_45 (by decide) (fun c45 => ?_) (fun c45 => ?_)
          · refine mm_aload_n 0 dX11_cell_51 rfl rfl ?_
            refine mm_getr (b := 3) dX11_cell_52 rfl fk_X11_91 rfl so_2 sr_2_2 ?_
            refine mm_iload_n 2 dX11_cell_55 rfl rfl ?_
            refine mm_iload_n 3 dX11_cell_56 rfl rfl ?_
            refine mm_cV2i (dz := d - 1) dX11_cell_57 rfl mzX5_swap ml_X11_94 imX5_swap (by omega) so_3 ⟨rfl, rfl⟩ (ct_swap rw_3 (y) (by omega) (by omega)) (Nat.le_of_ble_eq_true rfl) ⟨Nat.le_refl _, Nat.le_refl _⟩ ?_
            refine mm_top (v := N (30 + y)) (s_kind (by omega)) ?_
            refine mm_iret dX11_cell_60 rfl ⟨Nat.le_refl _, Nat.le_refl _⟩ ?_
            subst hJ; exact mm_l2c (F := fun N => cN (w * h) n l k o r A N) (by unfold op_cell; rw [if_neg (by intro q; rcases q with q | q | q; exact q c17; exact absurd q c9; exact q c26), if_neg (by rintro ⟨q1, q2⟩; first | exact c34 q1 | exact absurd c45 (Int32.not_lt.mpr q2)), vv_nI (by omega)]) (by rw [up_201]; exact (cN_up hz (lo_at4.trans (if_pos (by omega))) (sn_up (by omega) hz.1)).symm) hq
          · refine mm_ldc dX11_cell_48 rfl kc_X11_90 ?_
            refine mm_iret dX11_cell_50 rfl ⟨Nat.le_refl _, Nat.le_refl _⟩ ?_
            subst hJ; exact mm_l2c (F := fun N => cN (w * h) n l k o r A N) (by unfold op_cell; rw [if_neg (by intro q; rcases q with q | q | q; exact q c17; exact absurd q c9; exact q c26), if_pos ⟨c34, Int32.not_lt.mp c45⟩]) rfl hq
      · refine mm_ldc dX11_cell_29 rfl kc_X11_67 ?_
        refine mm_iret dX11_cell_31 rfl ⟨Nat.le_refl _, Nat.le_refl _⟩ ?_
        subst hJ; exact mm_l2c (F := fun N => cN (w * h) n l k o r A N) (by unfold op_cell; rw [if_pos (by first | exact Or.inl c17 | exact Or.inr (Or.inl c9) | exact Or.inr (Or.inr (c26)))]) rfl hq
set_option maxRecDepth 100000 in
set_option maxHeartbeats 600000 in
theorem cb_isOf {g : mm_G} {d : Nat} {w h n l k o r : Nat} {A : mm_I} {N : Nat → Int32} (hz : zOK (w * h) n l k o r) (hW : mo_W N w h) {J : mm_I} (hJ : J 201 = N) (hD : mo_D N n) (hK : mo_K N (w * h)) {c x : Int32} (hd : 3 ≤ d) : mm_Ci g zX11_isOf d [.ref 0, .int (c), .int (x)] sh_S (cN (w * h) n l k o r A N) (op_isOf w h J c x) (cN (w * h) n l k o r A N) := by
  obtain ⟨hz1, hz2, hz3, hz4, hz5, hz6⟩ := id hz
  have hc := mo_W_c hW
  obtain ⟨-, -, hw1, hw2, hh1, hh2⟩ := id hW
  refine mm_Ci_of (fun Q hq => ?_)
  refine mm_begin (ls := [(0, .ref 0), (1, .int (c)), (2, .int (x))]) (Nat.le_of_ble_eq_true rfl) rfl rfl ?_
  refine mm_aload_n 0 dX11_isOf_0 rfl rfl ?_
  refine mm_getr (b := 1) dX11_isOf_1 rfl fk_X11_10 rfl so_0 sr_0_0 ?_
  refine mm_getr (b := 2) dX11_isOf_4 rfl fk_X11_72 rfl so_1 sr_1_0 ?_
  refine mm_iload_n 1 dX11_isOf_7 rfl rfl ?_
  refine mm_cV1i (dz := d - 1) dX11_isOf_8 rfl mzX0_holds ml_X11_82 imX0_holds (by omega) so_2 ⟨rfl, rfl⟩ (cg_holds hz hW (by omega)) (Nat.le_of_ble_eq_true rfl) ⟨Nat.le_refl _, Nat.le_refl _⟩ ?_
  refine mm_if_eqB (tgt := 23) dX11_isOf_11 (by decide) (fun c11 => ?_) (fun c11 => ?_)
  · refine mm_ldc dX11_isOf_23 rfl kc_X11_67 ?_
    refine mm_iret dX11_isOf_25 rfl ⟨Nat.le_refl _, Nat.le_refl _⟩ ?_
    subst hJ; exact mm_l1 (by unfold op_isOf; rw [if_pos (by first | exact Or.inl c11 | exact Or.inr (c20))]) hq
  · refine mm_iload_n 2 dX11_isOf_14 rfl rfl ?_
    refine mm_iconst (v := 0) dX11_isOf_15 rfl ?_
    refine mm_iconst (v := 4) dX11_isOf_16 rfl ?_
    refine mm_cS3i (dz := d - 1) dX11_isOf_17 rfl mzX11_within ml_X11_63 imX11_within (by omega) cx_within (Nat.le_of_ble_eq_true rfl) ⟨Nat.le_refl _, Nat.le_refl _⟩ ?_
    refine mm_if_neB (tgt := 26) dX11_isOf_20 (by decide) (fun c20 => ?_) (fun c20 => ?_)
    · obtain ⟨y, hky, rfl⟩ := sp_isC_nat (by omega) c11
      refine mm_aload_n 0 dX11_isOf_26 rfl rfl ?_
      refine mm_getr (b := 1) dX11_isOf_27 rfl fk_X11_10 rfl so_0 sr_0_0 ?_
      refine mm_getr (b := 2) dX11_isOf_30 rfl fk_X11_72 rfl so_1 sr_1_0 ?_
      refine mm_iload_n 1 dX11_isOf_33 rfl rfl ?_
      refine mm_iload_n 2 dX11_isOf_34 rfl rfl ?_
      refine mm_cV2i (dz := d - 1) dX11_isOf_35 rfl mzX0_isA ml_X11_114 imX0_isA (by omega) so_2 ⟨rfl, rfl⟩ (cg_isA hz hW (c := y) (by omega) (hK _ (by omega)) (by omega)) (Nat.le_of_ble_eq_true rfl) ⟨Nat.le_refl _, Nat.le_refl _⟩ ?_
      refine mm_cS1i (dz := d - 1) dX11_isOf_38 rfl mzX11_asBit ml_X11_118 imX11_asBit (by omega) cx_asBit (Nat.le_of_ble_eq_true rfl) ⟨Nat.le_refl _, Nat.le_refl _⟩ ?_
      refine mm_iret dX11_isOf_41 rfl ⟨Nat.le_refl _, Nat.le_refl _⟩ ?_
      subst hJ; exact mm_l1 (by unfold op_isOf; rw [if_neg (by intro q; rcases q with q | q; exact q c11; exact q c20), vv_nI (by omega)]) hq
    · refine mm_ldc dX11_isOf_23 rfl kc_X11_67 ?_
      refine mm_iret dX11_isOf_25 rfl ⟨Nat.le_refl _, Nat.le_refl _⟩ ?_
      subst hJ; exact mm_l1 (by unfold op_isOf; rw [if_pos (by first | exact Or.inl c11 | exact Or.inr (c20))]) hq
set_option maxRecDepth 100000 in
set_option maxHeartbeats 600000 in
theorem cb_map {g : mm_G} {d : Nat} {w h n l k o r : Nat} {A : mm_I} {N : Nat → Int32} (hz : zOK (w * h) n l k o r) (hW : mo_W N w h) {J : mm_I} (hJ : J 201 = N) (hD : mo_D N n) (hK : mo_K N (w * h)) {c x : Int32} (hd : 3 ≤ d) : mm_Ci g zX11_map d [.ref 0, .int (c), .int (x)] sh_S (cN (w * h) n l k o r A N) (op_map w h J c x) (cN (w * h) n l k o r A N) := by
  obtain ⟨hz1, hz2, hz3, hz4, hz5, hz6⟩ := id hz
  have hc := mo_W_c hW
  obtain ⟨-, -, hw1, hw2, hh1, hh2⟩ := id hW
  refine mm_Ci_of (fun Q hq => ?_)
  refine mm_begin (ls := [(0, .ref 0), (1, .int (c)), (2, .int (x))]) (Nat.le_of_ble_eq_true rfl) rfl rfl ?_
  refine mm_aload_n 0 dX11_map_0 rfl rfl ?_
  refine mm_getr (b := 1) dX11_map_1 rfl fk_X11_10 rfl so_0 sr_0_0 ?_
  refine mm_getr (b := 2) dX11_map_4 rfl fk_X11_72 rfl so_1 sr_1_0 ?_
  refine mm_iload_n 1 dX11_map_7 rfl rfl ?_
  refine mm_cV1i (dz := d - 1) dX11_map_8 rfl mzX0_holds ml_X11_82 imX0_holds (by omega) so_2 ⟨rfl, rfl⟩ (cg_holds hz hW (by omega)) (Nat.le_of_ble_eq_true rfl) ⟨Nat.le_refl _, Nat.le_refl _⟩ ?_
  refine mm_if_eqB (tgt := 23) dX11_map_11 (by decide) (fun c11 => ?_) (fun c11 => ?_)
  · refine mm_ldc dX11_map_23 rfl kc_X11_67 ?_
    refine mm_iret dX11_map_25 rfl ⟨Nat.le_refl _, Nat.le_refl _⟩ ?_
    subst hJ; exact mm_l1 (by unfold op_map; rw [if_pos (by first | exact Or.inl c11 | exact Or.inr (c20))]) hq
  · refine mm_iload_n 2 dX11_map_14 rfl rfl ?_
    refine mm_iconst (v := 0) dX11_map_15 rfl ?_
    refine mm_iconst (v := 3) dX11_map_16 rfl ?_
    refine mm_cS3i (dz := d - 1) dX11_map_17 rfl mzX11_within ml_X11_63 imX11_within (by omega) cx_within (Nat.le_of_ble_eq_true rfl) ⟨Nat.le_refl _, Nat.le_refl _⟩ ?_
    refine mm_if_neB (tgt := 26) dX11_map_20 (by decide) (fun c20 => ?_) (fun c20 => ?_)
    · obtain ⟨y, hky, rfl⟩ := sp_isC_nat (by omega) c11
      obtain ⟨j, hkj, rfl⟩ := sp_wi_n 0 3 (by decide) (by decide) c20
      refine mm_aload_n 0 dX11_map_26 rfl rfl ?_
      refine mm_getr (b := 1) dX11_map_27 rfl fk_X11_10 rfl so_0 sr_0_0 ?_
      refine mm_getr (b := 2) dX11_map_30 rfl fk_X11_72 rfl so_1 sr_1_0 ?_
      refine mm_iload_n 1 dX11_map_33 rfl rfl ?_
      refine mm_iload_n 2 dX11_map_34 rfl rfl ?_
      refine mm_cV2i (dz := d - 1) dX11_map_35 rfl mzX0_known ml_X11_122 imX0_known (by omega) so_2 ⟨rfl, rfl⟩ (cg_known hz hW (c := y) (j := j) (by omega) (by omega) (by omega)) (Nat.le_of_ble_eq_true rfl) ⟨Nat.le_refl _, Nat.le_refl _⟩ ?_
      refine mm_iret dX11_map_38 rfl ⟨Nat.le_refl _, Nat.le_refl _⟩ ?_
      subst hJ; exact mm_l1 (by unfold op_map; rw [if_neg (by intro q; rcases q with q | q; exact q c11; exact q c20), vv_nI (by omega), vv_nI (by omega)]) hq
    · refine mm_ldc dX11_map_23 rfl kc_X11_67 ?_
      refine mm_iret dX11_map_25 rfl ⟨Nat.le_refl _, Nat.le_refl _⟩ ?_
      subst hJ; exact mm_l1 (by unfold op_map; rw [if_pos (by first | exact Or.inl c11 | exact Or.inr (c20))]) hq
set_option maxRecDepth 100000 in
set_option maxHeartbeats 600000 in
theorem cb_store {g : mm_G} {d : Nat} {w h n l k o r : Nat} {A : mm_I} {N : Nat → Int32} (hz : zOK (w * h) n l k o r) (hW : mo_W N w h) {J : mm_I} (hJ : J 201 = N) (hD : mo_D N n) (hK : mo_K N (w * h)) {x v : Int32} (hd : 2 ≤ d) : mm_Ci g zX11_store d [.ref 0, .int (x), .int (v)] sh_S (cN (w * h) n l k o r A N) ((op_store J x v).1) (cN (w * h) n l k o r A ((op_store J x v).2 201)) := by
  obtain ⟨hz1, hz2, hz3, hz4, hz5, hz6⟩ := id hz
  have hc := mo_W_c hW
  obtain ⟨-, -, hw1, hw2, hh1, hh2⟩ := id hW
  refine mm_Ci_of (fun Q hq => ?_)
  refine mm_begin (ls := [(0, .ref 0), (1, .int (x)), (2, .int (v))]) (Nat.le_of_ble_eq_true rfl) rfl rfl ?_
  refine mm_iload_n 1 dX11_store_0 rfl rfl ?_
  refine mm_iconst (v := 0) dX11_store_1 rfl ?_
  refine mm_iconst (v := 2) dX11_store_2 rfl ?_
  refine mm_cS3i (dz := d - 1) dX11_store_3 rfl mzX11_within ml_X11_63 imX11_within (by omega) cx_within (Nat.le_of_ble_eq_true rfl) ⟨Nat.le_refl _, Nat.le_refl _⟩ ?_
  refine mm_if_eqB (tgt := 20) dX11_store_6 (by decide) (fun c6 => ?_) (fun c6 => ?_)
  · refine mm_ldc dX11_store_20 rfl kc_X11_67 ?_
    refine mm_iret dX11_store_22 rfl ⟨Nat.le_refl _, Nat.le_refl _⟩ ?_
    subst hJ; exact mm_l2c (F := fun N => cN (w * h) n l k o r A N) (by unfold op_store; rw [if_pos (by first | exact Or.inl c6 | exact Or.inr (c17))]) rfl hq
  · refine mm_iload_n 2 dX11_store_9 rfl rfl ?_
    refine mm_iconst (v := 0) dX11_store_10 rfl ?_
    refine mm_sipush (v := 9999) dX11_store_11 rfl ?_
    refine mm_cS3i (dz := d - 1) dX11_store_14 rfl mzX11_within ml_X11_63 imX11_within (by omega) cx_within (Nat.le_of_ble_eq_true rfl) ⟨Nat.le_refl _, Nat.le_refl _⟩ ?_
    refine mm_if_neB (tgt := 23) dX11_store_17 (by decide) (fun c17 => ?_) (fun c17 => ?_)
    · obtain ⟨j, hkj, rfl⟩ := sp_wi_n 0 2 (by decide) (by decide) c6
      refine mm_aload_n 0 dX11_store_23 rfl rfl ?_
      refine mm_getr (b := 1) dX11_store_24 rfl fk_X11_10 rfl so_0 sr_0_0 ?_
      refine mm_getr (b := 2) dX11_store_27 rfl fk_X11_72 rfl so_1 sr_1_0 ?_
      refine mm_getr (b := 11) dX11_store_30 rfl fk_X11_148 rfl so_2 sr_2_6 ?_
      refine mm_iload_n 1 dX11_store_33 rfl rfl ?_
      refine mm_iload_n 2 dX11_store_34 rfl rfl ?_
      refine mm_cV2i (dz := d - 1) dX11_store_35 rfl mzX5_swap ml_X11_94 imX5_swap (by omega) so_11 ⟨rfl, rfl⟩ (ct_swap rw_11 (j) (by omega) (by omega)) (Nat.le_of_ble_eq_true rfl) ⟨Nat.le_refl _, Nat.le_refl _⟩ ?_
      refine mm_top (v := N (10 + j)) (cN_r (lo_at12.trans (if_pos (by omega)))) ?_
      refine mm_iret dX11_store_38 rfl ⟨Nat.le_refl _, Nat.le_refl _⟩ ?_
      subst hJ; exact mm_l2c (F := fun N => cN (w * h) n l k o r A N) (by unfold op_store; rw [if_neg (by intro q; rcases q with q | q; exact q c6; exact q c17), vv_nI (by omega)]) (by rw [up_201]; exact (cN_up hz (lo_at12.trans (if_pos (by omega))) (sn_up (by omega) hz.1)).symm) hq
    · refine mm_ldc dX11_store_20 rfl kc_X11_67 ?_
      refine mm_iret dX11_store_22 rfl ⟨Nat.le_refl _, Nat.le_refl _⟩ ?_
      subst hJ; exact mm_l2c (F := fun N => cN (w * h) n l k o r A N) (by unfold op_store; rw [if_pos (by first | exact Or.inl c6 | exact Or.inr (c17))]) rfl hq
set_option maxRecDepth 100000 in
set_option maxHeartbeats 600000 in
theorem cb_told {g : mm_G} {d : Nat} {w h n l k o r : Nat} {A : mm_I} {N : Nat → Int32} (hz : zOK (w * h) n l k o r) (hW : mo_W N w h) {J : mm_I} (hJ : J 201 = N) (hD : mo_D N n) (hK : mo_K N (w * h)) {c x : Int32} (hd : 3 ≤ d) : mm_Ci g zX11_told d [.ref 0, .int (c), .int (x)] sh_S (cN (w * h) n l k o r A N) (op_told w h n J c x) (cN (w * h) n l k o r A N) := by
  obtain ⟨hz1, hz2, hz3, hz4, hz5, hz6⟩ := id hz
  have hc := mo_W_c hW
  obtain ⟨-, -, hw1, hw2, hh1, hh2⟩ := id hW
  refine mm_Ci_of (fun Q hq => ?_)
  refine mm_begin (ls := [(0, .ref 0), (1, .int (c)), (2, .int (x))]) (Nat.le_of_ble_eq_true rfl) rfl rfl ?_
  refine mm_aload_n 0 dX11_told_0 rfl rfl ?_
  refine mm_getr (b := 1) dX11_told_1 rfl fk_X11_10 rfl so_0 sr_0_0 ?_
  refine mm_getr (b := 2) dX11_told_4 rfl fk_X11_72 rfl so_1 sr_1_0 ?_
  refine mm_astore_n (ls' := [(3, .ref 2), (0, .ref 0), (1, .int (c)), (2, .int (x))]) dX11_told_7 rfl (by decide) rfl ?_
  refine mm_aload_n 0 dX11_told_8 rfl rfl ?_
  refine mm_iload_n 2 dX11_told_9 rfl rfl ?_
  refine mm_cV1i (dz := d - 1) dX11_told_10 rfl mzX0_holds ml_X11_82 imX0_holds (by omega) so_2 ⟨rfl, rfl⟩ (cg_holds hz hW (by omega)) (Nat.le_of_ble_eq_true rfl) ⟨Nat.le_refl _, Nat.le_refl _⟩ ?_
  refine mm_if_neB (tgt := 19) dX11_told_13 (by decide) (fun c13 => ?_) (fun c13 => ?_)
  · obtain ⟨y, hky, rfl⟩ := sp_isC_nat (by omega) c13
    refine mm_iload_n 3 dX11_told_19 rfl rfl ?_
    by_cases e20_0 : (x) = 0
    · refine mm_tabIn (0) (tgt := 52) dX11_told_20 e20_0 (by decide) (by decide) rfl (by decide) ?_
      refine mm_aload_n 0 dX11_told_52 rfl rfl ?_
      refine mm_getr (b := 3) dX11_told_53 rfl fk_X11_91 rfl so_2 sr_2_2 ?_
      refine mm_iload_n 2 dX11_told_56 rfl rfl ?_
      refine mm_cV1i (dz := d - 1) dX11_told_57 rfl mzX5_at ml_X11_102 imX5_at (by omega) so_3 ⟨rfl, rfl⟩ (ct_at rw_3 (y) (by omega)) (Nat.le_of_ble_eq_true rfl) ⟨Nat.le_refl _, Nat.le_refl _⟩ ?_
      refine mm_top (v := N (30 + y)) (s_kind (by omega)) ?_
      refine mm_iret dX11_told_60 rfl ⟨Nat.le_refl _, Nat.le_refl _⟩ ?_
      subst hJ; subst e20_0; exact mm_l1 (by unfold op_told; rw [if_neg (by intro q; rcases q with q | q; exact q c13; exact q ⟨by decide, by decide⟩), if_pos (by decide), vv_nI (by omega)]) hq
    by_cases e20_1 : (x) = 1
    · refine mm_tabIn (1) (tgt := 61) dX11_told_20 e20_1 (by decide) (by decide) rfl (by decide) ?_
      refine mm_aload_n 0 dX11_told_61 rfl rfl ?_
      refine mm_getr (b := 5) dX11_told_62 rfl fk_X11_105 rfl so_2 sr_2_3 ?_
      refine mm_iload_n 2 dX11_told_65 rfl rfl ?_
      refine mm_cV1i (dz := d - 1) dX11_told_66 rfl mzX5_at ml_X11_102 imX5_at (by omega) so_5 ⟨rfl, rfl⟩ (ct_at rw_5 (y) (by omega)) (Nat.le_of_ble_eq_true rfl) ⟨Nat.le_refl _, Nat.le_refl _⟩ ?_
      refine mm_top (v := N (110 + y)) (s_dust (by omega)) ?_
      refine mm_iret dX11_told_69 rfl ⟨Nat.le_refl _, Nat.le_refl _⟩ ?_
      subst hJ; subst e20_1; exact mm_l1 (by unfold op_told; rw [if_neg (by intro q; rcases q with q | q; exact q c13; exact q ⟨by decide, by decide⟩), if_neg (by decide), if_pos (by decide), vv_nI (by omega)]) hq
    by_cases e20_2 : (x) = 2
    · refine mm_tabIn (2) (tgt := 70) dX11_told_20 e20_2 (by decide) (by decide) rfl (by decide) ?_
      refine mm_aload_n 0 dX11_told_70 rfl rfl ?_
      refine mm_getr (b := 7) dX11_told_71 rfl fk_X11_108 rfl so_2 sr_2_4 ?_
      refine mm_iload_n 2 dX11_told_74 rfl rfl ?_
      refine mm_cV1i (dz := d - 1) dX11_told_75 rfl mzX5_at ml_X11_102 imX5_at (by omega) so_7 ⟨rfl, rfl⟩ (ct_at rw_7 (y) (by omega)) (Nat.le_of_ble_eq_true rfl) ⟨Nat.le_refl _, Nat.le_refl _⟩ ?_
      refine mm_top (v := N (190 + y)) (s_ice (by omega)) ?_
      refine mm_iret dX11_told_78 rfl ⟨Nat.le_refl _, Nat.le_refl _⟩ ?_
      subst hJ; subst e20_2; exact mm_l1 (by unfold op_told; rw [if_neg (by intro q; rcases q with q | q; exact q c13; exact q ⟨by decide, by decide⟩), if_neg (by decide), if_neg (by decide), if_pos (by decide), vv_nI (by omega)]) hq
    by_cases e20_3 : (x) = 3
    · refine mm_tabIn (3) (tgt := 79) dX11_told_20 e20_3 (by decide) (by decide) rfl (by decide) ?_
      refine mm_aload_n 1 dX11_told_79 rfl rfl ?_
      refine mm_getr (b := 1) dX11_told_80 rfl fk_X11_10 rfl so_0 sr_0_0 ?_
      refine mm_iload_n 2 dX11_told_83 rfl rfl ?_
      refine mm_cV1i (dz := d - 1) dX11_told_84 rfl mzX8_machineOn ml_X11_86 imX8_machineOn (by omega) so_1 ⟨rfl, rfl⟩ (cg_mo hz hW hD (by omega)) (Nat.le_of_ble_eq_true rfl) ⟨Nat.le_refl _, Nat.le_refl _⟩ ?_
      refine mm_cS1i (dz := d - 1) dX11_told_87 rfl mzX11_orNone ml_X11_111 imX11_orNone (by omega) cx_orNone (Nat.le_of_ble_eq_true rfl) ⟨Nat.le_refl _, Nat.le_refl _⟩ ?_
      refine mm_iret dX11_told_90 rfl ⟨Nat.le_refl _, Nat.le_refl _⟩ ?_
      subst hJ; subst e20_3; exact mm_l1 (by unfold op_told; rw [if_neg (by intro q; rcases q with q | q; exact q c13; exact q ⟨by decide, by decide⟩), if_neg (by decide), if_neg (by decide), if_neg (by decide), or_n]) hq
    refine mm_tabOut 0 4 (tgt := 91) dX11_told_20 rfl (by decide) (by intro k hk q; rcases (show k = 0 ∨ k = 1 ∨ k = 2 ∨ k = 3 by omega) with rfl | rfl | rfl | rfl <;> first | exact e20_0 q | exact e20_1 q | exact e20_2 q | exact e20_3 q) (by decide) ?_
    refine mm_ldc dX11_told_91 rfl kc_X11_67 ?_
    refine mm_iret dX11_told_93 rfl ⟨Nat.le_refl _, Nat.le_refl _⟩ ?_
    subst hJ; exact mm_l1 (by unfold op_told; rw [if_pos (by first | exact Or.inl c13 | exact Or.inr (fun q => by obtain ⟨j, hj, rfl⟩ := sp_wi_nat 3 (by decide) q; rcases show j = 0 ∨ j = 1 ∨ j = 2 ∨ j = 3 by omega with e | e | e | e <;> subst e <;> first | exact e20_0 rfl | exact e20_1 rfl | exact e20_2 rfl | exact e20_3 rfl))]) hq
  · refine mm_ldc dX11_told_16 rfl kc_X11_67 ?_
    refine mm_iret dX11_told_18 rfl ⟨Nat.le_refl _, Nat.le_refl _⟩ ?_
    subst hJ; exact mm_l1 (by unfold op_told; rw [if_pos (by first | exact Or.inl c13 | exact Or.inr (fun q => by obtain ⟨j, hj, rfl⟩ := sp_wi_nat 3 (by decide) q; rcases show j = 0 ∨ j = 1 ∨ j = 2 ∨ j = 3 by omega with e | e | e | e <;> subst e <;> first | exact e20_0 rfl | exact e20_1 rfl | exact e20_2 rfl | exact e20_3 rfl))]) hq
