/-! THE REFERENCE: calls on ground, base, machines, walked -/
theorem sp_wi_n {v : Int32} (a b : Nat) (ha : a < 2 ^ 31) (hb : b < 2 ^ 31) (h : sp_wi v (nI a) (nI b)) : ∃ k, (a ≤ k ∧ k ≤ b) ∧ v = nI k := by
  have h0 : ¬ v < 0 := fun q => nI_pos ha (Int32.lt_of_le_of_lt h.1 q)
  obtain ⟨k, hk, rfl⟩ := nI_of h0
  exact ⟨k, ⟨(nI_leI ha hk).mp h.1, (nI_leI hk hb).mp h.2⟩, rfl⟩
theorem mm_l1 {S : mm_Sh} {Q : Option Value → mm_Sh → mm_I → Prop} {x r : Int32} {I : mm_I} (h : r = x) (hq : Q (some (.int r)) S I) : Q (some (.int x)) S I := by rw [h] at hq; exact hq
set_option maxRecDepth 100000 in
set_option maxHeartbeats 4000000 in
theorem cm_ground {g : mm_G} {I : mm_I} {d : Nat} {a b : Int32} (hd : 1 ≤ d) : mm_Ci g zX12_ground d [.ref 200, .int a, .int b] sh_S I (op_ground I a b).1 (op_ground I a b).2 := by
  refine mm_Ci_of (fun Q hq => ?_)
  refine mm_begin (ls := [(0, .ref 200), (1, .int (a)), (2, .int (b))]) (Nat.le_of_ble_eq_true rfl) rfl rfl ?_
  refine mm_iload_n 1 dX12_ground_0 rfl rfl ?_
  refine mm_iconst (v := 2) dX12_ground_1 rfl ?_
  refine mm_bipush (v := 10) dX12_ground_2 rfl ?_
  refine mm_cS3i (dz := d - 1) dX12_ground_4 rfl mzX12_within ml_X12_82 imX12_within (by omega) cm_within (Nat.le_of_ble_eq_true rfl) ⟨Nat.le_refl _, Nat.le_refl _⟩ ?_
  refine mm_if_eqB (tgt := 20) dX12_ground_7 (by decide) (fun c7 => ?_) (fun c7 => ?_)
  · refine mm_ldc dX12_ground_20 rfl kc_X12_86 ?_
    refine mm_iret dX12_ground_22 rfl ⟨Nat.le_refl _, Nat.le_refl _⟩ ?_
    exact mm_l2 (by unfold op_ground; rw [if_pos (by first | exact Or.inl c7 | exact Or.inr (c17))]) hq
  · refine mm_iload_n 2 dX12_ground_10 rfl rfl ?_
    refine mm_iconst (v := 2) dX12_ground_11 rfl ?_
    refine mm_bipush (v := 8) dX12_ground_12 rfl ?_
    refine mm_cS3i (dz := d - 1) dX12_ground_14 rfl mzX12_within ml_X12_82 imX12_within (by omega) cm_within (Nat.le_of_ble_eq_true rfl) ⟨Nat.le_refl _, Nat.le_refl _⟩ ?_
    refine mm_if_neB (tgt := 23) dX12_ground_17 (by decide) (fun c17 => ?_) (fun c17 => ?_)
    · obtain ⟨w, hkw, rfl⟩ := sp_wi_n 2 10 (by decide) (by decide) c7
      obtain ⟨h, hkh, rfl⟩ := sp_wi_n 2 8 (by decide) (by decide) c17
      refine mm_aload_n 0 dX12_ground_23 rfl rfl ?_
      refine mm_iload_n 1 dX12_ground_24 rfl rfl ?_
      refine mm_iload_n 2 dX12_ground_25 rfl rfl ?_
      refine mm_cV2v (dz := d - 1) dX12_ground_26 rfl mzX12_layGround ml_X12_74 imX12_layGround (by omega) so_200 ⟨rfl, rfl⟩ (cm_layGround (by exact Nat.mul_le_mul (show _ ≤ 10 by omega) (show _ ≤ 8 by omega))) (Nat.le_of_ble_eq_true rfl) ⟨Nat.le_refl _, Nat.le_refl _⟩ ?_
      refine mm_aload_n 0 dX12_ground_29 rfl rfl ?_
      refine mm_cV0i (dz := d - 1) dX12_ground_30 rfl mzX12_cells ml_X12_78 imX12_cells (by omega) so_200 ⟨rfl, rfl⟩ (cm_cells (op_lg_W I w h hkw hkh)) (Nat.le_of_ble_eq_true rfl) ⟨Nat.le_refl _, Nat.le_refl _⟩ ?_
      refine mm_iret dX12_ground_33 rfl ⟨Nat.le_refl _, Nat.le_refl _⟩ ?_
      exact mm_l2 (by unfold op_ground; rw [if_neg (by intro q; rcases q with q | q; exact q c7; exact q c17), vv_nI (by omega), vv_nI (by omega)]) hq
    · refine mm_ldc dX12_ground_20 rfl kc_X12_86 ?_
      refine mm_iret dX12_ground_22 rfl ⟨Nat.le_refl _, Nat.le_refl _⟩ ?_
      exact mm_l2 (by unfold op_ground; rw [if_pos (by first | exact Or.inl c7 | exact Or.inr (c17))]) hq
set_option maxRecDepth 100000 in
set_option maxHeartbeats 4000000 in
theorem cm_cell {g : mm_G} {I : mm_I} {d : Nat} {w h : Nat} (hW : mo_W (I 201) w h) {n : Nat} (hm : I 201 16 = nI n) (hm5 : n ≤ 5) {c x : Int32} (hd : 2 ≤ d) : mm_Ci g zX12_cell d [.ref 200, .int c, .int x] sh_S I (op_cell w h n I c x).1 (op_cell w h n I c x).2 := by
  have hc := mo_W_c hW
  obtain ⟨-, -, hw1, hw2, hh1, hh2⟩ := id hW
  refine mm_Ci_of (fun Q hq => ?_)
  refine mm_begin (ls := [(0, .ref 200), (1, .int (c)), (2, .int (x))]) (Nat.le_of_ble_eq_true rfl) rfl rfl ?_
  refine mm_aload_n 0 dX12_cell_0 rfl rfl ?_
  refine mm_iload_n 1 dX12_cell_1 rfl rfl ?_
  refine mm_cV1i (dz := d - 1) dX12_cell_2 rfl mzX12_isCell ml_X12_91 imX12_isCell (by omega) so_200 ⟨rfl, rfl⟩ (cm_isCell hW (by omega)) (Nat.le_of_ble_eq_true rfl) ⟨Nat.le_refl _, Nat.le_refl _⟩ ?_
  refine mm_if_eqB (tgt := 21) dX12_cell_5 (by decide) (fun c5 => ?_) (fun c5 => ?_)
  · refine mm_ldc dX12_cell_21 rfl kc_X12_86 ?_
    refine mm_iret dX12_cell_23 rfl ⟨Nat.le_refl _, Nat.le_refl _⟩ ?_
    exact mm_l2 (by unfold op_cell; rw [if_pos (by first | exact Or.inl c5 | exact Or.inr (Or.inl c9) | exact Or.inr (Or.inr (c18)))]) hq
  · refine mm_iload_n 1 dX12_cell_8 rfl rfl ?_
    refine mm_if_eq (tgt := 21) dX12_cell_9 (by decide) (fun c9 => ?_) (fun c9 => ?_)
    · refine mm_ldc dX12_cell_21 rfl kc_X12_86 ?_
      refine mm_iret dX12_cell_23 rfl ⟨Nat.le_refl _, Nat.le_refl _⟩ ?_
      exact mm_l2 (by unfold op_cell; rw [if_pos (by first | exact Or.inl c5 | exact Or.inr (Or.inl c9) | exact Or.inr (Or.inr (c18)))]) hq
    · refine mm_iload_n 2 dX12_cell_12 rfl rfl ?_
      refine mm_iconst (v := 0) dX12_cell_13 rfl ?_
      refine mm_iconst (v := 3) dX12_cell_14 rfl ?_
      refine mm_cS3i (dz := d - 1) dX12_cell_15 rfl mzX12_within ml_X12_82 imX12_within (by omega) cm_within (Nat.le_of_ble_eq_true rfl) ⟨Nat.le_refl _, Nat.le_refl _⟩ ?_
      refine mm_if_neB (tgt := 24) dX12_cell_18 (by decide) (fun c18 => ?_) (fun c18 => ?_)
      · obtain ⟨k, hkk, rfl⟩ := sp_isC_nat (by omega) c5
        refine mm_iload_n 2 dX12_cell_24 rfl rfl ?_
        refine mm_iconst (v := 1) dX12_cell_25 rfl ?_
        refine mm_icmp_ne (tgt := 40) dX12_cell_26 (by decide) (fun c26 => ?_) (fun c26 => ?_)
        · refine mm_aload_n 0 dX12_cell_40 rfl rfl ?_
          refine mm_getr (b := 201) dX12_cell_41 rfl fk_X12_9 rfl so_200 sr_200_0 ?_
          refine mm_bipush (v := 30) dX12_cell_44 rfl ?_
          refine mm_iload_n 1 dX12_cell_46 rfl rfl ?_
          refine mm_iaddN (30) (k) dX12_cell_47 ?_
          refine mm_ialdN (30 + k) dX12_cell_48 sa_201 (by omega) (by omega) ?_
          refine mm_istore_n (ls' := [(3, .int (I 201 (30 + k))), (0, .ref 200), (1, .int (nI (k))), (2, .int (x))]) dX12_cell_49 rfl (by decide) rfl ?_
          refine mm_aload_n 1 dX12_cell_50 rfl rfl ?_
          refine mm_at (pc' := 51) rfl ?_
          refine mm_getr (b := 201) dX12_cell_51 rfl fk_X12_9 rfl so_200 sr_200_0 ?_
          refine mm_bipush (v := 30) dX12_cell_54 rfl ?_
          refine mm_iload_n 2 dX12_cell_56 rfl rfl ?_
          refine mm_iaddN (30) (k) dX12_cell_57 ?_
          refine mm_iload_n 3 dX12_cell_58 rfl rfl ?_
          refine mm_iastN (30 + k) dX12_cell_59 sa_201 (by omega) (by omega) ?_
          refine mm_iload_n 0 dX12_cell_60 rfl rfl ?_
          refine mm_iret dX12_cell_61 rfl ⟨Nat.le_refl _, Nat.le_refl _⟩ ?_
          exact mm_l2 (by unfold op_cell; rw [if_neg (by intro q; rcases q with q | q | q; exact q c5; exact absurd q c9; exact q c18), if_neg (by rintro ⟨q1, q2⟩; first | exact c26 q1 | exact absurd c34 (Int32.not_lt.mpr q2)), vv_nI (by omega)]) hq
        · refine mm_aload_n 0 dX12_cell_29 rfl rfl ?_
          refine mm_iload_n 1 dX12_cell_30 rfl rfl ?_
          refine mm_cV1i (dz := d - 1) dX12_cell_31 rfl mzX12_machineOn ml_X12_95 imX12_machineOn (by omega) so_200 ⟨rfl, rfl⟩ (cm_machineOn hm hm5 (by omega)) (Nat.le_of_ble_eq_true rfl) ⟨Nat.le_refl _, Nat.le_refl _⟩ ?_
          refine mm_if_lt (tgt := 40) dX12_cell_34 (by decide) (fun c34 => ?_) (fun c34 => ?_)
          · refine mm_aload_n 0 dX12_cell_40 rfl rfl ?_
            refine mm_getr (b := 201) dX12_cell_41 rfl fk_X12_9 rfl so_200 sr_200_0 ?_
            refine mm_bipush (v := 30) dX12_cell_44 rfl ?_
            refine mm_iload_n 1 dX12_cell_46 rfl rfl ?_
            refine mm_iaddN (30) (k) dX12_cell_47 ?_
            refine mm_ialdN (30 + k) dX12_cell_48 sa_201 (by omega) (by omega) ?_
            refine mm_istore_n (ls' := [(3, .int (I 201 (30 + k))), (0, .ref 200), (1, .int (nI (k))), (2, .int (x))]) dX12_cell_49 rfl (by decide) rfl ?_
            refine mm_aload_n 1 dX12_cell_50 rfl rfl ?_
            refine mm_at (pc' := 51) rfl ?_
            refine mm_getr (b := 201) dX12_cell_51 rfl fk_X12_9 rfl so_200 sr_200_0 ?_
            refine mm_bipush (v := 30) dX12_cell_54 rfl ?_
            refine mm_iload_n 2 dX12_cell_56 rfl rfl ?_
            refine mm_iaddN (30) (k) dX12_cell_57 ?_
            refine mm_iload_n 3 dX12_cell_58 rfl rfl ?_
            refine mm_iastN (30 + k) dX12_cell_59 sa_201 (by omega) (by omega) ?_
            refine mm_iload_n 0 dX12_cell_60 rfl rfl ?_
            refine mm_iret dX12_cell_61 rfl ⟨Nat.le_refl _, Nat.le_refl _⟩ ?_
            exact mm_l2 (by unfold op_cell; rw [if_neg (by intro q; rcases q with q | q | q; exact q c5; exact absurd q c9; exact q c18), if_neg (by rintro ⟨q1, q2⟩; first | exact c26 q1 | exact absurd c34 (Int32.not_lt.mpr q2)), vv_nI (by omega)]) hq
          · refine mm_ldc dX12_cell_37 rfl kc_X12_99 ?_
            refine mm_iret dX12_cell_39 rfl ⟨Nat.le_refl _, Nat.le_refl _⟩ ?_
            exact mm_l2 (by unfold op_cell; rw [if_neg (by intro q; rcases q with q | q | q; exact q c5; exact absurd q c9; exact q c18), if_pos ⟨c26, Int32.not_lt.mp c34⟩]) hq
      · refine mm_ldc dX12_cell_21 rfl kc_X12_86 ?_
        refine mm_iret dX12_cell_23 rfl ⟨Nat.le_refl _, Nat.le_refl _⟩ ?_
        exact mm_l2 (by unfold op_cell; rw [if_pos (by first | exact Or.inl c5 | exact Or.inr (Or.inl c9) | exact Or.inr (Or.inr (c18)))]) hq
set_option maxRecDepth 100000 in
set_option maxHeartbeats 4000000 in
theorem cm_put {g : mm_G} {I : mm_I} {d : Nat} {w h : Nat} (hW : mo_W (I 201) w h) {c x v : Int32} (hd : 2 ≤ d) : mm_Ci g zX12_put d [.ref 200, .int c, .int x, .int v] sh_S I (op_put w h I c x v).1 (op_put w h I c x v).2 := by
  have hc := mo_W_c hW
  obtain ⟨-, -, hw1, hw2, hh1, hh2⟩ := id hW
  refine mm_Ci_of (fun Q hq => ?_)
  refine mm_begin (ls := [(0, .ref 200), (1, .int (c)), (2, .int (x)), (3, .int (v))]) (Nat.le_of_ble_eq_true rfl) rfl rfl ?_
  refine mm_aload_n 0 dX12_put_0 rfl rfl ?_
  refine mm_iload_n 1 dX12_put_1 rfl rfl ?_
  refine mm_cV1i (dz := d - 1) dX12_put_2 rfl mzX12_isCell ml_X12_91 imX12_isCell (by omega) so_200 ⟨rfl, rfl⟩ (cm_isCell hW (by omega)) (Nat.le_of_ble_eq_true rfl) ⟨Nat.le_refl _, Nat.le_refl _⟩ ?_
  refine mm_if_eqB (tgt := 28) dX12_put_5 (by decide) (fun c5 => ?_) (fun c5 => ?_)
  · refine mm_ldc dX12_put_28 rfl kc_X12_86 ?_
    refine mm_iret dX12_put_30 rfl ⟨Nat.le_refl _, Nat.le_refl _⟩ ?_
    exact mm_l2 (by unfold op_put; rw [if_pos (by first | exact Or.inl c5 | exact Or.inr (Or.inl c14) | exact Or.inr (Or.inr (c25)))]) hq
  · refine mm_iload_n 2 dX12_put_8 rfl rfl ?_
    refine mm_iconst (v := 0) dX12_put_9 rfl ?_
    refine mm_iconst (v := 1) dX12_put_10 rfl ?_
    refine mm_cS3i (dz := d - 1) dX12_put_11 rfl mzX12_within ml_X12_82 imX12_within (by omega) cm_within (Nat.le_of_ble_eq_true rfl) ⟨Nat.le_refl _, Nat.le_refl _⟩ ?_
    refine mm_if_eqB (tgt := 28) dX12_put_14 (by decide) (fun c14 => ?_) (fun c14 => ?_)
    · refine mm_ldc dX12_put_28 rfl kc_X12_86 ?_
      refine mm_iret dX12_put_30 rfl ⟨Nat.le_refl _, Nat.le_refl _⟩ ?_
      exact mm_l2 (by unfold op_put; rw [if_pos (by first | exact Or.inl c5 | exact Or.inr (Or.inl c14) | exact Or.inr (Or.inr (c25)))]) hq
    · refine mm_iload_n 3 dX12_put_17 rfl rfl ?_
      refine mm_iconst (v := 0) dX12_put_18 rfl ?_
      refine mm_sipush (v := 999) dX12_put_19 rfl ?_
      refine mm_cS3i (dz := d - 1) dX12_put_22 rfl mzX12_within ml_X12_82 imX12_within (by omega) cm_within (Nat.le_of_ble_eq_true rfl) ⟨Nat.le_refl _, Nat.le_refl _⟩ ?_
      refine mm_if_neB (tgt := 31) dX12_put_25 (by decide) (fun c25 => ?_) (fun c25 => ?_)
      · obtain ⟨k, hkk, rfl⟩ := sp_isC_nat (by omega) c5
        refine mm_iload_n 2 dX12_put_31 rfl rfl ?_
        refine mm_if_ne (tgt := 42) dX12_put_32 (by decide) (fun c32 => ?_) (fun c32 => ?_)
        · refine mm_sipush (v := 190) dX12_put_42 rfl ?_
          refine mm_iload_n 1 dX12_put_45 rfl rfl ?_
          refine mm_iaddN (190) (k) dX12_put_46 ?_
          refine mm_istore (ls' := [(4, .int (nI (190 + k))), (0, .ref 200), (1, .int (nI (k))), (2, .int (x)), (3, .int (v))]) dX12_put_47 (by decide) rfl ?_
          refine mm_aload_n 1 dX12_put_49 rfl rfl ?_
          refine mm_getr (b := 201) dX12_put_50 rfl fk_X12_9 rfl so_200 sr_200_0 ?_
          refine mm_iload 0 dX12_put_53 rfl ?_
          refine mm_ialdN (190 + k) dX12_put_55 sa_201 (by omega) (by omega) ?_
          refine mm_at (pc' := 56) rfl ?_
          refine mm_istore (ls' := [(5, .int (I 201 (190 + k))), (4, .int (nI (190 + k))), (0, .ref 200), (1, .int (nI (k))), (2, .int (x)), (3, .int (v))]) dX12_put_56 (by decide) rfl ?_
          refine mm_aload_n 2 dX12_put_58 rfl rfl ?_
          refine mm_getr (b := 201) dX12_put_59 rfl fk_X12_9 rfl so_200 sr_200_0 ?_
          refine mm_iload 1 dX12_put_62 rfl ?_
          refine mm_iload_n 5 dX12_put_64 rfl rfl ?_
          refine mm_iastN (190 + k) dX12_put_65 sa_201 (by omega) (by omega) ?_
          refine mm_iload 0 dX12_put_66 rfl ?_
          refine mm_iret dX12_put_68 rfl ⟨Nat.le_refl _, Nat.le_refl _⟩ ?_
          exact mm_l2 (by unfold op_put; rw [if_neg (by intro q; rcases q with q | q | q; exact q c5; exact q c14; exact q c25)]; first | rw [if_pos c32, vv_nI (by omega)] | rw [if_neg c32, vv_nI (by omega)]) hq
        · refine mm_bipush (v := 110) dX12_put_35 rfl ?_
          refine mm_iload_n 1 dX12_put_37 rfl rfl ?_
          refine mm_iaddN (110) (k) dX12_put_38 ?_
          refine mm_goto (tgt := 47) dX12_put_39 (by decide) ?_
          refine mm_istore (ls' := [(4, .int (nI (110 + k))), (0, .ref 200), (1, .int (nI (k))), (2, .int (x)), (3, .int (v))]) dX12_put_47 (by decide) rfl ?_
          refine mm_aload_n 1 dX12_put_49 rfl rfl ?_
          refine mm_getr (b := 201) dX12_put_50 rfl fk_X12_9 rfl so_200 sr_200_0 ?_
          refine mm_iload 0 dX12_put_53 rfl ?_
          refine mm_ialdN (110 + k) dX12_put_55 sa_201 (by omega) (by omega) ?_
          refine mm_istore (ls' := [(5, .int (I 201 (110 + k))), (4, .int (nI (110 + k))), (0, .ref 200), (1, .int (nI (k))), (2, .int (x)), (3, .int (v))]) dX12_put_56 (by decide) rfl ?_
          refine mm_aload_n 2 dX12_put_58 rfl rfl ?_
          refine mm_getr (b := 201) dX12_put_59 rfl fk_X12_9 rfl so_200 sr_200_0 ?_
          refine mm_at (pc' := 62) rfl ?_
          refine mm_iload 1 dX12_put_62 rfl ?_
          refine mm_iload_n 5 dX12_put_64 rfl rfl ?_
          refine mm_iastN (110 + k) dX12_put_65 sa_201 (by omega) (by omega) ?_
          refine mm_iload 0 dX12_put_66 rfl ?_
          refine mm_iret dX12_put_68 rfl ⟨Nat.le_refl _, Nat.le_refl _⟩ ?_
          exact mm_l2 (by unfold op_put; rw [if_neg (by intro q; rcases q with q | q | q; exact q c5; exact q c14; exact q c25)]; first | rw [if_pos c32, vv_nI (by omega)] | rw [if_neg c32, vv_nI (by omega)]) hq
      · refine mm_ldc dX12_put_28 rfl kc_X12_86 ?_
        refine mm_iret dX12_put_30 rfl ⟨Nat.le_refl _, Nat.le_refl _⟩ ?_
        exact mm_l2 (by unfold op_put; rw [if_pos (by first | exact Or.inl c5 | exact Or.inr (Or.inl c14) | exact Or.inr (Or.inr (c25)))]) hq
set_option maxRecDepth 100000 in
set_option maxHeartbeats 4000000 in
theorem cm_told {g : mm_G} {I : mm_I} {d : Nat} {w h : Nat} (hW : mo_W (I 201) w h) {n : Nat} (hm : I 201 16 = nI n) (hm5 : n ≤ 5) {c x : Int32} (hd : 2 ≤ d) : mm_Ci g zX12_told d [.ref 200, .int c, .int x] sh_S I (op_told w h n I c x) I := by
  have hc := mo_W_c hW
  obtain ⟨-, -, hw1, hw2, hh1, hh2⟩ := id hW
  refine mm_Ci_of (fun Q hq => ?_)
  refine mm_begin (ls := [(0, .ref 200), (1, .int (c)), (2, .int (x))]) (Nat.le_of_ble_eq_true rfl) rfl rfl ?_
  refine mm_aload_n 0 dX12_told_0 rfl rfl ?_
  refine mm_iload_n 1 dX12_told_1 rfl rfl ?_
  refine mm_cV1i (dz := d - 1) dX12_told_2 rfl mzX12_isCell ml_X12_91 imX12_isCell (by omega) so_200 ⟨rfl, rfl⟩ (cm_isCell hW (by omega)) (Nat.le_of_ble_eq_true rfl) ⟨Nat.le_refl _, Nat.le_refl _⟩ ?_
  refine mm_if_eqB (tgt := 17) dX12_told_5 (by decide) (fun c5 => ?_) (fun c5 => ?_)
  · refine mm_ldc dX12_told_17 rfl kc_X12_86 ?_
    refine mm_iret dX12_told_19 rfl ⟨Nat.le_refl _, Nat.le_refl _⟩ ?_
    exact mm_l1 (by unfold op_told; rw [if_pos (by first | exact Or.inl c5 | exact Or.inr (c14))]) hq
  · refine mm_iload_n 2 dX12_told_8 rfl rfl ?_
    refine mm_iconst (v := 0) dX12_told_9 rfl ?_
    refine mm_iconst (v := 3) dX12_told_10 rfl ?_
    refine mm_cS3i (dz := d - 1) dX12_told_11 rfl mzX12_within ml_X12_82 imX12_within (by omega) cm_within (Nat.le_of_ble_eq_true rfl) ⟨Nat.le_refl _, Nat.le_refl _⟩ ?_
    refine mm_if_neB (tgt := 20) dX12_told_14 (by decide) (fun c14 => ?_) (fun c14 => ?_)
    · obtain ⟨k, hkk, rfl⟩ := sp_isC_nat (by omega) c5
      refine mm_aload_n 0 dX12_told_20 rfl rfl ?_
      refine mm_iload_n 1 dX12_told_21 rfl rfl ?_
      refine mm_cV1i (dz := d - 1) dX12_told_22 rfl mzX12_machineOn ml_X12_95 imX12_machineOn (by omega) so_200 ⟨rfl, rfl⟩ (cm_machineOn hm hm5 (by omega)) (Nat.le_of_ble_eq_true rfl) ⟨Nat.le_refl _, Nat.le_refl _⟩ ?_
      refine mm_istore_n (ls' := [(3, .int (sp_mo (I 201) (nI (k)) n)), (0, .ref 200), (1, .int (nI (k))), (2, .int (x))]) dX12_told_25 rfl (by decide) rfl ?_
      refine mm_iload_n 3 dX12_told_26 rfl rfl ?_
      refine mm_if_ne (tgt := 42) dX12_told_27 (by decide) (fun c27 => ?_) (fun c27 => ?_)
      · refine mm_iload_n 3 dX12_told_42 rfl rfl ?_
        refine mm_iconst (v := 1) dX12_told_43 rfl ?_
        refine mm_icmp_ne (tgt := 59) dX12_told_44 (by decide) (fun c44 => ?_) (fun c44 => ?_)
        · refine mm_iload_n 3 dX12_told_59 rfl rfl ?_
          refine mm_iconst (v := 2) dX12_told_60 rfl ?_
          refine mm_icmp_ne (tgt := 77) dX12_told_61 (by decide) (fun c61 => ?_) (fun c61 => ?_)
          · refine mm_iload_n 0 dX12_told_77 rfl rfl ?_
            refine mm_if_ge (tgt := 86) dX12_told_78 (by decide) (fun c78 => ?_) (fun c78 => ?_)
            · refine mm_iload_n 0 dX12_told_86 rfl rfl ?_
              refine mm_iret dX12_told_87 rfl ⟨Nat.le_refl _, Nat.le_refl _⟩ ?_
              exact mm_l1 (by unfold op_told; rw [if_neg (by intro q; rcases q with q | q; exact q c5; exact q c14)]; first | rw [if_pos c27, vv_nI (by omega)] | rw [if_neg c27, if_pos c44, vv_nI (by omega)] | rw [if_neg c27, if_neg c44, if_pos c61, vv_nI (by omega)] | rw [if_neg c27, if_neg c44, if_neg c61, if_pos c78] | rw [if_neg c27, if_neg c44, if_neg c61, if_neg c78]) hq
            · refine mm_ldc dX12_told_81 rfl kc_X12_100 ?_
              refine mm_goto (tgt := 87) dX12_told_83 (by decide) ?_
              refine mm_iret dX12_told_87 rfl ⟨Nat.le_refl _, Nat.le_refl _⟩ ?_
              exact mm_l1 (by unfold op_told; rw [if_neg (by intro q; rcases q with q | q; exact q c5; exact q c14)]; first | rw [if_pos c27, vv_nI (by omega)] | rw [if_neg c27, if_pos c44, vv_nI (by omega)] | rw [if_neg c27, if_neg c44, if_pos c61, vv_nI (by omega)] | rw [if_neg c27, if_neg c44, if_neg c61, if_pos c78] | rw [if_neg c27, if_neg c44, if_neg c61, if_neg c78]) hq
          · refine mm_aload_n 1 dX12_told_64 rfl rfl ?_
            refine mm_getr (b := 201) dX12_told_65 rfl fk_X12_9 rfl so_200 sr_200_0 ?_
            refine mm_sipush (v := 190) dX12_told_68 rfl ?_
            refine mm_iload_n 2 dX12_told_71 rfl rfl ?_
            refine mm_iaddN (190) (k) dX12_told_72 ?_
            refine mm_ialdN (190 + k) dX12_told_73 sa_201 (by omega) (by omega) ?_
            refine mm_goto (tgt := 87) dX12_told_74 (by decide) ?_
            refine mm_iret dX12_told_87 rfl ⟨Nat.le_refl _, Nat.le_refl _⟩ ?_
            exact mm_l1 (by unfold op_told; rw [if_neg (by intro q; rcases q with q | q; exact q c5; exact q c14)]; first | rw [if_pos c27, vv_nI (by omega)] | rw [if_neg c27, if_pos c44, vv_nI (by omega)] | rw [if_neg c27, if_neg c44, if_pos c61, vv_nI (by omega)] | rw [if_neg c27, if_neg c44, if_neg c61, if_pos c78] | rw [if_neg c27, if_neg c44, if_neg c61, if_neg c78]) hq
        · refine mm_aload_n 1 dX12_told_47 rfl rfl ?_
          refine mm_getr (b := 201) dX12_told_48 rfl fk_X12_9 rfl so_200 sr_200_0 ?_
          refine mm_bipush (v := 110) dX12_told_51 rfl ?_
          refine mm_iload_n 2 dX12_told_53 rfl rfl ?_
          refine mm_iaddN (110) (k) dX12_told_54 ?_
          refine mm_ialdN (110 + k) dX12_told_55 sa_201 (by omega) (by omega) ?_
          refine mm_goto (tgt := 87) dX12_told_56 (by decide) ?_
          refine mm_iret dX12_told_87 rfl ⟨Nat.le_refl _, Nat.le_refl _⟩ ?_
          exact mm_l1 (by unfold op_told; rw [if_neg (by intro q; rcases q with q | q; exact q c5; exact q c14)]; first | rw [if_pos c27, vv_nI (by omega)] | rw [if_neg c27, if_pos c44, vv_nI (by omega)] | rw [if_neg c27, if_neg c44, if_pos c61, vv_nI (by omega)] | rw [if_neg c27, if_neg c44, if_neg c61, if_pos c78] | rw [if_neg c27, if_neg c44, if_neg c61, if_neg c78]) hq
      · refine mm_aload_n 1 dX12_told_30 rfl rfl ?_
        refine mm_getr (b := 201) dX12_told_31 rfl fk_X12_9 rfl so_200 sr_200_0 ?_
        refine mm_bipush (v := 30) dX12_told_34 rfl ?_
        refine mm_iload_n 2 dX12_told_36 rfl rfl ?_
        refine mm_iaddN (30) (k) dX12_told_37 ?_
        refine mm_ialdN (30 + k) dX12_told_38 sa_201 (by omega) (by omega) ?_
        refine mm_goto (tgt := 87) dX12_told_39 (by decide) ?_
        refine mm_iret dX12_told_87 rfl ⟨Nat.le_refl _, Nat.le_refl _⟩ ?_
        exact mm_l1 (by unfold op_told; rw [if_neg (by intro q; rcases q with q | q; exact q c5; exact q c14)]; first | rw [if_pos c27, vv_nI (by omega)] | rw [if_neg c27, if_pos c44, vv_nI (by omega)] | rw [if_neg c27, if_neg c44, if_pos c61, vv_nI (by omega)] | rw [if_neg c27, if_neg c44, if_neg c61, if_pos c78] | rw [if_neg c27, if_neg c44, if_neg c61, if_neg c78]) hq
    · refine mm_ldc dX12_told_17 rfl kc_X12_86 ?_
      refine mm_iret dX12_told_19 rfl ⟨Nat.le_refl _, Nat.le_refl _⟩ ?_
      exact mm_l1 (by unfold op_told; rw [if_pos (by first | exact Or.inl c5 | exact Or.inr (c14))]) hq
set_option maxRecDepth 100000 in
set_option maxHeartbeats 4000000 in
theorem cm_isOf {g : mm_G} {I : mm_I} {d : Nat} {w h : Nat} (hW : mo_W (I 201) w h) {c x : Int32} (hd : 2 ≤ d) : mm_Ci g zX12_isOf d [.ref 200, .int c, .int x] sh_S I (op_isOf w h I c x) I := by
  have hc := mo_W_c hW
  obtain ⟨-, -, hw1, hw2, hh1, hh2⟩ := id hW
  refine mm_Ci_of (fun Q hq => ?_)
  refine mm_begin (ls := [(0, .ref 200), (1, .int (c)), (2, .int (x))]) (Nat.le_of_ble_eq_true rfl) rfl rfl ?_
  refine mm_aload_n 0 dX12_isOf_0 rfl rfl ?_
  refine mm_iload_n 1 dX12_isOf_1 rfl rfl ?_
  refine mm_cV1i (dz := d - 1) dX12_isOf_2 rfl mzX12_isCell ml_X12_91 imX12_isCell (by omega) so_200 ⟨rfl, rfl⟩ (cm_isCell hW (by omega)) (Nat.le_of_ble_eq_true rfl) ⟨Nat.le_refl _, Nat.le_refl _⟩ ?_
  refine mm_if_eqB (tgt := 17) dX12_isOf_5 (by decide) (fun c5 => ?_) (fun c5 => ?_)
  · refine mm_ldc dX12_isOf_17 rfl kc_X12_86 ?_
    refine mm_goto (tgt := 36) dX12_isOf_19 (by decide) ?_
    refine mm_iret dX12_isOf_36 rfl ⟨Nat.le_refl _, Nat.le_refl _⟩ ?_
    exact mm_l1 (by unfold op_isOf; rw [if_pos (by first | exact Or.inl c5 | exact Or.inr (c14))]) hq
  · refine mm_iload_n 2 dX12_isOf_8 rfl rfl ?_
    refine mm_iconst (v := 0) dX12_isOf_9 rfl ?_
    refine mm_iconst (v := 4) dX12_isOf_10 rfl ?_
    refine mm_cS3i (dz := d - 1) dX12_isOf_11 rfl mzX12_within ml_X12_82 imX12_within (by omega) cm_within (Nat.le_of_ble_eq_true rfl) ⟨Nat.le_refl _, Nat.le_refl _⟩ ?_
    refine mm_if_neB (tgt := 22) dX12_isOf_14 (by decide) (fun c14 => ?_) (fun c14 => ?_)
    · obtain ⟨k, hkk, rfl⟩ := sp_isC_nat (by omega) c5
      refine mm_aload_n 0 dX12_isOf_22 rfl rfl ?_
      refine mm_iload_n 1 dX12_isOf_23 rfl rfl ?_
      refine mm_iload_n 2 dX12_isOf_24 rfl rfl ?_
      refine mm_cV2i (dz := d - 1) dX12_isOf_25 rfl mzX12_isOfKind ml_X12_101 imX12_isOfKind (by omega) so_200 ⟨rfl, rfl⟩ (cm_isOfKind (by omega)) (Nat.le_of_ble_eq_true rfl) ⟨Nat.le_refl _, Nat.le_refl _⟩ ?_
      refine mm_if_eqB (tgt := 35) dX12_isOf_28 (by decide) (fun c28 => ?_) (fun c28 => ?_)
      · refine mm_iconst (v := 0) dX12_isOf_35 rfl ?_
        refine mm_iret dX12_isOf_36 rfl ⟨Nat.le_refl _, Nat.le_refl _⟩ ?_
        exact mm_l1 (by unfold op_isOf; rw [if_neg (by intro q; rcases q with q | q; exact q c5; exact q c14), vv_nI (by omega)]; first | rw [if_pos c28] | rw [if_neg c28]) hq
      · refine mm_iconst (v := 1) dX12_isOf_31 rfl ?_
        refine mm_goto (tgt := 36) dX12_isOf_32 (by decide) ?_
        refine mm_iret dX12_isOf_36 rfl ⟨Nat.le_refl _, Nat.le_refl _⟩ ?_
        exact mm_l1 (by unfold op_isOf; rw [if_neg (by intro q; rcases q with q | q; exact q c5; exact q c14), vv_nI (by omega)]; first | rw [if_pos c28] | rw [if_neg c28]) hq
    · refine mm_ldc dX12_isOf_17 rfl kc_X12_86 ?_
      refine mm_goto (tgt := 36) dX12_isOf_19 (by decide) ?_
      refine mm_iret dX12_isOf_36 rfl ⟨Nat.le_refl _, Nat.le_refl _⟩ ?_
      exact mm_l1 (by unfold op_isOf; rw [if_pos (by first | exact Or.inl c5 | exact Or.inr (c14))]) hq
set_option maxRecDepth 100000 in
set_option maxHeartbeats 4000000 in
theorem cm_map {g : mm_G} {I : mm_I} {d : Nat} {w h : Nat} (hW : mo_W (I 201) w h) {c x : Int32} (hd : 2 ≤ d) : mm_Ci g zX12_map d [.ref 200, .int c, .int x] sh_S I (op_map w h I c x) I := by
  have hc := mo_W_c hW
  obtain ⟨-, -, hw1, hw2, hh1, hh2⟩ := id hW
  refine mm_Ci_of (fun Q hq => ?_)
  refine mm_begin (ls := [(0, .ref 200), (1, .int (c)), (2, .int (x))]) (Nat.le_of_ble_eq_true rfl) rfl rfl ?_
  refine mm_aload_n 0 dX12_map_0 rfl rfl ?_
  refine mm_iload_n 1 dX12_map_1 rfl rfl ?_
  refine mm_cV1i (dz := d - 1) dX12_map_2 rfl mzX12_isCell ml_X12_91 imX12_isCell (by omega) so_200 ⟨rfl, rfl⟩ (cm_isCell hW (by omega)) (Nat.le_of_ble_eq_true rfl) ⟨Nat.le_refl _, Nat.le_refl _⟩ ?_
  refine mm_if_eqB (tgt := 17) dX12_map_5 (by decide) (fun c5 => ?_) (fun c5 => ?_)
  · refine mm_ldc dX12_map_17 rfl kc_X12_86 ?_
    refine mm_iret dX12_map_19 rfl ⟨Nat.le_refl _, Nat.le_refl _⟩ ?_
    exact mm_l1 (by unfold op_map; rw [if_pos (by first | exact Or.inl c5 | exact Or.inr (c14))]) hq
  · refine mm_iload_n 2 dX12_map_8 rfl rfl ?_
    refine mm_iconst (v := 0) dX12_map_9 rfl ?_
    refine mm_iconst (v := 3) dX12_map_10 rfl ?_
    refine mm_cS3i (dz := d - 1) dX12_map_11 rfl mzX12_within ml_X12_82 imX12_within (by omega) cm_within (Nat.le_of_ble_eq_true rfl) ⟨Nat.le_refl _, Nat.le_refl _⟩ ?_
    refine mm_if_neB (tgt := 20) dX12_map_14 (by decide) (fun c14 => ?_) (fun c14 => ?_)
    · obtain ⟨k, hkk, rfl⟩ := sp_isC_nat (by omega) c5
      obtain ⟨j, hkj, rfl⟩ := sp_wi_n 0 3 (by decide) (by decide) c14
      refine mm_aload_n 0 dX12_map_20 rfl rfl ?_
      refine mm_getr (b := 201) dX12_map_21 rfl fk_X12_9 rfl so_200 sr_200_0 ?_
      refine mm_sipush (v := 270) dX12_map_24 rfl ?_
      refine mm_iconst (v := 4) dX12_map_27 rfl ?_
      refine mm_iload_n 1 dX12_map_28 rfl rfl ?_
      refine mm_imulN (4) (k) dX12_map_29 ?_
      refine mm_iaddN (270) (4 * k) dX12_map_30 ?_
      refine mm_iconst (v := 3) dX12_map_31 rfl ?_
      refine mm_at (pc' := 32) rfl ?_
      refine mm_iaddN (270 + (4 * k)) (3) dX12_map_32 ?_
      refine mm_ialdN ((270 + (4 * k)) + 3) dX12_map_33 sa_201 (by omega) (by omega) ?_
      refine mm_if_ge (tgt := 42) dX12_map_34 (by decide) (fun c34 => ?_) (fun c34 => ?_)
      · refine mm_aload_n 0 dX12_map_42 rfl rfl ?_
        refine mm_getr (b := 201) dX12_map_43 rfl fk_X12_9 rfl so_200 sr_200_0 ?_
        refine mm_sipush (v := 270) dX12_map_46 rfl ?_
        refine mm_iconst (v := 4) dX12_map_49 rfl ?_
        refine mm_iload_n 1 dX12_map_50 rfl rfl ?_
        refine mm_imulN (4) (k) dX12_map_51 ?_
        refine mm_iaddN (270) (4 * k) dX12_map_52 ?_
        refine mm_iload_n 2 dX12_map_53 rfl rfl ?_
        refine mm_at (pc' := 54) rfl ?_
        refine mm_iaddN (270 + (4 * k)) (j) dX12_map_54 ?_
        refine mm_ialdN ((270 + (4 * k)) + j) dX12_map_55 sa_201 (by omega) (by omega) ?_
        refine mm_iret dX12_map_56 rfl ⟨Nat.le_refl _, Nat.le_refl _⟩ ?_
        exact mm_l1 (by unfold op_map; rw [if_neg (by intro q; rcases q with q | q; exact q c5; exact q c14), vv_nI (by omega), if_neg (Int32.not_lt.mpr c34), vv_nI (by omega)]) hq
      · refine mm_ldc dX12_map_37 rfl kc_X12_100 ?_
        refine mm_goto (tgt := 56) dX12_map_39 (by decide) ?_
        refine mm_iret dX12_map_56 rfl ⟨Nat.le_refl _, Nat.le_refl _⟩ ?_
        exact mm_l1 (by unfold op_map; rw [if_neg (by intro q; rcases q with q | q; exact q c5; exact q c14), vv_nI (by omega), if_pos (Int32.not_le.mp c34)]) hq
    · refine mm_ldc dX12_map_17 rfl kc_X12_86 ?_
      refine mm_iret dX12_map_19 rfl ⟨Nat.le_refl _, Nat.le_refl _⟩ ?_
      exact mm_l1 (by unfold op_map; rw [if_pos (by first | exact Or.inl c5 | exact Or.inr (c14))]) hq
set_option maxRecDepth 100000 in
set_option maxHeartbeats 4000000 in
theorem cm_store {g : mm_G} {I : mm_I} {d : Nat} {x v : Int32} (hd : 1 ≤ d) : mm_Ci g zX12_store d [.ref 200, .int x, .int v] sh_S I (op_store I x v).1 (op_store I x v).2 := by
  refine mm_Ci_of (fun Q hq => ?_)
  refine mm_begin (ls := [(0, .ref 200), (1, .int (x)), (2, .int (v))]) (Nat.le_of_ble_eq_true rfl) rfl rfl ?_
  refine mm_iload_n 1 dX12_store_0 rfl rfl ?_
  refine mm_iconst (v := 0) dX12_store_1 rfl ?_
  refine mm_iconst (v := 2) dX12_store_2 rfl ?_
  refine mm_cS3i (dz := d - 1) dX12_store_3 rfl mzX12_within ml_X12_82 imX12_within (by omega) cm_within (Nat.le_of_ble_eq_true rfl) ⟨Nat.le_refl _, Nat.le_refl _⟩ ?_
  refine mm_if_eqB (tgt := 20) dX12_store_6 (by decide) (fun c6 => ?_) (fun c6 => ?_)
  · refine mm_ldc dX12_store_20 rfl kc_X12_86 ?_
    refine mm_iret dX12_store_22 rfl ⟨Nat.le_refl _, Nat.le_refl _⟩ ?_
    exact mm_l2 (by unfold op_store; rw [if_pos (by first | exact Or.inl c6 | exact Or.inr (c17))]) hq
  · refine mm_iload_n 2 dX12_store_9 rfl rfl ?_
    refine mm_iconst (v := 0) dX12_store_10 rfl ?_
    refine mm_sipush (v := 9999) dX12_store_11 rfl ?_
    refine mm_cS3i (dz := d - 1) dX12_store_14 rfl mzX12_within ml_X12_82 imX12_within (by omega) cm_within (Nat.le_of_ble_eq_true rfl) ⟨Nat.le_refl _, Nat.le_refl _⟩ ?_
    refine mm_if_neB (tgt := 23) dX12_store_17 (by decide) (fun c17 => ?_) (fun c17 => ?_)
    · obtain ⟨k, hkk, rfl⟩ := sp_wi_n 0 2 (by decide) (by decide) c6
      refine mm_aload_n 0 dX12_store_23 rfl rfl ?_
      refine mm_getr (b := 201) dX12_store_24 rfl fk_X12_9 rfl so_200 sr_200_0 ?_
      refine mm_bipush (v := 10) dX12_store_27 rfl ?_
      refine mm_iload_n 1 dX12_store_29 rfl rfl ?_
      refine mm_iaddN (10) (k) dX12_store_30 ?_
      refine mm_ialdN (10 + k) dX12_store_31 sa_201 (by omega) (by omega) ?_
      refine mm_istore_n (ls' := [(3, .int (I 201 (10 + k))), (0, .ref 200), (1, .int (nI (k))), (2, .int (v))]) dX12_store_32 rfl (by decide) rfl ?_
      refine mm_aload_n 1 dX12_store_33 rfl rfl ?_
      refine mm_at (pc' := 34) rfl ?_
      refine mm_getr (b := 201) dX12_store_34 rfl fk_X12_9 rfl so_200 sr_200_0 ?_
      refine mm_bipush (v := 10) dX12_store_37 rfl ?_
      refine mm_iload_n 2 dX12_store_39 rfl rfl ?_
      refine mm_iaddN (10) (k) dX12_store_40 ?_
      refine mm_iload_n 3 dX12_store_41 rfl rfl ?_
      refine mm_iastN (10 + k) dX12_store_42 sa_201 (by omega) (by omega) ?_
      refine mm_iload_n 0 dX12_store_43 rfl rfl ?_
      refine mm_iret dX12_store_44 rfl ⟨Nat.le_refl _, Nat.le_refl _⟩ ?_
      exact mm_l2 (by unfold op_store; rw [if_neg (by intro q; rcases q with q | q; exact q c6; exact q c17), vv_nI (by omega)]) hq
    · refine mm_ldc dX12_store_20 rfl kc_X12_86 ?_
      refine mm_iret dX12_store_22 rfl ⟨Nat.le_refl _, Nat.le_refl _⟩ ?_
      exact mm_l2 (by unfold op_store; rw [if_pos (by first | exact Or.inl c6 | exact Or.inr (c17))]) hq
set_option maxRecDepth 100000 in
set_option maxHeartbeats 4000000 in
theorem cm_isRule {g : mm_G} {S : mm_Sh} {I : mm_I} {d : Nat} {k v : Int32} (hd : 1 ≤ d) : mm_Ci g zX12_isRule d [.int k, .int v] S I (if sp_rule k v then 1 else 0) I := by
  refine mm_Ci_of (fun Q hq => ?_)
  refine mm_begin (ls := [(0, .int (k)), (1, .int (v))]) (Nat.le_of_ble_eq_true rfl) rfl rfl ?_
  refine mm_iload_n 0 dX12_isRule_0 rfl rfl ?_
  by_cases e1_0 : (k) = 0
  · refine mm_tabIn (0) (tgt := 32) dX12_isRule_1 e1_0 (by decide) (by decide) rfl (by decide) ?_
    refine mm_iload_n 1 dX12_isRule_32 rfl rfl ?_
    refine mm_iconst (v := 1) dX12_isRule_33 rfl ?_
    refine mm_bipush (v := 24) dX12_isRule_34 rfl ?_
    refine mm_cS3i (dz := d - 1) dX12_isRule_36 rfl mzX12_within ml_X12_82 imX12_within (by omega) cm_within (Nat.le_of_ble_eq_true rfl) ⟨Nat.le_refl _, Nat.le_refl _⟩ ?_
    refine mm_zret dX12_isRule_39 rfl mm_b01 ⟨Nat.le_refl _, Nat.le_refl _⟩ ?_
    exact mm_li (mm_iff (by simp [sp_rule, *])) rfl hq
  by_cases e1_1 : (k) = 1
  · refine mm_tabIn (1) (tgt := 40) dX12_isRule_1 e1_1 (by decide) (by decide) rfl (by decide) ?_
    refine mm_iload_n 1 dX12_isRule_40 rfl rfl ?_
    refine mm_iconst (v := 0) dX12_isRule_41 rfl ?_
    refine mm_bipush (v := 24) dX12_isRule_42 rfl ?_
    refine mm_cS3i (dz := d - 1) dX12_isRule_44 rfl mzX12_within ml_X12_82 imX12_within (by omega) cm_within (Nat.le_of_ble_eq_true rfl) ⟨Nat.le_refl _, Nat.le_refl _⟩ ?_
    refine mm_zret dX12_isRule_47 rfl mm_b01 ⟨Nat.le_refl _, Nat.le_refl _⟩ ?_
    exact mm_li (mm_iff (by simp [sp_rule, *])) rfl hq
  by_cases e1_2 : (k) = 2
  · refine mm_tabIn (2) (tgt := 48) dX12_isRule_1 e1_2 (by decide) (by decide) rfl (by decide) ?_
    refine mm_iload_n 1 dX12_isRule_48 rfl rfl ?_
    refine mm_iconst (v := 0) dX12_isRule_49 rfl ?_
    refine mm_sipush (v := 9999) dX12_isRule_50 rfl ?_
    refine mm_cS3i (dz := d - 1) dX12_isRule_53 rfl mzX12_within ml_X12_82 imX12_within (by omega) cm_within (Nat.le_of_ble_eq_true rfl) ⟨Nat.le_refl _, Nat.le_refl _⟩ ?_
    refine mm_zret dX12_isRule_56 rfl mm_b01 ⟨Nat.le_refl _, Nat.le_refl _⟩ ?_
    exact mm_li (mm_iff (by simp [sp_rule, *])) rfl hq
  by_cases e1_3 : (k) = 3
  · refine mm_tabIn (3) (tgt := 57) dX12_isRule_1 e1_3 (by decide) (by decide) rfl (by decide) ?_
    refine mm_iload_n 1 dX12_isRule_57 rfl rfl ?_
    refine mm_iconst (v := 0) dX12_isRule_58 rfl ?_
    refine mm_bipush (v := 99) dX12_isRule_59 rfl ?_
    refine mm_cS3i (dz := d - 1) dX12_isRule_61 rfl mzX12_within ml_X12_82 imX12_within (by omega) cm_within (Nat.le_of_ble_eq_true rfl) ⟨Nat.le_refl _, Nat.le_refl _⟩ ?_
    refine mm_zret dX12_isRule_64 rfl mm_b01 ⟨Nat.le_refl _, Nat.le_refl _⟩ ?_
    exact mm_li (mm_iff (by simp [sp_rule, *])) rfl hq
  refine mm_tabOut 0 4 (tgt := 65) dX12_isRule_1 rfl (by decide) (by intro k hk q; rcases (show k = 0 ∨ k = 1 ∨ k = 2 ∨ k = 3 by omega) with rfl | rfl | rfl | rfl <;> first | exact e1_0 q | exact e1_1 q | exact e1_2 q | exact e1_3 q) (by decide) ?_
  refine mm_iload_n 0 dX12_isRule_65 rfl rfl ?_
  refine mm_iconst (v := 4) dX12_isRule_66 rfl ?_
  refine mm_icmp_ne (tgt := 84) dX12_isRule_67 (by decide) (fun c67 => ?_) (fun c67 => ?_)
  · refine mm_iconst (v := 0) dX12_isRule_84 rfl ?_
    refine mm_zret dX12_isRule_85 rfl (by decide) ⟨Nat.le_refl _, Nat.le_refl _⟩ ?_
    exact mm_li (by simp [sp_rule, *]) rfl hq
  · refine mm_iload_n 1 dX12_isRule_70 rfl rfl ?_
    refine mm_iconst (v := 0) dX12_isRule_71 rfl ?_
    refine mm_bipush (v := 9) dX12_isRule_72 rfl ?_
    refine mm_cS3i (dz := d - 1) dX12_isRule_74 rfl mzX12_within ml_X12_82 imX12_within (by omega) cm_within (Nat.le_of_ble_eq_true rfl) ⟨Nat.le_refl _, Nat.le_refl _⟩ ?_
    have K77 : mm_Ex g zX12_isRule d (0, 0) (0, 0) S (I) 85 [(0, .int (k)), (1, .int (v))] [.int (if sp_wi v 0 9 then 1 else 0)] Q := by
      refine mm_zret dX12_isRule_85 rfl mm_b01 ⟨Nat.le_refl _, Nat.le_refl _⟩ ?_
      exact mm_li (mm_iff (by simp [sp_rule, *])) rfl hq
    refine mm_if_eqB (tgt := 84) dX12_isRule_77 (by decide) (fun c77 => ?_) (fun c77 => ?_)
    · refine mm_iconst (v := 0) dX12_isRule_84 rfl ?_
      exact mm_top (by first | rfl | (simp [c77]; done) | (rw [if_pos (by simp_all)]; done) | (rw [if_neg (by simp_all)]; done) | (rw [if_pos (by omega)]; done) | (rw [if_neg (by omega)]; done)) K77
    · refine mm_iconst (v := 1) dX12_isRule_80 rfl ?_
      refine mm_goto (tgt := 85) dX12_isRule_81 (by decide) ?_
      exact mm_top (by first | rfl | (simp [c77]; done) | (rw [if_pos (by simp_all)]; done) | (rw [if_neg (by simp_all)]; done) | (rw [if_pos (by omega)]; done) | (rw [if_neg (by omega)]; done)) K77
theorem sp_rule_n {k v : Int32} (h : sp_rule k v) : ∃ j, j ≤ 4 ∧ k = nI j := by
  rcases h with h | h | h | h | h
  · exact ⟨0, by omega, h.1⟩
  · exact ⟨1, by omega, h.1⟩
  · exact ⟨2, by omega, h.1⟩
  · exact ⟨3, by omega, h.1⟩
  · exact ⟨4, by omega, h.1⟩
set_option maxRecDepth 100000 in
set_option maxHeartbeats 4000000 in
theorem cm_rule {g : mm_G} {I : mm_I} {d : Nat} {k v : Int32} (hd : 2 ≤ d) : mm_Ci g zX12_rule d [.ref 200, .int k, .int v] sh_S I (op_rule I k v).1 (op_rule I k v).2 := by
  refine mm_Ci_of (fun Q hq => ?_)
  refine mm_begin (ls := [(0, .ref 200), (1, .int (k)), (2, .int (v))]) (Nat.le_of_ble_eq_true rfl) rfl rfl ?_
  refine mm_iload_n 1 dX12_rule_0 rfl rfl ?_
  refine mm_iload_n 2 dX12_rule_1 rfl rfl ?_
  refine mm_cS2i (dz := d - 1) dX12_rule_2 rfl mzX12_isRule ml_X12_118 imX12_isRule (by omega) (cm_isRule (by omega)) (Nat.le_of_ble_eq_true rfl) ⟨Nat.le_refl _, Nat.le_refl _⟩ ?_
  refine mm_if_neB (tgt := 11) dX12_rule_5 (by decide) (fun c5 => ?_) (fun c5 => ?_)
  · obtain ⟨j, hj, rfl⟩ := sp_rule_n c5
    refine mm_aload_n 0 dX12_rule_11 rfl rfl ?_
    refine mm_getr (b := 201) dX12_rule_12 rfl fk_X12_9 rfl so_200 sr_200_0 ?_
    refine mm_iconst (v := 2) dX12_rule_15 rfl ?_
    refine mm_iload_n 1 dX12_rule_16 rfl rfl ?_
    refine mm_iaddN (2) (j) dX12_rule_17 ?_
    refine mm_ialdN (2 + j) dX12_rule_18 sa_201 (by omega) (by omega) ?_
    refine mm_istore_n (ls' := [(3, .int (I 201 (2 + j))), (0, .ref 200), (1, .int (nI (j))), (2, .int (v))]) dX12_rule_19 rfl (by decide) rfl ?_
    refine mm_aload_n 1 dX12_rule_20 rfl rfl ?_
    refine mm_at (pc' := 21) rfl ?_
    refine mm_getr (b := 201) dX12_rule_21 rfl fk_X12_9 rfl so_200 sr_200_0 ?_
    refine mm_iconst (v := 2) dX12_rule_24 rfl ?_
    refine mm_iload_n 2 dX12_rule_25 rfl rfl ?_
    refine mm_iaddN (2) (j) dX12_rule_26 ?_
    refine mm_iload_n 3 dX12_rule_27 rfl rfl ?_
    refine mm_iastN (2 + j) dX12_rule_28 sa_201 (by omega) (by omega) ?_
    refine mm_iload_n 0 dX12_rule_29 rfl rfl ?_
    refine mm_iret dX12_rule_30 rfl ⟨Nat.le_refl _, Nat.le_refl _⟩ ?_
    exact mm_l2 (by unfold op_rule; rw [if_neg (fun q => q c5), vv_nI (by omega)]) hq
  · refine mm_ldc dX12_rule_8 rfl kc_X12_86 ?_
    refine mm_iret dX12_rule_10 rfl ⟨Nat.le_refl _, Nat.le_refl _⟩ ?_
    exact mm_l2 (by unfold op_rule; rw [if_pos c5]) hq
set_option maxRecDepth 100000 in
set_option maxHeartbeats 4000000 in
theorem cm_load {g : mm_G} {I : mm_I} {d : Nat} {l : Nat} (hl : I 201 15 = nI l) (hl8 : l ≤ 8) {p v : Int32} (hd : 1 ≤ d) : mm_Ci g zX12_load d [.ref 200, .int p, .int v] sh_S I (op_load l I p v).1 (op_load l I p v).2 := by
  refine mm_Ci_of (fun Q hq => ?_)
  refine mm_begin (ls := [(0, .ref 200), (1, .int (p)), (2, .int (v))]) (Nat.le_of_ble_eq_true rfl) rfl rfl ?_
  refine mm_iload_n 1 dX12_load_0 rfl rfl ?_
  refine mm_iconst (v := 1) dX12_load_1 rfl ?_
  refine mm_bipush (v := 50) dX12_load_2 rfl ?_
  refine mm_cS3i (dz := d - 1) dX12_load_4 rfl mzX12_within ml_X12_82 imX12_within (by omega) cm_within (Nat.le_of_ble_eq_true rfl) ⟨Nat.le_refl _, Nat.le_refl _⟩ ?_
  refine mm_if_eqB (tgt := 20) dX12_load_7 (by decide) (fun c7 => ?_) (fun c7 => ?_)
  · refine mm_ldc dX12_load_20 rfl kc_X12_86 ?_
    refine mm_iret dX12_load_22 rfl ⟨Nat.le_refl _, Nat.le_refl _⟩ ?_
    exact mm_l2 (by unfold op_load; rw [if_pos (by first | exact Or.inl c7 | exact Or.inr (c17))]) hq
  · refine mm_iload_n 2 dX12_load_10 rfl rfl ?_
    refine mm_iconst (v := 1) dX12_load_11 rfl ?_
    refine mm_bipush (v := 99) dX12_load_12 rfl ?_
    refine mm_cS3i (dz := d - 1) dX12_load_14 rfl mzX12_within ml_X12_82 imX12_within (by omega) cm_within (Nat.le_of_ble_eq_true rfl) ⟨Nat.le_refl _, Nat.le_refl _⟩ ?_
    refine mm_if_neB (tgt := 23) dX12_load_17 (by decide) (fun c17 => ?_) (fun c17 => ?_)
    · refine mm_aload_n 0 dX12_load_23 rfl rfl ?_
      refine mm_getr (b := 201) dX12_load_24 rfl fk_X12_9 rfl so_200 sr_200_0 ?_
      refine mm_bipush (v := 15) dX12_load_27 rfl ?_
      refine mm_ialdN (15) dX12_load_29 sa_201 (by omega) (by omega) ?_
      refine mm_top (v := nI (l)) hl ?_
      refine mm_istore_n (ls' := [(3, .int (nI (l))), (0, .ref 200), (1, .int (p)), (2, .int (v))]) dX12_load_30 rfl (by decide) rfl ?_
      refine mm_iload_n 0 dX12_load_31 rfl rfl ?_
      refine mm_bipush (v := 8) dX12_load_32 rfl ?_
      refine mm_icmp_neN (l) (8) (tgt := 40) dX12_load_34 (by decide) (by omega) (by omega) (fun c34 => ?_) (fun c34 => ?_)
      · refine mm_aload_n 1 dX12_load_40 rfl rfl ?_
        refine mm_getr (b := 201) dX12_load_41 rfl fk_X12_9 rfl so_200 sr_200_0 ?_
        refine mm_sipush (v := 590) dX12_load_44 rfl ?_
        refine mm_iload_n 0 dX12_load_47 rfl rfl ?_
        refine mm_iaddN (590) (l) dX12_load_48 ?_
        refine mm_iload_n 2 dX12_load_49 rfl rfl ?_
        refine mm_iastN (590 + l) dX12_load_50 sa_201 (by omega) (by omega) ?_
        refine mm_aload_n 1 dX12_load_51 rfl rfl ?_
        refine mm_at (pc' := 52) rfl ?_
        refine mm_getr (b := 201) dX12_load_52 rfl fk_X12_9 rfl so_200 sr_200_0 ?_
        refine mm_sipush (v := 598) dX12_load_55 rfl ?_
        refine mm_iload_n 0 dX12_load_58 rfl rfl ?_
        refine mm_iaddN (598) (l) dX12_load_59 ?_
        refine mm_iload_n 3 dX12_load_60 rfl rfl ?_
        refine mm_iastN (598 + l) dX12_load_61 sa_201 (by omega) (by omega) ?_
        refine mm_aload_n 1 dX12_load_62 rfl rfl ?_
        refine mm_getr (b := 201) dX12_load_63 rfl fk_X12_9 rfl so_200 sr_200_0 ?_
        refine mm_at (pc' := 66) rfl ?_
        refine mm_bipush (v := 15) dX12_load_66 rfl ?_
        refine mm_dup2 dX12_load_68 rfl rfl ?_
        refine mm_ialdN (15) dX12_load_69 sa_201 (by omega) (by omega) ?_
        refine mm_top (v := nI (l)) (by rw [mm_up_ni (by omega), mm_up_ni (by omega)]; exact hl) ?_
        refine mm_iconst (v := 1) dX12_load_70 rfl ?_
        refine mm_iaddN (l) (1) dX12_load_71 ?_
        refine mm_iastN (15) dX12_load_72 sa_201 (by omega) (by omega) ?_
        refine mm_iload_n 0 dX12_load_73 rfl rfl ?_
        refine mm_iret dX12_load_74 rfl ⟨Nat.le_refl _, Nat.le_refl _⟩ ?_
        exact mm_l2 (by unfold op_load; rw [if_neg (by intro q; rcases q with q | q; exact q c7; exact q c17), if_neg c34]) hq
      · refine mm_ldc dX12_load_37 rfl kc_X12_121 ?_
        refine mm_iret dX12_load_39 rfl ⟨Nat.le_refl _, Nat.le_refl _⟩ ?_
        exact mm_l2 (by unfold op_load; rw [if_neg (by intro q; rcases q with q | q; exact q c7; exact q c17), if_pos c34]) hq
    · refine mm_ldc dX12_load_20 rfl kc_X12_86 ?_
      refine mm_iret dX12_load_22 rfl ⟨Nat.le_refl _, Nat.le_refl _⟩ ?_
      exact mm_l2 (by unfold op_load; rw [if_pos (by first | exact Or.inl c7 | exact Or.inr (c17))]) hq
theorem sp_cyc {N : Nat → Int32} {a b : Nat} (h2 : N 2 = nI a) (h3 : N 3 = nI b) (ha : 1 ≤ a ∧ a ≤ 24) (hb : b ≤ 24) : ¬ N 2 + N 3 = 0 := by
  rw [h2, h3, nI_add]
  exact nI_ne0 (by omega) (by omega)
set_option maxRecDepth 100000 in
set_option maxHeartbeats 4000000 in
theorem cm_rest {g : mm_G} {I : mm_I} {d : Nat} {la lb : Nat} (h2 : I 201 2 = nI la) (h3 : I 201 3 = nI lb) (hla : 1 ≤ la ∧ la ≤ 24) (hlb : lb ≤ 24) : mm_Ci g zX12_restOfTick d [.ref 200] sh_S I (sp_rest (I 201)) I := by
  refine mm_Ci_of (fun Q hq => ?_)
  refine mm_begin (ls := [(0, .ref 200)]) (Nat.le_of_ble_eq_true rfl) rfl rfl ?_
  refine mm_aload_n 0 dX12_restOfTick_0 rfl rfl ?_
  refine mm_getr (b := 201) dX12_restOfTick_1 rfl fk_X12_9 rfl so_200 sr_200_0 ?_
  refine mm_bipush (v := 7) dX12_restOfTick_4 rfl ?_
  refine mm_ialdN (7) dX12_restOfTick_6 sa_201 (by omega) (by omega) ?_
  refine mm_aload_n 0 dX12_restOfTick_7 rfl rfl ?_
  refine mm_getr (b := 201) dX12_restOfTick_8 rfl fk_X12_9 rfl so_200 sr_200_0 ?_
  refine mm_iconst (v := 2) dX12_restOfTick_11 rfl ?_
  refine mm_ialdN (2) dX12_restOfTick_12 sa_201 (by omega) (by omega) ?_
  refine mm_at (pc' := 13) rfl ?_
  refine mm_aload_n 0 dX12_restOfTick_13 rfl rfl ?_
  refine mm_getr (b := 201) dX12_restOfTick_14 rfl fk_X12_9 rfl so_200 sr_200_0 ?_
  refine mm_iconst (v := 3) dX12_restOfTick_17 rfl ?_
  refine mm_ialdN (3) dX12_restOfTick_18 sa_201 (by omega) (by omega) ?_
  refine mm_iadd dX12_restOfTick_19 ?_
  refine mm_irem dX12_restOfTick_20 (sp_cyc h2 h3 hla hlb) ?_
  refine mm_iret dX12_restOfTick_21 rfl ⟨Nat.le_refl _, Nat.le_refl _⟩ ?_
  exact hq
set_option maxRecDepth 100000 in
set_option maxHeartbeats 4000000 in
theorem cm_isLight {g : mm_G} {I : mm_I} {d : Nat} {la lb : Nat} (h2 : I 201 2 = nI la) (h3 : I 201 3 = nI lb) (hla : 1 ≤ la ∧ la ≤ 24) (hlb : lb ≤ 24) (hd : 1 ≤ d) : mm_Ci g zX12_isLight d [.ref 200] sh_S I (if sp_light (I 201) then 1 else 0) I := by
  refine mm_Ci_of (fun Q hq => ?_)
  refine mm_begin (ls := [(0, .ref 200)]) (Nat.le_of_ble_eq_true rfl) rfl rfl ?_
  refine mm_aload_n 0 dX12_isLight_0 rfl rfl ?_
  refine mm_cV0i (dz := d - 1) dX12_isLight_1 rfl mzX12_restOfTick ml_X12_122 imX12_restOfTick (by omega) so_200 ⟨rfl, rfl⟩ (cm_rest h2 h3 hla hlb) (Nat.le_of_ble_eq_true rfl) ⟨Nat.le_refl _, Nat.le_refl _⟩ ?_
  refine mm_aload_n 0 dX12_isLight_4 rfl rfl ?_
  refine mm_getr (b := 201) dX12_isLight_5 rfl fk_X12_9 rfl so_200 sr_200_0 ?_
  refine mm_iconst (v := 2) dX12_isLight_8 rfl ?_
  refine mm_ialdN (2) dX12_isLight_9 sa_201 (by omega) (by omega) ?_
  have K10 : mm_Ex g zX12_isLight d (0, 0) (0, 0) sh_S (I) 18 [(0, .ref 200)] [.int (if ¬ ((I 201 2) ≤ (sp_rest (I 201))) then 1 else 0)] Q := by
    refine mm_zret dX12_isLight_18 rfl mm_b01 ⟨Nat.le_refl _, Nat.le_refl _⟩ ?_
    exact mm_li (mm_iff (by rw [Int32.not_le])) rfl hq
  refine mm_icmp_ge (tgt := 17) dX12_isLight_10 (by decide) (fun c10 => ?_) (fun c10 => ?_)
  · refine mm_iconst (v := 0) dX12_isLight_17 rfl ?_
    exact mm_top (by first | rfl | (simp [c10]; done) | (rw [if_pos (by simp_all)]; done) | (rw [if_neg (by simp_all)]; done) | (rw [if_pos (by omega)]; done) | (rw [if_neg (by omega)]; done)) K10
  · refine mm_iconst (v := 1) dX12_isLight_13 rfl ?_
    refine mm_goto (tgt := 18) dX12_isLight_14 (by decide) ?_
    exact mm_top (by first | rfl | (simp [c10]; done) | (rw [if_pos (by simp_all)]; done) | (rw [if_neg (by simp_all)]; done) | (rw [if_pos (by omega)]; done) | (rw [if_neg (by omega)]; done)) K10
set_option maxRecDepth 100000 in
set_option maxHeartbeats 4000000 in
theorem cm_base {g : mm_G} {I : mm_I} {d : Nat} {la lb : Nat} (h2 : I 201 2 = nI la) (h3 : I 201 3 = nI lb) (hla : 1 ≤ la ∧ la ≤ 24) (hlb : lb ≤ 24) {k : Int32} (hd : 2 ≤ d) : mm_Ci g zX12_base d [.ref 200, .int k] sh_S I (op_base I k) I := by
  refine mm_Ci_of (fun Q hq => ?_)
  refine mm_begin (ls := [(0, .ref 200), (1, .int (k))]) (Nat.le_of_ble_eq_true rfl) rfl rfl ?_
  refine mm_iload_n 1 dX12_base_0 rfl rfl ?_
  by_cases e1_0 : (k) = 0
  · refine mm_tabIn (0) (tgt := 52) dX12_base_1 e1_0 (by decide) (by decide) rfl (by decide) ?_
    subst e1_0
    refine mm_aload_n 0 dX12_base_52 rfl rfl ?_
    refine mm_getr (b := 201) dX12_base_53 rfl fk_X12_9 rfl so_200 sr_200_0 ?_
    refine mm_bipush (v := 7) dX12_base_56 rfl ?_
    refine mm_ialdN (7) dX12_base_58 sa_201 (by omega) (by omega) ?_
    refine mm_iret dX12_base_59 rfl ⟨Nat.le_refl _, Nat.le_refl _⟩ ?_
    exact mm_l1 (by unfold op_base; first | (simp; done) | (simp [c64]; done) | (simp [e1_0, e1_1, e1_2, e1_3, e1_4, e1_5, e1_6, e1_7, e1_8]; done)) hq
  by_cases e1_1 : (k) = 1
  · refine mm_tabIn (1) (tgt := 60) dX12_base_1 e1_1 (by decide) (by decide) rfl (by decide) ?_
    subst e1_1
    refine mm_aload_n 0 dX12_base_60 rfl rfl ?_
    refine mm_cV0i (dz := d - 1) dX12_base_61 rfl mzX12_isLight ml_X12_125 imX12_isLight (by omega) so_200 ⟨rfl, rfl⟩ (cm_isLight h2 h3 hla hlb (by omega)) (Nat.le_of_ble_eq_true rfl) ⟨Nat.le_refl _, Nat.le_refl _⟩ ?_
    refine mm_if_eqB (tgt := 71) dX12_base_64 (by decide) (fun c64 => ?_) (fun c64 => ?_)
    · refine mm_iconst (v := 0) dX12_base_71 rfl ?_
      refine mm_iret dX12_base_72 rfl ⟨Nat.le_refl _, Nat.le_refl _⟩ ?_
      exact mm_l1 (by unfold op_base; first | (simp; done) | (simp [c64]; done) | (simp [e1_0, e1_1, e1_2, e1_3, e1_4, e1_5, e1_6, e1_7, e1_8]; done)) hq
    · refine mm_iconst (v := 1) dX12_base_67 rfl ?_
      refine mm_goto (tgt := 72) dX12_base_68 (by decide) ?_
      refine mm_iret dX12_base_72 rfl ⟨Nat.le_refl _, Nat.le_refl _⟩ ?_
      exact mm_l1 (by unfold op_base; first | (simp; done) | (simp [c64]; done) | (simp [e1_0, e1_1, e1_2, e1_3, e1_4, e1_5, e1_6, e1_7, e1_8]; done)) hq
  by_cases e1_2 : (k) = 2
  · refine mm_tabIn (2) (tgt := 73) dX12_base_1 e1_2 (by decide) (by decide) rfl (by decide) ?_
    subst e1_2
    refine mm_aload_n 0 dX12_base_73 rfl rfl ?_
    refine mm_getr (b := 201) dX12_base_74 rfl fk_X12_9 rfl so_200 sr_200_0 ?_
    refine mm_iconst (v := 4) dX12_base_77 rfl ?_
    refine mm_ialdN (4) dX12_base_78 sa_201 (by omega) (by omega) ?_
    refine mm_iret dX12_base_79 rfl ⟨Nat.le_refl _, Nat.le_refl _⟩ ?_
    exact mm_l1 (by unfold op_base; first | (simp; done) | (simp [c64]; done) | (simp [e1_0, e1_1, e1_2, e1_3, e1_4, e1_5, e1_6, e1_7, e1_8]; done)) hq
  by_cases e1_3 : (k) = 3
  · refine mm_tabIn (3) (tgt := 80) dX12_base_1 e1_3 (by decide) (by decide) rfl (by decide) ?_
    subst e1_3
    refine mm_aload_n 0 dX12_base_80 rfl rfl ?_
    refine mm_getr (b := 201) dX12_base_81 rfl fk_X12_9 rfl so_200 sr_200_0 ?_
    refine mm_iconst (v := 5) dX12_base_84 rfl ?_
    refine mm_ialdN (5) dX12_base_85 sa_201 (by omega) (by omega) ?_
    refine mm_iret dX12_base_86 rfl ⟨Nat.le_refl _, Nat.le_refl _⟩ ?_
    exact mm_l1 (by unfold op_base; first | (simp; done) | (simp [c64]; done) | (simp [e1_0, e1_1, e1_2, e1_3, e1_4, e1_5, e1_6, e1_7, e1_8]; done)) hq
  by_cases e1_4 : (k) = 4
  · refine mm_tabIn (4) (tgt := 87) dX12_base_1 e1_4 (by decide) (by decide) rfl (by decide) ?_
    subst e1_4
    refine mm_aload_n 0 dX12_base_87 rfl rfl ?_
    refine mm_getr (b := 201) dX12_base_88 rfl fk_X12_9 rfl so_200 sr_200_0 ?_
    refine mm_bipush (v := 8) dX12_base_91 rfl ?_
    refine mm_ialdN (8) dX12_base_93 sa_201 (by omega) (by omega) ?_
    refine mm_iret dX12_base_94 rfl ⟨Nat.le_refl _, Nat.le_refl _⟩ ?_
    exact mm_l1 (by unfold op_base; first | (simp; done) | (simp [c64]; done) | (simp [e1_0, e1_1, e1_2, e1_3, e1_4, e1_5, e1_6, e1_7, e1_8]; done)) hq
  by_cases e1_5 : (k) = 5
  · refine mm_tabIn (5) (tgt := 95) dX12_base_1 e1_5 (by decide) (by decide) rfl (by decide) ?_
    subst e1_5
    refine mm_aload_n 0 dX12_base_95 rfl rfl ?_
    refine mm_getr (b := 201) dX12_base_96 rfl fk_X12_9 rfl so_200 sr_200_0 ?_
    refine mm_bipush (v := 9) dX12_base_99 rfl ?_
    refine mm_ialdN (9) dX12_base_101 sa_201 (by omega) (by omega) ?_
    refine mm_iret dX12_base_102 rfl ⟨Nat.le_refl _, Nat.le_refl _⟩ ?_
    exact mm_l1 (by unfold op_base; first | (simp; done) | (simp [c64]; done) | (simp [e1_0, e1_1, e1_2, e1_3, e1_4, e1_5, e1_6, e1_7, e1_8]; done)) hq
  by_cases e1_6 : (k) = 6
  · refine mm_tabIn (6) (tgt := 103) dX12_base_1 e1_6 (by decide) (by decide) rfl (by decide) ?_
    subst e1_6
    refine mm_aload_n 0 dX12_base_103 rfl rfl ?_
    refine mm_getr (b := 201) dX12_base_104 rfl fk_X12_9 rfl so_200 sr_200_0 ?_
    refine mm_bipush (v := 10) dX12_base_107 rfl ?_
    refine mm_iload_n 1 dX12_base_109 rfl rfl ?_
    refine mm_iaddN (10) (6) dX12_base_110 ?_
    refine mm_bipush (v := 6) dX12_base_111 rfl ?_
    refine mm_isubN (10 + 6) (6) dX12_base_113 (by omega) ?_
    refine mm_ialdN ((10 + 6) - 6) dX12_base_114 sa_201 (by omega) (by omega) ?_
    refine mm_at (pc' := 115) rfl ?_
    refine mm_iret dX12_base_115 rfl ⟨Nat.le_refl _, Nat.le_refl _⟩ ?_
    exact mm_l1 (by unfold op_base; first | (simp; done) | (simp [c64]; done) | (simp [e1_0, e1_1, e1_2, e1_3, e1_4, e1_5, e1_6, e1_7, e1_8]; done)) hq
  by_cases e1_7 : (k) = 7
  · refine mm_tabIn (7) (tgt := 103) dX12_base_1 e1_7 (by decide) (by decide) rfl (by decide) ?_
    subst e1_7
    refine mm_aload_n 0 dX12_base_103 rfl rfl ?_
    refine mm_getr (b := 201) dX12_base_104 rfl fk_X12_9 rfl so_200 sr_200_0 ?_
    refine mm_bipush (v := 10) dX12_base_107 rfl ?_
    refine mm_iload_n 1 dX12_base_109 rfl rfl ?_
    refine mm_iaddN (10) (7) dX12_base_110 ?_
    refine mm_bipush (v := 6) dX12_base_111 rfl ?_
    refine mm_isubN (10 + 7) (6) dX12_base_113 (by omega) ?_
    refine mm_ialdN ((10 + 7) - 6) dX12_base_114 sa_201 (by omega) (by omega) ?_
    refine mm_at (pc' := 115) rfl ?_
    refine mm_iret dX12_base_115 rfl ⟨Nat.le_refl _, Nat.le_refl _⟩ ?_
    exact mm_l1 (by unfold op_base; first | (simp; done) | (simp [c64]; done) | (simp [e1_0, e1_1, e1_2, e1_3, e1_4, e1_5, e1_6, e1_7, e1_8]; done)) hq
  by_cases e1_8 : (k) = 8
  · refine mm_tabIn (8) (tgt := 103) dX12_base_1 e1_8 (by decide) (by decide) rfl (by decide) ?_
    subst e1_8
    refine mm_aload_n 0 dX12_base_103 rfl rfl ?_
    refine mm_getr (b := 201) dX12_base_104 rfl fk_X12_9 rfl so_200 sr_200_0 ?_
    refine mm_bipush (v := 10) dX12_base_107 rfl ?_
    refine mm_iload_n 1 dX12_base_109 rfl rfl ?_
    refine mm_iaddN (10) (8) dX12_base_110 ?_
    refine mm_bipush (v := 6) dX12_base_111 rfl ?_
    refine mm_isubN (10 + 8) (6) dX12_base_113 (by omega) ?_
    refine mm_ialdN ((10 + 8) - 6) dX12_base_114 sa_201 (by omega) (by omega) ?_
    refine mm_at (pc' := 115) rfl ?_
    refine mm_iret dX12_base_115 rfl ⟨Nat.le_refl _, Nat.le_refl _⟩ ?_
    exact mm_l1 (by unfold op_base; first | (simp; done) | (simp [c64]; done) | (simp [e1_0, e1_1, e1_2, e1_3, e1_4, e1_5, e1_6, e1_7, e1_8]; done)) hq
  refine mm_tabOut 0 9 (tgt := 116) dX12_base_1 rfl (by decide) (by intro k hk q; rcases (show k = 0 ∨ k = 1 ∨ k = 2 ∨ k = 3 ∨ k = 4 ∨ k = 5 ∨ k = 6 ∨ k = 7 ∨ k = 8 by omega) with rfl | rfl | rfl | rfl | rfl | rfl | rfl | rfl | rfl <;> first | exact e1_0 q | exact e1_1 q | exact e1_2 q | exact e1_3 q | exact e1_4 q | exact e1_5 q | exact e1_6 q | exact e1_7 q | exact e1_8 q) (by decide) ?_
  refine mm_ldc dX12_base_116 rfl kc_X12_86 ?_
  refine mm_iret dX12_base_118 rfl ⟨Nat.le_refl _, Nat.le_refl _⟩ ?_
  exact mm_l1 (by unfold op_base; first | (simp; done) | (simp [c64]; done) | (simp [e1_0, e1_1, e1_2, e1_3, e1_4, e1_5, e1_6, e1_7, e1_8]; done)) hq
set_option maxRecDepth 100000 in
set_option maxHeartbeats 4000000 in
theorem cm_machine {g : mm_G} {I : mm_I} {d : Nat} {w h : Nat} (hW : mo_W (I 201) w h) {n : Nat} (hm : I 201 16 = nI n) (hm5 : n ≤ 5) {k x : Int32} (hd : 2 ≤ d) : mm_Ci g zX12_machine d [.ref 200, .int k, .int x] sh_S I (op_machine w h n I k x).1 (op_machine w h n I k x).2 := by
  have hc := mo_W_c hW
  obtain ⟨-, -, hw1, hw2, hh1, hh2⟩ := id hW
  refine mm_Ci_of (fun Q hq => ?_)
  refine mm_begin (ls := [(0, .ref 200), (1, .int (k)), (2, .int (x))]) (Nat.le_of_ble_eq_true rfl) rfl rfl ?_
  refine mm_iload_n 1 dX12_machine_0 rfl rfl ?_
  refine mm_iconst (v := 0) dX12_machine_1 rfl ?_
  refine mm_iconst (v := 3) dX12_machine_2 rfl ?_
  refine mm_cS3i (dz := d - 1) dX12_machine_3 rfl mzX12_within ml_X12_82 imX12_within (by omega) cm_within (Nat.le_of_ble_eq_true rfl) ⟨Nat.le_refl _, Nat.le_refl _⟩ ?_
  refine mm_if_eqB (tgt := 17) dX12_machine_6 (by decide) (fun c6 => ?_) (fun c6 => ?_)
  · refine mm_ldc dX12_machine_17 rfl kc_X12_86 ?_
    refine mm_iret dX12_machine_19 rfl ⟨Nat.le_refl _, Nat.le_refl _⟩ ?_
    exact mm_l2 (by unfold op_machine; rw [if_pos (by first | exact Or.inl c6 | exact Or.inr (c14))]) hq
  · refine mm_aload_n 0 dX12_machine_9 rfl rfl ?_
    refine mm_iload_n 2 dX12_machine_10 rfl rfl ?_
    refine mm_cV1i (dz := d - 1) dX12_machine_11 rfl mzX12_isCell ml_X12_91 imX12_isCell (by omega) so_200 ⟨rfl, rfl⟩ (cm_isCell hW (by omega)) (Nat.le_of_ble_eq_true rfl) ⟨Nat.le_refl _, Nat.le_refl _⟩ ?_
    refine mm_if_neB (tgt := 20) dX12_machine_14 (by decide) (fun c14 => ?_) (fun c14 => ?_)
    · obtain ⟨c, hkc, rfl⟩ := sp_isC_nat (by omega) c14
      refine mm_aload_n 0 dX12_machine_20 rfl rfl ?_
      refine mm_getr (b := 201) dX12_machine_21 rfl fk_X12_9 rfl so_200 sr_200_0 ?_
      refine mm_bipush (v := 30) dX12_machine_24 rfl ?_
      refine mm_iload_n 2 dX12_machine_26 rfl rfl ?_
      refine mm_iaddN (30) (c) dX12_machine_27 ?_
      refine mm_ialdN (30 + c) dX12_machine_28 sa_201 (by omega) (by omega) ?_
      refine mm_iconst (v := 1) dX12_machine_29 rfl ?_
      refine mm_icmp_eq (tgt := 41) dX12_machine_30 (by decide) (fun c30 => ?_) (fun c30 => ?_)
      · refine mm_ldc dX12_machine_41 rfl kc_X12_99 ?_
        refine mm_iret dX12_machine_43 rfl ⟨Nat.le_refl _, Nat.le_refl _⟩ ?_
        exact mm_l2 (by unfold op_machine; rw [if_neg (by intro q; rcases q with q | q; exact q c6; exact q c14), vv_nI (by omega), if_pos (by first | exact Or.inl c30 | exact Or.inr (Int32.not_lt.mp c38))]) hq
      · refine mm_aload_n 0 dX12_machine_33 rfl rfl ?_
        refine mm_iload_n 2 dX12_machine_34 rfl rfl ?_
        refine mm_cV1i (dz := d - 1) dX12_machine_35 rfl mzX12_machineOn ml_X12_95 imX12_machineOn (by omega) so_200 ⟨rfl, rfl⟩ (cm_machineOn hm hm5 (by omega)) (Nat.le_of_ble_eq_true rfl) ⟨Nat.le_refl _, Nat.le_refl _⟩ ?_
        refine mm_if_lt (tgt := 44) dX12_machine_38 (by decide) (fun c38 => ?_) (fun c38 => ?_)
        · refine mm_aload_n 0 dX12_machine_44 rfl rfl ?_
          refine mm_getr (b := 201) dX12_machine_45 rfl fk_X12_9 rfl so_200 sr_200_0 ?_
          refine mm_bipush (v := 16) dX12_machine_48 rfl ?_
          refine mm_ialdN (16) dX12_machine_50 sa_201 (by omega) (by omega) ?_
          refine mm_top (v := nI (n)) hm ?_
          refine mm_istore_n (ls' := [(3, .int (nI (n))), (0, .ref 200), (1, .int (k)), (2, .int (nI (c)))]) dX12_machine_51 rfl (by decide) rfl ?_
          refine mm_iload_n 0 dX12_machine_52 rfl rfl ?_
          refine mm_iconst (v := 5) dX12_machine_53 rfl ?_
          refine mm_icmp_neN (n) (5) (tgt := 60) dX12_machine_54 (by decide) (by omega) (by omega) (fun c54 => ?_) (fun c54 => ?_)
          · refine mm_aload_n 1 dX12_machine_60 rfl rfl ?_
            refine mm_getr (b := 201) dX12_machine_61 rfl fk_X12_9 rfl so_200 sr_200_0 ?_
            refine mm_iload_n 0 dX12_machine_64 rfl rfl ?_
            refine mm_iconst (v := 0) dX12_machine_65 rfl ?_
            refine mm_cS2i (dz := d - 1) dX12_machine_66 rfl mzX12_of ml_X12_87 imX12_of (by omega) (cm_of (n) (0)) (Nat.le_of_ble_eq_true rfl) ⟨Nat.le_refl _, Nat.le_refl _⟩ ?_
            refine mm_iload_n 2 dX12_machine_69 rfl rfl ?_
            refine mm_iastN (630 + 40 * n + 0) dX12_machine_70 sa_201 (by omega) (by omega) ?_
            refine mm_aload_n 1 dX12_machine_71 rfl rfl ?_
            refine mm_at (pc' := 72) rfl ?_
            refine mm_getr (b := 201) dX12_machine_72 rfl fk_X12_9 rfl so_200 sr_200_0 ?_
            refine mm_iload_n 0 dX12_machine_75 rfl rfl ?_
            refine mm_iconst (v := 1) dX12_machine_76 rfl ?_
            refine mm_cS2i (dz := d - 1) dX12_machine_77 rfl mzX12_of ml_X12_87 imX12_of (by omega) (cm_of (n) (1)) (Nat.le_of_ble_eq_true rfl) ⟨Nat.le_refl _, Nat.le_refl _⟩ ?_
            refine mm_iload_n 3 dX12_machine_80 rfl rfl ?_
            refine mm_iastN (630 + 40 * n + 1) dX12_machine_81 sa_201 (by omega) (by omega) ?_
            refine mm_aload_n 1 dX12_machine_82 rfl rfl ?_
            refine mm_getr (b := 201) dX12_machine_83 rfl fk_X12_9 rfl so_200 sr_200_0 ?_
            refine mm_at (pc' := 86) rfl ?_
            refine mm_iload_n 0 dX12_machine_86 rfl rfl ?_
            refine mm_iconst (v := 2) dX12_machine_87 rfl ?_
            refine mm_cS2i (dz := d - 1) dX12_machine_88 rfl mzX12_of ml_X12_87 imX12_of (by omega) (cm_of (n) (2)) (Nat.le_of_ble_eq_true rfl) ⟨Nat.le_refl _, Nat.le_refl _⟩ ?_
            refine mm_bipush (v := 50) dX12_machine_91 rfl ?_
            refine mm_iastN (630 + 40 * n + 2) dX12_machine_93 sa_201 (by omega) (by omega) ?_
            refine mm_aload_n 1 dX12_machine_94 rfl rfl ?_
            refine mm_getr (b := 201) dX12_machine_95 rfl fk_X12_9 rfl so_200 sr_200_0 ?_
            refine mm_iload_n 0 dX12_machine_98 rfl rfl ?_
            refine mm_at (pc' := 99) rfl ?_
            refine mm_iconst (v := 3) dX12_machine_99 rfl ?_
            refine mm_cS2i (dz := d - 1) dX12_machine_100 rfl mzX12_of ml_X12_87 imX12_of (by omega) (cm_of (n) (3)) (Nat.le_of_ble_eq_true rfl) ⟨Nat.le_refl _, Nat.le_refl _⟩ ?_
            refine mm_iconst (v := 0) dX12_machine_103 rfl ?_
            refine mm_iastN (630 + 40 * n + 3) dX12_machine_104 sa_201 (by omega) (by omega) ?_
            refine mm_aload_n 1 dX12_machine_105 rfl rfl ?_
            refine mm_getr (b := 201) dX12_machine_106 rfl fk_X12_9 rfl so_200 sr_200_0 ?_
            refine mm_iload_n 0 dX12_machine_109 rfl rfl ?_
            refine mm_iconst (v := 4) dX12_machine_110 rfl ?_
            refine mm_at (pc' := 111) rfl ?_
            refine mm_cS2i (dz := d - 1) dX12_machine_111 rfl mzX12_of ml_X12_87 imX12_of (by omega) (cm_of (n) (4)) (Nat.le_of_ble_eq_true rfl) ⟨Nat.le_refl _, Nat.le_refl _⟩ ?_
            refine mm_iconst (v := 0) dX12_machine_114 rfl ?_
            refine mm_iastN (630 + 40 * n + 4) dX12_machine_115 sa_201 (by omega) (by omega) ?_
            refine mm_aload_n 1 dX12_machine_116 rfl rfl ?_
            refine mm_getr (b := 201) dX12_machine_117 rfl fk_X12_9 rfl so_200 sr_200_0 ?_
            refine mm_iload_n 0 dX12_machine_120 rfl rfl ?_
            refine mm_iconst (v := 5) dX12_machine_121 rfl ?_
            refine mm_cS2i (dz := d - 1) dX12_machine_122 rfl mzX12_of ml_X12_87 imX12_of (by omega) (cm_of (n) (5)) (Nat.le_of_ble_eq_true rfl) ⟨Nat.le_refl _, Nat.le_refl _⟩ ?_
            refine mm_at (pc' := 125) rfl ?_
            refine mm_iconst (v := 0) dX12_machine_125 rfl ?_
            refine mm_iastN (630 + 40 * n + 5) dX12_machine_126 sa_201 (by omega) (by omega) ?_
            refine mm_aload_n 1 dX12_machine_127 rfl rfl ?_
            refine mm_getr (b := 201) dX12_machine_128 rfl fk_X12_9 rfl so_200 sr_200_0 ?_
            refine mm_iload_n 0 dX12_machine_131 rfl rfl ?_
            refine mm_bipush (v := 6) dX12_machine_132 rfl ?_
            refine mm_cS2i (dz := d - 1) dX12_machine_134 rfl mzX12_of ml_X12_87 imX12_of (by omega) (cm_of (n) (6)) (Nat.le_of_ble_eq_true rfl) ⟨Nat.le_refl _, Nat.le_refl _⟩ ?_
            refine mm_iconst (v := -1) dX12_machine_137 rfl ?_
            refine mm_at (pc' := 138) rfl ?_
            refine mm_iastN (630 + 40 * n + 6) dX12_machine_138 sa_201 (by omega) (by omega) ?_
            refine mm_aload_n 1 dX12_machine_139 rfl rfl ?_
            refine mm_getr (b := 201) dX12_machine_140 rfl fk_X12_9 rfl so_200 sr_200_0 ?_
            refine mm_bipush (v := 16) dX12_machine_143 rfl ?_
            refine mm_dup2 dX12_machine_145 rfl rfl ?_
            refine mm_ialdN (16) dX12_machine_146 sa_201 (by omega) (by omega) ?_
            refine mm_top (v := nI (n)) (by simp only [mm_up_ni (show 16 ≠ 630 + 40 * n + 6 by omega), mm_up_ni (show 16 ≠ 630 + 40 * n + 5 by omega), mm_up_ni (show 16 ≠ 630 + 40 * n + 4 by omega), mm_up_ni (show 16 ≠ 630 + 40 * n + 3 by omega), mm_up_ni (show 16 ≠ 630 + 40 * n + 2 by omega), mm_up_ni (show 16 ≠ 630 + 40 * n + 1 by omega), mm_up_ni (show 16 ≠ 630 + 40 * n + 0 by omega)]; exact hm) ?_
            refine mm_iconst (v := 1) dX12_machine_147 rfl ?_
            refine mm_iaddN (n) (1) dX12_machine_148 ?_
            refine mm_at (pc' := 149) rfl ?_
            refine mm_iastN (16) dX12_machine_149 sa_201 (by omega) (by omega) ?_
            refine mm_iload_n 0 dX12_machine_150 rfl rfl ?_
            refine mm_iret dX12_machine_151 rfl ⟨Nat.le_refl _, Nat.le_refl _⟩ ?_
            exact mm_l2 (by unfold op_machine; rw [if_neg (by intro q; rcases q with q | q; exact q c6; exact q c14), vv_nI (by omega), if_neg (by intro q; rcases q with q | q; exact c30 q; exact absurd c38 (Int32.not_lt.mpr q)), if_neg c54]) hq
          · refine mm_ldc dX12_machine_57 rfl kc_X12_121 ?_
            refine mm_iret dX12_machine_59 rfl ⟨Nat.le_refl _, Nat.le_refl _⟩ ?_
            exact mm_l2 (by unfold op_machine; rw [if_neg (by intro q; rcases q with q | q; exact q c6; exact q c14), vv_nI (by omega), if_neg (by intro q; rcases q with q | q; exact c30 q; exact absurd c38 (Int32.not_lt.mpr q)), if_pos c54]) hq
        · refine mm_ldc dX12_machine_41 rfl kc_X12_99 ?_
          refine mm_iret dX12_machine_43 rfl ⟨Nat.le_refl _, Nat.le_refl _⟩ ?_
          exact mm_l2 (by unfold op_machine; rw [if_neg (by intro q; rcases q with q | q; exact q c6; exact q c14), vv_nI (by omega), if_pos (by first | exact Or.inl c30 | exact Or.inr (Int32.not_lt.mp c38))]) hq
    · refine mm_ldc dX12_machine_17 rfl kc_X12_86 ?_
      refine mm_iret dX12_machine_19 rfl ⟨Nat.le_refl _, Nat.le_refl _⟩ ?_
      exact mm_l2 (by unfold op_machine; rw [if_pos (by first | exact Or.inl c6 | exact Or.inr (c14))]) hq
set_option maxRecDepth 100000 in
set_option maxHeartbeats 4000000 in
theorem cm_isKind {g : mm_G} {I : mm_I} {d : Nat} {m : Nat} (hm5 : m < 5) {k : Int32} (hd : 1 ≤ d) : mm_Ci g zX12_isKind d [.ref 200, .int (nI m), .int k] sh_S I (if sp_mk (I 201 (630 + 40 * m + 0)) k then 1 else 0) I := by
  refine mm_Ci_of (fun Q hq => ?_)
  refine mm_begin (ls := [(0, .ref 200), (1, .int (nI (m))), (2, .int (k))]) (Nat.le_of_ble_eq_true rfl) rfl rfl ?_
  refine mm_aload_n 0 dX12_isKind_0 rfl rfl ?_
  refine mm_getr (b := 201) dX12_isKind_1 rfl fk_X12_9 rfl so_200 sr_200_0 ?_
  refine mm_iload_n 1 dX12_isKind_4 rfl rfl ?_
  refine mm_iconst (v := 0) dX12_isKind_5 rfl ?_
  refine mm_cS2i (dz := d - 1) dX12_isKind_6 rfl mzX12_of ml_X12_87 imX12_of (by omega) (cm_of (m) (0)) (Nat.le_of_ble_eq_true rfl) ⟨Nat.le_refl _, Nat.le_refl _⟩ ?_
  refine mm_ialdN (630 + 40 * m + 0) dX12_isKind_9 sa_201 (by omega) (by omega) ?_
  refine mm_istore_n (ls' := [(3, .int (I 201 (630 + 40 * m + 0))), (0, .ref 200), (1, .int (nI (m))), (2, .int (k))]) dX12_isKind_10 rfl (by decide) rfl ?_
  refine mm_iload_n 3 dX12_isKind_11 rfl rfl ?_
  refine mm_at (pc' := 12) rfl ?_
  have K12 : mm_Ex g zX12_isKind d (0, 0) (0, 0) sh_S (I) 35 [(3, .int (I 201 (630 + 40 * m + 0))), (0, .ref 200), (1, .int (nI (m))), (2, .int (k))] [.int (if ((k) = 0) ∨ (((I 201 (630 + 40 * m + 0)) = (k)) ∨ (((k) = (1)) ∧ ((I 201 (630 + 40 * m + 0)) = (2)))) then 1 else 0)] Q := by
    refine mm_zret dX12_isKind_35 rfl mm_b01 ⟨Nat.le_refl _, Nat.le_refl _⟩ ?_
    exact mm_li (mm_iff (by by_cases h1 : (I 201 (630 + 40 * m + 0)) = k <;> by_cases h2 : k = 0 <;> by_cases h3 : k = 1 <;> simp_all [sp_mk])) rfl hq
  refine mm_if_eq (tgt := 30) dX12_isKind_12 (by decide) (fun c12 => ?_) (fun c12 => ?_)
  · refine mm_iconst (v := 1) dX12_isKind_30 rfl ?_
    refine mm_goto (tgt := 35) dX12_isKind_31 (by decide) ?_
    exact mm_top (by first | rfl | (simp [c12]; done) | (rw [if_pos (by simp_all)]; done) | (rw [if_neg (by simp_all)]; done) | (rw [if_pos (by omega)]; done) | (rw [if_neg (by omega)]; done)) K12
  · refine mm_iload_n 0 dX12_isKind_15 rfl rfl ?_
    refine mm_iload_n 3 dX12_isKind_16 rfl rfl ?_
    refine mm_icmp_eq (tgt := 30) dX12_isKind_17 (by decide) (fun c17 => ?_) (fun c17 => ?_)
    · refine mm_iconst (v := 1) dX12_isKind_30 rfl ?_
      refine mm_goto (tgt := 35) dX12_isKind_31 (by decide) ?_
      exact mm_top (by first | rfl | (simp [c12, c17]; done) | (rw [if_pos (by simp_all)]; done) | (rw [if_neg (by simp_all)]; done) | (rw [if_pos (by omega)]; done) | (rw [if_neg (by omega)]; done)) K12
    · refine mm_iload_n 3 dX12_isKind_20 rfl rfl ?_
      refine mm_iconst (v := 1) dX12_isKind_21 rfl ?_
      refine mm_icmp_ne (tgt := 34) dX12_isKind_22 (by decide) (fun c22 => ?_) (fun c22 => ?_)
      · refine mm_iconst (v := 0) dX12_isKind_34 rfl ?_
        exact mm_top (by first | rfl | (simp [c12, c17, c22]; done) | (rw [if_pos (by simp_all)]; done) | (rw [if_neg (by simp_all)]; done) | (rw [if_pos (by omega)]; done) | (rw [if_neg (by omega)]; done)) K12
      · refine mm_iload_n 0 dX12_isKind_25 rfl rfl ?_
        refine mm_iconst (v := 2) dX12_isKind_26 rfl ?_
        refine mm_icmp_ne (tgt := 34) dX12_isKind_27 (by decide) (fun c27 => ?_) (fun c27 => ?_)
        · refine mm_iconst (v := 0) dX12_isKind_34 rfl ?_
          exact mm_top (by first | rfl | (simp [c12, c17, c22, c27]; done) | (rw [if_pos (by simp_all)]; done) | (rw [if_neg (by simp_all)]; done) | (rw [if_pos (by omega)]; done) | (rw [if_neg (by omega)]; done)) K12
        · refine mm_iconst (v := 1) dX12_isKind_30 rfl ?_
          refine mm_goto (tgt := 35) dX12_isKind_31 (by decide) ?_
          exact mm_top (by first | rfl | (simp [c12, c17, c22, c27]; done) | (rw [if_pos (by simp_all)]; done) | (rw [if_neg (by simp_all)]; done) | (rw [if_pos (by omega)]; done) | (rw [if_neg (by omega)]; done)) K12
set_option maxRecDepth 100000 in
set_option maxHeartbeats 4000000 in
theorem cm_is {g : mm_G} {I : mm_I} {d : Nat} {n : Nat} (hm : I 201 16 = nI n) (hm5 : n ≤ 5) {m x : Int32} (hd : 2 ≤ d) : mm_Ci g zX12_is d [.ref 200, .int m, .int x] sh_S I (op_is n I m x) I := by
  refine mm_Ci_of (fun Q hq => ?_)
  refine mm_begin (ls := [(0, .ref 200), (1, .int (m)), (2, .int (x))]) (Nat.le_of_ble_eq_true rfl) rfl rfl ?_
  refine mm_aload_n 0 dX12_is_0 rfl rfl ?_
  refine mm_iload_n 1 dX12_is_1 rfl rfl ?_
  refine mm_cV1i (dz := d - 1) dX12_is_2 rfl mzX12_isMachine ml_X12_129 imX12_isMachine (by omega) so_200 ⟨rfl, rfl⟩ (cm_isMachine hm hm5 (by omega)) (Nat.le_of_ble_eq_true rfl) ⟨Nat.le_refl _, Nat.le_refl _⟩ ?_
  refine mm_if_eqB (tgt := 17) dX12_is_5 (by decide) (fun c5 => ?_) (fun c5 => ?_)
  · refine mm_ldc dX12_is_17 rfl kc_X12_86 ?_
    refine mm_goto (tgt := 36) dX12_is_19 (by decide) ?_
    refine mm_iret dX12_is_36 rfl ⟨Nat.le_refl _, Nat.le_refl _⟩ ?_
    exact mm_l1 (by unfold op_is; rw [if_pos (by first | exact Or.inl c5 | exact Or.inr (c14))]) hq
  · refine mm_iload_n 2 dX12_is_8 rfl rfl ?_
    refine mm_iconst (v := 0) dX12_is_9 rfl ?_
    refine mm_iconst (v := 3) dX12_is_10 rfl ?_
    refine mm_cS3i (dz := d - 1) dX12_is_11 rfl mzX12_within ml_X12_82 imX12_within (by omega) cm_within (Nat.le_of_ble_eq_true rfl) ⟨Nat.le_refl _, Nat.le_refl _⟩ ?_
    refine mm_if_neB (tgt := 22) dX12_is_14 (by decide) (fun c14 => ?_) (fun c14 => ?_)
    · obtain ⟨k, hkk, rfl⟩ := sp_isM_nat (by omega) c5
      refine mm_aload_n 0 dX12_is_22 rfl rfl ?_
      refine mm_iload_n 1 dX12_is_23 rfl rfl ?_
      refine mm_iload_n 2 dX12_is_24 rfl rfl ?_
      refine mm_cV2i (dz := d - 1) dX12_is_25 rfl mzX12_isKind ml_X12_132 imX12_isKind (by omega) so_200 ⟨rfl, rfl⟩ (cm_isKind (by omega) (by omega)) (Nat.le_of_ble_eq_true rfl) ⟨Nat.le_refl _, Nat.le_refl _⟩ ?_
      refine mm_if_eqB (tgt := 35) dX12_is_28 (by decide) (fun c28 => ?_) (fun c28 => ?_)
      · refine mm_iconst (v := 0) dX12_is_35 rfl ?_
        refine mm_iret dX12_is_36 rfl ⟨Nat.le_refl _, Nat.le_refl _⟩ ?_
        exact mm_l1 (by unfold op_is; rw [if_neg (by intro q; rcases q with q | q; exact q c5; exact q c14), vv_nI (by omega)]; first | rw [if_pos c28] | rw [if_neg c28]) hq
      · refine mm_iconst (v := 1) dX12_is_31 rfl ?_
        refine mm_goto (tgt := 36) dX12_is_32 (by decide) ?_
        refine mm_iret dX12_is_36 rfl ⟨Nat.le_refl _, Nat.le_refl _⟩ ?_
        exact mm_l1 (by unfold op_is; rw [if_neg (by intro q; rcases q with q | q; exact q c5; exact q c14), vv_nI (by omega)]; first | rw [if_pos c28] | rw [if_neg c28]) hq
    · refine mm_ldc dX12_is_17 rfl kc_X12_86 ?_
      refine mm_goto (tgt := 36) dX12_is_19 (by decide) ?_
      refine mm_iret dX12_is_36 rfl ⟨Nat.le_refl _, Nat.le_refl _⟩ ?_
      exact mm_l1 (by unfold op_is; rw [if_pos (by first | exact Or.inl c5 | exact Or.inr (c14))]) hq
set_option maxRecDepth 100000 in
set_option maxHeartbeats 4000000 in
theorem cm_tune {g : mm_G} {I : mm_I} {d : Nat} {n : Nat} (hm : I 201 16 = nI n) (hm5 : n ≤ 5) {m x v : Int32} (hd : 2 ≤ d) : mm_Ci g zX12_tune d [.ref 200, .int m, .int x, .int v] sh_S I (op_tune n I m x v).1 (op_tune n I m x v).2 := by
  refine mm_Ci_of (fun Q hq => ?_)
  refine mm_begin (ls := [(0, .ref 200), (1, .int (m)), (2, .int (x)), (3, .int (v))]) (Nat.le_of_ble_eq_true rfl) rfl rfl ?_
  refine mm_aload_n 0 dX12_tune_0 rfl rfl ?_
  refine mm_iload_n 1 dX12_tune_1 rfl rfl ?_
  refine mm_cV1i (dz := d - 1) dX12_tune_2 rfl mzX12_isMachine ml_X12_129 imX12_isMachine (by omega) so_200 ⟨rfl, rfl⟩ (cm_isMachine hm hm5 (by omega)) (Nat.le_of_ble_eq_true rfl) ⟨Nat.le_refl _, Nat.le_refl _⟩ ?_
  refine mm_if_eqB (tgt := 27) dX12_tune_5 (by decide) (fun c5 => ?_) (fun c5 => ?_)
  · refine mm_ldc dX12_tune_27 rfl kc_X12_86 ?_
    refine mm_iret dX12_tune_29 rfl ⟨Nat.le_refl _, Nat.le_refl _⟩ ?_
    exact mm_l2 (by unfold op_tune; rw [if_pos (by first | exact Or.inl c5 | exact Or.inr (Or.inl c14) | exact Or.inr (Or.inr (c24)))]) hq
  · refine mm_iload_n 2 dX12_tune_8 rfl rfl ?_
    refine mm_iconst (v := 0) dX12_tune_9 rfl ?_
    refine mm_iconst (v := 1) dX12_tune_10 rfl ?_
    refine mm_cS3i (dz := d - 1) dX12_tune_11 rfl mzX12_within ml_X12_82 imX12_within (by omega) cm_within (Nat.le_of_ble_eq_true rfl) ⟨Nat.le_refl _, Nat.le_refl _⟩ ?_
    refine mm_if_eqB (tgt := 27) dX12_tune_14 (by decide) (fun c14 => ?_) (fun c14 => ?_)
    · refine mm_ldc dX12_tune_27 rfl kc_X12_86 ?_
      refine mm_iret dX12_tune_29 rfl ⟨Nat.le_refl _, Nat.le_refl _⟩ ?_
      exact mm_l2 (by unfold op_tune; rw [if_pos (by first | exact Or.inl c5 | exact Or.inr (Or.inl c14) | exact Or.inr (Or.inr (c24)))]) hq
    · refine mm_iload_n 3 dX12_tune_17 rfl rfl ?_
      refine mm_iconst (v := 0) dX12_tune_18 rfl ?_
      refine mm_bipush (v := 100) dX12_tune_19 rfl ?_
      refine mm_cS3i (dz := d - 1) dX12_tune_21 rfl mzX12_within ml_X12_82 imX12_within (by omega) cm_within (Nat.le_of_ble_eq_true rfl) ⟨Nat.le_refl _, Nat.le_refl _⟩ ?_
      refine mm_if_neB (tgt := 30) dX12_tune_24 (by decide) (fun c24 => ?_) (fun c24 => ?_)
      · obtain ⟨k, hkk, rfl⟩ := sp_isM_nat (by omega) c5
        obtain ⟨j, hkj, rfl⟩ := sp_wi_n 0 1 (by decide) (by decide) c14
        refine mm_iload_n 1 dX12_tune_30 rfl rfl ?_
        refine mm_iconst (v := 2) dX12_tune_31 rfl ?_
        refine mm_iload_n 2 dX12_tune_32 rfl rfl ?_
        refine mm_iaddN (2) (j) dX12_tune_33 ?_
        refine mm_cS2i (dz := d - 1) dX12_tune_34 rfl mzX12_of ml_X12_87 imX12_of (by omega) (cm_of (k) (2 + j)) (Nat.le_of_ble_eq_true rfl) ⟨Nat.le_refl _, Nat.le_refl _⟩ ?_
        refine mm_istore (ls' := [(4, .int (nI (630 + 40 * k + (2 + j)))), (0, .ref 200), (1, .int (nI (k))), (2, .int (nI (j))), (3, .int (v))]) dX12_tune_37 (by decide) rfl ?_
        refine mm_aload_n 1 dX12_tune_39 rfl rfl ?_
        refine mm_getr (b := 201) dX12_tune_40 rfl fk_X12_9 rfl so_200 sr_200_0 ?_
        refine mm_at (pc' := 43) rfl ?_
        refine mm_iload 0 dX12_tune_43 rfl ?_
        refine mm_ialdN (630 + 40 * k + (2 + j)) dX12_tune_45 sa_201 (by omega) (by omega) ?_
        refine mm_istore (ls' := [(5, .int (I 201 (630 + 40 * k + (2 + j)))), (4, .int (nI (630 + 40 * k + (2 + j)))), (0, .ref 200), (1, .int (nI (k))), (2, .int (nI (j))), (3, .int (v))]) dX12_tune_46 (by decide) rfl ?_
        refine mm_aload_n 2 dX12_tune_48 rfl rfl ?_
        refine mm_getr (b := 201) dX12_tune_49 rfl fk_X12_9 rfl so_200 sr_200_0 ?_
        refine mm_iload 1 dX12_tune_52 rfl ?_
        refine mm_iload_n 5 dX12_tune_54 rfl rfl ?_
        refine mm_iastN (630 + 40 * k + (2 + j)) dX12_tune_55 sa_201 (by omega) (by omega) ?_
        refine mm_at (pc' := 56) rfl ?_
        refine mm_iload 0 dX12_tune_56 rfl ?_
        refine mm_iret dX12_tune_58 rfl ⟨Nat.le_refl _, Nat.le_refl _⟩ ?_
        exact mm_l2 (by unfold op_tune; rw [if_neg (by intro q; rcases q with q | q | q; exact q c5; exact q c14; exact q c24), vv_nI (by omega), vv_nI (by omega)]) hq
      · refine mm_ldc dX12_tune_27 rfl kc_X12_86 ?_
        refine mm_iret dX12_tune_29 rfl ⟨Nat.le_refl _, Nat.le_refl _⟩ ?_
        exact mm_l2 (by unfold op_tune; rw [if_pos (by first | exact Or.inl c5 | exact Or.inr (Or.inl c14) | exact Or.inr (Or.inr (c24)))]) hq
set_option maxRecDepth 100000 in
set_option maxHeartbeats 4000000 in
theorem cm_isBroken {g : mm_G} {I : mm_I} {d : Nat} {m : Nat} (hm5 : m < 5) (hd : 1 ≤ d) : mm_Ci g zX12_isBroken d [.ref 200, .int (nI m)] sh_S I (if I 201 (630 + 40 * m + 3) = 100 then 1 else 0) I := by
  refine mm_Ci_of (fun Q hq => ?_)
  refine mm_begin (ls := [(0, .ref 200), (1, .int (nI (m)))]) (Nat.le_of_ble_eq_true rfl) rfl rfl ?_
  refine mm_aload_n 0 dX12_isBroken_0 rfl rfl ?_
  refine mm_getr (b := 201) dX12_isBroken_1 rfl fk_X12_9 rfl so_200 sr_200_0 ?_
  refine mm_iload_n 1 dX12_isBroken_4 rfl rfl ?_
  refine mm_iconst (v := 3) dX12_isBroken_5 rfl ?_
  refine mm_cS2i (dz := d - 1) dX12_isBroken_6 rfl mzX12_of ml_X12_87 imX12_of (by omega) (cm_of (m) (3)) (Nat.le_of_ble_eq_true rfl) ⟨Nat.le_refl _, Nat.le_refl _⟩ ?_
  refine mm_ialdN (630 + 40 * m + 3) dX12_isBroken_9 sa_201 (by omega) (by omega) ?_
  refine mm_bipush (v := 100) dX12_isBroken_10 rfl ?_
  have K12 : mm_Ex g zX12_isBroken d (0, 0) (0, 0) sh_S (I) 20 [(0, .ref 200), (1, .int (nI (m)))] [.int (if (I 201 (630 + 40 * m + 3)) = (100) then 1 else 0)] Q := by
    refine mm_zret dX12_isBroken_20 rfl mm_b01 ⟨Nat.le_refl _, Nat.le_refl _⟩ ?_
    exact hq
  refine mm_icmp_ne (tgt := 19) dX12_isBroken_12 (by decide) (fun c12 => ?_) (fun c12 => ?_)
  · refine mm_iconst (v := 0) dX12_isBroken_19 rfl ?_
    exact mm_top (by first | rfl | (simp [c12]; done) | (rw [if_pos (by simp_all)]; done) | (rw [if_neg (by simp_all)]; done) | (rw [if_pos (by omega)]; done) | (rw [if_neg (by omega)]; done)) K12
  · refine mm_iconst (v := 1) dX12_isBroken_15 rfl ?_
    refine mm_goto (tgt := 20) dX12_isBroken_16 (by decide) ?_
    exact mm_top (by first | rfl | (simp [c12]; done) | (rw [if_pos (by simp_all)]; done) | (rw [if_neg (by simp_all)]; done) | (rw [if_pos (by omega)]; done) | (rw [if_neg (by omega)]; done)) K12
set_option maxRecDepth 100000 in
set_option maxHeartbeats 4000000 in
theorem cm_has {g : mm_G} {I : mm_I} {d : Nat} {n : Nat} (hm : I 201 16 = nI n) (hm5 : n ≤ 5) {m x : Int32} (hd : 2 ≤ d) : mm_Ci g zX12_has d [.ref 200, .int m, .int x] sh_S I (op_has n I m x) I := by
  refine mm_Ci_of (fun Q hq => ?_)
  refine mm_begin (ls := [(0, .ref 200), (1, .int (m)), (2, .int (x))]) (Nat.le_of_ble_eq_true rfl) rfl rfl ?_
  refine mm_aload_n 0 dX12_has_0 rfl rfl ?_
  refine mm_iload_n 1 dX12_has_1 rfl rfl ?_
  refine mm_cV1i (dz := d - 1) dX12_has_2 rfl mzX12_isMachine ml_X12_129 imX12_isMachine (by omega) so_200 ⟨rfl, rfl⟩ (cm_isMachine hm hm5 (by omega)) (Nat.le_of_ble_eq_true rfl) ⟨Nat.le_refl _, Nat.le_refl _⟩ ?_
  refine mm_if_neB (tgt := 11) dX12_has_5 (by decide) (fun c5 => ?_) (fun c5 => ?_)
  · obtain ⟨k, hkk, rfl⟩ := sp_isM_nat (by omega) c5
    refine mm_iload_n 2 dX12_has_11 rfl rfl ?_
    by_cases e12_0 : (x) = 0
    · refine mm_tabIn (0) (tgt := 60) dX12_has_12 e12_0 (by decide) (by decide) rfl (by decide) ?_
      subst e12_0
      refine mm_aload_n 0 dX12_has_60 rfl rfl ?_
      refine mm_getr (b := 201) dX12_has_61 rfl fk_X12_9 rfl so_200 sr_200_0 ?_
      refine mm_iload_n 1 dX12_has_64 rfl rfl ?_
      refine mm_iload_n 2 dX12_has_65 rfl rfl ?_
      refine mm_cS2i (dz := d - 1) dX12_has_66 rfl mzX12_of ml_X12_87 imX12_of (by omega) (cm_of (k) (0)) (Nat.le_of_ble_eq_true rfl) ⟨Nat.le_refl _, Nat.le_refl _⟩ ?_
      refine mm_ialdN (630 + 40 * k + 0) dX12_has_69 sa_201 (by omega) (by omega) ?_
      refine mm_iret dX12_has_70 rfl ⟨Nat.le_refl _, Nat.le_refl _⟩ ?_
      exact mm_l1 (by unfold op_has; rw [if_neg (fun q => q c5), vv_nI (by omega)]; first | (rw [if_pos (by decide)]; rfl) | (rw [if_neg (by decide), if_pos rfl]; first | rw [if_pos c81] | rw [if_neg c81]) | (rw [if_neg (by decide), if_neg (by decide), if_pos rfl]; first | rw [if_pos (Int32.not_le.mp c111)] | rw [if_neg (Int32.not_lt.mpr c111)]) | (rw [if_neg (by decide), if_neg (by decide), if_neg (by decide), if_pos rfl]; first | rw [if_pos c136] | rw [if_neg c136])) hq
    by_cases e12_1 : (x) = 1
    · refine mm_tabIn (1) (tgt := 60) dX12_has_12 e12_1 (by decide) (by decide) rfl (by decide) ?_
      subst e12_1
      refine mm_aload_n 0 dX12_has_60 rfl rfl ?_
      refine mm_getr (b := 201) dX12_has_61 rfl fk_X12_9 rfl so_200 sr_200_0 ?_
      refine mm_iload_n 1 dX12_has_64 rfl rfl ?_
      refine mm_iload_n 2 dX12_has_65 rfl rfl ?_
      refine mm_cS2i (dz := d - 1) dX12_has_66 rfl mzX12_of ml_X12_87 imX12_of (by omega) (cm_of (k) (1)) (Nat.le_of_ble_eq_true rfl) ⟨Nat.le_refl _, Nat.le_refl _⟩ ?_
      refine mm_ialdN (630 + 40 * k + 1) dX12_has_69 sa_201 (by omega) (by omega) ?_
      refine mm_iret dX12_has_70 rfl ⟨Nat.le_refl _, Nat.le_refl _⟩ ?_
      exact mm_l1 (by unfold op_has; rw [if_neg (fun q => q c5), vv_nI (by omega)]; first | (rw [if_pos (by decide)]; rfl) | (rw [if_neg (by decide), if_pos rfl]; first | rw [if_pos c81] | rw [if_neg c81]) | (rw [if_neg (by decide), if_neg (by decide), if_pos rfl]; first | rw [if_pos (Int32.not_le.mp c111)] | rw [if_neg (Int32.not_lt.mpr c111)]) | (rw [if_neg (by decide), if_neg (by decide), if_neg (by decide), if_pos rfl]; first | rw [if_pos c136] | rw [if_neg c136])) hq
    by_cases e12_2 : (x) = 2
    · refine mm_tabIn (2) (tgt := 60) dX12_has_12 e12_2 (by decide) (by decide) rfl (by decide) ?_
      subst e12_2
      refine mm_aload_n 0 dX12_has_60 rfl rfl ?_
      refine mm_getr (b := 201) dX12_has_61 rfl fk_X12_9 rfl so_200 sr_200_0 ?_
      refine mm_iload_n 1 dX12_has_64 rfl rfl ?_
      refine mm_iload_n 2 dX12_has_65 rfl rfl ?_
      refine mm_cS2i (dz := d - 1) dX12_has_66 rfl mzX12_of ml_X12_87 imX12_of (by omega) (cm_of (k) (2)) (Nat.le_of_ble_eq_true rfl) ⟨Nat.le_refl _, Nat.le_refl _⟩ ?_
      refine mm_ialdN (630 + 40 * k + 2) dX12_has_69 sa_201 (by omega) (by omega) ?_
      refine mm_iret dX12_has_70 rfl ⟨Nat.le_refl _, Nat.le_refl _⟩ ?_
      exact mm_l1 (by unfold op_has; rw [if_neg (fun q => q c5), vv_nI (by omega)]; first | (rw [if_pos (by decide)]; rfl) | (rw [if_neg (by decide), if_pos rfl]; first | rw [if_pos c81] | rw [if_neg c81]) | (rw [if_neg (by decide), if_neg (by decide), if_pos rfl]; first | rw [if_pos (Int32.not_le.mp c111)] | rw [if_neg (Int32.not_lt.mpr c111)]) | (rw [if_neg (by decide), if_neg (by decide), if_neg (by decide), if_pos rfl]; first | rw [if_pos c136] | rw [if_neg c136])) hq
    by_cases e12_3 : (x) = 3
    · refine mm_tabIn (3) (tgt := 60) dX12_has_12 e12_3 (by decide) (by decide) rfl (by decide) ?_
      subst e12_3
      refine mm_aload_n 0 dX12_has_60 rfl rfl ?_
      refine mm_getr (b := 201) dX12_has_61 rfl fk_X12_9 rfl so_200 sr_200_0 ?_
      refine mm_iload_n 1 dX12_has_64 rfl rfl ?_
      refine mm_iload_n 2 dX12_has_65 rfl rfl ?_
      refine mm_cS2i (dz := d - 1) dX12_has_66 rfl mzX12_of ml_X12_87 imX12_of (by omega) (cm_of (k) (3)) (Nat.le_of_ble_eq_true rfl) ⟨Nat.le_refl _, Nat.le_refl _⟩ ?_
      refine mm_ialdN (630 + 40 * k + 3) dX12_has_69 sa_201 (by omega) (by omega) ?_
      refine mm_iret dX12_has_70 rfl ⟨Nat.le_refl _, Nat.le_refl _⟩ ?_
      exact mm_l1 (by unfold op_has; rw [if_neg (fun q => q c5), vv_nI (by omega)]; first | (rw [if_pos (by decide)]; rfl) | (rw [if_neg (by decide), if_pos rfl]; first | rw [if_pos c81] | rw [if_neg c81]) | (rw [if_neg (by decide), if_neg (by decide), if_pos rfl]; first | rw [if_pos (Int32.not_le.mp c111)] | rw [if_neg (Int32.not_lt.mpr c111)]) | (rw [if_neg (by decide), if_neg (by decide), if_neg (by decide), if_pos rfl]; first | rw [if_pos c136] | rw [if_neg c136])) hq
    by_cases e12_4 : (x) = 4
    · refine mm_tabIn (4) (tgt := 60) dX12_has_12 e12_4 (by decide) (by decide) rfl (by decide) ?_
      subst e12_4
      refine mm_aload_n 0 dX12_has_60 rfl rfl ?_
      refine mm_getr (b := 201) dX12_has_61 rfl fk_X12_9 rfl so_200 sr_200_0 ?_
      refine mm_iload_n 1 dX12_has_64 rfl rfl ?_
      refine mm_iload_n 2 dX12_has_65 rfl rfl ?_
      refine mm_cS2i (dz := d - 1) dX12_has_66 rfl mzX12_of ml_X12_87 imX12_of (by omega) (cm_of (k) (4)) (Nat.le_of_ble_eq_true rfl) ⟨Nat.le_refl _, Nat.le_refl _⟩ ?_
      refine mm_ialdN (630 + 40 * k + 4) dX12_has_69 sa_201 (by omega) (by omega) ?_
      refine mm_iret dX12_has_70 rfl ⟨Nat.le_refl _, Nat.le_refl _⟩ ?_
      exact mm_l1 (by unfold op_has; rw [if_neg (fun q => q c5), vv_nI (by omega)]; first | (rw [if_pos (by decide)]; rfl) | (rw [if_neg (by decide), if_pos rfl]; first | rw [if_pos c81] | rw [if_neg c81]) | (rw [if_neg (by decide), if_neg (by decide), if_pos rfl]; first | rw [if_pos (Int32.not_le.mp c111)] | rw [if_neg (Int32.not_lt.mpr c111)]) | (rw [if_neg (by decide), if_neg (by decide), if_neg (by decide), if_pos rfl]; first | rw [if_pos c136] | rw [if_neg c136])) hq
    by_cases e12_5 : (x) = 5
    · refine mm_tabIn (5) (tgt := 71) dX12_has_12 e12_5 (by decide) (by decide) rfl (by decide) ?_
      subst e12_5
      refine mm_aload_n 0 dX12_has_71 rfl rfl ?_
      refine mm_getr (b := 201) dX12_has_72 rfl fk_X12_9 rfl so_200 sr_200_0 ?_
      refine mm_iload_n 1 dX12_has_75 rfl rfl ?_
      refine mm_iconst (v := 4) dX12_has_76 rfl ?_
      refine mm_cS2i (dz := d - 1) dX12_has_77 rfl mzX12_of ml_X12_87 imX12_of (by omega) (cm_of (k) (4)) (Nat.le_of_ble_eq_true rfl) ⟨Nat.le_refl _, Nat.le_refl _⟩ ?_
      refine mm_ialdN (630 + 40 * k + 4) dX12_has_80 sa_201 (by omega) (by omega) ?_
      refine mm_if_ne (tgt := 89) dX12_has_81 (by decide) (fun c81 => ?_) (fun c81 => ?_)
      · refine mm_aload_n 0 dX12_has_89 rfl rfl ?_
        refine mm_getr (b := 201) dX12_has_90 rfl fk_X12_9 rfl so_200 sr_200_0 ?_
        refine mm_iload_n 1 dX12_has_93 rfl rfl ?_
        refine mm_iconst (v := 5) dX12_has_94 rfl ?_
        refine mm_cS2i (dz := d - 1) dX12_has_95 rfl mzX12_of ml_X12_87 imX12_of (by omega) (cm_of (k) (5)) (Nat.le_of_ble_eq_true rfl) ⟨Nat.le_refl _, Nat.le_refl _⟩ ?_
        refine mm_ialdN (630 + 40 * k + 5) dX12_has_98 sa_201 (by omega) (by omega) ?_
        refine mm_iret dX12_has_99 rfl ⟨Nat.le_refl _, Nat.le_refl _⟩ ?_
        exact mm_l1 (by unfold op_has; rw [if_neg (fun q => q c5), vv_nI (by omega)]; first | (rw [if_pos (by decide)]; rfl) | (rw [if_neg (by decide), if_pos rfl]; first | rw [if_pos c81] | rw [if_neg c81]) | (rw [if_neg (by decide), if_neg (by decide), if_pos rfl]; first | rw [if_pos (Int32.not_le.mp c111)] | rw [if_neg (Int32.not_lt.mpr c111)]) | (rw [if_neg (by decide), if_neg (by decide), if_neg (by decide), if_pos rfl]; first | rw [if_pos c136] | rw [if_neg c136])) hq
      · refine mm_ldc dX12_has_84 rfl kc_X12_100 ?_
        refine mm_goto (tgt := 99) dX12_has_86 (by decide) ?_
        refine mm_iret dX12_has_99 rfl ⟨Nat.le_refl _, Nat.le_refl _⟩ ?_
        exact mm_l1 (by unfold op_has; rw [if_neg (fun q => q c5), vv_nI (by omega)]; first | (rw [if_pos (by decide)]; rfl) | (rw [if_neg (by decide), if_pos rfl]; first | rw [if_pos c81] | rw [if_neg c81]) | (rw [if_neg (by decide), if_neg (by decide), if_pos rfl]; first | rw [if_pos (Int32.not_le.mp c111)] | rw [if_neg (Int32.not_lt.mpr c111)]) | (rw [if_neg (by decide), if_neg (by decide), if_neg (by decide), if_pos rfl]; first | rw [if_pos c136] | rw [if_neg c136])) hq
    by_cases e12_6 : (x) = 6
    · refine mm_tabIn (6) (tgt := 100) dX12_has_12 e12_6 (by decide) (by decide) rfl (by decide) ?_
      subst e12_6
      refine mm_aload_n 0 dX12_has_100 rfl rfl ?_
      refine mm_getr (b := 201) dX12_has_101 rfl fk_X12_9 rfl so_200 sr_200_0 ?_
      refine mm_iload_n 1 dX12_has_104 rfl rfl ?_
      refine mm_bipush (v := 6) dX12_has_105 rfl ?_
      refine mm_cS2i (dz := d - 1) dX12_has_107 rfl mzX12_of ml_X12_87 imX12_of (by omega) (cm_of (k) (6)) (Nat.le_of_ble_eq_true rfl) ⟨Nat.le_refl _, Nat.le_refl _⟩ ?_
      refine mm_ialdN (630 + 40 * k + 6) dX12_has_110 sa_201 (by omega) (by omega) ?_
      refine mm_if_ge (tgt := 119) dX12_has_111 (by decide) (fun c111 => ?_) (fun c111 => ?_)
      · refine mm_aload_n 0 dX12_has_119 rfl rfl ?_
        refine mm_getr (b := 201) dX12_has_120 rfl fk_X12_9 rfl so_200 sr_200_0 ?_
        refine mm_iload_n 1 dX12_has_123 rfl rfl ?_
        refine mm_bipush (v := 6) dX12_has_124 rfl ?_
        refine mm_cS2i (dz := d - 1) dX12_has_126 rfl mzX12_of ml_X12_87 imX12_of (by omega) (cm_of (k) (6)) (Nat.le_of_ble_eq_true rfl) ⟨Nat.le_refl _, Nat.le_refl _⟩ ?_
        refine mm_ialdN (630 + 40 * k + 6) dX12_has_129 sa_201 (by omega) (by omega) ?_
        refine mm_iret dX12_has_130 rfl ⟨Nat.le_refl _, Nat.le_refl _⟩ ?_
        exact mm_l1 (by unfold op_has; rw [if_neg (fun q => q c5), vv_nI (by omega)]; first | (rw [if_pos (by decide)]; rfl) | (rw [if_neg (by decide), if_pos rfl]; first | rw [if_pos c81] | rw [if_neg c81]) | (rw [if_neg (by decide), if_neg (by decide), if_pos rfl]; first | rw [if_pos (Int32.not_le.mp c111)] | rw [if_neg (Int32.not_lt.mpr c111)]) | (rw [if_neg (by decide), if_neg (by decide), if_neg (by decide), if_pos rfl]; first | rw [if_pos c136] | rw [if_neg c136])) hq
      · refine mm_ldc dX12_has_114 rfl kc_X12_100 ?_
        refine mm_goto (tgt := 130) dX12_has_116 (by decide) ?_
        refine mm_iret dX12_has_130 rfl ⟨Nat.le_refl _, Nat.le_refl _⟩ ?_
        exact mm_l1 (by unfold op_has; rw [if_neg (fun q => q c5), vv_nI (by omega)]; first | (rw [if_pos (by decide)]; rfl) | (rw [if_neg (by decide), if_pos rfl]; first | rw [if_pos c81] | rw [if_neg c81]) | (rw [if_neg (by decide), if_neg (by decide), if_pos rfl]; first | rw [if_pos (Int32.not_le.mp c111)] | rw [if_neg (Int32.not_lt.mpr c111)]) | (rw [if_neg (by decide), if_neg (by decide), if_neg (by decide), if_pos rfl]; first | rw [if_pos c136] | rw [if_neg c136])) hq
    by_cases e12_7 : (x) = 7
    · refine mm_tabIn (7) (tgt := 131) dX12_has_12 e12_7 (by decide) (by decide) rfl (by decide) ?_
      subst e12_7
      refine mm_aload_n 0 dX12_has_131 rfl rfl ?_
      refine mm_iload_n 1 dX12_has_132 rfl rfl ?_
      refine mm_cV1i (dz := d - 1) dX12_has_133 rfl mzX12_isBroken ml_X12_135 imX12_isBroken (by omega) so_200 ⟨rfl, rfl⟩ (cm_isBroken (by omega) (by omega)) (Nat.le_of_ble_eq_true rfl) ⟨Nat.le_refl _, Nat.le_refl _⟩ ?_
      refine mm_if_eqB (tgt := 143) dX12_has_136 (by decide) (fun c136 => ?_) (fun c136 => ?_)
      · refine mm_iconst (v := 0) dX12_has_143 rfl ?_
        refine mm_iret dX12_has_144 rfl ⟨Nat.le_refl _, Nat.le_refl _⟩ ?_
        exact mm_l1 (by unfold op_has; rw [if_neg (fun q => q c5), vv_nI (by omega)]; first | (rw [if_pos (by decide)]; rfl) | (rw [if_neg (by decide), if_pos rfl]; first | rw [if_pos c81] | rw [if_neg c81]) | (rw [if_neg (by decide), if_neg (by decide), if_pos rfl]; first | rw [if_pos (Int32.not_le.mp c111)] | rw [if_neg (Int32.not_lt.mpr c111)]) | (rw [if_neg (by decide), if_neg (by decide), if_neg (by decide), if_pos rfl]; first | rw [if_pos c136] | rw [if_neg c136])) hq
      · refine mm_iconst (v := 1) dX12_has_139 rfl ?_
        refine mm_goto (tgt := 144) dX12_has_140 (by decide) ?_
        refine mm_iret dX12_has_144 rfl ⟨Nat.le_refl _, Nat.le_refl _⟩ ?_
        exact mm_l1 (by unfold op_has; rw [if_neg (fun q => q c5), vv_nI (by omega)]; first | (rw [if_pos (by decide)]; rfl) | (rw [if_neg (by decide), if_pos rfl]; first | rw [if_pos c81] | rw [if_neg c81]) | (rw [if_neg (by decide), if_neg (by decide), if_pos rfl]; first | rw [if_pos (Int32.not_le.mp c111)] | rw [if_neg (Int32.not_lt.mpr c111)]) | (rw [if_neg (by decide), if_neg (by decide), if_neg (by decide), if_pos rfl]; first | rw [if_pos c136] | rw [if_neg c136])) hq
    refine mm_tabOut 0 8 (tgt := 145) dX12_has_12 rfl (by decide) (by intro k hk q; rcases (show k = 0 ∨ k = 1 ∨ k = 2 ∨ k = 3 ∨ k = 4 ∨ k = 5 ∨ k = 6 ∨ k = 7 by omega) with rfl | rfl | rfl | rfl | rfl | rfl | rfl | rfl <;> first | exact e12_0 q | exact e12_1 q | exact e12_2 q | exact e12_3 q | exact e12_4 q | exact e12_5 q | exact e12_6 q | exact e12_7 q) (by decide) ?_
    refine mm_ldc dX12_has_145 rfl kc_X12_86 ?_
    refine mm_iret dX12_has_147 rfl ⟨Nat.le_refl _, Nat.le_refl _⟩ ?_
    exact mm_l1 (by unfold op_has; first | rw [if_pos c5] | (rw [if_neg (fun q => q c5), if_neg (by intro q; obtain ⟨j, hj, rfl⟩ := sp_wi_n 0 4 (by decide) (by decide) q; rcases (show j = 0 ∨ j = 1 ∨ j = 2 ∨ j = 3 ∨ j = 4 by omega) with rfl | rfl | rfl | rfl | rfl; exact e12_0 rfl; exact e12_1 rfl; exact e12_2 rfl; exact e12_3 rfl; exact e12_4 rfl), if_neg e12_5, if_neg e12_6, if_neg e12_7])) hq
  · refine mm_ldc dX12_has_8 rfl kc_X12_86 ?_
    refine mm_iret dX12_has_10 rfl ⟨Nat.le_refl _, Nat.le_refl _⟩ ?_
    exact mm_l1 (by unfold op_has; first | rw [if_pos c5] | (rw [if_neg (fun q => q c5), if_neg (by intro q; obtain ⟨j, hj, rfl⟩ := sp_wi_n 0 4 (by decide) (by decide) q; rcases (show j = 0 ∨ j = 1 ∨ j = 2 ∨ j = 3 ∨ j = 4 by omega) with rfl | rfl | rfl | rfl | rfl; exact e12_0 rfl; exact e12_1 rfl; exact e12_2 rfl; exact e12_3 rfl; exact e12_4 rfl), if_neg e12_5, if_neg e12_6, if_neg e12_7])) hq
