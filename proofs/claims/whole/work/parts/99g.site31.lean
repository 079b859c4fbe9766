/-! THE CLASS: the search for THE PLAN, deeper -/
theorem bt_ab {D x : Nat} (hx : x < 8) : (nI D &&& ((1 : Int32) <<< (nI x &&& 31)) = 0) ↔ ¬ sk_bt D x := by
  rw [bit_ab hx]
  unfold sk_bt
  rw [bit_b hx]
  cases (nI D).toBitVec.getLsbD x <;> simp
set_option maxRecDepth 100000 in
set_option maxHeartbeats 600000 in
theorem cg_cf {g : mm_G} {d : Nat} {w h n l k o r : Nat} {A : mm_I} {N : Nat → Int32} (hz : zOK (w * h) n l k o r) (hW : mo_W N w h) {T up : Int32} {s : sk_S} {m : Nat} {r_ : Nat → Int32} (hE : wE A T up s m r_) (hm6 : m ≤ 6) {x D : Nat} {t : Int32} (hx : x < k) (hd : 1 ≤ d) : mm_Ci g zX10_canFollow d [.ref 22, .int (nI (x)), .int (nI (D)), .int (t)] sh_S (cN (w * h) n l k o r A N) (if sk_ca N T D x t then 1 else 0) (cN (w * h) n l k o r A N) := by
  obtain ⟨hz1, hz2, hz3, hz4, hz5, hz6⟩ := id hz
  have hc := mo_W_c hW
  obtain ⟨-, -, hw1, hw2, hh1, hh2⟩ := id hW
  obtain ⟨h1, h2, h3, h4, ⟨h5, h6, h7⟩, ⟨h8, h9⟩, h10, h11⟩ := id hE
  refine mm_Ci_of (fun Q hq => ?_)
  refine mm_begin (ls := [(0, .ref 22), (1, .int (nI (x))), (2, .int (nI (D))), (3, .int (t))]) (Nat.le_of_ble_eq_true rfl) rfl rfl ?_
  refine mm_iload_n 2 dX10_canFollow_0 rfl rfl ?_
  refine mm_iconst (v := 1) dX10_canFollow_1 rfl ?_
  refine mm_iload_n 1 dX10_canFollow_2 rfl rfl ?_
  refine mm_ishl dX10_canFollow_3 ?_
  refine mm_iand dX10_canFollow_4 ?_
  have K5 : mm_Ex g zX10_canFollow d (0, 0) (0, 0) sh_S (cN (w * h) n l k o r A N) 13 [(0, .ref 22), (1, .int (nI (x))), (2, .int (nI (D))), (3, .int (t))] [.int (if ((nI (D)) &&& ((1) <<< ((nI (x)) &&& 31))) = 0 then 1 else 0)] Q := by
    refine mm_istore (ls' := [(4, .int (if ((nI (D)) &&& ((1) <<< ((nI (x)) &&& 31))) = 0 then 1 else 0)), (0, .ref 22), (1, .int (nI (x))), (2, .int (nI (D))), (3, .int (t))]) dX10_canFollow_13 (by decide) rfl ?_
    refine mm_aload_n 1 dX10_canFollow_15 rfl rfl ?_
    refine mm_getr (b := 29) dX10_canFollow_16 rfl fk_X10_26 rfl so_22 sr_22_3 ?_
    refine mm_iload_n 2 dX10_canFollow_19 rfl rfl ?_
    refine mm_cV1i (dz := d - 1) dX10_canFollow_20 rfl mzX5_at ml_X10_104 imX5_at (by omega) so_29 ⟨rfl, rfl⟩ (ct_at rw_29 (x) (by omega)) (Nat.le_of_ble_eq_true rfl) ⟨Nat.le_refl _, Nat.le_refl _⟩ ?_
    refine mm_top (v := N (624 + x)) (cN_r (lo_at30.trans (if_pos (by omega)))) ?_
    refine mm_iload_n 3 dX10_canFollow_23 rfl rfl ?_
    refine mm_iconst (v := -1) dX10_canFollow_24 rfl ?_
    refine mm_ixor dX10_canFollow_25 ?_
    refine mm_at (pc' := 26) rfl ?_
    refine mm_iand dX10_canFollow_26 ?_
    have K27 : mm_Ex g zX10_canFollow d (0, 0) (0, 0) sh_S (cN (w * h) n l k o r A N) 35 [(4, .int (if ((nI (D)) &&& ((1) <<< ((nI (x)) &&& 31))) = 0 then 1 else 0)), (0, .ref 22), (1, .int (nI (x))), (2, .int (nI (D))), (3, .int (t))] [.int (if ((N (624 + x)) &&& ((nI (D)) ^^^ (-1))) = 0 then 1 else 0)] Q := by
      refine mm_istore (ls' := [(5, .int (if ((N (624 + x)) &&& ((nI (D)) ^^^ (-1))) = 0 then 1 else 0)), (4, .int (if ((nI (D)) &&& ((1) <<< ((nI (x)) &&& 31))) = 0 then 1 else 0)), (0, .ref 22), (1, .int (nI (x))), (2, .int (nI (D))), (3, .int (t))]) dX10_canFollow_35 (by decide) rfl ?_
      refine mm_iload 1 dX10_canFollow_37 rfl ?_
      refine mm_if_eqB (tgt := 68) dX10_canFollow_39 (by decide) (fun c39 => ?_) (fun c39 => ?_)
      · refine mm_iconst (v := 0) dX10_canFollow_68 rfl ?_
        refine mm_zret dX10_canFollow_69 rfl (by decide) ⟨Nat.le_refl _, Nat.le_refl _⟩ ?_
        rw [if_neg (by rintro ⟨q1, q2, q3⟩; first | exact c39 ((bt_ab (by omega)).mpr q1) | exact c44 q2 | exact absurd q3 (Int32.not_le.mpr c61))] at hq; exact hq
      · refine mm_iload 0 dX10_canFollow_42 rfl ?_
        refine mm_if_eqB (tgt := 68) dX10_canFollow_44 (by decide) (fun c44 => ?_) (fun c44 => ?_)
        · refine mm_iconst (v := 0) dX10_canFollow_68 rfl ?_
          refine mm_zret dX10_canFollow_69 rfl (by decide) ⟨Nat.le_refl _, Nat.le_refl _⟩ ?_
          rw [if_neg (by rintro ⟨q1, q2, q3⟩; first | exact c39 ((bt_ab (by omega)).mpr q1) | exact c44 q2 | exact absurd q3 (Int32.not_le.mpr c61))] at hq; exact hq
        · refine mm_iload_n 5 dX10_canFollow_47 rfl rfl ?_
          refine mm_aload_n 2 dX10_canFollow_48 rfl rfl ?_
          refine mm_getr (b := 23) dX10_canFollow_49 rfl fk_X10_14 rfl so_22 sr_22_0 ?_
          refine mm_iload_n 3 dX10_canFollow_52 rfl rfl ?_
          refine mm_cV1i (dz := d - 1) dX10_canFollow_53 rfl mzX5_at ml_X10_104 imX5_at (by omega) so_23 ⟨rfl, rfl⟩ (ct_at rw_23 (x) (by omega)) (Nat.le_of_ble_eq_true rfl) ⟨Nat.le_refl _, Nat.le_refl _⟩ ?_
          refine mm_top (v := N (606 + x)) (cN_r (lo_at24.trans (if_pos (by omega)))) ?_
          refine mm_iadd dX10_canFollow_56 ?_
          refine mm_aload_n 2 dX10_canFollow_57 rfl rfl ?_
          refine mm_at (pc' := 58) rfl ?_
          refine mm_geti dX10_canFollow_58 rfl fk_X10_53 rfl so_22 ?_
          refine mm_top (v := T) ((cN_off hz2 (by decide)).trans h10) ?_
          refine mm_icmp_gt (tgt := 68) dX10_canFollow_61 (by decide) (fun c61 => ?_) (fun c61 => ?_)
          · refine mm_iconst (v := 0) dX10_canFollow_68 rfl ?_
            refine mm_zret dX10_canFollow_69 rfl (by decide) ⟨Nat.le_refl _, Nat.le_refl _⟩ ?_
            rw [if_neg (by rintro ⟨q1, q2, q3⟩; first | exact c39 ((bt_ab (by omega)).mpr q1) | exact c44 q2 | exact absurd q3 (Int32.not_le.mpr c61))] at hq; exact hq
          · refine mm_iconst (v := 1) dX10_canFollow_64 rfl ?_
            refine mm_goto (tgt := 69) dX10_canFollow_65 (by decide) ?_
            refine mm_zret dX10_canFollow_69 rfl (by decide) ⟨Nat.le_refl _, Nat.le_refl _⟩ ?_
            rw [if_pos ⟨(bt_ab (by omega)).mp c39, c44, by first | exact c61 | exact Int32.not_lt.mp c61⟩] at hq; exact hq
    refine mm_if_ne (tgt := 34) dX10_canFollow_27 (by decide) (fun c27 => ?_) (fun c27 => ?_)
    · refine mm_iconst (v := 0) dX10_canFollow_34 rfl ?_
      exact mm_top (by first | rfl | (simp [c27]; done) | (rw [if_pos (by simp_all)]; done) | (rw [if_neg (by simp_all)]; done) | (rw [if_pos (by omega)]; done) | (rw [if_neg (by omega)]; done)) K27
    · refine mm_iconst (v := 1) dX10_canFollow_30 rfl ?_
      refine mm_goto (tgt := 35) dX10_canFollow_31 (by decide) ?_
      exact mm_top (by first | rfl | (simp [c27]; done) | (rw [if_pos (by simp_all)]; done) | (rw [if_neg (by simp_all)]; done) | (rw [if_pos (by omega)]; done) | (rw [if_neg (by omega)]; done)) K27
  refine mm_if_ne (tgt := 12) dX10_canFollow_5 (by decide) (fun c5 => ?_) (fun c5 => ?_)
  · refine mm_iconst (v := 0) dX10_canFollow_12 rfl ?_
    exact mm_top (by first | rfl | (simp [c5]; done) | (rw [if_pos (by simp_all)]; done) | (rw [if_neg (by simp_all)]; done) | (rw [if_pos (by omega)]; done) | (rw [if_neg (by omega)]; done)) K5
  · refine mm_iconst (v := 1) dX10_canFollow_8 rfl ?_
    refine mm_goto (tgt := 13) dX10_canFollow_9 (by decide) ?_
    exact mm_top (by first | rfl | (simp [c5]; done) | (rw [if_pos (by simp_all)]; done) | (rw [if_neg (by simp_all)]; done) | (rw [if_pos (by omega)]; done) | (rw [if_neg (by omega)]; done)) K5
set_option maxRecDepth 100000 in
set_option maxHeartbeats 600000 in
theorem cg_try {g : mm_G} {d : Nat} {w h n l k o r : Nat} {A : mm_I} {N : Nat → Int32} (hz : zOK (w * h) n l k o r) (hW : mo_W N w h) {T up : Int32} {s : sk_S} {m : Nat} {r_ : Nat → Int32} (hE : wE A T up s m r_) (hm6 : m < 6) {x D : Nat} {t b p : Int32} {rec : sk_S → sk_S} (hx : x < k) (hD : D < 64) (hrec : ∀ (s1 : sk_S) (A1 : mm_I), wE A1 T up s1 (m + 1) (upd r_ m (nI x)) → wF A A1 → mm_Dv g zX10_seek (d - 1) [.ref 22, .int (nI (D ||| 2 ^ x)), .int (t + N (606 + x)), .int (sk_en b p (up + N (612 + x)) (N (606 + x))), .int (p + N (618 + x))] sh_S (cN (w * h) n l k o r A1 N) (fun J => ∃ A2, J = cN (w * h) n l k o r A2 N ∧ wE A2 T up (rec s1) (m + 1) (upd r_ m (nI x)) ∧ wF A1 A2)) (hd : 2 ≤ d) : mm_Dv g zX10_tryWork d [.ref 22, .int (nI (x)), .int (nI (D)), .int (t), .int (b), .int (p)] sh_S (cN (w * h) n l k o r A N) (fun J => ∃ A2, J = cN (w * h) n l k o r A2 N ∧ wE A2 T up (if s.1 = 0 then (s.1, true, s.2.2) else if sk_en b p (up + N (612 + x)) (N (606 + x)) < 0 then (s.1 - 1, s.2) else rec (s.1 - 1, s.2)) m r_ ∧ wF A A2) := by
  obtain ⟨hz1, hz2, hz3, hz4, hz5, hz6⟩ := id hz
  have hc := mo_W_c hW
  obtain ⟨-, -, hw1, hw2, hh1, hh2⟩ := id hW
  obtain ⟨h1, h2, h3, h4, ⟨h5, h6, h7⟩, ⟨h8, h9⟩, h10, h11⟩ := id hE
  refine mm_Dv_of (fun Q hq => ?_)
  refine mm_begin (ls := [(0, .ref 22), (1, .int (nI (x))), (2, .int (nI (D))), (3, .int (t)), (4, .int (b)), (5, .int (p))]) (Nat.le_of_ble_eq_true rfl) rfl rfl ?_
  refine mm_aload_n 0 dX10_tryWork_0 rfl rfl ?_
  refine mm_geti dX10_tryWork_1 rfl fk_X10_66 rfl so_22 ?_
  refine mm_top (v := nI (s.1)) ((cN_off hz2 (by decide)).trans h1) ?_
  refine mm_if_gtN (s.1) (tgt := 13) dX10_tryWork_4 (by decide) (by omega) (fun c4 => ?_) (fun c4 => ?_)
  · refine mm_aload_n 0 dX10_tryWork_13 rfl rfl ?_
    refine mm_dup dX10_tryWork_14 rfl ?_
    refine mm_geti dX10_tryWork_15 rfl fk_X10_66 rfl so_22 ?_
    refine mm_top (v := nI (s.1)) ((cN_off hz2 (by decide)).trans h1) ?_
    refine mm_iconst (v := 1) dX10_tryWork_18 rfl ?_
    refine mm_isubN (s.1) (1) dX10_tryWork_19 (by omega) ?_
    refine mm_puti dX10_tryWork_20 rfl fk_X10_66 rfl fv_10_9 so_22 ?_
    refine mm_mem (J := cN (w * h) n l k o r (mm_up A 22 9 (nI (s.1 - 1))) N) (cN_dof hz2 (by decide)) ?_
    refine mm_iload 4 dX10_tryWork_23 rfl ?_
    refine mm_iload 5 dX10_tryWork_25 rfl ?_
    refine mm_at (pc' := 27) rfl ?_
    refine mm_aload_n 0 dX10_tryWork_27 rfl rfl ?_
    refine mm_getr (b := 23) dX10_tryWork_28 rfl fk_X10_14 rfl so_22 sr_22_0 ?_
    refine mm_iload_n 1 dX10_tryWork_31 rfl rfl ?_
    refine mm_cV1i (dz := d - 1) dX10_tryWork_32 rfl mzX5_at ml_X10_104 imX5_at (by omega) so_23 ⟨rfl, rfl⟩ (ct_at rw_23 (x) (by omega)) (Nat.le_of_ble_eq_true rfl) ⟨Nat.le_refl _, Nat.le_refl _⟩ ?_
    refine mm_top (v := N (606 + x)) (cN_r (lo_at24.trans (if_pos (by omega)))) ?_
    refine mm_aload_n 0 dX10_tryWork_35 rfl rfl ?_
    refine mm_geti dX10_tryWork_36 rfl fk_X10_63 rfl so_22 ?_
    refine mm_top (v := up) ((cN_off hz2 (by decide)).trans h11) ?_
    refine mm_aload_n 0 dX10_tryWork_39 rfl rfl ?_
    refine mm_getr (b := 25) dX10_tryWork_40 rfl fk_X10_20 rfl so_22 sr_22_1 ?_
    refine mm_at (pc' := 43) rfl ?_
    refine mm_iload_n 1 dX10_tryWork_43 rfl rfl ?_
    refine mm_cV1i (dz := d - 1) dX10_tryWork_44 rfl mzX5_at ml_X10_104 imX5_at (by omega) so_25 ⟨rfl, rfl⟩ (ct_at rw_25 (x) (by omega)) (Nat.le_of_ble_eq_true rfl) ⟨Nat.le_refl _, Nat.le_refl _⟩ ?_
    refine mm_top (v := N (612 + x)) (cN_r (lo_at26.trans (if_pos (by omega)))) ?_
    refine mm_iadd dX10_tryWork_47 ?_
    refine mm_cS4i (dz := d - 1) dX10_tryWork_48 rfl mzX10_live ml_X10_100 imX10_live (by omega) (cg_live (by omega)) (Nat.le_of_ble_eq_true rfl) ⟨Nat.le_refl _, Nat.le_refl _⟩ ?_
    refine mm_istore (ls' := [(6, .int (sk_en b p (up + (N (612 + x))) (N (606 + x)))), (0, .ref 22), (1, .int (nI (x))), (2, .int (nI (D))), (3, .int (t)), (4, .int (b)), (5, .int (p))]) dX10_tryWork_51 (by decide) rfl ?_
    refine mm_iload 0 dX10_tryWork_53 rfl ?_
    refine mm_if_lt (tgt := 107) dX10_tryWork_55 (by decide) (fun c55 => ?_) (fun c55 => ?_)
    · refine mm_vret dX10_tryWork_107 rfl ⟨Nat.le_refl _, Nat.le_refl _⟩ ?_
      refine hq _ ⟨mm_up A 22 9 (nI (s.1 - 1)), rfl, ?_, wF_u (wF_r A) (by omega)⟩
      rw [if_neg (by omega), if_pos c55]; exact wE_d hE
    · refine mm_aload_n 1 dX10_tryWork_58 rfl rfl ?_
      refine mm_getr (b := 31) dX10_tryWork_59 rfl fk_X10_29 rfl so_22 sr_22_4 ?_
      refine mm_iload_n 2 dX10_tryWork_62 rfl rfl ?_
      refine mm_cV1i (dz := d - 1) dX10_tryWork_63 rfl mzX5_add ml_X10_46 imX5_add (by omega) so_31 ⟨rfl, rfl⟩ (ct_add rw_31 m ((cN_off hz2 (by decide)).trans h8) (by omega)) (Nat.le_of_ble_eq_true rfl) ⟨Nat.le_refl _, Nat.le_refl _⟩ ?_
      refine mm_mem (J := cN (w * h) n l k o r (mm_up (mm_up (mm_up A 22 9 (nI (s.1 - 1))) 32 m (nI x)) 31 1 (nI (m + 1))) N) (by rw [cN_dof hz2 (by decide), cN_dof hz2 (by decide)]) ?_
      refine mm_pop dX10_tryWork_66 rfl ?_
      refine mm_aload_n 1 dX10_tryWork_67 rfl rfl ?_
      refine mm_iload_n 3 dX10_tryWork_68 rfl rfl ?_
      refine mm_at (pc' := 69) rfl ?_
      refine mm_iconst (v := 1) dX10_tryWork_69 rfl ?_
      refine mm_iload_n 2 dX10_tryWork_70 rfl rfl ?_
      refine mm_ishl dX10_tryWork_71 ?_
      refine mm_ior dX10_tryWork_72 ?_
      refine mm_top (v := nI (D ||| 2 ^ x)) (sk_or D hD x (by omega)) ?_
      refine mm_iload_n 4 dX10_tryWork_73 rfl rfl ?_
      refine mm_aload_n 1 dX10_tryWork_74 rfl rfl ?_
      refine mm_getr (b := 23) dX10_tryWork_75 rfl fk_X10_14 rfl so_22 sr_22_0 ?_
      refine mm_iload_n 2 dX10_tryWork_78 rfl rfl ?_
      refine mm_at (pc' := 79) rfl ?_
      refine mm_cV1i (dz := d - 1) dX10_tryWork_79 rfl mzX5_at ml_X10_104 imX5_at (by omega) so_23 ⟨rfl, rfl⟩ (ct_at rw_23 (x) (by omega)) (Nat.le_of_ble_eq_true rfl) ⟨Nat.le_refl _, Nat.le_refl _⟩ ?_
      refine mm_top (v := N (606 + x)) (cN_r (lo_at24.trans (if_pos (by omega)))) ?_
      refine mm_iadd dX10_tryWork_82 ?_
      refine mm_iload 0 dX10_tryWork_83 rfl ?_
      refine mm_iload 6 dX10_tryWork_85 rfl ?_
      refine mm_aload_n 1 dX10_tryWork_87 rfl rfl ?_
      refine mm_getr (b := 27) dX10_tryWork_88 rfl fk_X10_23 rfl so_22 sr_22_2 ?_
      refine mm_iload_n 2 dX10_tryWork_91 rfl rfl ?_
      refine mm_cV1i (dz := d - 1) dX10_tryWork_92 rfl mzX5_at ml_X10_104 imX5_at (by omega) so_27 ⟨rfl, rfl⟩ (ct_at rw_27 (x) (by omega)) (Nat.le_of_ble_eq_true rfl) ⟨Nat.le_refl _, Nat.le_refl _⟩ ?_
      refine mm_at (pc' := 95) rfl ?_
      refine mm_top (v := N (618 + x)) (cN_r (lo_at28.trans (if_pos (by omega)))) ?_
      refine mm_iadd dX10_tryWork_95 ?_
      refine mm_dV4v (dz := d - 1) dX10_tryWork_96 rfl mzX10_seek ml_X10_82 imX10_seek (by omega) so_22 ⟨rfl, rfl⟩ (hrec (s.1 - 1, s.2) (mm_up (mm_up (mm_up A 22 9 (nI (s.1 - 1))) 32 m (nI x)) 31 1 (nI (m + 1))) (wE_t hE) (wF_u (wF_u (wF_u (wF_r A) (by omega)) (by omega)) (by omega))) (Nat.le_of_ble_eq_true rfl) ⟨Nat.le_refl _, Nat.le_refl _⟩ (fun J2 hJ2 => ?_)
      obtain ⟨A2, rfl, hE2, hF2⟩ := hJ2
      refine mm_aload_n 1 dX10_tryWork_99 rfl rfl ?_
      refine mm_getr (b := 31) dX10_tryWork_100 rfl fk_X10_29 rfl so_22 sr_22_4 ?_
      refine mm_cV0i (dz := d - 1) dX10_tryWork_103 rfl mzX5_pop ml_X10_107 imX5_pop (by omega) so_31 ⟨rfl, rfl⟩ (ct_pop rw_31 m ((cN_off hz2 (by decide)).trans hE2.2.2.2.2.2.1.1) (by omega) (by omega)) (Nat.le_of_ble_eq_true rfl) ⟨Nat.le_refl _, Nat.le_refl _⟩ ?_
      refine mm_pop dX10_tryWork_106 rfl ?_
      refine mm_vret dX10_tryWork_107 rfl ⟨Nat.le_refl _, Nat.le_refl _⟩ ?_
      refine hq _ ⟨mm_up A2 31 1 (nI m), by rw [cN_dof hz2 (by decide)], ?_, wF_u (wF_t (wF_u (wF_u (wF_u (wF_r A) (by omega)) (by omega)) (by omega)) hF2) (by omega)⟩
      rw [if_neg (by omega), if_neg (by first | exact c55 | exact Int32.not_lt.mpr c55)]; exact wE_m hE2
  · refine mm_aload_n 0 dX10_tryWork_7 rfl rfl ?_
    refine mm_iconst (v := 1) dX10_tryWork_8 rfl ?_
    refine mm_putz dX10_tryWork_9 rfl fk_X10_69 rfl fv_10_10 (by decide) so_22 ?_
    refine mm_vret dX10_tryWork_12 rfl ⟨Nat.le_refl _, Nat.le_refl _⟩ ?_
    refine hq _ ⟨mm_up A 22 10 1, by rw [cN_dof hz2 (by decide)], ?_, wF_u (wF_r A) (by omega)⟩
    rw [if_pos (by omega)]; exact wE_s hE
set_option maxRecDepth 100000 in
set_option maxHeartbeats 600000 in
theorem dk_sk {g : mm_G} {d : Nat} {w h n l k o r : Nat} {A : mm_I} {N : Nat → Int32} (hz : zOK (w * h) n l k o r) (hW : mo_W N w h) {Q : Option Value → mm_Sh → mm_I → Prop} {T up : Int32} {s0 : sk_S} {m D : Nat} {r_ : Nat → Int32} {t b p : Int32} {rec : Nat → sk_S → sk_S} (hm6 : m < 6) (hD : D < 64) (hrec : ∀ (x : Nat) (s1 : sk_S) (A1 : mm_I), x < k → sk_ca N T D x t → wE A1 T up s1 (m + 1) (upd r_ m (nI x)) → wF A A1 → mm_Dv g zX10_seek (d - 1 - 1) [.ref 22, .int (nI (D ||| 2 ^ x)), .int (t + N (606 + x)), .int (sk_en b p (up + N (612 + x)) (N (606 + x))), .int (p + N (618 + x))] sh_S (cN (w * h) n l k o r A1 N) (fun J => ∃ A2, J = cN (w * h) n l k o r A2 N ∧ wE A2 T up (rec x s1) (m + 1) (upd r_ m (nI x)) ∧ wF A1 A2)) (hd : 4 ≤ d) (hq : ∀ A2, wE A2 T up (sk_l (sk_st N up T D t b p rec) k s0) m r_ → wF A A2 → Q none sh_S (cN (w * h) n l k o r A2 N)) : ∀ (mf : Nat) (i : Nat) (A1 : mm_I), (i ≤ k) → wE A1 T up (sk_l (sk_st N up T D t b p rec) i s0) m r_ → wF A A1 → k - i < mf → mm_Ex g zX10_seek d (0, 0) (0, 0) sh_S (cN (w * h) n l k o r A1 N) 24 [(5, .int (nI i)), (0, .ref 22), (1, .int (nI D)), (2, .int t), (3, .int b), (4, .int p)] [] Q := by
  obtain ⟨hz1, hz2, hz3, hz4, hz5, hz6⟩ := id hz
  have hc := mo_W_c hW
  obtain ⟨-, -, hw1, hw2, hh1, hh2⟩ := id hW
  intro mf
  induction mf with
  | zero => intro i A1 hi hE hF hmz; exact absurd hmz (Nat.not_lt_zero _)
  | succ mf ih =>
    intro i A1 hi hE hF hmz
    generalize es : sk_l (sk_st N up T D t b p rec) i s0 = s at hE
    have step : sk_l (sk_st N up T D t b p rec) (i + 1) s0 = sk_st N up T D t b p rec i s := by rw [← es]; rfl
    obtain ⟨h1, h2, h3, h4, ⟨h5, h6, h7⟩, ⟨h8, h9⟩, h10, h11⟩ := id hE
    refine mm_iload 0 dX10_seek_24 rfl ?_
    refine mm_aload_n 1 dX10_seek_26 rfl rfl ?_
    refine mm_cV0i (dz := d - 1) dX10_seek_27 rfl mzX10_many ml_X10_50 imX10_many (by omega) so_22 ⟨rfl, rfl⟩ (cg_works hz hW (by omega)) (Nat.le_of_ble_eq_true rfl) ⟨Nat.le_refl _, Nat.le_refl _⟩ ?_
    refine mm_icmp_geN (i) (k) (tgt := 68) dX10_seek_30 (by decide) (by omega) (by omega) (fun c30 => ?_) (fun c30 => ?_)
    · refine mm_vret dX10_seek_68 rfl ⟨Nat.le_refl _, Nat.le_refl _⟩ ?_
      refine hq A1 ?_ hF
      first | (rw [show k = i by omega, es]; exact hE) | (rw [sk_l_s (i := i) (by rw [es]; exact c37) hi, es]; exact hE)
    · refine mm_aload_n 1 dX10_seek_33 rfl rfl ?_
      refine mm_geti dX10_seek_34 rfl fk_X10_69 rfl so_22 ?_
      refine mm_top (v := if s.2.1 = true then 1 else 0) ((cN_off hz2 (by decide)).trans h3) ?_
      refine mm_if_neB (tgt := 68) dX10_seek_37 (by decide) (fun c37 => ?_) (fun c37 => ?_)
      · refine mm_vret dX10_seek_68 rfl ⟨Nat.le_refl _, Nat.le_refl _⟩ ?_
        refine hq A1 ?_ hF
        first | (rw [show k = i by omega, es]; exact hE) | (rw [sk_l_s (i := i) (by rw [es]; exact c37) hi, es]; exact hE)
      · refine mm_aload_n 1 dX10_seek_40 rfl rfl ?_
        refine mm_iload 0 dX10_seek_41 rfl ?_
        refine mm_iload_n 2 dX10_seek_43 rfl rfl ?_
        refine mm_iload_n 3 dX10_seek_44 rfl rfl ?_
        refine mm_cV3i (dz := d - 1) dX10_seek_45 rfl mzX10_canFollow ml_X10_92 imX10_canFollow (by omega) so_22 ⟨rfl, rfl⟩ (cg_cf hz hW hE (by omega) (x := i) (D := D) (by omega) (by omega)) (Nat.le_of_ble_eq_true rfl) ⟨Nat.le_refl _, Nat.le_refl _⟩ ?_
        refine mm_if_eqB (tgt := 62) dX10_seek_48 (by decide) (fun c48 => ?_) (fun c48 => ?_)
        · refine mm_iincN (ls' := [(5, .int (nI (i + 1))), (0, .ref 22), (1, .int (nI (D))), (2, .int (t)), (3, .int (b)), (4, .int (p))]) 0 (i) 1 dX10_seek_62 rfl rfl (by decide) rfl ?_
          refine mm_goto (tgt := 24) dX10_seek_65 (by decide) ?_
          have hh := ih (i + 1) A1 (by omega) (by rw [step, sk_st_n c48]; exact hE) hF (by omega)
          exact mm_sub [0, 1, 2, 3, 4, 5] rfl hh
        · refine mm_aload_n 1 dX10_seek_51 rfl rfl ?_
          refine mm_iload 0 dX10_seek_52 rfl ?_
          refine mm_iload_n 2 dX10_seek_54 rfl rfl ?_
          refine mm_iload_n 3 dX10_seek_55 rfl rfl ?_
          refine mm_iload_n 4 dX10_seek_56 rfl rfl ?_
          refine mm_iload 5 dX10_seek_57 rfl ?_
          refine mm_dV5v (dz := d - 1) dX10_seek_59 rfl mzX10_tryWork ml_X10_96 imX10_tryWork (by omega) so_22 ⟨rfl, rfl⟩ (cg_try hz hW hE hm6 (x := i) (D := D) (rec := rec i) (by omega) hD (fun s1 A3 q1 q2 => hrec i s1 A3 (by omega) c48 q1 (wF_t hF q2)) (by omega)) (Nat.le_of_ble_eq_true rfl) ⟨Nat.le_refl _, Nat.le_refl _⟩ (fun J2 hJ2 => ?_)
          obtain ⟨A2, rfl, hE2, hF2⟩ := hJ2
          refine mm_at (pc' := 62) rfl ?_
          refine mm_iincN (ls' := [(5, .int (nI (i + 1))), (0, .ref 22), (1, .int (nI (D))), (2, .int (t)), (3, .int (b)), (4, .int (p))]) 0 (i) 1 dX10_seek_62 rfl rfl (by decide) rfl ?_
          refine mm_goto (tgt := 24) dX10_seek_65 (by decide) ?_
          have hh := ih (i + 1) A2 (by omega) (by rw [step]; unfold sk_st; rw [if_neg c37, if_pos c48]; exact hE2) (wF_t hF hF2) (by omega)
          exact mm_sub [0, 1, 2, 3, 4, 5] rfl hh
set_option maxRecDepth 100000 in
set_option maxHeartbeats 600000 in
theorem cg_seek {g : mm_G} {w h n l k o r : Nat} {N : Nat → Int32} (hz : zOK (w * h) n l k o r) (hW : mo_W N w h) {T up : Int32} : ∀ (f m : Nat) (r_ : Nat → Int32) (D : Nat) (t b p : Int32) (s : sk_S) (A : mm_I) (d : Nat), m + f = 6 → D < 64 → sk_cn D k = m → wE A T up s m r_ → 2 * f + 4 ≤ d → mm_Dv g zX10_seek d [.ref 22, .int (nI D), .int t, .int b, .int p] sh_S (cN (w * h) n l k o r A N) (fun J => ∃ A2, J = cN (w * h) n l k o r A2 N ∧ wE A2 T up (sk N up T k f m r_ D t b p s) m r_ ∧ wF A A2) := by
  intro f
  induction f with
  | zero =>
    intro m r_ D t b p s A d hm hD hcn hE hd
    obtain ⟨hz1, hz2, hz3, hz4, hz5, hz6⟩ := id hz
    have hc := mo_W_c hW
    obtain ⟨-, -, hw1, hw2, hh1, hh2⟩ := id hW
    refine mm_Dv_of (fun Q hq => ?_)
    refine mm_begin (ls := [(0, .ref 22), (1, .int (nI (D))), (2, .int (t)), (3, .int (b)), (4, .int (p))]) (Nat.le_of_ble_eq_true rfl) rfl rfl ?_
    refine mm_aload_n 0 dX10_seek_0 rfl rfl ?_
    refine mm_iload_n 2 dX10_seek_1 rfl rfl ?_
    refine mm_iload_n 3 dX10_seek_2 rfl rfl ?_
    refine mm_iload 4 dX10_seek_3 rfl ?_
    refine mm_dV3v (dz := d - 1) dX10_seek_5 rfl mzX10_weigh ml_X10_88 imX10_weigh (by omega) so_22 ⟨rfl, rfl⟩ (cg_weigh hz hW hE (by omega) (by omega)) (Nat.le_of_ble_eq_true rfl) ⟨Nat.le_refl _, Nat.le_refl _⟩ (fun J1 hJ1 => ?_)
    obtain ⟨A1, rfl, hE1, hF1⟩ := hJ1
    refine mm_aload_n 0 dX10_seek_8 rfl rfl ?_
    refine mm_getr (b := 31) dX10_seek_9 rfl fk_X10_29 rfl so_22 sr_22_4 ?_
    refine mm_cV0i (dz := d - 1) dX10_seek_12 rfl mzX5_size ml_X10_42 imX5_size (by omega) so_31 ⟨rfl, rfl⟩ (ct_size rw_31) (Nat.le_of_ble_eq_true rfl) ⟨Nat.le_refl _, Nat.le_refl _⟩ ?_
    refine mm_at (pc' := 15) rfl ?_
    refine mm_top (v := nI (m)) ((cN_off hz2 (by decide)).trans hE1.2.2.2.2.2.1.1) ?_
    refine mm_bipush (v := 6) dX10_seek_15 rfl ?_
    refine mm_icmp_ltN (m) (6) (tgt := 21) dX10_seek_17 (by decide) (by omega) (by omega) (fun c17 => ?_) (fun c17 => ?_)
    · exfalso; omega
    · refine mm_vret dX10_seek_20 rfl ⟨Nat.le_refl _, Nat.le_refl _⟩ ?_
      exact hq _ ⟨A1, rfl, hE1, hF1⟩
  | succ f ih =>
    intro m r_ D t b p s A d hm hD hcn hE hd
    obtain ⟨hz1, hz2, hz3, hz4, hz5, hz6⟩ := id hz
    have hc := mo_W_c hW
    obtain ⟨-, -, hw1, hw2, hh1, hh2⟩ := id hW
    refine mm_Dv_of (fun Q hq => ?_)
    refine mm_begin (ls := [(0, .ref 22), (1, .int (nI (D))), (2, .int (t)), (3, .int (b)), (4, .int (p))]) (Nat.le_of_ble_eq_true rfl) rfl rfl ?_
    refine mm_aload_n 0 dX10_seek_0 rfl rfl ?_
    refine mm_iload_n 2 dX10_seek_1 rfl rfl ?_
    refine mm_iload_n 3 dX10_seek_2 rfl rfl ?_
    refine mm_iload 4 dX10_seek_3 rfl ?_
    refine mm_dV3v (dz := d - 1) dX10_seek_5 rfl mzX10_weigh ml_X10_88 imX10_weigh (by omega) so_22 ⟨rfl, rfl⟩ (cg_weigh hz hW hE (by omega) (by omega)) (Nat.le_of_ble_eq_true rfl) ⟨Nat.le_refl _, Nat.le_refl _⟩ (fun J1 hJ1 => ?_)
    obtain ⟨A1, rfl, hE1, hF1⟩ := hJ1
    refine mm_aload_n 0 dX10_seek_8 rfl rfl ?_
    refine mm_getr (b := 31) dX10_seek_9 rfl fk_X10_29 rfl so_22 sr_22_4 ?_
    refine mm_cV0i (dz := d - 1) dX10_seek_12 rfl mzX5_size ml_X10_42 imX5_size (by omega) so_31 ⟨rfl, rfl⟩ (ct_size rw_31) (Nat.le_of_ble_eq_true rfl) ⟨Nat.le_refl _, Nat.le_refl _⟩ ?_
    refine mm_at (pc' := 15) rfl ?_
    refine mm_top (v := nI (m)) ((cN_off hz2 (by decide)).trans hE1.2.2.2.2.2.1.1) ?_
    refine mm_bipush (v := 6) dX10_seek_15 rfl ?_
    refine mm_icmp_ltN (m) (6) (tgt := 21) dX10_seek_17 (by decide) (by omega) (by omega) (fun c17 => ?_) (fun c17 => ?_)
    · refine mm_iconst (v := 0) dX10_seek_21 rfl ?_
      refine mm_istore (ls' := [(5, .int (0)), (0, .ref 22), (1, .int (nI (D))), (2, .int (t)), (3, .int (b)), (4, .int (p))]) dX10_seek_22 (by decide) rfl ?_
      refine mm_sub [0, 1, 2, 3, 4, 5] rfl (dk_sk hz hW (rec := fun x s => sk N up T k f (m + 1) (upd r_ m (nI x)) (D ||| 2 ^ x) (t + N (606 + x)) (sk_en b p (up + N (612 + x)) (N (606 + x))) (p + N (618 + x)) s) (s0 := (sk_we up T m r_ t b p s)) (by omega) hD (fun x s1 A3 hx q hE3 hF3 => ?_) (by omega) (fun A2 h1 h2 => hq _ ⟨A2, rfl, h1, wF_t hF1 h2⟩) (k + 1) 0 A1 (Nat.zero_le _) hE1 (wF_r A1) (by omega))
      have hcn2 := sk_cn_or D hD k (by omega) x hx q.1
      exact ih (m + 1) _ _ _ _ _ s1 A3 (d - 1 - 1) (by omega) hcn2.2 (by rw [hcn2.1, hcn]) hE3 (by omega)
    · exfalso; omega
