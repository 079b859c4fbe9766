/-! THE REFERENCE'S READER: signs that are needed, numbers, codes -/
set_option maxRecDepth 100000 in
set_option maxHeartbeats 600000 in
theorem cm_needF {g : mm_G} {J : mm_I} {d : Nat} {p t : Nat} (ht : J 200 4 = nI t) (ht96 : t ≤ 96) {bs br ns : Nat} {N : Nat → Int32} {CS : List Nat} {q : Nat × Nat × Nat} (hQ : tq_ok (J 203) t q) {c : Int32} (hd : 1 ≤ d) : mm_Cv g zX12_need d [.ref 200, .int c] sh_S (pz J p q 1 bs br ns N CS) (pz J p q 1 bs br ns N CS) := by
  refine mm_Cv_of (fun Q hq => ?_)
  refine mm_begin (ls := [(0, .ref 200), (1, .int (c))]) (Nat.le_of_ble_eq_true rfl) rfl rfl ?_
  refine mm_aload_n 0 dX12_need_0 rfl rfl ?_
  refine mm_aload_n 0 dX12_need_1 rfl rfl ?_
  refine mm_geti dX12_need_2 rfl fk_X12_164 rfl so_200 ?_
  refine mm_top (v := nI (1)) rfl ?_
  refine mm_top (v := 1) rfl ?_
  refine mm_if_ne (tgt := 16) dX12_need_5 (by decide) (fun _ => ?_) (fun q => absurd q (by decide))
  refine mm_iconst (v := 1) dX12_need_16 rfl ?_
  refine mm_goto (tgt := 21) dX12_need_17 (by decide) ?_
  refine mm_putz dX12_need_21 rfl fk_X12_164 rfl fv_12_14 (by decide) so_200 ?_
  refine mm_mem (J := pz J p q 1 bs br ns N CS) (pz_14 (v := 1)) ?_
  refine mm_aload_n 0 dX12_need_24 rfl rfl ?_
  refine mm_geti dX12_need_25 rfl fk_X12_164 rfl so_200 ?_
  refine mm_top (v := nI (1)) rfl ?_
  refine mm_top (v := 1) rfl ?_
  refine mm_if_ne (tgt := 35) dX12_need_28 (by decide) (fun _ => ?_) (fun q => absurd q (by decide))
  refine mm_vret dX12_need_35 rfl ⟨Nat.le_refl _, Nat.le_refl _⟩ ?_
  exact hq
set_option maxRecDepth 100000 in
set_option maxHeartbeats 600000 in
theorem cm_needY {g : mm_G} {J : mm_I} {d : Nat} {p t : Nat} (ht : J 200 4 = nI t) (ht96 : t ≤ 96) {bs br ns : Nat} {N : Nat → Int32} {CS : List Nat} {q : Nat × Nat × Nat} (hQ : tq_ok (J 203) t q) {c : Int32} (hc : sg (J 203) q c) (hd : 2 ≤ d) : mm_Cv g zX12_need d [.ref 200, .int c] sh_S (pz J p q 0 bs br ns N CS) (pz J p (nx (J 203) t q) 0 bs br ns N CS) := by
  refine mm_Cv_of (fun Q hq => ?_)
  refine mm_begin (ls := [(0, .ref 200), (1, .int (c))]) (Nat.le_of_ble_eq_true rfl) rfl rfl ?_
  refine mm_aload_n 0 dX12_need_0 rfl rfl ?_
  refine mm_aload_n 0 dX12_need_1 rfl rfl ?_
  refine mm_geti dX12_need_2 rfl fk_X12_164 rfl so_200 ?_
  refine mm_top (v := nI (0)) rfl ?_
  refine mm_top (v := 0) rfl ?_
  refine mm_if_ne (tgt := 16) dX12_need_5 (by decide) (fun q => absurd q (by decide)) (fun _ => ?_)
  refine mm_aload_n 0 dX12_need_8 rfl rfl ?_
  refine mm_iload_n 1 dX12_need_9 rfl rfl ?_
  refine mm_cV1i (dz := d - 1) dX12_need_10 rfl mzX12_isSign ml_X12_168 imX12_isSign (by omega) so_200 ⟨rfl, rfl⟩ (cm_isSign ht ht96 hQ) (Nat.le_of_ble_eq_true rfl) ⟨Nat.le_refl _, Nat.le_refl _⟩ ?_
  refine mm_if_neB (tgt := 20) dX12_need_13 (by decide) (fun c13 => ?_) (fun c13 => ?_)
  · refine mm_iconst (v := 0) dX12_need_20 rfl ?_
    refine mm_putz dX12_need_21 rfl fk_X12_164 rfl fv_12_14 (by decide) so_200 ?_
    refine mm_mem (J := pz J p q 0 bs br ns N CS) (pz_14 (v := 0)) ?_
    refine mm_aload_n 0 dX12_need_24 rfl rfl ?_
    refine mm_geti dX12_need_25 rfl fk_X12_164 rfl so_200 ?_
    refine mm_top (v := nI (0)) rfl ?_
    refine mm_top (v := 0) rfl ?_
    refine mm_if_ne (tgt := 35) dX12_need_28 (by decide) (fun q => absurd q (by decide)) (fun _ => ?_)
    refine mm_aload_n 0 dX12_need_31 rfl rfl ?_
    refine mm_cV0v (dz := d - 1) dX12_need_32 rfl mzX12_next ml_X12_171 imX12_next (by omega) so_200 ⟨rfl, rfl⟩ (cm_nextQ ht ht96 hQ (by omega)) (Nat.le_of_ble_eq_true rfl) ⟨Nat.le_refl _, Nat.le_refl _⟩ ?_
    refine mm_vret dX12_need_35 rfl ⟨Nat.le_refl _, Nat.le_refl _⟩ ?_
    exact hq
  · exact absurd hc c13
set_option maxRecDepth 100000 in
set_option maxHeartbeats 600000 in
theorem cm_needN {g : mm_G} {J : mm_I} {d : Nat} {p t : Nat} (ht : J 200 4 = nI t) (ht96 : t ≤ 96) {bs br ns : Nat} {N : Nat → Int32} {CS : List Nat} {q : Nat × Nat × Nat} (hQ : tq_ok (J 203) t q) {c : Int32} (hc : ¬ sg (J 203) q c) (hd : 2 ≤ d) : mm_Cv g zX12_need d [.ref 200, .int c] sh_S (pz J p q 0 bs br ns N CS) (pz J p q 1 bs br ns N CS) := by
  refine mm_Cv_of (fun Q hq => ?_)
  refine mm_begin (ls := [(0, .ref 200), (1, .int (c))]) (Nat.le_of_ble_eq_true rfl) rfl rfl ?_
  refine mm_aload_n 0 dX12_need_0 rfl rfl ?_
  refine mm_aload_n 0 dX12_need_1 rfl rfl ?_
  refine mm_geti dX12_need_2 rfl fk_X12_164 rfl so_200 ?_
  refine mm_top (v := nI (0)) rfl ?_
  refine mm_top (v := 0) rfl ?_
  refine mm_if_ne (tgt := 16) dX12_need_5 (by decide) (fun q => absurd q (by decide)) (fun _ => ?_)
  refine mm_aload_n 0 dX12_need_8 rfl rfl ?_
  refine mm_iload_n 1 dX12_need_9 rfl rfl ?_
  refine mm_cV1i (dz := d - 1) dX12_need_10 rfl mzX12_isSign ml_X12_168 imX12_isSign (by omega) so_200 ⟨rfl, rfl⟩ (cm_isSign ht ht96 hQ) (Nat.le_of_ble_eq_true rfl) ⟨Nat.le_refl _, Nat.le_refl _⟩ ?_
  refine mm_if_neB (tgt := 20) dX12_need_13 (by decide) (fun c13 => ?_) (fun c13 => ?_)
  · exact absurd c13 hc
  · refine mm_iconst (v := 1) dX12_need_16 rfl ?_
    refine mm_goto (tgt := 21) dX12_need_17 (by decide) ?_
    refine mm_putz dX12_need_21 rfl fk_X12_164 rfl fv_12_14 (by decide) so_200 ?_
    refine mm_mem (J := pz J p q 1 bs br ns N CS) (pz_14 (v := 1)) ?_
    refine mm_aload_n 0 dX12_need_24 rfl rfl ?_
    refine mm_geti dX12_need_25 rfl fk_X12_164 rfl so_200 ?_
    refine mm_top (v := nI (1)) rfl ?_
    refine mm_top (v := 1) rfl ?_
    refine mm_if_ne (tgt := 35) dX12_need_28 (by decide) (fun _ => ?_) (fun q => absurd q (by decide))
    refine mm_vret dX12_need_35 rfl ⟨Nat.le_refl _, Nat.le_refl _⟩ ?_
    exact hq
set_option maxRecDepth 100000 in
set_option maxHeartbeats 600000 in
theorem cm_numberF {g : mm_G} {J : mm_I} {d : Nat} {p t : Nat} (ht : J 200 4 = nI t) (ht96 : t ≤ 96) {bs br ns : Nat} {N : Nat → Int32} {CS : List Nat} {q : Nat × Nat × Nat} (hQ : tq_ok (J 203) t q) (hd : 1 ≤ d) : mm_Ci g zX12_number d [.ref 200] sh_S (pz J p q 1 bs br ns N CS) 0 (pz J p q 1 bs br ns N CS) := by
  obtain ⟨hq1, hq2, hq3, hq4, hq5, hq6⟩ := id hQ
  refine mm_Ci_of (fun Q hq => ?_)
  refine mm_begin (ls := [(0, .ref 200)]) (Nat.le_of_ble_eq_true rfl) rfl rfl ?_
  refine mm_aload_n 0 dX12_number_0 rfl rfl ?_
  refine mm_aload_n 0 dX12_number_1 rfl rfl ?_
  refine mm_geti dX12_number_2 rfl fk_X12_164 rfl so_200 ?_
  refine mm_top (v := nI (1)) rfl ?_
  refine mm_top (v := 1) rfl ?_
  refine mm_if_ne (tgt := 16) dX12_number_5 (by decide) (fun _ => ?_) (fun q => absurd q (by decide))
  refine mm_iconst (v := 1) dX12_number_16 rfl ?_
  refine mm_goto (tgt := 21) dX12_number_17 (by decide) ?_
  refine mm_putz dX12_number_21 rfl fk_X12_164 rfl fv_12_14 (by decide) so_200 ?_
  refine mm_mem (J := pz J p q 1 bs br ns N CS) (pz_14 (v := 1)) ?_
  refine mm_iconst (v := 0) dX12_number_24 rfl ?_
  refine mm_istore_n (ls' := [(1, .int (0)), (0, .ref 200)]) dX12_number_25 rfl (by decide) rfl ?_
  refine mm_aload_n 1 dX12_number_26 rfl rfl ?_
  refine mm_geti dX12_number_27 rfl fk_X12_148 rfl so_200 ?_
  refine mm_top (v := nI (q.1)) rfl ?_
  refine mm_istore_n (ls' := [(2, .int (nI (q.1))), (1, .int (0)), (0, .ref 200)]) dX12_number_30 rfl (by decide) rfl ?_
  refine mm_iload_n 0 dX12_number_31 rfl rfl ?_
  refine mm_aload_n 2 dX12_number_32 rfl rfl ?_
  refine mm_at (pc' := 33) rfl ?_
  refine mm_geti dX12_number_33 rfl fk_X12_145 rfl so_200 ?_
  refine mm_top (v := nI (q.2.1)) rfl ?_
  refine mm_icmp_geN (q.1) (q.2.1) (tgt := 67) dX12_number_36 (by decide) (by omega) (by omega) (fun c36 => ?_) (fun c36 => ?_)
  · refine mm_aload_n 2 dX12_number_67 rfl rfl ?_
    refine mm_geti dX12_number_68 rfl fk_X12_164 rfl so_200 ?_
    refine mm_top (v := nI (1)) rfl ?_
    refine mm_top (v := 1) rfl ?_
    refine mm_if_ne (tgt := 78) dX12_number_71 (by decide) (fun _ => ?_) (fun q => absurd q (by decide))
    refine mm_iload_n 1 dX12_number_78 rfl rfl ?_
    refine mm_iret dX12_number_79 rfl ⟨Nat.le_refl _, Nat.le_refl _⟩ ?_
    exact hq
  · refine mm_aload_n 2 dX12_number_39 rfl rfl ?_
    refine mm_geti dX12_number_40 rfl fk_X12_164 rfl so_200 ?_
    refine mm_top (v := nI (1)) rfl ?_
    refine mm_top (v := 1) rfl ?_
    refine mm_if_ne (tgt := 67) dX12_number_43 (by decide) (fun _ => ?_) (fun q => absurd q (by decide))
    refine mm_aload_n 2 dX12_number_67 rfl rfl ?_
    refine mm_geti dX12_number_68 rfl fk_X12_164 rfl so_200 ?_
    refine mm_top (v := nI (1)) rfl ?_
    refine mm_top (v := 1) rfl ?_
    refine mm_if_ne (tgt := 78) dX12_number_71 (by decide) (fun _ => ?_) (fun q => absurd q (by decide))
    refine mm_iload_n 1 dX12_number_78 rfl rfl ?_
    refine mm_iret dX12_number_79 rfl ⟨Nat.le_refl _, Nat.le_refl _⟩ ?_
    exact hq
set_option maxRecDepth 100000 in
set_option maxHeartbeats 600000 in
theorem cm_numberN {g : mm_G} {J : mm_I} {d : Nat} {p t : Nat} (ht : J 200 4 = nI t) (ht96 : t ≤ 96) {bs br ns : Nat} {N : Nat → Int32} {CS : List Nat} {q : Nat × Nat × Nat} (hQ : tq_ok (J 203) t q) (hs : ¬ q.2.2 = 2) (hd : 1 ≤ d) : mm_Ci g zX12_number d [.ref 200] sh_S (pz J p q 0 bs br ns N CS) 0 (pz J p q 1 bs br ns N CS) := by
  obtain ⟨hq1, hq2, hq3, hq4, hq5, hq6⟩ := id hQ
  refine mm_Ci_of (fun Q hq => ?_)
  refine mm_begin (ls := [(0, .ref 200)]) (Nat.le_of_ble_eq_true rfl) rfl rfl ?_
  refine mm_aload_n 0 dX12_number_0 rfl rfl ?_
  refine mm_aload_n 0 dX12_number_1 rfl rfl ?_
  refine mm_geti dX12_number_2 rfl fk_X12_164 rfl so_200 ?_
  refine mm_top (v := nI (0)) rfl ?_
  refine mm_top (v := 0) rfl ?_
  refine mm_if_ne (tgt := 16) dX12_number_5 (by decide) (fun q => absurd q (by decide)) (fun _ => ?_)
  refine mm_aload_n 0 dX12_number_8 rfl rfl ?_
  refine mm_geti dX12_number_9 rfl fk_X12_142 rfl so_200 ?_
  refine mm_top (v := nI (q.2.2)) rfl ?_
  refine mm_iconst (v := 2) dX12_number_12 rfl ?_
  refine mm_icmp_eqN (q.2.2) (2) (tgt := 20) dX12_number_13 (by decide) (by omega) (by omega) (fun c13 => ?_) (fun c13 => ?_)
  · omega
  · refine mm_iconst (v := 1) dX12_number_16 rfl ?_
    refine mm_goto (tgt := 21) dX12_number_17 (by decide) ?_
    refine mm_putz dX12_number_21 rfl fk_X12_164 rfl fv_12_14 (by decide) so_200 ?_
    refine mm_mem (J := pz J p q 1 bs br ns N CS) (pz_14 (v := 1)) ?_
    refine mm_iconst (v := 0) dX12_number_24 rfl ?_
    refine mm_istore_n (ls' := [(1, .int (0)), (0, .ref 200)]) dX12_number_25 rfl (by decide) rfl ?_
    refine mm_aload_n 1 dX12_number_26 rfl rfl ?_
    refine mm_geti dX12_number_27 rfl fk_X12_148 rfl so_200 ?_
    refine mm_top (v := nI (q.1)) rfl ?_
    refine mm_istore_n (ls' := [(2, .int (nI (q.1))), (1, .int (0)), (0, .ref 200)]) dX12_number_30 rfl (by decide) rfl ?_
    refine mm_iload_n 0 dX12_number_31 rfl rfl ?_
    refine mm_aload_n 2 dX12_number_32 rfl rfl ?_
    refine mm_at (pc' := 33) rfl ?_
    refine mm_geti dX12_number_33 rfl fk_X12_145 rfl so_200 ?_
    refine mm_top (v := nI (q.2.1)) rfl ?_
    refine mm_icmp_geN (q.1) (q.2.1) (tgt := 67) dX12_number_36 (by decide) (by omega) (by omega) (fun c36 => ?_) (fun c36 => ?_)
    · refine mm_aload_n 2 dX12_number_67 rfl rfl ?_
      refine mm_geti dX12_number_68 rfl fk_X12_164 rfl so_200 ?_
      refine mm_top (v := nI (1)) rfl ?_
      refine mm_top (v := 1) rfl ?_
      refine mm_if_ne (tgt := 78) dX12_number_71 (by decide) (fun _ => ?_) (fun q => absurd q (by decide))
      refine mm_iload_n 1 dX12_number_78 rfl rfl ?_
      refine mm_iret dX12_number_79 rfl ⟨Nat.le_refl _, Nat.le_refl _⟩ ?_
      exact hq
    · refine mm_aload_n 2 dX12_number_39 rfl rfl ?_
      refine mm_geti dX12_number_40 rfl fk_X12_164 rfl so_200 ?_
      refine mm_top (v := nI (1)) rfl ?_
      refine mm_top (v := 1) rfl ?_
      refine mm_if_ne (tgt := 67) dX12_number_43 (by decide) (fun _ => ?_) (fun q => absurd q (by decide))
      refine mm_aload_n 2 dX12_number_67 rfl rfl ?_
      refine mm_geti dX12_number_68 rfl fk_X12_164 rfl so_200 ?_
      refine mm_top (v := nI (1)) rfl ?_
      refine mm_top (v := 1) rfl ?_
      refine mm_if_ne (tgt := 78) dX12_number_71 (by decide) (fun _ => ?_) (fun q => absurd q (by decide))
      refine mm_iload_n 1 dX12_number_78 rfl rfl ?_
      refine mm_iret dX12_number_79 rfl ⟨Nat.le_refl _, Nat.le_refl _⟩ ?_
      exact hq
theorem nvl_lt {T : Nat → Int32} {t f n : Nat} (h : ∀ i, f ≤ i → i < f + n → tk_D T t i) : nvl T f n < 10 ^ n := by
  induction n with
  | zero => exact Nat.one_pos
  | succ n ih =>
    have h1 := ih (fun i h1 h2 => h i h1 (by omega))
    obtain ⟨-, h3⟩ := h (f + n) (by omega) (by omega)
    obtain ⟨b, hb, eb⟩ := sp_wi_n (v := T (f + n)) 48 57 (by decide) (by decide) h3
    unfold nvl
    rw [eb, vv_nI (by omega), Nat.pow_succ]
    omega
set_option maxRecDepth 100000 in
set_option maxHeartbeats 600000 in
theorem lm_num {g : mm_G} {J : mm_I} {d : Nat} {Q : Option Value → mm_Sh → mm_I → Prop} {p t : Nat} (ht : J 200 4 = nI t) (ht96 : t ≤ 96) {bs br ns : Nat} {N : Nat → Int32} {CS : List Nat} {q : Nat × Nat × Nat} (hQ : tq_ok (J 203) t q) (hs : q.2.2 = 2) (hd : 2 ≤ d) (hq : Q (some (.int (nI (nvl (J 203) q.1 (q.2.1 - q.1))))) sh_S (pz J p (nx (J 203) t q) 0 bs br ns N CS)) : ∀ (m j : Nat), q.1 + j ≤ q.2.1 → q.2.1 - (q.1 + j) < m → mm_Ex g zX12_number d (0, 0) (0, 0) sh_S (pz J p q 0 bs br ns N CS) 31 [(2, .int (nI (q.1 + j))), (1, .int (nI (nvl (J 203) q.1 j))), (0, .ref 200)] [] Q := by
  obtain ⟨hq1, hq2, hq3, hq4, hq5, hq6⟩ := id hQ
  obtain ⟨hl4, hdg⟩ := hq6 hs
  intro m
  induction m with
  | zero => intro j hj hmz; exact absurd hmz (Nat.not_lt_zero _)
  | succ m ih =>
    intro j hj hmz
    refine mm_iload_n 0 dX12_number_31 rfl rfl ?_
    refine mm_aload_n 2 dX12_number_32 rfl rfl ?_
    refine mm_geti dX12_number_33 rfl fk_X12_145 rfl so_200 ?_
    refine mm_top (v := nI (q.2.1)) rfl ?_
    refine mm_icmp_geN (q.1 + j) (q.2.1) (tgt := 67) dX12_number_36 (by decide) (by omega) (by omega) (fun c36 => ?_) (fun c36 => ?_)
    · refine mm_aload_n 2 dX12_number_67 rfl rfl ?_
      refine mm_geti dX12_number_68 rfl fk_X12_164 rfl so_200 ?_
      refine mm_top (v := nI (0)) rfl ?_
      refine mm_top (v := 0) rfl ?_
      refine mm_if_ne (tgt := 78) dX12_number_71 (by decide) (fun q => absurd q (by decide)) (fun _ => ?_)
      refine mm_aload_n 2 dX12_number_74 rfl rfl ?_
      refine mm_cV0v (dz := d - 1) dX12_number_75 rfl mzX12_next ml_X12_171 imX12_next (by omega) so_200 ⟨rfl, rfl⟩ (cm_nextQ ht ht96 hQ (by omega)) (Nat.le_of_ble_eq_true rfl) ⟨Nat.le_refl _, Nat.le_refl _⟩ ?_
      refine mm_iload_n 1 dX12_number_78 rfl rfl ?_
      refine mm_iret dX12_number_79 rfl ⟨Nat.le_refl _, Nat.le_refl _⟩ ?_
      rw [show q.2.1 - q.1 = j by omega] at hq
      exact hq
    · refine mm_aload_n 2 dX12_number_39 rfl rfl ?_
      refine mm_geti dX12_number_40 rfl fk_X12_164 rfl so_200 ?_
      refine mm_top (v := nI (0)) rfl ?_
      refine mm_top (v := 0) rfl ?_
      refine mm_if_ne (tgt := 67) dX12_number_43 (by decide) (fun q => absurd q (by decide)) (fun _ => ?_)
      refine mm_bipush (v := 10) dX12_number_46 rfl ?_
      refine mm_iload_n 1 dX12_number_48 rfl rfl ?_
      refine mm_imulN (10) (nvl (J 203) q.1 j) dX12_number_49 ?_
      refine mm_aload_n 2 dX12_number_50 rfl rfl ?_
      refine mm_getr (b := 203) dX12_number_51 rfl fk_X12_16 rfl so_200 sr_200_3 ?_
      refine mm_iload_n 0 dX12_number_54 rfl rfl ?_
      refine mm_ialdN (q.1 + j) dX12_number_55 sa_203 (by omega) (by omega) ?_
      refine mm_top (v := J 203 (q.1 + j)) rfl ?_
      obtain ⟨b, hb, eb⟩ := sp_wi_n (v := J 203 (q.1 + j)) 48 57 (by decide) (by decide) (hdg (q.1 + j) (by omega) (by omega)).2
      refine mm_top (v := nI b) eb ?_
      refine mm_iaddN (10 * (nvl (J 203) q.1 j)) (b) dX12_number_56 ?_
      refine mm_at (pc' := 57) rfl ?_
      refine mm_bipush (v := 48) dX12_number_57 rfl ?_
      refine mm_isubN ((10 * (nvl (J 203) q.1 j)) + b) (48) dX12_number_59 (by omega) ?_
      refine mm_istore_n (ls' := [(1, .int (nI (((10 * (nvl (J 203) q.1 j)) + b) - 48))), (2, .int (nI (q.1 + j))), (0, .ref 200)]) dX12_number_60 rfl (by decide) rfl ?_
      refine mm_iincN (ls' := [(2, .int (nI (q.1 + j + 1))), (1, .int (nI (((10 * (nvl (J 203) q.1 j)) + b) - 48))), (0, .ref 200)]) 1 (q.1 + j) 1 dX12_number_61 rfl rfl (by decide) rfl ?_
      refine mm_goto (tgt := 31) dX12_number_64 (by decide) ?_
      have hh := ih (j + 1) (by omega) (by omega)
      rw [nvl, eb, vv_nI (by omega), show 10 * nvl (J 203) q.1 j + (b - 48) = (10 * nvl (J 203) q.1 j + b) - 48 by omega] at hh
      exact mm_sub [0, 1, 2] rfl hh
set_option maxRecDepth 100000 in
set_option maxHeartbeats 600000 in
theorem cm_numberD {g : mm_G} {J : mm_I} {d : Nat} {p t : Nat} (ht : J 200 4 = nI t) (ht96 : t ≤ 96) {bs br ns : Nat} {N : Nat → Int32} {CS : List Nat} {q : Nat × Nat × Nat} (hQ : tq_ok (J 203) t q) (hs : q.2.2 = 2) (hd : 2 ≤ d) : mm_Ci g zX12_number d [.ref 200] sh_S (pz J p q 0 bs br ns N CS) (nI (nvl (J 203) q.1 (q.2.1 - q.1))) (pz J p (nx (J 203) t q) 0 bs br ns N CS) := by
  obtain ⟨hq1, hq2, hq3, hq4, hq5, hq6⟩ := id hQ
  refine mm_Ci_of (fun Q hq => ?_)
  refine mm_begin (ls := [(0, .ref 200)]) (Nat.le_of_ble_eq_true rfl) rfl rfl ?_
  refine mm_aload_n 0 dX12_number_0 rfl rfl ?_
  refine mm_aload_n 0 dX12_number_1 rfl rfl ?_
  refine mm_geti dX12_number_2 rfl fk_X12_164 rfl so_200 ?_
  refine mm_top (v := nI (0)) rfl ?_
  refine mm_top (v := 0) rfl ?_
  refine mm_if_ne (tgt := 16) dX12_number_5 (by decide) (fun q => absurd q (by decide)) (fun _ => ?_)
  refine mm_aload_n 0 dX12_number_8 rfl rfl ?_
  refine mm_geti dX12_number_9 rfl fk_X12_142 rfl so_200 ?_
  refine mm_top (v := nI (q.2.2)) rfl ?_
  refine mm_iconst (v := 2) dX12_number_12 rfl ?_
  refine mm_icmp_eqN (q.2.2) (2) (tgt := 20) dX12_number_13 (by decide) (by omega) (by omega) (fun c13 => ?_) (fun c13 => ?_)
  · refine mm_iconst (v := 0) dX12_number_20 rfl ?_
    refine mm_putz dX12_number_21 rfl fk_X12_164 rfl fv_12_14 (by decide) so_200 ?_
    refine mm_mem (J := pz J p q 0 bs br ns N CS) (pz_14 (v := 0)) ?_
    refine mm_iconst (v := 0) dX12_number_24 rfl ?_
    refine mm_istore_n (ls' := [(1, .int (0)), (0, .ref 200)]) dX12_number_25 rfl (by decide) rfl ?_
    refine mm_aload_n 1 dX12_number_26 rfl rfl ?_
    refine mm_geti dX12_number_27 rfl fk_X12_148 rfl so_200 ?_
    refine mm_top (v := nI (q.1)) rfl ?_
    refine mm_istore_n (ls' := [(2, .int (nI (q.1))), (1, .int (0)), (0, .ref 200)]) dX12_number_30 rfl (by decide) rfl ?_
    exact mm_sub [0, 1, 2] rfl (lm_num ht ht96 hQ hs hd hq (q.2.1 + 1) 0 hq1 (by omega))
  · omega
theorem pz_code {J : mm_I} {p c : Nat} {q : Nat × Nat × Nat} {fl bs br ns : Nat} {N : Nat → Int32} {CS : List Nat} : mm_up (mm_up (pz J p q fl bs br ns N CS) 201 (1226 + 418 * p + 258 + CS.length) (nI c)) 201 (1226 + 418 * p + 257) (nI (CS.length + 1)) = pz J p q fl bs br ns N (CS ++ [c]) := by
  rw [pz_r (nc_up (Or.inr (Nat.le_refl _)))]
  exact pz_r (by rw [← nc_up (Or.inr (Nat.le_refl _))]; exact nc_add)
set_option maxRecDepth 100000 in
set_option maxHeartbeats 600000 in
theorem cm_code {g : mm_G} {J : mm_I} {d : Nat} {p : Nat} {fl bs br ns : Nat} {N : Nat → Int32} {CS : List Nat} (hrd : J 200 18 = nI p) (hp : p < 6) {q : Nat × Nat × Nat} {c : Nat} (hcs : CS.length < 160) : mm_Cv g zX12_code d [.ref 200, .int (nI c)] sh_S (pz J p q fl bs br ns N CS) (pz J p q fl bs br ns N (CS ++ [c])) := by
  refine mm_Cv_of (fun Q hq => ?_)
  refine mm_begin (ls := [(0, .ref 200), (1, .int (nI (c)))]) (Nat.le_of_ble_eq_true rfl) rfl rfl ?_
  refine mm_sipush (v := 1226) dX12_code_0 rfl ?_
  refine mm_sipush (v := 418) dX12_code_3 rfl ?_
  refine mm_aload_n 0 dX12_code_6 rfl rfl ?_
  refine mm_geti dX12_code_7 rfl fk_X12_174 rfl so_200 ?_
  refine mm_top (v := nI (p)) hrd ?_
  refine mm_imulN (418) (p) dX12_code_10 ?_
  refine mm_iaddN (1226) (418 * p) dX12_code_11 ?_
  refine mm_istore_n (ls' := [(2, .int (nI (1226 + (418 * p)))), (0, .ref 200), (1, .int (nI (c)))]) dX12_code_12 rfl (by decide) rfl ?_
  refine mm_aload_n 1 dX12_code_13 rfl rfl ?_
  refine mm_at (pc' := 14) rfl ?_
  refine mm_getr (b := 201) dX12_code_14 rfl fk_X12_9 rfl so_200 sr_200_0 ?_
  refine mm_iload_n 0 dX12_code_17 rfl rfl ?_
  refine mm_sipush (v := 258) dX12_code_18 rfl ?_
  refine mm_iaddN (1226 + (418 * p)) (258) dX12_code_21 ?_
  refine mm_aload_n 1 dX12_code_22 rfl rfl ?_
  refine mm_getr (b := 201) dX12_code_23 rfl fk_X12_9 rfl so_200 sr_200_0 ?_
  refine mm_iload_n 0 dX12_code_26 rfl rfl ?_
  refine mm_sipush (v := 257) dX12_code_27 rfl ?_
  refine mm_at (pc' := 30) rfl ?_
  refine mm_iaddN (1226 + (418 * p)) (257) dX12_code_30 ?_
  refine mm_ialdN ((1226 + (418 * p)) + 257) dX12_code_31 sa_201 (by omega) (by omega) ?_
  refine mm_top (v := nI (CS.length)) nc_c ?_
  refine mm_iaddN ((1226 + (418 * p)) + 258) (CS.length) dX12_code_32 ?_
  refine mm_iload_n 2 dX12_code_33 rfl rfl ?_
  refine mm_iastN (((1226 + (418 * p)) + 258) + (CS.length)) dX12_code_34 sa_201 (by omega) (by omega) ?_
  refine mm_aload_n 1 dX12_code_35 rfl rfl ?_
  refine mm_getr (b := 201) dX12_code_36 rfl fk_X12_9 rfl so_200 sr_200_0 ?_
  refine mm_iload_n 0 dX12_code_39 rfl rfl ?_
  refine mm_at (pc' := 40) rfl ?_
  refine mm_sipush (v := 257) dX12_code_40 rfl ?_
  refine mm_iaddN (1226 + (418 * p)) (257) dX12_code_43 ?_
  refine mm_dup2 dX12_code_44 rfl rfl ?_
  refine mm_ialdN ((1226 + (418 * p)) + 257) dX12_code_45 sa_201 (by omega) (by omega) ?_
  refine mm_top (v := (pz J p q fl bs br ns N CS) 201 ((1226 + (418 * p)) + 257)) (by rw [mm_up_ni (by omega)]) ?_
  refine mm_top (v := nI (CS.length)) nc_c ?_
  refine mm_iconst (v := 1) dX12_code_46 rfl ?_
  refine mm_iaddN (CS.length) (1) dX12_code_47 ?_
  refine mm_iastN ((1226 + (418 * p)) + 257) dX12_code_48 sa_201 (by omega) (by omega) ?_
  refine mm_vret dX12_code_49 rfl ⟨Nat.le_refl _, Nat.le_refl _⟩ ?_
  rw [← pz_code] at hq
  exact hq
/-- the sign of a level that stands here -/
def sh_ (T : Nat → Int32) (q : Nat × Nat × Nat) : Nat → Int32
  | 0 => if sg T q 124 then 0 else (-1)
  | 1 => if sg T q 38 then 1 else (-1)
  | 2 => if sg T q 62 then 4 else (if sg T q 61 then 3 else (if sg T q 60 then 2 else (-1)))
  | 3 => if sg T q 45 then 6 else (if sg T q 43 then 5 else (-1))
  | _ => if sg T q 42 then 7 else (-1)
set_option maxRecDepth 100000 in
set_option maxHeartbeats 600000 in
theorem cm_sign0 {g : mm_G} {J : mm_I} {d : Nat} {p t : Nat} (ht : J 200 4 = nI t) (ht96 : t ≤ 96) {fl bs br ns : Nat} {N : Nat → Int32} {CS : List Nat} {q : Nat × Nat × Nat} (hQ : tq_ok (J 203) t q) (hfl : fl ≤ 1) (hd : 4 ≤ d) : mm_Ci g zX12_signHere d [.ref 200, .int 0, .int 0] sh_S (pz J p q fl bs br ns N CS) (if fl = 0 then sh_ (J 203) q 0 else -1) (pz J p q fl bs br ns N CS) := by
  refine mm_Ci_of (fun Q hq => ?_)
  refine mm_begin (ls := [(0, .ref 200), (1, .int (0)), (2, .int (0))]) (Nat.le_of_ble_eq_true rfl) rfl rfl ?_
  refine mm_iconst (v := -1) dX12_signHere_0 rfl ?_
  refine mm_istore_n (ls' := [(3, .int (-1)), (0, .ref 200), (1, .int (0)), (2, .int (0))]) dX12_signHere_1 rfl (by decide) rfl ?_
  refine mm_iload_n 2 dX12_signHere_2 rfl rfl ?_
  refine mm_istore (ls' := [(4, .int (0)), (3, .int (-1)), (0, .ref 200), (1, .int (0)), (2, .int (0))]) dX12_signHere_3 (by decide) rfl ?_
  refine mm_iload 0 dX12_signHere_5 rfl ?_
  refine mm_iload_n 4 dX12_signHere_7 rfl rfl ?_
  refine mm_icmp_gt (tgt := 38) dX12_signHere_8 (by decide) (fun q => absurd q (by decide)) (fun _ => ?_)
  refine mm_aload_n 2 dX12_signHere_11 rfl rfl ?_
  refine mm_ldcS (t := 13) (tx := "|&<=>+-*!") dX12_signHere_12 rfl (by decide) ?_
  refine mm_iload 0 dX12_signHere_14 rfl ?_
  refine mm_cT1i (t := 13) (dz := d - 1) dX12_signHere_16 rfl mzJ0_charAt_5068e ml_X12_160 imJ0_charAt_5068e (by omega) (by decide) rfl (show mm_Ci g zJ0_charAt_5068e (d - 1) [.ref (mm_KB + (5 + 13)), .int 0] sh_S (pz J p q fl bs br ns N CS) 124 (pz J p q fl bs br ns N CS) from ct_charAt (t := 13) (k := 0) (by decide) (by decide) (by omega)) (Nat.le_of_ble_eq_true rfl) ⟨Nat.le_refl _, Nat.le_refl _⟩ ?_
  refine mm_cV1i (dz := d - 1) dX12_signHere_19 rfl mzX12_isSign ml_X12_168 imX12_isSign (by omega) so_200 ⟨rfl, rfl⟩ (cm_isSign ht ht96 hQ) (Nat.le_of_ble_eq_true rfl) ⟨Nat.le_refl _, Nat.le_refl _⟩ ?_
  have K22 : mm_Ex g zX12_signHere d (0, 0) (0, 0) sh_S (pz J p q fl bs br ns N CS) 31 [(4, .int (0)), (3, .int (-1)), (0, .ref 200), (1, .int (0)), (2, .int (0))] [.int (if sg (J 203) q 124 then 0 else -1)] Q := by
    refine mm_istore_n (ls' := [(3, .int (if sg (J 203) q 124 then 0 else -1)), (4, .int (0)), (0, .ref 200), (1, .int (0)), (2, .int (0))]) dX12_signHere_31 rfl (by decide) rfl ?_
    refine mm_iinc (v := 1) (ls' := [(4, .int (1)), (3, .int (if sg (J 203) q 124 then 0 else -1)), (0, .ref 200), (1, .int (0)), (2, .int (0))]) 1 dX12_signHere_32 rfl (by decide) (by decide) rfl ?_
    refine mm_goto (tgt := 5) dX12_signHere_35 (by decide) ?_
    refine mm_iload 0 dX12_signHere_5 rfl ?_
    refine mm_iload_n 4 dX12_signHere_7 rfl rfl ?_
    refine mm_icmp_gt (tgt := 38) dX12_signHere_8 (by decide) (fun _ => ?_) (fun q => absurd (by decide) q)
    refine mm_aload_n 2 dX12_signHere_38 rfl rfl ?_
    refine mm_geti dX12_signHere_39 rfl fk_X12_164 rfl so_200 ?_
    refine mm_top (v := nI (fl)) rfl ?_
    refine mm_if_eqN (fl) (tgt := 49) dX12_signHere_42 (by decide) (by omega) (fun c42 => ?_) (fun c42 => ?_)
    · refine mm_iload_n 1 dX12_signHere_49 rfl rfl ?_
      refine mm_iret dX12_signHere_50 rfl ⟨Nat.le_refl _, Nat.le_refl _⟩ ?_
      first | (rw [if_pos (show fl = 0 by exact c42)] at hq; exact hq) | (rw [if_neg (show ¬ fl = 0 by exact c42)] at hq; exact hq)
    · refine mm_iconst (v := -1) dX12_signHere_45 rfl ?_
      refine mm_goto (tgt := 50) dX12_signHere_46 (by decide) ?_
      refine mm_iret dX12_signHere_50 rfl ⟨Nat.le_refl _, Nat.le_refl _⟩ ?_
      first | (rw [if_pos (show fl = 0 by exact c42)] at hq; exact hq) | (rw [if_neg (show ¬ fl = 0 by exact c42)] at hq; exact hq)
  refine mm_if_eqB (tgt := 30) dX12_signHere_22 (by decide) (fun c22 => ?_) (fun c22 => ?_)
  · refine mm_iload_n 1 dX12_signHere_30 rfl rfl ?_
    exact mm_top (by rw [if_neg c22]) K22
  · refine mm_iload 0 dX12_signHere_25 rfl ?_
    refine mm_goto (tgt := 31) dX12_signHere_27 (by decide) ?_
    exact mm_top (by rw [if_pos c22]) K22
set_option maxRecDepth 100000 in
set_option maxHeartbeats 600000 in
theorem cm_sign1 {g : mm_G} {J : mm_I} {d : Nat} {p t : Nat} (ht : J 200 4 = nI t) (ht96 : t ≤ 96) {fl bs br ns : Nat} {N : Nat → Int32} {CS : List Nat} {q : Nat × Nat × Nat} (hQ : tq_ok (J 203) t q) (hfl : fl ≤ 1) (hd : 4 ≤ d) : mm_Ci g zX12_signHere d [.ref 200, .int 1, .int 1] sh_S (pz J p q fl bs br ns N CS) (if fl = 0 then sh_ (J 203) q 1 else -1) (pz J p q fl bs br ns N CS) := by
  refine mm_Ci_of (fun Q hq => ?_)
  refine mm_begin (ls := [(0, .ref 200), (1, .int (1)), (2, .int (1))]) (Nat.le_of_ble_eq_true rfl) rfl rfl ?_
  refine mm_iconst (v := -1) dX12_signHere_0 rfl ?_
  refine mm_istore_n (ls' := [(3, .int (-1)), (0, .ref 200), (1, .int (1)), (2, .int (1))]) dX12_signHere_1 rfl (by decide) rfl ?_
  refine mm_iload_n 2 dX12_signHere_2 rfl rfl ?_
  refine mm_istore (ls' := [(4, .int (1)), (3, .int (-1)), (0, .ref 200), (1, .int (1)), (2, .int (1))]) dX12_signHere_3 (by decide) rfl ?_
  refine mm_iload 0 dX12_signHere_5 rfl ?_
  refine mm_iload_n 4 dX12_signHere_7 rfl rfl ?_
  refine mm_icmp_gt (tgt := 38) dX12_signHere_8 (by decide) (fun q => absurd q (by decide)) (fun _ => ?_)
  refine mm_aload_n 2 dX12_signHere_11 rfl rfl ?_
  refine mm_ldcS (t := 13) (tx := "|&<=>+-*!") dX12_signHere_12 rfl (by decide) ?_
  refine mm_iload 0 dX12_signHere_14 rfl ?_
  refine mm_cT1i (t := 13) (dz := d - 1) dX12_signHere_16 rfl mzJ0_charAt_5068e ml_X12_160 imJ0_charAt_5068e (by omega) (by decide) rfl (show mm_Ci g zJ0_charAt_5068e (d - 1) [.ref (mm_KB + (5 + 13)), .int 1] sh_S (pz J p q fl bs br ns N CS) 38 (pz J p q fl bs br ns N CS) from ct_charAt (t := 13) (k := 1) (by decide) (by decide) (by omega)) (Nat.le_of_ble_eq_true rfl) ⟨Nat.le_refl _, Nat.le_refl _⟩ ?_
  refine mm_cV1i (dz := d - 1) dX12_signHere_19 rfl mzX12_isSign ml_X12_168 imX12_isSign (by omega) so_200 ⟨rfl, rfl⟩ (cm_isSign ht ht96 hQ) (Nat.le_of_ble_eq_true rfl) ⟨Nat.le_refl _, Nat.le_refl _⟩ ?_
  have K22 : mm_Ex g zX12_signHere d (0, 0) (0, 0) sh_S (pz J p q fl bs br ns N CS) 31 [(4, .int (1)), (3, .int (-1)), (0, .ref 200), (1, .int (1)), (2, .int (1))] [.int (if sg (J 203) q 38 then 1 else -1)] Q := by
    refine mm_istore_n (ls' := [(3, .int (if sg (J 203) q 38 then 1 else -1)), (4, .int (1)), (0, .ref 200), (1, .int (1)), (2, .int (1))]) dX12_signHere_31 rfl (by decide) rfl ?_
    refine mm_iinc (v := 2) (ls' := [(4, .int (2)), (3, .int (if sg (J 203) q 38 then 1 else -1)), (0, .ref 200), (1, .int (1)), (2, .int (1))]) 1 dX12_signHere_32 rfl (by decide) (by decide) rfl ?_
    refine mm_goto (tgt := 5) dX12_signHere_35 (by decide) ?_
    refine mm_iload 0 dX12_signHere_5 rfl ?_
    refine mm_iload_n 4 dX12_signHere_7 rfl rfl ?_
    refine mm_icmp_gt (tgt := 38) dX12_signHere_8 (by decide) (fun _ => ?_) (fun q => absurd (by decide) q)
    refine mm_aload_n 2 dX12_signHere_38 rfl rfl ?_
    refine mm_geti dX12_signHere_39 rfl fk_X12_164 rfl so_200 ?_
    refine mm_top (v := nI (fl)) rfl ?_
    refine mm_if_eqN (fl) (tgt := 49) dX12_signHere_42 (by decide) (by omega) (fun c42 => ?_) (fun c42 => ?_)
    · refine mm_iload_n 1 dX12_signHere_49 rfl rfl ?_
      refine mm_iret dX12_signHere_50 rfl ⟨Nat.le_refl _, Nat.le_refl _⟩ ?_
      first | (rw [if_pos (show fl = 0 by exact c42)] at hq; exact hq) | (rw [if_neg (show ¬ fl = 0 by exact c42)] at hq; exact hq)
    · refine mm_iconst (v := -1) dX12_signHere_45 rfl ?_
      refine mm_goto (tgt := 50) dX12_signHere_46 (by decide) ?_
      refine mm_iret dX12_signHere_50 rfl ⟨Nat.le_refl _, Nat.le_refl _⟩ ?_
      first | (rw [if_pos (show fl = 0 by exact c42)] at hq; exact hq) | (rw [if_neg (show ¬ fl = 0 by exact c42)] at hq; exact hq)
  refine mm_if_eqB (tgt := 30) dX12_signHere_22 (by decide) (fun c22 => ?_) (fun c22 => ?_)
  · refine mm_iload_n 1 dX12_signHere_30 rfl rfl ?_
    exact mm_top (by rw [if_neg c22]) K22
  · refine mm_iload 0 dX12_signHere_25 rfl ?_
    refine mm_goto (tgt := 31) dX12_signHere_27 (by decide) ?_
    exact mm_top (by rw [if_pos c22]) K22
set_option maxRecDepth 100000 in
set_option maxHeartbeats 600000 in
theorem cm_sign2 {g : mm_G} {J : mm_I} {d : Nat} {p t : Nat} (ht : J 200 4 = nI t) (ht96 : t ≤ 96) {fl bs br ns : Nat} {N : Nat → Int32} {CS : List Nat} {q : Nat × Nat × Nat} (hQ : tq_ok (J 203) t q) (hfl : fl ≤ 1) (hd : 4 ≤ d) : mm_Ci g zX12_signHere d [.ref 200, .int 2, .int 4] sh_S (pz J p q fl bs br ns N CS) (if fl = 0 then sh_ (J 203) q 2 else -1) (pz J p q fl bs br ns N CS) := by
  refine mm_Ci_of (fun Q hq => ?_)
  refine mm_begin (ls := [(0, .ref 200), (1, .int (2)), (2, .int (4))]) (Nat.le_of_ble_eq_true rfl) rfl rfl ?_
  refine mm_iconst (v := -1) dX12_signHere_0 rfl ?_
  refine mm_istore_n (ls' := [(3, .int (-1)), (0, .ref 200), (1, .int (2)), (2, .int (4))]) dX12_signHere_1 rfl (by decide) rfl ?_
  refine mm_iload_n 2 dX12_signHere_2 rfl rfl ?_
  refine mm_istore (ls' := [(4, .int (2)), (3, .int (-1)), (0, .ref 200), (1, .int (2)), (2, .int (4))]) dX12_signHere_3 (by decide) rfl ?_
  refine mm_iload 0 dX12_signHere_5 rfl ?_
  refine mm_iload_n 4 dX12_signHere_7 rfl rfl ?_
  refine mm_icmp_gt (tgt := 38) dX12_signHere_8 (by decide) (fun q => absurd q (by decide)) (fun _ => ?_)
  refine mm_aload_n 2 dX12_signHere_11 rfl rfl ?_
  refine mm_ldcS (t := 13) (tx := "|&<=>+-*!") dX12_signHere_12 rfl (by decide) ?_
  refine mm_iload 0 dX12_signHere_14 rfl ?_
  refine mm_cT1i (t := 13) (dz := d - 1) dX12_signHere_16 rfl mzJ0_charAt_5068e ml_X12_160 imJ0_charAt_5068e (by omega) (by decide) rfl (show mm_Ci g zJ0_charAt_5068e (d - 1) [.ref (mm_KB + (5 + 13)), .int 2] sh_S (pz J p q fl bs br ns N CS) 60 (pz J p q fl bs br ns N CS) from ct_charAt (t := 13) (k := 2) (by decide) (by decide) (by omega)) (Nat.le_of_ble_eq_true rfl) ⟨Nat.le_refl _, Nat.le_refl _⟩ ?_
  refine mm_cV1i (dz := d - 1) dX12_signHere_19 rfl mzX12_isSign ml_X12_168 imX12_isSign (by omega) so_200 ⟨rfl, rfl⟩ (cm_isSign ht ht96 hQ) (Nat.le_of_ble_eq_true rfl) ⟨Nat.le_refl _, Nat.le_refl _⟩ ?_
  have K22 : mm_Ex g zX12_signHere d (0, 0) (0, 0) sh_S (pz J p q fl bs br ns N CS) 31 [(4, .int (2)), (3, .int (-1)), (0, .ref 200), (1, .int (2)), (2, .int (4))] [.int (if sg (J 203) q 60 then 2 else -1)] Q := by
    refine mm_istore_n (ls' := [(3, .int (if sg (J 203) q 60 then 2 else -1)), (4, .int (2)), (0, .ref 200), (1, .int (2)), (2, .int (4))]) dX12_signHere_31 rfl (by decide) rfl ?_
    refine mm_iinc (v := 3) (ls' := [(4, .int (3)), (3, .int (if sg (J 203) q 60 then 2 else -1)), (0, .ref 200), (1, .int (2)), (2, .int (4))]) 1 dX12_signHere_32 rfl (by decide) (by decide) rfl ?_
    refine mm_goto (tgt := 5) dX12_signHere_35 (by decide) ?_
    refine mm_iload 0 dX12_signHere_5 rfl ?_
    refine mm_iload_n 4 dX12_signHere_7 rfl rfl ?_
    refine mm_icmp_gt (tgt := 38) dX12_signHere_8 (by decide) (fun q => absurd q (by decide)) (fun _ => ?_)
    refine mm_aload_n 2 dX12_signHere_11 rfl rfl ?_
    refine mm_ldcS (t := 13) (tx := "|&<=>+-*!") dX12_signHere_12 rfl (by decide) ?_
    refine mm_iload 0 dX12_signHere_14 rfl ?_
    refine mm_cT1i (t := 13) (dz := d - 1) dX12_signHere_16 rfl mzJ0_charAt_5068e ml_X12_160 imJ0_charAt_5068e (by omega) (by decide) rfl (show mm_Ci g zJ0_charAt_5068e (d - 1) [.ref (mm_KB + (5 + 13)), .int 3] sh_S (pz J p q fl bs br ns N CS) 61 (pz J p q fl bs br ns N CS) from ct_charAt (t := 13) (k := 3) (by decide) (by decide) (by omega)) (Nat.le_of_ble_eq_true rfl) ⟨Nat.le_refl _, Nat.le_refl _⟩ ?_
    refine mm_cV1i (dz := d - 1) dX12_signHere_19 rfl mzX12_isSign ml_X12_168 imX12_isSign (by omega) so_200 ⟨rfl, rfl⟩ (cm_isSign ht ht96 hQ) (Nat.le_of_ble_eq_true rfl) ⟨Nat.le_refl _, Nat.le_refl _⟩ ?_
    have K22 : mm_Ex g zX12_signHere d (0, 0) (0, 0) sh_S (pz J p q fl bs br ns N CS) 31 [(4, .int (3)), (3, .int (if sg (J 203) q 60 then 2 else -1)), (0, .ref 200), (1, .int (2)), (2, .int (4))] [.int (if sg (J 203) q 61 then 3 else (if sg (J 203) q 60 then 2 else -1))] Q := by
      refine mm_istore_n (ls' := [(3, .int (if sg (J 203) q 61 then 3 else (if sg (J 203) q 60 then 2 else -1))), (4, .int (3)), (0, .ref 200), (1, .int (2)), (2, .int (4))]) dX12_signHere_31 rfl (by decide) rfl ?_
      refine mm_iinc (v := 4) (ls' := [(4, .int (4)), (3, .int (if sg (J 203) q 61 then 3 else (if sg (J 203) q 60 then 2 else -1))), (0, .ref 200), (1, .int (2)), (2, .int (4))]) 1 dX12_signHere_32 rfl (by decide) (by decide) rfl ?_
      refine mm_goto (tgt := 5) dX12_signHere_35 (by decide) ?_
      refine mm_iload 0 dX12_signHere_5 rfl ?_
      refine mm_iload_n 4 dX12_signHere_7 rfl rfl ?_
      refine mm_icmp_gt (tgt := 38) dX12_signHere_8 (by decide) (fun q => absurd q (by decide)) (fun _ => ?_)
      refine mm_aload_n 2 dX12_signHere_11 rfl rfl ?_
      refine mm_ldcS (t := 13) (tx := "|&<=>+-*!") dX12_signHere_12 rfl (by decide) ?_
      refine mm_iload 0 dX12_signHere_14 rfl ?_
      refine mm_cT1i (t := 13) (dz := d - 1) dX12_signHere_16 rfl mzJ0_charAt_5068e ml_X12_160 imJ0_charAt_5068e (by omega) (by decide) rfl (show mm_Ci g zJ0_charAt_5068e (d - 1) [.ref (mm_KB + (5 + 13)), .int 4] sh_S (pz J p q fl bs br ns N CS) 62 (pz J p q fl bs br ns N CS) from ct_charAt (t := 13) (k := 4) (by decide) (by decide) (by omega)) (Nat.le_of_ble_eq_true rfl) ⟨Nat.le_refl _, Nat.le_refl _⟩ ?_
      refine mm_cV1i (dz := d - 1) dX12_signHere_19 rfl mzX12_isSign ml_X12_168 imX12_isSign (by omega) so_200 ⟨rfl, rfl⟩ (cm_isSign ht ht96 hQ) (Nat.le_of_ble_eq_true rfl) ⟨Nat.le_refl _, Nat.le_refl _⟩ ?_
      have K22 : mm_Ex g zX12_signHere d (0, 0) (0, 0) sh_S (pz J p q fl bs br ns N CS) 31 [(4, .int (4)), (3, .int (if sg (J 203) q 61 then 3 else (if sg (J 203) q 60 then 2 else -1))), (0, .ref 200), (1, .int (2)), (2, .int (4))] [.int (if sg (J 203) q 62 then 4 else (if sg (J 203) q 61 then 3 else (if sg (J 203) q 60 then 2 else -1)))] Q := by
        refine mm_istore_n (ls' := [(3, .int (if sg (J 203) q 62 then 4 else (if sg (J 203) q 61 then 3 else (if sg (J 203) q 60 then 2 else -1)))), (4, .int (4)), (0, .ref 200), (1, .int (2)), (2, .int (4))]) dX12_signHere_31 rfl (by decide) rfl ?_
        refine mm_iinc (v := 5) (ls' := [(4, .int (5)), (3, .int (if sg (J 203) q 62 then 4 else (if sg (J 203) q 61 then 3 else (if sg (J 203) q 60 then 2 else -1)))), (0, .ref 200), (1, .int (2)), (2, .int (4))]) 1 dX12_signHere_32 rfl (by decide) (by decide) rfl ?_
        refine mm_goto (tgt := 5) dX12_signHere_35 (by decide) ?_
        refine mm_iload 0 dX12_signHere_5 rfl ?_
        refine mm_iload_n 4 dX12_signHere_7 rfl rfl ?_
        refine mm_icmp_gt (tgt := 38) dX12_signHere_8 (by decide) (fun _ => ?_) (fun q => absurd (by decide) q)
        refine mm_aload_n 2 dX12_signHere_38 rfl rfl ?_
        refine mm_geti dX12_signHere_39 rfl fk_X12_164 rfl so_200 ?_
        refine mm_top (v := nI (fl)) rfl ?_
        refine mm_if_eqN (fl) (tgt := 49) dX12_signHere_42 (by decide) (by omega) (fun c42 => ?_) (fun c42 => ?_)
        · refine mm_iload_n 1 dX12_signHere_49 rfl rfl ?_
          refine mm_iret dX12_signHere_50 rfl ⟨Nat.le_refl _, Nat.le_refl _⟩ ?_
          first | (rw [if_pos (show fl = 0 by exact c42)] at hq; exact hq) | (rw [if_neg (show ¬ fl = 0 by exact c42)] at hq; exact hq)
        · refine mm_iconst (v := -1) dX12_signHere_45 rfl ?_
          refine mm_goto (tgt := 50) dX12_signHere_46 (by decide) ?_
          refine mm_iret dX12_signHere_50 rfl ⟨Nat.le_refl _, Nat.le_refl _⟩ ?_
          first | (rw [if_pos (show fl = 0 by exact c42)] at hq; exact hq) | (rw [if_neg (show ¬ fl = 0 by exact c42)] at hq; exact hq)
      refine mm_if_eqB (tgt := 30) dX12_signHere_22 (by decide) (fun c22 => ?_) (fun c22 => ?_)
      · refine mm_iload_n 1 dX12_signHere_30 rfl rfl ?_
        exact mm_top (by rw [if_neg c22]) K22
      · refine mm_iload 0 dX12_signHere_25 rfl ?_
        refine mm_goto (tgt := 31) dX12_signHere_27 (by decide) ?_
        exact mm_top (by rw [if_pos c22]) K22
    refine mm_if_eqB (tgt := 30) dX12_signHere_22 (by decide) (fun c22 => ?_) (fun c22 => ?_)
    · refine mm_iload_n 1 dX12_signHere_30 rfl rfl ?_
      exact mm_top (by rw [if_neg c22]) K22
    · refine mm_iload 0 dX12_signHere_25 rfl ?_
      refine mm_goto (tgt := 31) dX12_signHere_27 (by decide) ?_
      exact mm_top (by rw [if_pos c22]) K22
  refine mm_if_eqB (tgt := 30) dX12_signHere_22 (by decide) (fun c22 => ?_) (fun c22 => ?_)
  · refine mm_iload_n 1 dX12_signHere_30 rfl rfl ?_
    exact mm_top (by rw [if_neg c22]) K22
  · refine mm_iload 0 dX12_signHere_25 rfl ?_
    refine mm_goto (tgt := 31) dX12_signHere_27 (by decide) ?_
    exact mm_top (by rw [if_pos c22]) K22
set_option maxRecDepth 100000 in
set_option maxHeartbeats 600000 in
theorem cm_sign3 {g : mm_G} {J : mm_I} {d : Nat} {p t : Nat} (ht : J 200 4 = nI t) (ht96 : t ≤ 96) {fl bs br ns : Nat} {N : Nat → Int32} {CS : List Nat} {q : Nat × Nat × Nat} (hQ : tq_ok (J 203) t q) (hfl : fl ≤ 1) (hd : 4 ≤ d) : mm_Ci g zX12_signHere d [.ref 200, .int 5, .int 6] sh_S (pz J p q fl bs br ns N CS) (if fl = 0 then sh_ (J 203) q 3 else -1) (pz J p q fl bs br ns N CS) := by
  refine mm_Ci_of (fun Q hq => ?_)
  refine mm_begin (ls := [(0, .ref 200), (1, .int (5)), (2, .int (6))]) (Nat.le_of_ble_eq_true rfl) rfl rfl ?_
  refine mm_iconst (v := -1) dX12_signHere_0 rfl ?_
  refine mm_istore_n (ls' := [(3, .int (-1)), (0, .ref 200), (1, .int (5)), (2, .int (6))]) dX12_signHere_1 rfl (by decide) rfl ?_
  refine mm_iload_n 2 dX12_signHere_2 rfl rfl ?_
  refine mm_istore (ls' := [(4, .int (5)), (3, .int (-1)), (0, .ref 200), (1, .int (5)), (2, .int (6))]) dX12_signHere_3 (by decide) rfl ?_
  refine mm_iload 0 dX12_signHere_5 rfl ?_
  refine mm_iload_n 4 dX12_signHere_7 rfl rfl ?_
  refine mm_icmp_gt (tgt := 38) dX12_signHere_8 (by decide) (fun q => absurd q (by decide)) (fun _ => ?_)
  refine mm_aload_n 2 dX12_signHere_11 rfl rfl ?_
  refine mm_ldcS (t := 13) (tx := "|&<=>+-*!") dX12_signHere_12 rfl (by decide) ?_
  refine mm_iload 0 dX12_signHere_14 rfl ?_
  refine mm_cT1i (t := 13) (dz := d - 1) dX12_signHere_16 rfl mzJ0_charAt_5068e ml_X12_160 imJ0_charAt_5068e (by omega) (by decide) rfl (show mm_Ci g zJ0_charAt_5068e (d - 1) [.ref (mm_KB + (5 + 13)), .int 5] sh_S (pz J p q fl bs br ns N CS) 43 (pz J p q fl bs br ns N CS) from ct_charAt (t := 13) (k := 5) (by decide) (by decide) (by omega)) (Nat.le_of_ble_eq_true rfl) ⟨Nat.le_refl _, Nat.le_refl _⟩ ?_
  refine mm_cV1i (dz := d - 1) dX12_signHere_19 rfl mzX12_isSign ml_X12_168 imX12_isSign (by omega) so_200 ⟨rfl, rfl⟩ (cm_isSign ht ht96 hQ) (Nat.le_of_ble_eq_true rfl) ⟨Nat.le_refl _, Nat.le_refl _⟩ ?_
  have K22 : mm_Ex g zX12_signHere d (0, 0) (0, 0) sh_S (pz J p q fl bs br ns N CS) 31 [(4, .int (5)), (3, .int (-1)), (0, .ref 200), (1, .int (5)), (2, .int (6))] [.int (if sg (J 203) q 43 then 5 else -1)] Q := by
    refine mm_istore_n (ls' := [(3, .int (if sg (J 203) q 43 then 5 else -1)), (4, .int (5)), (0, .ref 200), (1, .int (5)), (2, .int (6))]) dX12_signHere_31 rfl (by decide) rfl ?_
    refine mm_iinc (v := 6) (ls' := [(4, .int (6)), (3, .int (if sg (J 203) q 43 then 5 else -1)), (0, .ref 200), (1, .int (5)), (2, .int (6))]) 1 dX12_signHere_32 rfl (by decide) (by decide) rfl ?_
    refine mm_goto (tgt := 5) dX12_signHere_35 (by decide) ?_
    refine mm_iload 0 dX12_signHere_5 rfl ?_
    refine mm_iload_n 4 dX12_signHere_7 rfl rfl ?_
    refine mm_icmp_gt (tgt := 38) dX12_signHere_8 (by decide) (fun q => absurd q (by decide)) (fun _ => ?_)
    refine mm_aload_n 2 dX12_signHere_11 rfl rfl ?_
    refine mm_ldcS (t := 13) (tx := "|&<=>+-*!") dX12_signHere_12 rfl (by decide) ?_
    refine mm_iload 0 dX12_signHere_14 rfl ?_
    refine mm_cT1i (t := 13) (dz := d - 1) dX12_signHere_16 rfl mzJ0_charAt_5068e ml_X12_160 imJ0_charAt_5068e (by omega) (by decide) rfl (show mm_Ci g zJ0_charAt_5068e (d - 1) [.ref (mm_KB + (5 + 13)), .int 6] sh_S (pz J p q fl bs br ns N CS) 45 (pz J p q fl bs br ns N CS) from ct_charAt (t := 13) (k := 6) (by decide) (by decide) (by omega)) (Nat.le_of_ble_eq_true rfl) ⟨Nat.le_refl _, Nat.le_refl _⟩ ?_
    refine mm_cV1i (dz := d - 1) dX12_signHere_19 rfl mzX12_isSign ml_X12_168 imX12_isSign (by omega) so_200 ⟨rfl, rfl⟩ (cm_isSign ht ht96 hQ) (Nat.le_of_ble_eq_true rfl) ⟨Nat.le_refl _, Nat.le_refl _⟩ ?_
    have K22 : mm_Ex g zX12_signHere d (0, 0) (0, 0) sh_S (pz J p q fl bs br ns N CS) 31 [(4, .int (6)), (3, .int (if sg (J 203) q 43 then 5 else -1)), (0, .ref 200), (1, .int (5)), (2, .int (6))] [.int (if sg (J 203) q 45 then 6 else (if sg (J 203) q 43 then 5 else -1))] Q := by
      refine mm_istore_n (ls' := [(3, .int (if sg (J 203) q 45 then 6 else (if sg (J 203) q 43 then 5 else -1))), (4, .int (6)), (0, .ref 200), (1, .int (5)), (2, .int (6))]) dX12_signHere_31 rfl (by decide) rfl ?_
      refine mm_iinc (v := 7) (ls' := [(4, .int (7)), (3, .int (if sg (J 203) q 45 then 6 else (if sg (J 203) q 43 then 5 else -1))), (0, .ref 200), (1, .int (5)), (2, .int (6))]) 1 dX12_signHere_32 rfl (by decide) (by decide) rfl ?_
      refine mm_goto (tgt := 5) dX12_signHere_35 (by decide) ?_
      refine mm_iload 0 dX12_signHere_5 rfl ?_
      refine mm_iload_n 4 dX12_signHere_7 rfl rfl ?_
      refine mm_icmp_gt (tgt := 38) dX12_signHere_8 (by decide) (fun _ => ?_) (fun q => absurd (by decide) q)
      refine mm_aload_n 2 dX12_signHere_38 rfl rfl ?_
      refine mm_geti dX12_signHere_39 rfl fk_X12_164 rfl so_200 ?_
      refine mm_top (v := nI (fl)) rfl ?_
      refine mm_if_eqN (fl) (tgt := 49) dX12_signHere_42 (by decide) (by omega) (fun c42 => ?_) (fun c42 => ?_)
      · refine mm_iload_n 1 dX12_signHere_49 rfl rfl ?_
        refine mm_iret dX12_signHere_50 rfl ⟨Nat.le_refl _, Nat.le_refl _⟩ ?_
        first | (rw [if_pos (show fl = 0 by exact c42)] at hq; exact hq) | (rw [if_neg (show ¬ fl = 0 by exact c42)] at hq; exact hq)
      · refine mm_iconst (v := -1) dX12_signHere_45 rfl ?_
        refine mm_goto (tgt := 50) dX12_signHere_46 (by decide) ?_
        refine mm_iret dX12_signHere_50 rfl ⟨Nat.le_refl _, Nat.le_refl _⟩ ?_
        first | (rw [if_pos (show fl = 0 by exact c42)] at hq; exact hq) | (rw [if_neg (show ¬ fl = 0 by exact c42)] at hq; exact hq)
    refine mm_if_eqB (tgt := 30) dX12_signHere_22 (by decide) (fun c22 => ?_) (fun c22 => ?_)
    · refine mm_iload_n 1 dX12_signHere_30 rfl rfl ?_
      exact mm_top (by rw [if_neg c22]) K22
    · refine mm_iload 0 dX12_signHere_25 rfl ?_
      refine mm_goto (tgt := 31) dX12_signHere_27 (by decide) ?_
      exact mm_top (by rw [if_pos c22]) K22
  refine mm_if_eqB (tgt := 30) dX12_signHere_22 (by decide) (fun c22 => ?_) (fun c22 => ?_)
  · refine mm_iload_n 1 dX12_signHere_30 rfl rfl ?_
    exact mm_top (by rw [if_neg c22]) K22
  · refine mm_iload 0 dX12_signHere_25 rfl ?_
    refine mm_goto (tgt := 31) dX12_signHere_27 (by decide) ?_
    exact mm_top (by rw [if_pos c22]) K22
set_option maxRecDepth 100000 in
set_option maxHeartbeats 600000 in
theorem cm_sign4 {g : mm_G} {J : mm_I} {d : Nat} {p t : Nat} (ht : J 200 4 = nI t) (ht96 : t ≤ 96) {fl bs br ns : Nat} {N : Nat → Int32} {CS : List Nat} {q : Nat × Nat × Nat} (hQ : tq_ok (J 203) t q) (hfl : fl ≤ 1) (hd : 4 ≤ d) : mm_Ci g zX12_signHere d [.ref 200, .int 7, .int 7] sh_S (pz J p q fl bs br ns N CS) (if fl = 0 then sh_ (J 203) q 4 else -1) (pz J p q fl bs br ns N CS) := by
  refine mm_Ci_of (fun Q hq => ?_)
  refine mm_begin (ls := [(0, .ref 200), (1, .int (7)), (2, .int (7))]) (Nat.le_of_ble_eq_true rfl) rfl rfl ?_
  refine mm_iconst (v := -1) dX12_signHere_0 rfl ?_
  refine mm_istore_n (ls' := [(3, .int (-1)), (0, .ref 200), (1, .int (7)), (2, .int (7))]) dX12_signHere_1 rfl (by decide) rfl ?_
  refine mm_iload_n 2 dX12_signHere_2 rfl rfl ?_
  refine mm_istore (ls' := [(4, .int (7)), (3, .int (-1)), (0, .ref 200), (1, .int (7)), (2, .int (7))]) dX12_signHere_3 (by decide) rfl ?_
  refine mm_iload 0 dX12_signHere_5 rfl ?_
  refine mm_iload_n 4 dX12_signHere_7 rfl rfl ?_
  refine mm_icmp_gt (tgt := 38) dX12_signHere_8 (by decide) (fun q => absurd q (by decide)) (fun _ => ?_)
  refine mm_aload_n 2 dX12_signHere_11 rfl rfl ?_
  refine mm_ldcS (t := 13) (tx := "|&<=>+-*!") dX12_signHere_12 rfl (by decide) ?_
  refine mm_iload 0 dX12_signHere_14 rfl ?_
  refine mm_cT1i (t := 13) (dz := d - 1) dX12_signHere_16 rfl mzJ0_charAt_5068e ml_X12_160 imJ0_charAt_5068e (by omega) (by decide) rfl (show mm_Ci g zJ0_charAt_5068e (d - 1) [.ref (mm_KB + (5 + 13)), .int 7] sh_S (pz J p q fl bs br ns N CS) 42 (pz J p q fl bs br ns N CS) from ct_charAt (t := 13) (k := 7) (by decide) (by decide) (by omega)) (Nat.le_of_ble_eq_true rfl) ⟨Nat.le_refl _, Nat.le_refl _⟩ ?_
  refine mm_cV1i (dz := d - 1) dX12_signHere_19 rfl mzX12_isSign ml_X12_168 imX12_isSign (by omega) so_200 ⟨rfl, rfl⟩ (cm_isSign ht ht96 hQ) (Nat.le_of_ble_eq_true rfl) ⟨Nat.le_refl _, Nat.le_refl _⟩ ?_
  have K22 : mm_Ex g zX12_signHere d (0, 0) (0, 0) sh_S (pz J p q fl bs br ns N CS) 31 [(4, .int (7)), (3, .int (-1)), (0, .ref 200), (1, .int (7)), (2, .int (7))] [.int (if sg (J 203) q 42 then 7 else -1)] Q := by
    refine mm_istore_n (ls' := [(3, .int (if sg (J 203) q 42 then 7 else -1)), (4, .int (7)), (0, .ref 200), (1, .int (7)), (2, .int (7))]) dX12_signHere_31 rfl (by decide) rfl ?_
    refine mm_iinc (v := 8) (ls' := [(4, .int (8)), (3, .int (if sg (J 203) q 42 then 7 else -1)), (0, .ref 200), (1, .int (7)), (2, .int (7))]) 1 dX12_signHere_32 rfl (by decide) (by decide) rfl ?_
    refine mm_goto (tgt := 5) dX12_signHere_35 (by decide) ?_
    refine mm_iload 0 dX12_signHere_5 rfl ?_
    refine mm_iload_n 4 dX12_signHere_7 rfl rfl ?_
    refine mm_icmp_gt (tgt := 38) dX12_signHere_8 (by decide) (fun _ => ?_) (fun q => absurd (by decide) q)
    refine mm_aload_n 2 dX12_signHere_38 rfl rfl ?_
    refine mm_geti dX12_signHere_39 rfl fk_X12_164 rfl so_200 ?_
    refine mm_top (v := nI (fl)) rfl ?_
    refine mm_if_eqN (fl) (tgt := 49) dX12_signHere_42 (by decide) (by omega) (fun c42 => ?_) (fun c42 => ?_)
    · refine mm_iload_n 1 dX12_signHere_49 rfl rfl ?_
      refine mm_iret dX12_signHere_50 rfl ⟨Nat.le_refl _, Nat.le_refl _⟩ ?_
      first | (rw [if_pos (show fl = 0 by exact c42)] at hq; exact hq) | (rw [if_neg (show ¬ fl = 0 by exact c42)] at hq; exact hq)
    · refine mm_iconst (v := -1) dX12_signHere_45 rfl ?_
      refine mm_goto (tgt := 50) dX12_signHere_46 (by decide) ?_
      refine mm_iret dX12_signHere_50 rfl ⟨Nat.le_refl _, Nat.le_refl _⟩ ?_
      first | (rw [if_pos (show fl = 0 by exact c42)] at hq; exact hq) | (rw [if_neg (show ¬ fl = 0 by exact c42)] at hq; exact hq)
  refine mm_if_eqB (tgt := 30) dX12_signHere_22 (by decide) (fun c22 => ?_) (fun c22 => ?_)
  · refine mm_iload_n 1 dX12_signHere_30 rfl rfl ?_
    exact mm_top (by rw [if_neg c22]) K22
  · refine mm_iload 0 dX12_signHere_25 rfl ?_
    refine mm_goto (tgt := 31) dX12_signHere_27 (by decide) ?_
    exact mm_top (by rw [if_pos c22]) K22
