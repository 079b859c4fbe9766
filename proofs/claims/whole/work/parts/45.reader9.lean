/-! THE REFERENCE'S READER: steps -/
theorem cm_num {g : mm_G} {J : mm_I} {d : Nat} {p t : Nat} (ht : J 200 4 = nI t) (ht96 : t ≤ 96) (hB : tp_ok (J 203) t) (hrd : J 200 18 = nI p) (hp : p < 6) {bs br ns : Nat} {N : Nat → Int32} {CS : List Nat} {b : Bool} {k : Nat} (hd : 2 ≤ d) : mm_Ci g zX12_number d [.ref 200] sh_S (pz J p (tq (J 203) t k) (fb b) bs br ns N CS) (nI (rn_ (tK (J 203) t) (tV (J 203) t) b k).1) (pz J p (tq (J 203) t ((rn_ (tK (J 203) t) (tV (J 203) t) b k).2.2)) (fb (rn_ (tK (J 203) t) (tV (J 203) t) b k).2.1) bs br ns N CS) := by
  unfold rn_
  cases b with
  | false =>
    rw [if_neg (by rintro ⟨h, -⟩; exact absurd h (by decide))]
    exact cm_numberF ht ht96 (tq_good (J 203) t k) (by omega)
  | true =>
    by_cases c : tK (J 203) t k = 401
    · have hs := (tK_401 hB).mp c
      rw [if_pos ⟨rfl, c⟩]
      have h := cm_numberD (g := g) (J := J) (p := p) (bs := bs) (br := br) (ns := ns) (N := N) (CS := CS) ht ht96 (tq_good (J 203) t k) hs hd
      rw [show nvl (J 203) (tq (J 203) t k).1 ((tq (J 203) t k).2.1 - (tq (J 203) t k).1) = tV (J 203) t k by show _ = tkv _ _; unfold tkv; rw [if_pos hs]] at h
      exact h
    · rw [if_neg (fun q => c q.2)]
      exact cm_numberN ht ht96 (tq_good (J 203) t k) (fun q => c ((tK_401 hB).mpr q)) (by omega)
theorem cm_nd {g : mm_G} {J : mm_I} {d : Nat} {p t : Nat} (ht : J 200 4 = nI t) (ht96 : t ≤ 96) (hB : tp_ok (J 203) t) (hrd : J 200 18 = nI p) (hp : p < 6) {bs br ns : Nat} {N : Nat → Int32} {CS : List Nat} {b : Bool} {k c : Nat} (hc : c < 256) (hd : 2 ≤ d) : mm_Cv g zX12_need d [.ref 200, .int (nI c)] sh_S (pz J p (tq (J 203) t k) (fb b) bs br ns N CS) (pz J p (tq (J 203) t ((rd_ (tK (J 203) t) c b k).2)) (fb (rd_ (tK (J 203) t) c b k).1) bs br ns N CS) := by
  unfold rd_
  cases b with
  | false =>
    rw [if_neg (by rintro ⟨h, -⟩; exact absurd h (by decide))]
    exact cm_needF ht ht96 (tq_good (J 203) t k) (by omega)
  | true =>
    by_cases h : tK (J 203) t k = c
    · rw [if_pos ⟨rfl, h⟩]
      exact cm_needY ht ht96 (tq_good (J 203) t k) ((tK_sg hB hc).mpr h) hd
    · rw [if_neg (fun q => h q.2)]
      exact cm_needN ht ht96 (tq_good (J 203) t k) (fun q => h ((tK_sg hB hc).mp q)) hd
set_option maxRecDepth 100000 in
set_option maxHeartbeats 600000 in
theorem cm_step {g : mm_G} {J : mm_I} {d : Nat} {p : Nat} (hrd : J 200 18 = nI p) (s f : Nat) : mm_Ci g zX12_step d [.ref 200, .int (nI s), .int (nI f)] sh_S J (nI (1226 + 418 * p + 1 + 8 * s + f)) J := by
  refine mm_Ci_of (fun Q hq => ?_)
  refine mm_begin (ls := [(0, .ref 200), (1, .int (nI (s))), (2, .int (nI (f)))]) (Nat.le_of_ble_eq_true rfl) rfl rfl ?_
  refine mm_sipush (v := 1226) dX12_step_0 rfl ?_
  refine mm_sipush (v := 418) dX12_step_3 rfl ?_
  refine mm_aload_n 0 dX12_step_6 rfl rfl ?_
  refine mm_geti dX12_step_7 rfl fk_X12_174 rfl so_200 ?_
  refine mm_top (v := nI (p)) hrd ?_
  refine mm_imulN (418) (p) dX12_step_10 ?_
  refine mm_iaddN (1226) (418 * p) dX12_step_11 ?_
  refine mm_iconst (v := 1) dX12_step_12 rfl ?_
  refine mm_iaddN (1226 + (418 * p)) (1) dX12_step_13 ?_
  refine mm_at (pc' := 14) rfl ?_
  refine mm_bipush (v := 8) dX12_step_14 rfl ?_
  refine mm_iload_n 1 dX12_step_16 rfl rfl ?_
  refine mm_imulN (8) (s) dX12_step_17 ?_
  refine mm_iaddN ((1226 + (418 * p)) + 1) (8 * s) dX12_step_18 ?_
  refine mm_iload_n 2 dX12_step_19 rfl rfl ?_
  refine mm_iaddN (((1226 + (418 * p)) + 1) + (8 * s)) (f) dX12_step_20 ?_
  refine mm_iret dX12_step_21 rfl ⟨Nat.le_refl _, Nat.le_refl _⟩ ?_
  exact hq
set_option maxRecDepth 100000 in
set_option maxHeartbeats 600000 in
theorem cm_expr {g : mm_G} {J : mm_I} {d : Nat} {p t : Nat} (ht : J 200 4 = nI t) (ht96 : t ≤ 96) (hB : tp_ok (J 203) t) (hrd : J 200 18 = nI p) (hp : p < 6) {bs : Nat} {N : Nat → Int32} {CS : List Nat} {k s : Nat} (hk : k ≤ t) (hl : CS.length + 1 ≤ k) (hs : s < 32) (hd : 77 ≤ d) : mm_Cv g zX12_expression d [.ref 200, .int (nI s)] sh_S (pz J p (tq (J 203) t k) 0 bs 0 0 N CS) (pz J p (tq (J 203) t ((px (tK (J 203) t) (tV (J 203) t) 70 0 0 0 k).2.1)) (fb (px (tK (J 203) t) (tV (J 203) t) 70 0 0 0 k).1) bs 0 0 (sw p N s 3 (nI CS.length)) ((CS ++ (px (tK (J 203) t) (tV (J 203) t) 70 0 0 0 k).2.2) ++ [30000])) := by
  have hg := px_good (K := tK (J 203) t) (V := tV (J 203) t) 70 0 0 0 k
  have hle := px_le_t hB hg hk
  obtain ⟨g1, g2, g3, g4⟩ := hg
  refine mm_Cv_of (fun Q hq => ?_)
  refine mm_begin (ls := [(0, .ref 200), (1, .int (nI (s)))]) (Nat.le_of_ble_eq_true rfl) rfl rfl ?_
  refine mm_aload_n 0 dX12_expression_0 rfl rfl ?_
  refine mm_getr (b := 201) dX12_expression_1 rfl fk_X12_9 rfl so_200 sr_200_0 ?_
  refine mm_aload_n 0 dX12_expression_4 rfl rfl ?_
  refine mm_iload_n 1 dX12_expression_5 rfl rfl ?_
  refine mm_iconst (v := 3) dX12_expression_6 rfl ?_
  refine mm_cV2i (dz := d - 1) dX12_expression_7 rfl mzX12_step ml_X12_220 imX12_step (by omega) so_200 ⟨rfl, rfl⟩ (cm_step (J := pz J p (tq (J 203) t k) 0 bs 0 0 N CS) hrd (s) (3)) (Nat.le_of_ble_eq_true rfl) ⟨Nat.le_refl _, Nat.le_refl _⟩ ?_
  refine mm_aload_n 0 dX12_expression_10 rfl rfl ?_
  refine mm_getr (b := 201) dX12_expression_11 rfl fk_X12_9 rfl so_200 sr_200_0 ?_
  refine mm_at (pc' := 14) rfl ?_
  refine mm_sipush (v := 1226) dX12_expression_14 rfl ?_
  refine mm_sipush (v := 418) dX12_expression_17 rfl ?_
  refine mm_aload_n 0 dX12_expression_20 rfl rfl ?_
  refine mm_geti dX12_expression_21 rfl fk_X12_174 rfl so_200 ?_
  refine mm_top (v := nI (p)) hrd ?_
  refine mm_imulN (418) (p) dX12_expression_24 ?_
  refine mm_iaddN (1226) (418 * p) dX12_expression_25 ?_
  refine mm_sipush (v := 257) dX12_expression_26 rfl ?_
  refine mm_iaddN (1226 + (418 * p)) (257) dX12_expression_29 ?_
  refine mm_at (pc' := 30) rfl ?_
  refine mm_ialdN ((1226 + (418 * p)) + 257) dX12_expression_30 sa_201 (by omega) (by omega) ?_
  refine mm_top (v := nI (CS).length) nc_c ?_
  refine mm_iastN (1226 + 418 * p + 1 + 8 * s + 3) dX12_expression_31 sa_201 (by omega) (by omega) ?_
  refine mm_mem (J := pz J p (tq (J 203) t k) 0 bs 0 0 (sw p N s 3 (nI (CS.length))) CS) (pz_r (nc_up (by omega))) ?_
  refine mm_aload_n 0 dX12_expression_32 rfl rfl ?_
  refine mm_cV0v (dz := d - 1) dX12_expression_33 rfl mzX12_either ml_X12_199 imX12_either (by omega) so_200 ⟨rfl, rfl⟩ (cm_px ht ht96 hB hrd hp 70 0 0 0 (by decide) (by decide) (by decide) (by decide) k CS (d - 1) (by omega) (by omega) hk) (Nat.le_of_ble_eq_true rfl) ⟨Nat.le_refl _, Nat.le_refl _⟩ ?_
  refine mm_aload_n 0 dX12_expression_36 rfl rfl ?_
  refine mm_sipush (v := 30000) dX12_expression_37 rfl ?_
  refine mm_cV1v (dz := d - 1) dX12_expression_40 rfl mzX12_code ml_X12_182 imX12_code (by omega) so_200 ⟨rfl, rfl⟩ (cm_code hrd hp (by simp only [List.length_append]; omega)) (Nat.le_of_ble_eq_true rfl) ⟨Nat.le_refl _, Nat.le_refl _⟩ ?_
  refine mm_vret dX12_expression_43 rfl ⟨Nat.le_refl _, Nat.le_refl _⟩ ?_
  exact hq
