/-! THE REFERENCE'S READER: braces, one step, rows of steps -/
def rz (J : mm_I) (p t bs : Nat) (S : rS) : mm_I := pz J p (tq (J 203) t S.2.1) (fb S.1) bs 0 0 S.2.2.1 S.2.2.2.1
set_option maxRecDepth 100000 in
set_option maxHeartbeats 600000 in
theorem cm_br {g : mm_G} {J : mm_I}  {p t : Nat} (ht : J 200 4 = nI t) (ht96 : t ≤ 96) (hB : tp_ok (J 203) t) (hrd : J 200 18 = nI p) (hp : p < 6) {D bs dd : Nat} (hD : bs + D = 4) (hd0 : 80 ≤ dd) {row : Int32 → rS → Int32 × rS} (hR : 0 < D → RowOK (J 203) t p row) (hRow : 0 < D → ∀ (ab : Int32) (S : rS) (d : Nat), S.1 = true → r1_ (J 203) t p S → dd ≤ d → mm_Ci g zX12_rowOfSteps d [.ref 200, .int ab] sh_S (rz J p t (bs + 1) S) (row ab S).1 (rz J p t (bs + 1) (row ab S).2)) : ∀ (s : Nat) (S : rS) (d : Nat), dd + 1 ≤ d → r1_ (J 203) t p S → mm_Ci g zX12_inBraces d [.ref 200, .int (nI s)] sh_S (rz J p t bs S) (r_br (tK (J 203) t) D row s S).1 (rz J p t bs (r_br (tK (J 203) t) D row s S).2) := by
  rintro s ⟨b, k, N, CS, n⟩ d hd hS
  obtain ⟨⟨h1, h2, h3, h4⟩, h5⟩ := id hS
  replace h1 : k ≤ t := h1
  refine mm_Ci_of (fun Q hq => ?_)
  refine mm_begin (ls := [(0, .ref 200), (1, .int (nI (s)))]) (Nat.le_of_ble_eq_true rfl) rfl rfl ?_
  have hqk := tq_good (J 203) t k
  have e123 : sg (J 203) (tq (J 203) t k) 123 ↔ tK (J 203) t k = 123 := tK_sg hB (c := 123) (by decide)
  unfold r_br at hq
  by_cases c : b = true ∧ tK (J 203) t k = 123 ∧ 0 < D
  · have hlt := tK_lt hB (k := k) (by omega)
    obtain ⟨rfl, c2, c3⟩ := c
    have hsg := e123.mpr c2
    have hrow := hRow c3 (nI s) (true, k + 1, N, CS, n) (d - 1) rfl ⟨⟨hlt, Nat.le_succ_of_le h2, h3, h4⟩, fun _ => Nat.le_trans (h5 rfl) (tq_le (Nat.le_succ _))⟩ (by omega)
    rw [if_pos (show true = true ∧ tK (J 203) t k = 123 ∧ 0 < D from ⟨rfl, c2, c3⟩)] at hq
    replace hq : Q (some (.int (row (nI s) (true, k + 1, N, CS, n)).1)) sh_S (rz J p t bs ((rd_ (tK (J 203) t) 125 (row (nI s) (true, k + 1, N, CS, n)).2.1 (row (nI s) (true, k + 1, N, CS, n)).2.2.1).1, (rd_ (tK (J 203) t) 125 (row (nI s) (true, k + 1, N, CS, n)).2.1 (row (nI s) (true, k + 1, N, CS, n)).2.2.1).2, (row (nI s) (true, k + 1, N, CS, n)).2.2.2)) := hq
    generalize row (nI s) (true, k + 1, N, CS, n) = r at hrow hq
    refine mm_mem (J := pz J p (tq (J 203) t k) 0 bs 0 0 N CS) rfl ?_
    refine mm_aload_n 0 dX12_inBraces_0 rfl rfl ?_
    refine mm_geti dX12_inBraces_1 rfl fk_X12_164 rfl so_200 ?_
    refine mm_top (v := nI (0)) rfl ?_
    refine mm_top (v := 0) rfl ?_
    refine mm_if_ne (tgt := 24) dX12_inBraces_4 (by decide) (fun q => absurd q (by decide)) (fun _ => ?_)
    refine mm_aload_n 0 dX12_inBraces_7 rfl rfl ?_
    refine mm_bipush (v := 123) dX12_inBraces_8 rfl ?_
    refine mm_cV1i (dz := d - 1) dX12_inBraces_10 rfl mzX12_isSign ml_X12_168 imX12_isSign (by omega) so_200 ⟨rfl, rfl⟩ (cm_isSign ht ht96 hqk) (Nat.le_of_ble_eq_true rfl) ⟨Nat.le_refl _, Nat.le_refl _⟩ ?_
    refine mm_if_eqB (tgt := 24) dX12_inBraces_13 (by decide) (fun c13 => ?_) (fun c13 => ?_)
    · first | exact absurd hsg c13 | omega
    · refine mm_aload_n 0 dX12_inBraces_16 rfl rfl ?_
      refine mm_geti dX12_inBraces_17 rfl fk_X12_227 rfl so_200 ?_
      refine mm_top (v := nI (bs)) rfl ?_
      refine mm_iconst (v := 4) dX12_inBraces_20 rfl ?_
      refine mm_icmp_neN (bs) (4) (tgt := 31) dX12_inBraces_21 (by decide) (by omega) (by omega) (fun c21 => ?_) (fun c21 => ?_)
      · refine mm_aload_n 0 dX12_inBraces_31 rfl rfl ?_
        refine mm_dup dX12_inBraces_32 rfl ?_
        refine mm_geti dX12_inBraces_33 rfl fk_X12_227 rfl so_200 ?_
        refine mm_top (v := nI (bs)) rfl ?_
        refine mm_iconst (v := 1) dX12_inBraces_36 rfl ?_
        refine mm_iaddN (bs) (1) dX12_inBraces_37 ?_
        refine mm_puti dX12_inBraces_38 rfl fk_X12_227 rfl fv_12_15 so_200 ?_
        refine mm_mem (J := pz J p (tq (J 203) t k) 0 (bs + 1) 0 0 N CS) (pz_15 (v := bs + 1)) ?_
        refine mm_aload_n 0 dX12_inBraces_41 rfl rfl ?_
        refine mm_cV0v (dz := d - 1) dX12_inBraces_42 rfl mzX12_next ml_X12_171 imX12_next (by omega) so_200 ⟨rfl, rfl⟩ (cm_nextQ (q := tq (J 203) t k) ht ht96 hqk (by omega)) (Nat.le_of_ble_eq_true rfl) ⟨Nat.le_refl _, Nat.le_refl _⟩ ?_
        refine mm_at (pc' := 45) rfl ?_
        refine mm_aload_n 0 dX12_inBraces_45 rfl rfl ?_
        refine mm_iload_n 1 dX12_inBraces_46 rfl rfl ?_
        refine mm_cV1i (dz := d - 1) dX12_inBraces_47 rfl mzX12_rowOfSteps ml_X12_230 imX12_rowOfSteps (by omega) so_200 ⟨rfl, rfl⟩ hrow (Nat.le_of_ble_eq_true rfl) ⟨Nat.le_refl _, Nat.le_refl _⟩ ?_
        refine mm_istore_n (ls' := [(2, .int (r.1)), (0, .ref 200), (1, .int (nI (s)))]) dX12_inBraces_50 rfl (by decide) rfl ?_
        refine mm_aload_n 1 dX12_inBraces_51 rfl rfl ?_
        refine mm_bipush (v := 125) dX12_inBraces_52 rfl ?_
        refine mm_cV1v (dz := d - 1) dX12_inBraces_54 rfl mzX12_need ml_X12_202 imX12_need (by omega) so_200 ⟨rfl, rfl⟩ (cm_nd (b := r.2.1) (k := r.2.2.1) (c := 125) ht ht96 hB hrd hp (by decide) (by omega)) (Nat.le_of_ble_eq_true rfl) ⟨Nat.le_refl _, Nat.le_refl _⟩ ?_
        refine mm_aload_n 1 dX12_inBraces_57 rfl rfl ?_
        refine mm_at (pc' := 58) rfl ?_
        refine mm_dup dX12_inBraces_58 rfl ?_
        refine mm_geti dX12_inBraces_59 rfl fk_X12_227 rfl so_200 ?_
        refine mm_top (v := nI (bs + 1)) rfl ?_
        refine mm_iconst (v := 1) dX12_inBraces_62 rfl ?_
        refine mm_isubN (bs + 1) (1) dX12_inBraces_63 (by omega) ?_
        refine mm_puti dX12_inBraces_64 rfl fk_X12_227 rfl fv_12_15 so_200 ?_
        refine mm_mem (J := pz J p (tq (J 203) t (rd_ (tK (J 203) t) 125 r.2.1 r.2.2.1).2) (fb (rd_ (tK (J 203) t) 125 r.2.1 r.2.2.1).1) ((bs + 1) - 1) 0 0 r.2.2.2.1 r.2.2.2.2.1) (pz_15 (v := (bs + 1) - 1)) ?_
        refine mm_iload_n 0 dX12_inBraces_67 rfl rfl ?_
        refine mm_iret dX12_inBraces_68 rfl ⟨Nat.le_refl _, Nat.le_refl _⟩ ?_
        exact hq
      · first | exact absurd hsg c13 | omega
  · rw [if_neg (show ¬ (b = true ∧ tK (J 203) t k = 123 ∧ 0 < D) from c)] at hq
    cases b with
    | false =>
      refine mm_mem (J := pz J p (tq (J 203) t k) 1 bs 0 0 N CS) rfl ?_
      refine mm_aload_n 0 dX12_inBraces_0 rfl rfl ?_
      refine mm_geti dX12_inBraces_1 rfl fk_X12_164 rfl so_200 ?_
      refine mm_top (v := nI (1)) rfl ?_
      refine mm_top (v := 1) rfl ?_
      refine mm_if_ne (tgt := 24) dX12_inBraces_4 (by decide) (fun _ => ?_) (fun q => absurd q (by decide))
      refine mm_aload_n 0 dX12_inBraces_24 rfl rfl ?_
      refine mm_iconst (v := 1) dX12_inBraces_25 rfl ?_
      refine mm_putz dX12_inBraces_26 rfl fk_X12_164 rfl fv_12_14 (by decide) so_200 ?_
      refine mm_mem (J := pz J p (tq (J 203) t k) 1 bs 0 0 N CS) (pz_14 (v := 1)) ?_
      refine mm_iconst (v := -1) dX12_inBraces_29 rfl ?_
      refine mm_iret dX12_inBraces_30 rfl ⟨Nat.le_refl _, Nat.le_refl _⟩ ?_
      exact hq
    | true =>
      refine mm_mem (J := pz J p (tq (J 203) t k) 0 bs 0 0 N CS) rfl ?_
      refine mm_aload_n 0 dX12_inBraces_0 rfl rfl ?_
      refine mm_geti dX12_inBraces_1 rfl fk_X12_164 rfl so_200 ?_
      refine mm_top (v := nI (0)) rfl ?_
      refine mm_top (v := 0) rfl ?_
      refine mm_if_ne (tgt := 24) dX12_inBraces_4 (by decide) (fun q => absurd q (by decide)) (fun _ => ?_)
      refine mm_aload_n 0 dX12_inBraces_7 rfl rfl ?_
      refine mm_bipush (v := 123) dX12_inBraces_8 rfl ?_
      refine mm_cV1i (dz := d - 1) dX12_inBraces_10 rfl mzX12_isSign ml_X12_168 imX12_isSign (by omega) so_200 ⟨rfl, rfl⟩ (cm_isSign ht ht96 hqk) (Nat.le_of_ble_eq_true rfl) ⟨Nat.le_refl _, Nat.le_refl _⟩ ?_
      refine mm_if_eqB (tgt := 24) dX12_inBraces_13 (by decide) (fun c13 => ?_) (fun c13 => ?_)
      · refine mm_aload_n 0 dX12_inBraces_24 rfl rfl ?_
        refine mm_iconst (v := 1) dX12_inBraces_25 rfl ?_
        refine mm_putz dX12_inBraces_26 rfl fk_X12_164 rfl fv_12_14 (by decide) so_200 ?_
        refine mm_mem (J := pz J p (tq (J 203) t k) 1 bs 0 0 N CS) (pz_14 (v := 1)) ?_
        refine mm_iconst (v := -1) dX12_inBraces_29 rfl ?_
        refine mm_iret dX12_inBraces_30 rfl ⟨Nat.le_refl _, Nat.le_refl _⟩ ?_
        exact hq
      · refine mm_aload_n 0 dX12_inBraces_16 rfl rfl ?_
        refine mm_geti dX12_inBraces_17 rfl fk_X12_227 rfl so_200 ?_
        refine mm_top (v := nI (bs)) rfl ?_
        refine mm_iconst (v := 4) dX12_inBraces_20 rfl ?_
        refine mm_icmp_neN (bs) (4) (tgt := 31) dX12_inBraces_21 (by decide) (by omega) (by omega) (fun c21 => ?_) (fun c21 => ?_)
        · exact absurd ⟨rfl, e123.mp c13, by omega⟩ c
        · refine mm_aload_n 0 dX12_inBraces_24 rfl rfl ?_
          refine mm_iconst (v := 1) dX12_inBraces_25 rfl ?_
          refine mm_putz dX12_inBraces_26 rfl fk_X12_164 rfl fv_12_14 (by decide) so_200 ?_
          refine mm_mem (J := pz J p (tq (J 203) t k) 1 bs 0 0 N CS) (pz_14 (v := 1)) ?_
          refine mm_iconst (v := -1) dX12_inBraces_29 rfl ?_
          refine mm_iret dX12_inBraces_30 rfl ⟨Nat.le_refl _, Nat.le_refl _⟩ ?_
          exact hq
