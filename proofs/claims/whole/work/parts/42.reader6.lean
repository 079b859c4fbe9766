/-! THE REFERENCE'S READER: parts, and all levels -/
theorem nm_in (b : Nat) : nm_ix b = -1 ∨ ∃ j, j < 10 ∧ nm_ix b = nI j := by
  unfold nm_ix
  repeat' split
  all_goals first | exact Or.inl rfl | exact Or.inr ⟨0, by decide, rfl⟩ | exact Or.inr ⟨1, by decide, rfl⟩ | exact Or.inr ⟨2, by decide, rfl⟩ | exact Or.inr ⟨3, by decide, rfl⟩ | exact Or.inr ⟨4, by decide, rfl⟩ | exact Or.inr ⟨5, by decide, rfl⟩ | exact Or.inr ⟨6, by decide, rfl⟩ | exact Or.inr ⟨7, by decide, rfl⟩ | exact Or.inr ⟨8, by decide, rfl⟩ | exact Or.inr ⟨9, by decide, rfl⟩
def px5 (K V : Nat → Nat) (nP nE : Nat → Bool × Nat × List Nat) (br ns k : Nat) : Bool × Nat × List Nat := if K k = 401 ∨ K k = 402 then (true, k + 1, [V k])
    else if K k = 33 ∧ ns < 8 then ((nP (k + 1)).1, (nP (k + 1)).2.1, (nP (k + 1)).2.2 ++ [20008])
    else if K k = 40 ∧ br < 8 then px_b K (nE (k + 1))
    else (false, k, [])
set_option maxRecDepth 100000 in
set_option maxHeartbeats 600000 in
theorem cm_lv5 {g : mm_G} {J : mm_I}  {p t : Nat} (ht : J 200 4 = nI t) (ht96 : t ≤ 96) (hB : tp_ok (J 203) t) (hrd : J 200 18 = nI p) (hp : p < 6) {bs br ns : Nat} {N : Nat → Int32} {nP nE : Nat → Bool × Nat × List Nat} (hoP : ∀ k, px_ok (tK (J 203) t) k (nP k)) (hoE : ∀ k, px_ok (tK (J 203) t) k (nE k)) {dd : Nat} (hd4 : 6 ≤ dd) (hbr8 : br ≤ 8) (hns8 : ns ≤ 8) (hP : ns < 8 → (∀ (k : Nat) (CS : List Nat) (d : Nat), dd ≤ d → CS.length ≤ k → k ≤ t → mm_Cv g zX12_part d [.ref 200] sh_S (pz J p (tq (J 203) t k) 0 bs br (ns + 1) N CS) (pz J p (tq (J 203) t ((nP k).2.1)) (fb (nP k).1) bs br (ns + 1) N (CS ++ (nP k).2.2)))) (hE : br < 8 → (∀ (k : Nat) (CS : List Nat) (d : Nat), dd ≤ d → CS.length ≤ k → k ≤ t → mm_Cv g zX12_either d [.ref 200] sh_S (pz J p (tq (J 203) t k) 0 bs (br + 1) ns N CS) (pz J p (tq (J 203) t ((nE k).2.1)) (fb (nE k).1) bs (br + 1) ns N (CS ++ (nE k).2.2)))) : (∀ (k : Nat) (CS : List Nat) (d : Nat), dd + 1 ≤ d → CS.length ≤ k → k ≤ t → mm_Cv g zX12_part d [.ref 200] sh_S (pz J p (tq (J 203) t k) 0 bs br ns N CS) (pz J p (tq (J 203) t ((px5 (tK (J 203) t) (tV (J 203) t) nP nE br ns k).2.1)) (fb (px5 (tK (J 203) t) (tV (J 203) t) nP nE br ns k).1) bs br ns N (CS ++ (px5 (tK (J 203) t) (tV (J 203) t) nP nE br ns k).2.2))) := by
  intro k CS d hd hl hk
  have hqk := tq_good (J 203) t k
  obtain ⟨hq1, hq2, hq3, hq4, hq5, hq6⟩ := id hqk
  refine mm_Cv_of (fun Q hq => ?_)
  refine mm_begin (ls := [(0, .ref 200)]) (Nat.le_of_ble_eq_true rfl) rfl rfl ?_
  have e33 : sg (J 203) (tq (J 203) t k) 33 ↔ tK (J 203) t k = 33 := tK_sg hB (c := 33) (by decide)
  have e40 : sg (J 203) (tq (J 203) t k) 40 ↔ tK (J 203) t k = 40 := tK_sg hB (c := 40) (by decide)
  by_cases cA : tK (J 203) t k = 401
  · have hs := (tK_401 hB).mp cA
    have hlt := tK_lt hB (k := k) (by omega)
    rw [px5, if_pos (Or.inl cA), show tV (J 203) t k = nvl (J 203) (tq (J 203) t k).1 ((tq (J 203) t k).2.1 - (tq (J 203) t k).1) by show tkv _ _ = _; unfold tkv; rw [if_pos hs]] at hq
    refine mm_aload_n 0 dX12_part_0 rfl rfl ?_
    refine mm_geti dX12_part_1 rfl fk_X12_164 rfl so_200 ?_
    refine mm_top (v := nI (0)) rfl ?_
    refine mm_top (v := 0) rfl ?_
    refine mm_if_eq (tgt := 8) dX12_part_4 (by decide) (fun _ => ?_) (fun q => absurd (by decide) q)
    refine mm_aload_n 0 dX12_part_8 rfl rfl ?_
    refine mm_geti dX12_part_9 rfl fk_X12_142 rfl so_200 ?_
    refine mm_top (v := nI ((tq (J 203) t k).2.2)) rfl ?_
    refine mm_iconst (v := 2) dX12_part_12 rfl ?_
    refine mm_icmp_neN ((tq (J 203) t k).2.2) (2) (tgt := 27) dX12_part_13 (by decide) (by omega) (by omega) (fun c13 => ?_) (fun c13 => ?_)
    · omega
    · refine mm_aload_n 0 dX12_part_16 rfl rfl ?_
      refine mm_aload_n 0 dX12_part_17 rfl rfl ?_
      refine mm_cV0i (dz := d - 1) dX12_part_18 rfl mzX12_number ml_X12_179 imX12_number (by omega) so_200 ⟨rfl, rfl⟩ (cm_numberD ht ht96 hqk hs (by omega)) (Nat.le_of_ble_eq_true rfl) ⟨Nat.le_refl _, Nat.le_refl _⟩ ?_
      refine mm_cV1v (dz := d - 1) dX12_part_21 rfl mzX12_code ml_X12_182 imX12_code (by omega) so_200 ⟨rfl, rfl⟩ (cm_code hrd hp (by first | omega | (simp only [List.length_append]; omega))) (Nat.le_of_ble_eq_true rfl) ⟨Nat.le_refl _, Nat.le_refl _⟩ ?_
      refine mm_goto (tgt := 210) dX12_part_24 (by decide) ?_
      refine mm_vret dX12_part_210 rfl ⟨Nat.le_refl _, Nat.le_refl _⟩ ?_
      exact hq
  by_cases cB : tK (J 203) t k = 402
  · obtain ⟨hs1, hs2, hs3⟩ := (tK_402 hB).mp cB
    have hlt := tK_lt hB (k := k) (by omega)
    obtain ⟨b, hb, eb⟩ := hB.2 (tq (J 203) t k).1 (by have := hq5 (by omega); omega)
    rw [eb, vv_nI (by omega)] at hs3
    obtain ⟨j, hj, ej⟩ : ∃ j, j < 10 ∧ nm_ix b = nI j := by
      rcases nm_in b with e | e
      · rw [e] at hs3; exact absurd hs3 (by decide)
      · exact e
    rw [px5, if_pos (Or.inr cB), show tV (J 203) t k = 10000 + j by show tkv _ _ = _; unfold tkv; rw [if_neg (by omega), eb, vv_nI (by omega), ej, vv_nI (by omega)]] at hq
    have hI : ∀ I', mm_Ci g zJ0_indexOf_0f7a4 (d - 1) [.ref (mm_KB + (5 + 12)), .int (nI b)] sh_S I' (nI j) I' := fun I' => by
      have h := ct_ix (g := g) (S := sh_S) (I := I') (b := b) (d := d - 1) hb (by omega)
      rw [ej] at h
      exact h
    refine mm_aload_n 0 dX12_part_0 rfl rfl ?_
    refine mm_geti dX12_part_1 rfl fk_X12_164 rfl so_200 ?_
    refine mm_top (v := nI (0)) rfl ?_
    refine mm_top (v := 0) rfl ?_
    refine mm_if_eq (tgt := 8) dX12_part_4 (by decide) (fun _ => ?_) (fun q => absurd (by decide) q)
    refine mm_aload_n 0 dX12_part_8 rfl rfl ?_
    refine mm_geti dX12_part_9 rfl fk_X12_142 rfl so_200 ?_
    refine mm_top (v := nI ((tq (J 203) t k).2.2)) rfl ?_
    refine mm_iconst (v := 2) dX12_part_12 rfl ?_
    refine mm_icmp_neN ((tq (J 203) t k).2.2) (2) (tgt := 27) dX12_part_13 (by decide) (by omega) (by omega) (fun c13 => ?_) (fun c13 => ?_)
    · refine mm_aload_n 0 dX12_part_27 rfl rfl ?_
      refine mm_geti dX12_part_28 rfl fk_X12_142 rfl so_200 ?_
      refine mm_top (v := nI ((tq (J 203) t k).2.2)) rfl ?_
      refine mm_iconst (v := 1) dX12_part_31 rfl ?_
      refine mm_icmp_neN ((tq (J 203) t k).2.2) (1) (tgt := 94) dX12_part_32 (by decide) (by omega) (by omega) (fun c32 => ?_) (fun c32 => ?_)
      · omega
      · refine mm_aload_n 0 dX12_part_35 rfl rfl ?_
        refine mm_geti dX12_part_36 rfl fk_X12_145 rfl so_200 ?_
        refine mm_top (v := nI ((tq (J 203) t k).2.1)) rfl ?_
        refine mm_aload_n 0 dX12_part_39 rfl rfl ?_
        refine mm_geti dX12_part_40 rfl fk_X12_148 rfl so_200 ?_
        refine mm_top (v := nI ((tq (J 203) t k).1)) rfl ?_
        refine mm_isubN ((tq (J 203) t k).2.1) ((tq (J 203) t k).1) dX12_part_43 (by omega) ?_
        refine mm_iconst (v := 1) dX12_part_44 rfl ?_
        refine mm_icmp_neN (((tq (J 203) t k).2.1) - ((tq (J 203) t k).1)) (1) (tgt := 94) dX12_part_45 (by decide) (by omega) (by omega) (fun c45 => ?_) (fun c45 => ?_)
        · omega
        · refine mm_ldcS (t := 12) (tx := "ckwsdibtxy") dX12_part_48 rfl (by decide) ?_
          refine mm_aload_n 0 dX12_part_50 rfl rfl ?_
          refine mm_getr (b := 203) dX12_part_51 rfl fk_X12_16 rfl so_200 sr_200_3 ?_
          refine mm_aload_n 0 dX12_part_54 rfl rfl ?_
          refine mm_geti dX12_part_55 rfl fk_X12_148 rfl so_200 ?_
          refine mm_top (v := nI ((tq (J 203) t k).1)) rfl ?_
          refine mm_ialdN ((tq (J 203) t k).1) dX12_part_58 sa_203 (by omega) (by omega) ?_
          refine mm_top (v := J 203 ((tq (J 203) t k).1)) rfl ?_
          refine mm_top (v := nI b) eb ?_
          refine mm_cT1i (t := 12) (dz := d - 1) dX12_part_59 rfl mzJ0_indexOf_0f7a4 ml_X12_187 imJ0_indexOf_0f7a4 (by omega) (by decide) rfl (hI _) (Nat.le_of_ble_eq_true rfl) ⟨Nat.le_refl _, Nat.le_refl _⟩ ?_
          refine mm_at (pc' := 62) rfl ?_
          refine mm_if_ltN (j) (tgt := 94) dX12_part_62 (by decide) (by omega) ?_
          refine mm_aload_n 0 dX12_part_65 rfl rfl ?_
          refine mm_sipush (v := 10000) dX12_part_66 rfl ?_
          refine mm_ldcS (t := 12) (tx := "ckwsdibtxy") dX12_part_69 rfl (by decide) ?_
          refine mm_aload_n 0 dX12_part_71 rfl rfl ?_
          refine mm_getr (b := 203) dX12_part_72 rfl fk_X12_16 rfl so_200 sr_200_3 ?_
          refine mm_aload_n 0 dX12_part_75 rfl rfl ?_
          refine mm_geti dX12_part_76 rfl fk_X12_148 rfl so_200 ?_
          refine mm_at (pc' := 79) rfl ?_
          refine mm_top (v := nI ((tq (J 203) t k).1)) rfl ?_
          refine mm_ialdN ((tq (J 203) t k).1) dX12_part_79 sa_203 (by omega) (by omega) ?_
          refine mm_top (v := J 203 ((tq (J 203) t k).1)) rfl ?_
          refine mm_top (v := nI b) eb ?_
          refine mm_cT1i (t := 12) (dz := d - 1) dX12_part_80 rfl mzJ0_indexOf_0f7a4 ml_X12_187 imJ0_indexOf_0f7a4 (by omega) (by decide) rfl (hI _) (Nat.le_of_ble_eq_true rfl) ⟨Nat.le_refl _, Nat.le_refl _⟩ ?_
          refine mm_iaddN (10000) (j) dX12_part_83 ?_
          refine mm_cV1v (dz := d - 1) dX12_part_84 rfl mzX12_code ml_X12_182 imX12_code (by omega) so_200 ⟨rfl, rfl⟩ (cm_code hrd hp (by first | omega | (simp only [List.length_append]; omega))) (Nat.le_of_ble_eq_true rfl) ⟨Nat.le_refl _, Nat.le_refl _⟩ ?_
          refine mm_aload_n 0 dX12_part_87 rfl rfl ?_
          refine mm_cV0v (dz := d - 1) dX12_part_88 rfl mzX12_next ml_X12_171 imX12_next (by omega) so_200 ⟨rfl, rfl⟩ (cm_nextQ (q := tq (J 203) t k) ht ht96 hqk (by omega)) (Nat.le_of_ble_eq_true rfl) ⟨Nat.le_refl _, Nat.le_refl _⟩ ?_
          refine mm_goto (tgt := 210) dX12_part_91 (by decide) ?_
          refine mm_vret dX12_part_210 rfl ⟨Nat.le_refl _, Nat.le_refl _⟩ ?_
          exact hq
    · omega
  by_cases cC : tK (J 203) t k = 33 ∧ ns < 8
  · have hsg := e33.mpr cC.1
    have hlt := tK_lt hB (k := k) (by omega)
    have hns := cC.2
    rw [px5, if_neg (by omega), if_pos cC] at hq
    obtain ⟨h1, h2, h3, h4⟩ := hoP (k + 1)
    have h5 := px_le_t hB (hoP (k + 1)) (by omega)
    refine mm_aload_n 0 dX12_part_0 rfl rfl ?_
    refine mm_geti dX12_part_1 rfl fk_X12_164 rfl so_200 ?_
    refine mm_top (v := nI (0)) rfl ?_
    refine mm_top (v := 0) rfl ?_
    refine mm_if_eq (tgt := 8) dX12_part_4 (by decide) (fun _ => ?_) (fun q => absurd (by decide) q)
    refine mm_aload_n 0 dX12_part_8 rfl rfl ?_
    refine mm_geti dX12_part_9 rfl fk_X12_142 rfl so_200 ?_
    refine mm_top (v := nI ((tq (J 203) t k).2.2)) rfl ?_
    refine mm_iconst (v := 2) dX12_part_12 rfl ?_
    refine mm_icmp_neN ((tq (J 203) t k).2.2) (2) (tgt := 27) dX12_part_13 (by decide) (by omega) (by omega) (fun c13 => ?_) (fun c13 => ?_)
    · refine mm_aload_n 0 dX12_part_27 rfl rfl ?_
      refine mm_geti dX12_part_28 rfl fk_X12_142 rfl so_200 ?_
      refine mm_top (v := nI ((tq (J 203) t k).2.2)) rfl ?_
      refine mm_iconst (v := 1) dX12_part_31 rfl ?_
      refine mm_icmp_neN ((tq (J 203) t k).2.2) (1) (tgt := 94) dX12_part_32 (by decide) (by omega) (by omega) (fun c32 => ?_) (fun c32 => ?_)
      · refine mm_aload_n 0 dX12_part_94 rfl rfl ?_
        refine mm_bipush (v := 33) dX12_part_95 rfl ?_
        refine mm_cV1i (dz := d - 1) dX12_part_97 rfl mzX12_isSign ml_X12_168 imX12_isSign (by omega) so_200 ⟨rfl, rfl⟩ (cm_isSign ht ht96 hqk) (Nat.le_of_ble_eq_true rfl) ⟨Nat.le_refl _, Nat.le_refl _⟩ ?_
        refine mm_if_eqB (tgt := 150) dX12_part_100 (by decide) (fun c100 => ?_) (fun c100 => ?_)
        · first | exact absurd hsg c100 | omega
        · refine mm_aload_n 0 dX12_part_103 rfl rfl ?_
          refine mm_geti dX12_part_104 rfl fk_X12_190 rfl so_200 ?_
          refine mm_top (v := nI (ns)) rfl ?_
          refine mm_bipush (v := 8) dX12_part_107 rfl ?_
          refine mm_icmp_geN (ns) (8) (tgt := 150) dX12_part_109 (by decide) (by omega) (by omega) (fun c109 => ?_) (fun c109 => ?_)
          · first | exact absurd hsg c100 | omega
          · refine mm_aload_n 0 dX12_part_112 rfl rfl ?_
            refine mm_dup dX12_part_113 rfl ?_
            refine mm_geti dX12_part_114 rfl fk_X12_190 rfl so_200 ?_
            refine mm_top (v := nI (ns)) rfl ?_
            refine mm_iconst (v := 1) dX12_part_117 rfl ?_
            refine mm_iaddN (ns) (1) dX12_part_118 ?_
            refine mm_puti dX12_part_119 rfl fk_X12_190 rfl fv_12_17 so_200 ?_
            refine mm_mem (J := pz J p (tq (J 203) t k) 0 bs br (ns + 1) N CS) (pz_17 (v := ns + 1)) ?_
            refine mm_aload_n 0 dX12_part_122 rfl rfl ?_
            refine mm_at (pc' := 123) rfl ?_
            refine mm_cV0v (dz := d - 1) dX12_part_123 rfl mzX12_next ml_X12_171 imX12_next (by omega) so_200 ⟨rfl, rfl⟩ (cm_nextQ (q := tq (J 203) t k) ht ht96 hqk (by omega)) (Nat.le_of_ble_eq_true rfl) ⟨Nat.le_refl _, Nat.le_refl _⟩ ?_
            refine mm_aload_n 0 dX12_part_126 rfl rfl ?_
            refine mm_cV0v (dz := d - 1) dX12_part_127 rfl mzX12_part ml_X12_193 imX12_part (by omega) so_200 ⟨rfl, rfl⟩ (hP hns (k + 1) CS (d - 1) (by omega) (by omega) (by omega)) (Nat.le_of_ble_eq_true rfl) ⟨Nat.le_refl _, Nat.le_refl _⟩ ?_
            refine mm_aload_n 0 dX12_part_130 rfl rfl ?_
            refine mm_dup dX12_part_131 rfl ?_
            refine mm_geti dX12_part_132 rfl fk_X12_190 rfl so_200 ?_
            refine mm_top (v := nI (ns + 1)) rfl ?_
            refine mm_iconst (v := 1) dX12_part_135 rfl ?_
            refine mm_isubN (ns + 1) (1) dX12_part_136 (by omega) ?_
            refine mm_at (pc' := 137) rfl ?_
            refine mm_puti dX12_part_137 rfl fk_X12_190 rfl fv_12_17 so_200 ?_
            refine mm_mem (J := pz J p (tq (J 203) t (nP (k + 1)).2.1) (fb (nP (k + 1)).1) bs br ((ns + 1) - 1) N (CS ++ (nP (k + 1)).2.2)) (pz_17 (v := (ns + 1) - 1)) ?_
            refine mm_aload_n 0 dX12_part_140 rfl rfl ?_
            refine mm_sipush (v := 20008) dX12_part_141 rfl ?_
            refine mm_cV1v (dz := d - 1) dX12_part_144 rfl mzX12_code ml_X12_182 imX12_code (by omega) so_200 ⟨rfl, rfl⟩ (cm_code hrd hp (by first | omega | (simp only [List.length_append]; omega))) (Nat.le_of_ble_eq_true rfl) ⟨Nat.le_refl _, Nat.le_refl _⟩ ?_
            refine mm_goto (tgt := 210) dX12_part_147 (by decide) ?_
            refine mm_vret dX12_part_210 rfl ⟨Nat.le_refl _, Nat.le_refl _⟩ ?_
            rw [← List.append_assoc] at hq
            exact hq
      · have := hsg.1; omega
    · have := hsg.1; omega
  by_cases cD : tK (J 203) t k = 40 ∧ br < 8
  · have hsg := e40.mpr cD.1
    have hlt := tK_lt hB (k := k) (by omega)
    have hbr := cD.2
    rw [px5, if_neg (by omega), if_neg (by omega), if_pos cD, px_b] at hq
    obtain ⟨h1, h2, h3, h4⟩ := hoE (k + 1)
    have h5 := px_le_t hB (hoE (k + 1)) (by omega)
    have e41 : sg (J 203) (tq (J 203) t (nE (k + 1)).2.1) 41 ↔ tK (J 203) t (nE (k + 1)).2.1 = 41 := tK_sg hB (c := 41) (by decide)
    by_cases cb : (nE (k + 1)).1 = true
    · by_cases c41 : tK (J 203) t (nE (k + 1)).2.1 = 41
      · rw [if_pos ⟨cb, c41⟩] at hq
        have hnd : mm_Cv g zX12_need (d - 1) [.ref 200, .int 41] sh_S (pz J p (tq (J 203) t ((nE (k + 1)).2.1)) (fb (nE (k + 1)).1) bs (br + 1) ns N (CS ++ (nE (k + 1)).2.2)) (pz J p (tq (J 203) t ((nE (k + 1)).2.1 + 1)) 0 bs (br + 1) ns N (CS ++ (nE (k + 1)).2.2)) := by
          rw [cb]
          exact cm_needY ht ht96 (tq_good (J 203) t _) (e41.mpr c41) (by omega)
        refine mm_aload_n 0 dX12_part_0 rfl rfl ?_
        refine mm_geti dX12_part_1 rfl fk_X12_164 rfl so_200 ?_
        refine mm_top (v := nI (0)) rfl ?_
        refine mm_top (v := 0) rfl ?_
        refine mm_if_eq (tgt := 8) dX12_part_4 (by decide) (fun _ => ?_) (fun q => absurd (by decide) q)
        refine mm_aload_n 0 dX12_part_8 rfl rfl ?_
        refine mm_geti dX12_part_9 rfl fk_X12_142 rfl so_200 ?_
        refine mm_top (v := nI ((tq (J 203) t k).2.2)) rfl ?_
        refine mm_iconst (v := 2) dX12_part_12 rfl ?_
        refine mm_icmp_neN ((tq (J 203) t k).2.2) (2) (tgt := 27) dX12_part_13 (by decide) (by omega) (by omega) (fun c13 => ?_) (fun c13 => ?_)
        · refine mm_aload_n 0 dX12_part_27 rfl rfl ?_
          refine mm_geti dX12_part_28 rfl fk_X12_142 rfl so_200 ?_
          refine mm_top (v := nI ((tq (J 203) t k).2.2)) rfl ?_
          refine mm_iconst (v := 1) dX12_part_31 rfl ?_
          refine mm_icmp_neN ((tq (J 203) t k).2.2) (1) (tgt := 94) dX12_part_32 (by decide) (by omega) (by omega) (fun c32 => ?_) (fun c32 => ?_)
          · refine mm_aload_n 0 dX12_part_94 rfl rfl ?_
            refine mm_bipush (v := 33) dX12_part_95 rfl ?_
            refine mm_cV1i (dz := d - 1) dX12_part_97 rfl mzX12_isSign ml_X12_168 imX12_isSign (by omega) so_200 ⟨rfl, rfl⟩ (cm_isSign ht ht96 hqk) (Nat.le_of_ble_eq_true rfl) ⟨Nat.le_refl _, Nat.le_refl _⟩ ?_
            refine mm_if_eqB (tgt := 150) dX12_part_100 (by decide) (fun c100 => ?_) (fun c100 => ?_)
            · refine mm_aload_n 0 dX12_part_150 rfl rfl ?_
              refine mm_bipush (v := 40) dX12_part_151 rfl ?_
              refine mm_cV1i (dz := d - 1) dX12_part_153 rfl mzX12_isSign ml_X12_168 imX12_isSign (by omega) so_200 ⟨rfl, rfl⟩ (cm_isSign ht ht96 hqk) (Nat.le_of_ble_eq_true rfl) ⟨Nat.le_refl _, Nat.le_refl _⟩ ?_
              refine mm_if_eqB (tgt := 205) dX12_part_156 (by decide) (fun c156 => ?_) (fun c156 => ?_)
              · first | exact absurd hsg c156 | omega
              · refine mm_aload_n 0 dX12_part_159 rfl rfl ?_
                refine mm_geti dX12_part_160 rfl fk_X12_196 rfl so_200 ?_
                refine mm_top (v := nI (br)) rfl ?_
                refine mm_bipush (v := 8) dX12_part_163 rfl ?_
                refine mm_icmp_geN (br) (8) (tgt := 205) dX12_part_165 (by decide) (by omega) (by omega) (fun c165 => ?_) (fun c165 => ?_)
                · first | exact absurd hsg c156 | omega
                · refine mm_aload_n 0 dX12_part_168 rfl rfl ?_
                  refine mm_dup dX12_part_169 rfl ?_
                  refine mm_geti dX12_part_170 rfl fk_X12_196 rfl so_200 ?_
                  refine mm_top (v := nI (br)) rfl ?_
                  refine mm_iconst (v := 1) dX12_part_173 rfl ?_
                  refine mm_iaddN (br) (1) dX12_part_174 ?_
                  refine mm_puti dX12_part_175 rfl fk_X12_196 rfl fv_12_16 so_200 ?_
                  refine mm_mem (J := pz J p (tq (J 203) t k) 0 bs (br + 1) ns N CS) (pz_16 (v := br + 1)) ?_
                  refine mm_aload_n 0 dX12_part_178 rfl rfl ?_
                  refine mm_at (pc' := 179) rfl ?_
                  refine mm_cV0v (dz := d - 1) dX12_part_179 rfl mzX12_next ml_X12_171 imX12_next (by omega) so_200 ⟨rfl, rfl⟩ (cm_nextQ (q := tq (J 203) t k) ht ht96 hqk (by omega)) (Nat.le_of_ble_eq_true rfl) ⟨Nat.le_refl _, Nat.le_refl _⟩ ?_
                  refine mm_aload_n 0 dX12_part_182 rfl rfl ?_
                  refine mm_cV0v (dz := d - 1) dX12_part_183 rfl mzX12_either ml_X12_199 imX12_either (by omega) so_200 ⟨rfl, rfl⟩ (hE hbr (k + 1) CS (d - 1) (by omega) (by omega) (by omega)) (Nat.le_of_ble_eq_true rfl) ⟨Nat.le_refl _, Nat.le_refl _⟩ ?_
                  refine mm_aload_n 0 dX12_part_186 rfl rfl ?_
                  refine mm_bipush (v := 41) dX12_part_187 rfl ?_
                  refine mm_cV1v (dz := d - 1) dX12_part_189 rfl mzX12_need ml_X12_202 imX12_need (by omega) so_200 ⟨rfl, rfl⟩ hnd (Nat.le_of_ble_eq_true rfl) ⟨Nat.le_refl _, Nat.le_refl _⟩ ?_
                  refine mm_aload_n 0 dX12_part_192 rfl rfl ?_
                  refine mm_dup dX12_part_193 rfl ?_
                  refine mm_at (pc' := 194) rfl ?_
                  refine mm_geti dX12_part_194 rfl fk_X12_196 rfl so_200 ?_
                  refine mm_top (v := nI (br + 1)) rfl ?_
                  refine mm_iconst (v := 1) dX12_part_197 rfl ?_
                  refine mm_isubN (br + 1) (1) dX12_part_198 (by omega) ?_
                  refine mm_puti dX12_part_199 rfl fk_X12_196 rfl fv_12_16 so_200 ?_
                  refine mm_mem (J := pz J p (tq (J 203) t ((nE (k + 1)).2.1 + 1)) 0 bs ((br + 1) - 1) ns N (CS ++ (nE (k + 1)).2.2)) (pz_16 (v := (br + 1) - 1)) ?_
                  refine mm_goto (tgt := 210) dX12_part_202 (by decide) ?_
                  refine mm_vret dX12_part_210 rfl ⟨Nat.le_refl _, Nat.le_refl _⟩ ?_
                  exact hq
            · exact absurd (e33.mp c100) (by omega)
          · have := hsg.1; omega
        · have := hsg.1; omega
      · rw [if_neg (fun q => c41 q.2)] at hq
        have hnd : mm_Cv g zX12_need (d - 1) [.ref 200, .int 41] sh_S (pz J p (tq (J 203) t ((nE (k + 1)).2.1)) (fb (nE (k + 1)).1) bs (br + 1) ns N (CS ++ (nE (k + 1)).2.2)) (pz J p (tq (J 203) t ((nE (k + 1)).2.1)) 1 bs (br + 1) ns N (CS ++ (nE (k + 1)).2.2)) := by
          rw [cb]
          exact cm_needN ht ht96 (tq_good (J 203) t _) (fun q => c41 (e41.mp q)) (by omega)
        refine mm_aload_n 0 dX12_part_0 rfl rfl ?_
        refine mm_geti dX12_part_1 rfl fk_X12_164 rfl so_200 ?_
        refine mm_top (v := nI (0)) rfl ?_
        refine mm_top (v := 0) rfl ?_
        refine mm_if_eq (tgt := 8) dX12_part_4 (by decide) (fun _ => ?_) (fun q => absurd (by decide) q)
        refine mm_aload_n 0 dX12_part_8 rfl rfl ?_
        refine mm_geti dX12_part_9 rfl fk_X12_142 rfl so_200 ?_
        refine mm_top (v := nI ((tq (J 203) t k).2.2)) rfl ?_
        refine mm_iconst (v := 2) dX12_part_12 rfl ?_
        refine mm_icmp_neN ((tq (J 203) t k).2.2) (2) (tgt := 27) dX12_part_13 (by decide) (by omega) (by omega) (fun c13 => ?_) (fun c13 => ?_)
        · refine mm_aload_n 0 dX12_part_27 rfl rfl ?_
          refine mm_geti dX12_part_28 rfl fk_X12_142 rfl so_200 ?_
          refine mm_top (v := nI ((tq (J 203) t k).2.2)) rfl ?_
          refine mm_iconst (v := 1) dX12_part_31 rfl ?_
          refine mm_icmp_neN ((tq (J 203) t k).2.2) (1) (tgt := 94) dX12_part_32 (by decide) (by omega) (by omega) (fun c32 => ?_) (fun c32 => ?_)
          · refine mm_aload_n 0 dX12_part_94 rfl rfl ?_
            refine mm_bipush (v := 33) dX12_part_95 rfl ?_
            refine mm_cV1i (dz := d - 1) dX12_part_97 rfl mzX12_isSign ml_X12_168 imX12_isSign (by omega) so_200 ⟨rfl, rfl⟩ (cm_isSign ht ht96 hqk) (Nat.le_of_ble_eq_true rfl) ⟨Nat.le_refl _, Nat.le_refl _⟩ ?_
            refine mm_if_eqB (tgt := 150) dX12_part_100 (by decide) (fun c100 => ?_) (fun c100 => ?_)
            · refine mm_aload_n 0 dX12_part_150 rfl rfl ?_
              refine mm_bipush (v := 40) dX12_part_151 rfl ?_
              refine mm_cV1i (dz := d - 1) dX12_part_153 rfl mzX12_isSign ml_X12_168 imX12_isSign (by omega) so_200 ⟨rfl, rfl⟩ (cm_isSign ht ht96 hqk) (Nat.le_of_ble_eq_true rfl) ⟨Nat.le_refl _, Nat.le_refl _⟩ ?_
              refine mm_if_eqB (tgt := 205) dX12_part_156 (by decide) (fun c156 => ?_) (fun c156 => ?_)
              · first | exact absurd hsg c156 | omega
              · refine mm_aload_n 0 dX12_part_159 rfl rfl ?_
                refine mm_geti dX12_part_160 rfl fk_X12_196 rfl so_200 ?_
                refine mm_top (v := nI (br)) rfl ?_
                refine mm_bipush (v := 8) dX12_part_163 rfl ?_
                refine mm_icmp_geN (br) (8) (tgt := 205) dX12_part_165 (by decide) (by omega) (by omega) (fun c165 => ?_) (fun c165 => ?_)
                · first | exact absurd hsg c156 | omega
                · refine mm_aload_n 0 dX12_part_168 rfl rfl ?_
                  refine mm_dup dX12_part_169 rfl ?_
                  refine mm_geti dX12_part_170 rfl fk_X12_196 rfl so_200 ?_
                  refine mm_top (v := nI (br)) rfl ?_
                  refine mm_iconst (v := 1) dX12_part_173 rfl ?_
                  refine mm_iaddN (br) (1) dX12_part_174 ?_
                  refine mm_puti dX12_part_175 rfl fk_X12_196 rfl fv_12_16 so_200 ?_
                  refine mm_mem (J := pz J p (tq (J 203) t k) 0 bs (br + 1) ns N CS) (pz_16 (v := br + 1)) ?_
                  refine mm_aload_n 0 dX12_part_178 rfl rfl ?_
                  refine mm_at (pc' := 179) rfl ?_
                  refine mm_cV0v (dz := d - 1) dX12_part_179 rfl mzX12_next ml_X12_171 imX12_next (by omega) so_200 ⟨rfl, rfl⟩ (cm_nextQ (q := tq (J 203) t k) ht ht96 hqk (by omega)) (Nat.le_of_ble_eq_true rfl) ⟨Nat.le_refl _, Nat.le_refl _⟩ ?_
                  refine mm_aload_n 0 dX12_part_182 rfl rfl ?_
                  refine mm_cV0v (dz := d - 1) dX12_part_183 rfl mzX12_either ml_X12_199 imX12_either (by omega) so_200 ⟨rfl, rfl⟩ (hE hbr (k + 1) CS (d - 1) (by omega) (by omega) (by omega)) (Nat.le_of_ble_eq_true rfl) ⟨Nat.le_refl _, Nat.le_refl _⟩ ?_
                  refine mm_aload_n 0 dX12_part_186 rfl rfl ?_
                  refine mm_bipush (v := 41) dX12_part_187 rfl ?_
                  refine mm_cV1v (dz := d - 1) dX12_part_189 rfl mzX12_need ml_X12_202 imX12_need (by omega) so_200 ⟨rfl, rfl⟩ hnd (Nat.le_of_ble_eq_true rfl) ⟨Nat.le_refl _, Nat.le_refl _⟩ ?_
                  refine mm_aload_n 0 dX12_part_192 rfl rfl ?_
                  refine mm_dup dX12_part_193 rfl ?_
                  refine mm_at (pc' := 194) rfl ?_
                  refine mm_geti dX12_part_194 rfl fk_X12_196 rfl so_200 ?_
                  refine mm_top (v := nI (br + 1)) rfl ?_
                  refine mm_iconst (v := 1) dX12_part_197 rfl ?_
                  refine mm_isubN (br + 1) (1) dX12_part_198 (by omega) ?_
                  refine mm_puti dX12_part_199 rfl fk_X12_196 rfl fv_12_16 so_200 ?_
                  refine mm_mem (J := pz J p (tq (J 203) t (nE (k + 1)).2.1) 1 bs ((br + 1) - 1) ns N (CS ++ (nE (k + 1)).2.2)) (pz_16 (v := (br + 1) - 1)) ?_
                  refine mm_goto (tgt := 210) dX12_part_202 (by decide) ?_
                  refine mm_vret dX12_part_210 rfl ⟨Nat.le_refl _, Nat.le_refl _⟩ ?_
                  exact hq
            · exact absurd (e33.mp c100) (by omega)
          · have := hsg.1; omega
        · have := hsg.1; omega
    · rw [if_neg (fun q => cb q.1)] at hq
      have hnd : mm_Cv g zX12_need (d - 1) [.ref 200, .int 41] sh_S (pz J p (tq (J 203) t ((nE (k + 1)).2.1)) (fb (nE (k + 1)).1) bs (br + 1) ns N (CS ++ (nE (k + 1)).2.2)) (pz J p (tq (J 203) t ((nE (k + 1)).2.1)) 1 bs (br + 1) ns N (CS ++ (nE (k + 1)).2.2)) := by
        rw [Bool.eq_false_iff.mpr cb]
        exact cm_needF ht ht96 (tq_good (J 203) t _) (by omega)
      refine mm_aload_n 0 dX12_part_0 rfl rfl ?_
      refine mm_geti dX12_part_1 rfl fk_X12_164 rfl so_200 ?_
      refine mm_top (v := nI (0)) rfl ?_
      refine mm_top (v := 0) rfl ?_
      refine mm_if_eq (tgt := 8) dX12_part_4 (by decide) (fun _ => ?_) (fun q => absurd (by decide) q)
      refine mm_aload_n 0 dX12_part_8 rfl rfl ?_
      refine mm_geti dX12_part_9 rfl fk_X12_142 rfl so_200 ?_
      refine mm_top (v := nI ((tq (J 203) t k).2.2)) rfl ?_
      refine mm_iconst (v := 2) dX12_part_12 rfl ?_
      refine mm_icmp_neN ((tq (J 203) t k).2.2) (2) (tgt := 27) dX12_part_13 (by decide) (by omega) (by omega) (fun c13 => ?_) (fun c13 => ?_)
      · refine mm_aload_n 0 dX12_part_27 rfl rfl ?_
        refine mm_geti dX12_part_28 rfl fk_X12_142 rfl so_200 ?_
        refine mm_top (v := nI ((tq (J 203) t k).2.2)) rfl ?_
        refine mm_iconst (v := 1) dX12_part_31 rfl ?_
        refine mm_icmp_neN ((tq (J 203) t k).2.2) (1) (tgt := 94) dX12_part_32 (by decide) (by omega) (by omega) (fun c32 => ?_) (fun c32 => ?_)
        · refine mm_aload_n 0 dX12_part_94 rfl rfl ?_
          refine mm_bipush (v := 33) dX12_part_95 rfl ?_
          refine mm_cV1i (dz := d - 1) dX12_part_97 rfl mzX12_isSign ml_X12_168 imX12_isSign (by omega) so_200 ⟨rfl, rfl⟩ (cm_isSign ht ht96 hqk) (Nat.le_of_ble_eq_true rfl) ⟨Nat.le_refl _, Nat.le_refl _⟩ ?_
          refine mm_if_eqB (tgt := 150) dX12_part_100 (by decide) (fun c100 => ?_) (fun c100 => ?_)
          · refine mm_aload_n 0 dX12_part_150 rfl rfl ?_
            refine mm_bipush (v := 40) dX12_part_151 rfl ?_
            refine mm_cV1i (dz := d - 1) dX12_part_153 rfl mzX12_isSign ml_X12_168 imX12_isSign (by omega) so_200 ⟨rfl, rfl⟩ (cm_isSign ht ht96 hqk) (Nat.le_of_ble_eq_true rfl) ⟨Nat.le_refl _, Nat.le_refl _⟩ ?_
            refine mm_if_eqB (tgt := 205) dX12_part_156 (by decide) (fun c156 => ?_) (fun c156 => ?_)
            · first | exact absurd hsg c156 | omega
            · refine mm_aload_n 0 dX12_part_159 rfl rfl ?_
              refine mm_geti dX12_part_160 rfl fk_X12_196 rfl so_200 ?_
              refine mm_top (v := nI (br)) rfl ?_
              refine mm_bipush (v := 8) dX12_part_163 rfl ?_
              refine mm_icmp_geN (br) (8) (tgt := 205) dX12_part_165 (by decide) (by omega) (by omega) (fun c165 => ?_) (fun c165 => ?_)
              · first | exact absurd hsg c156 | omega
              · refine mm_aload_n 0 dX12_part_168 rfl rfl ?_
                refine mm_dup dX12_part_169 rfl ?_
                refine mm_geti dX12_part_170 rfl fk_X12_196 rfl so_200 ?_
                refine mm_top (v := nI (br)) rfl ?_
                refine mm_iconst (v := 1) dX12_part_173 rfl ?_
                refine mm_iaddN (br) (1) dX12_part_174 ?_
                refine mm_puti dX12_part_175 rfl fk_X12_196 rfl fv_12_16 so_200 ?_
                refine mm_mem (J := pz J p (tq (J 203) t k) 0 bs (br + 1) ns N CS) (pz_16 (v := br + 1)) ?_
                refine mm_aload_n 0 dX12_part_178 rfl rfl ?_
                refine mm_at (pc' := 179) rfl ?_
                refine mm_cV0v (dz := d - 1) dX12_part_179 rfl mzX12_next ml_X12_171 imX12_next (by omega) so_200 ⟨rfl, rfl⟩ (cm_nextQ (q := tq (J 203) t k) ht ht96 hqk (by omega)) (Nat.le_of_ble_eq_true rfl) ⟨Nat.le_refl _, Nat.le_refl _⟩ ?_
                refine mm_aload_n 0 dX12_part_182 rfl rfl ?_
                refine mm_cV0v (dz := d - 1) dX12_part_183 rfl mzX12_either ml_X12_199 imX12_either (by omega) so_200 ⟨rfl, rfl⟩ (hE hbr (k + 1) CS (d - 1) (by omega) (by omega) (by omega)) (Nat.le_of_ble_eq_true rfl) ⟨Nat.le_refl _, Nat.le_refl _⟩ ?_
                refine mm_aload_n 0 dX12_part_186 rfl rfl ?_
                refine mm_bipush (v := 41) dX12_part_187 rfl ?_
                refine mm_cV1v (dz := d - 1) dX12_part_189 rfl mzX12_need ml_X12_202 imX12_need (by omega) so_200 ⟨rfl, rfl⟩ hnd (Nat.le_of_ble_eq_true rfl) ⟨Nat.le_refl _, Nat.le_refl _⟩ ?_
                refine mm_aload_n 0 dX12_part_192 rfl rfl ?_
                refine mm_dup dX12_part_193 rfl ?_
                refine mm_at (pc' := 194) rfl ?_
                refine mm_geti dX12_part_194 rfl fk_X12_196 rfl so_200 ?_
                refine mm_top (v := nI (br + 1)) rfl ?_
                refine mm_iconst (v := 1) dX12_part_197 rfl ?_
                refine mm_isubN (br + 1) (1) dX12_part_198 (by omega) ?_
                refine mm_puti dX12_part_199 rfl fk_X12_196 rfl fv_12_16 so_200 ?_
                refine mm_mem (J := pz J p (tq (J 203) t (nE (k + 1)).2.1) 1 bs ((br + 1) - 1) ns N (CS ++ (nE (k + 1)).2.2)) (pz_16 (v := (br + 1) - 1)) ?_
                refine mm_goto (tgt := 210) dX12_part_202 (by decide) ?_
                refine mm_vret dX12_part_210 rfl ⟨Nat.le_refl _, Nat.le_refl _⟩ ?_
                exact hq
          · exact absurd (e33.mp c100) (by omega)
        · have := hsg.1; omega
      · have := hsg.1; omega
  rw [px5, if_neg (by omega), if_neg cC, if_neg cD] at hq
  have n1 : ¬ (tq (J 203) t k).2.2 = 2 := fun q => cA ((tK_401 hB).mpr q)
  refine mm_aload_n 0 dX12_part_0 rfl rfl ?_
  refine mm_geti dX12_part_1 rfl fk_X12_164 rfl so_200 ?_
  refine mm_top (v := nI (0)) rfl ?_
  refine mm_top (v := 0) rfl ?_
  refine mm_if_eq (tgt := 8) dX12_part_4 (by decide) (fun _ => ?_) (fun q => absurd (by decide) q)
  refine mm_aload_n 0 dX12_part_8 rfl rfl ?_
  refine mm_geti dX12_part_9 rfl fk_X12_142 rfl so_200 ?_
  refine mm_top (v := nI ((tq (J 203) t k).2.2)) rfl ?_
  refine mm_iconst (v := 2) dX12_part_12 rfl ?_
  refine mm_icmp_neN ((tq (J 203) t k).2.2) (2) (tgt := 27) dX12_part_13 (by decide) (by omega) (by omega) (fun c13 => ?_) (fun c13 => ?_)
  · refine mm_aload_n 0 dX12_part_27 rfl rfl ?_
    refine mm_geti dX12_part_28 rfl fk_X12_142 rfl so_200 ?_
    refine mm_top (v := nI ((tq (J 203) t k).2.2)) rfl ?_
    refine mm_iconst (v := 1) dX12_part_31 rfl ?_
    refine mm_icmp_neN ((tq (J 203) t k).2.2) (1) (tgt := 94) dX12_part_32 (by decide) (by omega) (by omega) (fun c32 => ?_) (fun c32 => ?_)
    · refine mm_aload_n 0 dX12_part_94 rfl rfl ?_
      refine mm_bipush (v := 33) dX12_part_95 rfl ?_
      refine mm_cV1i (dz := d - 1) dX12_part_97 rfl mzX12_isSign ml_X12_168 imX12_isSign (by omega) so_200 ⟨rfl, rfl⟩ (cm_isSign ht ht96 hqk) (Nat.le_of_ble_eq_true rfl) ⟨Nat.le_refl _, Nat.le_refl _⟩ ?_
      refine mm_if_eqB (tgt := 150) dX12_part_100 (by decide) (fun c100 => ?_) (fun c100 => ?_)
      · refine mm_aload_n 0 dX12_part_150 rfl rfl ?_
        refine mm_bipush (v := 40) dX12_part_151 rfl ?_
        refine mm_cV1i (dz := d - 1) dX12_part_153 rfl mzX12_isSign ml_X12_168 imX12_isSign (by omega) so_200 ⟨rfl, rfl⟩ (cm_isSign ht ht96 hqk) (Nat.le_of_ble_eq_true rfl) ⟨Nat.le_refl _, Nat.le_refl _⟩ ?_
        refine mm_if_eqB (tgt := 205) dX12_part_156 (by decide) (fun c156 => ?_) (fun c156 => ?_)
        · refine mm_aload_n 0 dX12_part_205 rfl rfl ?_
          refine mm_iconst (v := 1) dX12_part_206 rfl ?_
          refine mm_putz dX12_part_207 rfl fk_X12_164 rfl fv_12_14 (by decide) so_200 ?_
          refine mm_mem (J := pz J p (tq (J 203) t k) 1 bs br ns N CS) (pz_14 (v := 1)) ?_
          refine mm_vret dX12_part_210 rfl ⟨Nat.le_refl _, Nat.le_refl _⟩ ?_
          rw [List.append_nil] at hq
          exact hq
        · refine mm_aload_n 0 dX12_part_159 rfl rfl ?_
          refine mm_geti dX12_part_160 rfl fk_X12_196 rfl so_200 ?_
          refine mm_top (v := nI (br)) rfl ?_
          refine mm_bipush (v := 8) dX12_part_163 rfl ?_
          refine mm_icmp_geN (br) (8) (tgt := 205) dX12_part_165 (by decide) (by omega) (by omega) (fun c165 => ?_) (fun c165 => ?_)
          · refine mm_aload_n 0 dX12_part_205 rfl rfl ?_
            refine mm_iconst (v := 1) dX12_part_206 rfl ?_
            refine mm_putz dX12_part_207 rfl fk_X12_164 rfl fv_12_14 (by decide) so_200 ?_
            refine mm_mem (J := pz J p (tq (J 203) t k) 1 bs br ns N CS) (pz_14 (v := 1)) ?_
            refine mm_vret dX12_part_210 rfl ⟨Nat.le_refl _, Nat.le_refl _⟩ ?_
            rw [List.append_nil] at hq
            exact hq
          · exact absurd ⟨e40.mp c156, by omega⟩ cD
      · refine mm_aload_n 0 dX12_part_103 rfl rfl ?_
        refine mm_geti dX12_part_104 rfl fk_X12_190 rfl so_200 ?_
        refine mm_top (v := nI (ns)) rfl ?_
        refine mm_bipush (v := 8) dX12_part_107 rfl ?_
        refine mm_icmp_geN (ns) (8) (tgt := 150) dX12_part_109 (by decide) (by omega) (by omega) (fun c109 => ?_) (fun c109 => ?_)
        · refine mm_aload_n 0 dX12_part_150 rfl rfl ?_
          refine mm_bipush (v := 40) dX12_part_151 rfl ?_
          refine mm_cV1i (dz := d - 1) dX12_part_153 rfl mzX12_isSign ml_X12_168 imX12_isSign (by omega) so_200 ⟨rfl, rfl⟩ (cm_isSign ht ht96 hqk) (Nat.le_of_ble_eq_true rfl) ⟨Nat.le_refl _, Nat.le_refl _⟩ ?_
          refine mm_if_eqB (tgt := 205) dX12_part_156 (by decide) (fun c156 => ?_) (fun c156 => ?_)
          · refine mm_aload_n 0 dX12_part_205 rfl rfl ?_
            refine mm_iconst (v := 1) dX12_part_206 rfl ?_
            refine mm_putz dX12_part_207 rfl fk_X12_164 rfl fv_12_14 (by decide) so_200 ?_
            refine mm_mem (J := pz J p (tq (J 203) t k) 1 bs br ns N CS) (pz_14 (v := 1)) ?_
            refine mm_vret dX12_part_210 rfl ⟨Nat.le_refl _, Nat.le_refl _⟩ ?_
            rw [List.append_nil] at hq
            exact hq
          · refine mm_aload_n 0 dX12_part_159 rfl rfl ?_
            refine mm_geti dX12_part_160 rfl fk_X12_196 rfl so_200 ?_
            refine mm_top (v := nI (br)) rfl ?_
            refine mm_bipush (v := 8) dX12_part_163 rfl ?_
            refine mm_icmp_geN (br) (8) (tgt := 205) dX12_part_165 (by decide) (by omega) (by omega) (fun c165 => ?_) (fun c165 => ?_)
            · refine mm_aload_n 0 dX12_part_205 rfl rfl ?_
              refine mm_iconst (v := 1) dX12_part_206 rfl ?_
              refine mm_putz dX12_part_207 rfl fk_X12_164 rfl fv_12_14 (by decide) so_200 ?_
              refine mm_mem (J := pz J p (tq (J 203) t k) 1 bs br ns N CS) (pz_14 (v := 1)) ?_
              refine mm_vret dX12_part_210 rfl ⟨Nat.le_refl _, Nat.le_refl _⟩ ?_
              rw [List.append_nil] at hq
              exact hq
            · exact absurd ⟨e40.mp c156, by omega⟩ cD
        · exact absurd ⟨e33.mp c100, by omega⟩ cC
    · refine mm_aload_n 0 dX12_part_35 rfl rfl ?_
      refine mm_geti dX12_part_36 rfl fk_X12_145 rfl so_200 ?_
      refine mm_top (v := nI ((tq (J 203) t k).2.1)) rfl ?_
      refine mm_aload_n 0 dX12_part_39 rfl rfl ?_
      refine mm_geti dX12_part_40 rfl fk_X12_148 rfl so_200 ?_
      refine mm_top (v := nI ((tq (J 203) t k).1)) rfl ?_
      refine mm_isubN ((tq (J 203) t k).2.1) ((tq (J 203) t k).1) dX12_part_43 (by omega) ?_
      refine mm_iconst (v := 1) dX12_part_44 rfl ?_
      refine mm_icmp_neN (((tq (J 203) t k).2.1) - ((tq (J 203) t k).1)) (1) (tgt := 94) dX12_part_45 (by decide) (by omega) (by omega) (fun c45 => ?_) (fun c45 => ?_)
      · refine mm_aload_n 0 dX12_part_94 rfl rfl ?_
        refine mm_bipush (v := 33) dX12_part_95 rfl ?_
        refine mm_cV1i (dz := d - 1) dX12_part_97 rfl mzX12_isSign ml_X12_168 imX12_isSign (by omega) so_200 ⟨rfl, rfl⟩ (cm_isSign ht ht96 hqk) (Nat.le_of_ble_eq_true rfl) ⟨Nat.le_refl _, Nat.le_refl _⟩ ?_
        refine mm_if_eqB (tgt := 150) dX12_part_100 (by decide) (fun c100 => ?_) (fun c100 => ?_)
        · refine mm_aload_n 0 dX12_part_150 rfl rfl ?_
          refine mm_bipush (v := 40) dX12_part_151 rfl ?_
          refine mm_cV1i (dz := d - 1) dX12_part_153 rfl mzX12_isSign ml_X12_168 imX12_isSign (by omega) so_200 ⟨rfl, rfl⟩ (cm_isSign ht ht96 hqk) (Nat.le_of_ble_eq_true rfl) ⟨Nat.le_refl _, Nat.le_refl _⟩ ?_
          refine mm_if_eqB (tgt := 205) dX12_part_156 (by decide) (fun c156 => ?_) (fun c156 => ?_)
          · refine mm_aload_n 0 dX12_part_205 rfl rfl ?_
            refine mm_iconst (v := 1) dX12_part_206 rfl ?_
            refine mm_putz dX12_part_207 rfl fk_X12_164 rfl fv_12_14 (by decide) so_200 ?_
            refine mm_mem (J := pz J p (tq (J 203) t k) 1 bs br ns N CS) (pz_14 (v := 1)) ?_
            refine mm_vret dX12_part_210 rfl ⟨Nat.le_refl _, Nat.le_refl _⟩ ?_
            rw [List.append_nil] at hq
            exact hq
          · refine mm_aload_n 0 dX12_part_159 rfl rfl ?_
            refine mm_geti dX12_part_160 rfl fk_X12_196 rfl so_200 ?_
            refine mm_top (v := nI (br)) rfl ?_
            refine mm_bipush (v := 8) dX12_part_163 rfl ?_
            refine mm_icmp_geN (br) (8) (tgt := 205) dX12_part_165 (by decide) (by omega) (by omega) (fun c165 => ?_) (fun c165 => ?_)
            · refine mm_aload_n 0 dX12_part_205 rfl rfl ?_
              refine mm_iconst (v := 1) dX12_part_206 rfl ?_
              refine mm_putz dX12_part_207 rfl fk_X12_164 rfl fv_12_14 (by decide) so_200 ?_
              refine mm_mem (J := pz J p (tq (J 203) t k) 1 bs br ns N CS) (pz_14 (v := 1)) ?_
              refine mm_vret dX12_part_210 rfl ⟨Nat.le_refl _, Nat.le_refl _⟩ ?_
              rw [List.append_nil] at hq
              exact hq
            · exact absurd ⟨e40.mp c156, by omega⟩ cD
        · refine mm_aload_n 0 dX12_part_103 rfl rfl ?_
          refine mm_geti dX12_part_104 rfl fk_X12_190 rfl so_200 ?_
          refine mm_top (v := nI (ns)) rfl ?_
          refine mm_bipush (v := 8) dX12_part_107 rfl ?_
          refine mm_icmp_geN (ns) (8) (tgt := 150) dX12_part_109 (by decide) (by omega) (by omega) (fun c109 => ?_) (fun c109 => ?_)
          · refine mm_aload_n 0 dX12_part_150 rfl rfl ?_
            refine mm_bipush (v := 40) dX12_part_151 rfl ?_
            refine mm_cV1i (dz := d - 1) dX12_part_153 rfl mzX12_isSign ml_X12_168 imX12_isSign (by omega) so_200 ⟨rfl, rfl⟩ (cm_isSign ht ht96 hqk) (Nat.le_of_ble_eq_true rfl) ⟨Nat.le_refl _, Nat.le_refl _⟩ ?_
            refine mm_if_eqB (tgt := 205) dX12_part_156 (by decide) (fun c156 => ?_) (fun c156 => ?_)
            · refine mm_aload_n 0 dX12_part_205 rfl rfl ?_
              refine mm_iconst (v := 1) dX12_part_206 rfl ?_
              refine mm_putz dX12_part_207 rfl fk_X12_164 rfl fv_12_14 (by decide) so_200 ?_
              refine mm_mem (J := pz J p (tq (J 203) t k) 1 bs br ns N CS) (pz_14 (v := 1)) ?_
              refine mm_vret dX12_part_210 rfl ⟨Nat.le_refl _, Nat.le_refl _⟩ ?_
              rw [List.append_nil] at hq
              exact hq
            · refine mm_aload_n 0 dX12_part_159 rfl rfl ?_
              refine mm_geti dX12_part_160 rfl fk_X12_196 rfl so_200 ?_
              refine mm_top (v := nI (br)) rfl ?_
              refine mm_bipush (v := 8) dX12_part_163 rfl ?_
              refine mm_icmp_geN (br) (8) (tgt := 205) dX12_part_165 (by decide) (by omega) (by omega) (fun c165 => ?_) (fun c165 => ?_)
              · refine mm_aload_n 0 dX12_part_205 rfl rfl ?_
                refine mm_iconst (v := 1) dX12_part_206 rfl ?_
                refine mm_putz dX12_part_207 rfl fk_X12_164 rfl fv_12_14 (by decide) so_200 ?_
                refine mm_mem (J := pz J p (tq (J 203) t k) 1 bs br ns N CS) (pz_14 (v := 1)) ?_
                refine mm_vret dX12_part_210 rfl ⟨Nat.le_refl _, Nat.le_refl _⟩ ?_
                rw [List.append_nil] at hq
                exact hq
              · exact absurd ⟨e40.mp c156, by omega⟩ cD
          · exact absurd ⟨e33.mp c100, by omega⟩ cC
      · obtain ⟨b, hb, eb⟩ := hB.2 (tq (J 203) t k).1 (by have := hq5 (by omega); omega)
        have hI : ∀ I', mm_Ci g zJ0_indexOf_0f7a4 (d - 1) [.ref (mm_KB + (5 + 12)), .int (nI b)] sh_S I' (nm_ix b) I' := fun I' => ct_ix (g := g) (S := sh_S) (I := I') (b := b) (d := d - 1) hb (by omega)
        refine mm_ldcS (t := 12) (tx := "ckwsdibtxy") dX12_part_48 rfl (by decide) ?_
        refine mm_aload_n 0 dX12_part_50 rfl rfl ?_
        refine mm_getr (b := 203) dX12_part_51 rfl fk_X12_16 rfl so_200 sr_200_3 ?_
        refine mm_aload_n 0 dX12_part_54 rfl rfl ?_
        refine mm_geti dX12_part_55 rfl fk_X12_148 rfl so_200 ?_
        refine mm_top (v := nI ((tq (J 203) t k).1)) rfl ?_
        refine mm_ialdN ((tq (J 203) t k).1) dX12_part_58 sa_203 (by omega) (by omega) ?_
        refine mm_top (v := J 203 ((tq (J 203) t k).1)) rfl ?_
        refine mm_top (v := nI b) eb ?_
        refine mm_cT1i (t := 12) (dz := d - 1) dX12_part_59 rfl mzJ0_indexOf_0f7a4 ml_X12_187 imJ0_indexOf_0f7a4 (by omega) (by decide) rfl (hI _) (Nat.le_of_ble_eq_true rfl) ⟨Nat.le_refl _, Nat.le_refl _⟩ ?_
        refine mm_at (pc' := 62) rfl ?_
        refine mm_if_lt (tgt := 94) dX12_part_62 (by decide) (fun c62 => ?_) (fun c62 => ?_)
        · refine mm_aload_n 0 dX12_part_94 rfl rfl ?_
          refine mm_bipush (v := 33) dX12_part_95 rfl ?_
          refine mm_cV1i (dz := d - 1) dX12_part_97 rfl mzX12_isSign ml_X12_168 imX12_isSign (by omega) so_200 ⟨rfl, rfl⟩ (cm_isSign ht ht96 hqk) (Nat.le_of_ble_eq_true rfl) ⟨Nat.le_refl _, Nat.le_refl _⟩ ?_
          refine mm_if_eqB (tgt := 150) dX12_part_100 (by decide) (fun c100 => ?_) (fun c100 => ?_)
          · refine mm_aload_n 0 dX12_part_150 rfl rfl ?_
            refine mm_bipush (v := 40) dX12_part_151 rfl ?_
            refine mm_cV1i (dz := d - 1) dX12_part_153 rfl mzX12_isSign ml_X12_168 imX12_isSign (by omega) so_200 ⟨rfl, rfl⟩ (cm_isSign ht ht96 hqk) (Nat.le_of_ble_eq_true rfl) ⟨Nat.le_refl _, Nat.le_refl _⟩ ?_
            refine mm_if_eqB (tgt := 205) dX12_part_156 (by decide) (fun c156 => ?_) (fun c156 => ?_)
            · refine mm_aload_n 0 dX12_part_205 rfl rfl ?_
              refine mm_iconst (v := 1) dX12_part_206 rfl ?_
              refine mm_putz dX12_part_207 rfl fk_X12_164 rfl fv_12_14 (by decide) so_200 ?_
              refine mm_mem (J := pz J p (tq (J 203) t k) 1 bs br ns N CS) (pz_14 (v := 1)) ?_
              refine mm_vret dX12_part_210 rfl ⟨Nat.le_refl _, Nat.le_refl _⟩ ?_
              rw [List.append_nil] at hq
              exact hq
            · refine mm_aload_n 0 dX12_part_159 rfl rfl ?_
              refine mm_geti dX12_part_160 rfl fk_X12_196 rfl so_200 ?_
              refine mm_top (v := nI (br)) rfl ?_
              refine mm_bipush (v := 8) dX12_part_163 rfl ?_
              refine mm_icmp_geN (br) (8) (tgt := 205) dX12_part_165 (by decide) (by omega) (by omega) (fun c165 => ?_) (fun c165 => ?_)
              · refine mm_aload_n 0 dX12_part_205 rfl rfl ?_
                refine mm_iconst (v := 1) dX12_part_206 rfl ?_
                refine mm_putz dX12_part_207 rfl fk_X12_164 rfl fv_12_14 (by decide) so_200 ?_
                refine mm_mem (J := pz J p (tq (J 203) t k) 1 bs br ns N CS) (pz_14 (v := 1)) ?_
                refine mm_vret dX12_part_210 rfl ⟨Nat.le_refl _, Nat.le_refl _⟩ ?_
                rw [List.append_nil] at hq
                exact hq
              · exact absurd ⟨e40.mp c156, by omega⟩ cD
          · refine mm_aload_n 0 dX12_part_103 rfl rfl ?_
            refine mm_geti dX12_part_104 rfl fk_X12_190 rfl so_200 ?_
            refine mm_top (v := nI (ns)) rfl ?_
            refine mm_bipush (v := 8) dX12_part_107 rfl ?_
            refine mm_icmp_geN (ns) (8) (tgt := 150) dX12_part_109 (by decide) (by omega) (by omega) (fun c109 => ?_) (fun c109 => ?_)
            · refine mm_aload_n 0 dX12_part_150 rfl rfl ?_
              refine mm_bipush (v := 40) dX12_part_151 rfl ?_
              refine mm_cV1i (dz := d - 1) dX12_part_153 rfl mzX12_isSign ml_X12_168 imX12_isSign (by omega) so_200 ⟨rfl, rfl⟩ (cm_isSign ht ht96 hqk) (Nat.le_of_ble_eq_true rfl) ⟨Nat.le_refl _, Nat.le_refl _⟩ ?_
              refine mm_if_eqB (tgt := 205) dX12_part_156 (by decide) (fun c156 => ?_) (fun c156 => ?_)
              · refine mm_aload_n 0 dX12_part_205 rfl rfl ?_
                refine mm_iconst (v := 1) dX12_part_206 rfl ?_
                refine mm_putz dX12_part_207 rfl fk_X12_164 rfl fv_12_14 (by decide) so_200 ?_
                refine mm_mem (J := pz J p (tq (J 203) t k) 1 bs br ns N CS) (pz_14 (v := 1)) ?_
                refine mm_vret dX12_part_210 rfl ⟨Nat.le_refl _, Nat.le_refl _⟩ ?_
                rw [List.append_nil] at hq
                exact hq
              · refine mm_aload_n 0 dX12_part_159 rfl rfl ?_
                refine mm_geti dX12_part_160 rfl fk_X12_196 rfl so_200 ?_
                refine mm_top (v := nI (br)) rfl ?_
                refine mm_bipush (v := 8) dX12_part_163 rfl ?_
                refine mm_icmp_geN (br) (8) (tgt := 205) dX12_part_165 (by decide) (by omega) (by omega) (fun c165 => ?_) (fun c165 => ?_)
                · refine mm_aload_n 0 dX12_part_205 rfl rfl ?_
                  refine mm_iconst (v := 1) dX12_part_206 rfl ?_
                  refine mm_putz dX12_part_207 rfl fk_X12_164 rfl fv_12_14 (by decide) so_200 ?_
                  refine mm_mem (J := pz J p (tq (J 203) t k) 1 bs br ns N CS) (pz_14 (v := 1)) ?_
                  refine mm_vret dX12_part_210 rfl ⟨Nat.le_refl _, Nat.le_refl _⟩ ?_
                  rw [List.append_nil] at hq
                  exact hq
                · exact absurd ⟨e40.mp c156, by omega⟩ cD
            · exact absurd ⟨e33.mp c100, by omega⟩ cC
        · exact absurd ((tK_402 hB).mpr ⟨c32, c45, by rw [eb, vv_nI (by omega)]; exact Int32.not_lt.mp c62⟩) cB
  · omega
def zl : Nat → mm_M
  | 0 => zX12_either
  | 1 => zX12_both
  | 2 => zX12_test
  | 3 => zX12_sum
  | 4 => zX12_term
  | _ => zX12_part
def fu (l br ns : Nat) : Nat := 7 * (8 - br) + (8 - ns) + (6 - l)
theorem cm_px {g : mm_G} {J : mm_I} {p t : Nat} (ht : J 200 4 = nI t) (ht96 : t ≤ 96) (hB : tp_ok (J 203) t) (hrd : J 200 18 = nI p) (hp : p < 6) {bs : Nat} {N : Nat → Int32} : ∀ (F l br ns : Nat), l ≤ 5 → br ≤ 8 → ns ≤ 8 → fu l br ns ≤ F → ∀ (k : Nat) (CS : List Nat) (d : Nat), F + 6 ≤ d → CS.length ≤ k → k ≤ t → mm_Cv g (zl l) d [.ref 200] sh_S (pz J p (tq (J 203) t k) 0 bs br ns N CS) (pz J p (tq (J 203) t ((px (tK (J 203) t) (tV (J 203) t) F l br ns k).2.1)) (fb (px (tK (J 203) t) (tV (J 203) t) F l br ns k).1) bs br ns N (CS ++ (px (tK (J 203) t) (tV (J 203) t) F l br ns k).2.2)) := by
  intro F
  induction F with
  | zero => intro l br ns h1 h2 h3 h4; exfalso; unfold fu at h4; omega
  | succ F ih =>
    intro l br ns h1 h2 h3 h4 k CS d hd hl hk
    unfold fu at h4
    have hg := fun l br ns k => px_good (K := (tK (J 203) t)) (V := (tV (J 203) t)) F l br ns k
    by_cases c5 : l = 5
    · subst c5
      have e : px (tK (J 203) t) (tV (J 203) t) (F + 1) 5 br ns k = px5 (tK (J 203) t) (tV (J 203) t) (px (tK (J 203) t) (tV (J 203) t) F 5 br (ns + 1)) (px (tK (J 203) t) (tV (J 203) t) F 0 (br + 1) ns) br ns k := by
        rw [px, if_neg (by omega)]; rfl
      rw [e]
      exact cm_lv5 ht ht96 hB hrd hp (hg 5 br (ns + 1)) (hg 0 (br + 1) ns) (dd := F + 6) (by omega) h2 h3 (fun h => ih 5 br (ns + 1) (by omega) h2 (by omega) (by unfold fu; omega)) (fun h => ih 0 (br + 1) ns (by omega) (by omega) h3 (by unfold fu; omega)) k CS d (by omega) hl hk
    · have hN := ih (l + 1) br ns (by omega) h2 h3 (by unfold fu; omega)
      have e : px (tK (J 203) t) (tV (J 203) t) (F + 1) l br ns k = px_lp (tK (J 203) t) (px (tK (J 203) t) (tV (J 203) t) F (l + 1) br ns) l (if l = 2 then 1 else 96) (px (tK (J 203) t) (tV (J 203) t) F (l + 1) br ns k) := by
        rw [px, if_pos (by omega)]
      rw [e]
      rcases (show l = 0 ∨ l = 1 ∨ l = 2 ∨ l = 3 ∨ l = 4 by omega) with rfl | rfl | rfl | rfl | rfl
      · exact cm_lv0 ht ht96 hB hrd hp (hg 1 br ns) (dd := F + 6) (by omega) hN k CS d (by omega) hl hk
      · exact cm_lv1 ht ht96 hB hrd hp (hg 2 br ns) (dd := F + 6) (by omega) hN k CS d (by omega) hl hk
      · exact cm_lv2 ht ht96 hB hrd hp (hg 3 br ns) (dd := F + 6) (by omega) hN k CS d (by omega) hl hk
      · exact cm_lv3 ht ht96 hB hrd hp (hg 4 br ns) (dd := F + 6) (by omega) hN k CS d (by omega) hl hk
      · exact cm_lv4 ht ht96 hB hrd hp (hg 5 br ns) (dd := F + 6) (by omega) hN k CS d (by omega) hl hk
