/-! THE REFERENCE'S READER: one step -/
theorem r_op_pre {T : Nat → Int32} {t p n o f0 : Nat} (hB : tp_ok T t) (ho : o < 11) {S : rS} (h : r0_ t p S) (hc : S.2.2.2.1.length + 1 ≤ S.2.1) (h3 : 3 * (S.2.2.2.2 - 1) ≤ f0) (hf : f0 + (mm_sx o).length ≤ (tq T t S.2.1).1) : (o = 10 → r1_ T t p (r_nu (tK T t) (tV T t) p 1 n S)) ∧ (o = 8 ∨ o = 9 → r1_ T t p (r_ex (tK T t) (tV T t) p n S)) := by
  have hl := tx_4 o ho
  constructor
  · intro c10
    have l0 := hl.2.2.2.2.2 c10
    obtain ⟨g, gk, g1⟩ := r_nu_good (f := 1) (n := n) hB h
    have := tq_le (T := T) (t := t) gk
    exact ⟨g, fun _ => by show 3 * S.2.2.2.2 ≤ _; omega⟩
  · intro c
    obtain ⟨g, gk, g1⟩ := r_ex_good (n := n) hB h hc
    have hmo := tq_le (T := T) (t := t) gk
    have en : (r_ex (tK T t) (tV T t) p n S).2.2.2.2 = S.2.2.2.2 := rfl
    rcases c with c | c
    · have l0 := hl.2.2.2.1 c
      exact ⟨g, fun hh => by have := g1 hh; omega⟩
    · have l0 := hl.2.2.2.2.1 c
      exact ⟨g, fun _ => by omega⟩
set_option maxRecDepth 100000 in
set_option maxHeartbeats 600000 in
theorem cm_one {g : mm_G} {J : mm_I}  {p t : Nat} (ht : J 200 4 = nI t) (ht96 : t ≤ 96) (hB : tp_ok (J 203) t) (hrd : J 200 18 = nI p) (hp : p < 6) {D bs dd : Nat} (hD : bs + D = 4) (hd0 : 80 ≤ dd) {row : Int32 → rS → Int32 × rS} (hR : 0 < D → RowOK (J 203) t p row) (hRow : 0 < D → ∀ (ab : Int32) (S : rS) (d : Nat), S.1 = true → r1_ (J 203) t p S → dd ≤ d → mm_Ci g zX12_rowOfSteps d [.ref 200, .int ab] sh_S (rz J p t (bs + 1) S) (row ab S).1 (rz J p t (bs + 1) (row ab S).2)) : ∀ (ab : Int32) (S : rS) (d : Nat), S.1 = true → r1_ (J 203) t p S → dd + 2 ≤ d → mm_Ci g zX12_oneStep d [.ref 200, .int ab] sh_S (rz J p t bs S) (r_one (tK (J 203) t) (tV (J 203) t) p D row ab S).1 (rz J p t bs (r_one (tK (J 203) t) (tV (J 203) t) p D row ab S).2) := by
  rintro ab ⟨b, k, N, CS, n⟩ d hb hS hd
  replace hb : b = true := hb
  subst hb
  obtain ⟨⟨h1, h2, h3, h4⟩, h5⟩ := id hS
  replace h1 : k ≤ t := h1
  replace h2 : CS.length ≤ k := h2
  replace h3 : N (1226 + 418 * p) = nI n := h3
  replace h5 : 3 * n ≤ (tq (J 203) t k).1 := h5 rfl
  refine mm_Ci_of (fun Q hq => ?_)
  refine mm_begin (ls := [(0, .ref 200), (1, .int (ab))]) (Nat.le_of_ble_eq_true rfl) rfl rfl ?_
  have hqk := tq_good (J 203) t k
  have hbr := cm_br (g := g) ht ht96 hB hrd hp hD hd0 hR hRow
  refine mm_mem (J := pz J p (tq (J 203) t k) 0 bs 0 0 N CS) rfl ?_
  unfold r_one at hq
  by_cases c : isW (tK (J 203) t k)
  · rw [if_pos (show isW (tK (J 203) t k) from c)] at hq
    replace hq : Q (some (.int (nI n))) sh_S (rz J p t bs (r_op (tK (J 203) t) (tV (J 203) t) p D row n (tK (J 203) t k - 300) (true, k + 1, r_new p N n (tK (J 203) t k - 300) ab, CS, n + 1))) := hq
    have hlt := tK_lt hB (k := k) (by omega)
    have hw := tK_word hB c
    have hst := tq_step hB (k := k) (by omega)
    have hq2 := hqk.2.1
    have hn31 : n < 32 := by omega
    have ho11 : tK (J 203) t k - 300 < 11 := by omega
    obtain ⟨q10, q89⟩ := r_op_pre (n := n) (o := tK (J 203) t k - 300) (p := p) (f0 := (tq (J 203) t k).1) hB ho11 (S := (true, k + 1, r_new p N n (tK (J 203) t k - 300) ab, CS, n + 1)) ⟨hlt, Nat.le_succ_of_le h2, r_new_B, by show n + 1 ≤ 32; omega⟩ (by show CS.length + 1 ≤ k + 1; omega) (by show 3 * (n + 1 - 1) ≤ _; omega) (by show _ ≤ (tq (J 203) t (k + 1)).1; omega)
    have hwh := cm_wordHere (g := g) (J := J) (d := d - 1) (p := p) (fl := 0) (bs := bs) (br := 0) (ns := 0) (N := N) (CS := CS) ht ht96 hqk (by omega)
    rw [hw.1] at hwh
    generalize tK (J 203) t k - 300 = o at hq hwh q10 q89 ho11
    refine mm_aload_n 0 dX12_oneStep_0 rfl rfl ?_
    refine mm_geti dX12_oneStep_1 rfl fk_X12_164 rfl so_200 ?_
    refine mm_top (v := nI (0)) rfl ?_
    refine mm_top (v := 0) rfl ?_
    refine mm_if_eq (tgt := 11) dX12_oneStep_4 (by decide) (fun _ => ?_) (fun q => absurd (by decide) q)
    refine mm_aload_n 0 dX12_oneStep_11 rfl rfl ?_
    refine mm_cV0i (dz := d - 1) dX12_oneStep_12 rfl mzX12_wordHere ml_X12_236 imX12_wordHere (by omega) so_200 ⟨rfl, rfl⟩ hwh (Nat.le_of_ble_eq_true rfl) ⟨Nat.le_refl _, Nat.le_refl _⟩ ?_
    refine mm_istore_n (ls' := [(2, .int (nI (o))), (0, .ref 200), (1, .int (ab))]) dX12_oneStep_15 rfl (by decide) rfl ?_
    refine mm_iload_n 0 dX12_oneStep_16 rfl rfl ?_
    refine mm_if_geN (o) (tgt := 27) dX12_oneStep_17 (by decide) (by omega) ?_
    refine mm_sipush (v := 1226) dX12_oneStep_27 rfl ?_
    refine mm_sipush (v := 418) dX12_oneStep_30 rfl ?_
    refine mm_aload_n 1 dX12_oneStep_33 rfl rfl ?_
    refine mm_geti dX12_oneStep_34 rfl fk_X12_174 rfl so_200 ?_
    refine mm_top (v := nI (p)) hrd ?_
    refine mm_imulN (418) (p) dX12_oneStep_37 ?_
    refine mm_iaddN (1226) (418 * p) dX12_oneStep_38 ?_
    refine mm_istore_n (ls' := [(3, .int (nI (1226 + (418 * p)))), (2, .int (nI (o))), (0, .ref 200), (1, .int (ab))]) dX12_oneStep_39 rfl (by decide) rfl ?_
    refine mm_aload_n 2 dX12_oneStep_40 rfl rfl ?_
    refine mm_at (pc' := 41) rfl ?_
    refine mm_getr (b := 201) dX12_oneStep_41 rfl fk_X12_9 rfl so_200 sr_200_0 ?_
    refine mm_iload_n 0 dX12_oneStep_44 rfl rfl ?_
    refine mm_ialdN (1226 + (418 * p)) dX12_oneStep_45 sa_201 (by omega) (by omega) ?_
    refine mm_top (v := N (1226 + (418 * p))) (nc_n (by omega)) ?_
    refine mm_top (v := nI (n)) h3 ?_
    refine mm_istore (ls' := [(4, .int (nI (n))), (3, .int (nI (1226 + (418 * p)))), (2, .int (nI (o))), (0, .ref 200), (1, .int (ab))]) dX12_oneStep_46 (by decide) rfl ?_
    refine mm_aload_n 3 dX12_oneStep_48 rfl rfl ?_
    refine mm_getr (b := 201) dX12_oneStep_49 rfl fk_X12_9 rfl so_200 sr_200_0 ?_
    refine mm_iload_n 1 dX12_oneStep_52 rfl rfl ?_
    refine mm_dup2 dX12_oneStep_53 rfl rfl ?_
    refine mm_at (pc' := 54) rfl ?_
    refine mm_ialdN (1226 + (418 * p)) dX12_oneStep_54 sa_201 (by omega) (by omega) ?_
    refine mm_top (v := N (1226 + (418 * p))) (nc_n (by omega)) ?_
    refine mm_top (v := nI (n)) h3 ?_
    refine mm_iconst (v := 1) dX12_oneStep_55 rfl ?_
    refine mm_iaddN (n) (1) dX12_oneStep_56 ?_
    refine mm_iastN (1226 + (418 * p)) dX12_oneStep_57 sa_201 (by omega) (by omega) ?_
    refine mm_mem (J := pz J p (tq (J 203) t k) 0 bs 0 0 (upd N (1226 + (418 * p)) (nI (n + 1))) CS) (pz_r (nc_up (by omega))) ?_
    refine mm_aload_n 3 dX12_oneStep_58 rfl rfl ?_
    refine mm_getr (b := 201) dX12_oneStep_59 rfl fk_X12_9 rfl so_200 sr_200_0 ?_
    refine mm_aload_n 3 dX12_oneStep_62 rfl rfl ?_
    refine mm_iload 0 dX12_oneStep_63 rfl ?_
    refine mm_at (pc' := 65) rfl ?_
    refine mm_iconst (v := 0) dX12_oneStep_65 rfl ?_
    refine mm_cV2i (dz := d - 1) dX12_oneStep_66 rfl mzX12_step ml_X12_220 imX12_step (by omega) so_200 ⟨rfl, rfl⟩ (cm_step (J := pz J p (tq (J 203) t k) 0 bs 0 0 (upd N (1226 + (418 * p)) (nI (n + 1))) CS) hrd (n) (0)) (Nat.le_of_ble_eq_true rfl) ⟨Nat.le_refl _, Nat.le_refl _⟩ ?_
    refine mm_iload_n 2 dX12_oneStep_69 rfl rfl ?_
    refine mm_iastN (1226 + 418 * p + 1 + 8 * n + 0) dX12_oneStep_70 sa_201 (by omega) (by omega) ?_
    refine mm_mem (J := pz J p (tq (J 203) t k) 0 bs 0 0 (sw p (upd N (1226 + (418 * p)) (nI (n + 1))) n 0 (nI (o))) CS) (pz_r (nc_up (by omega))) ?_
    refine mm_aload_n 3 dX12_oneStep_71 rfl rfl ?_
    refine mm_getr (b := 201) dX12_oneStep_72 rfl fk_X12_9 rfl so_200 sr_200_0 ?_
    refine mm_aload_n 3 dX12_oneStep_75 rfl rfl ?_
    refine mm_iload 0 dX12_oneStep_76 rfl ?_
    refine mm_at (pc' := 78) rfl ?_
    refine mm_iconst (v := 4) dX12_oneStep_78 rfl ?_
    refine mm_cV2i (dz := d - 1) dX12_oneStep_79 rfl mzX12_step ml_X12_220 imX12_step (by omega) so_200 ⟨rfl, rfl⟩ (cm_step (J := pz J p (tq (J 203) t k) 0 bs 0 0 (sw p (upd N (1226 + (418 * p)) (nI (n + 1))) n 0 (nI (o))) CS) hrd (n) (4)) (Nat.le_of_ble_eq_true rfl) ⟨Nat.le_refl _, Nat.le_refl _⟩ ?_
    refine mm_iconst (v := -1) dX12_oneStep_82 rfl ?_
    refine mm_iastN (1226 + 418 * p + 1 + 8 * n + 4) dX12_oneStep_83 sa_201 (by omega) (by omega) ?_
    refine mm_mem (J := pz J p (tq (J 203) t k) 0 bs 0 0 (sw p (sw p (upd N (1226 + (418 * p)) (nI (n + 1))) n 0 (nI (o))) n 4 (-1)) CS) (pz_r (nc_up (by omega))) ?_
    refine mm_aload_n 3 dX12_oneStep_84 rfl rfl ?_
    refine mm_getr (b := 201) dX12_oneStep_85 rfl fk_X12_9 rfl so_200 sr_200_0 ?_
    refine mm_aload_n 3 dX12_oneStep_88 rfl rfl ?_
    refine mm_iload 0 dX12_oneStep_89 rfl ?_
    refine mm_at (pc' := 91) rfl ?_
    refine mm_iconst (v := 5) dX12_oneStep_91 rfl ?_
    refine mm_cV2i (dz := d - 1) dX12_oneStep_92 rfl mzX12_step ml_X12_220 imX12_step (by omega) so_200 ⟨rfl, rfl⟩ (cm_step (J := pz J p (tq (J 203) t k) 0 bs 0 0 (sw p (sw p (upd N (1226 + (418 * p)) (nI (n + 1))) n 0 (nI (o))) n 4 (-1)) CS) hrd (n) (5)) (Nat.le_of_ble_eq_true rfl) ⟨Nat.le_refl _, Nat.le_refl _⟩ ?_
    refine mm_iconst (v := -1) dX12_oneStep_95 rfl ?_
    refine mm_iastN (1226 + 418 * p + 1 + 8 * n + 5) dX12_oneStep_96 sa_201 (by omega) (by omega) ?_
    refine mm_mem (J := pz J p (tq (J 203) t k) 0 bs 0 0 (sw p (sw p (sw p (upd N (1226 + (418 * p)) (nI (n + 1))) n 0 (nI (o))) n 4 (-1)) n 5 (-1)) CS) (pz_r (nc_up (by omega))) ?_
    refine mm_aload_n 3 dX12_oneStep_97 rfl rfl ?_
    refine mm_getr (b := 201) dX12_oneStep_98 rfl fk_X12_9 rfl so_200 sr_200_0 ?_
    refine mm_aload_n 3 dX12_oneStep_101 rfl rfl ?_
    refine mm_iload 0 dX12_oneStep_102 rfl ?_
    refine mm_at (pc' := 104) rfl ?_
    refine mm_bipush (v := 6) dX12_oneStep_104 rfl ?_
    refine mm_cV2i (dz := d - 1) dX12_oneStep_106 rfl mzX12_step ml_X12_220 imX12_step (by omega) so_200 ⟨rfl, rfl⟩ (cm_step (J := pz J p (tq (J 203) t k) 0 bs 0 0 (sw p (sw p (sw p (upd N (1226 + (418 * p)) (nI (n + 1))) n 0 (nI (o))) n 4 (-1)) n 5 (-1)) CS) hrd (n) (6)) (Nat.le_of_ble_eq_true rfl) ⟨Nat.le_refl _, Nat.le_refl _⟩ ?_
    refine mm_iconst (v := -1) dX12_oneStep_109 rfl ?_
    refine mm_iastN (1226 + 418 * p + 1 + 8 * n + 6) dX12_oneStep_110 sa_201 (by omega) (by omega) ?_
    refine mm_mem (J := pz J p (tq (J 203) t k) 0 bs 0 0 (sw p (sw p (sw p (sw p (upd N (1226 + (418 * p)) (nI (n + 1))) n 0 (nI (o))) n 4 (-1)) n 5 (-1)) n 6 (-1)) CS) (pz_r (nc_up (by omega))) ?_
    refine mm_aload_n 3 dX12_oneStep_111 rfl rfl ?_
    refine mm_getr (b := 201) dX12_oneStep_112 rfl fk_X12_9 rfl so_200 sr_200_0 ?_
    refine mm_aload_n 3 dX12_oneStep_115 rfl rfl ?_
    refine mm_iload 0 dX12_oneStep_116 rfl ?_
    refine mm_at (pc' := 118) rfl ?_
    refine mm_bipush (v := 7) dX12_oneStep_118 rfl ?_
    refine mm_cV2i (dz := d - 1) dX12_oneStep_120 rfl mzX12_step ml_X12_220 imX12_step (by omega) so_200 ⟨rfl, rfl⟩ (cm_step (J := pz J p (tq (J 203) t k) 0 bs 0 0 (sw p (sw p (sw p (sw p (upd N (1226 + (418 * p)) (nI (n + 1))) n 0 (nI (o))) n 4 (-1)) n 5 (-1)) n 6 (-1)) CS) hrd (n) (7)) (Nat.le_of_ble_eq_true rfl) ⟨Nat.le_refl _, Nat.le_refl _⟩ ?_
    refine mm_iload_n 4 dX12_oneStep_123 rfl rfl ?_
    refine mm_iastN (1226 + 418 * p + 1 + 8 * n + 7) dX12_oneStep_124 sa_201 (by omega) (by omega) ?_
    refine mm_mem (J := pz J p (tq (J 203) t k) 0 bs 0 0 (sw p (sw p (sw p (sw p (sw p (upd N (1226 + (418 * p)) (nI (n + 1))) n 0 (nI (o))) n 4 (-1)) n 5 (-1)) n 6 (-1)) n 7 ab) CS) (pz_r (nc_up (by omega))) ?_
    refine mm_aload_n 3 dX12_oneStep_125 rfl rfl ?_
    refine mm_cV0v (dz := d - 1) dX12_oneStep_126 rfl mzX12_next ml_X12_171 imX12_next (by omega) so_200 ⟨rfl, rfl⟩ (cm_nextQ (q := tq (J 203) t k) ht ht96 hqk (by omega)) (Nat.le_of_ble_eq_true rfl) ⟨Nat.le_refl _, Nat.le_refl _⟩ ?_
    refine mm_mem (J := pz J p (tq (J 203) t (k + 1)) 0 bs 0 0 (r_new p N n o ab) CS) rfl ?_
    generalize r_new p N n o ab = M at hq q10 q89 ⊢
    unfold r_op at hq
    by_cases c0 : o = 0
    · subst c0
      rw [if_pos rfl] at hq
      refine mm_iload_n 2 dX12_oneStep_129 rfl rfl ?_
      refine mm_if_eq (tgt := 139) dX12_oneStep_130 (by decide) (fun _ => ?_) (fun q => absurd (by decide) q)
      refine mm_aload_n 3 dX12_oneStep_139 rfl rfl ?_
      refine mm_getr (b := 201) dX12_oneStep_140 rfl fk_X12_9 rfl so_200 sr_200_0 ?_
      refine mm_aload_n 3 dX12_oneStep_143 rfl rfl ?_
      refine mm_iload 0 dX12_oneStep_144 rfl ?_
      refine mm_iconst (v := 1) dX12_oneStep_146 rfl ?_
      refine mm_cV2i (dz := d - 1) dX12_oneStep_147 rfl mzX12_step ml_X12_220 imX12_step (by omega) so_200 ⟨rfl, rfl⟩ (cm_step (J := pz J p (tq (J 203) t (k + 1)) 0 bs 0 0 M CS) hrd (n) (1)) (Nat.le_of_ble_eq_true rfl) ⟨Nat.le_refl _, Nat.le_refl _⟩ ?_
      refine mm_aload_n 3 dX12_oneStep_150 rfl rfl ?_
      refine mm_cV0i (dz := d - 1) dX12_oneStep_151 rfl mzX12_number ml_X12_179 imX12_number (by omega) so_200 ⟨rfl, rfl⟩ (cm_num (b := true) (k := k + 1) ht ht96 hB hrd hp (by omega)) (Nat.le_of_ble_eq_true rfl) ⟨Nat.le_refl _, Nat.le_refl _⟩ ?_
      refine mm_at (pc' := 154) rfl ?_
      refine mm_iastN (1226 + 418 * p + 1 + 8 * n + 1) dX12_oneStep_154 sa_201 (by omega) (by omega) ?_
      refine mm_mem (J := pz J p (tq (J 203) t (rn_ (tK (J 203) t) (tV (J 203) t) true (k + 1)).2.2) (fb (rn_ (tK (J 203) t) (tV (J 203) t) true (k + 1)).2.1) bs 0 0 (sw p M n 1 (nI ((rn_ (tK (J 203) t) (tV (J 203) t) true (k + 1)).1))) CS) (pz_r (nc_up (by omega))) ?_
      refine mm_iload_n 2 dX12_oneStep_155 rfl rfl ?_
      refine mm_if_ne (tgt := 175) dX12_oneStep_156 (by decide) (fun q => absurd q (by decide)) (fun _ => ?_)
      refine mm_aload_n 3 dX12_oneStep_159 rfl rfl ?_
      refine mm_getr (b := 201) dX12_oneStep_160 rfl fk_X12_9 rfl so_200 sr_200_0 ?_
      refine mm_aload_n 3 dX12_oneStep_163 rfl rfl ?_
      refine mm_iload 0 dX12_oneStep_164 rfl ?_
      refine mm_iconst (v := 2) dX12_oneStep_166 rfl ?_
      refine mm_cV2i (dz := d - 1) dX12_oneStep_167 rfl mzX12_step ml_X12_220 imX12_step (by omega) so_200 ⟨rfl, rfl⟩ (cm_step (J := pz J p (tq (J 203) t (rn_ (tK (J 203) t) (tV (J 203) t) true (k + 1)).2.2) (fb (rn_ (tK (J 203) t) (tV (J 203) t) true (k + 1)).2.1) bs 0 0 (sw p M n 1 (nI ((rn_ (tK (J 203) t) (tV (J 203) t) true (k + 1)).1))) CS) hrd (n) (2)) (Nat.le_of_ble_eq_true rfl) ⟨Nat.le_refl _, Nat.le_refl _⟩ ?_
      refine mm_aload_n 3 dX12_oneStep_170 rfl rfl ?_
      refine mm_cV0i (dz := d - 1) dX12_oneStep_171 rfl mzX12_number ml_X12_179 imX12_number (by omega) so_200 ⟨rfl, rfl⟩ (cm_num (b := (rn_ (tK (J 203) t) (tV (J 203) t) true (k + 1)).2.1) (k := (rn_ (tK (J 203) t) (tV (J 203) t) true (k + 1)).2.2) ht ht96 hB hrd hp (by omega)) (Nat.le_of_ble_eq_true rfl) ⟨Nat.le_refl _, Nat.le_refl _⟩ ?_
      refine mm_at (pc' := 174) rfl ?_
      refine mm_iastN (1226 + 418 * p + 1 + 8 * n + 2) dX12_oneStep_174 sa_201 (by omega) (by omega) ?_
      refine mm_mem (J := pz J p (tq (J 203) t (rn_ (tK (J 203) t) (tV (J 203) t) (rn_ (tK (J 203) t) (tV (J 203) t) true (k + 1)).2.1 (rn_ (tK (J 203) t) (tV (J 203) t) true (k + 1)).2.2).2.2) (fb (rn_ (tK (J 203) t) (tV (J 203) t) (rn_ (tK (J 203) t) (tV (J 203) t) true (k + 1)).2.1 (rn_ (tK (J 203) t) (tV (J 203) t) true (k + 1)).2.2).2.1) bs 0 0 (sw p (sw p M n 1 (nI ((rn_ (tK (J 203) t) (tV (J 203) t) true (k + 1)).1))) n 2 (nI ((rn_ (tK (J 203) t) (tV (J 203) t) (rn_ (tK (J 203) t) (tV (J 203) t) true (k + 1)).2.1 (rn_ (tK (J 203) t) (tV (J 203) t) true (k + 1)).2.2).1))) CS) (pz_r (nc_up (by omega))) ?_
      refine mm_iload_n 2 dX12_oneStep_175 rfl rfl ?_
      refine mm_bipush (v := 7) dX12_oneStep_176 rfl ?_
      refine mm_icmp_eq (tgt := 193) dX12_oneStep_178 (by decide) (fun q => absurd q (by decide)) (fun _ => ?_)
      refine mm_iload_n 2 dX12_oneStep_181 rfl rfl ?_
      refine mm_bipush (v := 8) dX12_oneStep_182 rfl ?_
      refine mm_icmp_eq (tgt := 193) dX12_oneStep_184 (by decide) (fun q => absurd q (by decide)) (fun _ => ?_)
      refine mm_iload_n 2 dX12_oneStep_187 rfl rfl ?_
      refine mm_bipush (v := 9) dX12_oneStep_188 rfl ?_
      refine mm_icmp_ne (tgt := 199) dX12_oneStep_190 (by decide) (fun _ => ?_) (fun q => absurd q (by decide))
      refine mm_iload_n 2 dX12_oneStep_199 rfl rfl ?_
      refine mm_bipush (v := 8) dX12_oneStep_200 rfl ?_
      refine mm_icmp_lt (tgt := 223) dX12_oneStep_202 (by decide) (fun _ => ?_) (fun q => absurd (by decide) q)
      refine mm_iload_n 2 dX12_oneStep_223 rfl rfl ?_
      refine mm_bipush (v := 8) dX12_oneStep_224 rfl ?_
      refine mm_icmp_ne (tgt := 267) dX12_oneStep_226 (by decide) (fun _ => ?_) (fun q => absurd q (by decide))
      refine mm_iload 0 dX12_oneStep_267 rfl ?_
      refine mm_iret dX12_oneStep_269 rfl ⟨Nat.le_refl _, Nat.le_refl _⟩ ?_
      exact hq
    rw [if_neg c0] at hq
    by_cases c10 : o = 10
    · subst c10
      rw [if_pos rfl, r_bd] at hq
      have hbr2 := hbr n (r_nu (tK (J 203) t) (tV (J 203) t) p 1 n (true, k + 1, M, CS, n + 1)) (d - 1) (by omega) (q10 rfl)
      generalize r_br (tK (J 203) t) D row n (r_nu (tK (J 203) t) (tV (J 203) t) p 1 n (true, k + 1, M, CS, n + 1)) = R at hq hbr2
      refine mm_iload_n 2 dX12_oneStep_129 rfl rfl ?_
      refine mm_if_eq (tgt := 139) dX12_oneStep_130 (by decide) (fun q => absurd q (by decide)) (fun _ => ?_)
      refine mm_iload_n 2 dX12_oneStep_133 rfl rfl ?_
      refine mm_bipush (v := 10) dX12_oneStep_134 rfl ?_
      refine mm_icmp_ne (tgt := 155) dX12_oneStep_136 (by decide) (fun q => absurd q (by decide)) (fun _ => ?_)
      refine mm_aload_n 3 dX12_oneStep_139 rfl rfl ?_
      refine mm_getr (b := 201) dX12_oneStep_140 rfl fk_X12_9 rfl so_200 sr_200_0 ?_
      refine mm_aload_n 3 dX12_oneStep_143 rfl rfl ?_
      refine mm_iload 0 dX12_oneStep_144 rfl ?_
      refine mm_iconst (v := 1) dX12_oneStep_146 rfl ?_
      refine mm_cV2i (dz := d - 1) dX12_oneStep_147 rfl mzX12_step ml_X12_220 imX12_step (by omega) so_200 ⟨rfl, rfl⟩ (cm_step (J := pz J p (tq (J 203) t (k + 1)) 0 bs 0 0 M CS) hrd (n) (1)) (Nat.le_of_ble_eq_true rfl) ⟨Nat.le_refl _, Nat.le_refl _⟩ ?_
      refine mm_aload_n 3 dX12_oneStep_150 rfl rfl ?_
      refine mm_cV0i (dz := d - 1) dX12_oneStep_151 rfl mzX12_number ml_X12_179 imX12_number (by omega) so_200 ⟨rfl, rfl⟩ (cm_num (b := true) (k := k + 1) ht ht96 hB hrd hp (by omega)) (Nat.le_of_ble_eq_true rfl) ⟨Nat.le_refl _, Nat.le_refl _⟩ ?_
      refine mm_at (pc' := 154) rfl ?_
      refine mm_iastN (1226 + 418 * p + 1 + 8 * n + 1) dX12_oneStep_154 sa_201 (by omega) (by omega) ?_
      refine mm_mem (J := pz J p (tq (J 203) t (rn_ (tK (J 203) t) (tV (J 203) t) true (k + 1)).2.2) (fb (rn_ (tK (J 203) t) (tV (J 203) t) true (k + 1)).2.1) bs 0 0 (sw p M n 1 (nI ((rn_ (tK (J 203) t) (tV (J 203) t) true (k + 1)).1))) CS) (pz_r (nc_up (by omega))) ?_
      refine mm_iload_n 2 dX12_oneStep_155 rfl rfl ?_
      refine mm_if_ne (tgt := 175) dX12_oneStep_156 (by decide) (fun _ => ?_) (fun q => absurd q (by decide))
      refine mm_iload_n 2 dX12_oneStep_175 rfl rfl ?_
      refine mm_bipush (v := 7) dX12_oneStep_176 rfl ?_
      refine mm_icmp_eq (tgt := 193) dX12_oneStep_178 (by decide) (fun q => absurd q (by decide)) (fun _ => ?_)
      refine mm_iload_n 2 dX12_oneStep_181 rfl rfl ?_
      refine mm_bipush (v := 8) dX12_oneStep_182 rfl ?_
      refine mm_icmp_eq (tgt := 193) dX12_oneStep_184 (by decide) (fun q => absurd q (by decide)) (fun _ => ?_)
      refine mm_iload_n 2 dX12_oneStep_187 rfl rfl ?_
      refine mm_bipush (v := 9) dX12_oneStep_188 rfl ?_
      refine mm_icmp_ne (tgt := 199) dX12_oneStep_190 (by decide) (fun _ => ?_) (fun q => absurd q (by decide))
      refine mm_iload_n 2 dX12_oneStep_199 rfl rfl ?_
      refine mm_bipush (v := 8) dX12_oneStep_200 rfl ?_
      refine mm_icmp_lt (tgt := 223) dX12_oneStep_202 (by decide) (fun q => absurd q (by decide)) (fun _ => ?_)
      refine mm_aload_n 3 dX12_oneStep_205 rfl rfl ?_
      refine mm_getr (b := 201) dX12_oneStep_206 rfl fk_X12_9 rfl so_200 sr_200_0 ?_
      refine mm_aload_n 3 dX12_oneStep_209 rfl rfl ?_
      refine mm_iload 0 dX12_oneStep_210 rfl ?_
      refine mm_iconst (v := 4) dX12_oneStep_212 rfl ?_
      refine mm_cV2i (dz := d - 1) dX12_oneStep_213 rfl mzX12_step ml_X12_220 imX12_step (by omega) so_200 ⟨rfl, rfl⟩ (cm_step (J := pz J p (tq (J 203) t (rn_ (tK (J 203) t) (tV (J 203) t) true (k + 1)).2.2) (fb (rn_ (tK (J 203) t) (tV (J 203) t) true (k + 1)).2.1) bs 0 0 (sw p M n 1 (nI ((rn_ (tK (J 203) t) (tV (J 203) t) true (k + 1)).1))) CS) hrd (n) (4)) (Nat.le_of_ble_eq_true rfl) ⟨Nat.le_refl _, Nat.le_refl _⟩ ?_
      refine mm_aload_n 3 dX12_oneStep_216 rfl rfl ?_
      refine mm_iload 0 dX12_oneStep_217 rfl ?_
      refine mm_at (pc' := 219) rfl ?_
      refine mm_cV1i (dz := d - 1) dX12_oneStep_219 rfl mzX12_inBraces ml_X12_242 imX12_inBraces (by omega) so_200 ⟨rfl, rfl⟩ hbr2 (Nat.le_of_ble_eq_true rfl) ⟨Nat.le_refl _, Nat.le_refl _⟩ ?_
      refine mm_iastN (1226 + 418 * p + 1 + 8 * n + 4) dX12_oneStep_222 sa_201 (by omega) (by omega) ?_
      refine mm_mem (J := pz J p (tq (J 203) t R.2.2.1) (fb R.2.1) bs 0 0 (sw p R.2.2.2.1 n 4 R.1) R.2.2.2.2.1) (pz_r (nc_up (by omega))) ?_
      refine mm_iload_n 2 dX12_oneStep_223 rfl rfl ?_
      refine mm_bipush (v := 8) dX12_oneStep_224 rfl ?_
      refine mm_icmp_ne (tgt := 267) dX12_oneStep_226 (by decide) (fun _ => ?_) (fun q => absurd q (by decide))
      refine mm_iload 0 dX12_oneStep_267 rfl ?_
      refine mm_iret dX12_oneStep_269 rfl ⟨Nat.le_refl _, Nat.le_refl _⟩ ?_
      exact hq
    rw [if_neg c10] at hq
    by_cases c7 : o = 7
    · subst c7
      rw [if_pos rfl] at hq
      refine mm_iload_n 2 dX12_oneStep_129 rfl rfl ?_
      refine mm_if_eq (tgt := 139) dX12_oneStep_130 (by decide) (fun q => absurd q (by decide)) (fun _ => ?_)
      refine mm_iload_n 2 dX12_oneStep_133 rfl rfl ?_
      refine mm_bipush (v := 10) dX12_oneStep_134 rfl ?_
      refine mm_icmp_ne (tgt := 155) dX12_oneStep_136 (by decide) (fun _ => ?_) (fun q => absurd q (by decide))
      refine mm_iload_n 2 dX12_oneStep_155 rfl rfl ?_
      refine mm_if_ne (tgt := 175) dX12_oneStep_156 (by decide) (fun _ => ?_) (fun q => absurd q (by decide))
      refine mm_iload_n 2 dX12_oneStep_175 rfl rfl ?_
      refine mm_bipush (v := 7) dX12_oneStep_176 rfl ?_
      refine mm_icmp_eq (tgt := 193) dX12_oneStep_178 (by decide) (fun _ => ?_) (fun q => absurd (by decide) q)
      refine mm_aload_n 3 dX12_oneStep_193 rfl rfl ?_
      refine mm_iload 0 dX12_oneStep_194 rfl ?_
      refine mm_cV1v (dz := d - 1) dX12_oneStep_196 rfl mzX12_expression ml_X12_239 imX12_expression (by omega) so_200 ⟨rfl, rfl⟩ (cm_expr (k := k + 1) ht ht96 hB hrd hp (by omega) (by omega) hn31 (by omega)) (Nat.le_of_ble_eq_true rfl) ⟨Nat.le_refl _, Nat.le_refl _⟩ ?_
      refine mm_iload_n 2 dX12_oneStep_199 rfl rfl ?_
      refine mm_bipush (v := 8) dX12_oneStep_200 rfl ?_
      refine mm_icmp_lt (tgt := 223) dX12_oneStep_202 (by decide) (fun _ => ?_) (fun q => absurd (by decide) q)
      refine mm_iload_n 2 dX12_oneStep_223 rfl rfl ?_
      refine mm_bipush (v := 8) dX12_oneStep_224 rfl ?_
      refine mm_icmp_ne (tgt := 267) dX12_oneStep_226 (by decide) (fun _ => ?_) (fun q => absurd q (by decide))
      refine mm_iload 0 dX12_oneStep_267 rfl ?_
      refine mm_iret dX12_oneStep_269 rfl ⟨Nat.le_refl _, Nat.le_refl _⟩ ?_
      exact hq
    rw [if_neg c7] at hq
    by_cases c9 : o = 9
    · subst c9
      rw [if_pos rfl, r_bd] at hq
      have hbr2 := hbr n (r_ex (tK (J 203) t) (tV (J 203) t) p n (true, k + 1, M, CS, n + 1)) (d - 1) (by omega) (q89 (Or.inr rfl))
      generalize r_br (tK (J 203) t) D row n (r_ex (tK (J 203) t) (tV (J 203) t) p n (true, k + 1, M, CS, n + 1)) = R at hq hbr2
      refine mm_iload_n 2 dX12_oneStep_129 rfl rfl ?_
      refine mm_if_eq (tgt := 139) dX12_oneStep_130 (by decide) (fun q => absurd q (by decide)) (fun _ => ?_)
      refine mm_iload_n 2 dX12_oneStep_133 rfl rfl ?_
      refine mm_bipush (v := 10) dX12_oneStep_134 rfl ?_
      refine mm_icmp_ne (tgt := 155) dX12_oneStep_136 (by decide) (fun _ => ?_) (fun q => absurd q (by decide))
      refine mm_iload_n 2 dX12_oneStep_155 rfl rfl ?_
      refine mm_if_ne (tgt := 175) dX12_oneStep_156 (by decide) (fun _ => ?_) (fun q => absurd q (by decide))
      refine mm_iload_n 2 dX12_oneStep_175 rfl rfl ?_
      refine mm_bipush (v := 7) dX12_oneStep_176 rfl ?_
      refine mm_icmp_eq (tgt := 193) dX12_oneStep_178 (by decide) (fun q => absurd q (by decide)) (fun _ => ?_)
      refine mm_iload_n 2 dX12_oneStep_181 rfl rfl ?_
      refine mm_bipush (v := 8) dX12_oneStep_182 rfl ?_
      refine mm_icmp_eq (tgt := 193) dX12_oneStep_184 (by decide) (fun q => absurd q (by decide)) (fun _ => ?_)
      refine mm_iload_n 2 dX12_oneStep_187 rfl rfl ?_
      refine mm_bipush (v := 9) dX12_oneStep_188 rfl ?_
      refine mm_icmp_ne (tgt := 199) dX12_oneStep_190 (by decide) (fun q => absurd q (by decide)) (fun _ => ?_)
      refine mm_aload_n 3 dX12_oneStep_193 rfl rfl ?_
      refine mm_iload 0 dX12_oneStep_194 rfl ?_
      refine mm_cV1v (dz := d - 1) dX12_oneStep_196 rfl mzX12_expression ml_X12_239 imX12_expression (by omega) so_200 ⟨rfl, rfl⟩ (cm_expr (k := k + 1) ht ht96 hB hrd hp (by omega) (by omega) hn31 (by omega)) (Nat.le_of_ble_eq_true rfl) ⟨Nat.le_refl _, Nat.le_refl _⟩ ?_
      refine mm_iload_n 2 dX12_oneStep_199 rfl rfl ?_
      refine mm_bipush (v := 8) dX12_oneStep_200 rfl ?_
      refine mm_icmp_lt (tgt := 223) dX12_oneStep_202 (by decide) (fun q => absurd q (by decide)) (fun _ => ?_)
      refine mm_aload_n 3 dX12_oneStep_205 rfl rfl ?_
      refine mm_getr (b := 201) dX12_oneStep_206 rfl fk_X12_9 rfl so_200 sr_200_0 ?_
      refine mm_aload_n 3 dX12_oneStep_209 rfl rfl ?_
      refine mm_iload 0 dX12_oneStep_210 rfl ?_
      refine mm_iconst (v := 4) dX12_oneStep_212 rfl ?_
      refine mm_cV2i (dz := d - 1) dX12_oneStep_213 rfl mzX12_step ml_X12_220 imX12_step (by omega) so_200 ⟨rfl, rfl⟩ (cm_step (J := pz J p (tq (J 203) t (px (tK (J 203) t) (tV (J 203) t) 70 0 0 0 (k + 1)).2.1) (fb (px (tK (J 203) t) (tV (J 203) t) 70 0 0 0 (k + 1)).1) bs 0 0 (sw p M n 3 (nI CS.length)) ((CS ++ (px (tK (J 203) t) (tV (J 203) t) 70 0 0 0 (k + 1)).2.2) ++ [30000])) hrd (n) (4)) (Nat.le_of_ble_eq_true rfl) ⟨Nat.le_refl _, Nat.le_refl _⟩ ?_
      refine mm_aload_n 3 dX12_oneStep_216 rfl rfl ?_
      refine mm_iload 0 dX12_oneStep_217 rfl ?_
      refine mm_at (pc' := 219) rfl ?_
      refine mm_cV1i (dz := d - 1) dX12_oneStep_219 rfl mzX12_inBraces ml_X12_242 imX12_inBraces (by omega) so_200 ⟨rfl, rfl⟩ hbr2 (Nat.le_of_ble_eq_true rfl) ⟨Nat.le_refl _, Nat.le_refl _⟩ ?_
      refine mm_iastN (1226 + 418 * p + 1 + 8 * n + 4) dX12_oneStep_222 sa_201 (by omega) (by omega) ?_
      refine mm_mem (J := pz J p (tq (J 203) t R.2.2.1) (fb R.2.1) bs 0 0 (sw p R.2.2.2.1 n 4 R.1) R.2.2.2.2.1) (pz_r (nc_up (by omega))) ?_
      refine mm_iload_n 2 dX12_oneStep_223 rfl rfl ?_
      refine mm_bipush (v := 8) dX12_oneStep_224 rfl ?_
      refine mm_icmp_ne (tgt := 267) dX12_oneStep_226 (by decide) (fun _ => ?_) (fun q => absurd q (by decide))
      refine mm_iload 0 dX12_oneStep_267 rfl ?_
      refine mm_iret dX12_oneStep_269 rfl ⟨Nat.le_refl _, Nat.le_refl _⟩ ?_
      exact hq
    rw [if_neg c9] at hq
    by_cases c8 : o = 8
    · subst c8
      rw [if_pos rfl] at hq
      have hbr2 := hbr n (r_ex (tK (J 203) t) (tV (J 203) t) p n (true, k + 1, M, CS, n + 1)) (d - 1) (by omega) (q89 (Or.inl rfl))
      obtain ⟨hgd, -⟩ := r_bd_good (f := 4) (n := n) hB hR (q89 (Or.inl rfl))
      unfold r_bd at hq hgd
      generalize r_br (tK (J 203) t) D row n (r_ex (tK (J 203) t) (tV (J 203) t) p n (true, k + 1, M, CS, n + 1)) = R at hq hbr2 hgd
      obtain ⟨R0, Rb, Rk, RN, RC, Rn⟩ := R
      replace hgd : r1_ (J 203) t p (Rb, Rk, sw p RN n 4 R0, RC, Rn) := hgd
      have hqr := tq_good (J 203) t Rk
      have e403 := tK_else (k := Rk) hB
      unfold r_el at hq
      replace hq : Q (some (.int (nI n))) sh_S (rz J p t bs (if Rb = true ∧ tK (J 203) t Rk = 403 then r_bd (tK (J 203) t) p D row 5 n (true, Rk + 1, sw p RN n 4 R0, RC, Rn) else (Rb, Rk, sw p RN n 4 R0, RC, Rn))) := hq
      cases Rb with
      | false =>
        rw [if_neg (by rintro ⟨q, -⟩; exact absurd q (by decide))] at hq
        refine mm_iload_n 2 dX12_oneStep_129 rfl rfl ?_
        refine mm_if_eq (tgt := 139) dX12_oneStep_130 (by decide) (fun q => absurd q (by decide)) (fun _ => ?_)
        refine mm_iload_n 2 dX12_oneStep_133 rfl rfl ?_
        refine mm_bipush (v := 10) dX12_oneStep_134 rfl ?_
        refine mm_icmp_ne (tgt := 155) dX12_oneStep_136 (by decide) (fun _ => ?_) (fun q => absurd q (by decide))
        refine mm_iload_n 2 dX12_oneStep_155 rfl rfl ?_
        refine mm_if_ne (tgt := 175) dX12_oneStep_156 (by decide) (fun _ => ?_) (fun q => absurd q (by decide))
        refine mm_iload_n 2 dX12_oneStep_175 rfl rfl ?_
        refine mm_bipush (v := 7) dX12_oneStep_176 rfl ?_
        refine mm_icmp_eq (tgt := 193) dX12_oneStep_178 (by decide) (fun q => absurd q (by decide)) (fun _ => ?_)
        refine mm_iload_n 2 dX12_oneStep_181 rfl rfl ?_
        refine mm_bipush (v := 8) dX12_oneStep_182 rfl ?_
        refine mm_icmp_eq (tgt := 193) dX12_oneStep_184 (by decide) (fun _ => ?_) (fun q => absurd (by decide) q)
        refine mm_aload_n 3 dX12_oneStep_193 rfl rfl ?_
        refine mm_iload 0 dX12_oneStep_194 rfl ?_
        refine mm_cV1v (dz := d - 1) dX12_oneStep_196 rfl mzX12_expression ml_X12_239 imX12_expression (by omega) so_200 ⟨rfl, rfl⟩ (cm_expr (k := k + 1) ht ht96 hB hrd hp (by omega) (by omega) hn31 (by omega)) (Nat.le_of_ble_eq_true rfl) ⟨Nat.le_refl _, Nat.le_refl _⟩ ?_
        refine mm_iload_n 2 dX12_oneStep_199 rfl rfl ?_
        refine mm_bipush (v := 8) dX12_oneStep_200 rfl ?_
        refine mm_icmp_lt (tgt := 223) dX12_oneStep_202 (by decide) (fun q => absurd q (by decide)) (fun _ => ?_)
        refine mm_aload_n 3 dX12_oneStep_205 rfl rfl ?_
        refine mm_getr (b := 201) dX12_oneStep_206 rfl fk_X12_9 rfl so_200 sr_200_0 ?_
        refine mm_aload_n 3 dX12_oneStep_209 rfl rfl ?_
        refine mm_iload 0 dX12_oneStep_210 rfl ?_
        refine mm_iconst (v := 4) dX12_oneStep_212 rfl ?_
        refine mm_cV2i (dz := d - 1) dX12_oneStep_213 rfl mzX12_step ml_X12_220 imX12_step (by omega) so_200 ⟨rfl, rfl⟩ (cm_step (J := pz J p (tq (J 203) t (px (tK (J 203) t) (tV (J 203) t) 70 0 0 0 (k + 1)).2.1) (fb (px (tK (J 203) t) (tV (J 203) t) 70 0 0 0 (k + 1)).1) bs 0 0 (sw p M n 3 (nI CS.length)) ((CS ++ (px (tK (J 203) t) (tV (J 203) t) 70 0 0 0 (k + 1)).2.2) ++ [30000])) hrd (n) (4)) (Nat.le_of_ble_eq_true rfl) ⟨Nat.le_refl _, Nat.le_refl _⟩ ?_
        refine mm_aload_n 3 dX12_oneStep_216 rfl rfl ?_
        refine mm_iload 0 dX12_oneStep_217 rfl ?_
        refine mm_at (pc' := 219) rfl ?_
        refine mm_cV1i (dz := d - 1) dX12_oneStep_219 rfl mzX12_inBraces ml_X12_242 imX12_inBraces (by omega) so_200 ⟨rfl, rfl⟩ hbr2 (Nat.le_of_ble_eq_true rfl) ⟨Nat.le_refl _, Nat.le_refl _⟩ ?_
        refine mm_iastN (1226 + 418 * p + 1 + 8 * n + 4) dX12_oneStep_222 sa_201 (by omega) (by omega) ?_
        refine mm_mem (J := pz J p (tq (J 203) t Rk) 1 bs 0 0 (sw p RN n 4 R0) RC) (pz_r (nc_up (by omega))) ?_
        refine mm_iload_n 2 dX12_oneStep_223 rfl rfl ?_
        refine mm_bipush (v := 8) dX12_oneStep_224 rfl ?_
        refine mm_icmp_ne (tgt := 267) dX12_oneStep_226 (by decide) (fun q => absurd q (by decide)) (fun _ => ?_)
        refine mm_aload_n 3 dX12_oneStep_229 rfl rfl ?_
        refine mm_geti dX12_oneStep_230 rfl fk_X12_164 rfl so_200 ?_
        refine mm_top (v := nI (1)) rfl ?_
        refine mm_top (v := 1) rfl ?_
        refine mm_if_ne (tgt := 267) dX12_oneStep_233 (by decide) (fun _ => ?_) (fun q => absurd q (by decide))
        refine mm_iload 0 dX12_oneStep_267 rfl ?_
        refine mm_iret dX12_oneStep_269 rfl ⟨Nat.le_refl _, Nat.le_refl _⟩ ?_
        exact hq
      | true =>
        by_cases ce : tK (J 203) t Rk = 403
        · rw [if_pos ⟨rfl, ce⟩, r_bd] at hq
          have hlt3 := tK_lt hB (k := Rk) (by omega)
          obtain ⟨⟨u1, u2, u3, u4⟩, u5⟩ := hgd
          have hbr3 := hbr n (true, Rk + 1, sw p RN n 4 R0, RC, Rn) (d - 1) (by omega) ⟨⟨hlt3, Nat.le_succ_of_le u2, u3, u4⟩, fun _ => Nat.le_trans (u5 rfl) (tq_le (Nat.le_succ _))⟩
          generalize r_br (tK (J 203) t) D row n (true, Rk + 1, sw p RN n 4 R0, RC, Rn) = E at hq hbr3
          refine mm_iload_n 2 dX12_oneStep_129 rfl rfl ?_
          refine mm_if_eq (tgt := 139) dX12_oneStep_130 (by decide) (fun q => absurd q (by decide)) (fun _ => ?_)
          refine mm_iload_n 2 dX12_oneStep_133 rfl rfl ?_
          refine mm_bipush (v := 10) dX12_oneStep_134 rfl ?_
          refine mm_icmp_ne (tgt := 155) dX12_oneStep_136 (by decide) (fun _ => ?_) (fun q => absurd q (by decide))
          refine mm_iload_n 2 dX12_oneStep_155 rfl rfl ?_
          refine mm_if_ne (tgt := 175) dX12_oneStep_156 (by decide) (fun _ => ?_) (fun q => absurd q (by decide))
          refine mm_iload_n 2 dX12_oneStep_175 rfl rfl ?_
          refine mm_bipush (v := 7) dX12_oneStep_176 rfl ?_
          refine mm_icmp_eq (tgt := 193) dX12_oneStep_178 (by decide) (fun q => absurd q (by decide)) (fun _ => ?_)
          refine mm_iload_n 2 dX12_oneStep_181 rfl rfl ?_
          refine mm_bipush (v := 8) dX12_oneStep_182 rfl ?_
          refine mm_icmp_eq (tgt := 193) dX12_oneStep_184 (by decide) (fun _ => ?_) (fun q => absurd (by decide) q)
          refine mm_aload_n 3 dX12_oneStep_193 rfl rfl ?_
          refine mm_iload 0 dX12_oneStep_194 rfl ?_
          refine mm_cV1v (dz := d - 1) dX12_oneStep_196 rfl mzX12_expression ml_X12_239 imX12_expression (by omega) so_200 ⟨rfl, rfl⟩ (cm_expr (k := k + 1) ht ht96 hB hrd hp (by omega) (by omega) hn31 (by omega)) (Nat.le_of_ble_eq_true rfl) ⟨Nat.le_refl _, Nat.le_refl _⟩ ?_
          refine mm_iload_n 2 dX12_oneStep_199 rfl rfl ?_
          refine mm_bipush (v := 8) dX12_oneStep_200 rfl ?_
          refine mm_icmp_lt (tgt := 223) dX12_oneStep_202 (by decide) (fun q => absurd q (by decide)) (fun _ => ?_)
          refine mm_aload_n 3 dX12_oneStep_205 rfl rfl ?_
          refine mm_getr (b := 201) dX12_oneStep_206 rfl fk_X12_9 rfl so_200 sr_200_0 ?_
          refine mm_aload_n 3 dX12_oneStep_209 rfl rfl ?_
          refine mm_iload 0 dX12_oneStep_210 rfl ?_
          refine mm_iconst (v := 4) dX12_oneStep_212 rfl ?_
          refine mm_cV2i (dz := d - 1) dX12_oneStep_213 rfl mzX12_step ml_X12_220 imX12_step (by omega) so_200 ⟨rfl, rfl⟩ (cm_step (J := pz J p (tq (J 203) t (px (tK (J 203) t) (tV (J 203) t) 70 0 0 0 (k + 1)).2.1) (fb (px (tK (J 203) t) (tV (J 203) t) 70 0 0 0 (k + 1)).1) bs 0 0 (sw p M n 3 (nI CS.length)) ((CS ++ (px (tK (J 203) t) (tV (J 203) t) 70 0 0 0 (k + 1)).2.2) ++ [30000])) hrd (n) (4)) (Nat.le_of_ble_eq_true rfl) ⟨Nat.le_refl _, Nat.le_refl _⟩ ?_
          refine mm_aload_n 3 dX12_oneStep_216 rfl rfl ?_
          refine mm_iload 0 dX12_oneStep_217 rfl ?_
          refine mm_at (pc' := 219) rfl ?_
          refine mm_cV1i (dz := d - 1) dX12_oneStep_219 rfl mzX12_inBraces ml_X12_242 imX12_inBraces (by omega) so_200 ⟨rfl, rfl⟩ hbr2 (Nat.le_of_ble_eq_true rfl) ⟨Nat.le_refl _, Nat.le_refl _⟩ ?_
          refine mm_iastN (1226 + 418 * p + 1 + 8 * n + 4) dX12_oneStep_222 sa_201 (by omega) (by omega) ?_
          refine mm_mem (J := pz J p (tq (J 203) t Rk) 0 bs 0 0 (sw p RN n 4 R0) RC) (pz_r (nc_up (by omega))) ?_
          refine mm_iload_n 2 dX12_oneStep_223 rfl rfl ?_
          refine mm_bipush (v := 8) dX12_oneStep_224 rfl ?_
          refine mm_icmp_ne (tgt := 267) dX12_oneStep_226 (by decide) (fun q => absurd q (by decide)) (fun _ => ?_)
          refine mm_aload_n 3 dX12_oneStep_229 rfl rfl ?_
          refine mm_geti dX12_oneStep_230 rfl fk_X12_164 rfl so_200 ?_
          refine mm_top (v := nI (0)) rfl ?_
          refine mm_top (v := 0) rfl ?_
          refine mm_if_ne (tgt := 267) dX12_oneStep_233 (by decide) (fun q => absurd q (by decide)) (fun _ => ?_)
          refine mm_aload_n 3 dX12_oneStep_236 rfl rfl ?_
          refine mm_ldcS (t := 11) (tx := "else") dX12_oneStep_237 rfl (by decide) ?_
          refine mm_cV1i (dz := d - 1) dX12_oneStep_239 rfl mzX12_isWord ml_X12_223 imX12_isWord (by omega) so_200 ⟨rfl, rfl⟩ (cm_isWord (tx := 11) ht ht96 hqr (by decide) (by omega)) (Nat.le_of_ble_eq_true rfl) ⟨Nat.le_refl _, Nat.le_refl _⟩ ?_
          refine mm_if_eqB (tgt := 267) dX12_oneStep_242 (by decide) (fun c242 => ?_) (fun c242 => ?_)
          · exact absurd (e403.mpr ce) c242
          · refine mm_aload_n 3 dX12_oneStep_245 rfl rfl ?_
            refine mm_cV0v (dz := d - 1) dX12_oneStep_246 rfl mzX12_next ml_X12_171 imX12_next (by omega) so_200 ⟨rfl, rfl⟩ (cm_nextQ (q := tq (J 203) t Rk) ht ht96 hqr (by omega)) (Nat.le_of_ble_eq_true rfl) ⟨Nat.le_refl _, Nat.le_refl _⟩ ?_
            refine mm_aload_n 3 dX12_oneStep_249 rfl rfl ?_
            refine mm_getr (b := 201) dX12_oneStep_250 rfl fk_X12_9 rfl so_200 sr_200_0 ?_
            refine mm_aload_n 3 dX12_oneStep_253 rfl rfl ?_
            refine mm_iload 0 dX12_oneStep_254 rfl ?_
            refine mm_iconst (v := 5) dX12_oneStep_256 rfl ?_
            refine mm_at (pc' := 257) rfl ?_
            refine mm_cV2i (dz := d - 1) dX12_oneStep_257 rfl mzX12_step ml_X12_220 imX12_step (by omega) so_200 ⟨rfl, rfl⟩ (cm_step (J := pz J p (tq (J 203) t (Rk + 1)) 0 bs 0 0 (sw p RN n 4 R0) RC) hrd (n) (5)) (Nat.le_of_ble_eq_true rfl) ⟨Nat.le_refl _, Nat.le_refl _⟩ ?_
            refine mm_aload_n 3 dX12_oneStep_260 rfl rfl ?_
            refine mm_iload 0 dX12_oneStep_261 rfl ?_
            refine mm_cV1i (dz := d - 1) dX12_oneStep_263 rfl mzX12_inBraces ml_X12_242 imX12_inBraces (by omega) so_200 ⟨rfl, rfl⟩ hbr3 (Nat.le_of_ble_eq_true rfl) ⟨Nat.le_refl _, Nat.le_refl _⟩ ?_
            refine mm_iastN (1226 + 418 * p + 1 + 8 * n + 5) dX12_oneStep_266 sa_201 (by omega) (by omega) ?_
            refine mm_mem (J := pz J p (tq (J 203) t E.2.2.1) (fb E.2.1) bs 0 0 (sw p E.2.2.2.1 n 5 E.1) E.2.2.2.2.1) (pz_r (nc_up (by omega))) ?_
            refine mm_iload 0 dX12_oneStep_267 rfl ?_
            refine mm_iret dX12_oneStep_269 rfl ⟨Nat.le_refl _, Nat.le_refl _⟩ ?_
            exact hq
        · rw [if_neg (fun q => ce q.2)] at hq
          refine mm_iload_n 2 dX12_oneStep_129 rfl rfl ?_
          refine mm_if_eq (tgt := 139) dX12_oneStep_130 (by decide) (fun q => absurd q (by decide)) (fun _ => ?_)
          refine mm_iload_n 2 dX12_oneStep_133 rfl rfl ?_
          refine mm_bipush (v := 10) dX12_oneStep_134 rfl ?_
          refine mm_icmp_ne (tgt := 155) dX12_oneStep_136 (by decide) (fun _ => ?_) (fun q => absurd q (by decide))
          refine mm_iload_n 2 dX12_oneStep_155 rfl rfl ?_
          refine mm_if_ne (tgt := 175) dX12_oneStep_156 (by decide) (fun _ => ?_) (fun q => absurd q (by decide))
          refine mm_iload_n 2 dX12_oneStep_175 rfl rfl ?_
          refine mm_bipush (v := 7) dX12_oneStep_176 rfl ?_
          refine mm_icmp_eq (tgt := 193) dX12_oneStep_178 (by decide) (fun q => absurd q (by decide)) (fun _ => ?_)
          refine mm_iload_n 2 dX12_oneStep_181 rfl rfl ?_
          refine mm_bipush (v := 8) dX12_oneStep_182 rfl ?_
          refine mm_icmp_eq (tgt := 193) dX12_oneStep_184 (by decide) (fun _ => ?_) (fun q => absurd (by decide) q)
          refine mm_aload_n 3 dX12_oneStep_193 rfl rfl ?_
          refine mm_iload 0 dX12_oneStep_194 rfl ?_
          refine mm_cV1v (dz := d - 1) dX12_oneStep_196 rfl mzX12_expression ml_X12_239 imX12_expression (by omega) so_200 ⟨rfl, rfl⟩ (cm_expr (k := k + 1) ht ht96 hB hrd hp (by omega) (by omega) hn31 (by omega)) (Nat.le_of_ble_eq_true rfl) ⟨Nat.le_refl _, Nat.le_refl _⟩ ?_
          refine mm_iload_n 2 dX12_oneStep_199 rfl rfl ?_
          refine mm_bipush (v := 8) dX12_oneStep_200 rfl ?_
          refine mm_icmp_lt (tgt := 223) dX12_oneStep_202 (by decide) (fun q => absurd q (by decide)) (fun _ => ?_)
          refine mm_aload_n 3 dX12_oneStep_205 rfl rfl ?_
          refine mm_getr (b := 201) dX12_oneStep_206 rfl fk_X12_9 rfl so_200 sr_200_0 ?_
          refine mm_aload_n 3 dX12_oneStep_209 rfl rfl ?_
          refine mm_iload 0 dX12_oneStep_210 rfl ?_
          refine mm_iconst (v := 4) dX12_oneStep_212 rfl ?_
          refine mm_cV2i (dz := d - 1) dX12_oneStep_213 rfl mzX12_step ml_X12_220 imX12_step (by omega) so_200 ⟨rfl, rfl⟩ (cm_step (J := pz J p (tq (J 203) t (px (tK (J 203) t) (tV (J 203) t) 70 0 0 0 (k + 1)).2.1) (fb (px (tK (J 203) t) (tV (J 203) t) 70 0 0 0 (k + 1)).1) bs 0 0 (sw p M n 3 (nI CS.length)) ((CS ++ (px (tK (J 203) t) (tV (J 203) t) 70 0 0 0 (k + 1)).2.2) ++ [30000])) hrd (n) (4)) (Nat.le_of_ble_eq_true rfl) ⟨Nat.le_refl _, Nat.le_refl _⟩ ?_
          refine mm_aload_n 3 dX12_oneStep_216 rfl rfl ?_
          refine mm_iload 0 dX12_oneStep_217 rfl ?_
          refine mm_at (pc' := 219) rfl ?_
          refine mm_cV1i (dz := d - 1) dX12_oneStep_219 rfl mzX12_inBraces ml_X12_242 imX12_inBraces (by omega) so_200 ⟨rfl, rfl⟩ hbr2 (Nat.le_of_ble_eq_true rfl) ⟨Nat.le_refl _, Nat.le_refl _⟩ ?_
          refine mm_iastN (1226 + 418 * p + 1 + 8 * n + 4) dX12_oneStep_222 sa_201 (by omega) (by omega) ?_
          refine mm_mem (J := pz J p (tq (J 203) t Rk) 0 bs 0 0 (sw p RN n 4 R0) RC) (pz_r (nc_up (by omega))) ?_
          refine mm_iload_n 2 dX12_oneStep_223 rfl rfl ?_
          refine mm_bipush (v := 8) dX12_oneStep_224 rfl ?_
          refine mm_icmp_ne (tgt := 267) dX12_oneStep_226 (by decide) (fun q => absurd q (by decide)) (fun _ => ?_)
          refine mm_aload_n 3 dX12_oneStep_229 rfl rfl ?_
          refine mm_geti dX12_oneStep_230 rfl fk_X12_164 rfl so_200 ?_
          refine mm_top (v := nI (0)) rfl ?_
          refine mm_top (v := 0) rfl ?_
          refine mm_if_ne (tgt := 267) dX12_oneStep_233 (by decide) (fun q => absurd q (by decide)) (fun _ => ?_)
          refine mm_aload_n 3 dX12_oneStep_236 rfl rfl ?_
          refine mm_ldcS (t := 11) (tx := "else") dX12_oneStep_237 rfl (by decide) ?_
          refine mm_cV1i (dz := d - 1) dX12_oneStep_239 rfl mzX12_isWord ml_X12_223 imX12_isWord (by omega) so_200 ⟨rfl, rfl⟩ (cm_isWord (tx := 11) ht ht96 hqr (by decide) (by omega)) (Nat.le_of_ble_eq_true rfl) ⟨Nat.le_refl _, Nat.le_refl _⟩ ?_
          refine mm_if_eqB (tgt := 267) dX12_oneStep_242 (by decide) (fun c242 => ?_) (fun c242 => ?_)
          · refine mm_iload 0 dX12_oneStep_267 rfl ?_
            refine mm_iret dX12_oneStep_269 rfl ⟨Nat.le_refl _, Nat.le_refl _⟩ ?_
            exact hq
          · exact absurd (e403.mp c242) ce
    rw [if_neg c8] at hq
    refine mm_iload_n 2 dX12_oneStep_129 rfl rfl ?_
    refine mm_if_eqN (o) (tgt := 139) dX12_oneStep_130 (by decide) (by omega) (fun c130 => ?_) (fun c130 => ?_)
    · omega
    · refine mm_iload_n 2 dX12_oneStep_133 rfl rfl ?_
      refine mm_bipush (v := 10) dX12_oneStep_134 rfl ?_
      refine mm_icmp_neN (o) (10) (tgt := 155) dX12_oneStep_136 (by decide) (by omega) (by omega) (fun c136 => ?_) (fun c136 => ?_)
      · refine mm_iload_n 2 dX12_oneStep_155 rfl rfl ?_
        refine mm_if_neN (o) (tgt := 175) dX12_oneStep_156 (by decide) (by omega) (fun c156 => ?_) (fun c156 => ?_)
        · refine mm_iload_n 2 dX12_oneStep_175 rfl rfl ?_
          refine mm_bipush (v := 7) dX12_oneStep_176 rfl ?_
          refine mm_icmp_eqN (o) (7) (tgt := 193) dX12_oneStep_178 (by decide) (by omega) (by omega) (fun c178 => ?_) (fun c178 => ?_)
          · omega
          · refine mm_iload_n 2 dX12_oneStep_181 rfl rfl ?_
            refine mm_bipush (v := 8) dX12_oneStep_182 rfl ?_
            refine mm_icmp_eqN (o) (8) (tgt := 193) dX12_oneStep_184 (by decide) (by omega) (by omega) (fun c184 => ?_) (fun c184 => ?_)
            · omega
            · refine mm_iload_n 2 dX12_oneStep_187 rfl rfl ?_
              refine mm_bipush (v := 9) dX12_oneStep_188 rfl ?_
              refine mm_icmp_neN (o) (9) (tgt := 199) dX12_oneStep_190 (by decide) (by omega) (by omega) (fun c190 => ?_) (fun c190 => ?_)
              · refine mm_iload_n 2 dX12_oneStep_199 rfl rfl ?_
                refine mm_bipush (v := 8) dX12_oneStep_200 rfl ?_
                refine mm_icmp_ltN (o) (8) (tgt := 223) dX12_oneStep_202 (by decide) (by omega) (by omega) (fun c202 => ?_) (fun c202 => ?_)
                · refine mm_iload_n 2 dX12_oneStep_223 rfl rfl ?_
                  refine mm_bipush (v := 8) dX12_oneStep_224 rfl ?_
                  refine mm_icmp_neN (o) (8) (tgt := 267) dX12_oneStep_226 (by decide) (by omega) (by omega) (fun c226 => ?_) (fun c226 => ?_)
                  · refine mm_iload 0 dX12_oneStep_267 rfl ?_
                    refine mm_iret dX12_oneStep_269 rfl ⟨Nat.le_refl _, Nat.le_refl _⟩ ?_
                    exact hq
                  · omega
                · omega
              · omega
        · omega
      · omega
  · rw [if_neg (show ¬ isW (tK (J 203) t k) from c)] at hq
    have hwh := cm_wordHere (g := g) (J := J) (d := d - 1) (p := p) (fl := 0) (bs := bs) (br := 0) (ns := 0) (N := N) (CS := CS) ht ht96 hqk (by omega)
    rw [tK_noword hB c] at hwh
    refine mm_aload_n 0 dX12_oneStep_0 rfl rfl ?_
    refine mm_geti dX12_oneStep_1 rfl fk_X12_164 rfl so_200 ?_
    refine mm_top (v := nI (0)) rfl ?_
    refine mm_top (v := 0) rfl ?_
    refine mm_if_eq (tgt := 11) dX12_oneStep_4 (by decide) (fun _ => ?_) (fun q => absurd (by decide) q)
    refine mm_aload_n 0 dX12_oneStep_11 rfl rfl ?_
    refine mm_cV0i (dz := d - 1) dX12_oneStep_12 rfl mzX12_wordHere ml_X12_236 imX12_wordHere (by omega) so_200 ⟨rfl, rfl⟩ hwh (Nat.le_of_ble_eq_true rfl) ⟨Nat.le_refl _, Nat.le_refl _⟩ ?_
    refine mm_istore_n (ls' := [(2, .int (-1)), (0, .ref 200), (1, .int (ab))]) dX12_oneStep_15 rfl (by decide) rfl ?_
    refine mm_iload_n 0 dX12_oneStep_16 rfl rfl ?_
    refine mm_if_ge (tgt := 27) dX12_oneStep_17 (by decide) (fun q => absurd q (by decide)) (fun _ => ?_)
    refine mm_aload_n 1 dX12_oneStep_20 rfl rfl ?_
    refine mm_iconst (v := 1) dX12_oneStep_21 rfl ?_
    refine mm_putz dX12_oneStep_22 rfl fk_X12_164 rfl fv_12_14 (by decide) so_200 ?_
    refine mm_mem (J := pz J p (tq (J 203) t k) 1 bs 0 0 N CS) (pz_14 (v := 1)) ?_
    refine mm_iconst (v := -1) dX12_oneStep_25 rfl ?_
    refine mm_iret dX12_oneStep_26 rfl ⟨Nat.le_refl _, Nat.le_refl _⟩ ?_
    exact hq
