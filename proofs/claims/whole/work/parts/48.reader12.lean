/-! THE REFERENCE'S READER: rows of steps -/
theorem r_one_1 {T : Nat → Int32} {t p D : Nat} (ht96 : t ≤ 96) (hB : tp_ok T t) {row : Int32 → rS → Int32 × rS} {ab : Int32} {S : rS} (hS : S.1 = true) (h : r1_ T t p S) (h2 : (r_one (tK T t) (tV T t) p D row ab S).2.1 = true) : (r_one (tK T t) (tV T t) p D row ab S).1 = nI S.2.2.2.2 ∧ S.2.2.2.2 < 32 := by
  unfold r_one at h2 ⊢
  by_cases c : isW (tK T t S.2.1)
  · rw [if_pos c]
    have hst := tq_step hB (k := S.2.1) (by omega)
    have hk := (tq_good T t S.2.1).2.1
    have := h.2 hS
    exact ⟨rfl, by omega⟩
  · rw [if_neg c] at h2
    exact absurd h2 (by show ¬ (false = true); decide)
set_option maxRecDepth 100000 in
set_option maxHeartbeats 600000 in
theorem lm_row {g : mm_G} {J : mm_I}  {p t : Nat} (ht : J 200 4 = nI t) (ht96 : t ≤ 96) (hB : tp_ok (J 203) t) (hrd : J 200 18 = nI p) (hp : p < 6) {D bs dd : Nat} (hD : bs + D = 4) (hd0 : 80 ≤ dd) {row : Int32 → rS → Int32 × rS} (hR : 0 < D → RowOK (J 203) t p row) (hRow : 0 < D → ∀ (ab : Int32) (S : rS) (d : Nat), S.1 = true → r1_ (J 203) t p S → dd ≤ d → mm_Ci g zX12_rowOfSteps d [.ref 200, .int ab] sh_S (rz J p t (bs + 1) S) (row ab S).1 (rz J p t (bs + 1) (row ab S).2)) {Q : Option Value → mm_Sh → mm_I → Prop} {ab : Int32} {d : Nat} (hd : dd + 3 ≤ d) : ∀ (m : Nat) (f l : Int32) (S : rS), S.1 = true → r1_ (J 203) t p S → t < S.2.1 + m → (f = -1 ∨ (∃ a, a < 2 ^ 31 ∧ f = nI a) ∧ ∃ j, j < 32 ∧ l = nI j) → Q (some (.int (r_lp (tK (J 203) t) p (r_one (tK (J 203) t) (tV (J 203) t) p D row ab) m f l S).1)) sh_S (rz J p t bs (r_lp (tK (J 203) t) p (r_one (tK (J 203) t) (tV (J 203) t) p D row ab) m f l S).2) → mm_Ex g zX12_rowOfSteps d (0, 0) (0, 0) sh_S (rz J p t bs S) 7 [(4, .int (1)), (3, .int (l)), (2, .int (f)), (0, .ref 200), (1, .int (ab))] [] Q := by
  intro m
  induction m with
  | zero => intro f l S hb hS hm; have := hS.1.1; omega
  | succ m ih =>
    intro f l S hb hS hm hfl hq
    have hone := cm_one (g := g) ht ht96 hB hrd hp hD hd0 hR hRow ab S (d - 1) hb hS (by omega)
    have hgd := r_one_good (ab := ab) ht96 hB hR hb hS
    have hg1 := r_one_1 (D := D) (row := row) (ab := ab) ht96 hB hb hS
    unfold r_lp at hq
    generalize r_one (tK (J 203) t) (tV (J 203) t) p D row ab S = r at hq hone hgd hg1
    obtain ⟨r0, rb, rk, rN, rC, rn⟩ := r
    obtain ⟨hr, hk1, hk2⟩ := hgd
    replace hk1 : S.2.1 ≤ rk := hk1
    replace hk2 : rb = true → S.2.1 < rk := hk2
    replace hr : r1_ (J 203) t p (rb, rk, rN, rC, rn) := hr
    replace hg1 : rb = true → r0 = nI S.2.2.2.2 ∧ S.2.2.2.2 < 32 := hg1
    have hqr := tq_good (J 203) t rk
    replace hq : Q (some (.int (if rb = true ∧ isW (tK (J 203) t rk) then r_lp (tK (J 203) t) p (r_one (tK (J 203) t) (tV (J 203) t) p D row ab) m (if f < 0 then r0 else f) r0 (r_nx p f l (r0, rb, rk, rN, rC, rn)) else ((if f < 0 then r0 else f), r_nx p f l (r0, rb, rk, rN, rC, rn))).1)) sh_S (rz J p t bs (if rb = true ∧ isW (tK (J 203) t rk) then r_lp (tK (J 203) t) p (r_one (tK (J 203) t) (tV (J 203) t) p D row ab) m (if f < 0 then r0 else f) r0 (r_nx p f l (r0, rb, rk, rN, rC, rn)) else ((if f < 0 then r0 else f), r_nx p f l (r0, rb, rk, rN, rC, rn))).2) := hq
    have hnx : ∀ f l, r1_ (J 203) t p (r_nx p f l (r0, rb, rk, rN, rC, rn)) := fun f l => r_nx_good (r := (r0, rb, rk, rN, rC, rn)) hr
    unfold r_nx at hq hnx
    cases rb with
    | false =>
      rw [if_neg (by rintro ⟨q, -⟩; exact absurd q (by decide))] at hq
      rcases hfl with rfl | ⟨⟨a, ha, rfl⟩, j, hj, rfl⟩
      · refine mm_iload 0 dX12_rowOfSteps_7 rfl ?_
        refine mm_if_eq (tgt := 77) dX12_rowOfSteps_9 (by decide) (fun q => absurd q (by decide)) (fun _ => ?_)
        refine mm_aload_n 3 dX12_rowOfSteps_12 rfl rfl ?_
        refine mm_iload_n 4 dX12_rowOfSteps_13 rfl rfl ?_
        refine mm_cV1i (dz := d - 1) dX12_rowOfSteps_14 rfl mzX12_oneStep ml_X12_233 imX12_oneStep (by omega) so_200 ⟨rfl, rfl⟩ hone (Nat.le_of_ble_eq_true rfl) ⟨Nat.le_refl _, Nat.le_refl _⟩ ?_
        refine mm_istore (ls' := [(5, .int (r0)), (4, .int (1)), (3, .int (l)), (2, .int (-1)), (0, .ref 200), (1, .int (ab))]) dX12_rowOfSteps_17 (by decide) rfl ?_
        refine mm_iload_n 3 dX12_rowOfSteps_19 rfl rfl ?_
        refine mm_if_ge (tgt := 29) dX12_rowOfSteps_20 (by decide) (fun q => absurd q (by decide)) (fun _ => ?_)
        refine mm_iload 0 dX12_rowOfSteps_23 rfl ?_
        refine mm_istore_n (ls' := [(2, .int (r0)), (5, .int (r0)), (4, .int (1)), (3, .int (l)), (0, .ref 200), (1, .int (ab))]) dX12_rowOfSteps_25 rfl (by decide) rfl ?_
        refine mm_goto (tgt := 50) dX12_rowOfSteps_26 (by decide) ?_
        refine mm_iload 1 dX12_rowOfSteps_50 rfl ?_
        refine mm_istore_n (ls' := [(3, .int (r0)), (2, .int (r0)), (5, .int (r0)), (4, .int (1)), (0, .ref 200), (1, .int (ab))]) dX12_rowOfSteps_52 rfl (by decide) rfl ?_
        refine mm_aload_n 4 dX12_rowOfSteps_53 rfl rfl ?_
        refine mm_geti dX12_rowOfSteps_54 rfl fk_X12_164 rfl so_200 ?_
        refine mm_top (v := nI (1)) rfl ?_
        refine mm_top (v := 1) rfl ?_
        refine mm_if_ne (tgt := 71) dX12_rowOfSteps_57 (by decide) (fun _ => ?_) (fun q => absurd q (by decide))
        refine mm_iconst (v := 0) dX12_rowOfSteps_71 rfl ?_
        refine mm_istore (ls' := [(4, .int (0)), (3, .int (r0)), (2, .int (r0)), (5, .int (r0)), (0, .ref 200), (1, .int (ab))]) dX12_rowOfSteps_72 (by decide) rfl ?_
        refine mm_goto (tgt := 7) dX12_rowOfSteps_74 (by decide) ?_
        refine mm_iload 0 dX12_rowOfSteps_7 rfl ?_
        refine mm_if_eq (tgt := 77) dX12_rowOfSteps_9 (by decide) (fun _ => ?_) (fun q => absurd (by decide) q)
        refine mm_iload_n 2 dX12_rowOfSteps_77 rfl rfl ?_
        refine mm_iret dX12_rowOfSteps_78 rfl ⟨Nat.le_refl _, Nat.le_refl _⟩ ?_
        rw [if_pos (show (-1 : Int32) < 0 by decide), if_pos (show (-1 : Int32) < 0 by decide)] at hq
        exact hq
      · refine mm_iload 0 dX12_rowOfSteps_7 rfl ?_
        refine mm_if_eq (tgt := 77) dX12_rowOfSteps_9 (by decide) (fun q => absurd q (by decide)) (fun _ => ?_)
        refine mm_aload_n 3 dX12_rowOfSteps_12 rfl rfl ?_
        refine mm_iload_n 4 dX12_rowOfSteps_13 rfl rfl ?_
        refine mm_cV1i (dz := d - 1) dX12_rowOfSteps_14 rfl mzX12_oneStep ml_X12_233 imX12_oneStep (by omega) so_200 ⟨rfl, rfl⟩ hone (Nat.le_of_ble_eq_true rfl) ⟨Nat.le_refl _, Nat.le_refl _⟩ ?_
        refine mm_istore (ls' := [(5, .int (r0)), (4, .int (1)), (3, .int (nI (j))), (2, .int (nI (a))), (0, .ref 200), (1, .int (ab))]) dX12_rowOfSteps_17 (by decide) rfl ?_
        refine mm_iload_n 3 dX12_rowOfSteps_19 rfl rfl ?_
        refine mm_if_geN (a) (tgt := 29) dX12_rowOfSteps_20 (by decide) (by omega) ?_
        refine mm_aload_n 4 dX12_rowOfSteps_29 rfl rfl ?_
        refine mm_geti dX12_rowOfSteps_30 rfl fk_X12_164 rfl so_200 ?_
        refine mm_top (v := nI (1)) rfl ?_
        refine mm_top (v := 1) rfl ?_
        refine mm_if_ne (tgt := 50) dX12_rowOfSteps_33 (by decide) (fun _ => ?_) (fun q => absurd q (by decide))
        refine mm_iload 0 dX12_rowOfSteps_50 rfl ?_
        refine mm_istore_n (ls' := [(3, .int (r0)), (5, .int (r0)), (4, .int (1)), (2, .int (nI (a))), (0, .ref 200), (1, .int (ab))]) dX12_rowOfSteps_52 rfl (by decide) rfl ?_
        refine mm_aload_n 4 dX12_rowOfSteps_53 rfl rfl ?_
        refine mm_geti dX12_rowOfSteps_54 rfl fk_X12_164 rfl so_200 ?_
        refine mm_top (v := nI (1)) rfl ?_
        refine mm_top (v := 1) rfl ?_
        refine mm_if_ne (tgt := 71) dX12_rowOfSteps_57 (by decide) (fun _ => ?_) (fun q => absurd q (by decide))
        refine mm_iconst (v := 0) dX12_rowOfSteps_71 rfl ?_
        refine mm_istore (ls' := [(4, .int (0)), (3, .int (r0)), (5, .int (r0)), (2, .int (nI (a))), (0, .ref 200), (1, .int (ab))]) dX12_rowOfSteps_72 (by decide) rfl ?_
        refine mm_goto (tgt := 7) dX12_rowOfSteps_74 (by decide) ?_
        refine mm_iload 0 dX12_rowOfSteps_7 rfl ?_
        refine mm_if_eq (tgt := 77) dX12_rowOfSteps_9 (by decide) (fun _ => ?_) (fun q => absurd (by decide) q)
        refine mm_iload_n 3 dX12_rowOfSteps_77 rfl rfl ?_
        refine mm_iret dX12_rowOfSteps_78 rfl ⟨Nat.le_refl _, Nat.le_refl _⟩ ?_
        rw [if_neg (nI_pos ha), if_neg (nI_pos ha), if_neg (show ¬ (false = true) by decide)] at hq
        exact hq
    | true =>
      have hwh := cm_wordHere (g := g) (J := J) (d := d - 1) (p := p) (fl := 0) (bs := bs) (br := 0) (ns := 0) (N := rN) (CS := rC) ht ht96 hqr (by omega)
      obtain ⟨e0, hn32⟩ := hg1 rfl
      have hk3 := hk2 rfl
      by_cases cw : isW (tK (J 203) t rk)
      · rw [if_pos ⟨rfl, cw⟩] at hq
        rw [(tK_word hB cw).1] at hwh
        have hw11 : tK (J 203) t rk - 300 < 2 ^ 31 := by omega
        generalize tK (J 203) t rk - 300 = wo at hwh hw11
        rcases hfl with rfl | ⟨⟨a, ha, rfl⟩, j, hj, rfl⟩
        · refine mm_iload 0 dX12_rowOfSteps_7 rfl ?_
          refine mm_if_eq (tgt := 77) dX12_rowOfSteps_9 (by decide) (fun q => absurd q (by decide)) (fun _ => ?_)
          refine mm_aload_n 3 dX12_rowOfSteps_12 rfl rfl ?_
          refine mm_iload_n 4 dX12_rowOfSteps_13 rfl rfl ?_
          refine mm_cV1i (dz := d - 1) dX12_rowOfSteps_14 rfl mzX12_oneStep ml_X12_233 imX12_oneStep (by omega) so_200 ⟨rfl, rfl⟩ hone (Nat.le_of_ble_eq_true rfl) ⟨Nat.le_refl _, Nat.le_refl _⟩ ?_
          refine mm_istore (ls' := [(5, .int (r0)), (4, .int (1)), (3, .int (l)), (2, .int (-1)), (0, .ref 200), (1, .int (ab))]) dX12_rowOfSteps_17 (by decide) rfl ?_
          refine mm_iload_n 3 dX12_rowOfSteps_19 rfl rfl ?_
          refine mm_if_ge (tgt := 29) dX12_rowOfSteps_20 (by decide) (fun q => absurd q (by decide)) (fun _ => ?_)
          refine mm_iload 0 dX12_rowOfSteps_23 rfl ?_
          refine mm_istore_n (ls' := [(2, .int (r0)), (5, .int (r0)), (4, .int (1)), (3, .int (l)), (0, .ref 200), (1, .int (ab))]) dX12_rowOfSteps_25 rfl (by decide) rfl ?_
          refine mm_goto (tgt := 50) dX12_rowOfSteps_26 (by decide) ?_
          refine mm_iload 1 dX12_rowOfSteps_50 rfl ?_
          refine mm_istore_n (ls' := [(3, .int (r0)), (2, .int (r0)), (5, .int (r0)), (4, .int (1)), (0, .ref 200), (1, .int (ab))]) dX12_rowOfSteps_52 rfl (by decide) rfl ?_
          refine mm_aload_n 4 dX12_rowOfSteps_53 rfl rfl ?_
          refine mm_geti dX12_rowOfSteps_54 rfl fk_X12_164 rfl so_200 ?_
          refine mm_top (v := nI (0)) rfl ?_
          refine mm_top (v := 0) rfl ?_
          refine mm_if_ne (tgt := 71) dX12_rowOfSteps_57 (by decide) (fun q => absurd q (by decide)) (fun _ => ?_)
          refine mm_aload_n 4 dX12_rowOfSteps_60 rfl rfl ?_
          refine mm_cV0i (dz := d - 1) dX12_rowOfSteps_61 rfl mzX12_wordHere ml_X12_236 imX12_wordHere (by omega) so_200 ⟨rfl, rfl⟩ hwh (Nat.le_of_ble_eq_true rfl) ⟨Nat.le_refl _, Nat.le_refl _⟩ ?_
          refine mm_if_ltN (wo) (tgt := 71) dX12_rowOfSteps_64 (by decide) (by omega) ?_
          refine mm_iconst (v := 1) dX12_rowOfSteps_67 rfl ?_
          refine mm_goto (tgt := 72) dX12_rowOfSteps_68 (by decide) ?_
          refine mm_istore (ls' := [(4, .int (1)), (3, .int (r0)), (2, .int (r0)), (5, .int (r0)), (0, .ref 200), (1, .int (ab))]) dX12_rowOfSteps_72 (by decide) rfl ?_
          refine mm_goto (tgt := 7) dX12_rowOfSteps_74 (by decide) ?_
          have hn2 := hnx (-1) l
          rw [if_pos (show (-1 : Int32) < 0 by decide)] at hq hn2
          rw [if_pos (show (-1 : Int32) < 0 by decide)] at hq
          exact mm_sub [0, 1, 2, 4, 5] rfl (ih r0 r0 (true, rk, rN, rC, rn) rfl hn2 (by show t < rk + m; omega) (Or.inr ⟨⟨S.2.2.2.2, by omega, e0⟩, S.2.2.2.2, hn32, e0⟩) hq)
        · have hwh := cm_wordHere (g := g) (J := J) (d := d - 1) (p := p) (fl := 0) (bs := bs) (br := 0) (ns := 0) (N := sw p rN j 6 r0) (CS := rC) ht ht96 hqr (by omega)
          rw [(tK_word hB cw).1] at hwh
          have hw11 : tK (J 203) t rk - 300 < 2 ^ 31 := by omega
          generalize tK (J 203) t rk - 300 = wo at hwh hw11
          refine mm_iload 0 dX12_rowOfSteps_7 rfl ?_
          refine mm_if_eq (tgt := 77) dX12_rowOfSteps_9 (by decide) (fun q => absurd q (by decide)) (fun _ => ?_)
          refine mm_aload_n 3 dX12_rowOfSteps_12 rfl rfl ?_
          refine mm_iload_n 4 dX12_rowOfSteps_13 rfl rfl ?_
          refine mm_cV1i (dz := d - 1) dX12_rowOfSteps_14 rfl mzX12_oneStep ml_X12_233 imX12_oneStep (by omega) so_200 ⟨rfl, rfl⟩ hone (Nat.le_of_ble_eq_true rfl) ⟨Nat.le_refl _, Nat.le_refl _⟩ ?_
          refine mm_istore (ls' := [(5, .int (r0)), (4, .int (1)), (3, .int (nI (j))), (2, .int (nI (a))), (0, .ref 200), (1, .int (ab))]) dX12_rowOfSteps_17 (by decide) rfl ?_
          refine mm_iload_n 3 dX12_rowOfSteps_19 rfl rfl ?_
          refine mm_if_geN (a) (tgt := 29) dX12_rowOfSteps_20 (by decide) (by omega) ?_
          refine mm_aload_n 4 dX12_rowOfSteps_29 rfl rfl ?_
          refine mm_geti dX12_rowOfSteps_30 rfl fk_X12_164 rfl so_200 ?_
          refine mm_top (v := nI (0)) rfl ?_
          refine mm_top (v := 0) rfl ?_
          refine mm_if_ne (tgt := 50) dX12_rowOfSteps_33 (by decide) (fun q => absurd q (by decide)) (fun _ => ?_)
          refine mm_aload_n 4 dX12_rowOfSteps_36 rfl rfl ?_
          refine mm_getr (b := 201) dX12_rowOfSteps_37 rfl fk_X12_9 rfl so_200 sr_200_0 ?_
          refine mm_aload_n 4 dX12_rowOfSteps_40 rfl rfl ?_
          refine mm_iload_n 2 dX12_rowOfSteps_41 rfl rfl ?_
          refine mm_bipush (v := 6) dX12_rowOfSteps_42 rfl ?_
          refine mm_cV2i (dz := d - 1) dX12_rowOfSteps_44 rfl mzX12_step ml_X12_220 imX12_step (by omega) so_200 ⟨rfl, rfl⟩ (cm_step (J := pz J p (tq (J 203) t rk) 0 bs 0 0 rN rC) hrd (j) (6)) (Nat.le_of_ble_eq_true rfl) ⟨Nat.le_refl _, Nat.le_refl _⟩ ?_
          refine mm_iload 0 dX12_rowOfSteps_47 rfl ?_
          refine mm_iastN (1226 + 418 * p + 1 + 8 * j + 6) dX12_rowOfSteps_49 sa_201 (by omega) (by omega) ?_
          refine mm_at (pc' := 50) rfl ?_
          refine mm_mem (J := pz J p (tq (J 203) t rk) 0 bs 0 0 (sw p rN j 6 r0) rC) (pz_r (nc_up (by omega))) ?_
          refine mm_iload 0 dX12_rowOfSteps_50 rfl ?_
          refine mm_istore_n (ls' := [(3, .int (r0)), (5, .int (r0)), (4, .int (1)), (2, .int (nI (a))), (0, .ref 200), (1, .int (ab))]) dX12_rowOfSteps_52 rfl (by decide) rfl ?_
          refine mm_aload_n 4 dX12_rowOfSteps_53 rfl rfl ?_
          refine mm_geti dX12_rowOfSteps_54 rfl fk_X12_164 rfl so_200 ?_
          refine mm_top (v := nI (0)) rfl ?_
          refine mm_top (v := 0) rfl ?_
          refine mm_if_ne (tgt := 71) dX12_rowOfSteps_57 (by decide) (fun q => absurd q (by decide)) (fun _ => ?_)
          refine mm_aload_n 4 dX12_rowOfSteps_60 rfl rfl ?_
          refine mm_cV0i (dz := d - 1) dX12_rowOfSteps_61 rfl mzX12_wordHere ml_X12_236 imX12_wordHere (by omega) so_200 ⟨rfl, rfl⟩ hwh (Nat.le_of_ble_eq_true rfl) ⟨Nat.le_refl _, Nat.le_refl _⟩ ?_
          refine mm_if_ltN (wo) (tgt := 71) dX12_rowOfSteps_64 (by decide) (by omega) ?_
          refine mm_iconst (v := 1) dX12_rowOfSteps_67 rfl ?_
          refine mm_goto (tgt := 72) dX12_rowOfSteps_68 (by decide) ?_
          refine mm_istore (ls' := [(4, .int (1)), (3, .int (r0)), (5, .int (r0)), (2, .int (nI (a))), (0, .ref 200), (1, .int (ab))]) dX12_rowOfSteps_72 (by decide) rfl ?_
          refine mm_goto (tgt := 7) dX12_rowOfSteps_74 (by decide) ?_
          have hn2 := hnx (nI a) (nI j)
          rw [if_neg (nI_pos ha), if_pos rfl, vv_nI (by omega)] at hn2
          rw [if_neg (nI_pos ha), if_neg (nI_pos ha), if_pos rfl, vv_nI (by omega)] at hq
          exact mm_sub [0, 1, 3, 4, 5] rfl (ih (nI a) r0 (true, rk, sw p rN j 6 r0, rC, rn) rfl hn2 (by show t < rk + m; omega) (Or.inr ⟨⟨a, ha, rfl⟩, S.2.2.2.2, hn32, e0⟩) hq)
      · rw [if_neg (fun q => cw q.2)] at hq
        rw [tK_noword hB cw] at hwh
        rcases hfl with rfl | ⟨⟨a, ha, rfl⟩, j, hj, rfl⟩
        · refine mm_iload 0 dX12_rowOfSteps_7 rfl ?_
          refine mm_if_eq (tgt := 77) dX12_rowOfSteps_9 (by decide) (fun q => absurd q (by decide)) (fun _ => ?_)
          refine mm_aload_n 3 dX12_rowOfSteps_12 rfl rfl ?_
          refine mm_iload_n 4 dX12_rowOfSteps_13 rfl rfl ?_
          refine mm_cV1i (dz := d - 1) dX12_rowOfSteps_14 rfl mzX12_oneStep ml_X12_233 imX12_oneStep (by omega) so_200 ⟨rfl, rfl⟩ hone (Nat.le_of_ble_eq_true rfl) ⟨Nat.le_refl _, Nat.le_refl _⟩ ?_
          refine mm_istore (ls' := [(5, .int (r0)), (4, .int (1)), (3, .int (l)), (2, .int (-1)), (0, .ref 200), (1, .int (ab))]) dX12_rowOfSteps_17 (by decide) rfl ?_
          refine mm_iload_n 3 dX12_rowOfSteps_19 rfl rfl ?_
          refine mm_if_ge (tgt := 29) dX12_rowOfSteps_20 (by decide) (fun q => absurd q (by decide)) (fun _ => ?_)
          refine mm_iload 0 dX12_rowOfSteps_23 rfl ?_
          refine mm_istore_n (ls' := [(2, .int (r0)), (5, .int (r0)), (4, .int (1)), (3, .int (l)), (0, .ref 200), (1, .int (ab))]) dX12_rowOfSteps_25 rfl (by decide) rfl ?_
          refine mm_goto (tgt := 50) dX12_rowOfSteps_26 (by decide) ?_
          refine mm_iload 1 dX12_rowOfSteps_50 rfl ?_
          refine mm_istore_n (ls' := [(3, .int (r0)), (2, .int (r0)), (5, .int (r0)), (4, .int (1)), (0, .ref 200), (1, .int (ab))]) dX12_rowOfSteps_52 rfl (by decide) rfl ?_
          refine mm_aload_n 4 dX12_rowOfSteps_53 rfl rfl ?_
          refine mm_geti dX12_rowOfSteps_54 rfl fk_X12_164 rfl so_200 ?_
          refine mm_top (v := nI (0)) rfl ?_
          refine mm_top (v := 0) rfl ?_
          refine mm_if_ne (tgt := 71) dX12_rowOfSteps_57 (by decide) (fun q => absurd q (by decide)) (fun _ => ?_)
          refine mm_aload_n 4 dX12_rowOfSteps_60 rfl rfl ?_
          refine mm_cV0i (dz := d - 1) dX12_rowOfSteps_61 rfl mzX12_wordHere ml_X12_236 imX12_wordHere (by omega) so_200 ⟨rfl, rfl⟩ hwh (Nat.le_of_ble_eq_true rfl) ⟨Nat.le_refl _, Nat.le_refl _⟩ ?_
          refine mm_if_lt (tgt := 71) dX12_rowOfSteps_64 (by decide) (fun _ => ?_) (fun q => absurd (by decide) q)
          refine mm_iconst (v := 0) dX12_rowOfSteps_71 rfl ?_
          refine mm_istore (ls' := [(4, .int (0)), (3, .int (r0)), (2, .int (r0)), (5, .int (r0)), (0, .ref 200), (1, .int (ab))]) dX12_rowOfSteps_72 (by decide) rfl ?_
          refine mm_goto (tgt := 7) dX12_rowOfSteps_74 (by decide) ?_
          refine mm_iload 0 dX12_rowOfSteps_7 rfl ?_
          refine mm_if_eq (tgt := 77) dX12_rowOfSteps_9 (by decide) (fun _ => ?_) (fun q => absurd (by decide) q)
          refine mm_iload_n 2 dX12_rowOfSteps_77 rfl rfl ?_
          refine mm_iret dX12_rowOfSteps_78 rfl ⟨Nat.le_refl _, Nat.le_refl _⟩ ?_
          rw [if_pos (show (-1 : Int32) < 0 by decide), if_pos (show (-1 : Int32) < 0 by decide)] at hq
          exact hq
        · have hwh := cm_wordHere (g := g) (J := J) (d := d - 1) (p := p) (fl := 0) (bs := bs) (br := 0) (ns := 0) (N := sw p rN j 6 r0) (CS := rC) ht ht96 hqr (by omega)
          rw [tK_noword hB cw] at hwh
          refine mm_iload 0 dX12_rowOfSteps_7 rfl ?_
          refine mm_if_eq (tgt := 77) dX12_rowOfSteps_9 (by decide) (fun q => absurd q (by decide)) (fun _ => ?_)
          refine mm_aload_n 3 dX12_rowOfSteps_12 rfl rfl ?_
          refine mm_iload_n 4 dX12_rowOfSteps_13 rfl rfl ?_
          refine mm_cV1i (dz := d - 1) dX12_rowOfSteps_14 rfl mzX12_oneStep ml_X12_233 imX12_oneStep (by omega) so_200 ⟨rfl, rfl⟩ hone (Nat.le_of_ble_eq_true rfl) ⟨Nat.le_refl _, Nat.le_refl _⟩ ?_
          refine mm_istore (ls' := [(5, .int (r0)), (4, .int (1)), (3, .int (nI (j))), (2, .int (nI (a))), (0, .ref 200), (1, .int (ab))]) dX12_rowOfSteps_17 (by decide) rfl ?_
          refine mm_iload_n 3 dX12_rowOfSteps_19 rfl rfl ?_
          refine mm_if_geN (a) (tgt := 29) dX12_rowOfSteps_20 (by decide) (by omega) ?_
          refine mm_aload_n 4 dX12_rowOfSteps_29 rfl rfl ?_
          refine mm_geti dX12_rowOfSteps_30 rfl fk_X12_164 rfl so_200 ?_
          refine mm_top (v := nI (0)) rfl ?_
          refine mm_top (v := 0) rfl ?_
          refine mm_if_ne (tgt := 50) dX12_rowOfSteps_33 (by decide) (fun q => absurd q (by decide)) (fun _ => ?_)
          refine mm_aload_n 4 dX12_rowOfSteps_36 rfl rfl ?_
          refine mm_getr (b := 201) dX12_rowOfSteps_37 rfl fk_X12_9 rfl so_200 sr_200_0 ?_
          refine mm_aload_n 4 dX12_rowOfSteps_40 rfl rfl ?_
          refine mm_iload_n 2 dX12_rowOfSteps_41 rfl rfl ?_
          refine mm_bipush (v := 6) dX12_rowOfSteps_42 rfl ?_
          refine mm_cV2i (dz := d - 1) dX12_rowOfSteps_44 rfl mzX12_step ml_X12_220 imX12_step (by omega) so_200 ⟨rfl, rfl⟩ (cm_step (J := pz J p (tq (J 203) t rk) 0 bs 0 0 rN rC) hrd (j) (6)) (Nat.le_of_ble_eq_true rfl) ⟨Nat.le_refl _, Nat.le_refl _⟩ ?_
          refine mm_iload 0 dX12_rowOfSteps_47 rfl ?_
          refine mm_iastN (1226 + 418 * p + 1 + 8 * j + 6) dX12_rowOfSteps_49 sa_201 (by omega) (by omega) ?_
          refine mm_at (pc' := 50) rfl ?_
          refine mm_mem (J := pz J p (tq (J 203) t rk) 0 bs 0 0 (sw p rN j 6 r0) rC) (pz_r (nc_up (by omega))) ?_
          refine mm_iload 0 dX12_rowOfSteps_50 rfl ?_
          refine mm_istore_n (ls' := [(3, .int (r0)), (5, .int (r0)), (4, .int (1)), (2, .int (nI (a))), (0, .ref 200), (1, .int (ab))]) dX12_rowOfSteps_52 rfl (by decide) rfl ?_
          refine mm_aload_n 4 dX12_rowOfSteps_53 rfl rfl ?_
          refine mm_geti dX12_rowOfSteps_54 rfl fk_X12_164 rfl so_200 ?_
          refine mm_top (v := nI (0)) rfl ?_
          refine mm_top (v := 0) rfl ?_
          refine mm_if_ne (tgt := 71) dX12_rowOfSteps_57 (by decide) (fun q => absurd q (by decide)) (fun _ => ?_)
          refine mm_aload_n 4 dX12_rowOfSteps_60 rfl rfl ?_
          refine mm_cV0i (dz := d - 1) dX12_rowOfSteps_61 rfl mzX12_wordHere ml_X12_236 imX12_wordHere (by omega) so_200 ⟨rfl, rfl⟩ hwh (Nat.le_of_ble_eq_true rfl) ⟨Nat.le_refl _, Nat.le_refl _⟩ ?_
          refine mm_if_lt (tgt := 71) dX12_rowOfSteps_64 (by decide) (fun _ => ?_) (fun q => absurd (by decide) q)
          refine mm_iconst (v := 0) dX12_rowOfSteps_71 rfl ?_
          refine mm_istore (ls' := [(4, .int (0)), (3, .int (r0)), (5, .int (r0)), (2, .int (nI (a))), (0, .ref 200), (1, .int (ab))]) dX12_rowOfSteps_72 (by decide) rfl ?_
          refine mm_goto (tgt := 7) dX12_rowOfSteps_74 (by decide) ?_
          refine mm_iload 0 dX12_rowOfSteps_7 rfl ?_
          refine mm_if_eq (tgt := 77) dX12_rowOfSteps_9 (by decide) (fun _ => ?_) (fun q => absurd (by decide) q)
          refine mm_iload_n 3 dX12_rowOfSteps_77 rfl rfl ?_
          refine mm_iret dX12_rowOfSteps_78 rfl ⟨Nat.le_refl _, Nat.le_refl _⟩ ?_
          rw [if_neg (nI_pos ha), if_neg (nI_pos ha), if_pos rfl, vv_nI (by omega)] at hq
          exact hq
set_option maxRecDepth 100000 in
set_option maxHeartbeats 600000 in
theorem cm_rowD {g : mm_G} {J : mm_I}  {p t : Nat} (ht : J 200 4 = nI t) (ht96 : t ≤ 96) (hB : tp_ok (J 203) t) (hrd : J 200 18 = nI p) (hp : p < 6) {D bs dd : Nat} (hD : bs + D = 4) (hd0 : 80 ≤ dd) {row : Int32 → rS → Int32 × rS} (hR : 0 < D → RowOK (J 203) t p row) (hRow : 0 < D → ∀ (ab : Int32) (S : rS) (d : Nat), S.1 = true → r1_ (J 203) t p S → dd ≤ d → mm_Ci g zX12_rowOfSteps d [.ref 200, .int ab] sh_S (rz J p t (bs + 1) S) (row ab S).1 (rz J p t (bs + 1) (row ab S).2)) : ∀ (ab : Int32) (S : rS) (d : Nat), S.1 = true → r1_ (J 203) t p S → dd + 3 ≤ d → mm_Ci g zX12_rowOfSteps d [.ref 200, .int ab] sh_S (rz J p t bs S) (r_lp (tK (J 203) t) p (r_one (tK (J 203) t) (tV (J 203) t) p D row ab) 97 (-1) (-1) S).1 (rz J p t bs (r_lp (tK (J 203) t) p (r_one (tK (J 203) t) (tV (J 203) t) p D row ab) 97 (-1) (-1) S).2) := by
  intro ab S d hb hS hd
  refine mm_Ci_of (fun Q hq => ?_)
  refine mm_begin (ls := [(0, .ref 200), (1, .int (ab))]) (Nat.le_of_ble_eq_true rfl) rfl rfl ?_
  refine mm_iconst (v := -1) dX12_rowOfSteps_0 rfl ?_
  refine mm_istore_n (ls' := [(2, .int (-1)), (0, .ref 200), (1, .int (ab))]) dX12_rowOfSteps_1 rfl (by decide) rfl ?_
  refine mm_iconst (v := -1) dX12_rowOfSteps_2 rfl ?_
  refine mm_istore_n (ls' := [(3, .int (-1)), (2, .int (-1)), (0, .ref 200), (1, .int (ab))]) dX12_rowOfSteps_3 rfl (by decide) rfl ?_
  refine mm_iconst (v := 1) dX12_rowOfSteps_4 rfl ?_
  refine mm_istore (ls' := [(4, .int (1)), (3, .int (-1)), (2, .int (-1)), (0, .ref 200), (1, .int (ab))]) dX12_rowOfSteps_5 (by decide) rfl ?_
  exact mm_sub [0, 1, 2, 3, 4] rfl (lm_row ht ht96 hB hrd hp hD hd0 hR hRow hd 97 (-1) (-1) S hb hS (by omega) (Or.inl rfl) hq)
theorem cm_row {g : mm_G} {J : mm_I}  {p t : Nat} (ht : J 200 4 = nI t) (ht96 : t ≤ 96) (hB : tp_ok (J 203) t) (hrd : J 200 18 = nI p) (hp : p < 6) : ∀ (D bs : Nat), bs + D = 4 → ∀ (ab : Int32) (S : rS) (d : Nat), S.1 = true → r1_ (J 203) t p S → 83 + 3 * D ≤ d → mm_Ci g zX12_rowOfSteps d [.ref 200, .int ab] sh_S (rz J p t bs S) (r_row (tK (J 203) t) (tV (J 203) t) p D ab S).1 (rz J p t bs (r_row (tK (J 203) t) (tV (J 203) t) p D ab S).2) := by
  intro D
  induction D with
  | zero =>
    intro bs hbs ab S d hb hS hd
    exact cm_rowD (D := 0) (row := fun _ S => (-1, S)) ht ht96 hB hrd hp hbs (dd := 80) (by decide) (fun h => absurd h (by decide)) (fun h => absurd h (by decide)) ab S d hb hS (by omega)
  | succ D ih =>
    intro bs hbs ab S d hb hS hd
    exact cm_rowD (D := D + 1) (row := r_row (tK (J 203) t) (tV (J 203) t) p D) ht ht96 hB hrd hp hbs (dd := 83 + 3 * D) (by omega) (fun _ => r_row_good ht96 hB D) (fun _ => ih (bs + 1) (by omega)) ab S d hb hS (by omega)
