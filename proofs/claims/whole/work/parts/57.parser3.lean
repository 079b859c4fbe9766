/-! THE CLASS: its reader, expressions -/
theorem tV_lt {T : Nat → Int32} {t k : Nat} (hB : tp_ok T t) (h : tK T t k = 401) : tV T t k < 10000 := by
  have hs := (tK_401 hB).mp h
  have hk := tq_good T t k
  have hlt := hk.2.2.2.2.1 (by omega)
  obtain ⟨hl, hd⟩ := hk.2.2.2.2.2 hs
  show tkv T (tq T t k) < 10000
  unfold tkv
  rw [if_pos hs]
  have := nvl_lt (T := T) (t := t) (f := (tq T t k).1) (n := (tq T t k).2.1 - (tq T t k).1) (fun i h1 h2 => hd i h1 (by omega))
  exact Nat.lt_of_lt_of_le this (Nat.le_trans (Nat.pow_le_pow_right (by decide) hl) (by decide))
theorem cp_exp {g : mm_G} {d : Nat} {I : mm_I} {T : Nat → Int32} {t : Nat} {ok : Bool} {k : Nat} {fr : Bool} {st : Nat} {Af : Nat → Int32} {an : Nat} {Sf : Nat → Int32} {sn : Nat} {Bf : Nat → Int32} {bn : Nat} {W : Nat} (hB : tp_ok T t) (hWR : WR I T t W) {c : Nat} {x : Int32} (hx : ckd (tK T t k) = x ↔ tK T t k = c) (hc : ¬ c = 400 ∧ ¬ c = 404) (hk : k ≤ W) (hd : 2 ≤ d) : mm_Cv g zX2_expect d [.ref 176, .int x] sh_S (cz I T t ok k fr st Af an Sf sn Bf bn) (cz I T t (rd_ (tK T t) c ok k).1 (rd_ (tK T t) c ok k).2 fr st Af an Sf sn Bf bn) := by
  refine mm_Cv_of (fun Q hq => ?_)
  refine mm_begin (ls := [(0, .ref 176), (1, .int (x))]) (Nat.le_of_ble_eq_true rfl) rfl rfl ?_
  have htq := tq_good T t k
  have ht9 := hB.1
  obtain ⟨hq1, hq2, -⟩ := id htq
  unfold rd_ at hq
  cases ok with
  | false =>
    rw [if_neg (by rintro ⟨q, -⟩; exact absurd q (by decide))] at hq
    refine mm_aload_n 0 dX2_expect_0 rfl rfl ?_
    refine mm_geti dX2_expect_1 rfl fk_X2_62 rfl so_176 ?_
    refine mm_top (v := nI ((tq T t k).1)) rfl ?_
    refine mm_if_geN ((tq T t k).1) (tgt := 22) dX2_expect_4 (by decide) (by omega) ?_
    refine mm_aload_n 0 dX2_expect_22 rfl rfl ?_
    refine mm_cV0v (dz := d - 1) dX2_expect_23 rfl mzX2_fail ml_X2_85 imX2_fail (by omega) so_176 ⟨rfl, rfl⟩ (cp_failF hB hWR (by omega)) (Nat.le_of_ble_eq_true rfl) ⟨Nat.le_refl _, Nat.le_refl _⟩ ?_
    refine mm_vret dX2_expect_26 rfl ⟨Nat.le_refl _, Nat.le_refl _⟩ ?_
    exact hq
  | true =>
    by_cases cK : tK T t k = c
    · have hlt := WR_lt hWR hk (by rw [cK]; exact hc.1) (by rw [cK]; exact hc.2)
      rw [if_pos ⟨rfl, cK⟩] at hq
      refine mm_aload_n 0 dX2_expect_0 rfl rfl ?_
      refine mm_geti dX2_expect_1 rfl fk_X2_62 rfl so_176 ?_
      refine mm_top (v := -1) rfl ?_
      refine mm_if_ge (tgt := 22) dX2_expect_4 (by decide) (fun q => absurd q (by decide)) (fun _ => ?_)
      refine mm_aload_n 0 dX2_expect_7 rfl rfl ?_
      refine mm_geti dX2_expect_8 rfl fk_X2_59 rfl so_176 ?_
      refine mm_top (v := ckd (tK T t k)) rfl ?_
      refine mm_iload_n 1 dX2_expect_11 rfl rfl ?_
      refine mm_icmp_ne (tgt := 22) dX2_expect_12 (by decide) (fun c12 => ?_) (fun c12 => ?_)
      · exact absurd (hx.mpr cK) c12
      · refine mm_aload_n 0 dX2_expect_15 rfl rfl ?_
        refine mm_cV0v (dz := d - 1) dX2_expect_16 rfl mzX2_advance ml_X2_82 imX2_advance (by omega) so_176 ⟨rfl, rfl⟩ (cp_adv hB hWR (by omega) (by omega)) (Nat.le_of_ble_eq_true rfl) ⟨Nat.le_refl _, Nat.le_refl _⟩ ?_
        refine mm_goto (tgt := 26) dX2_expect_19 (by decide) ?_
        refine mm_vret dX2_expect_26 rfl ⟨Nat.le_refl _, Nat.le_refl _⟩ ?_
        exact hq
    · rw [if_neg (fun q => cK q.2)] at hq
      refine mm_aload_n 0 dX2_expect_0 rfl rfl ?_
      refine mm_geti dX2_expect_1 rfl fk_X2_62 rfl so_176 ?_
      refine mm_top (v := -1) rfl ?_
      refine mm_if_ge (tgt := 22) dX2_expect_4 (by decide) (fun q => absurd q (by decide)) (fun _ => ?_)
      refine mm_aload_n 0 dX2_expect_7 rfl rfl ?_
      refine mm_geti dX2_expect_8 rfl fk_X2_59 rfl so_176 ?_
      refine mm_top (v := ckd (tK T t k)) rfl ?_
      refine mm_iload_n 1 dX2_expect_11 rfl rfl ?_
      refine mm_icmp_ne (tgt := 22) dX2_expect_12 (by decide) (fun c12 => ?_) (fun c12 => ?_)
      · refine mm_aload_n 0 dX2_expect_22 rfl rfl ?_
        refine mm_cV0v (dz := d - 1) dX2_expect_23 rfl mzX2_fail ml_X2_85 imX2_fail (by omega) so_176 ⟨rfl, rfl⟩ (cp_fail hB hWR hk (by omega)) (Nat.le_of_ble_eq_true rfl) ⟨Nat.le_refl _, Nat.le_refl _⟩ ?_
        refine mm_vret dX2_expect_26 rfl ⟨Nat.le_refl _, Nat.le_refl _⟩ ?_
        exact hq
      · exact absurd (hx.mp c12) cK
set_option maxRecDepth 100000 in
set_option maxHeartbeats 600000 in
theorem cp_num {g : mm_G} {d : Nat} {I : mm_I} {T : Nat → Int32} {t : Nat} {ok : Bool} {k : Nat} {fr : Bool} {st : Nat} {Af : Nat → Int32} {an : Nat} {Sf : Nat → Int32} {sn : Nat} {Bf : Nat → Int32} {bn : Nat} {W : Nat} (hB : tp_ok T t) (hWR : WR I T t W) (hk : k ≤ W) (hd : 3 ≤ d) : mm_Ci g zX2_readNumber d [.ref 176] sh_S (cz I T t ok k fr st Af an Sf sn Bf bn) (cv T t (tq T t k)) (cz I T t ((rd_ (tK T t) 401 ok k).1) ((rd_ (tK T t) 401 ok k).2) fr st Af an Sf sn Bf bn) := by
  have hW := hWR.1
  have hrg := ckd_i (tK_rng (k := k) hB)
  refine mm_Ci_of (fun Q hq => ?_)
  refine mm_begin (ls := [(0, .ref 176)]) (Nat.le_of_ble_eq_true rfl) rfl rfl ?_
  refine mm_aload_n 0 dX2_readNumber_0 rfl rfl ?_
  refine mm_getr (b := 177) dX2_readNumber_1 rfl fk_X2_14 rfl so_176 sr_176_0 ?_
  refine mm_getr (b := 180) dX2_readNumber_4 rfl fk_X2_88 rfl so_177 sr_177_2 ?_
  refine mm_aload_n 0 dX2_readNumber_7 rfl rfl ?_
  refine mm_geti dX2_readNumber_8 rfl fk_X2_49 rfl so_176 ?_
  refine mm_top (v := nI (k)) rfl ?_
  refine mm_cV1i (dz := d - 1) dX2_readNumber_11 rfl mzX5_at ml_X2_56 imX5_at (by omega) so_180 ⟨rfl, rfl⟩ (ct_at rw_180 (k) (by omega)) (Nat.le_of_ble_eq_true rfl) ⟨Nat.le_refl _, Nat.le_refl _⟩ ?_
  refine mm_top (v := cv T t (tq T t k)) (hWR.2.2.2 k (by omega)).2.1 ?_
  refine mm_istore_n (ls' := [(1, .int (cv T t (tq T t k))), (0, .ref 176)]) dX2_readNumber_14 rfl (by decide) rfl ?_
  refine mm_aload_n 1 dX2_readNumber_15 rfl rfl ?_
  refine mm_at (pc' := 16) rfl ?_
  refine mm_bipush (v := -102) dX2_readNumber_16 rfl ?_
  refine mm_cV1v (dz := d - 1) dX2_readNumber_18 rfl mzX2_expect ml_X2_91 imX2_expect (by omega) so_176 ⟨rfl, rfl⟩ (cp_exp (c := 401) hB hWR hrg.1 ⟨by decide, by decide⟩ hk (by omega)) (Nat.le_of_ble_eq_true rfl) ⟨Nat.le_refl _, Nat.le_refl _⟩ ?_
  refine mm_iload_n 0 dX2_readNumber_21 rfl rfl ?_
  refine mm_iret dX2_readNumber_22 rfl ⟨Nat.le_refl _, Nat.le_refl _⟩ ?_
  exact hq
set_option maxRecDepth 100000 in
set_option maxHeartbeats 600000 in
theorem cp_part {g : mm_G} {I : mm_I} {T : Nat → Int32} {t : Nat} {fr : Bool} {st : Nat} {Af : Nat → Int32} {an : Nat} {Bf : Nat → Int32} {bn W : Nat} (hB : tp_ok T t) (hWR : WR I T t W) {nP nE : Nat → Bool × Nat × List Nat} {br ns dd : Nat} (hoP : ∀ k, px_ok (tK T t) k (nP k)) (hoE : ∀ k, px_ok (tK T t) k (nE k)) (hwP : ∀ k, k ≤ W → (nP k).2.1 ≤ W) (hwE : ∀ k, k ≤ W → (nE k).2.1 ≤ W) (hd4 : 4 ≤ dd) (hbr8 : br ≤ 8) (hns8 : ns ≤ 8) (hP : ns < 8 → ∀ (k : Nat) (Sf : Nat → Int32) (sn d : Nat), dd ≤ d → k ≤ W → sn ≤ k → mm_Cv g zX2_readPart d [.ref 176, .int (nI br), .int (nI (ns + 1))] sh_S (cz I T t true k fr st Af an Sf sn Bf bn) (cz I T t ((nP k).1) ((nP k).2.1) fr st Af an (apl Sf sn (nP k).2.2) (sn + (nP k).2.2.length) Bf bn)) (hE : br < 8 → ∀ (k : Nat) (Sf : Nat → Int32) (sn d : Nat), dd ≤ d → k ≤ W → sn ≤ k → mm_Cv g zX2_readSides d [.ref 176, .int 0, .int (nI (br + 1)), .int (nI ns)] sh_S (cz I T t true k fr st Af an Sf sn Bf bn) (cz I T t ((nE k).1) ((nE k).2.1) fr st Af an (apl Sf sn (nE k).2.2) (sn + (nE k).2.2.length) Bf bn)) : ∀ (k : Nat) (Sf : Nat → Int32) (sn d : Nat), dd + 1 ≤ d → k ≤ W → sn ≤ k → mm_Cv g zX2_readPart d [.ref 176, .int (nI br), .int (nI ns)] sh_S (cz I T t true k fr st Af an Sf sn Bf bn) (cz I T t ((px5 (tK T t) (tV T t) nP nE br ns k).1) ((px5 (tK T t) (tV T t) nP nE br ns k).2.1) fr st Af an (apl Sf sn (px5 (tK T t) (tV T t) nP nE br ns k).2.2) (sn + (px5 (tK T t) (tV T t) nP nE br ns k).2.2.length) Bf bn) := by
  intro k Sf sn d hd hk hl
  have hW := hWR.1
  have hrg := ckd_i (tK_rng (k := k) hB)
  refine mm_Cv_of (fun Q hq => ?_)
  refine mm_begin (ls := [(0, .ref 176), (1, .int (nI (br))), (2, .int (nI (ns)))]) (Nat.le_of_ble_eq_true rfl) rfl rfl ?_
  by_cases cA : tK T t k = 401
  · have hlt := WR_lt hWR hk (by omega) (by omega)
    rw [px5, if_pos (Or.inl cA)] at hq
    replace hq : Q none sh_S (cz I T t true (k + 1) fr st Af an (upd Sf sn (cs_ (tV T t k))) (sn + 1) Bf bn) := hq
    refine mm_aload_n 0 dX2_readPart_0 rfl rfl ?_
    refine mm_geti dX2_readPart_1 rfl fk_X2_59 rfl so_176 ?_
    refine mm_top (v := ckd (tK T t k)) rfl ?_
    refine mm_bipush (v := -102) dX2_readPart_4 rfl ?_
    refine mm_icmp_eq (tgt := 18) dX2_readPart_6 (by decide) (fun c6 => ?_) (fun c6 => ?_)
    · refine mm_aload_n 0 dX2_readPart_18 rfl rfl ?_
      refine mm_getr (b := 177) dX2_readPart_19 rfl fk_X2_14 rfl so_176 sr_176_0 ?_
      refine mm_getr (b := 180) dX2_readPart_22 rfl fk_X2_88 rfl so_177 sr_177_2 ?_
      refine mm_aload_n 0 dX2_readPart_25 rfl rfl ?_
      refine mm_geti dX2_readPart_26 rfl fk_X2_49 rfl so_176 ?_
      refine mm_top (v := nI (k)) rfl ?_
      refine mm_cV1i (dz := d - 1) dX2_readPart_29 rfl mzX5_at ml_X2_56 imX5_at (by omega) so_180 ⟨rfl, rfl⟩ (ct_at rw_180 (k) (by omega)) (Nat.le_of_ble_eq_true rfl) ⟨Nat.le_refl _, Nat.le_refl _⟩ ?_
      refine mm_top (v := cv T t (tq T t k)) (hWR.2.2.2 k (by omega)).2.1 ?_
      refine mm_istore_n (ls' := [(3, .int (cv T t (tq T t k))), (0, .ref 176), (1, .int (nI (br))), (2, .int (nI (ns)))]) dX2_readPart_32 rfl (by decide) rfl ?_
      refine mm_aload_n 1 dX2_readPart_33 rfl rfl ?_
      refine mm_at (pc' := 34) rfl ?_
      refine mm_getr (b := 184) dX2_readPart_34 rfl fk_X2_23 rfl so_176 sr_176_1 ?_
      refine mm_getr (b := 187) dX2_readPart_37 rfl fk_X2_126 rfl so_184 sr_184_1 ?_
      refine mm_aload_n 1 dX2_readPart_40 rfl rfl ?_
      refine mm_geti dX2_readPart_41 rfl fk_X2_59 rfl so_176 ?_
      refine mm_top (v := ckd (tK T t k)) rfl ?_
      refine mm_bipush (v := -102) dX2_readPart_44 rfl ?_
      refine mm_icmp_ne (tgt := 53) dX2_readPart_46 (by decide) (fun c46 => ?_) (fun c46 => ?_)
      · exact absurd (hrg.1.mpr cA) c46
      · refine mm_iload_n 0 dX2_readPart_49 rfl rfl ?_
        refine mm_goto (tgt := 55) dX2_readPart_50 (by decide) ?_
        refine mm_cV1i (dz := d - 1) dX2_readPart_55 rfl mzX5_add ml_X2_94 imX5_add (by omega) so_187 ⟨rfl, rfl⟩ (cp_addS (by omega)) (Nat.le_of_ble_eq_true rfl) ⟨Nat.le_refl _, Nat.le_refl _⟩ ?_
        refine mm_pop dX2_readPart_58 rfl ?_
        refine mm_aload_n 1 dX2_readPart_59 rfl rfl ?_
        refine mm_cV0v (dz := d - 1) dX2_readPart_60 rfl mzX2_advance ml_X2_82 imX2_advance (by omega) so_176 ⟨rfl, rfl⟩ (cp_adv hB hWR (by omega) (by omega)) (Nat.le_of_ble_eq_true rfl) ⟨Nat.le_refl _, Nat.le_refl _⟩ ?_
        refine mm_goto (tgt := 150) dX2_readPart_63 (by decide) ?_
        refine mm_vret dX2_readPart_150 rfl ⟨Nat.le_refl _, Nat.le_refl _⟩ ?_
        rw [show cs_ (tV T t k) = cv T t (tq T t k) by rw [cv_num hB cA]; unfold cs_; rw [if_pos (tV_lt hB cA)]] at hq
        exact hq
    · exact absurd (hrg.1.mpr cA) c6
  by_cases cB : tK T t k = 402
  · have hlt := WR_lt hWR hk (by omega) (by omega)
    rw [px5, if_pos (Or.inr cB)] at hq
    replace hq : Q none sh_S (cz I T t true (k + 1) fr st Af an (upd Sf sn (cs_ (tV T t k))) (sn + 1) Bf bn) := hq
    refine mm_aload_n 0 dX2_readPart_0 rfl rfl ?_
    refine mm_geti dX2_readPart_1 rfl fk_X2_59 rfl so_176 ?_
    refine mm_top (v := ckd (tK T t k)) rfl ?_
    refine mm_bipush (v := -102) dX2_readPart_4 rfl ?_
    refine mm_icmp_eq (tgt := 18) dX2_readPart_6 (by decide) (fun c6 => ?_) (fun c6 => ?_)
    · refine mm_aload_n 0 dX2_readPart_18 rfl rfl ?_
      refine mm_getr (b := 177) dX2_readPart_19 rfl fk_X2_14 rfl so_176 sr_176_0 ?_
      refine mm_getr (b := 180) dX2_readPart_22 rfl fk_X2_88 rfl so_177 sr_177_2 ?_
      refine mm_aload_n 0 dX2_readPart_25 rfl rfl ?_
      refine mm_geti dX2_readPart_26 rfl fk_X2_49 rfl so_176 ?_
      refine mm_top (v := nI (k)) rfl ?_
      refine mm_cV1i (dz := d - 1) dX2_readPart_29 rfl mzX5_at ml_X2_56 imX5_at (by omega) so_180 ⟨rfl, rfl⟩ (ct_at rw_180 (k) (by omega)) (Nat.le_of_ble_eq_true rfl) ⟨Nat.le_refl _, Nat.le_refl _⟩ ?_
      refine mm_top (v := cv T t (tq T t k)) (hWR.2.2.2 k (by omega)).2.1 ?_
      refine mm_istore_n (ls' := [(3, .int (cv T t (tq T t k))), (0, .ref 176), (1, .int (nI (br))), (2, .int (nI (ns)))]) dX2_readPart_32 rfl (by decide) rfl ?_
      refine mm_aload_n 1 dX2_readPart_33 rfl rfl ?_
      refine mm_at (pc' := 34) rfl ?_
      refine mm_getr (b := 184) dX2_readPart_34 rfl fk_X2_23 rfl so_176 sr_176_1 ?_
      refine mm_getr (b := 187) dX2_readPart_37 rfl fk_X2_126 rfl so_184 sr_184_1 ?_
      refine mm_aload_n 1 dX2_readPart_40 rfl rfl ?_
      refine mm_geti dX2_readPart_41 rfl fk_X2_59 rfl so_176 ?_
      refine mm_top (v := ckd (tK T t k)) rfl ?_
      refine mm_bipush (v := -102) dX2_readPart_44 rfl ?_
      refine mm_icmp_ne (tgt := 53) dX2_readPart_46 (by decide) (fun c46 => ?_) (fun c46 => ?_)
      · refine mm_iload_n 0 dX2_readPart_53 rfl rfl ?_
        refine mm_ineg dX2_readPart_54 ?_
        refine mm_cV1i (dz := d - 1) dX2_readPart_55 rfl mzX5_add ml_X2_94 imX5_add (by omega) so_187 ⟨rfl, rfl⟩ (cp_addS (by omega)) (Nat.le_of_ble_eq_true rfl) ⟨Nat.le_refl _, Nat.le_refl _⟩ ?_
        refine mm_pop dX2_readPart_58 rfl ?_
        refine mm_aload_n 1 dX2_readPart_59 rfl rfl ?_
        refine mm_cV0v (dz := d - 1) dX2_readPart_60 rfl mzX2_advance ml_X2_82 imX2_advance (by omega) so_176 ⟨rfl, rfl⟩ (cp_adv hB hWR (by omega) (by omega)) (Nat.le_of_ble_eq_true rfl) ⟨Nat.le_refl _, Nat.le_refl _⟩ ?_
        refine mm_goto (tgt := 150) dX2_readPart_63 (by decide) ?_
        refine mm_vret dX2_readPart_150 rfl ⟨Nat.le_refl _, Nat.le_refl _⟩ ?_
        rw [← cv_nm hB cB] at hq
        exact hq
      · exact absurd (hrg.1.mp c46) cA
    · refine mm_aload_n 0 dX2_readPart_9 rfl rfl ?_
      refine mm_geti dX2_readPart_10 rfl fk_X2_59 rfl so_176 ?_
      refine mm_top (v := ckd (tK T t k)) rfl ?_
      refine mm_bipush (v := -103) dX2_readPart_13 rfl ?_
      refine mm_icmp_ne (tgt := 66) dX2_readPart_15 (by decide) (fun c15 => ?_) (fun c15 => ?_)
      · exact absurd (hrg.2.1.mpr cB) c15
      · refine mm_aload_n 0 dX2_readPart_18 rfl rfl ?_
        refine mm_getr (b := 177) dX2_readPart_19 rfl fk_X2_14 rfl so_176 sr_176_0 ?_
        refine mm_getr (b := 180) dX2_readPart_22 rfl fk_X2_88 rfl so_177 sr_177_2 ?_
        refine mm_aload_n 0 dX2_readPart_25 rfl rfl ?_
        refine mm_geti dX2_readPart_26 rfl fk_X2_49 rfl so_176 ?_
        refine mm_top (v := nI (k)) rfl ?_
        refine mm_cV1i (dz := d - 1) dX2_readPart_29 rfl mzX5_at ml_X2_56 imX5_at (by omega) so_180 ⟨rfl, rfl⟩ (ct_at rw_180 (k) (by omega)) (Nat.le_of_ble_eq_true rfl) ⟨Nat.le_refl _, Nat.le_refl _⟩ ?_
        refine mm_top (v := cv T t (tq T t k)) (hWR.2.2.2 k (by omega)).2.1 ?_
        refine mm_istore_n (ls' := [(3, .int (cv T t (tq T t k))), (0, .ref 176), (1, .int (nI (br))), (2, .int (nI (ns)))]) dX2_readPart_32 rfl (by decide) rfl ?_
        refine mm_at (pc' := 33) rfl ?_
        refine mm_aload_n 1 dX2_readPart_33 rfl rfl ?_
        refine mm_getr (b := 184) dX2_readPart_34 rfl fk_X2_23 rfl so_176 sr_176_1 ?_
        refine mm_getr (b := 187) dX2_readPart_37 rfl fk_X2_126 rfl so_184 sr_184_1 ?_
        refine mm_aload_n 1 dX2_readPart_40 rfl rfl ?_
        refine mm_geti dX2_readPart_41 rfl fk_X2_59 rfl so_176 ?_
        refine mm_top (v := ckd (tK T t k)) rfl ?_
        refine mm_bipush (v := -102) dX2_readPart_44 rfl ?_
        refine mm_icmp_ne (tgt := 53) dX2_readPart_46 (by decide) (fun c46 => ?_) (fun c46 => ?_)
        · refine mm_iload_n 0 dX2_readPart_53 rfl rfl ?_
          refine mm_ineg dX2_readPart_54 ?_
          refine mm_cV1i (dz := d - 1) dX2_readPart_55 rfl mzX5_add ml_X2_94 imX5_add (by omega) so_187 ⟨rfl, rfl⟩ (cp_addS (by omega)) (Nat.le_of_ble_eq_true rfl) ⟨Nat.le_refl _, Nat.le_refl _⟩ ?_
          refine mm_pop dX2_readPart_58 rfl ?_
          refine mm_aload_n 1 dX2_readPart_59 rfl rfl ?_
          refine mm_cV0v (dz := d - 1) dX2_readPart_60 rfl mzX2_advance ml_X2_82 imX2_advance (by omega) so_176 ⟨rfl, rfl⟩ (cp_adv hB hWR (by omega) (by omega)) (Nat.le_of_ble_eq_true rfl) ⟨Nat.le_refl _, Nat.le_refl _⟩ ?_
          refine mm_goto (tgt := 150) dX2_readPart_63 (by decide) ?_
          refine mm_vret dX2_readPart_150 rfl ⟨Nat.le_refl _, Nat.le_refl _⟩ ?_
          rw [← cv_nm hB cB] at hq
          exact hq
        · exact absurd (hrg.1.mp c46) cA
  by_cases cC : tK T t k = 33 ∧ ns < 8
  · have hlt := WR_lt hWR hk (by omega) (by omega)
    have hns := cC.2
    rw [px5, if_neg (by omega), if_pos cC] at hq
    obtain ⟨h1, h2, h3, h4⟩ := hoP (k + 1)
    have h5 := hwP (k + 1) (by omega)
    replace hq : Q none sh_S (cz I T t ((nP (k + 1)).1) ((nP (k + 1)).2.1) fr st Af an (apl Sf sn ((nP (k + 1)).2.2 ++ [20008])) (sn + ((nP (k + 1)).2.2 ++ [20008]).length) Bf bn) := hq
    rw [apl_app] at hq
    refine mm_aload_n 0 dX2_readPart_0 rfl rfl ?_
    refine mm_geti dX2_readPart_1 rfl fk_X2_59 rfl so_176 ?_
    refine mm_top (v := ckd (tK T t k)) rfl ?_
    refine mm_bipush (v := -102) dX2_readPart_4 rfl ?_
    refine mm_icmp_eq (tgt := 18) dX2_readPart_6 (by decide) (fun c6 => ?_) (fun c6 => ?_)
    · first | exact absurd (hrg.1.mp c6) cA | exact absurd (hrg.2.1.mp c15) cB
    · refine mm_aload_n 0 dX2_readPart_9 rfl rfl ?_
      refine mm_geti dX2_readPart_10 rfl fk_X2_59 rfl so_176 ?_
      refine mm_top (v := ckd (tK T t k)) rfl ?_
      refine mm_bipush (v := -103) dX2_readPart_13 rfl ?_
      refine mm_icmp_ne (tgt := 66) dX2_readPart_15 (by decide) (fun c15 => ?_) (fun c15 => ?_)
      · refine mm_aload_n 0 dX2_readPart_66 rfl rfl ?_
        refine mm_geti dX2_readPart_67 rfl fk_X2_59 rfl so_176 ?_
        refine mm_top (v := ckd (tK T t k)) rfl ?_
        refine mm_bipush (v := 33) dX2_readPart_70 rfl ?_
        refine mm_icmp_ne (tgt := 109) dX2_readPart_72 (by decide) (fun c72 => ?_) (fun c72 => ?_)
        · first | exact absurd (hrg.2.2.1.mpr cC.1) c72 | omega
        · refine mm_iload_n 2 dX2_readPart_75 rfl rfl ?_
          refine mm_bipush (v := 8) dX2_readPart_76 rfl ?_
          refine mm_icmp_geN (ns) (8) (tgt := 109) dX2_readPart_78 (by decide) (by omega) (by omega) (fun c78 => ?_) (fun c78 => ?_)
          · first | exact absurd (hrg.2.2.1.mpr cC.1) c72 | omega
          · refine mm_aload_n 0 dX2_readPart_81 rfl rfl ?_
            refine mm_cV0v (dz := d - 1) dX2_readPart_82 rfl mzX2_advance ml_X2_82 imX2_advance (by omega) so_176 ⟨rfl, rfl⟩ (cp_adv hB hWR (by omega) (by omega)) (Nat.le_of_ble_eq_true rfl) ⟨Nat.le_refl _, Nat.le_refl _⟩ ?_
            refine mm_aload_n 0 dX2_readPart_85 rfl rfl ?_
            refine mm_iload_n 1 dX2_readPart_86 rfl rfl ?_
            refine mm_iload_n 2 dX2_readPart_87 rfl rfl ?_
            refine mm_iconst (v := 1) dX2_readPart_88 rfl ?_
            refine mm_iaddN (ns) (1) dX2_readPart_89 ?_
            refine mm_at (pc' := 90) rfl ?_
            refine mm_cV2v (dz := d - 1) dX2_readPart_90 rfl mzX2_readPart ml_X2_133 imX2_readPart (by omega) so_176 ⟨rfl, rfl⟩ (hP hns (k + 1) Sf sn (d - 1) (by omega) (by omega) (by omega)) (Nat.le_of_ble_eq_true rfl) ⟨Nat.le_refl _, Nat.le_refl _⟩ ?_
            refine mm_aload_n 0 dX2_readPart_93 rfl rfl ?_
            refine mm_getr (b := 184) dX2_readPart_94 rfl fk_X2_23 rfl so_176 sr_176_1 ?_
            refine mm_getr (b := 187) dX2_readPart_97 rfl fk_X2_126 rfl so_184 sr_184_1 ?_
            refine mm_bipush (v := -33) dX2_readPart_100 rfl ?_
            refine mm_cV1i (dz := d - 1) dX2_readPart_102 rfl mzX5_add ml_X2_94 imX5_add (by omega) so_187 ⟨rfl, rfl⟩ (cp_addS (by omega)) (Nat.le_of_ble_eq_true rfl) ⟨Nat.le_refl _, Nat.le_refl _⟩ ?_
            refine mm_pop dX2_readPart_105 rfl ?_
            refine mm_goto (tgt := 150) dX2_readPart_106 (by decide) ?_
            refine mm_vret dX2_readPart_150 rfl ⟨Nat.le_refl _, Nat.le_refl _⟩ ?_
            rw [List.length_append] at hq
            exact hq
      · first | exact absurd (hrg.1.mp c6) cA | exact absurd (hrg.2.1.mp c15) cB
  by_cases cD : tK T t k = 40 ∧ br < 8
  · have hlt := WR_lt hWR hk (by omega) (by omega)
    have hbr := cD.2
    rw [px5, if_neg (by omega), if_neg (by omega), if_pos cD] at hq
    have h5 := hwE (k + 1) (by omega)
    have hrg2 := ckd_i (tK_rng (k := (nE (k + 1)).2.1) hB)
    replace hq : Q none sh_S (cz I T t ((rd_ (tK T t) 41 (nE (k + 1)).1 (nE (k + 1)).2.1).1) ((rd_ (tK T t) 41 (nE (k + 1)).1 (nE (k + 1)).2.1).2) fr st Af an (apl Sf sn (nE (k + 1)).2.2) (sn + (nE (k + 1)).2.2.length) Bf bn) := by
      unfold px_b at hq; unfold rd_
      by_cases c5 : (nE (k + 1)).1 = true ∧ tK T t (nE (k + 1)).2.1 = 41
      · rw [if_pos c5] at hq ⊢; exact hq
      · rw [if_neg c5] at hq ⊢; exact hq
    refine mm_aload_n 0 dX2_readPart_0 rfl rfl ?_
    refine mm_geti dX2_readPart_1 rfl fk_X2_59 rfl so_176 ?_
    refine mm_top (v := ckd (tK T t k)) rfl ?_
    refine mm_bipush (v := -102) dX2_readPart_4 rfl ?_
    refine mm_icmp_eq (tgt := 18) dX2_readPart_6 (by decide) (fun c6 => ?_) (fun c6 => ?_)
    · first | exact absurd (hrg.1.mp c6) cA | exact absurd (hrg.2.1.mp c15) cB
    · refine mm_aload_n 0 dX2_readPart_9 rfl rfl ?_
      refine mm_geti dX2_readPart_10 rfl fk_X2_59 rfl so_176 ?_
      refine mm_top (v := ckd (tK T t k)) rfl ?_
      refine mm_bipush (v := -103) dX2_readPart_13 rfl ?_
      refine mm_icmp_ne (tgt := 66) dX2_readPart_15 (by decide) (fun c15 => ?_) (fun c15 => ?_)
      · refine mm_aload_n 0 dX2_readPart_66 rfl rfl ?_
        refine mm_geti dX2_readPart_67 rfl fk_X2_59 rfl so_176 ?_
        refine mm_top (v := ckd (tK T t k)) rfl ?_
        refine mm_bipush (v := 33) dX2_readPart_70 rfl ?_
        refine mm_icmp_ne (tgt := 109) dX2_readPart_72 (by decide) (fun c72 => ?_) (fun c72 => ?_)
        · refine mm_aload_n 0 dX2_readPart_109 rfl rfl ?_
          refine mm_geti dX2_readPart_110 rfl fk_X2_59 rfl so_176 ?_
          refine mm_top (v := ckd (tK T t k)) rfl ?_
          refine mm_bipush (v := 40) dX2_readPart_113 rfl ?_
          refine mm_icmp_ne (tgt := 146) dX2_readPart_115 (by decide) (fun c115 => ?_) (fun c115 => ?_)
          · first | exact absurd (hrg.2.2.2.1.mpr cD.1) c115 | omega
          · refine mm_iload_n 1 dX2_readPart_118 rfl rfl ?_
            refine mm_bipush (v := 8) dX2_readPart_119 rfl ?_
            refine mm_icmp_geN (br) (8) (tgt := 146) dX2_readPart_121 (by decide) (by omega) (by omega) (fun c121 => ?_) (fun c121 => ?_)
            · first | exact absurd (hrg.2.2.2.1.mpr cD.1) c115 | omega
            · refine mm_aload_n 0 dX2_readPart_124 rfl rfl ?_
              refine mm_cV0v (dz := d - 1) dX2_readPart_125 rfl mzX2_advance ml_X2_82 imX2_advance (by omega) so_176 ⟨rfl, rfl⟩ (cp_adv hB hWR (by omega) (by omega)) (Nat.le_of_ble_eq_true rfl) ⟨Nat.le_refl _, Nat.le_refl _⟩ ?_
              refine mm_aload_n 0 dX2_readPart_128 rfl rfl ?_
              refine mm_iconst (v := 0) dX2_readPart_129 rfl ?_
              refine mm_iload_n 1 dX2_readPart_130 rfl rfl ?_
              refine mm_iconst (v := 1) dX2_readPart_131 rfl ?_
              refine mm_iaddN (br) (1) dX2_readPart_132 ?_
              refine mm_at (pc' := 133) rfl ?_
              refine mm_iload_n 2 dX2_readPart_133 rfl rfl ?_
              refine mm_cV3v (dz := d - 1) dX2_readPart_134 rfl mzX2_readSides ml_X2_129 imX2_readSides (by omega) so_176 ⟨rfl, rfl⟩ (hE hbr (k + 1) Sf sn (d - 1) (by omega) (by omega) (by omega)) (Nat.le_of_ble_eq_true rfl) ⟨Nat.le_refl _, Nat.le_refl _⟩ ?_
              refine mm_aload_n 0 dX2_readPart_137 rfl rfl ?_
              refine mm_bipush (v := 41) dX2_readPart_138 rfl ?_
              refine mm_cV1v (dz := d - 1) dX2_readPart_140 rfl mzX2_expect ml_X2_91 imX2_expect (by omega) so_176 ⟨rfl, rfl⟩ (cp_exp (c := 41) hB hWR hrg2.2.2.2.2.1 ⟨by decide, by decide⟩ h5 (by omega)) (Nat.le_of_ble_eq_true rfl) ⟨Nat.le_refl _, Nat.le_refl _⟩ ?_
              refine mm_goto (tgt := 150) dX2_readPart_143 (by decide) ?_
              refine mm_vret dX2_readPart_150 rfl ⟨Nat.le_refl _, Nat.le_refl _⟩ ?_
              exact hq
        · exact absurd (hrg.2.2.1.mp c72) (by omega)
      · first | exact absurd (hrg.1.mp c6) cA | exact absurd (hrg.2.1.mp c15) cB
  rw [px5, if_neg (by omega), if_neg cC, if_neg cD] at hq
  refine mm_aload_n 0 dX2_readPart_0 rfl rfl ?_
  refine mm_geti dX2_readPart_1 rfl fk_X2_59 rfl so_176 ?_
  refine mm_top (v := ckd (tK T t k)) rfl ?_
  refine mm_bipush (v := -102) dX2_readPart_4 rfl ?_
  refine mm_icmp_eq (tgt := 18) dX2_readPart_6 (by decide) (fun c6 => ?_) (fun c6 => ?_)
  · first | exact absurd (hrg.1.mp c6) cA | exact absurd (hrg.2.1.mp c15) cB
  · refine mm_aload_n 0 dX2_readPart_9 rfl rfl ?_
    refine mm_geti dX2_readPart_10 rfl fk_X2_59 rfl so_176 ?_
    refine mm_top (v := ckd (tK T t k)) rfl ?_
    refine mm_bipush (v := -103) dX2_readPart_13 rfl ?_
    refine mm_icmp_ne (tgt := 66) dX2_readPart_15 (by decide) (fun c15 => ?_) (fun c15 => ?_)
    · refine mm_aload_n 0 dX2_readPart_66 rfl rfl ?_
      refine mm_geti dX2_readPart_67 rfl fk_X2_59 rfl so_176 ?_
      refine mm_top (v := ckd (tK T t k)) rfl ?_
      refine mm_bipush (v := 33) dX2_readPart_70 rfl ?_
      refine mm_icmp_ne (tgt := 109) dX2_readPart_72 (by decide) (fun c72 => ?_) (fun c72 => ?_)
      · refine mm_aload_n 0 dX2_readPart_109 rfl rfl ?_
        refine mm_geti dX2_readPart_110 rfl fk_X2_59 rfl so_176 ?_
        refine mm_top (v := ckd (tK T t k)) rfl ?_
        refine mm_bipush (v := 40) dX2_readPart_113 rfl ?_
        refine mm_icmp_ne (tgt := 146) dX2_readPart_115 (by decide) (fun c115 => ?_) (fun c115 => ?_)
        · refine mm_aload_n 0 dX2_readPart_146 rfl rfl ?_
          refine mm_cV0v (dz := d - 1) dX2_readPart_147 rfl mzX2_fail ml_X2_85 imX2_fail (by omega) so_176 ⟨rfl, rfl⟩ (cp_fail hB hWR hk (by omega)) (Nat.le_of_ble_eq_true rfl) ⟨Nat.le_refl _, Nat.le_refl _⟩ ?_
          refine mm_vret dX2_readPart_150 rfl ⟨Nat.le_refl _, Nat.le_refl _⟩ ?_
          exact hq
        · refine mm_iload_n 1 dX2_readPart_118 rfl rfl ?_
          refine mm_bipush (v := 8) dX2_readPart_119 rfl ?_
          refine mm_icmp_geN (br) (8) (tgt := 146) dX2_readPart_121 (by decide) (by omega) (by omega) (fun c121 => ?_) (fun c121 => ?_)
          · refine mm_aload_n 0 dX2_readPart_146 rfl rfl ?_
            refine mm_cV0v (dz := d - 1) dX2_readPart_147 rfl mzX2_fail ml_X2_85 imX2_fail (by omega) so_176 ⟨rfl, rfl⟩ (cp_fail hB hWR hk (by omega)) (Nat.le_of_ble_eq_true rfl) ⟨Nat.le_refl _, Nat.le_refl _⟩ ?_
            refine mm_vret dX2_readPart_150 rfl ⟨Nat.le_refl _, Nat.le_refl _⟩ ?_
            exact hq
          · exact absurd ⟨hrg.2.2.2.1.mp c115, by omega⟩ cD
      · refine mm_iload_n 2 dX2_readPart_75 rfl rfl ?_
        refine mm_bipush (v := 8) dX2_readPart_76 rfl ?_
        refine mm_icmp_geN (ns) (8) (tgt := 109) dX2_readPart_78 (by decide) (by omega) (by omega) (fun c78 => ?_) (fun c78 => ?_)
        · refine mm_aload_n 0 dX2_readPart_109 rfl rfl ?_
          refine mm_geti dX2_readPart_110 rfl fk_X2_59 rfl so_176 ?_
          refine mm_top (v := ckd (tK T t k)) rfl ?_
          refine mm_bipush (v := 40) dX2_readPart_113 rfl ?_
          refine mm_icmp_ne (tgt := 146) dX2_readPart_115 (by decide) (fun c115 => ?_) (fun c115 => ?_)
          · refine mm_aload_n 0 dX2_readPart_146 rfl rfl ?_
            refine mm_cV0v (dz := d - 1) dX2_readPart_147 rfl mzX2_fail ml_X2_85 imX2_fail (by omega) so_176 ⟨rfl, rfl⟩ (cp_fail hB hWR hk (by omega)) (Nat.le_of_ble_eq_true rfl) ⟨Nat.le_refl _, Nat.le_refl _⟩ ?_
            refine mm_vret dX2_readPart_150 rfl ⟨Nat.le_refl _, Nat.le_refl _⟩ ?_
            exact hq
          · refine mm_iload_n 1 dX2_readPart_118 rfl rfl ?_
            refine mm_bipush (v := 8) dX2_readPart_119 rfl ?_
            refine mm_icmp_geN (br) (8) (tgt := 146) dX2_readPart_121 (by decide) (by omega) (by omega) (fun c121 => ?_) (fun c121 => ?_)
            · refine mm_aload_n 0 dX2_readPart_146 rfl rfl ?_
              refine mm_cV0v (dz := d - 1) dX2_readPart_147 rfl mzX2_fail ml_X2_85 imX2_fail (by omega) so_176 ⟨rfl, rfl⟩ (cp_fail hB hWR hk (by omega)) (Nat.le_of_ble_eq_true rfl) ⟨Nat.le_refl _, Nat.le_refl _⟩ ?_
              refine mm_vret dX2_readPart_150 rfl ⟨Nat.le_refl _, Nat.le_refl _⟩ ?_
              exact hq
            · exact absurd ⟨hrg.2.2.2.1.mp c115, by omega⟩ cD
        · exact absurd ⟨hrg.2.2.1.mp c72, by omega⟩ cC
    · first | exact absurd (hrg.1.mp c6) cA | exact absurd (hrg.2.1.mp c15) cB
