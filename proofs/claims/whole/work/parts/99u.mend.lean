/-! THE CLASS: mend, go -/
theorem md_o_no {N : Nat → Int32} {x b : Int32} : ∀ n, (∀ i, i < n → ¬ N (630 + 40 * i + 1) = x) → md_o N x b n = b := by
  intro n
  induction n with
  | zero => intro _; rfl
  | succ n ih => intro h; unfold md_o; rw [ih (fun i hi => h i (by omega)), if_neg (fun q => h n (by omega) q.1.2.symm)]
theorem md_o_eq {N : Nat → Int32} {x b : Int32} : ∀ n, n ≤ 5 → mo_D N n → md_o N x b n = if 0 ≤ x ∧ 0 ≤ sp_mo N x n ∧ 0 < N (630 + 40 * vv (sp_mo N x n) + 3) ∧ (b < 0 ∨ N (630 + 40 * vv b + 3) < N (630 + 40 * vv (sp_mo N x n) + 3)) then sp_mo N x n else b := by
  intro n
  induction n with
  | zero => intro _ _; rw [if_neg (fun q => absurd q.2.1 (by show ¬ (0 : Int32) ≤ -1; decide))]; rfl
  | succ n ih =>
    intro h5 hD
    by_cases e : N (630 + 40 * n + 1) = x
    · have e1 : md_o N x b n = b := md_o_no n (fun i hi q => hD i n hi (by omega) (q.trans e.symm))
      have e2 : sp_mo N x (n + 1) = nI n := by unfold sp_mo; rw [if_pos e]
      rw [e2, vv_nI (by omega)]
      unfold md_o
      rw [e1]
      by_cases c : (0 ≤ x ∧ x = N (630 + 40 * n + 1)) ∧ 0 < N (630 + 40 * n + 3) ∧ (b < 0 ∨ N (630 + 40 * vv b + 3) < N (630 + 40 * n + 3))
      · rw [if_pos c, if_pos ⟨c.1.1, nI_pos' (by omega), c.2⟩]
      · rw [if_neg c, if_neg (fun q => c ⟨⟨q.1, e.symm⟩, q.2.2⟩)]
    · have e2 : sp_mo N x (n + 1) = sp_mo N x n := by rw [sp_mo, if_neg e]
      rw [e2, ← ih (by omega) (fun i j h1 h2 => hD i j h1 (by omega)), md_o, if_neg (fun q => e q.1.2.symm)]
def mwV (b : Int32) : Value := if b < 0 then .null else .ref (36 + 3 * vv b)
theorem sp_mo_in {N : Nat → Int32} {x : Int32} : ∀ n, sp_mo N x n = -1 ∨ ∃ i, i < n ∧ sp_mo N x n = nI i := by
  intro n
  induction n with
  | zero => exact Or.inl rfl
  | succ n ih =>
    unfold sp_mo
    by_cases e : N (630 + 40 * n + 1) = x
    · rw [if_pos e]; exact Or.inr ⟨n, by omega, rfl⟩
    · rw [if_neg e]; rcases ih with h | ⟨i, h1, h2⟩
      · exact Or.inl h
      · exact Or.inr ⟨i, by omega, h2⟩
theorem sp_mo_m1 {N : Nat → Int32} {n c : Nat} (hC : mo_C N n c) (hc : c ≤ 80) : sp_mo N (-1) n = -1 := sp_mo_no n (fun i hi q => by
  obtain ⟨x, hx, e⟩ := hC i hi
  rw [e] at q
  have := nI_pos' (n := x) (by omega)
  rw [q] at this; exact absurd this (by decide))
theorem nI_pos1 {q : Nat} (h : 0 < nI q) (h2 : q < 2 ^ 31) : 0 < q := by
  have := (nI_ltI (a := 0) (b := q) (by decide) h2).mp h; exact this
theorem lt_trans_i {a b c : Int32} (h : a < b) (h2 : b < c) : a < c := by rw [Int32.lt_iff_toInt_lt] at *; omega
set_option maxRecDepth 100000 in
set_option maxHeartbeats 600000 in
theorem lg_mw {g : mm_G} {d : Nat} {w h n l k o r : Nat} {A : mm_I} {N : Nat → Int32} (hz : zOK (w * h) n l k o r) (hW : mo_W N w h) {Q : Option Value → mm_Sh → mm_I → Prop} {c : Nat} (hcc : c < w * h) (hD : mo_D N n) (hC : mo_C N n (w * h)) (hB : mo_B N n) (hd : 3 ≤ d) (hq : Q (some (mwV (md_w N w h c n 4))) sh_S (cN (w * h) n l k o r A N)) : ∀ mf : Nat, (∀ y, y ≤ 4 → md_w N w h c n y = -1 → 4 - y < mf → mm_Ex g zX6_mostWornBeside d (0, 0) (0, 0) sh_S (cN (w * h) n l k o r A N) 7 [(4, .int (nI (y))), (3, .int (0)), (2, .null), (0, .ref 171), (1, .int (nI (c)))] [] Q) ∧ (∀ y u, y ≤ 4 → u < n → md_w N w h c n y = nI u → 0 < N (630 + 40 * u + 3) → 4 - y < mf → mm_Ex g zX6_mostWornBeside d (0, 0) (0, 0) sh_S (cN (w * h) n l k o r A N) 7 [(4, .int (nI (y))), (3, .int (N (630 + 40 * u + 3))), (2, .ref (36 + 3 * u)), (0, .ref 171), (1, .int (nI (c)))] [] Q) := by
  obtain ⟨hz1, hz2, hz3, hz4, hz5, hz6⟩ := id hz
  have hc := mo_W_c hW
  obtain ⟨-, -, hw1, hw2, hh1, hh2⟩ := id hW
  intro mf
  induction mf with
  | zero => exact ⟨fun y _ _ hmz => absurd hmz (Nat.not_lt_zero _), fun y u _ _ _ _ hmz => absurd hmz (Nat.not_lt_zero _)⟩
  | succ mf ih =>
    have hst : ∀ y, md_w N w h c n (y + 1) = if 0 ≤ sp_be w h c y ∧ 0 ≤ sp_mo N (sp_be w h c y) n ∧ 0 < N (630 + 40 * vv (sp_mo N (sp_be w h c y) n) + 3) ∧ (md_w N w h c n y < 0 ∨ N (630 + 40 * vv (md_w N w h c n y) + 3) < N (630 + 40 * vv (sp_mo N (sp_be w h c y) n) + 3)) then sp_mo N (sp_be w h c y) n else md_w N w h c n y := fun y => md_o_eq n hz2 hD
    have hbe : ∀ y, ¬ 0 ≤ sp_be w h c y → sp_mo N (sp_be w h c y) n = -1 := fun y hy => by
      have e : sp_be w h c y = -1 := by
        rcases sp_be_in (way := y) (show 0 < w by omega) hcc with e | ⟨x, hx, e⟩
        · exact e
        · rw [e] at hy; exact absurd (nI_pos' (by omega)) hy
      rw [e]; exact sp_mo_m1 hC (by omega)
    refine ⟨fun y hy hmd hmz => ?_, fun y u hy hu hmd hpos hmz => ?_⟩
    · refine mm_iload 0 dX6_mostWornBeside_7 rfl ?_
      refine mm_iconst (v := 4) dX6_mostWornBeside_9 rfl ?_
      refine mm_icmp_geN (y) (4) (tgt := 71) dX6_mostWornBeside_10 (by decide) (by omega) (by omega) (fun c10 => ?_) (fun c10 => ?_)
      · refine mm_aloadN_n 2 dX6_mostWornBeside_71 rfl rfl ?_
        refine mm_aret dX6_mostWornBeside_72 rfl (Or.inl ⟨_, rfl⟩) (Or.inl rfl) ⟨Nat.le_refl _, Nat.le_refl _⟩ ?_
        have e : y = 4 := by omega
        subst e
        rw [hmd] at hq; exact hq
      · refine mm_aload_n 3 dX6_mostWornBeside_13 rfl rfl ?_
        refine mm_getr (b := 1) dX6_mostWornBeside_14 rfl fk_X6_9 rfl so_171 sr_171_0 ?_
        refine mm_aload_n 3 dX6_mostWornBeside_17 rfl rfl ?_
        refine mm_getr (b := 1) dX6_mostWornBeside_18 rfl fk_X6_9 rfl so_171 sr_171_0 ?_
        refine mm_aload_n 3 dX6_mostWornBeside_21 rfl rfl ?_
        refine mm_getr (b := 1) dX6_mostWornBeside_22 rfl fk_X6_9 rfl so_171 sr_171_0 ?_
        refine mm_getr (b := 2) dX6_mostWornBeside_25 rfl fk_X6_108 rfl so_1 sr_1_0 ?_
        refine mm_at (pc' := 28) rfl ?_
        refine mm_iload_n 4 dX6_mostWornBeside_28 rfl rfl ?_
        refine mm_iload 0 dX6_mostWornBeside_29 rfl ?_
        refine mm_cV2i (dz := d - 1) dX6_mostWornBeside_31 rfl mzX0_beside ml_X6_267 imX0_beside (by omega) so_2 ⟨rfl, rfl⟩ (cg_beside hz hW (c := c) (y := y) (by omega) (by omega) (by omega)) (Nat.le_of_ble_eq_true rfl) ⟨Nat.le_refl _, Nat.le_refl _⟩ ?_
        refine mm_cV1i (dz := d - 1) dX6_mostWornBeside_34 rfl mzX8_machineOn ml_X6_226 imX8_machineOn (by omega) so_1 ⟨rfl, rfl⟩ (cg_mo hz hW hD (by omega)) (Nat.le_of_ble_eq_true rfl) ⟨Nat.le_refl _, Nat.le_refl _⟩ ?_
        rcases sp_mo_in (N := N) (x := sp_be w h c y) n with em | ⟨i, hi, em⟩
        · refine mm_top (v := -1) em ?_
          refine mm_cV1r (dz := d - 1) dX6_mostWornBeside_37 rfl mzX8_worker ml_X6_55 imX8_worker (by omega) so_1 ⟨rfl, rfl⟩ (cg_workerN hz hW (m := -1) (fun q => absurd q.1 (by decide))) (Nat.le_of_ble_eq_true rfl) ⟨Nat.le_refl _, Nat.le_refl _⟩ ?_
          refine mm_astoreN (ls' := [(5, .null), (4, .int (nI (y))), (3, .int (0)), (2, .null), (0, .ref 171), (1, .int (nI (c)))]) dX6_mostWornBeside_40 (by decide) rfl ?_
          refine mm_aloadN 0 dX6_mostWornBeside_42 rfl ?_
          refine mm_ifnullN (tgt := 65) dX6_mostWornBeside_44 (by decide) ?_
          refine mm_iincN (ls' := [(4, .int (nI (y + 1))), (5, .null), (3, .int (0)), (2, .null), (0, .ref 171), (1, .int (nI (c)))]) 1 (y) 1 dX6_mostWornBeside_65 rfl rfl (by decide) rfl ?_
          refine mm_goto (tgt := 7) dX6_mostWornBeside_68 (by decide) ?_
          exact mm_sub [0, 2, 3, 4, 5] rfl (ih.1 (y + 1) (by omega) (by rw [hst y, if_neg (fun q => by rw [em] at q; exact absurd q.2.1 (by decide))]; exact hmd) (by omega))
        · refine mm_top (v := nI i) em ?_
          refine mm_cV1r (dz := d - 1) dX6_mostWornBeside_37 rfl mzX8_worker ml_X6_55 imX8_worker (by omega) so_1 ⟨rfl, rfl⟩ (cg_worker hz hW (m := i) (by omega)) (Nat.le_of_ble_eq_true rfl) ⟨Nat.le_refl _, Nat.le_refl _⟩ ?_
          refine mm_astore (ls' := [(5, .ref (36 + 3 * i)), (4, .int (nI (y))), (3, .int (0)), (2, .null), (0, .ref 171), (1, .int (nI (c)))]) dX6_mostWornBeside_40 (by decide) rfl ?_
          refine mm_aload 0 dX6_mostWornBeside_42 rfl ?_
          refine mm_ifnull dX6_mostWornBeside_44 ?_
          refine mm_at (pc' := 47) rfl ?_
          refine mm_aload 0 dX6_mostWornBeside_47 rfl ?_
          refine mm_geti dX6_mostWornBeside_49 rfl fk_X6_261 rfl (sm_1 (show i < 5 by omega)).1 ?_
          refine mm_top (v := N (630 + 40 * i + 3)) (cN_r ((lo_atm (by omega)).trans (if_pos ⟨by omega, by omega⟩))) ?_
          refine mm_iload_n 2 dX6_mostWornBeside_52 rfl rfl ?_
          refine mm_icmp_le (tgt := 65) dX6_mostWornBeside_53 (by decide) (fun c53 => ?_) (fun c53 => ?_)
          · refine mm_iincN (ls' := [(4, .int (nI (y + 1))), (5, .ref (36 + 3 * i)), (3, .int (0)), (2, .null), (0, .ref 171), (1, .int (nI (c)))]) 1 (y) 1 dX6_mostWornBeside_65 rfl rfl (by decide) rfl ?_
            refine mm_goto (tgt := 7) dX6_mostWornBeside_68 (by decide) ?_
            exact mm_sub [0, 2, 3, 4, 5] rfl (ih.1 (y + 1) (by omega) (by rw [hst y, if_neg (fun q => by rw [em, vv_nI (by omega)] at q; exact absurd q.2.2.1 (Int32.not_lt.mpr c53))]; exact hmd) (by omega))
          · refine mm_aload 0 dX6_mostWornBeside_56 rfl ?_
            refine mm_astore_n (ls' := [(2, .ref (36 + 3 * i)), (5, .ref (36 + 3 * i)), (4, .int (nI (y))), (3, .int (0)), (0, .ref 171), (1, .int (nI (c)))]) dX6_mostWornBeside_58 rfl (by decide) rfl ?_
            refine mm_aload 1 dX6_mostWornBeside_59 rfl ?_
            refine mm_geti dX6_mostWornBeside_61 rfl fk_X6_261 rfl (sm_1 (show i < 5 by omega)).1 ?_
            refine mm_top (v := N (630 + 40 * i + 3)) (cN_r ((lo_atm (by omega)).trans (if_pos ⟨by omega, by omega⟩))) ?_
            refine mm_istore_n (ls' := [(3, .int (N (630 + 40 * i + 3))), (2, .ref (36 + 3 * i)), (5, .ref (36 + 3 * i)), (4, .int (nI (y))), (0, .ref 171), (1, .int (nI (c)))]) dX6_mostWornBeside_64 rfl (by decide) rfl ?_
            refine mm_iincN (ls' := [(4, .int (nI (y + 1))), (3, .int (N (630 + 40 * i + 3))), (2, .ref (36 + 3 * i)), (5, .ref (36 + 3 * i)), (0, .ref 171), (1, .int (nI (c)))]) 3 (y) 1 dX6_mostWornBeside_65 rfl rfl (by decide) rfl ?_
            refine mm_goto (tgt := 7) dX6_mostWornBeside_68 (by decide) ?_
            exact mm_sub [0, 1, 2, 4, 5] rfl (ih.2 (y + 1) i (by omega) (by omega) (by rw [hst y, if_pos ⟨Decidable.not_not.mp (fun q => by have e3 := hbe y q; rw [em] at e3; have := nI_pos' (n := i) (by omega); rw [e3] at this; exact absurd this (by decide)), by rw [em]; exact nI_pos' (by omega), by rw [em, vv_nI (by omega)]; exact (show 0 < N (630 + 40 * i + 3) from Int32.not_le.mp c53), by rw [em, vv_nI (by omega), hmd]; exact Or.inl (by decide)⟩]; exact em) (show 0 < N (630 + 40 * i + 3) from Int32.not_le.mp c53) (by omega))
    · refine mm_iload 0 dX6_mostWornBeside_7 rfl ?_
      refine mm_iconst (v := 4) dX6_mostWornBeside_9 rfl ?_
      refine mm_icmp_geN (y) (4) (tgt := 71) dX6_mostWornBeside_10 (by decide) (by omega) (by omega) (fun c10 => ?_) (fun c10 => ?_)
      · refine mm_aload_n 2 dX6_mostWornBeside_71 rfl rfl ?_
        refine mm_aret dX6_mostWornBeside_72 rfl (Or.inl ⟨_, rfl⟩) (Or.inr ⟨_, rfl⟩) ⟨Nat.le_refl _, Nat.le_refl _⟩ ?_
        have e : y = 4 := by omega
        subst e
        rw [hmd] at hq
        unfold mwV at hq; rw [if_neg (nI_pos (by omega)), vv_nI (by omega)] at hq; exact hq
      · refine mm_aload_n 3 dX6_mostWornBeside_13 rfl rfl ?_
        refine mm_getr (b := 1) dX6_mostWornBeside_14 rfl fk_X6_9 rfl so_171 sr_171_0 ?_
        refine mm_aload_n 3 dX6_mostWornBeside_17 rfl rfl ?_
        refine mm_getr (b := 1) dX6_mostWornBeside_18 rfl fk_X6_9 rfl so_171 sr_171_0 ?_
        refine mm_aload_n 3 dX6_mostWornBeside_21 rfl rfl ?_
        refine mm_getr (b := 1) dX6_mostWornBeside_22 rfl fk_X6_9 rfl so_171 sr_171_0 ?_
        refine mm_getr (b := 2) dX6_mostWornBeside_25 rfl fk_X6_108 rfl so_1 sr_1_0 ?_
        refine mm_at (pc' := 28) rfl ?_
        refine mm_iload_n 4 dX6_mostWornBeside_28 rfl rfl ?_
        refine mm_iload 0 dX6_mostWornBeside_29 rfl ?_
        refine mm_cV2i (dz := d - 1) dX6_mostWornBeside_31 rfl mzX0_beside ml_X6_267 imX0_beside (by omega) so_2 ⟨rfl, rfl⟩ (cg_beside hz hW (c := c) (y := y) (by omega) (by omega) (by omega)) (Nat.le_of_ble_eq_true rfl) ⟨Nat.le_refl _, Nat.le_refl _⟩ ?_
        refine mm_cV1i (dz := d - 1) dX6_mostWornBeside_34 rfl mzX8_machineOn ml_X6_226 imX8_machineOn (by omega) so_1 ⟨rfl, rfl⟩ (cg_mo hz hW hD (by omega)) (Nat.le_of_ble_eq_true rfl) ⟨Nat.le_refl _, Nat.le_refl _⟩ ?_
        rcases sp_mo_in (N := N) (x := sp_be w h c y) n with em | ⟨i, hi, em⟩
        · refine mm_top (v := -1) em ?_
          refine mm_cV1r (dz := d - 1) dX6_mostWornBeside_37 rfl mzX8_worker ml_X6_55 imX8_worker (by omega) so_1 ⟨rfl, rfl⟩ (cg_workerN hz hW (m := -1) (fun q => absurd q.1 (by decide))) (Nat.le_of_ble_eq_true rfl) ⟨Nat.le_refl _, Nat.le_refl _⟩ ?_
          refine mm_astoreN (ls' := [(5, .null), (4, .int (nI (y))), (3, .int (N (630 + 40 * u + 3))), (2, .ref (36 + 3 * u)), (0, .ref 171), (1, .int (nI (c)))]) dX6_mostWornBeside_40 (by decide) rfl ?_
          refine mm_aloadN 0 dX6_mostWornBeside_42 rfl ?_
          refine mm_ifnullN (tgt := 65) dX6_mostWornBeside_44 (by decide) ?_
          refine mm_iincN (ls' := [(4, .int (nI (y + 1))), (5, .null), (3, .int (N (630 + 40 * u + 3))), (2, .ref (36 + 3 * u)), (0, .ref 171), (1, .int (nI (c)))]) 1 (y) 1 dX6_mostWornBeside_65 rfl rfl (by decide) rfl ?_
          refine mm_goto (tgt := 7) dX6_mostWornBeside_68 (by decide) ?_
          exact mm_sub [0, 2, 3, 4, 5] rfl (ih.2 (y + 1) u (by omega) hu (by rw [hst y, if_neg (fun q => by rw [em] at q; exact absurd q.2.1 (by decide))]; exact hmd) hpos (by omega))
        · refine mm_top (v := nI i) em ?_
          refine mm_cV1r (dz := d - 1) dX6_mostWornBeside_37 rfl mzX8_worker ml_X6_55 imX8_worker (by omega) so_1 ⟨rfl, rfl⟩ (cg_worker hz hW (m := i) (by omega)) (Nat.le_of_ble_eq_true rfl) ⟨Nat.le_refl _, Nat.le_refl _⟩ ?_
          refine mm_astore (ls' := [(5, .ref (36 + 3 * i)), (4, .int (nI (y))), (3, .int (N (630 + 40 * u + 3))), (2, .ref (36 + 3 * u)), (0, .ref 171), (1, .int (nI (c)))]) dX6_mostWornBeside_40 (by decide) rfl ?_
          refine mm_aload 0 dX6_mostWornBeside_42 rfl ?_
          refine mm_ifnull dX6_mostWornBeside_44 ?_
          refine mm_at (pc' := 47) rfl ?_
          refine mm_aload 0 dX6_mostWornBeside_47 rfl ?_
          refine mm_geti dX6_mostWornBeside_49 rfl fk_X6_261 rfl (sm_1 (show i < 5 by omega)).1 ?_
          refine mm_top (v := N (630 + 40 * i + 3)) (cN_r ((lo_atm (by omega)).trans (if_pos ⟨by omega, by omega⟩))) ?_
          refine mm_iload_n 2 dX6_mostWornBeside_52 rfl rfl ?_
          refine mm_icmp_le (tgt := 65) dX6_mostWornBeside_53 (by decide) (fun c53 => ?_) (fun c53 => ?_)
          · refine mm_iincN (ls' := [(4, .int (nI (y + 1))), (5, .ref (36 + 3 * i)), (3, .int (N (630 + 40 * u + 3))), (2, .ref (36 + 3 * u)), (0, .ref 171), (1, .int (nI (c)))]) 1 (y) 1 dX6_mostWornBeside_65 rfl rfl (by decide) rfl ?_
            refine mm_goto (tgt := 7) dX6_mostWornBeside_68 (by decide) ?_
            exact mm_sub [0, 2, 3, 4, 5] rfl (ih.2 (y + 1) u (by omega) hu (by rw [hst y, if_neg (fun q => by rw [em, vv_nI (by omega)] at q; rcases q.2.2.2 with q4 | q4; (rw [hmd] at q4; exact nI_pos (by omega) q4); (rw [hmd, vv_nI (by omega)] at q4; exact absurd q4 (Int32.not_lt.mpr c53)))]; exact hmd) hpos (by omega))
          · refine mm_aload 0 dX6_mostWornBeside_56 rfl ?_
            refine mm_astore_n (ls' := [(2, .ref (36 + 3 * i)), (5, .ref (36 + 3 * i)), (4, .int (nI (y))), (3, .int (N (630 + 40 * u + 3))), (0, .ref 171), (1, .int (nI (c)))]) dX6_mostWornBeside_58 rfl (by decide) rfl ?_
            refine mm_aload 1 dX6_mostWornBeside_59 rfl ?_
            refine mm_geti dX6_mostWornBeside_61 rfl fk_X6_261 rfl (sm_1 (show i < 5 by omega)).1 ?_
            refine mm_top (v := N (630 + 40 * i + 3)) (cN_r ((lo_atm (by omega)).trans (if_pos ⟨by omega, by omega⟩))) ?_
            refine mm_istore_n (ls' := [(3, .int (N (630 + 40 * i + 3))), (2, .ref (36 + 3 * i)), (5, .ref (36 + 3 * i)), (4, .int (nI (y))), (0, .ref 171), (1, .int (nI (c)))]) dX6_mostWornBeside_64 rfl (by decide) rfl ?_
            refine mm_iincN (ls' := [(4, .int (nI (y + 1))), (3, .int (N (630 + 40 * i + 3))), (2, .ref (36 + 3 * i)), (5, .ref (36 + 3 * i)), (0, .ref 171), (1, .int (nI (c)))]) 3 (y) 1 dX6_mostWornBeside_65 rfl rfl (by decide) rfl ?_
            refine mm_goto (tgt := 7) dX6_mostWornBeside_68 (by decide) ?_
            exact mm_sub [0, 1, 2, 4, 5] rfl (ih.2 (y + 1) i (by omega) (by omega) (by rw [hst y, if_pos ⟨Decidable.not_not.mp (fun q => by have e3 := hbe y q; rw [em] at e3; have := nI_pos' (n := i) (by omega); rw [e3] at this; exact absurd this (by decide)), by rw [em]; exact nI_pos' (by omega), by rw [em, vv_nI (by omega)]; exact (show 0 < N (630 + 40 * i + 3) from lt_trans_i hpos (Int32.not_le.mp c53)), by rw [em, vv_nI (by omega), hmd]; right; rw [vv_nI (by omega)]; exact Int32.not_le.mp c53⟩]; exact em) (show 0 < N (630 + 40 * i + 3) from lt_trans_i hpos (Int32.not_le.mp c53)) (by omega))
set_option maxRecDepth 100000 in
set_option maxHeartbeats 600000 in
theorem cg_mw {g : mm_G} {d : Nat} {w h n l k o r : Nat} {A : mm_I} {N : Nat → Int32} (hz : zOK (w * h) n l k o r) (hW : mo_W N w h) {c : Nat} (hcc : c < w * h) (hD : mo_D N n) (hC : mo_C N n (w * h)) (hB : mo_B N n) (hd : 3 ≤ d) : mm_Cr g zX6_mostWornBeside d [.ref 171, .int (nI (c))] sh_S (cN (w * h) n l k o r A N) (mwV (md_w N w h c n 4)) (cN (w * h) n l k o r A N) := by
  obtain ⟨hz1, hz2, hz3, hz4, hz5, hz6⟩ := id hz
  have hc := mo_W_c hW
  obtain ⟨-, -, hw1, hw2, hh1, hh2⟩ := id hW
  refine mm_Cr_of (fun Q hq => ?_)
  refine mm_begin (ls := [(0, .ref 171), (1, .int (nI (c)))]) (Nat.le_of_ble_eq_true rfl) rfl rfl ?_
  refine mm_null dX6_mostWornBeside_0 ?_
  refine mm_astoreN_n (ls' := [(2, .null), (0, .ref 171), (1, .int (nI (c)))]) dX6_mostWornBeside_1 rfl (by decide) rfl ?_
  refine mm_iconst (v := 0) dX6_mostWornBeside_2 rfl ?_
  refine mm_istore_n (ls' := [(3, .int (0)), (2, .null), (0, .ref 171), (1, .int (nI (c)))]) dX6_mostWornBeside_3 rfl (by decide) rfl ?_
  refine mm_iconst (v := 0) dX6_mostWornBeside_4 rfl ?_
  refine mm_istore (ls' := [(4, .int (0)), (3, .int (0)), (2, .null), (0, .ref 171), (1, .int (nI (c)))]) dX6_mostWornBeside_5 (by decide) rfl ?_
  exact mm_sub [0, 1, 2, 3, 4] rfl ((lg_mw hz hW hcc hD hC hB hd hq 5).1 0 (Nat.zero_le _) rfl (by omega))
set_option maxRecDepth 100000 in
set_option maxHeartbeats 600000 in
theorem cg_mendN {g : mm_G} {d : Nat} {w h n l k o r : Nat} {A : mm_I} {N : Nat → Int32} (hz : zOK (w * h) n l k o r) (hW : mo_W N w h) {J : mm_I} (hJ : J 201 = N) {m c : Nat} (hm : m < n) (h1 : N (630 + 40 * m + 1) = nI c) (hcc : c < w * h) {q : Nat} (h2 : N (630 + 40 * m + 2) = nI q) (hq100 : q ≤ 100) (hK : mo_K N (w * h)) (hQ : mo_Q N n) (hD : mo_D N n) (hC : mo_C N n (w * h)) (hB : mo_B N n) {v : Nat} (h12 : N 12 = nI v) (hv : v < 2 ^ 31) (hmd : md_w N w h c n 4 < 0) (hd : 4 ≤ d) : mm_Cv g zX6_mend d [.ref 171, .ref (36 + 3 * m)] sh_S (cN (w * h) n l k o r A N) (cN (w * h) n l k o r A (op_mends J w h n m c 201)) := by
  obtain ⟨hz1, hz2, hz3, hz4, hz5, hz6⟩ := id hz
  have hc := mo_W_c hW
  obtain ⟨-, -, hw1, hw2, hh1, hh2⟩ := id hW
  refine mm_Cv_of (fun Q hq => ?_)
  refine mm_begin (ls := [(0, .ref 171), (1, .ref (36 + 3 * m))]) (Nat.le_of_ble_eq_true rfl) rfl rfl ?_
  refine mm_aload_n 0 dX6_mend_0 rfl rfl ?_
  refine mm_getr (b := 1) dX6_mend_1 rfl fk_X6_9 rfl so_171 sr_171_0 ?_
  refine mm_getr (b := 2) dX6_mend_4 rfl fk_X6_108 rfl so_1 sr_1_0 ?_
  refine mm_getr (b := 11) dX6_mend_7 rfl fk_X6_249 rfl so_2 sr_2_6 ?_
  refine mm_astore_n (ls' := [(2, .ref 11), (0, .ref 171), (1, .ref (36 + 3 * m))]) dX6_mend_10 rfl (by decide) rfl ?_
  refine mm_aload_n 2 dX6_mend_11 rfl rfl ?_
  refine mm_iconst (v := 3) dX6_mend_12 rfl ?_
  refine mm_cV1i (dz := d - 1) dX6_mend_13 rfl mzX1_isA ml_X6_238 imX1_isA (by omega) (sm_1 (show m < 5 by omega)).1 ⟨rfl, rfl⟩ (cg_mIsA hz hW (m := m) hm (hQ m hm) (by omega)) (Nat.le_of_ble_eq_true rfl) ⟨Nat.le_refl _, Nat.le_refl _⟩ ?_
  refine mm_at (pc' := 16) rfl ?_
  refine mm_if_eqB (tgt := 36) dX6_mend_16 (by decide) (fun c16 => ?_) (fun c16 => ?_)
  · refine mm_vret dX6_mend_36 rfl ⟨Nat.le_refl _, Nat.le_refl _⟩ ?_
    have e : op_mends J w h n m c 201 = N := by
      unfold op_mends
      rw [if_pos (by rw [hJ]; first | exact Or.inl (fun q1 => c16 (mk3.mpr q1)) | exact Or.inr (Or.inl c24) | exact Or.inr (Or.inr (by rw [h12] at c33 ⊢; have q1 : v = 0 := (by have q2 := (nI_ltI (a := v) (b := 1) (by omega) (by decide)).mp (by first | exact c33 | exact Int32.not_le.mp c33); omega); rw [q1]; rfl)))]; exact hJ
    rw [e] at hq; exact hq
  · refine mm_aload_n 2 dX6_mend_19 rfl rfl ?_
    refine mm_geti dX6_mend_20 rfl fk_X6_143 rfl (sm_1 (show m < 5 by omega)).1 ?_
    refine mm_top (v := N (630 + 40 * m + 2)) (cN_r ((lo_atm (by omega)).trans (if_pos ⟨by omega, by omega⟩))) ?_
    refine mm_iconst (v := 4) dX6_mend_23 rfl ?_
    refine mm_icmp_lt (tgt := 36) dX6_mend_24 (by decide) (fun c24 => ?_) (fun c24 => ?_)
    · refine mm_vret dX6_mend_36 rfl ⟨Nat.le_refl _, Nat.le_refl _⟩ ?_
      have e : op_mends J w h n m c 201 = N := by
        unfold op_mends
        rw [if_pos (by rw [hJ]; first | exact Or.inl (fun q1 => c16 (mk3.mpr q1)) | exact Or.inr (Or.inl c24) | exact Or.inr (Or.inr (by rw [h12] at c33 ⊢; have q1 : v = 0 := (by have q2 := (nI_ltI (a := v) (b := 1) (by omega) (by decide)).mp (by first | exact c33 | exact Int32.not_le.mp c33); omega); rw [q1]; rfl)))]; exact hJ
      rw [e] at hq; exact hq
    · refine mm_aload_n 0 dX6_mend_27 rfl rfl ?_
      refine mm_iconst (v := 2) dX6_mend_28 rfl ?_
      refine mm_cV1i (dz := d - 1) dX6_mend_29 rfl mzX5_at ml_X6_76 imX5_at (by omega) so_11 ⟨rfl, rfl⟩ (ct_at rw_11 (2) (by omega)) (Nat.le_of_ble_eq_true rfl) ⟨Nat.le_refl _, Nat.le_refl _⟩ ?_
      refine mm_top (v := N (10 + 2)) (cN_r (lo_at12.trans (if_pos (by omega)))) ?_
      refine mm_iconst (v := 1) dX6_mend_32 rfl ?_
      refine mm_icmp_ge (tgt := 37) dX6_mend_33 (by decide) (fun c33 => ?_) (fun c33 => ?_)
      · refine mm_aload_n 1 dX6_mend_37 rfl rfl ?_
        refine mm_aload_n 2 dX6_mend_38 rfl rfl ?_
        refine mm_geti dX6_mend_39 rfl fk_X6_124 rfl (sm_1 (show m < 5 by omega)).1 ?_
        refine mm_top (v := N (630 + 40 * m + 1)) (cN_r ((lo_atm (by omega)).trans (if_pos ⟨by omega, by omega⟩))) ?_
        refine mm_top (v := nI (c)) h1 ?_
        refine mm_cV1r (dz := d - 1) dX6_mend_42 rfl mzX6_mostWornBeside ml_X6_258 imX6_mostWornBeside (by omega) so_171 ⟨rfl, rfl⟩ (by have q := cg_mw (g := g) (d := d - 1) (A := A) (c := c) hz hW hcc hD hC hB (by omega); unfold mwV at q; rw [if_pos hmd] at q; exact q) (Nat.le_of_ble_eq_true rfl) ⟨Nat.le_refl _, Nat.le_refl _⟩ ?_
        refine mm_astoreN_n (ls' := [(3, .null), (2, .ref 11), (0, .ref 171), (1, .ref (36 + 3 * m))]) dX6_mend_45 rfl (by decide) rfl ?_
        refine mm_aloadN_n 0 dX6_mend_46 rfl rfl ?_
        refine mm_ifnullN (tgt := 83) dX6_mend_47 (by decide) ?_
        refine mm_vret dX6_mend_83 rfl ⟨Nat.le_refl _, Nat.le_refl _⟩ ?_
        have hno : ¬ md_no (J 201) m := by
          rw [hJ]; rintro (q1 | q1 | q1)
          · exact q1 (mk3.mp c16)
          · first | exact c24 q1 | exact absurd q1 (Int32.not_lt.mpr c24)
          · rw [q1] at c33; first | exact c33 (by decide) | exact absurd c33 (by decide)
        have e : op_mends J w h n m c 201 = N := by
          unfold op_mends
          rw [if_neg hno, if_pos (by rw [hJ]; exact hmd)]; exact hJ
        rw [e] at hq; exact hq
      · refine mm_vret dX6_mend_36 rfl ⟨Nat.le_refl _, Nat.le_refl _⟩ ?_
        have e : op_mends J w h n m c 201 = N := by
          unfold op_mends
          rw [if_pos (by rw [hJ]; first | exact Or.inl (fun q1 => c16 (mk3.mpr q1)) | exact Or.inr (Or.inl c24) | exact Or.inr (Or.inr (by rw [h12] at c33 ⊢; have q1 : v = 0 := (by have q2 := (nI_ltI (a := v) (b := 1) (by omega) (by decide)).mp (by first | exact c33 | exact Int32.not_le.mp c33); omega); rw [q1]; rfl)))]; exact hJ
        rw [e] at hq; exact hq
set_option maxRecDepth 100000 in
set_option maxHeartbeats 600000 in
theorem cg_mendY {g : mm_G} {d : Nat} {w h n l k o r : Nat} {A : mm_I} {N : Nat → Int32} (hz : zOK (w * h) n l k o r) (hW : mo_W N w h) {J : mm_I} (hJ : J 201 = N) {m c : Nat} (hm : m < n) (h1 : N (630 + 40 * m + 1) = nI c) (hcc : c < w * h) {q : Nat} (h2 : N (630 + 40 * m + 2) = nI q) (hq100 : q ≤ 100) (hK : mo_K N (w * h)) (hQ : mo_Q N n) (hD : mo_D N n) (hC : mo_C N n (w * h)) (hB : mo_B N n) {v : Nat} (h12 : N 12 = nI v) (hv : v < 2 ^ 31) {u : Nat} (hu : u < n) (hmd : md_w N w h c n 4 = nI u) (hd : 4 ≤ d) : mm_Cv g zX6_mend d [.ref 171, .ref (36 + 3 * m)] sh_S (cN (w * h) n l k o r A N) (cN (w * h) n l k o r A (op_mends J w h n m c 201)) := by
  obtain ⟨hz1, hz2, hz3, hz4, hz5, hz6⟩ := id hz
  have hc := mo_W_c hW
  obtain ⟨-, -, hw1, hw2, hh1, hh2⟩ := id hW
  refine mm_Cv_of (fun Q hq => ?_)
  refine mm_begin (ls := [(0, .ref 171), (1, .ref (36 + 3 * m))]) (Nat.le_of_ble_eq_true rfl) rfl rfl ?_
  refine mm_aload_n 0 dX6_mend_0 rfl rfl ?_
  refine mm_getr (b := 1) dX6_mend_1 rfl fk_X6_9 rfl so_171 sr_171_0 ?_
  refine mm_getr (b := 2) dX6_mend_4 rfl fk_X6_108 rfl so_1 sr_1_0 ?_
  refine mm_getr (b := 11) dX6_mend_7 rfl fk_X6_249 rfl so_2 sr_2_6 ?_
  refine mm_astore_n (ls' := [(2, .ref 11), (0, .ref 171), (1, .ref (36 + 3 * m))]) dX6_mend_10 rfl (by decide) rfl ?_
  refine mm_aload_n 2 dX6_mend_11 rfl rfl ?_
  refine mm_iconst (v := 3) dX6_mend_12 rfl ?_
  refine mm_cV1i (dz := d - 1) dX6_mend_13 rfl mzX1_isA ml_X6_238 imX1_isA (by omega) (sm_1 (show m < 5 by omega)).1 ⟨rfl, rfl⟩ (cg_mIsA hz hW (m := m) hm (hQ m hm) (by omega)) (Nat.le_of_ble_eq_true rfl) ⟨Nat.le_refl _, Nat.le_refl _⟩ ?_
  refine mm_at (pc' := 16) rfl ?_
  refine mm_if_eqB (tgt := 36) dX6_mend_16 (by decide) (fun c16 => ?_) (fun c16 => ?_)
  · refine mm_vret dX6_mend_36 rfl ⟨Nat.le_refl _, Nat.le_refl _⟩ ?_
    have e : op_mends J w h n m c 201 = N := by
      unfold op_mends
      rw [if_pos (by rw [hJ]; first | exact Or.inl (fun q1 => c16 (mk3.mpr q1)) | exact Or.inr (Or.inl c24) | exact Or.inr (Or.inr (by rw [h12] at c33 ⊢; have q1 : v = 0 := (by have q2 := (nI_ltI (a := v) (b := 1) (by omega) (by decide)).mp (by first | exact c33 | exact Int32.not_le.mp c33); omega); rw [q1]; rfl)))]; exact hJ
    rw [e] at hq; exact hq
  · refine mm_aload_n 2 dX6_mend_19 rfl rfl ?_
    refine mm_geti dX6_mend_20 rfl fk_X6_143 rfl (sm_1 (show m < 5 by omega)).1 ?_
    refine mm_top (v := N (630 + 40 * m + 2)) (cN_r ((lo_atm (by omega)).trans (if_pos ⟨by omega, by omega⟩))) ?_
    refine mm_iconst (v := 4) dX6_mend_23 rfl ?_
    refine mm_icmp_lt (tgt := 36) dX6_mend_24 (by decide) (fun c24 => ?_) (fun c24 => ?_)
    · refine mm_vret dX6_mend_36 rfl ⟨Nat.le_refl _, Nat.le_refl _⟩ ?_
      have e : op_mends J w h n m c 201 = N := by
        unfold op_mends
        rw [if_pos (by rw [hJ]; first | exact Or.inl (fun q1 => c16 (mk3.mpr q1)) | exact Or.inr (Or.inl c24) | exact Or.inr (Or.inr (by rw [h12] at c33 ⊢; have q1 : v = 0 := (by have q2 := (nI_ltI (a := v) (b := 1) (by omega) (by decide)).mp (by first | exact c33 | exact Int32.not_le.mp c33); omega); rw [q1]; rfl)))]; exact hJ
      rw [e] at hq; exact hq
    · refine mm_aload_n 0 dX6_mend_27 rfl rfl ?_
      refine mm_iconst (v := 2) dX6_mend_28 rfl ?_
      refine mm_cV1i (dz := d - 1) dX6_mend_29 rfl mzX5_at ml_X6_76 imX5_at (by omega) so_11 ⟨rfl, rfl⟩ (ct_at rw_11 (2) (by omega)) (Nat.le_of_ble_eq_true rfl) ⟨Nat.le_refl _, Nat.le_refl _⟩ ?_
      refine mm_top (v := N (10 + 2)) (cN_r (lo_at12.trans (if_pos (by omega)))) ?_
      refine mm_iconst (v := 1) dX6_mend_32 rfl ?_
      refine mm_icmp_ge (tgt := 37) dX6_mend_33 (by decide) (fun c33 => ?_) (fun c33 => ?_)
      · refine mm_aload_n 1 dX6_mend_37 rfl rfl ?_
        refine mm_aload_n 2 dX6_mend_38 rfl rfl ?_
        refine mm_geti dX6_mend_39 rfl fk_X6_124 rfl (sm_1 (show m < 5 by omega)).1 ?_
        refine mm_top (v := N (630 + 40 * m + 1)) (cN_r ((lo_atm (by omega)).trans (if_pos ⟨by omega, by omega⟩))) ?_
        refine mm_top (v := nI (c)) h1 ?_
        refine mm_cV1r (dz := d - 1) dX6_mend_42 rfl mzX6_mostWornBeside ml_X6_258 imX6_mostWornBeside (by omega) so_171 ⟨rfl, rfl⟩ (by have q := cg_mw (g := g) (d := d - 1) (A := A) (c := c) hz hW hcc hD hC hB (by omega); unfold mwV at q; rw [hmd, if_neg (nI_pos (by omega)), vv_nI (by omega)] at q; exact q) (Nat.le_of_ble_eq_true rfl) ⟨Nat.le_refl _, Nat.le_refl _⟩ ?_
        refine mm_astore_n (ls' := [(3, .ref (36 + 3 * u)), (2, .ref 11), (0, .ref 171), (1, .ref (36 + 3 * m))]) dX6_mend_45 rfl (by decide) rfl ?_
        refine mm_aload_n 0 dX6_mend_46 rfl rfl ?_
        refine mm_ifnull dX6_mend_47 ?_
        refine mm_aload_n 0 dX6_mend_50 rfl rfl ?_
        refine mm_at (pc' := 51) rfl ?_
        refine mm_iconst (v := 0) dX6_mend_51 rfl ?_
        refine mm_aload_n 0 dX6_mend_52 rfl rfl ?_
        refine mm_geti dX6_mend_53 rfl fk_X6_261 rfl (sm_1 (show u < 5 by omega)).1 ?_
        refine mm_top (v := N (630 + 40 * u + 3)) (cN_r ((lo_atm (by omega)).trans (if_pos ⟨by omega, by omega⟩))) ?_
        refine mm_bipush (v := 30) dX6_mend_56 rfl ?_
        refine mm_isub dX6_mend_58 ?_
        refine mm_max dX6_mend_59 rfl ml_X6_264 jm_max (by omega) (Nat.le_of_ble_eq_true rfl) ⟨Nat.le_refl _, Nat.le_refl _⟩ ?_
        refine mm_puti dX6_mend_62 rfl fk_X6_261 rfl fv_1_3 (sm_1 (show u < 5 by omega)).1 ?_
        refine mm_mem (J := cN (w * h) n l k o r A (upd N (630 + 40 * u + 3) (if 0 < (N (630 + 40 * u + 3)) - 30 then (N (630 + 40 * u + 3)) - 30 else 0))) (cN_up hz ((lo_atm (by omega)).trans (if_pos ⟨by omega, by omega⟩)) (sn_up (by omega) hz.1)) ?_
        refine mm_aload_n 1 dX6_mend_65 rfl rfl ?_
        refine mm_at (pc' := 66) rfl ?_
        refine mm_iconst (v := 2) dX6_mend_66 rfl ?_
        refine mm_aload_n 1 dX6_mend_67 rfl rfl ?_
        refine mm_iconst (v := 2) dX6_mend_68 rfl ?_
        refine mm_cV1i (dz := d - 1) dX6_mend_69 rfl mzX5_at ml_X6_76 imX5_at (by omega) so_11 ⟨rfl, rfl⟩ (ct_at rw_11 (2) (by omega)) (Nat.le_of_ble_eq_true rfl) ⟨Nat.le_refl _, Nat.le_refl _⟩ ?_
        refine mm_top (v := N (10 + 2)) ((cN_r (lo_at12.trans (if_pos (by omega)))).trans (by rw [upd_n (by omega)])) ?_
        refine mm_iconst (v := 1) dX6_mend_72 rfl ?_
        refine mm_isub dX6_mend_73 ?_
        refine mm_cV2v (dz := d - 1) dX6_mend_74 rfl mzX5_set ml_X6_177 imX5_set (by omega) so_11 ⟨rfl, rfl⟩ (ct_set rw_11 (2) (by omega)) (Nat.le_of_ble_eq_true rfl) ⟨Nat.le_refl _, Nat.le_refl _⟩ ?_
        refine mm_mem (J := cN (w * h) n l k o r A (upd (upd N (630 + 40 * u + 3) (if 0 < (N (630 + 40 * u + 3)) - 30 then (N (630 + 40 * u + 3)) - 30 else 0)) (10 + 2) ((N (10 + 2)) - 1))) (cN_up hz (lo_at12.trans (if_pos (by omega))) (sn_up (by omega) hz.1)) ?_
        refine mm_aload_n 3 dX6_mend_77 rfl rfl ?_
        refine mm_at (pc' := 78) rfl ?_
        refine mm_iconst (v := 4) dX6_mend_78 rfl ?_
        refine mm_iconst (v := 0) dX6_mend_79 rfl ?_
        refine mm_cV2v (dz := d - 1) dX6_mend_80 rfl mzX1_pay ml_X6_229 imX1_pay (by omega) (sm_1 (show m < 5 by omega)).1 ⟨rfl, rfl⟩ (cg_pay hz (mo_Wu (by omega) (mo_Wu (by omega) hW)) (m := m) (by omega) (by omega)) (Nat.le_of_ble_eq_true rfl) ⟨Nat.le_refl _, Nat.le_refl _⟩ ?_
        refine mm_vret dX6_mend_83 rfl ⟨Nat.le_refl _, Nat.le_refl _⟩ ?_
        have hno : ¬ md_no (J 201) m := by
          rw [hJ]; rintro (q1 | q1 | q1)
          · exact q1 (mk3.mp c16)
          · first | exact c24 q1 | exact absurd q1 (Int32.not_lt.mpr c24)
          · rw [q1] at c33; first | exact c33 (by decide) | exact absurd c33 (by decide)
        have z3 : ¬ N (630 + 40 * m + 2) < 4 := by rw [hJ] at hno; exact fun q1 => hno (Or.inr (Or.inl q1))
        have e2 : (if 0 < (upd (upd N (630 + 40 * u + 3) (if 0 < (N (630 + 40 * u + 3)) - 30 then (N (630 + 40 * u + 3)) - 30 else 0)) (10 + 2) ((N (10 + 2)) - 1)) (630 + 40 * m + 2) - 4 then (upd (upd N (630 + 40 * u + 3) (if 0 < (N (630 + 40 * u + 3)) - 30 then (N (630 + 40 * u + 3)) - 30 else 0)) (10 + 2) ((N (10 + 2)) - 1)) (630 + 40 * m + 2) - 4 else 0) = (upd (upd N (630 + 40 * u + 3) (if 0 < (N (630 + 40 * u + 3)) - 30 then (N (630 + 40 * u + 3)) - 30 else 0)) (10 + 2) ((N (10 + 2)) - 1)) (630 + 40 * m + 2) - 4 := pay_e (q := q) (y := 4) (by rw [upd_n (by omega), upd_n (by omega)]; exact h2) rfl (by omega) (by have z := z3; rw [h2] at z; have z2 : ¬ q < 4 := fun z3 => z ((nI_ltI (by omega) (by decide)).mpr z3); omega)
        have e : op_mends J w h n m c 201 = (upd (upd (upd (upd N (630 + 40 * u + 3) (if 0 < (N (630 + 40 * u + 3)) - 30 then (N (630 + 40 * u + 3)) - 30 else 0)) (10 + 2) ((N (10 + 2)) - 1)) (630 + 40 * m + 2) ((upd (upd N (630 + 40 * u + 3) (if 0 < (N (630 + 40 * u + 3)) - 30 then (N (630 + 40 * u + 3)) - 30 else 0)) (10 + 2) ((N (10 + 2)) - 1)) (630 + 40 * m + 2) - 4)) (630 + 40 * m + 3) (sp_min 100 ((upd (upd N (630 + 40 * u + 3) (if 0 < (N (630 + 40 * u + 3)) - 30 then (N (630 + 40 * u + 3)) - 30 else 0)) (10 + 2) ((N (10 + 2)) - 1)) (630 + 40 * m + 3) + 0))) := by
          unfold op_mends
          rw [if_neg hno, hJ, hmd, if_neg (nI_pos (by omega)), vv_nI (by omega)]
          unfold op_md
          rw [costs_201, up_201, up_201, hJ]
        rw [e] at hq
        rw [e2]; exact hq
      · refine mm_vret dX6_mend_36 rfl ⟨Nat.le_refl _, Nat.le_refl _⟩ ?_
        have e : op_mends J w h n m c 201 = N := by
          unfold op_mends
          rw [if_pos (by rw [hJ]; first | exact Or.inl (fun q1 => c16 (mk3.mpr q1)) | exact Or.inr (Or.inl c24) | exact Or.inr (Or.inr (by rw [h12] at c33 ⊢; have q1 : v = 0 := (by have q2 := (nI_ltI (a := v) (b := 1) (by omega) (by decide)).mp (by first | exact c33 | exact Int32.not_le.mp c33); omega); rw [q1]; rfl)))]; exact hJ
        rw [e] at hq; exact hq
theorem mdw_in {N : Nat → Int32} {w h c n : Nat} (hn : n ≤ 5) (hD : mo_D N n) : ∀ y, md_w N w h c n y = -1 ∨ ∃ u, u < n ∧ md_w N w h c n y = nI u := by
  intro y
  induction y with
  | zero => exact Or.inl rfl
  | succ y ih =>
    unfold md_w
    rw [md_o_eq n hn hD]
    split
    · rename_i q
      rcases sp_mo_in (N := N) (x := sp_be w h c y) n with e | e
      · rw [e] at q; exact absurd q.2.1 (by decide)
      · exact Or.inr e
    · exact ih
theorem cg_mends {g : mm_G} {d : Nat} {w h n l k o r : Nat} {A : mm_I} {N : Nat → Int32} (hz : zOK (w * h) n l k o r) (hW : mo_W N w h) {J : mm_I} (hJ : J 201 = N) {m c : Nat} (hm : m < n) (h1 : N (630 + 40 * m + 1) = nI c) (hcc : c < w * h) {q : Nat} (h2 : N (630 + 40 * m + 2) = nI q) (hq100 : q ≤ 100) (hK : mo_K N (w * h)) (hQ : mo_Q N n) (hD : mo_D N n) (hC : mo_C N n (w * h)) (hB : mo_B N n) {v : Nat} (h12 : N 12 = nI v) (hv : v < 2 ^ 31) (hd : 4 ≤ d) : mm_Cv g zX6_mend d [.ref 171, .ref (36 + 3 * m)] sh_S (cN (w * h) n l k o r A N) (cN (w * h) n l k o r A (op_mends J w h n m c 201)) := by
  rcases mdw_in (N := N) (w := w) (h := h) (c := c) (n := n) hz.2.1 hD 4 with e | ⟨u, hu, e⟩
  · exact cg_mendN hz hW hJ hm h1 hcc h2 hq100 hK hQ hD hC hB h12 hv (by rw [e]; decide) hd
  · exact cg_mendY hz hW hJ hm h1 hcc h2 hq100 hK hQ hD hC hB h12 hv hu e hd
set_option maxRecDepth 100000 in
set_option maxHeartbeats 600000 in
theorem cg_isAt {g : mm_G} {d : Nat} {w h n l k o r : Nat} {A : mm_I} {N : Nat → Int32} (hz : zOK (w * h) n l k o r) (hW : mo_W N w h) {m c x y : Nat} (hm : m < n) (h1 : N (630 + 40 * m + 1) = nI c) (hcc : c < w * h) (hx : x ≤ 9999) (hy : y ≤ 9999) (hd : 1 ≤ d) : mm_Ci g zX6_isAt d [.ref 171, .ref (36 + 3 * m), .int (nI x), .int (nI y)] sh_S (cN (w * h) n l k o r A N) (if c % w = x ∧ c / w = y then 1 else 0) (cN (w * h) n l k o r A N) := by
  obtain ⟨hz1, hz2, hz3, hz4, hz5, hz6⟩ := id hz
  have hc := mo_W_c hW
  obtain ⟨-, -, hw1, hw2, hh1, hh2⟩ := id hW
  have hm80 : c % w < 80 := Nat.lt_of_le_of_lt (Nat.mod_le c w) (by omega)
  have hd80 : c / w < 80 := Nat.lt_of_le_of_lt (Nat.div_le_self c w) (by omega)
  refine mm_Ci_of (fun Q hq => ?_)
  refine mm_begin (ls := [(0, .ref 171), (1, .ref (36 + 3 * m)), (2, .int (nI (x))), (3, .int (nI (y)))]) (Nat.le_of_ble_eq_true rfl) rfl rfl ?_
  refine mm_aload_n 0 dX6_isAt_0 rfl rfl ?_
  refine mm_getr (b := 1) dX6_isAt_1 rfl fk_X6_9 rfl so_171 sr_171_0 ?_
  refine mm_getr (b := 2) dX6_isAt_4 rfl fk_X6_108 rfl so_1 sr_1_0 ?_
  refine mm_aload_n 1 dX6_isAt_7 rfl rfl ?_
  refine mm_geti dX6_isAt_8 rfl fk_X6_124 rfl (sm_1 (show m < 5 by omega)).1 ?_
  refine mm_top (v := N (630 + 40 * m + 1)) (cN_r ((lo_atm (by omega)).trans (if_pos ⟨by omega, by omega⟩))) ?_
  refine mm_top (v := nI (c)) h1 ?_
  refine mm_cV1i (dz := d - 1) dX6_isAt_11 rfl mzX0_column ml_X6_189 imX0_column (by omega) so_2 ⟨rfl, rfl⟩ (cg_column hz hW (c := c) (by omega)) (Nat.le_of_ble_eq_true rfl) ⟨Nat.le_refl _, Nat.le_refl _⟩ ?_
  refine mm_iload_n 2 dX6_isAt_14 rfl rfl ?_
  refine mm_icmp_neN (c % w) (x) (tgt := 40) dX6_isAt_15 (by decide) (by omega) (by omega) (fun c15 => ?_) (fun c15 => ?_)
  · refine mm_iconst (v := 0) dX6_isAt_40 rfl ?_
    refine mm_zret dX6_isAt_41 rfl (by decide) ⟨Nat.le_refl _, Nat.le_refl _⟩ ?_
    rw [if_neg (by omega)] at hq; exact hq
  · refine mm_aload_n 0 dX6_isAt_18 rfl rfl ?_
    refine mm_getr (b := 1) dX6_isAt_19 rfl fk_X6_9 rfl so_171 sr_171_0 ?_
    refine mm_getr (b := 2) dX6_isAt_22 rfl fk_X6_108 rfl so_1 sr_1_0 ?_
    refine mm_aload_n 1 dX6_isAt_25 rfl rfl ?_
    refine mm_geti dX6_isAt_26 rfl fk_X6_124 rfl (sm_1 (show m < 5 by omega)).1 ?_
    refine mm_top (v := N (630 + 40 * m + 1)) (cN_r ((lo_atm (by omega)).trans (if_pos ⟨by omega, by omega⟩))) ?_
    refine mm_top (v := nI (c)) h1 ?_
    refine mm_cV1i (dz := d - 1) dX6_isAt_29 rfl mzX0_line ml_X6_192 imX0_line (by omega) so_2 ⟨rfl, rfl⟩ (cg_line hz hW (c := c) (by omega)) (Nat.le_of_ble_eq_true rfl) ⟨Nat.le_refl _, Nat.le_refl _⟩ ?_
    refine mm_iload_n 3 dX6_isAt_32 rfl rfl ?_
    refine mm_at (pc' := 33) rfl ?_
    refine mm_icmp_neN (c / w) (y) (tgt := 40) dX6_isAt_33 (by decide) (by omega) (by omega) (fun c33 => ?_) (fun c33 => ?_)
    · refine mm_iconst (v := 0) dX6_isAt_40 rfl ?_
      refine mm_zret dX6_isAt_41 rfl (by decide) ⟨Nat.le_refl _, Nat.le_refl _⟩ ?_
      rw [if_neg (by omega)] at hq; exact hq
    · refine mm_iconst (v := 1) dX6_isAt_36 rfl ?_
      refine mm_goto (tgt := 41) dX6_isAt_37 (by decide) ?_
      refine mm_zret dX6_isAt_41 rfl (by decide) ⟨Nat.le_refl _, Nat.le_refl _⟩ ?_
      rw [if_pos ⟨by omega, by omega⟩] at hq; exact hq
