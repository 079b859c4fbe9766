/-! THE REFERENCE: a TICK, TICKS: what is asked, of MACHINES that are there alone -/
def tk_ok2 (N : Nat → Int32) (w h n i : Nat) : Prop := N 16 = nI n ∧ (i < n → ¬ tk_no N i → ∃ la lb c p k wh, mo_G N w h n la lb i c p k wh ∧ mo_st k (N (630 + 40 * i + 7)))
def tk_H2 (w h n l : Nat) (J : mm_I) : Prop := n ≤ 5 ∧ l ≤ 8 ∧
  (∃ o, J 201 17 = nI o ∧ o ≤ 12 ∧ mo_O (J 201) o) ∧
  (∃ r, J 201 18 = nI r ∧ r ≤ 60 ∧ op_oc J (vv (J 201 17)) 201 18 = nI r ∧ mo_R (op_oc J (vv (J 201 17)) 201) r) ∧
  (tk_1 J 201 16 = nI n ∧ tk_1 J 201 15 = nI l ∧ (∃ la lb, tk_1 J 201 2 = nI la ∧ tk_1 J 201 3 = nI lb ∧ (1 ≤ la ∧ la ≤ 24) ∧ lb ≤ 24) ∧ ∃ b, b < 2 ^ 31 ∧ op_pa (tk_1 J) n 201 4 = nI b) ∧
  (∀ i, i ≤ n → tk_ok2 (tk_m w h n (tk_2 n l J) i 201) w h n i) ∧
  (∃ r0, tk_3 w h n l J 201 18 = nI r0 ∧ r0 ≤ 45 ∧ mo_R (tk_3 w h n l J 201) r0) ∧ tk_3 w h n l J 201 16 = nI n ∧ mo_C (tk_3 w h n l J 201) n 80
set_option maxRecDepth 100000 in
set_option maxHeartbeats 600000 in
theorem lm_tk2 {g : mm_G} {I : mm_I} {d : Nat} {Q : Option Value → mm_Sh → mm_I → Prop} {w h n : Nat} (hm5 : n ≤ 5) (hok : ∀ i, i ≤ n → tk_ok2 (tk_m w h n I i 201) w h n i) (hd : 6 ≤ d) (hx : mm_Ex g zX12_tick d (0, 0) (0, 0) sh_S (tk_m w h n I n) 71 [(1, .int (nI n)), (0, .ref 200)] [] Q) : ∀ (m : Nat) (i : Nat), (i ≤ n) → n - i < m → mm_Ex g zX12_tick d (0, 0) (0, 0) sh_S (tk_m w h n I i) 14 [(1, .int (nI (i))), (0, .ref 200)] [] Q := by
  intro m
  induction m with
  | zero => intro i hi hmz; exact absurd hmz (Nat.not_lt_zero _)
  | succ m ih =>
    intro i hi hmz
    refine mm_iload_n 0 dX12_tick_14 rfl rfl ?_
    refine mm_aload_n 1 dX12_tick_15 rfl rfl ?_
    refine mm_getr (b := 201) dX12_tick_16 rfl fk_X12_9 rfl so_200 sr_200_0 ?_
    refine mm_bipush (v := 16) dX12_tick_19 rfl ?_
    refine mm_ialdN (16) dX12_tick_21 sa_201 (by omega) (by omega) ?_
    refine mm_top (v := nI (n)) (hok i hi).1 ?_
    refine mm_icmp_geN (i) (n) (tgt := 71) dX12_tick_22 (by decide) (by omega) (by omega) (fun c22 => ?_) (fun c22 => ?_)
    · have e : i = n := by omega
      subst e
      exact hx
    · refine mm_aload_n 1 dX12_tick_25 rfl rfl ?_
      refine mm_iload_n 0 dX12_tick_26 rfl rfl ?_
      refine mm_cV1i (dz := d - 1) dX12_tick_27 rfl mzX12_isBroken ml_X12_135 imX12_isBroken (by omega) so_200 ⟨rfl, rfl⟩ (cm_isBroken (by omega) (by omega)) (Nat.le_of_ble_eq_true rfl) ⟨Nat.le_refl _, Nat.le_refl _⟩ ?_
      refine mm_if_neB (tgt := 65) dX12_tick_30 (by decide) (fun c30 => ?_) (fun c30 => ?_)
      · refine mm_iincN (ls' := [(1, .int (nI (i + 1))), (0, .ref 200)]) 0 (i) 1 dX12_tick_65 rfl rfl (by decide) rfl ?_
        refine mm_goto (tgt := 14) dX12_tick_68 (by decide) ?_
        have hh := ih (i + 1) (by omega) (by omega)
        rw [tk_m, if_pos (show tk_no (tk_m w h n I i 201) i by first | exact Or.inl c30 | exact Or.inr (Or.inl c43) | exact Or.inr (Or.inr c57))] at hh
        exact mm_sub [0, 1] rfl hh
      · refine mm_aload_n 1 dX12_tick_33 rfl rfl ?_
        refine mm_getr (b := 201) dX12_tick_34 rfl fk_X12_9 rfl so_200 sr_200_0 ?_
        refine mm_iload_n 0 dX12_tick_37 rfl rfl ?_
        refine mm_iconst (v := 2) dX12_tick_38 rfl ?_
        refine mm_cS2i (dz := d - 1) dX12_tick_39 rfl mzX12_of ml_X12_87 imX12_of (by omega) (cm_of (i) (2)) (Nat.le_of_ble_eq_true rfl) ⟨Nat.le_refl _, Nat.le_refl _⟩ ?_
        refine mm_ialdN (630 + 40 * i + 2) dX12_tick_42 sa_201 (by omega) (by omega) ?_
        refine mm_if_le (tgt := 65) dX12_tick_43 (by decide) (fun c43 => ?_) (fun c43 => ?_)
        · refine mm_iincN (ls' := [(1, .int (nI (i + 1))), (0, .ref 200)]) 0 (i) 1 dX12_tick_65 rfl rfl (by decide) rfl ?_
          refine mm_goto (tgt := 14) dX12_tick_68 (by decide) ?_
          have hh := ih (i + 1) (by omega) (by omega)
          rw [tk_m, if_pos (show tk_no (tk_m w h n I i 201) i by first | exact Or.inl c30 | exact Or.inr (Or.inl c43) | exact Or.inr (Or.inr c57))] at hh
          exact mm_sub [0, 1] rfl hh
        · refine mm_aload_n 1 dX12_tick_46 rfl rfl ?_
          refine mm_getr (b := 201) dX12_tick_47 rfl fk_X12_9 rfl so_200 sr_200_0 ?_
          refine mm_iload_n 0 dX12_tick_50 rfl rfl ?_
          refine mm_bipush (v := 6) dX12_tick_51 rfl ?_
          refine mm_cS2i (dz := d - 1) dX12_tick_53 rfl mzX12_of ml_X12_87 imX12_of (by omega) (cm_of (i) (6)) (Nat.le_of_ble_eq_true rfl) ⟨Nat.le_refl _, Nat.le_refl _⟩ ?_
          refine mm_ialdN (630 + 40 * i + 6) dX12_tick_56 sa_201 (by omega) (by omega) ?_
          refine mm_if_lt (tgt := 65) dX12_tick_57 (by decide) (fun c57 => ?_) (fun c57 => ?_)
          · refine mm_iincN (ls' := [(1, .int (nI (i + 1))), (0, .ref 200)]) 0 (i) 1 dX12_tick_65 rfl rfl (by decide) rfl ?_
            refine mm_goto (tgt := 14) dX12_tick_68 (by decide) ?_
            have hh := ih (i + 1) (by omega) (by omega)
            rw [tk_m, if_pos (show tk_no (tk_m w h n I i 201) i by first | exact Or.inl c30 | exact Or.inr (Or.inl c43) | exact Or.inr (Or.inr c57))] at hh
            exact mm_sub [0, 1] rfl hh
          · obtain ⟨la, lb, c, p, k, wh, hG, hat⟩ := (hok i (by omega)).2 (by omega) (show ¬ tk_no (tk_m w h n I i 201) i by rintro (q | q | q); exact c30 q; exact c43 q; exact c57 q)
            have hcw := hG.2.2.2.2.1.2
            have hwh := hG.2.2.2.2.2.1.2
            have hpp := hG.2.2.2.2.2.2.1.2
            have hcc := mo_W_c hG.1
            refine mm_aload_n 1 dX12_tick_60 rfl rfl ?_
            refine mm_iload_n 0 dX12_tick_61 rfl rfl ?_
            refine mm_cV1v (dz := d - 1) dX12_tick_62 rfl mzX12_goesOn ml_X12_314 imX12_goesOn (by omega) so_200 ⟨rfl, rfl⟩ (cm_goesOn hG hat (by omega)) (Nat.le_of_ble_eq_true rfl) ⟨Nat.le_refl _, Nat.le_refl _⟩ ?_
            refine mm_iincN (ls' := [(1, .int (nI (i + 1))), (0, .ref 200)]) 0 (i) 1 dX12_tick_65 rfl rfl (by decide) rfl ?_
            refine mm_goto (tgt := 14) dX12_tick_68 (by decide) ?_
            have hh := ih (i + 1) (by omega) (by omega)
            rw [tk_m, if_neg (show ¬ tk_no (tk_m w h n I i 201) i by rintro (q | q | q); exact c30 q; exact c43 q; exact c57 q), hG.2.2.2.2.1.1, vv_nI (by omega), hG.2.2.2.2.2.1.1, vv_nI (by omega), hG.2.2.2.2.2.2.1.1, vv_nI (by omega)] at hh
            exact mm_sub [0, 1] rfl hh
set_option maxRecDepth 100000 in
set_option maxHeartbeats 600000 in
theorem cm_tick2 {g : mm_G} {I : mm_I} {d : Nat} {w h n l : Nat} (H : tk_H2 w h n l I) (hd : 6 ≤ d) : mm_Cv g zX12_tick d [.ref 200] sh_S I (op_tick w h n l I) := by
  obtain ⟨hm5, hl8, ⟨o, ho, ho12, hO⟩, ⟨r, hr, hr60, hr2, hR⟩, ⟨h16, h15, ⟨la, lb, hl2, hl3, hla, hlb⟩, b, hb31, hb⟩, hok, ⟨r0, hr0, hr45, hR0⟩, hm, hC⟩ := H
  rw [ho, vv_nI (by omega)] at hr2 hR
  have e1 : tk_1 I = op_rc (op_oc I o) r := by unfold tk_1; rw [ho, hr, vv_nI (by omega), vv_nI (by omega)]
  have e4 : tk_4 w h n l I = op_rg (tk_3 w h n l I) n r0 := by unfold tk_4; rw [hr0, vv_nI (by omega)]
  refine mm_Cv_of (fun Q hq => ?_)
  refine mm_begin (ls := [(0, .ref 200)]) (Nat.le_of_ble_eq_true rfl) rfl rfl ?_
  refine mm_aload_n 0 dX12_tick_0 rfl rfl ?_
  refine mm_cV0v (dz := d - 1) dX12_tick_1 rfl mzX12_ordersCome ml_X12_308 imX12_ordersCome (by omega) so_200 ⟨rfl, rfl⟩ (cm_ordersCome ho ho12 hO (by omega)) (Nat.le_of_ble_eq_true rfl) ⟨Nat.le_refl _, Nat.le_refl _⟩ ?_
  refine mm_aload_n 0 dX12_tick_4 rfl rfl ?_
  refine mm_cV0v (dz := d - 1) dX12_tick_5 rfl mzX12_reportsCome ml_X12_305 imX12_reportsCome (by omega) so_200 ⟨rfl, rfl⟩ (cm_reportsCome hr2 hr60 hR) (Nat.le_of_ble_eq_true rfl) ⟨Nat.le_refl _, Nat.le_refl _⟩ ?_
  rw [← e1]
  refine mm_aload_n 0 dX12_tick_8 rfl rfl ?_
  refine mm_cV0v (dz := d - 1) dX12_tick_9 rfl mzX12_powerComes ml_X12_311 imX12_powerComes (by omega) so_200 ⟨rfl, rfl⟩ (cm_powerComes h16 hm5 hl2 hl3 hla hlb h15 hl8 hb hb31 (by omega)) (Nat.le_of_ble_eq_true rfl) ⟨Nat.le_refl _, Nat.le_refl _⟩ ?_
  refine mm_iconst (v := 0) dX12_tick_12 rfl ?_
  refine mm_istore_n (ls' := [(1, .int (0)), (0, .ref 200)]) dX12_tick_13 rfl (by decide) rfl ?_
  refine mm_at (pc' := 14) rfl ?_
  refine lm_tk2 hm5 hok hd ?_ (n + 1) 0 (Nat.zero_le _) (by omega)
  refine mm_aload_n 1 dX12_tick_71 rfl rfl ?_
  refine mm_cV0v (dz := d - 1) dX12_tick_72 rfl mzX12_reportsGo ml_X12_317 imX12_reportsGo (by omega) so_200 ⟨rfl, rfl⟩ (cm_reportsGo hm hm5 hr0 hr45 hR0 hC (by omega)) (Nat.le_of_ble_eq_true rfl) ⟨Nat.le_refl _, Nat.le_refl _⟩ ?_
  rw [← e4]
  refine mm_aload_n 1 dX12_tick_75 rfl rfl ?_
  refine mm_getr (b := 201) dX12_tick_76 rfl fk_X12_9 rfl so_200 sr_200_0 ?_
  refine mm_bipush (v := 7) dX12_tick_79 rfl ?_
  refine mm_dup2 dX12_tick_81 rfl rfl ?_
  refine mm_ialdN (7) dX12_tick_82 sa_201 (by omega) (by omega) ?_
  refine mm_iconst (v := 1) dX12_tick_83 rfl ?_
  refine mm_at (pc' := 84) rfl ?_
  refine mm_iadd dX12_tick_84 ?_
  refine mm_iastN (7) dX12_tick_85 sa_201 (by omega) (by omega) ?_
  refine mm_vret dX12_tick_86 rfl ⟨Nat.le_refl _, Nat.le_refl _⟩ ?_
  exact hq
set_option maxRecDepth 100000 in
set_option maxHeartbeats 600000 in
theorem lm_run2 {g : mm_G} {I : mm_I} {d : Nat} {Q : Option Value → mm_Sh → mm_I → Prop} {w h n l k : Nat} (hk : k ≤ 30) (hH : ∀ j, j < k → tk_H2 w h n l (rn w h n l I j)) (hd : 7 ≤ d) (hq : Q (some (.int (rn w h n l I k 201 7))) sh_S (rn w h n l I k)) : ∀ (m : Nat) (i : Nat), (i ≤ k) → k - i < m → mm_Ex g zX12_run d (0, 0) (0, 0) sh_S (rn w h n l I i) 33 [(2, .int (nI (i))), (0, .ref 200), (1, .int (nI (k)))] [] Q := by
  intro m
  induction m with
  | zero => intro i hi hmz; exact absurd hmz (Nat.not_lt_zero _)
  | succ m ih =>
    intro i hi hmz
    refine mm_iload_n 0 dX12_run_33 rfl rfl ?_
    refine mm_iload_n 2 dX12_run_34 rfl rfl ?_
    refine mm_icmp_geN (i) (k) (tgt := 48) dX12_run_35 (by decide) (by omega) (by omega) (fun c35 => ?_) (fun c35 => ?_)
    · refine mm_aload_n 1 dX12_run_48 rfl rfl ?_
      refine mm_getr (b := 201) dX12_run_49 rfl fk_X12_9 rfl so_200 sr_200_0 ?_
      refine mm_bipush (v := 7) dX12_run_52 rfl ?_
      refine mm_ialdN (7) dX12_run_54 sa_201 (by omega) (by omega) ?_
      refine mm_iret dX12_run_55 rfl ⟨Nat.le_refl _, Nat.le_refl _⟩ ?_
      have e : i = k := by omega
      subst e
      exact hq
    · refine mm_aload_n 1 dX12_run_38 rfl rfl ?_
      refine mm_cV0v (dz := d - 1) dX12_run_39 rfl mzX12_tick ml_X12_320 imX12_tick (by omega) so_200 ⟨rfl, rfl⟩ (cm_tick2 (hH i (by omega)) (by omega)) (Nat.le_of_ble_eq_true rfl) ⟨Nat.le_refl _, Nat.le_refl _⟩ ?_
      refine mm_iincN (ls' := [(2, .int (nI (i + 1))), (0, .ref 200), (1, .int (nI (k)))]) 0 (i) 1 dX12_run_42 rfl rfl (by decide) rfl ?_
      refine mm_goto (tgt := 33) dX12_run_45 (by decide) ?_
      exact ih (i + 1) (by omega) (by omega)
set_option maxRecDepth 100000 in
set_option maxHeartbeats 600000 in
theorem cm_run2 {g : mm_G} {I : mm_I} {d : Nat} {w h n l : Nat} {x : Int32} (hH : sp_wi x 1 30 → I 201 7 + x ≤ 2000 → ∀ j, j < vv x → tk_H2 w h n l (rn w h n l I j)) (hd : 7 ≤ d) : mm_Ci g zX12_run d [.ref 200, .int x] sh_S I (op_run w h n l I x).1 (op_run w h n l I x).2 := by
  refine mm_Ci_of (fun Q hq => ?_)
  refine mm_begin (ls := [(0, .ref 200), (1, .int (x))]) (Nat.le_of_ble_eq_true rfl) rfl rfl ?_
  refine mm_iload_n 1 dX12_run_0 rfl rfl ?_
  refine mm_iconst (v := 1) dX12_run_1 rfl ?_
  refine mm_bipush (v := 30) dX12_run_2 rfl ?_
  refine mm_cS3i (dz := d - 1) dX12_run_4 rfl mzX12_within ml_X12_82 imX12_within (by omega) cm_within (Nat.le_of_ble_eq_true rfl) ⟨Nat.le_refl _, Nat.le_refl _⟩ ?_
  refine mm_if_neB (tgt := 13) dX12_run_7 (by decide) (fun c7 => ?_) (fun c7 => ?_)
  · refine mm_aload_n 0 dX12_run_13 rfl rfl ?_
    refine mm_getr (b := 201) dX12_run_14 rfl fk_X12_9 rfl so_200 sr_200_0 ?_
    refine mm_bipush (v := 7) dX12_run_17 rfl ?_
    refine mm_ialdN (7) dX12_run_19 sa_201 (by omega) (by omega) ?_
    refine mm_iload_n 1 dX12_run_20 rfl rfl ?_
    refine mm_iadd dX12_run_21 ?_
    refine mm_sipush (v := 2000) dX12_run_22 rfl ?_
    refine mm_icmp_le (tgt := 31) dX12_run_25 (by decide) (fun c25 => ?_) (fun c25 => ?_)
    · refine mm_iconst (v := 0) dX12_run_31 rfl ?_
      refine mm_istore_n (ls' := [(2, .int (0)), (0, .ref 200), (1, .int (x))]) dX12_run_32 rfl (by decide) rfl ?_
      obtain ⟨k, hk, e⟩ := sp_wi_n 1 30 (by omega) (by omega) c7
      subst e
      have hH := hH c7 c25
      rw [vv_nI (by omega)] at hH
      exact mm_sub [0, 1, 2] rfl (lm_run2 hk.2 hH hd (by unfold op_run at hq; rw [if_neg (fun q => q c7), if_neg (fun q => q c25), vv_nI (by omega)] at hq; exact hq) (k + 1) 0 (Nat.zero_le _) (by omega))
    · refine mm_ldc dX12_run_28 rfl kc_X12_121 ?_
      refine mm_iret dX12_run_30 rfl ⟨Nat.le_refl _, Nat.le_refl _⟩ ?_
      unfold op_run at hq
      first | (rw [if_pos c7] at hq; exact hq) | (rw [if_neg (fun q => q c7), if_pos c25] at hq; exact hq)
  · refine mm_ldc dX12_run_10 rfl kc_X12_86 ?_
    refine mm_iret dX12_run_12 rfl ⟨Nat.le_refl _, Nat.le_refl _⟩ ?_
    unfold op_run at hq
    first | (rw [if_pos c7] at hq; exact hq) | (rw [if_neg (fun q => q c7), if_pos c25] at hq; exact hq)
