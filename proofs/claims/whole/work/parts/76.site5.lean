/-! THE CLASS: its MACHINES, who they are and where -/
theorem s_n {c n l k o r : Nat} {A : mm_I} {N : Nat → Int32} : cN c n l k o r A N 1 4 = nI n := by
  refine cN_c ?_ rfl
  rw [lo_ato (by decide) (by decide) (by decide) (by decide) (by decide) (by decide) (by decide) (by decide) (by decide) (by decide) (by decide) (by decide) (by decide) (by decide) (by decide), if_neg (by omega)]
theorem s_m {c n l k o r : Nat} {A : mm_I} {N : Nat → Int32} {m i : Nat} (hn : n ≤ 5) (hm : m < n) (hi : i < 7) : cN c n l k o r A N (36 + 3 * m) i = N (630 + 40 * m + i) := cN_r ((lo_atm (by omega)).trans (if_pos ⟨hm, hi⟩))
/-- MACHINES stand on CELLS of their own -/
def mo_D (N : Nat → Int32) (n : Nat) : Prop := ∀ i j, i < j → j < n → ¬ N (630 + 40 * i + 1) = N (630 + 40 * j + 1)
theorem sp_mo_at {N : Nat → Int32} {c : Int32} {i : Nat} : ∀ n, mo_D N n → i < n → N (630 + 40 * i + 1) = c → sp_mo N c n = nI i := by
  intro n
  induction n with
  | zero => intro _ h; omega
  | succ n ih =>
    intro hD hi he
    unfold sp_mo
    by_cases q : i = n
    · subst q; rw [if_pos he]
    · rw [if_neg (fun w => hD i n (by omega) (by omega) (he.trans w.symm))]
      exact ih (fun a b h1 h2 => hD a b h1 (by omega)) (by omega) he
theorem sp_mo_no {N : Nat → Int32} {c : Int32} : ∀ n, (∀ i, i < n → ¬ N (630 + 40 * i + 1) = c) → sp_mo N c n = -1 := by
  intro n
  induction n with
  | zero => intro _; rfl
  | succ n ih =>
    intro h
    unfold sp_mo
    rw [if_neg (h n (by omega))]
    exact ih (fun i hi => h i (by omega))
set_option maxRecDepth 100000 in
set_option maxHeartbeats 600000 in
theorem cg_worker {g : mm_G} {d : Nat} {w h n l k o r : Nat} {A : mm_I} {N : Nat → Int32} (hz : zOK (w * h) n l k o r) (hW : mo_W N w h) {m : Nat} (hm : m < n) : mm_Cr g zX8_worker d [.ref 1, .int (nI (m))] sh_S (cN (w * h) n l k o r A N) (.ref (36 + 3 * m)) (cN (w * h) n l k o r A N) := by
  obtain ⟨hz1, hz2, hz3, hz4, hz5, hz6⟩ := id hz
  have hc := mo_W_c hW
  obtain ⟨-, -, hw1, hw2, hh1, hh2⟩ := id hW
  refine mm_Cr_of (fun Q hq => ?_)
  refine mm_begin (ls := [(0, .ref 1), (1, .int (nI (m)))]) (Nat.le_of_ble_eq_true rfl) rfl rfl ?_
  refine mm_iload_n 1 dX8_worker_0 rfl rfl ?_
  refine mm_if_ltN (m) (tgt := 30) dX8_worker_1 (by decide) (by omega) ?_
  refine mm_iload_n 1 dX8_worker_4 rfl rfl ?_
  refine mm_aload_n 0 dX8_worker_5 rfl rfl ?_
  refine mm_geti dX8_worker_6 rfl fk_X8_39 rfl so_1 ?_
  refine mm_top (v := nI (n)) s_n ?_
  refine mm_icmp_geN (m) (n) (tgt := 30) dX8_worker_9 (by decide) (by omega) (by omega) (fun c9 => ?_) (fun c9 => ?_)
  · refine mm_null dX8_worker_30 ?_
    refine mm_aret dX8_worker_31 rfl (Or.inl ⟨_, rfl⟩) (Or.inl rfl) ⟨Nat.le_refl _, Nat.le_refl _⟩ ?_
    first | exact hq | (exfalso; omega)
  · refine mm_iload_n 1 dX8_worker_12 rfl rfl ?_
    refine mm_aload_n 0 dX8_worker_13 rfl rfl ?_
    refine mm_getr (b := 35) dX8_worker_14 rfl fk_X8_34 rfl so_1 sr_1_3 ?_
    refine mm_alenR dX8_worker_17 sq_35 ?_
    refine mm_icmp_geN (m) (5) (tgt := 30) dX8_worker_18 (by decide) (by omega) (by omega) (fun c18 => ?_) (fun c18 => ?_)
    · refine mm_null dX8_worker_30 ?_
      refine mm_aret dX8_worker_31 rfl (Or.inl ⟨_, rfl⟩) (Or.inl rfl) ⟨Nat.le_refl _, Nat.le_refl _⟩ ?_
      first | exact hq | (exfalso; omega)
    · refine mm_aload_n 0 dX8_worker_21 rfl rfl ?_
      refine mm_getr (b := 35) dX8_worker_22 rfl fk_X8_34 rfl so_1 sr_1_3 ?_
      refine mm_iload_n 1 dX8_worker_25 rfl rfl ?_
      refine mm_aaldN (b := 36 + 3 * m) (m) dX8_worker_26 sq_35 (by omega) (by omega) (sm_1 (show m < 5 by omega)).2.2.2 ?_
      refine mm_goto (tgt := 31) dX8_worker_27 (by decide) ?_
      refine mm_aret dX8_worker_31 rfl (Or.inl ⟨_, rfl⟩) (Or.inr ⟨_, rfl⟩) ⟨Nat.le_refl _, Nat.le_refl _⟩ ?_
      first | exact hq | (exfalso; omega)
set_option maxRecDepth 100000 in
set_option maxHeartbeats 600000 in
theorem cg_workerN {g : mm_G} {d : Nat} {w h n l k o r : Nat} {A : mm_I} {N : Nat → Int32} (hz : zOK (w * h) n l k o r) (hW : mo_W N w h) {m : Int32} (hm : ¬ sp_isM n m) : mm_Cr g zX8_worker d [.ref 1, .int (m)] sh_S (cN (w * h) n l k o r A N) (.null) (cN (w * h) n l k o r A N) := by
  obtain ⟨hz1, hz2, hz3, hz4, hz5, hz6⟩ := id hz
  have hc := mo_W_c hW
  obtain ⟨-, -, hw1, hw2, hh1, hh2⟩ := id hW
  refine mm_Cr_of (fun Q hq => ?_)
  refine mm_begin (ls := [(0, .ref 1), (1, .int (m))]) (Nat.le_of_ble_eq_true rfl) rfl rfl ?_
  refine mm_iload_n 1 dX8_worker_0 rfl rfl ?_
  refine mm_if_lt (tgt := 30) dX8_worker_1 (by decide) (fun c1 => ?_) (fun c1 => ?_)
  · refine mm_null dX8_worker_30 ?_
    refine mm_aret dX8_worker_31 rfl (Or.inl ⟨_, rfl⟩) (Or.inl rfl) ⟨Nat.le_refl _, Nat.le_refl _⟩ ?_
    exact hq
  · refine mm_iload_n 1 dX8_worker_4 rfl rfl ?_
    refine mm_aload_n 0 dX8_worker_5 rfl rfl ?_
    refine mm_geti dX8_worker_6 rfl fk_X8_39 rfl so_1 ?_
    refine mm_top (v := nI (n)) s_n ?_
    refine mm_icmp_ge (tgt := 30) dX8_worker_9 (by decide) (fun c9 => ?_) (fun c9 => ?_)
    · refine mm_null dX8_worker_30 ?_
      refine mm_aret dX8_worker_31 rfl (Or.inl ⟨_, rfl⟩) (Or.inl rfl) ⟨Nat.le_refl _, Nat.le_refl _⟩ ?_
      exact hq
    · exact absurd ⟨Int32.not_lt.mp c1, Int32.not_le.mp c9⟩ hm
set_option maxRecDepth 100000 in
set_option maxHeartbeats 600000 in
theorem lg_mo {g : mm_G} {d : Nat} {w h n l k o r : Nat} {A : mm_I} {N : Nat → Int32} (hz : zOK (w * h) n l k o r) (hW : mo_W N w h) {Q : Option Value → mm_Sh → mm_I → Prop} {c : Int32} (hD : mo_D N n) (hd : 1 ≤ d) (hq : Q (some (.int (sp_mo N c n))) sh_S (cN (w * h) n l k o r A N)) : ∀ (m : Nat) (i : Nat), (i ≤ n) → (∀ j, j < i → ¬ N (630 + 40 * j + 1) = c) → n - i < m → mm_Ex g zX8_machineOn d (0, 0) (0, 0) sh_S (cN (w * h) n l k o r A N) 2 [(2, .int (nI (i))), (0, .ref 1), (1, .int (c))] [] Q := by
  obtain ⟨hz1, hz2, hz3, hz4, hz5, hz6⟩ := id hz
  have hc := mo_W_c hW
  obtain ⟨-, -, hw1, hw2, hh1, hh2⟩ := id hW
  intro m
  induction m with
  | zero => intro i hi hno hmz; exact absurd hmz (Nat.not_lt_zero _)
  | succ m ih =>
    intro i hi hno hmz
    refine mm_iload_n 0 dX8_machineOn_2 rfl rfl ?_
    refine mm_aload_n 1 dX8_machineOn_3 rfl rfl ?_
    refine mm_geti dX8_machineOn_4 rfl fk_X8_39 rfl so_1 ?_
    refine mm_top (v := nI (n)) s_n ?_
    refine mm_icmp_geN (i) (n) (tgt := 36) dX8_machineOn_7 (by decide) (by omega) (by omega) (fun c7 => ?_) (fun c7 => ?_)
    · refine mm_iconst (v := -1) dX8_machineOn_36 rfl ?_
      refine mm_iret dX8_machineOn_37 rfl ⟨Nat.le_refl _, Nat.le_refl _⟩ ?_
      rw [sp_mo_no n (fun j hj => hno j (by omega))] at hq; exact hq
    · refine mm_aload_n 1 dX8_machineOn_10 rfl rfl ?_
      refine mm_iload_n 0 dX8_machineOn_11 rfl rfl ?_
      refine mm_cV1r (dz := d - 1) dX8_machineOn_12 rfl mzX8_worker ml_X8_79 imX8_worker (by omega) so_1 ⟨rfl, rfl⟩ (cg_worker hz hW (m := i) (by omega)) (Nat.le_of_ble_eq_true rfl) ⟨Nat.le_refl _, Nat.le_refl _⟩ ?_
      refine mm_astore_n (ls' := [(3, .ref (36 + 3 * i)), (2, .int (nI (i))), (0, .ref 1), (1, .int (c))]) dX8_machineOn_15 rfl (by decide) rfl ?_
      refine mm_aload_n 0 dX8_machineOn_16 rfl rfl ?_
      refine mm_ifnull dX8_machineOn_17 ?_
      refine mm_aload_n 0 dX8_machineOn_20 rfl rfl ?_
      refine mm_at (pc' := 21) rfl ?_
      refine mm_geti dX8_machineOn_21 rfl fk_X8_96 rfl (sm_1 (show i < 5 by omega)).1 ?_
      refine mm_top (v := N (630 + 40 * i + 1)) (s_m (by omega) (by omega) (by omega)) ?_
      refine mm_iload_n 3 dX8_machineOn_24 rfl rfl ?_
      refine mm_icmp_ne (tgt := 30) dX8_machineOn_25 (by decide) (fun c25 => ?_) (fun c25 => ?_)
      · refine mm_iincN (ls' := [(2, .int (nI (i + 1))), (3, .ref (36 + 3 * i)), (0, .ref 1), (1, .int (c))]) 1 (i) 1 dX8_machineOn_30 rfl rfl (by decide) rfl ?_
        refine mm_goto (tgt := 2) dX8_machineOn_33 (by decide) ?_
        exact mm_sub [0, 2, 3] rfl (ih (i + 1) (by omega) (fun j hj => by by_cases q : j = i; (subst q; assumption); exact hno j (by omega)) (by omega))
      · refine mm_iload_n 1 dX8_machineOn_28 rfl rfl ?_
        refine mm_iret dX8_machineOn_29 rfl ⟨Nat.le_refl _, Nat.le_refl _⟩ ?_
        rw [sp_mo_at n hD (by omega) (by assumption)] at hq; exact hq
set_option maxRecDepth 100000 in
set_option maxHeartbeats 600000 in
theorem cg_mo {g : mm_G} {d : Nat} {w h n l k o r : Nat} {A : mm_I} {N : Nat → Int32} (hz : zOK (w * h) n l k o r) (hW : mo_W N w h) {c : Int32} (hD : mo_D N n) (hd : 1 ≤ d) : mm_Ci g zX8_machineOn d [.ref 1, .int (c)] sh_S (cN (w * h) n l k o r A N) (sp_mo N c n) (cN (w * h) n l k o r A N) := by
  obtain ⟨hz1, hz2, hz3, hz4, hz5, hz6⟩ := id hz
  have hc := mo_W_c hW
  obtain ⟨-, -, hw1, hw2, hh1, hh2⟩ := id hW
  refine mm_Ci_of (fun Q hq => ?_)
  refine mm_begin (ls := [(0, .ref 1), (1, .int (c))]) (Nat.le_of_ble_eq_true rfl) rfl rfl ?_
  refine mm_iconst (v := 0) dX8_machineOn_0 rfl ?_
  refine mm_istore_n (ls' := [(2, .int (0)), (0, .ref 1), (1, .int (c))]) dX8_machineOn_1 rfl (by decide) rfl ?_
  exact lg_mo hz hW hD hd hq (n + 1) 0 (Nat.zero_le _) (fun j hj => absurd hj (Nat.not_lt_zero _)) (by omega)
