/-! THE CLASS: ORDERS come -/
theorem cp_0 {I : mm_I} {a b p t : Nat} : mm_cp I a b p t 0 = I := by
  funext x j; unfold mm_cp
  by_cases e : x = b
  · rw [if_pos e, if_neg (by omega), e]
  · rw [if_neg e]
theorem cp_s {I : mm_I} {a b p t m : Nat} : mm_cp I a b p t (m + 1) = mm_up (mm_cp I a b p t m) b (t + m) (I a (p + m)) := by
  funext x j; unfold mm_cp mm_up
  by_cases e : x = b
  · by_cases e2 : j = t + m
    · subst e2; simp [e]
    · simp only [e, e2, if_true, if_false]
      by_cases e3 : t ≤ j ∧ j < t + m
      · rw [if_pos e3, if_pos (by omega)]
      · rw [if_neg e3, if_neg (by omega)]
  · simp [e]
theorem bsA_n {A : mm_I} {m b : Nat} (h : ¬ (36 + 3 * m ≤ b ∧ b ≤ 38 + 3 * m)) : bsA A m b = A b := by
  unfold bsA; rw [rw_fl_na (by omega), mm_up_a (by omega), mm_up_a (by omega)]
theorem bsA_7 {A : mm_I} {m : Nat} : bsA A m (36 + 3 * m) 7 = 0 := by
  unfold bsA; rw [rw_fl_na (by omega), mm_up_a (by omega), mm_up_at]
/-- what the class keeps of MACHINES' places, behind so many ORDERS -/
def oA (J A : mm_I) : Nat → mm_I
  | 0 => A
  | i + 1 => if J 201 (830 + 3 * i + 2) = J 201 7 then bsA (oA J A i) (vv (J 201 (830 + 3 * i + 0))) else oA J A i
def mo_On (N : Nat → Int32) (n o : Nat) : Prop := ∀ i, i < o → (∃ m, m < n ∧ N (830 + 3 * i + 0) = nI m) ∧ ∃ p, p < 6 ∧ N (830 + 3 * i + 1) = nI p
theorem On_O {N : Nat → Int32} {n o : Nat} (h : mo_On N n o) (hn : n ≤ 5) : mo_O N o := fun i hi => by
  obtain ⟨⟨m, h1, h2⟩, hp⟩ := h i hi
  exact ⟨⟨m, by omega, h2⟩, hp⟩
theorem oA_n {J A : mm_I} {n o b : Nat} (hO : mo_On (J 201) n o) (hn : n ≤ 5) (hb : ¬ (36 ≤ b ∧ b ≤ 50)) : ∀ i, i ≤ o → oA J A i b = A b := by
  intro i
  induction i with
  | zero => intro _; rfl
  | succ i ih =>
    intro hi
    unfold oA
    obtain ⟨⟨m, h1, h2⟩, -⟩ := hO i (by omega)
    split
    · rw [h2, vv_nI (by omega), bsA_n (by omega)]; exact ih (by omega)
    · exact ih (by omega)
theorem bl_in {J : mm_I} {m : Nat} : ∀ s j, j < s → op_bl J m s 201 (630 + 40 * m + (8 + j)) = -1 := by
  intro s
  induction s with
  | zero => intro j hj; exact absurd hj (Nat.not_lt_zero _)
  | succ s ih =>
    intro j hj
    show mm_up (op_bl J m s) 201 (630 + 40 * m + (8 + s)) (-1) 201 _ = _
    by_cases e : j = s
    · rw [e]; exact mm_up_at
    · rw [mm_up_ni (by omega)]; exact ih j (by omega)
theorem bl_out {J : mm_I} {m a x : Nat} (h : ¬ (638 + 40 * m ≤ x ∧ x < 670 + 40 * m)) : ∀ s, s ≤ 32 → op_bl J m s a x = J a x := by
  intro s
  induction s with
  | zero => intro _; rfl
  | succ s ih =>
    intro hs
    show mm_up (op_bl J m s) 201 (630 + 40 * m + (8 + s)) (-1) a x = _
    by_cases e : a = 201
    · subst e; rw [mm_up_ni (by omega)]; exact ih (by omega)
    · rw [mm_up_ne e]; exact ih (by omega)
theorem begin_6 {J : mm_I} {m p : Nat} : op_begin J m p 201 (630 + 40 * m + 6) = (if J 201 (1226 + 418 * p) = 0 then -1 else nI p) := by
  unfold op_begin; rw [bl_out (by omega) 32 (by omega), mm_up_ni (by omega), mm_up_at]
theorem begin_7 {J : mm_I} {m p : Nat} : op_begin J m p 201 (630 + 40 * m + 7) = 0 := by
  unfold op_begin; rw [bl_out (by omega) 32 (by omega), mm_up_at]
theorem begin_8 {J : mm_I} {m p s : Nat} (hs : s < 32) : op_begin J m p 201 (630 + 40 * m + (8 + s)) = -1 := by
  unfold op_begin; exact bl_in 32 s hs
theorem begin_n {J : mm_I} {m p a x : Nat} (h : ¬ (636 + 40 * m ≤ x ∧ x < 670 + 40 * m)) : op_begin J m p a x = J a x := by
  unfold op_begin; rw [bl_out (by omega) 32 (by omega)]
  by_cases e : a = 201
  · subst e; rw [mm_up_ni (by omega), mm_up_ni (by omega)]
  · rw [mm_up_ne e, mm_up_ne e]
theorem begin_X {J : mm_I} {m p : Nat} : eqX m (op_begin J m p 201) (upd (J 201) (630 + 40 * m + 6) (if J 201 (1226 + 418 * p) = 0 then -1 else nI p)) := fun y hy => by
  by_cases e : y = 630 + 40 * m + 6
  · rw [e, begin_6, upd_y]
  · rw [upd_n e, begin_n (by omega)]
theorem cN_o {c n l k o r : Nat} (hz : zOK c n l k o r) {A : mm_I} {N : Nat → Int32} {i : Nat} {v : Int32} (hi : i < 3 * o) : mm_up (cN c n l k o r A N) 83 i v = cN c n l k o r A (upd N (830 + i) v) := cN_up hz (lo_at83.trans (if_pos hi)) (sn_up (by omega) hz.1)
theorem s_or {c n l k o r : Nat} {A : mm_I} {N : Nat → Int32} {i : Nat} (hi : i < 3 * o) : cN c n l k o r A N 83 i = N (830 + i) := cN_r (lo_at83.trans (if_pos hi))
theorem s_tk {c n l k o r : Nat} {A : mm_I} {N : Nat → Int32} : cN c n l k o r A N 17 0 = N 7 := cN_r (lo_at17.trans rfl)
/-- an ORDER that stays moves up -/
theorem cp_o {c n l k o r : Nat} (hz : zOK c n l k o r) {A J : mm_I} {i s : Nat} (hi : i < o) (hs : s ≤ i) {K : mm_I} (hK : ∀ j, j < 3 → K 201 (830 + 3 * i + j) = J 201 (830 + 3 * i + j)) : mm_cp (cN c n l k o r A (K 201)) 83 83 (3 * i) (3 * s) 3 = cN c n l k o r A (oc_mv K s (J 201 (830 + 3 * i + 0)) (J 201 (830 + 3 * i + 1)) (J 201 (830 + 3 * i + 2)) 201) := by
  unfold oc_mv
  rw [cp_s, cp_s, cp_s, cp_0, s_or (by omega), s_or (by omega), s_or (by omega), cN_o hz (by omega), cN_o hz (by omega), cN_o hz (by omega), up_201, up_201, up_201]
  rw [show 830 + (3 * i + 0) = 830 + 3 * i + 0 by omega, show 830 + (3 * i + 1) = 830 + 3 * i + 1 by omega, show 830 + (3 * i + 2) = 830 + 3 * i + 2 by omega, show 830 + (3 * s + 0) = 830 + 3 * s + 0 by omega, show 830 + (3 * s + 1) = 830 + 3 * s + 1 by omega, show 830 + (3 * s + 2) = 830 + 3 * s + 2 by omega, hK 0 (by decide), hK 1 (by decide), hK 2 (by decide)]
set_option maxRecDepth 100000 in
set_option maxHeartbeats 600000 in
theorem cg_bo1 {g : mm_G} {d : Nat} {w h n l k o r : Nat} {A : mm_I} {N : Nat → Int32} (hz : zOK (w * h) n l k o r) (hW : mo_W N w h) {m p : Nat} (hm : m < n) (hp : p < 6) (hE : A (52 + 5 * p) 2 = N (1226 + 418 * p)) (hd : 3 ≤ d) : mm_Cv g zX6_bringOrder d [.ref 171, .ref (36 + 3 * m), .int (nI (p))] sh_S (cN (w * h) n l k o r A N) (cN (w * h) n l k o r (bsA A m) (upd N (630 + 40 * m + 6) (if N (1226 + 418 * p) = 0 then -1 else nI p))) := by
  obtain ⟨hz1, hz2, hz3, hz4, hz5, hz6⟩ := id hz
  have hc := mo_W_c hW
  obtain ⟨-, -, hw1, hw2, hh1, hh2⟩ := id hW
  refine mm_Cv_of (fun Q hq => ?_)
  refine mm_begin (ls := [(0, .ref 171), (1, .ref (36 + 3 * m)), (2, .int (nI (p)))]) (Nat.le_of_ble_eq_true rfl) rfl rfl ?_
  refine mm_aload_n 0 dX6_bringOrder_0 rfl rfl ?_
  refine mm_getr (b := 1) dX6_bringOrder_1 rfl fk_X6_9 rfl so_171 sr_171_0 ?_
  refine mm_iload_n 2 dX6_bringOrder_4 rfl rfl ?_
  refine mm_cV1r (dz := d - 1) dX6_bringOrder_5 rfl mzX8_script ml_X6_91 imX8_script (by omega) so_1 ⟨rfl, rfl⟩ (cg_script hz hW (p := p) (by omega)) (Nat.le_of_ble_eq_true rfl) ⟨Nat.le_refl _, Nat.le_refl _⟩ ?_
  refine mm_astore_n (ls' := [(3, .ref (52 + 5 * p)), (0, .ref 171), (1, .ref (36 + 3 * m)), (2, .int (nI (p)))]) dX6_bringOrder_8 rfl (by decide) rfl ?_
  refine mm_aload_n 2 dX6_bringOrder_9 rfl rfl ?_
  refine mm_ifnull dX6_bringOrder_10 ?_
  refine mm_aload_n 0 dX6_bringOrder_13 rfl rfl ?_
  refine mm_at (pc' := 14) rfl ?_
  refine mm_ifnull dX6_bringOrder_14 ?_
  refine mm_aload_n 2 dX6_bringOrder_17 rfl rfl ?_
  refine mm_aload_n 0 dX6_bringOrder_18 rfl rfl ?_
  refine mm_cV0i (dz := d - 1) dX6_bringOrder_19 rfl mzX4_isEmpty ml_X6_95 imX4_isEmpty (by omega) (sp_1 hp).1 ⟨rfl, rfl⟩ (cg_pempty hz hW (p := p) (by omega)) (Nat.le_of_ble_eq_true rfl) ⟨Nat.le_refl _, Nat.le_refl _⟩ ?_
  refine mm_if_eqB (tgt := 29) dX6_bringOrder_22 (by decide) (fun c22 => ?_) (fun c22 => ?_)
  · refine mm_iload_n 3 dX6_bringOrder_29 rfl rfl ?_
    refine mm_cV1v (dz := d - 1) dX6_bringOrder_30 rfl mzX1_beginScript ml_X6_100 imX1_beginScript (by omega) (sm_1 (show m < 5 by omega)).1 ⟨rfl, rfl⟩ (ct_bs (mc_m (show m < 5 by omega)) (by omega)) (Nat.le_of_ble_eq_true rfl) ⟨Nat.le_refl _, Nat.le_refl _⟩ ?_
    refine mm_vret dX6_bringOrder_33 rfl ⟨Nat.le_refl _, Nat.le_refl _⟩ ?_
    rw [bsM_cN hz hm]
    rw [if_neg (fun q => c22 (hE.trans q))] at hq; exact hq
  · refine mm_iconst (v := -1) dX6_bringOrder_25 rfl ?_
    refine mm_goto (tgt := 30) dX6_bringOrder_26 (by decide) ?_
    refine mm_cV1v (dz := d - 1) dX6_bringOrder_30 rfl mzX1_beginScript ml_X6_100 imX1_beginScript (by omega) (sm_1 (show m < 5 by omega)).1 ⟨rfl, rfl⟩ (ct_bs (mc_m (show m < 5 by omega)) (by omega)) (Nat.le_of_ble_eq_true rfl) ⟨Nat.le_refl _, Nat.le_refl _⟩ ?_
    refine mm_vret dX6_bringOrder_33 rfl ⟨Nat.le_refl _, Nat.le_refl _⟩ ?_
    rw [bsM_cN hz hm]
    rw [if_pos (hE.symm.trans c22)] at hq; exact hq
set_option maxRecDepth 100000 in
set_option maxHeartbeats 600000 in
theorem lg_bo {g : mm_G} {d : Nat} {w h n l k o r : Nat} {A : mm_I} {N : Nat → Int32} (hz : zOK (w * h) n l k o r) (hW : mo_W N w h) {Q : Option Value → mm_Sh → mm_I → Prop} {J : mm_I} (hJ : J 201 = N) (hO : mo_On N n o) (hE : ∀ p, p < 6 → A (52 + 5 * p) 2 = N (1226 + 418 * p)) (hd : 4 ≤ d) (hq : Q none sh_S (mm_up (cN (w * h) n l k o r (oA J A o) ((oc J o).1 201)) 82 1 (nI (3 * (oc J o).2)))) : ∀ (mf i : Nat), i ≤ o → o - i < mf → mm_Ex g zX6_bringOrders d (0, 0) (0, 0) sh_S (cN (w * h) n l k o r (oA J A i) ((oc J i).1 201)) 12 [(3, .int (nI (3 * i))), (2, .int (nI (3 * (oc J i).2))), (1, .ref 82), (0, .ref 171)] [] Q := by
  obtain ⟨hz1, hz2, hz3, hz4, hz5, hz6⟩ := id hz
  have hc := mo_W_c hW
  obtain ⟨-, -, hw1, hw2, hh1, hh2⟩ := id hW
  rw [← hJ] at hO hE hW
  have hO5 := On_O hO hz2
  intro mf
  induction mf with
  | zero => intro i hi hmz; exact absurd hmz (Nat.not_lt_zero _)
  | succ mf ih =>
    intro i hi hmz
    have hle := oc_le (J := J) i
    have hWi : mo_W ((oc J i).1 201) w h := ⟨(oc_ne hO5 i hi (by omega)).trans hW.1, (oc_ne hO5 i hi (by omega)).trans hW.2.1, hW.2.2⟩
    have h7 : (oc J i).1 201 7 = J 201 7 := oc_ne hO5 i hi (by omega)
    have hJi : ∀ j, j < 3 → (oc J i).1 201 (830 + 3 * i + j) = J 201 (830 + 3 * i + j) := fun j hj => oc_ne hO5 i hi (by omega)
    refine mm_iload_n 0 dX6_bringOrders_12 rfl rfl ?_
    refine mm_aload_n 2 dX6_bringOrders_13 rfl rfl ?_
    refine mm_cV0i (dz := d - 1) dX6_bringOrders_14 rfl mzX5_size ml_X6_72 imX5_size (by omega) so_82 ⟨rfl, rfl⟩ (ct_size rw_82) (Nat.le_of_ble_eq_true rfl) ⟨Nat.le_refl _, Nat.le_refl _⟩ ?_
    refine mm_top (v := nI (3 * o)) s_o ?_
    refine mm_icmp_geN (3 * i) (3 * o) (tgt := 83) dX6_bringOrders_17 (by decide) (by omega) (by omega) (fun c17 => ?_) (fun c17 => ?_)
    · refine mm_aload_n 2 dX6_bringOrders_83 rfl rfl ?_
      refine mm_iload_n 1 dX6_bringOrders_84 rfl rfl ?_
      refine mm_cV1v (dz := d - 1) dX6_bringOrders_85 rfl mzX5_shorten ml_X6_88 imX5_shorten (by omega) so_82 ⟨rfl, rfl⟩ (ct_shorten rw_82 (3 * o) (3 * (oc J i).2) s_o (by omega) (by omega) (by omega)) (Nat.le_of_ble_eq_true rfl) ⟨Nat.le_refl _, Nat.le_refl _⟩ ?_
      refine mm_vret dX6_bringOrders_88 rfl ⟨Nat.le_refl _, Nat.le_refl _⟩ ?_
      have e : i = o := by omega
      subst e; exact hq
    · obtain ⟨⟨m, hm, em⟩, p, hp, ep⟩ := hO i (by omega)
      refine mm_aload_n 2 dX6_bringOrders_20 rfl rfl ?_
      refine mm_iload_n 0 dX6_bringOrders_21 rfl rfl ?_
      refine mm_iconst (v := 2) dX6_bringOrders_22 rfl ?_
      refine mm_iaddN (3 * i) (2) dX6_bringOrders_23 ?_
      refine mm_cV1i (dz := d - 1) dX6_bringOrders_24 rfl mzX5_at ml_X6_76 imX5_at (by omega) so_82 ⟨rfl, rfl⟩ (ct_at rw_82 ((3 * i) + 2) (by omega)) (Nat.le_of_ble_eq_true rfl) ⟨Nat.le_refl _, Nat.le_refl _⟩ ?_
      refine mm_top (v := J 201 (830 + 3 * i + 2)) ((s_or (by omega)).trans (hJi 2 (by decide))) ?_
      refine mm_aload_n 3 dX6_bringOrders_27 rfl rfl ?_
      refine mm_getr (b := 1) dX6_bringOrders_28 rfl fk_X6_9 rfl so_171 sr_171_0 ?_
      refine mm_at (pc' := 31) rfl ?_
      refine mm_getr (b := 17) dX6_bringOrders_31 rfl fk_X6_30 rfl so_1 sr_1_1 ?_
      refine mm_geti dX6_bringOrders_34 rfl fk_X6_66 rfl so_17 ?_
      refine mm_top (v := J 201 7) (s_tk.trans h7) ?_
      refine mm_icmp_ne (tgt := 66) dX6_bringOrders_37 (by decide) (fun c37 => ?_) (fun c37 => ?_)
      · refine mm_aload_n 2 dX6_bringOrders_66 rfl rfl ?_
        refine mm_aload_n 2 dX6_bringOrders_67 rfl rfl ?_
        refine mm_iload_n 0 dX6_bringOrders_68 rfl rfl ?_
        refine mm_iload_n 1 dX6_bringOrders_69 rfl rfl ?_
        refine mm_iconst (v := 3) dX6_bringOrders_70 rfl ?_
        refine mm_cV4v (dz := d - 1) dX6_bringOrders_71 rfl mzX5_take ml_X6_84 imX5_take (by omega) so_82 ⟨rfl, rfl⟩ (ct_take rw_82 rw_82 (3 * i) (3 * (oc J i).2) 3 (by omega) (by omega) (by omega)) (Nat.le_of_ble_eq_true rfl) ⟨Nat.le_refl _, Nat.le_refl _⟩ ?_
        refine mm_iincN (ls' := [(2, .int (nI (3 * (oc J i).2 + 3))), (3, .int (nI (3 * i))), (1, .ref 82), (0, .ref 171)]) 1 (3 * (oc J i).2) 3 dX6_bringOrders_74 rfl rfl (by decide) rfl ?_
        refine mm_iincN (ls' := [(3, .int (nI (3 * i + 3))), (2, .int (nI (3 * (oc J i).2 + 3))), (1, .ref 82), (0, .ref 171)]) 1 (3 * i) 3 dX6_bringOrders_77 rfl rfl (by decide) rfl ?_
        refine mm_at (pc' := 80) rfl ?_
        refine mm_goto (tgt := 12) dX6_bringOrders_80 (by decide) ?_
        have e1 : (oc J (i + 1)) = (oc_mv (oc J i).1 (oc J i).2 (J 201 (830 + 3 * i + 0)) (J 201 (830 + 3 * i + 1)) (J 201 (830 + 3 * i + 2)), (oc J i).2 + 1) := by rw [oc, if_neg c37]
        have e2 : oA J A (i + 1) = oA J A i := by rw [oA, if_neg c37]
        rw [cp_o hz (by omega) hle hJi]
        have hh := ih (i + 1) (by omega) (by omega)
        rw [e1, e2] at hh
        exact mm_sub [0, 1, 2, 3] rfl hh
      · refine mm_aload_n 3 dX6_bringOrders_40 rfl rfl ?_
        refine mm_aload_n 3 dX6_bringOrders_41 rfl rfl ?_
        refine mm_getr (b := 1) dX6_bringOrders_42 rfl fk_X6_9 rfl so_171 sr_171_0 ?_
        refine mm_aload_n 2 dX6_bringOrders_45 rfl rfl ?_
        refine mm_iload_n 0 dX6_bringOrders_46 rfl rfl ?_
        refine mm_cV1i (dz := d - 1) dX6_bringOrders_47 rfl mzX5_at ml_X6_76 imX5_at (by omega) so_82 ⟨rfl, rfl⟩ (ct_at rw_82 (3 * i) (by omega)) (Nat.le_of_ble_eq_true rfl) ⟨Nat.le_refl _, Nat.le_refl _⟩ ?_
        refine mm_top (v := nI (m)) ((s_or (by omega)).trans ((hJi 0 (by decide)).trans em)) ?_
        refine mm_cV1r (dz := d - 1) dX6_bringOrders_50 rfl mzX8_worker ml_X6_55 imX8_worker (by omega) so_1 ⟨rfl, rfl⟩ (cg_worker hz hWi (m := m) (by omega)) (Nat.le_of_ble_eq_true rfl) ⟨Nat.le_refl _, Nat.le_refl _⟩ ?_
        refine mm_at (pc' := 53) rfl ?_
        refine mm_aload_n 2 dX6_bringOrders_53 rfl rfl ?_
        refine mm_iload_n 0 dX6_bringOrders_54 rfl rfl ?_
        refine mm_iconst (v := 1) dX6_bringOrders_55 rfl ?_
        refine mm_iaddN (3 * i) (1) dX6_bringOrders_56 ?_
        refine mm_cV1i (dz := d - 1) dX6_bringOrders_57 rfl mzX5_at ml_X6_76 imX5_at (by omega) so_82 ⟨rfl, rfl⟩ (ct_at rw_82 ((3 * i) + 1) (by omega)) (Nat.le_of_ble_eq_true rfl) ⟨Nat.le_refl _, Nat.le_refl _⟩ ?_
        refine mm_top (v := nI (p)) ((s_or (by omega)).trans ((hJi 1 (by decide)).trans ep)) ?_
        refine mm_cV2v (dz := d - 1) dX6_bringOrders_60 rfl mzX6_bringOrder ml_X6_80 imX6_bringOrder (by omega) so_171 ⟨rfl, rfl⟩ (cg_bo1 hz hWi (m := m) (p := p) hm hp ((congrFun (oA_n hO hz2 (by omega) i hi) 2).trans ((hE p hp).trans (oc_ne hO5 i hi (by omega)).symm)) (by omega)) (Nat.le_of_ble_eq_true rfl) ⟨Nat.le_refl _, Nat.le_refl _⟩ ?_
        refine mm_goto (tgt := 77) dX6_bringOrders_63 (by decide) ?_
        refine mm_iincN (ls' := [(3, .int (nI (3 * i + 3))), (2, .int (nI (3 * (oc J i).2))), (1, .ref 82), (0, .ref 171)]) 0 (3 * i) 3 dX6_bringOrders_77 rfl rfl (by decide) rfl ?_
        refine mm_goto (tgt := 12) dX6_bringOrders_80 (by decide) ?_
        have e1 : (oc J (i + 1)) = (op_begin (oc J i).1 m p, (oc J i).2) := by rw [oc, if_pos c37, em, ep, vv_nI (by omega), vv_nI (by omega)]
        have e2 : oA J A (i + 1) = bsA (oA J A i) m := by rw [oA, if_pos c37, em, vv_nI (by omega)]
        rw [← cN_x (A := bsA (oA J A i) m) hz (show m < 5 by omega) (begin_X (J := (oc J i).1) (m := m) (p := p))]
        have hh := ih (i + 1) (by omega) (by omega)
        rw [e1, e2] at hh
        exact mm_sub [0, 1, 2, 3] rfl hh
set_option maxRecDepth 100000 in
set_option maxHeartbeats 600000 in
theorem cg_bo {g : mm_G} {d : Nat} {w h n l k o r : Nat} {A : mm_I} {N : Nat → Int32} (hz : zOK (w * h) n l k o r) (hW : mo_W N w h) {J : mm_I} (hJ : J 201 = N) (hO : mo_On N n o) (hE : ∀ p, p < 6 → A (52 + 5 * p) 2 = N (1226 + 418 * p)) (hd : 4 ≤ d) : mm_Cv g zX6_bringOrders d [.ref 171] sh_S (cN (w * h) n l k o r A N) (mm_up (cN (w * h) n l k o r (oA J A o) ((oc J o).1 201)) 82 1 (nI (3 * (oc J o).2))) := by
  obtain ⟨hz1, hz2, hz3, hz4, hz5, hz6⟩ := id hz
  have hc := mo_W_c hW
  obtain ⟨-, -, hw1, hw2, hh1, hh2⟩ := id hW
  refine mm_Cv_of (fun Q hq => ?_)
  refine mm_begin (ls := [(0, .ref 171)]) (Nat.le_of_ble_eq_true rfl) rfl rfl ?_
  refine mm_aload_n 0 dX6_bringOrders_0 rfl rfl ?_
  refine mm_getr (b := 1) dX6_bringOrders_1 rfl fk_X6_9 rfl so_171 sr_171_0 ?_
  refine mm_getr (b := 82) dX6_bringOrders_4 rfl fk_X6_69 rfl so_1 sr_1_6 ?_
  refine mm_astore_n (ls' := [(1, .ref 82), (0, .ref 171)]) dX6_bringOrders_7 rfl (by decide) rfl ?_
  refine mm_iconst (v := 0) dX6_bringOrders_8 rfl ?_
  refine mm_istore_n (ls' := [(2, .int (0)), (1, .ref 82), (0, .ref 171)]) dX6_bringOrders_9 rfl (by decide) rfl ?_
  refine mm_iconst (v := 0) dX6_bringOrders_10 rfl ?_
  refine mm_istore_n (ls' := [(3, .int (0)), (2, .int (0)), (1, .ref 82), (0, .ref 171)]) dX6_bringOrders_11 rfl (by decide) rfl ?_
  refine mm_at (pc' := 12) rfl ?_
  exact mm_sub [0, 1, 2, 3] rfl (mm_mem (J := cN (w * h) n l k o r (oA J A 0) ((oc J 0).1 201)) (by show _ = cN (w * h) n l k o r A (J 201); rw [hJ]) (lg_bo hz hW hJ hO hE hd hq (o + 1) 0 (Nat.zero_le _) (by omega)))
