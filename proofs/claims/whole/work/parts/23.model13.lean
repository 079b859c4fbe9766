/-! THE REFERENCE: orders and reports come -/
theorem op_bl_ne {J : mm_I} {m a x : Nat} (hm : m < 5) (h : a ≠ 201 ∨ x < 630 ∨ 830 ≤ x) : ∀ s, s ≤ 32 → op_bl J m s a x = J a x := by
  intro s
  induction s with
  | zero => intro _; rfl
  | succ s ih =>
    intro hs
    show mm_up (op_bl J m s) 201 (630 + 40 * m + (8 + s)) (-1) a x = _
    by_cases e : a = 201
    · subst e; rw [mm_up_ni (by omega)]; exact ih (by omega)
    · rw [mm_up_ne e]; exact ih (by omega)
theorem op_begin_ne {J : mm_I} {m p a x : Nat} (hm : m < 5) (h : a ≠ 201 ∨ x < 630 ∨ 830 ≤ x) : op_begin J m p a x = J a x := by
  unfold op_begin
  rw [op_bl_ne hm h 32 (by omega)]
  by_cases e : a = 201
  · subst e; rw [mm_up_ni (by omega), mm_up_ni (by omega)]
  · rw [mm_up_ne e, mm_up_ne e]
/-- orders: machine and program are ones -/
def mo_O (N : Nat → Int32) (o : Nat) : Prop := ∀ i, i < o → (∃ m, m < 5 ∧ N (830 + 3 * i + 0) = nI m) ∧ ∃ p, p < 6 ∧ N (830 + 3 * i + 1) = nI p
def oc_mv (K : mm_I) (k : Nat) (x y z : Int32) : mm_I := mm_up (mm_up (mm_up K 201 (830 + 3 * k + 0) x) 201 (830 + 3 * k + 1) y) 201 (830 + 3 * k + 2) z
def oc (J : mm_I) : Nat → mm_I × Nat
  | 0 => (J, 0)
  | i + 1 => if J 201 (830 + 3 * i + 2) = J 201 7 then (op_begin (oc J i).1 (vv (J 201 (830 + 3 * i + 0))) (vv (J 201 (830 + 3 * i + 1))), (oc J i).2) else (oc_mv (oc J i).1 (oc J i).2 (J 201 (830 + 3 * i + 0)) (J 201 (830 + 3 * i + 1)) (J 201 (830 + 3 * i + 2)), (oc J i).2 + 1)
theorem oc_le {J : mm_I} : ∀ i, (oc J i).2 ≤ i := by
  intro i
  induction i with
  | zero => exact Nat.le_refl _
  | succ i ih =>
    unfold oc
    by_cases c : J 201 (830 + 3 * i + 2) = J 201 7
    · rw [if_pos c]; exact Nat.le_succ_of_le ih
    · rw [if_neg c]; exact Nat.succ_le_succ ih
theorem oc_ne {J : mm_I} {o a x : Nat} (hO : mo_O (J 201) o) : ∀ i, i ≤ o → (a ≠ 201 ∨ x < 630 ∨ 830 + 3 * i ≤ x) → (oc J i).1 a x = J a x := by
  intro i
  induction i with
  | zero => intro _ _; rfl
  | succ i ih =>
    intro hi h
    have e := ih (by omega) (by omega)
    have hl := oc_le (J := J) i
    unfold oc
    by_cases c : J 201 (830 + 3 * i + 2) = J 201 7
    · rw [if_pos c]
      obtain ⟨⟨m, hm, em⟩, -⟩ := hO i (by omega)
      show op_begin (oc J i).1 (vv (J 201 (830 + 3 * i + 0))) (vv (J 201 (830 + 3 * i + 1))) a x = _
      rw [em, vv_nI (by omega), op_begin_ne hm (by omega)]
      exact e
    · rw [if_neg c]
      show oc_mv (oc J i).1 (oc J i).2 _ _ _ a x = _
      unfold oc_mv
      by_cases e2 : a = 201
      · subst e2; rw [mm_up_ni (by omega), mm_up_ni (by omega), mm_up_ni (by omega)]; exact e
      · rw [mm_up_ne e2, mm_up_ne e2, mm_up_ne e2]; exact e
def op_oc (J : mm_I) (o : Nat) : mm_I := mm_up (oc J o).1 201 17 (nI (oc J o).2)
/-- reports: the cell is one -/
def mo_R (N : Nat → Int32) (r : Nat) : Prop := ∀ i, i < r → ∃ c, c < 80 ∧ N (866 + 6 * i) = nI c
def rc_mv (K : mm_I) (k : Nat) (f : Nat → Int32) : mm_I := mm_up (mm_up (mm_up (mm_up (mm_up (mm_up K 201 (866 + 6 * k + 0) (f 0)) 201 (866 + 6 * k + 1) (f 1)) 201 (866 + 6 * k + 2) (f 2)) 201 (866 + 6 * k + 3) (f 3)) 201 (866 + 6 * k + 4) (f 4)) 201 (866 + 6 * k + 5) (f 5)
def rc_mp (K : mm_I) (c : Nat) (f : Nat → Int32) : mm_I := mm_up (mm_up (mm_up (mm_up K 201 (270 + 4 * c + 0) (f 1)) 201 (270 + 4 * c + 1) (f 2)) 201 (270 + 4 * c + 2) (f 3)) 201 (270 + 4 * c + 3) (f 4)
def rc (J : mm_I) : Nat → mm_I × Nat
  | 0 => (J, 0)
  | i + 1 => if J 201 (866 + 6 * i + 5) = J 201 7 then (rc_mp (rc J i).1 (vv (J 201 (866 + 6 * i))) (fun j => J 201 (866 + 6 * i + j)), (rc J i).2) else (rc_mv (rc J i).1 (rc J i).2 (fun j => J 201 (866 + 6 * i + j)), (rc J i).2 + 1)
theorem rc_le {J : mm_I} : ∀ i, (rc J i).2 ≤ i := by
  intro i
  induction i with
  | zero => exact Nat.le_refl _
  | succ i ih =>
    unfold rc
    by_cases c : J 201 (866 + 6 * i + 5) = J 201 7
    · rw [if_pos c]; exact Nat.le_succ_of_le ih
    · rw [if_neg c]; exact Nat.succ_le_succ ih
theorem rc_ne {J : mm_I} {r a x : Nat} (hR : mo_R (J 201) r) : ∀ i, i ≤ r → (a ≠ 201 ∨ x < 270 ∨ (590 ≤ x ∧ x < 866) ∨ 866 + 6 * i ≤ x) → (rc J i).1 a x = J a x := by
  intro i
  induction i with
  | zero => intro _ _; rfl
  | succ i ih =>
    intro hi h
    have e := ih (by omega) (by omega)
    have hl := rc_le (J := J) i
    unfold rc
    by_cases c : J 201 (866 + 6 * i + 5) = J 201 7
    · rw [if_pos c]
      obtain ⟨m, hm, em⟩ := hR i (by omega)
      show rc_mp (rc J i).1 (vv (J 201 (866 + 6 * i))) (fun j => J 201 (866 + 6 * i + j)) a x = _
      rw [em, vv_nI (by omega)]
      unfold rc_mp
      by_cases e2 : a = 201
      · subst e2; rw [mm_up_ni (by omega), mm_up_ni (by omega), mm_up_ni (by omega), mm_up_ni (by omega)]; exact e
      · rw [mm_up_ne e2, mm_up_ne e2, mm_up_ne e2, mm_up_ne e2]; exact e
    · rw [if_neg c]
      show rc_mv (rc J i).1 (rc J i).2 (fun j => J 201 (866 + 6 * i + j)) a x = _
      unfold rc_mv
      by_cases e2 : a = 201
      · subst e2; rw [mm_up_ni (by omega), mm_up_ni (by omega), mm_up_ni (by omega), mm_up_ni (by omega), mm_up_ni (by omega), mm_up_ni (by omega)]; exact e
      · rw [mm_up_ne e2, mm_up_ne e2, mm_up_ne e2, mm_up_ne e2, mm_up_ne e2, mm_up_ne e2]; exact e
def op_rc (J : mm_I) (r : Nat) : mm_I := mm_up (rc J r).1 201 18 (nI (rc J r).2)
set_option maxRecDepth 100000 in
set_option maxHeartbeats 600000 in
theorem lm_oc {g : mm_G} {I : mm_I} {d : Nat} {Q : Option Value → mm_Sh → mm_I → Prop} {o : Nat} (ho : I 201 17 = nI o) (ho12 : o ≤ 12) (hO : mo_O (I 201) o) (hd : 2 ≤ d) (hq : Q none sh_S (op_oc I o)) : ∀ (m : Nat) (i : Nat), (i ≤ o) → o - i < m → mm_Ex g zX12_ordersCome d (0, 0) (0, 0) sh_S ((oc I i).1) 4 [(2, .int (nI (i))), (1, .int (nI ((oc I i).2))), (0, .ref 200)] [] Q := by
  intro m
  induction m with
  | zero => intro i hi hmz; exact absurd hmz (Nat.not_lt_zero _)
  | succ m ih =>
    intro i hi hmz
    have hle := oc_le (J := I) i
    have hK : ∀ x, x < 630 ∨ 830 + 3 * i ≤ x → (oc I i).1 201 x = I 201 x := fun x hx => oc_ne hO i hi (Or.inr hx)
    have step : oc I (i + 1) = if I 201 (830 + 3 * i + 2) = I 201 7 then (op_begin (oc I i).1 (vv (I 201 (830 + 3 * i + 0))) (vv (I 201 (830 + 3 * i + 1))), (oc I i).2) else (oc_mv (oc I i).1 (oc I i).2 (I 201 (830 + 3 * i + 0)) (I 201 (830 + 3 * i + 1)) (I 201 (830 + 3 * i + 2)), (oc I i).2 + 1) := rfl
    have hfin : i = o → op_oc I o = mm_up (oc I i).1 201 17 (nI (oc I i).2) := fun q => by subst q; rfl
    generalize hX : oc I i = X at hle hK step hfin ⊢
    obtain ⟨K, k⟩ := X
    replace hle : k ≤ i := hle
    replace hK : ∀ x, x < 630 ∨ 830 + 3 * i ≤ x → K 201 x = I 201 x := hK
    show mm_Ex g zX12_ordersCome d (0, 0) (0, 0) sh_S K 4 [(2, .int (nI i)), (1, .int (nI k)), (0, .ref 200)] [] Q
    refine mm_iload_n 0 dX12_ordersCome_4 rfl rfl ?_
    refine mm_aload_n 2 dX12_ordersCome_5 rfl rfl ?_
    refine mm_getr (b := 201) dX12_ordersCome_6 rfl fk_X12_9 rfl so_200 sr_200_0 ?_
    refine mm_bipush (v := 17) dX12_ordersCome_9 rfl ?_
    refine mm_ialdN (17) dX12_ordersCome_11 sa_201 (by omega) (by omega) ?_
    refine mm_top (v := nI (o)) ((hK _ (by omega)).trans ho) ?_
    refine mm_icmp_geN (i) (o) (tgt := 104) dX12_ordersCome_12 (by decide) (by omega) (by omega) (fun c12 => ?_) (fun c12 => ?_)
    · refine mm_aload_n 2 dX12_ordersCome_104 rfl rfl ?_
      refine mm_getr (b := 201) dX12_ordersCome_105 rfl fk_X12_9 rfl so_200 sr_200_0 ?_
      refine mm_bipush (v := 17) dX12_ordersCome_108 rfl ?_
      refine mm_iload_n 1 dX12_ordersCome_110 rfl rfl ?_
      refine mm_iastN (17) dX12_ordersCome_111 sa_201 (by omega) (by omega) ?_
      refine mm_vret dX12_ordersCome_112 rfl ⟨Nat.le_refl _, Nat.le_refl _⟩ ?_
      have e : i = o := by omega
      exact mm_lv (hfin e).symm hq
    · refine mm_aload_n 2 dX12_ordersCome_15 rfl rfl ?_
      refine mm_getr (b := 201) dX12_ordersCome_16 rfl fk_X12_9 rfl so_200 sr_200_0 ?_
      refine mm_iload_n 0 dX12_ordersCome_19 rfl rfl ?_
      refine mm_iconst (v := 2) dX12_ordersCome_20 rfl ?_
      refine mm_cS2i (dz := d - 1) dX12_ordersCome_21 rfl mzX12_ofOrder ml_X12_250 imX12_ofOrder (by omega) (cm_ofOrder (i) (2)) (Nat.le_of_ble_eq_true rfl) ⟨Nat.le_refl _, Nat.le_refl _⟩ ?_
      refine mm_ialdN (830 + 3 * i + 2) dX12_ordersCome_24 sa_201 (by omega) (by omega) ?_
      refine mm_top (v := I 201 (830 + 3 * i + 2)) (hK _ (by omega)) ?_
      refine mm_aload_n 2 dX12_ordersCome_25 rfl rfl ?_
      refine mm_at (pc' := 26) rfl ?_
      refine mm_getr (b := 201) dX12_ordersCome_26 rfl fk_X12_9 rfl so_200 sr_200_0 ?_
      refine mm_bipush (v := 7) dX12_ordersCome_29 rfl ?_
      refine mm_ialdN (7) dX12_ordersCome_31 sa_201 (by omega) (by omega) ?_
      refine mm_top (v := I 201 7) (hK _ (by omega)) ?_
      refine mm_icmp_ne (tgt := 62) dX12_ordersCome_32 (by decide) (fun c32 => ?_) (fun c32 => ?_)
      · refine mm_iconst (v := 0) dX12_ordersCome_62 rfl ?_
        refine mm_istore_n (ls' := [(3, .int (0)), (2, .int (nI (i))), (1, .int (nI (k))), (0, .ref 200)]) dX12_ordersCome_63 rfl (by decide) rfl ?_
        refine mm_iload_n 0 dX12_ordersCome_64 rfl rfl ?_
        refine mm_iconst (v := 3) dX12_ordersCome_65 rfl ?_
        refine mm_icmp_ge (tgt := 95) dX12_ordersCome_66 (by decide) (fun q => absurd q (by decide)) (fun _ => ?_)
        refine mm_aload_n 3 dX12_ordersCome_69 rfl rfl ?_
        refine mm_getr (b := 201) dX12_ordersCome_70 rfl fk_X12_9 rfl so_200 sr_200_0 ?_
        refine mm_iload_n 2 dX12_ordersCome_73 rfl rfl ?_
        refine mm_iload_n 0 dX12_ordersCome_74 rfl rfl ?_
        refine mm_cS2i (dz := d - 1) dX12_ordersCome_75 rfl mzX12_ofOrder ml_X12_250 imX12_ofOrder (by omega) (cm_ofOrder (k) (0)) (Nat.le_of_ble_eq_true rfl) ⟨Nat.le_refl _, Nat.le_refl _⟩ ?_
        refine mm_aload_n 3 dX12_ordersCome_78 rfl rfl ?_
        refine mm_getr (b := 201) dX12_ordersCome_79 rfl fk_X12_9 rfl so_200 sr_200_0 ?_
        refine mm_iload_n 1 dX12_ordersCome_82 rfl rfl ?_
        refine mm_at (pc' := 83) rfl ?_
        refine mm_iload_n 0 dX12_ordersCome_83 rfl rfl ?_
        refine mm_cS2i (dz := d - 1) dX12_ordersCome_84 rfl mzX12_ofOrder ml_X12_250 imX12_ofOrder (by omega) (cm_ofOrder (i) (0)) (Nat.le_of_ble_eq_true rfl) ⟨Nat.le_refl _, Nat.le_refl _⟩ ?_
        refine mm_ialdN (830 + 3 * i + 0) dX12_ordersCome_87 sa_201 (by omega) (by omega) ?_
        refine mm_top (v := I 201 (830 + 3 * i + 0)) (hK _ (by omega)) ?_
        refine mm_iastN (830 + 3 * k + 0) dX12_ordersCome_88 sa_201 (by omega) (by omega) ?_
        refine mm_iinc (v := 1) (ls' := [(3, .int (1)), (2, .int (nI (i))), (1, .int (nI (k))), (0, .ref 200)]) 0 dX12_ordersCome_89 rfl (by decide) (by decide) rfl ?_
        refine mm_goto (tgt := 64) dX12_ordersCome_92 (by decide) ?_
        refine mm_iload_n 0 dX12_ordersCome_64 rfl rfl ?_
        refine mm_iconst (v := 3) dX12_ordersCome_65 rfl ?_
        refine mm_icmp_ge (tgt := 95) dX12_ordersCome_66 (by decide) (fun q => absurd q (by decide)) (fun _ => ?_)
        refine mm_aload_n 3 dX12_ordersCome_69 rfl rfl ?_
        refine mm_getr (b := 201) dX12_ordersCome_70 rfl fk_X12_9 rfl so_200 sr_200_0 ?_
        refine mm_iload_n 2 dX12_ordersCome_73 rfl rfl ?_
        refine mm_iload_n 0 dX12_ordersCome_74 rfl rfl ?_
        refine mm_cS2i (dz := d - 1) dX12_ordersCome_75 rfl mzX12_ofOrder ml_X12_250 imX12_ofOrder (by omega) (cm_ofOrder (k) (1)) (Nat.le_of_ble_eq_true rfl) ⟨Nat.le_refl _, Nat.le_refl _⟩ ?_
        refine mm_aload_n 3 dX12_ordersCome_78 rfl rfl ?_
        refine mm_getr (b := 201) dX12_ordersCome_79 rfl fk_X12_9 rfl so_200 sr_200_0 ?_
        refine mm_iload_n 1 dX12_ordersCome_82 rfl rfl ?_
        refine mm_at (pc' := 83) rfl ?_
        refine mm_iload_n 0 dX12_ordersCome_83 rfl rfl ?_
        refine mm_cS2i (dz := d - 1) dX12_ordersCome_84 rfl mzX12_ofOrder ml_X12_250 imX12_ofOrder (by omega) (cm_ofOrder (i) (1)) (Nat.le_of_ble_eq_true rfl) ⟨Nat.le_refl _, Nat.le_refl _⟩ ?_
        refine mm_ialdN (830 + 3 * i + 1) dX12_ordersCome_87 sa_201 (by omega) (by omega) ?_
        refine mm_top (v := K 201 (830 + 3 * i + 1)) (by rw [mm_up_ni (by omega)]) ?_
        refine mm_top (v := I 201 (830 + 3 * i + 1)) (hK _ (by omega)) ?_
        refine mm_iastN (830 + 3 * k + 1) dX12_ordersCome_88 sa_201 (by omega) (by omega) ?_
        refine mm_iinc (v := 2) (ls' := [(3, .int (2)), (2, .int (nI (i))), (1, .int (nI (k))), (0, .ref 200)]) 0 dX12_ordersCome_89 rfl (by decide) (by decide) rfl ?_
        refine mm_goto (tgt := 64) dX12_ordersCome_92 (by decide) ?_
        refine mm_iload_n 0 dX12_ordersCome_64 rfl rfl ?_
        refine mm_iconst (v := 3) dX12_ordersCome_65 rfl ?_
        refine mm_icmp_ge (tgt := 95) dX12_ordersCome_66 (by decide) (fun q => absurd q (by decide)) (fun _ => ?_)
        refine mm_aload_n 3 dX12_ordersCome_69 rfl rfl ?_
        refine mm_getr (b := 201) dX12_ordersCome_70 rfl fk_X12_9 rfl so_200 sr_200_0 ?_
        refine mm_iload_n 2 dX12_ordersCome_73 rfl rfl ?_
        refine mm_iload_n 0 dX12_ordersCome_74 rfl rfl ?_
        refine mm_cS2i (dz := d - 1) dX12_ordersCome_75 rfl mzX12_ofOrder ml_X12_250 imX12_ofOrder (by omega) (cm_ofOrder (k) (2)) (Nat.le_of_ble_eq_true rfl) ⟨Nat.le_refl _, Nat.le_refl _⟩ ?_
        refine mm_aload_n 3 dX12_ordersCome_78 rfl rfl ?_
        refine mm_getr (b := 201) dX12_ordersCome_79 rfl fk_X12_9 rfl so_200 sr_200_0 ?_
        refine mm_iload_n 1 dX12_ordersCome_82 rfl rfl ?_
        refine mm_at (pc' := 83) rfl ?_
        refine mm_iload_n 0 dX12_ordersCome_83 rfl rfl ?_
        refine mm_cS2i (dz := d - 1) dX12_ordersCome_84 rfl mzX12_ofOrder ml_X12_250 imX12_ofOrder (by omega) (cm_ofOrder (i) (2)) (Nat.le_of_ble_eq_true rfl) ⟨Nat.le_refl _, Nat.le_refl _⟩ ?_
        refine mm_ialdN (830 + 3 * i + 2) dX12_ordersCome_87 sa_201 (by omega) (by omega) ?_
        refine mm_top (v := K 201 (830 + 3 * i + 2)) (by rw [mm_up_ni (by omega), mm_up_ni (by omega)]) ?_
        refine mm_top (v := I 201 (830 + 3 * i + 2)) (hK _ (by omega)) ?_
        refine mm_iastN (830 + 3 * k + 2) dX12_ordersCome_88 sa_201 (by omega) (by omega) ?_
        refine mm_iinc (v := 3) (ls' := [(3, .int (3)), (2, .int (nI (i))), (1, .int (nI (k))), (0, .ref 200)]) 0 dX12_ordersCome_89 rfl (by decide) (by decide) rfl ?_
        refine mm_goto (tgt := 64) dX12_ordersCome_92 (by decide) ?_
        refine mm_iload_n 0 dX12_ordersCome_64 rfl rfl ?_
        refine mm_iconst (v := 3) dX12_ordersCome_65 rfl ?_
        refine mm_icmp_ge (tgt := 95) dX12_ordersCome_66 (by decide) (fun _ => ?_) (fun q => absurd (by decide) q)
        refine mm_iincN (ls' := [(1, .int (nI (k + 1))), (3, .int (3)), (2, .int (nI (i))), (0, .ref 200)]) 2 (k) 1 dX12_ordersCome_95 rfl rfl (by decide) rfl ?_
        refine mm_iincN (ls' := [(2, .int (nI (i + 1))), (1, .int (nI (k + 1))), (3, .int (3)), (0, .ref 200)]) 2 (i) 1 dX12_ordersCome_98 rfl rfl (by decide) rfl ?_
        refine mm_goto (tgt := 4) dX12_ordersCome_101 (by decide) ?_
        rw [if_neg c32] at step
        have hh := ih (i + 1) (by omega) (by omega)
        rw [step] at hh
        exact mm_sub [0, 1, 3] rfl hh
      · obtain ⟨⟨mm, hmm, e0⟩, pp, hpp, e1⟩ := hO i (by omega)
        refine mm_aload_n 2 dX12_ordersCome_35 rfl rfl ?_
        refine mm_aload_n 2 dX12_ordersCome_36 rfl rfl ?_
        refine mm_getr (b := 201) dX12_ordersCome_37 rfl fk_X12_9 rfl so_200 sr_200_0 ?_
        refine mm_iload_n 0 dX12_ordersCome_40 rfl rfl ?_
        refine mm_iconst (v := 0) dX12_ordersCome_41 rfl ?_
        refine mm_cS2i (dz := d - 1) dX12_ordersCome_42 rfl mzX12_ofOrder ml_X12_250 imX12_ofOrder (by omega) (cm_ofOrder (i) (0)) (Nat.le_of_ble_eq_true rfl) ⟨Nat.le_refl _, Nat.le_refl _⟩ ?_
        refine mm_ialdN (830 + 3 * i + 0) dX12_ordersCome_45 sa_201 (by omega) (by omega) ?_
        refine mm_at (pc' := 46) rfl ?_
        refine mm_top (v := nI (mm)) ((hK _ (by omega)).trans e0) ?_
        refine mm_aload_n 2 dX12_ordersCome_46 rfl rfl ?_
        refine mm_getr (b := 201) dX12_ordersCome_47 rfl fk_X12_9 rfl so_200 sr_200_0 ?_
        refine mm_iload_n 0 dX12_ordersCome_50 rfl rfl ?_
        refine mm_iconst (v := 1) dX12_ordersCome_51 rfl ?_
        refine mm_cS2i (dz := d - 1) dX12_ordersCome_52 rfl mzX12_ofOrder ml_X12_250 imX12_ofOrder (by omega) (cm_ofOrder (i) (1)) (Nat.le_of_ble_eq_true rfl) ⟨Nat.le_refl _, Nat.le_refl _⟩ ?_
        refine mm_ialdN (830 + 3 * i + 1) dX12_ordersCome_55 sa_201 (by omega) (by omega) ?_
        refine mm_top (v := nI (pp)) ((hK _ (by omega)).trans e1) ?_
        refine mm_cV2v (dz := d - 1) dX12_ordersCome_56 rfl mzX12_begin ml_X12_253 imX12_begin (by omega) so_200 ⟨rfl, rfl⟩ (cm_begin (by omega) (by omega) (by omega)) (Nat.le_of_ble_eq_true rfl) ⟨Nat.le_refl _, Nat.le_refl _⟩ ?_
        refine mm_goto (tgt := 98) dX12_ordersCome_59 (by decide) ?_
        refine mm_iincN (ls' := [(2, .int (nI (i + 1))), (1, .int (nI (k))), (0, .ref 200)]) 0 (i) 1 dX12_ordersCome_98 rfl rfl (by decide) rfl ?_
        refine mm_goto (tgt := 4) dX12_ordersCome_101 (by decide) ?_
        rw [if_pos c32, e0, e1, vv_nI (by omega), vv_nI (by omega)] at step
        have hh := ih (i + 1) (by omega) (by omega)
        rw [step] at hh
        exact mm_sub [0, 1, 2] rfl hh
set_option maxRecDepth 100000 in
set_option maxHeartbeats 600000 in
theorem cm_ordersCome {g : mm_G} {I : mm_I} {d : Nat} {o : Nat} (ho : I 201 17 = nI o) (ho12 : o ≤ 12) (hO : mo_O (I 201) o) (hd : 2 ≤ d) : mm_Cv g zX12_ordersCome d [.ref 200] sh_S I (op_oc I o) := by
  refine mm_Cv_of (fun Q hq => ?_)
  refine mm_begin (ls := [(0, .ref 200)]) (Nat.le_of_ble_eq_true rfl) rfl rfl ?_
  refine mm_iconst (v := 0) dX12_ordersCome_0 rfl ?_
  refine mm_istore_n (ls' := [(1, .int (0)), (0, .ref 200)]) dX12_ordersCome_1 rfl (by decide) rfl ?_
  refine mm_iconst (v := 0) dX12_ordersCome_2 rfl ?_
  refine mm_istore_n (ls' := [(2, .int (0)), (1, .int (0)), (0, .ref 200)]) dX12_ordersCome_3 rfl (by decide) rfl ?_
  exact lm_oc ho ho12 hO hd hq (o + 1) 0 (Nat.zero_le _) (by omega)
set_option maxRecDepth 100000 in
set_option maxHeartbeats 600000 in
theorem lm_rc {g : mm_G} {I : mm_I} {d : Nat} {Q : Option Value → mm_Sh → mm_I → Prop} {r : Nat} (hr : I 201 18 = nI r) (hr60 : r ≤ 60) (hR : mo_R (I 201) r) (hq : Q none sh_S (op_rc I r)) : ∀ (m : Nat) (i : Nat), (i ≤ r) → r - i < m → mm_Ex g zX12_reportsCome d (0, 0) (0, 0) sh_S ((rc I i).1) 4 [(2, .int (nI (i))), (1, .int (nI ((rc I i).2))), (0, .ref 200)] [] Q := by
  intro m
  induction m with
  | zero => intro i hi hmz; exact absurd hmz (Nat.not_lt_zero _)
  | succ m ih =>
    intro i hi hmz
    have hle := rc_le (J := I) i
    have hK : ∀ x, x < 270 ∨ (590 ≤ x ∧ x < 866) ∨ 866 + 6 * i ≤ x → (rc I i).1 201 x = I 201 x := fun x hx => rc_ne hR i hi (Or.inr hx)
    have step : rc I (i + 1) = if I 201 (866 + 6 * i + 5) = I 201 7 then (rc_mp (rc I i).1 (vv (I 201 (866 + 6 * i))) (fun j => I 201 (866 + 6 * i + j)), (rc I i).2) else (rc_mv (rc I i).1 (rc I i).2 (fun j => I 201 (866 + 6 * i + j)), (rc I i).2 + 1) := rfl
    have hfin : i = r → op_rc I r = mm_up (rc I i).1 201 18 (nI (rc I i).2) := fun q => by subst q; rfl
    generalize hX : rc I i = X at hle hK step hfin ⊢
    obtain ⟨K, k⟩ := X
    replace hle : k ≤ i := hle
    replace hK : ∀ x, x < 270 ∨ (590 ≤ x ∧ x < 866) ∨ 866 + 6 * i ≤ x → K 201 x = I 201 x := hK
    show mm_Ex g zX12_reportsCome d (0, 0) (0, 0) sh_S K 4 [(2, .int (nI i)), (1, .int (nI k)), (0, .ref 200)] [] Q
    refine mm_iload_n 0 dX12_reportsCome_4 rfl rfl ?_
    refine mm_aload_n 2 dX12_reportsCome_5 rfl rfl ?_
    refine mm_getr (b := 201) dX12_reportsCome_6 rfl fk_X12_9 rfl so_200 sr_200_0 ?_
    refine mm_bipush (v := 18) dX12_reportsCome_9 rfl ?_
    refine mm_ialdN (18) dX12_reportsCome_11 sa_201 (by omega) (by omega) ?_
    refine mm_top (v := nI (r)) ((hK _ (by omega)).trans hr) ?_
    refine mm_icmp_geN (i) (r) (tgt := 141) dX12_reportsCome_12 (by decide) (by omega) (by omega) (fun c12 => ?_) (fun c12 => ?_)
    · refine mm_aload_n 2 dX12_reportsCome_141 rfl rfl ?_
      refine mm_getr (b := 201) dX12_reportsCome_142 rfl fk_X12_9 rfl so_200 sr_200_0 ?_
      refine mm_bipush (v := 18) dX12_reportsCome_145 rfl ?_
      refine mm_iload_n 1 dX12_reportsCome_147 rfl rfl ?_
      refine mm_iastN (18) dX12_reportsCome_148 sa_201 (by omega) (by omega) ?_
      refine mm_vret dX12_reportsCome_149 rfl ⟨Nat.le_refl _, Nat.le_refl _⟩ ?_
      have e : i = r := by omega
      exact mm_lv (hfin e).symm hq
    · refine mm_sipush (v := 866) dX12_reportsCome_15 rfl ?_
      refine mm_bipush (v := 6) dX12_reportsCome_18 rfl ?_
      refine mm_iload_n 0 dX12_reportsCome_20 rfl rfl ?_
      refine mm_imulN (6) (i) dX12_reportsCome_21 ?_
      refine mm_iaddN (866) (6 * i) dX12_reportsCome_22 ?_
      refine mm_istore_n (ls' := [(3, .int (nI (866 + (6 * i)))), (2, .int (nI (i))), (1, .int (nI (k))), (0, .ref 200)]) dX12_reportsCome_23 rfl (by decide) rfl ?_
      refine mm_aload_n 3 dX12_reportsCome_24 rfl rfl ?_
      refine mm_at (pc' := 25) rfl ?_
      refine mm_getr (b := 201) dX12_reportsCome_25 rfl fk_X12_9 rfl so_200 sr_200_0 ?_
      refine mm_iload_n 0 dX12_reportsCome_28 rfl rfl ?_
      refine mm_iconst (v := 5) dX12_reportsCome_29 rfl ?_
      refine mm_iaddN (866 + (6 * i)) (5) dX12_reportsCome_30 ?_
      refine mm_ialdN ((866 + (6 * i)) + 5) dX12_reportsCome_31 sa_201 (by omega) (by omega) ?_
      refine mm_top (v := I 201 (866 + 6 * i + 5)) (hK _ (by omega)) ?_
      refine mm_aload_n 3 dX12_reportsCome_32 rfl rfl ?_
      refine mm_getr (b := 201) dX12_reportsCome_33 rfl fk_X12_9 rfl so_200 sr_200_0 ?_
      refine mm_bipush (v := 7) dX12_reportsCome_36 rfl ?_
      refine mm_at (pc' := 38) rfl ?_
      refine mm_ialdN (7) dX12_reportsCome_38 sa_201 (by omega) (by omega) ?_
      refine mm_top (v := I 201 7) (hK _ (by omega)) ?_
      refine mm_icmp_ne (tgt := 91) dX12_reportsCome_39 (by decide) (fun c39 => ?_) (fun c39 => ?_)
      · refine mm_iconst (v := 0) dX12_reportsCome_91 rfl ?_
        refine mm_istore (ls' := [(4, .int (0)), (3, .int (nI (866 + (6 * i)))), (2, .int (nI (i))), (1, .int (nI (k))), (0, .ref 200)]) dX12_reportsCome_92 (by decide) rfl ?_
        refine mm_iload 0 dX12_reportsCome_94 rfl ?_
        refine mm_bipush (v := 6) dX12_reportsCome_96 rfl ?_
        refine mm_icmp_ge (tgt := 132) dX12_reportsCome_98 (by decide) (fun q => absurd q (by decide)) (fun _ => ?_)
        refine mm_aload_n 4 dX12_reportsCome_101 rfl rfl ?_
        refine mm_getr (b := 201) dX12_reportsCome_102 rfl fk_X12_9 rfl so_200 sr_200_0 ?_
        refine mm_sipush (v := 866) dX12_reportsCome_105 rfl ?_
        refine mm_bipush (v := 6) dX12_reportsCome_108 rfl ?_
        refine mm_iload_n 3 dX12_reportsCome_110 rfl rfl ?_
        refine mm_imulN (6) (k) dX12_reportsCome_111 ?_
        refine mm_iaddN (866) (6 * k) dX12_reportsCome_112 ?_
        refine mm_iload 0 dX12_reportsCome_113 rfl ?_
        refine mm_at (pc' := 115) rfl ?_
        refine mm_iaddN (866 + (6 * k)) (0) dX12_reportsCome_115 ?_
        refine mm_aload_n 4 dX12_reportsCome_116 rfl rfl ?_
        refine mm_getr (b := 201) dX12_reportsCome_117 rfl fk_X12_9 rfl so_200 sr_200_0 ?_
        refine mm_iload_n 1 dX12_reportsCome_120 rfl rfl ?_
        refine mm_iload 0 dX12_reportsCome_121 rfl ?_
        refine mm_iaddN (866 + (6 * i)) (0) dX12_reportsCome_123 ?_
        refine mm_ialdN ((866 + (6 * i)) + 0) dX12_reportsCome_124 sa_201 (by omega) (by omega) ?_
        refine mm_top (v := I 201 (866 + 6 * i + 0)) (hK _ (by omega)) ?_
        refine mm_iastN ((866 + (6 * k)) + 0) dX12_reportsCome_125 sa_201 (by omega) (by omega) ?_
        refine mm_at (pc' := 126) rfl ?_
        refine mm_iinc (v := 1) (ls' := [(4, .int (1)), (3, .int (nI (866 + (6 * i)))), (2, .int (nI (i))), (1, .int (nI (k))), (0, .ref 200)]) 0 dX12_reportsCome_126 rfl (by decide) (by decide) rfl ?_
        refine mm_goto (tgt := 94) dX12_reportsCome_129 (by decide) ?_
        refine mm_iload 0 dX12_reportsCome_94 rfl ?_
        refine mm_bipush (v := 6) dX12_reportsCome_96 rfl ?_
        refine mm_icmp_ge (tgt := 132) dX12_reportsCome_98 (by decide) (fun q => absurd q (by decide)) (fun _ => ?_)
        refine mm_aload_n 4 dX12_reportsCome_101 rfl rfl ?_
        refine mm_getr (b := 201) dX12_reportsCome_102 rfl fk_X12_9 rfl so_200 sr_200_0 ?_
        refine mm_sipush (v := 866) dX12_reportsCome_105 rfl ?_
        refine mm_bipush (v := 6) dX12_reportsCome_108 rfl ?_
        refine mm_iload_n 3 dX12_reportsCome_110 rfl rfl ?_
        refine mm_imulN (6) (k) dX12_reportsCome_111 ?_
        refine mm_iaddN (866) (6 * k) dX12_reportsCome_112 ?_
        refine mm_iload 0 dX12_reportsCome_113 rfl ?_
        refine mm_at (pc' := 115) rfl ?_
        refine mm_iaddN (866 + (6 * k)) (1) dX12_reportsCome_115 ?_
        refine mm_aload_n 4 dX12_reportsCome_116 rfl rfl ?_
        refine mm_getr (b := 201) dX12_reportsCome_117 rfl fk_X12_9 rfl so_200 sr_200_0 ?_
        refine mm_iload_n 1 dX12_reportsCome_120 rfl rfl ?_
        refine mm_iload 0 dX12_reportsCome_121 rfl ?_
        refine mm_iaddN (866 + (6 * i)) (1) dX12_reportsCome_123 ?_
        refine mm_ialdN ((866 + (6 * i)) + 1) dX12_reportsCome_124 sa_201 (by omega) (by omega) ?_
        refine mm_top (v := K 201 ((866 + (6 * i)) + 1)) (by rw [mm_up_ni (by omega)]) ?_
        refine mm_top (v := I 201 (866 + 6 * i + 1)) (hK _ (by omega)) ?_
        refine mm_iastN ((866 + (6 * k)) + 1) dX12_reportsCome_125 sa_201 (by omega) (by omega) ?_
        refine mm_at (pc' := 126) rfl ?_
        refine mm_iinc (v := 2) (ls' := [(4, .int (2)), (3, .int (nI (866 + (6 * i)))), (2, .int (nI (i))), (1, .int (nI (k))), (0, .ref 200)]) 0 dX12_reportsCome_126 rfl (by decide) (by decide) rfl ?_
        refine mm_goto (tgt := 94) dX12_reportsCome_129 (by decide) ?_
        refine mm_iload 0 dX12_reportsCome_94 rfl ?_
        refine mm_bipush (v := 6) dX12_reportsCome_96 rfl ?_
        refine mm_icmp_ge (tgt := 132) dX12_reportsCome_98 (by decide) (fun q => absurd q (by decide)) (fun _ => ?_)
        refine mm_aload_n 4 dX12_reportsCome_101 rfl rfl ?_
        refine mm_getr (b := 201) dX12_reportsCome_102 rfl fk_X12_9 rfl so_200 sr_200_0 ?_
        refine mm_sipush (v := 866) dX12_reportsCome_105 rfl ?_
        refine mm_bipush (v := 6) dX12_reportsCome_108 rfl ?_
        refine mm_iload_n 3 dX12_reportsCome_110 rfl rfl ?_
        refine mm_imulN (6) (k) dX12_reportsCome_111 ?_
        refine mm_iaddN (866) (6 * k) dX12_reportsCome_112 ?_
        refine mm_iload 0 dX12_reportsCome_113 rfl ?_
        refine mm_at (pc' := 115) rfl ?_
        refine mm_iaddN (866 + (6 * k)) (2) dX12_reportsCome_115 ?_
        refine mm_aload_n 4 dX12_reportsCome_116 rfl rfl ?_
        refine mm_getr (b := 201) dX12_reportsCome_117 rfl fk_X12_9 rfl so_200 sr_200_0 ?_
        refine mm_iload_n 1 dX12_reportsCome_120 rfl rfl ?_
        refine mm_iload 0 dX12_reportsCome_121 rfl ?_
        refine mm_iaddN (866 + (6 * i)) (2) dX12_reportsCome_123 ?_
        refine mm_ialdN ((866 + (6 * i)) + 2) dX12_reportsCome_124 sa_201 (by omega) (by omega) ?_
        refine mm_top (v := K 201 ((866 + (6 * i)) + 2)) (by rw [mm_up_ni (by omega), mm_up_ni (by omega)]) ?_
        refine mm_top (v := I 201 (866 + 6 * i + 2)) (hK _ (by omega)) ?_
        refine mm_iastN ((866 + (6 * k)) + 2) dX12_reportsCome_125 sa_201 (by omega) (by omega) ?_
        refine mm_at (pc' := 126) rfl ?_
        refine mm_iinc (v := 3) (ls' := [(4, .int (3)), (3, .int (nI (866 + (6 * i)))), (2, .int (nI (i))), (1, .int (nI (k))), (0, .ref 200)]) 0 dX12_reportsCome_126 rfl (by decide) (by decide) rfl ?_
        refine mm_goto (tgt := 94) dX12_reportsCome_129 (by decide) ?_
        refine mm_iload 0 dX12_reportsCome_94 rfl ?_
        refine mm_bipush (v := 6) dX12_reportsCome_96 rfl ?_
        refine mm_icmp_ge (tgt := 132) dX12_reportsCome_98 (by decide) (fun q => absurd q (by decide)) (fun _ => ?_)
        refine mm_aload_n 4 dX12_reportsCome_101 rfl rfl ?_
        refine mm_getr (b := 201) dX12_reportsCome_102 rfl fk_X12_9 rfl so_200 sr_200_0 ?_
        refine mm_sipush (v := 866) dX12_reportsCome_105 rfl ?_
        refine mm_bipush (v := 6) dX12_reportsCome_108 rfl ?_
        refine mm_iload_n 3 dX12_reportsCome_110 rfl rfl ?_
        refine mm_imulN (6) (k) dX12_reportsCome_111 ?_
        refine mm_iaddN (866) (6 * k) dX12_reportsCome_112 ?_
        refine mm_iload 0 dX12_reportsCome_113 rfl ?_
        refine mm_at (pc' := 115) rfl ?_
        refine mm_iaddN (866 + (6 * k)) (3) dX12_reportsCome_115 ?_
        refine mm_aload_n 4 dX12_reportsCome_116 rfl rfl ?_
        refine mm_getr (b := 201) dX12_reportsCome_117 rfl fk_X12_9 rfl so_200 sr_200_0 ?_
        refine mm_iload_n 1 dX12_reportsCome_120 rfl rfl ?_
        refine mm_iload 0 dX12_reportsCome_121 rfl ?_
        refine mm_iaddN (866 + (6 * i)) (3) dX12_reportsCome_123 ?_
        refine mm_ialdN ((866 + (6 * i)) + 3) dX12_reportsCome_124 sa_201 (by omega) (by omega) ?_
        refine mm_top (v := K 201 ((866 + (6 * i)) + 3)) (by rw [mm_up_ni (by omega), mm_up_ni (by omega), mm_up_ni (by omega)]) ?_
        refine mm_top (v := I 201 (866 + 6 * i + 3)) (hK _ (by omega)) ?_
        refine mm_iastN ((866 + (6 * k)) + 3) dX12_reportsCome_125 sa_201 (by omega) (by omega) ?_
        refine mm_at (pc' := 126) rfl ?_
        refine mm_iinc (v := 4) (ls' := [(4, .int (4)), (3, .int (nI (866 + (6 * i)))), (2, .int (nI (i))), (1, .int (nI (k))), (0, .ref 200)]) 0 dX12_reportsCome_126 rfl (by decide) (by decide) rfl ?_
        refine mm_goto (tgt := 94) dX12_reportsCome_129 (by decide) ?_
        refine mm_iload 0 dX12_reportsCome_94 rfl ?_
        refine mm_bipush (v := 6) dX12_reportsCome_96 rfl ?_
        refine mm_icmp_ge (tgt := 132) dX12_reportsCome_98 (by decide) (fun q => absurd q (by decide)) (fun _ => ?_)
        refine mm_aload_n 4 dX12_reportsCome_101 rfl rfl ?_
        refine mm_getr (b := 201) dX12_reportsCome_102 rfl fk_X12_9 rfl so_200 sr_200_0 ?_
        refine mm_sipush (v := 866) dX12_reportsCome_105 rfl ?_
        refine mm_bipush (v := 6) dX12_reportsCome_108 rfl ?_
        refine mm_iload_n 3 dX12_reportsCome_110 rfl rfl ?_
        refine mm_imulN (6) (k) dX12_reportsCome_111 ?_
        refine mm_iaddN (866) (6 * k) dX12_reportsCome_112 ?_
        refine mm_iload 0 dX12_reportsCome_113 rfl ?_
        refine mm_at (pc' := 115) rfl ?_
        refine mm_iaddN (866 + (6 * k)) (4) dX12_reportsCome_115 ?_
        refine mm_aload_n 4 dX12_reportsCome_116 rfl rfl ?_
        refine mm_getr (b := 201) dX12_reportsCome_117 rfl fk_X12_9 rfl so_200 sr_200_0 ?_
        refine mm_iload_n 1 dX12_reportsCome_120 rfl rfl ?_
        refine mm_iload 0 dX12_reportsCome_121 rfl ?_
        refine mm_iaddN (866 + (6 * i)) (4) dX12_reportsCome_123 ?_
        refine mm_ialdN ((866 + (6 * i)) + 4) dX12_reportsCome_124 sa_201 (by omega) (by omega) ?_
        refine mm_top (v := K 201 ((866 + (6 * i)) + 4)) (by rw [mm_up_ni (by omega), mm_up_ni (by omega), mm_up_ni (by omega), mm_up_ni (by omega)]) ?_
        refine mm_top (v := I 201 (866 + 6 * i + 4)) (hK _ (by omega)) ?_
        refine mm_iastN ((866 + (6 * k)) + 4) dX12_reportsCome_125 sa_201 (by omega) (by omega) ?_
        refine mm_at (pc' := 126) rfl ?_
        refine mm_iinc (v := 5) (ls' := [(4, .int (5)), (3, .int (nI (866 + (6 * i)))), (2, .int (nI (i))), (1, .int (nI (k))), (0, .ref 200)]) 0 dX12_reportsCome_126 rfl (by decide) (by decide) rfl ?_
        refine mm_goto (tgt := 94) dX12_reportsCome_129 (by decide) ?_
        refine mm_iload 0 dX12_reportsCome_94 rfl ?_
        refine mm_bipush (v := 6) dX12_reportsCome_96 rfl ?_
        refine mm_icmp_ge (tgt := 132) dX12_reportsCome_98 (by decide) (fun q => absurd q (by decide)) (fun _ => ?_)
        refine mm_aload_n 4 dX12_reportsCome_101 rfl rfl ?_
        refine mm_getr (b := 201) dX12_reportsCome_102 rfl fk_X12_9 rfl so_200 sr_200_0 ?_
        refine mm_sipush (v := 866) dX12_reportsCome_105 rfl ?_
        refine mm_bipush (v := 6) dX12_reportsCome_108 rfl ?_
        refine mm_iload_n 3 dX12_reportsCome_110 rfl rfl ?_
        refine mm_imulN (6) (k) dX12_reportsCome_111 ?_
        refine mm_iaddN (866) (6 * k) dX12_reportsCome_112 ?_
        refine mm_iload 0 dX12_reportsCome_113 rfl ?_
        refine mm_at (pc' := 115) rfl ?_
        refine mm_iaddN (866 + (6 * k)) (5) dX12_reportsCome_115 ?_
        refine mm_aload_n 4 dX12_reportsCome_116 rfl rfl ?_
        refine mm_getr (b := 201) dX12_reportsCome_117 rfl fk_X12_9 rfl so_200 sr_200_0 ?_
        refine mm_iload_n 1 dX12_reportsCome_120 rfl rfl ?_
        refine mm_iload 0 dX12_reportsCome_121 rfl ?_
        refine mm_iaddN (866 + (6 * i)) (5) dX12_reportsCome_123 ?_
        refine mm_ialdN ((866 + (6 * i)) + 5) dX12_reportsCome_124 sa_201 (by omega) (by omega) ?_
        refine mm_top (v := K 201 ((866 + (6 * i)) + 5)) (by rw [mm_up_ni (by omega), mm_up_ni (by omega), mm_up_ni (by omega), mm_up_ni (by omega), mm_up_ni (by omega)]) ?_
        refine mm_top (v := I 201 (866 + 6 * i + 5)) (hK _ (by omega)) ?_
        refine mm_iastN ((866 + (6 * k)) + 5) dX12_reportsCome_125 sa_201 (by omega) (by omega) ?_
        refine mm_at (pc' := 126) rfl ?_
        refine mm_iinc (v := 6) (ls' := [(4, .int (6)), (3, .int (nI (866 + (6 * i)))), (2, .int (nI (i))), (1, .int (nI (k))), (0, .ref 200)]) 0 dX12_reportsCome_126 rfl (by decide) (by decide) rfl ?_
        refine mm_goto (tgt := 94) dX12_reportsCome_129 (by decide) ?_
        refine mm_iload 0 dX12_reportsCome_94 rfl ?_
        refine mm_bipush (v := 6) dX12_reportsCome_96 rfl ?_
        refine mm_icmp_ge (tgt := 132) dX12_reportsCome_98 (by decide) (fun _ => ?_) (fun q => absurd (by decide) q)
        refine mm_iincN (ls' := [(1, .int (nI (k + 1))), (4, .int (6)), (3, .int (nI (866 + (6 * i)))), (2, .int (nI (i))), (0, .ref 200)]) 3 (k) 1 dX12_reportsCome_132 rfl rfl (by decide) rfl ?_
        refine mm_iincN (ls' := [(2, .int (nI (i + 1))), (1, .int (nI (k + 1))), (4, .int (6)), (3, .int (nI (866 + (6 * i)))), (0, .ref 200)]) 3 (i) 1 dX12_reportsCome_135 rfl rfl (by decide) rfl ?_
        refine mm_goto (tgt := 4) dX12_reportsCome_138 (by decide) ?_
        rw [if_neg c39] at step
        have hh := ih (i + 1) (by omega) (by omega)
        rw [step] at hh
        exact mm_sub [0, 1, 4] rfl hh
      · obtain ⟨cc, hcc, e0⟩ := hR i (by omega)
        refine mm_iconst (v := 0) dX12_reportsCome_42 rfl ?_
        refine mm_istore (ls' := [(4, .int (0)), (3, .int (nI (866 + (6 * i)))), (2, .int (nI (i))), (1, .int (nI (k))), (0, .ref 200)]) dX12_reportsCome_43 (by decide) rfl ?_
        refine mm_iload 0 dX12_reportsCome_45 rfl ?_
        refine mm_iconst (v := 4) dX12_reportsCome_47 rfl ?_
        refine mm_icmp_ge (tgt := 88) dX12_reportsCome_48 (by decide) (fun q => absurd q (by decide)) (fun _ => ?_)
        refine mm_aload_n 4 dX12_reportsCome_51 rfl rfl ?_
        refine mm_getr (b := 201) dX12_reportsCome_52 rfl fk_X12_9 rfl so_200 sr_200_0 ?_
        refine mm_sipush (v := 270) dX12_reportsCome_55 rfl ?_
        refine mm_iconst (v := 4) dX12_reportsCome_58 rfl ?_
        refine mm_aload_n 4 dX12_reportsCome_59 rfl rfl ?_
        refine mm_getr (b := 201) dX12_reportsCome_60 rfl fk_X12_9 rfl so_200 sr_200_0 ?_
        refine mm_iload_n 1 dX12_reportsCome_63 rfl rfl ?_
        refine mm_ialdN (866 + (6 * i)) dX12_reportsCome_64 sa_201 (by omega) (by omega) ?_
        refine mm_at (pc' := 65) rfl ?_
        refine mm_top (v := nI (cc)) ((hK _ (by omega)).trans e0) ?_
        refine mm_imulN (4) (cc) dX12_reportsCome_65 ?_
        refine mm_iaddN (270) (4 * cc) dX12_reportsCome_66 ?_
        refine mm_iload 0 dX12_reportsCome_67 rfl ?_
        refine mm_iaddN (270 + (4 * cc)) (0) dX12_reportsCome_69 ?_
        refine mm_aload_n 4 dX12_reportsCome_70 rfl rfl ?_
        refine mm_getr (b := 201) dX12_reportsCome_71 rfl fk_X12_9 rfl so_200 sr_200_0 ?_
        refine mm_iload_n 1 dX12_reportsCome_74 rfl rfl ?_
        refine mm_iconst (v := 1) dX12_reportsCome_75 rfl ?_
        refine mm_at (pc' := 76) rfl ?_
        refine mm_iaddN (866 + (6 * i)) (1) dX12_reportsCome_76 ?_
        refine mm_iload 0 dX12_reportsCome_77 rfl ?_
        refine mm_iaddN ((866 + (6 * i)) + 1) (0) dX12_reportsCome_79 ?_
        refine mm_ialdN (((866 + (6 * i)) + 1) + 0) dX12_reportsCome_80 sa_201 (by omega) (by omega) ?_
        refine mm_top (v := I 201 (866 + 6 * i + 1 + 0)) (hK _ (by omega)) ?_
        refine mm_iastN ((270 + (4 * cc)) + 0) dX12_reportsCome_81 sa_201 (by omega) (by omega) ?_
        refine mm_iinc (v := 1) (ls' := [(4, .int (1)), (3, .int (nI (866 + (6 * i)))), (2, .int (nI (i))), (1, .int (nI (k))), (0, .ref 200)]) 0 dX12_reportsCome_82 rfl (by decide) (by decide) rfl ?_
        refine mm_goto (tgt := 45) dX12_reportsCome_85 (by decide) ?_
        refine mm_iload 0 dX12_reportsCome_45 rfl ?_
        refine mm_iconst (v := 4) dX12_reportsCome_47 rfl ?_
        refine mm_icmp_ge (tgt := 88) dX12_reportsCome_48 (by decide) (fun q => absurd q (by decide)) (fun _ => ?_)
        refine mm_aload_n 4 dX12_reportsCome_51 rfl rfl ?_
        refine mm_getr (b := 201) dX12_reportsCome_52 rfl fk_X12_9 rfl so_200 sr_200_0 ?_
        refine mm_sipush (v := 270) dX12_reportsCome_55 rfl ?_
        refine mm_iconst (v := 4) dX12_reportsCome_58 rfl ?_
        refine mm_aload_n 4 dX12_reportsCome_59 rfl rfl ?_
        refine mm_getr (b := 201) dX12_reportsCome_60 rfl fk_X12_9 rfl so_200 sr_200_0 ?_
        refine mm_iload_n 1 dX12_reportsCome_63 rfl rfl ?_
        refine mm_ialdN (866 + (6 * i)) dX12_reportsCome_64 sa_201 (by omega) (by omega) ?_
        refine mm_at (pc' := 65) rfl ?_
        refine mm_top (v := K 201 (866 + (6 * i))) (by rw [mm_up_ni (by omega)]) ?_
        refine mm_top (v := nI (cc)) ((hK _ (by omega)).trans e0) ?_
        refine mm_imulN (4) (cc) dX12_reportsCome_65 ?_
        refine mm_iaddN (270) (4 * cc) dX12_reportsCome_66 ?_
        refine mm_iload 0 dX12_reportsCome_67 rfl ?_
        refine mm_iaddN (270 + (4 * cc)) (1) dX12_reportsCome_69 ?_
        refine mm_aload_n 4 dX12_reportsCome_70 rfl rfl ?_
        refine mm_getr (b := 201) dX12_reportsCome_71 rfl fk_X12_9 rfl so_200 sr_200_0 ?_
        refine mm_iload_n 1 dX12_reportsCome_74 rfl rfl ?_
        refine mm_iconst (v := 1) dX12_reportsCome_75 rfl ?_
        refine mm_at (pc' := 76) rfl ?_
        refine mm_iaddN (866 + (6 * i)) (1) dX12_reportsCome_76 ?_
        refine mm_iload 0 dX12_reportsCome_77 rfl ?_
        refine mm_iaddN ((866 + (6 * i)) + 1) (1) dX12_reportsCome_79 ?_
        refine mm_ialdN (((866 + (6 * i)) + 1) + 1) dX12_reportsCome_80 sa_201 (by omega) (by omega) ?_
        refine mm_top (v := K 201 (((866 + (6 * i)) + 1) + 1)) (by rw [mm_up_ni (by omega)]) ?_
        refine mm_top (v := I 201 (866 + 6 * i + 1 + 1)) (hK _ (by omega)) ?_
        refine mm_iastN ((270 + (4 * cc)) + 1) dX12_reportsCome_81 sa_201 (by omega) (by omega) ?_
        refine mm_iinc (v := 2) (ls' := [(4, .int (2)), (3, .int (nI (866 + (6 * i)))), (2, .int (nI (i))), (1, .int (nI (k))), (0, .ref 200)]) 0 dX12_reportsCome_82 rfl (by decide) (by decide) rfl ?_
        refine mm_goto (tgt := 45) dX12_reportsCome_85 (by decide) ?_
        refine mm_iload 0 dX12_reportsCome_45 rfl ?_
        refine mm_iconst (v := 4) dX12_reportsCome_47 rfl ?_
        refine mm_icmp_ge (tgt := 88) dX12_reportsCome_48 (by decide) (fun q => absurd q (by decide)) (fun _ => ?_)
        refine mm_aload_n 4 dX12_reportsCome_51 rfl rfl ?_
        refine mm_getr (b := 201) dX12_reportsCome_52 rfl fk_X12_9 rfl so_200 sr_200_0 ?_
        refine mm_sipush (v := 270) dX12_reportsCome_55 rfl ?_
        refine mm_iconst (v := 4) dX12_reportsCome_58 rfl ?_
        refine mm_aload_n 4 dX12_reportsCome_59 rfl rfl ?_
        refine mm_getr (b := 201) dX12_reportsCome_60 rfl fk_X12_9 rfl so_200 sr_200_0 ?_
        refine mm_iload_n 1 dX12_reportsCome_63 rfl rfl ?_
        refine mm_ialdN (866 + (6 * i)) dX12_reportsCome_64 sa_201 (by omega) (by omega) ?_
        refine mm_at (pc' := 65) rfl ?_
        refine mm_top (v := K 201 (866 + (6 * i))) (by rw [mm_up_ni (by omega), mm_up_ni (by omega)]) ?_
        refine mm_top (v := nI (cc)) ((hK _ (by omega)).trans e0) ?_
        refine mm_imulN (4) (cc) dX12_reportsCome_65 ?_
        refine mm_iaddN (270) (4 * cc) dX12_reportsCome_66 ?_
        refine mm_iload 0 dX12_reportsCome_67 rfl ?_
        refine mm_iaddN (270 + (4 * cc)) (2) dX12_reportsCome_69 ?_
        refine mm_aload_n 4 dX12_reportsCome_70 rfl rfl ?_
        refine mm_getr (b := 201) dX12_reportsCome_71 rfl fk_X12_9 rfl so_200 sr_200_0 ?_
        refine mm_iload_n 1 dX12_reportsCome_74 rfl rfl ?_
        refine mm_iconst (v := 1) dX12_reportsCome_75 rfl ?_
        refine mm_at (pc' := 76) rfl ?_
        refine mm_iaddN (866 + (6 * i)) (1) dX12_reportsCome_76 ?_
        refine mm_iload 0 dX12_reportsCome_77 rfl ?_
        refine mm_iaddN ((866 + (6 * i)) + 1) (2) dX12_reportsCome_79 ?_
        refine mm_ialdN (((866 + (6 * i)) + 1) + 2) dX12_reportsCome_80 sa_201 (by omega) (by omega) ?_
        refine mm_top (v := K 201 (((866 + (6 * i)) + 1) + 2)) (by rw [mm_up_ni (by omega), mm_up_ni (by omega)]) ?_
        refine mm_top (v := I 201 (866 + 6 * i + 1 + 2)) (hK _ (by omega)) ?_
        refine mm_iastN ((270 + (4 * cc)) + 2) dX12_reportsCome_81 sa_201 (by omega) (by omega) ?_
        refine mm_iinc (v := 3) (ls' := [(4, .int (3)), (3, .int (nI (866 + (6 * i)))), (2, .int (nI (i))), (1, .int (nI (k))), (0, .ref 200)]) 0 dX12_reportsCome_82 rfl (by decide) (by decide) rfl ?_
        refine mm_goto (tgt := 45) dX12_reportsCome_85 (by decide) ?_
        refine mm_iload 0 dX12_reportsCome_45 rfl ?_
        refine mm_iconst (v := 4) dX12_reportsCome_47 rfl ?_
        refine mm_icmp_ge (tgt := 88) dX12_reportsCome_48 (by decide) (fun q => absurd q (by decide)) (fun _ => ?_)
        refine mm_aload_n 4 dX12_reportsCome_51 rfl rfl ?_
        refine mm_getr (b := 201) dX12_reportsCome_52 rfl fk_X12_9 rfl so_200 sr_200_0 ?_
        refine mm_sipush (v := 270) dX12_reportsCome_55 rfl ?_
        refine mm_iconst (v := 4) dX12_reportsCome_58 rfl ?_
        refine mm_aload_n 4 dX12_reportsCome_59 rfl rfl ?_
        refine mm_getr (b := 201) dX12_reportsCome_60 rfl fk_X12_9 rfl so_200 sr_200_0 ?_
        refine mm_iload_n 1 dX12_reportsCome_63 rfl rfl ?_
        refine mm_ialdN (866 + (6 * i)) dX12_reportsCome_64 sa_201 (by omega) (by omega) ?_
        refine mm_at (pc' := 65) rfl ?_
        refine mm_top (v := K 201 (866 + (6 * i))) (by rw [mm_up_ni (by omega), mm_up_ni (by omega), mm_up_ni (by omega)]) ?_
        refine mm_top (v := nI (cc)) ((hK _ (by omega)).trans e0) ?_
        refine mm_imulN (4) (cc) dX12_reportsCome_65 ?_
        refine mm_iaddN (270) (4 * cc) dX12_reportsCome_66 ?_
        refine mm_iload 0 dX12_reportsCome_67 rfl ?_
        refine mm_iaddN (270 + (4 * cc)) (3) dX12_reportsCome_69 ?_
        refine mm_aload_n 4 dX12_reportsCome_70 rfl rfl ?_
        refine mm_getr (b := 201) dX12_reportsCome_71 rfl fk_X12_9 rfl so_200 sr_200_0 ?_
        refine mm_iload_n 1 dX12_reportsCome_74 rfl rfl ?_
        refine mm_iconst (v := 1) dX12_reportsCome_75 rfl ?_
        refine mm_at (pc' := 76) rfl ?_
        refine mm_iaddN (866 + (6 * i)) (1) dX12_reportsCome_76 ?_
        refine mm_iload 0 dX12_reportsCome_77 rfl ?_
        refine mm_iaddN ((866 + (6 * i)) + 1) (3) dX12_reportsCome_79 ?_
        refine mm_ialdN (((866 + (6 * i)) + 1) + 3) dX12_reportsCome_80 sa_201 (by omega) (by omega) ?_
        refine mm_top (v := K 201 (((866 + (6 * i)) + 1) + 3)) (by rw [mm_up_ni (by omega), mm_up_ni (by omega), mm_up_ni (by omega)]) ?_
        refine mm_top (v := I 201 (866 + 6 * i + 1 + 3)) (hK _ (by omega)) ?_
        refine mm_iastN ((270 + (4 * cc)) + 3) dX12_reportsCome_81 sa_201 (by omega) (by omega) ?_
        refine mm_iinc (v := 4) (ls' := [(4, .int (4)), (3, .int (nI (866 + (6 * i)))), (2, .int (nI (i))), (1, .int (nI (k))), (0, .ref 200)]) 0 dX12_reportsCome_82 rfl (by decide) (by decide) rfl ?_
        refine mm_goto (tgt := 45) dX12_reportsCome_85 (by decide) ?_
        refine mm_iload 0 dX12_reportsCome_45 rfl ?_
        refine mm_iconst (v := 4) dX12_reportsCome_47 rfl ?_
        refine mm_icmp_ge (tgt := 88) dX12_reportsCome_48 (by decide) (fun _ => ?_) (fun q => absurd (by decide) q)
        refine mm_goto (tgt := 135) dX12_reportsCome_88 (by decide) ?_
        refine mm_iincN (ls' := [(2, .int (nI (i + 1))), (4, .int (4)), (3, .int (nI (866 + (6 * i)))), (1, .int (nI (k))), (0, .ref 200)]) 2 (i) 1 dX12_reportsCome_135 rfl rfl (by decide) rfl ?_
        refine mm_goto (tgt := 4) dX12_reportsCome_138 (by decide) ?_
        rw [if_pos c39, e0, vv_nI (by omega)] at step
        have hh := ih (i + 1) (by omega) (by omega)
        rw [step] at hh
        exact mm_sub [0, 3, 4] rfl hh
set_option maxRecDepth 100000 in
set_option maxHeartbeats 600000 in
theorem cm_reportsCome {g : mm_G} {I : mm_I} {d : Nat} {r : Nat} (hr : I 201 18 = nI r) (hr60 : r ≤ 60) (hR : mo_R (I 201) r) : mm_Cv g zX12_reportsCome d [.ref 200] sh_S I (op_rc I r) := by
  refine mm_Cv_of (fun Q hq => ?_)
  refine mm_begin (ls := [(0, .ref 200)]) (Nat.le_of_ble_eq_true rfl) rfl rfl ?_
  refine mm_iconst (v := 0) dX12_reportsCome_0 rfl ?_
  refine mm_istore_n (ls' := [(1, .int (0)), (0, .ref 200)]) dX12_reportsCome_1 rfl (by decide) rfl ?_
  refine mm_iconst (v := 0) dX12_reportsCome_2 rfl ?_
  refine mm_istore_n (ls' := [(2, .int (0)), (1, .int (0)), (0, .ref 200)]) dX12_reportsCome_3 rfl (by decide) rfl ?_
  exact lm_rc hr hr60 hR hq (r + 1) 0 (Nat.zero_le _) (by omega)
