/-! THE REFERENCE: sheets laid, landings, copies -/
theorem lg_3 {a b c : Nat} (ha : a < 2 ^ 31) (hb : b < 2 ^ 31) (hc : c < 2 ^ 31) : 0 < lg_cmp ((nI a).toInt64 + (nI b).toInt64) (nI c).toInt64 ↔ c < a + b := by
  rw [lg_cmp_gt, Int64.lt_iff_toInt_lt, lg_i2l_add, Int32.toInt_toInt64, nI_toInt ha, nI_toInt hb, nI_toInt hc]
  omega
def op_ly (J : mm_I) (s : Nat) : Nat → mm_I
  | 0 => J
  | k + 1 => mm_up (op_ly J s k) 201 (110 + k) (if sp_wi (J 206 (80 * s + k)) 0 999 then J 206 (80 * s + k) else 0)
theorem op_ly_ne {J : mm_I} {s a i : Nat} (h : a ≠ 201) : ∀ k, op_ly J s k a i = J a i := by
  intro k
  induction k with
  | zero => rfl
  | succ k ih => unfold op_ly; rw [mm_up_ne h]; exact ih
def op_lay (w h : Nat) (J : mm_I) (s : Int32) : Int32 × mm_I := if ¬ sp_wi s 0 1 then ((-1000000001), J) else if J 205 (vv s) < 0 then ((-1000000011), J) else (nI (min (vv (J 205 (vv s))) (w * h)), op_ly J (vv s) (min (vv (J 205 (vv s))) (w * h)))
abbrev sp_abs (x : Int32) : Int32 := if 0 ≤ x then x else 0 - x
def sp_ap (w : Nat) (a b : Int32) : Int32 := sp_abs ((a - a / nI w * nI w) - (b - b / nI w * nI w)) + sp_abs (a / nI w - b / nI w)
abbrev sp_min (a b : Int32) : Int32 := if b < a then b else a
/-- wear behind a landing -/
def sp_lw (N : Nat → Int32) (w : Nat) (c : Int32) (m : Nat) : Int32 := sp_min 100 (N (630 + 40 * m + 3) + 20 - 5 * sp_ap w c (N (630 + 40 * m + 1)))
def op_lw (J : mm_I) (w : Nat) (c : Int32) : Nat → mm_I
  | 0 => J
  | m + 1 => if 3 ≤ sp_ap w c (J 201 (630 + 40 * m + 1)) then op_lw J w c m else mm_up (op_lw J w c m) 201 (630 + 40 * m + 3) (sp_lw (J 201) w c m)
def sp_ls (N : Nat → Int32) (w : Nat) (c : Int32) : Nat → Int32
  | 0 => 0
  | m + 1 => if 3 ≤ sp_ap w c (N (630 + 40 * m + 1)) then sp_ls N w c m else sp_ls N w c m + (sp_lw N w c m - N (630 + 40 * m + 3))
theorem op_lw_ne {J : mm_I} {w : Nat} {c : Int32} {a i : Nat} : ∀ m, (a = 201 → ∀ k, k < m → i ≠ 630 + 40 * k + 3) → op_lw J w c m a i = J a i := by
  intro m
  induction m with
  | zero => intro _; rfl
  | succ m ih =>
    intro h
    have e := ih (fun q k hk => h q k (by omega))
    unfold op_lw
    by_cases h3 : 3 ≤ sp_ap w c (J 201 (630 + 40 * m + 1))
    · rw [if_pos h3]; exact e
    · rw [if_neg h3]
      by_cases ha : a = 201
      · rw [ha] at h e ⊢
        rw [mm_up_ni (h rfl m (by omega))]; exact e
      · rw [mm_up_ne ha]; exact e
theorem op_lw_W {J : mm_I} {w h x m : Nat} {c : Int32} (hW : mo_W (J 201) w h) : mo_W (op_lw J x c m 201) w h :=
  ⟨by rw [op_lw_ne m (fun _ k _ => by omega)]; exact hW.1, by rw [op_lw_ne m (fun _ k _ => by omega)]; exact hW.2.1, hW.2.2⟩
/-- dust behind a landing -/
def op_lc (J : mm_I) (w : Nat) (c : Int32) : Nat → mm_I
  | 0 => J
  | k + 1 => if J 201 (30 + k) = 0 ∧ ¬ 1 < sp_ap w c (nI k) then mm_up (mm_up (op_lc J w c k) 201 (110 + k) (J 201 (110 + k) - J 201 (110 + k) / 2)) 201 13 (op_lc J w c k 201 13 + J 201 (110 + k) / 2) else op_lc J w c k
theorem op_lc_ne {J : mm_I} {w : Nat} {c : Int32} {a i : Nat} : ∀ m, (a = 201 → i ≠ 13 ∧ ∀ k, k < m → i ≠ 110 + k) → op_lc J w c m a i = J a i := by
  intro m
  induction m with
  | zero => intro _; rfl
  | succ m ih =>
    intro h
    have e := ih (fun q => ⟨(h q).1, fun k hk => (h q).2 k (by omega)⟩)
    unfold op_lc
    by_cases h3 : J 201 (30 + m) = 0 ∧ ¬ 1 < sp_ap w c (nI m)
    · rw [if_pos h3]
      by_cases ha : a = 201
      · rw [ha] at h e ⊢
        rw [mm_up_ni (h rfl).1, mm_up_ni ((h rfl).2 m (by omega))]; exact e
      · rw [mm_up_ne ha, mm_up_ne ha]; exact e
    · rw [if_neg h3]; exact e
theorem op_lc_W {J : mm_I} {w h x m : Nat} {c : Int32} (hW : mo_W (J 201) w h) : mo_W (op_lc J x c m 201) w h :=
  ⟨by rw [op_lc_ne m (fun _ => ⟨by omega, fun k _ => by omega⟩)]; exact hW.1, by rw [op_lc_ne m (fun _ => ⟨by omega, fun k _ => by omega⟩)]; exact hW.2.1, hW.2.2⟩
def op_lp (J : mm_I) (p : Int32) : mm_I := mm_up J 201 12 (sp_min 9999 (J 201 12 + p))
def op_land (w h n : Nat) (J : mm_I) (c p : Int32) : Int32 × mm_I := if ¬ sp_isC w h c ∨ ¬ sp_wi p 0 99 then ((-1000000001), J) else if J 201 (30 + vv c) = 1 ∨ J 201 (30 + vv c) = 4 ∨ ¬ sp_mo (J 201) c n < 0 then ((-1000000002), J) else
  (sp_ls (J 201) w c n, op_lp (op_lc (op_lw J w c n) w c (w * h)) p)
set_option maxRecDepth 100000 in
set_option maxHeartbeats 600000 in
theorem lm_lay {g : mm_G} {I : mm_I} {d : Nat} {Q : Option Value → mm_Sh → mm_I → Prop} {s n : Nat} (hs : s ≤ 1) (hn : n ≤ 80) (hq : Q (some (.int (nI n))) sh_S (op_ly I s n)) (hd : 1 ≤ d) : ∀ (m : Nat) (i : Nat), (i ≤ n) → n - i < m → mm_Ex g zX12_lay d (0, 0) (0, 0) sh_S (op_ly I s i) 40 [(3, .int (nI (i))), (2, .int (nI (n))), (0, .ref 200), (1, .int (nI (s)))] [] Q := by
  intro m
  induction m with
  | zero => intro i hi hmz; exact absurd hmz (Nat.not_lt_zero _)
  | succ m ih =>
    intro i hi hmz
    refine mm_iload_n 0 dX12_lay_40 rfl rfl ?_
    refine mm_iload_n 1 dX12_lay_41 rfl rfl ?_
    refine mm_icmp_geN (i) (n) (tgt := 91) dX12_lay_42 (by decide) (by omega) (by omega) (fun c42 => ?_) (fun c42 => ?_)
    · refine mm_iload_n 1 dX12_lay_91 rfl rfl ?_
      refine mm_iret dX12_lay_92 rfl ⟨Nat.le_refl _, Nat.le_refl _⟩ ?_
      exact (show n = i by omega) ▸ hq
    · refine mm_aload_n 2 dX12_lay_45 rfl rfl ?_
      refine mm_getr (b := 206) dX12_lay_46 rfl fk_X12_25 rfl so_200 sr_200_8 ?_
      refine mm_bipush (v := 80) dX12_lay_49 rfl ?_
      refine mm_iload_n 3 dX12_lay_51 rfl rfl ?_
      refine mm_imulN (80) (s) dX12_lay_52 ?_
      refine mm_iload_n 0 dX12_lay_53 rfl rfl ?_
      refine mm_iaddN (80 * s) (i) dX12_lay_54 ?_
      refine mm_at (pc' := 55) rfl ?_
      refine mm_ialdN ((80 * s) + i) dX12_lay_55 sa_206 (by omega) (by omega) ?_
      refine mm_top (v := I 206 (80 * s + i)) (op_ly_ne (by decide) i) ?_
      refine mm_istore (ls' := [(4, .int (I 206 (80 * s + i))), (3, .int (nI (i))), (2, .int (nI (n))), (0, .ref 200), (1, .int (nI (s)))]) dX12_lay_56 (by decide) rfl ?_
      refine mm_aload_n 3 dX12_lay_58 rfl rfl ?_
      refine mm_getr (b := 201) dX12_lay_59 rfl fk_X12_9 rfl so_200 sr_200_0 ?_
      refine mm_bipush (v := 110) dX12_lay_62 rfl ?_
      refine mm_iload_n 1 dX12_lay_64 rfl rfl ?_
      refine mm_iaddN (110) (i) dX12_lay_65 ?_
      refine mm_iload 0 dX12_lay_66 rfl ?_
      refine mm_at (pc' := 68) rfl ?_
      refine mm_iconst (v := 0) dX12_lay_68 rfl ?_
      refine mm_sipush (v := 999) dX12_lay_69 rfl ?_
      refine mm_cS3i (dz := d - 1) dX12_lay_72 rfl mzX12_within ml_X12_82 imX12_within (by omega) cm_within (Nat.le_of_ble_eq_true rfl) ⟨Nat.le_refl _, Nat.le_refl _⟩ ?_
      have K75 : mm_Ex g zX12_lay d (0, 0) (0, 0) sh_S (op_ly I s i) 84 [(4, .int (I 206 (80 * s + i))), (3, .int (nI (i))), (2, .int (nI (n))), (0, .ref 200), (1, .int (nI (s)))] [.int (if sp_wi (I 206 (80 * s + i)) 0 999 then (I 206 (80 * s + i)) else 0), .int (nI (110 + i)), .ref 201] Q := by
        refine mm_iastN (110 + i) dX12_lay_84 sa_201 (by omega) (by omega) ?_
        refine mm_iincN (ls' := [(3, .int (nI (i + 1))), (4, .int (I 206 (80 * s + i))), (2, .int (nI (n))), (0, .ref 200), (1, .int (nI (s)))]) 1 (i) 1 dX12_lay_85 rfl rfl (by decide) rfl ?_
        refine mm_goto (tgt := 40) dX12_lay_88 (by decide) ?_
        have hh := ih (i + 1) (by omega) (by omega)
        rw [op_ly] at hh
        exact mm_sub [0, 2, 3, 4] rfl hh
      refine mm_if_eqB (tgt := 83) dX12_lay_75 (by decide) (fun c75 => ?_) (fun c75 => ?_)
      · refine mm_iconst (v := 0) dX12_lay_83 rfl ?_
        exact mm_top (by rw [if_neg c75]) K75
      · refine mm_iload 0 dX12_lay_78 rfl ?_
        refine mm_goto (tgt := 84) dX12_lay_80 (by decide) ?_
        exact mm_top (by rw [if_pos c75]) K75
set_option maxRecDepth 100000 in
set_option maxHeartbeats 600000 in
theorem cm_lay {g : mm_G} {I : mm_I} {d : Nat} {w h : Nat} (hW : mo_W (I 201) w h) (hp : sp_pl I) {s : Int32} (hd : 1 ≤ d) : mm_Ci g zX12_lay d [.ref 200, .int s] sh_S I (op_lay w h I s).1 (op_lay w h I s).2 := by
  have hc := mo_W_c hW
  obtain ⟨-, -, hw1, hw2, hh1, hh2⟩ := id hW
  refine mm_Ci_of (fun Q hq => ?_)
  refine mm_begin (ls := [(0, .ref 200), (1, .int (s))]) (Nat.le_of_ble_eq_true rfl) rfl rfl ?_
  refine mm_iload_n 1 dX12_lay_0 rfl rfl ?_
  refine mm_iconst (v := 0) dX12_lay_1 rfl ?_
  refine mm_iconst (v := 1) dX12_lay_2 rfl ?_
  refine mm_cS3i (dz := d - 1) dX12_lay_3 rfl mzX12_within ml_X12_82 imX12_within (by omega) cm_within (Nat.le_of_ble_eq_true rfl) ⟨Nat.le_refl _, Nat.le_refl _⟩ ?_
  refine mm_if_neB (tgt := 12) dX12_lay_6 (by decide) (fun c6 => ?_) (fun c6 => ?_)
  · obtain ⟨k, hkk, rfl⟩ := sp_wi_n 0 1 (by decide) (by decide) c6
    refine mm_aload_n 0 dX12_lay_12 rfl rfl ?_
    refine mm_getr (b := 205) dX12_lay_13 rfl fk_X12_22 rfl so_200 sr_200_7 ?_
    refine mm_iload_n 1 dX12_lay_16 rfl rfl ?_
    refine mm_ialdN (k) dX12_lay_17 sa_205 (by omega) (by omega) ?_
    refine mm_if_ge (tgt := 24) dX12_lay_18 (by decide) (fun c18 => ?_) (fun c18 => ?_)
    · obtain ⟨z, hz, hpz⟩ : ∃ z, z ≤ 80 ∧ I 205 k = nI z := (hp k (by omega)).resolve_left (fun q => absurd c18 (by rw [q]; decide))
      refine mm_aload_n 0 dX12_lay_24 rfl rfl ?_
      refine mm_getr (b := 205) dX12_lay_25 rfl fk_X12_22 rfl so_200 sr_200_7 ?_
      refine mm_iload_n 1 dX12_lay_28 rfl rfl ?_
      refine mm_ialdN (k) dX12_lay_29 sa_205 (by omega) (by omega) ?_
      refine mm_top (v := nI (z)) hpz ?_
      refine mm_aload_n 0 dX12_lay_30 rfl rfl ?_
      refine mm_cV0i (dz := d - 1) dX12_lay_31 rfl mzX12_cells ml_X12_78 imX12_cells (by omega) so_200 ⟨rfl, rfl⟩ (cm_cells hW) (Nat.le_of_ble_eq_true rfl) ⟨Nat.le_refl _, Nat.le_refl _⟩ ?_
      refine mm_minN (z) (w * h) dX12_lay_34 rfl ml_X12_106 jm_min (by omega) (by omega) (by omega) (Nat.le_of_ble_eq_true rfl) ⟨Nat.le_refl _, Nat.le_refl _⟩ ?_
      refine mm_istore_n (ls' := [(2, .int (nI (min (z) (w * h)))), (0, .ref 200), (1, .int (nI (k)))]) dX12_lay_37 rfl (by decide) rfl ?_
      refine mm_at (pc' := 38) rfl ?_
      refine mm_iconst (v := 0) dX12_lay_38 rfl ?_
      refine mm_istore_n (ls' := [(3, .int (0)), (2, .int (nI (min (z) (w * h)))), (0, .ref 200), (1, .int (nI (k)))]) dX12_lay_39 rfl (by decide) rfl ?_
      rw [op_lay, if_neg (fun q => q c6), vv_nI (by omega), if_neg (Int32.not_lt.mpr c18), hpz, vv_nI (by omega)] at hq
      exact mm_sub [0, 1, 2, 3] rfl (lm_lay (by omega) (Nat.le_trans (Nat.min_le_left _ _) hz) hq hd 81 0 (Nat.zero_le _) (by omega))
    · refine mm_ldc dX12_lay_21 rfl kc_X12_105 ?_
      refine mm_iret dX12_lay_23 rfl ⟨Nat.le_refl _, Nat.le_refl _⟩ ?_
      exact mm_l2 (by unfold op_lay; rw [if_neg (fun q => q c6), vv_nI (by omega), if_pos (Int32.not_le.mp c18)]) hq
  · refine mm_ldc dX12_lay_9 rfl kc_X12_86 ?_
    refine mm_iret dX12_lay_11 rfl ⟨Nat.le_refl _, Nat.le_refl _⟩ ?_
    exact mm_l2 (by unfold op_lay; rw [if_pos c6]) hq
set_option maxRecDepth 100000 in
set_option maxHeartbeats 600000 in
theorem ck_apart {g : mm_G} {I : mm_I} {d : Nat} {w h : Nat} (hW : mo_W (I 201) w h) {a b : Int32}  (hd : 1 ≤ d) : mm_Ci g zX12_apart d [.ref 200, .int a, .int b] sh_S I (sp_ap w a b) I := by
  have hc := mo_W_c hW
  obtain ⟨-, -, hw1, hw2, hh1, hh2⟩ := id hW
  refine mm_Ci_of (fun Q hq => ?_)
  refine mm_begin (ls := [(0, .ref 200), (1, .int (a)), (2, .int (b))]) (Nat.le_of_ble_eq_true rfl) rfl rfl ?_
  refine mm_iload_n 1 dX12_apart_0 rfl rfl ?_
  refine mm_aload_n 0 dX12_apart_1 rfl rfl ?_
  refine mm_getr (b := 201) dX12_apart_2 rfl fk_X12_9 rfl so_200 sr_200_0 ?_
  refine mm_iconst (v := 0) dX12_apart_5 rfl ?_
  refine mm_ialdN (0) dX12_apart_6 sa_201 (by omega) (by omega) ?_
  refine mm_top (v := nI (w)) hW.1 ?_
  refine mm_irem dX12_apart_7 (nI_ne0 (by omega) (by omega)) ?_
  refine mm_iload_n 2 dX12_apart_8 rfl rfl ?_
  refine mm_aload_n 0 dX12_apart_9 rfl rfl ?_
  refine mm_at (pc' := 10) rfl ?_
  refine mm_getr (b := 201) dX12_apart_10 rfl fk_X12_9 rfl so_200 sr_200_0 ?_
  refine mm_iconst (v := 0) dX12_apart_13 rfl ?_
  refine mm_ialdN (0) dX12_apart_14 sa_201 (by omega) (by omega) ?_
  refine mm_top (v := nI (w)) hW.1 ?_
  refine mm_irem dX12_apart_15 (nI_ne0 (by omega) (by omega)) ?_
  refine mm_isub dX12_apart_16 ?_
  refine mm_abs dX12_apart_17 rfl ml_X12_326 jm_abs (by omega) (Nat.le_of_ble_eq_true rfl) ⟨Nat.le_refl _, Nat.le_refl _⟩ ?_
  refine mm_iload_n 1 dX12_apart_20 rfl rfl ?_
  refine mm_aload_n 0 dX12_apart_21 rfl rfl ?_
  refine mm_at (pc' := 22) rfl ?_
  refine mm_getr (b := 201) dX12_apart_22 rfl fk_X12_9 rfl so_200 sr_200_0 ?_
  refine mm_iconst (v := 0) dX12_apart_25 rfl ?_
  refine mm_ialdN (0) dX12_apart_26 sa_201 (by omega) (by omega) ?_
  refine mm_top (v := nI (w)) hW.1 ?_
  refine mm_idiv dX12_apart_27 (nI_ne0 (by omega) (by omega)) ?_
  refine mm_iload_n 2 dX12_apart_28 rfl rfl ?_
  refine mm_aload_n 0 dX12_apart_29 rfl rfl ?_
  refine mm_getr (b := 201) dX12_apart_30 rfl fk_X12_9 rfl so_200 sr_200_0 ?_
  refine mm_iconst (v := 0) dX12_apart_33 rfl ?_
  refine mm_at (pc' := 34) rfl ?_
  refine mm_ialdN (0) dX12_apart_34 sa_201 (by omega) (by omega) ?_
  refine mm_top (v := nI (w)) hW.1 ?_
  refine mm_idiv dX12_apart_35 (nI_ne0 (by omega) (by omega)) ?_
  refine mm_isub dX12_apart_36 ?_
  refine mm_abs dX12_apart_37 rfl ml_X12_326 jm_abs (by omega) (Nat.le_of_ble_eq_true rfl) ⟨Nat.le_refl _, Nat.le_refl _⟩ ?_
  refine mm_iadd dX12_apart_40 ?_
  refine mm_iret dX12_apart_41 rfl ⟨Nat.le_refl _, Nat.le_refl _⟩ ?_
  exact hq
set_option maxRecDepth 100000 in
set_option maxHeartbeats 600000 in
theorem lm_land1 {g : mm_G} {I : mm_I} {d : Nat} {Q : Option Value → mm_Sh → mm_I → Prop} {w h : Nat} (hW : mo_W (I 201) w h) {n : Nat} (hm : I 201 16 = nI n) (hm5 : n ≤ 5) {c : Nat} {p : Int32} (hd : 2 ≤ d) (hx : mm_Ex g zX12_land d (0, 0) (0, 0) sh_S (op_lw I w (nI c) n) 161 [(4, .int (nI n)), (3, .int (sp_ls (I 201) w (nI c) n)), (0, .ref 200), (1, .int (nI c)), (2, .int p)] [] Q) : ∀ (m : Nat) (i : Nat), (i ≤ n) → n - i < m → mm_Ex g zX12_land d (0, 0) (0, 0) sh_S (op_lw I w (nI c) i) 63 [(4, .int (nI (i))), (3, .int (sp_ls (I 201) w (nI c) i)), (0, .ref 200), (1, .int (nI (c))), (2, .int (p))] [] Q := by
  intro m
  induction m with
  | zero => intro i hi hmz; exact absurd hmz (Nat.not_lt_zero _)
  | succ m ih =>
    intro i hi hmz
    refine mm_iload 0 dX12_land_63 rfl ?_
    refine mm_aload_n 2 dX12_land_65 rfl rfl ?_
    refine mm_getr (b := 201) dX12_land_66 rfl fk_X12_9 rfl so_200 sr_200_0 ?_
    refine mm_bipush (v := 16) dX12_land_69 rfl ?_
    refine mm_ialdN (16) dX12_land_71 sa_201 (by omega) (by omega) ?_
    refine mm_top (v := nI (n)) (by rw [op_lw_ne i (fun _ k _ => by omega)]; exact hm) ?_
    refine mm_icmp_geN (i) (n) (tgt := 161) dX12_land_72 (by decide) (by omega) (by omega) (fun c72 => ?_) (fun c72 => ?_)
    · have e : i = n := by omega
      subst e
      exact hx
    · refine mm_aload_n 2 dX12_land_75 rfl rfl ?_
      refine mm_iload_n 3 dX12_land_76 rfl rfl ?_
      refine mm_aload_n 2 dX12_land_77 rfl rfl ?_
      refine mm_getr (b := 201) dX12_land_78 rfl fk_X12_9 rfl so_200 sr_200_0 ?_
      refine mm_iload 0 dX12_land_81 rfl ?_
      refine mm_iconst (v := 1) dX12_land_83 rfl ?_
      refine mm_cS2i (dz := d - 1) dX12_land_84 rfl mzX12_of ml_X12_87 imX12_of (by omega) (cm_of (i) (1)) (Nat.le_of_ble_eq_true rfl) ⟨Nat.le_refl _, Nat.le_refl _⟩ ?_
      refine mm_at (pc' := 87) rfl ?_
      refine mm_ialdN (630 + 40 * i + 1) dX12_land_87 sa_201 (by omega) (by omega) ?_
      refine mm_top (v := I 201 (630 + 40 * i + 1)) (op_lw_ne i (fun _ k _ => by omega)) ?_
      refine mm_cV2i (dz := d - 1) dX12_land_88 rfl mzX12_apart ml_X12_323 imX12_apart (by omega) so_200 ⟨rfl, rfl⟩ (ck_apart (op_lw_W hW) (by omega)) (Nat.le_of_ble_eq_true rfl) ⟨Nat.le_refl _, Nat.le_refl _⟩ ?_
      refine mm_istore (ls' := [(5, .int (sp_ap w (nI (c)) (I 201 (630 + 40 * i + 1)))), (4, .int (nI (i))), (3, .int (sp_ls (I 201) w (nI c) i)), (0, .ref 200), (1, .int (nI (c))), (2, .int (p))]) dX12_land_91 (by decide) rfl ?_
      refine mm_aload_n 3 dX12_land_93 rfl rfl ?_
      refine mm_getr (b := 201) dX12_land_94 rfl fk_X12_9 rfl so_200 sr_200_0 ?_
      refine mm_iload 1 dX12_land_97 rfl ?_
      refine mm_iconst (v := 3) dX12_land_99 rfl ?_
      refine mm_cS2i (dz := d - 1) dX12_land_100 rfl mzX12_of ml_X12_87 imX12_of (by omega) (cm_of (i) (3)) (Nat.le_of_ble_eq_true rfl) ⟨Nat.le_refl _, Nat.le_refl _⟩ ?_
      refine mm_at (pc' := 103) rfl ?_
      refine mm_ialdN (630 + 40 * i + 3) dX12_land_103 sa_201 (by omega) (by omega) ?_
      refine mm_top (v := I 201 (630 + 40 * i + 3)) (op_lw_ne i (fun _ k _ => by omega)) ?_
      refine mm_istore (ls' := [(6, .int (I 201 (630 + 40 * i + 3))), (5, .int (sp_ap w (nI (c)) (I 201 (630 + 40 * i + 1)))), (4, .int (nI (i))), (3, .int (sp_ls (I 201) w (nI c) i)), (0, .ref 200), (1, .int (nI (c))), (2, .int (p))]) dX12_land_104 (by decide) rfl ?_
      refine mm_iload 1 dX12_land_106 rfl ?_
      refine mm_iconst (v := 3) dX12_land_108 rfl ?_
      refine mm_icmp_ge (tgt := 155) dX12_land_109 (by decide) (fun c109 => ?_) (fun c109 => ?_)
      · refine mm_iincN (ls' := [(4, .int (nI (i + 1))), (6, .int (I 201 (630 + 40 * i + 3))), (5, .int (sp_ap w (nI (c)) (I 201 (630 + 40 * i + 1)))), (3, .int (sp_ls (I 201) w (nI c) i)), (0, .ref 200), (1, .int (nI (c))), (2, .int (p))]) 2 (i) 1 dX12_land_155 rfl rfl (by decide) rfl ?_
        refine mm_goto (tgt := 63) dX12_land_158 (by decide) ?_
        have hh := ih (i + 1) (by omega) (by omega)
        first | (rw [op_lw, sp_ls, if_pos c109, if_pos c109] at hh; exact mm_sub [0, 3, 4, 5, 6] rfl hh) | (rw [op_lw, sp_ls, if_neg c109, if_neg c109] at hh; exact mm_sub [0, 3, 4, 5, 6] rfl hh)
      · refine mm_aload_n 4 dX12_land_112 rfl rfl ?_
        refine mm_getr (b := 201) dX12_land_113 rfl fk_X12_9 rfl so_200 sr_200_0 ?_
        refine mm_iload 2 dX12_land_116 rfl ?_
        refine mm_iconst (v := 3) dX12_land_118 rfl ?_
        refine mm_cS2i (dz := d - 1) dX12_land_119 rfl mzX12_of ml_X12_87 imX12_of (by omega) (cm_of (i) (3)) (Nat.le_of_ble_eq_true rfl) ⟨Nat.le_refl _, Nat.le_refl _⟩ ?_
        refine mm_bipush (v := 100) dX12_land_122 rfl ?_
        refine mm_iload 0 dX12_land_124 rfl ?_
        refine mm_at (pc' := 126) rfl ?_
        refine mm_bipush (v := 20) dX12_land_126 rfl ?_
        refine mm_iadd dX12_land_128 ?_
        refine mm_iconst (v := 5) dX12_land_129 rfl ?_
        refine mm_iload 1 dX12_land_130 rfl ?_
        refine mm_imul dX12_land_132 ?_
        refine mm_isub dX12_land_133 ?_
        refine mm_min dX12_land_134 rfl ml_X12_106 jm_min (by omega) (Nat.le_of_ble_eq_true rfl) ⟨Nat.le_refl _, Nat.le_refl _⟩ ?_
        refine mm_iastN (630 + 40 * i + 3) dX12_land_137 sa_201 (by omega) (by omega) ?_
        refine mm_at (pc' := 138) rfl ?_
        refine mm_iload_n 3 dX12_land_138 rfl rfl ?_
        refine mm_aload_n 4 dX12_land_139 rfl rfl ?_
        refine mm_getr (b := 201) dX12_land_140 rfl fk_X12_9 rfl so_200 sr_200_0 ?_
        refine mm_iload 2 dX12_land_143 rfl ?_
        refine mm_iconst (v := 3) dX12_land_145 rfl ?_
        refine mm_cS2i (dz := d - 1) dX12_land_146 rfl mzX12_of ml_X12_87 imX12_of (by omega) (cm_of (i) (3)) (Nat.le_of_ble_eq_true rfl) ⟨Nat.le_refl _, Nat.le_refl _⟩ ?_
        refine mm_ialdN (630 + 40 * i + 3) dX12_land_149 sa_201 (by omega) (by omega) ?_
        refine mm_top (v := if ((I 201 (630 + 40 * i + 3)) + 20) - (5 * (sp_ap w (nI (c)) (I 201 (630 + 40 * i + 1)))) < 100 then ((I 201 (630 + 40 * i + 3)) + 20) - (5 * (sp_ap w (nI (c)) (I 201 (630 + 40 * i + 1)))) else 100) (by rw [mm_up_at]) ?_
        refine mm_iload 0 dX12_land_150 rfl ?_
        refine mm_at (pc' := 152) rfl ?_
        refine mm_isub dX12_land_152 ?_
        refine mm_iadd dX12_land_153 ?_
        refine mm_istore_n (ls' := [(3, .int ((sp_ls (I 201) w (nI c) i) + ((if ((I 201 (630 + 40 * i + 3)) + 20) - (5 * (sp_ap w (nI (c)) (I 201 (630 + 40 * i + 1)))) < 100 then ((I 201 (630 + 40 * i + 3)) + 20) - (5 * (sp_ap w (nI (c)) (I 201 (630 + 40 * i + 1)))) else 100) - (I 201 (630 + 40 * i + 3))))), (6, .int (I 201 (630 + 40 * i + 3))), (5, .int (sp_ap w (nI (c)) (I 201 (630 + 40 * i + 1)))), (4, .int (nI (i))), (0, .ref 200), (1, .int (nI (c))), (2, .int (p))]) dX12_land_154 rfl (by decide) rfl ?_
        refine mm_iincN (ls' := [(4, .int (nI (i + 1))), (3, .int ((sp_ls (I 201) w (nI c) i) + ((if ((I 201 (630 + 40 * i + 3)) + 20) - (5 * (sp_ap w (nI (c)) (I 201 (630 + 40 * i + 1)))) < 100 then ((I 201 (630 + 40 * i + 3)) + 20) - (5 * (sp_ap w (nI (c)) (I 201 (630 + 40 * i + 1)))) else 100) - (I 201 (630 + 40 * i + 3))))), (6, .int (I 201 (630 + 40 * i + 3))), (5, .int (sp_ap w (nI (c)) (I 201 (630 + 40 * i + 1)))), (0, .ref 200), (1, .int (nI (c))), (2, .int (p))]) 3 (i) 1 dX12_land_155 rfl rfl (by decide) rfl ?_
        refine mm_goto (tgt := 63) dX12_land_158 (by decide) ?_
        have hh := ih (i + 1) (by omega) (by omega)
        first | (rw [op_lw, sp_ls, if_pos c109, if_pos c109] at hh; exact mm_sub [0, 1, 4, 5, 6] rfl hh) | (rw [op_lw, sp_ls, if_neg c109, if_neg c109] at hh; exact mm_sub [0, 1, 4, 5, 6] rfl hh)
set_option maxRecDepth 100000 in
set_option maxHeartbeats 600000 in
theorem lm_land2 {g : mm_G} {J : mm_I} {d : Nat} {Q : Option Value → mm_Sh → mm_I → Prop} {w h : Nat} (hW : mo_W (J 201) w h) {c : Nat} {p r : Int32} (hd : 2 ≤ d) (hq : Q (some (.int r)) sh_S (op_lp (op_lc J w (nI c) (w * h)) p)) : ∀ (m : Nat) (i : Nat), (i ≤ w * h) → w * h - i < m → mm_Ex g zX12_land d (0, 0) (0, 0) sh_S (op_lc J w (nI c) i) 164 [(4, .int (nI (i))), (3, .int (r)), (0, .ref 200), (1, .int (nI (c))), (2, .int (p))] [] Q := by
  have hc := mo_W_c hW
  obtain ⟨-, -, hw1, hw2, hh1, hh2⟩ := id hW
  intro m
  induction m with
  | zero => intro i hi hmz; exact absurd hmz (Nat.not_lt_zero _)
  | succ m ih =>
    intro i hi hmz
    refine mm_iload 0 dX12_land_164 rfl ?_
    refine mm_aload_n 2 dX12_land_166 rfl rfl ?_
    refine mm_cV0i (dz := d - 1) dX12_land_167 rfl mzX12_cells ml_X12_78 imX12_cells (by omega) so_200 ⟨rfl, rfl⟩ (cm_cells (op_lc_W hW)) (Nat.le_of_ble_eq_true rfl) ⟨Nat.le_refl _, Nat.le_refl _⟩ ?_
    refine mm_icmp_geN (i) (w * h) (tgt := 244) dX12_land_170 (by decide) (by omega) (by omega) (fun c170 => ?_) (fun c170 => ?_)
    · have e : w * h = i := by omega
      rw [e] at hq
      refine mm_aload_n 2 dX12_land_244 rfl rfl ?_
      refine mm_getr (b := 201) dX12_land_245 rfl fk_X12_9 rfl so_200 sr_200_0 ?_
      refine mm_bipush (v := 12) dX12_land_248 rfl ?_
      refine mm_sipush (v := 9999) dX12_land_250 rfl ?_
      refine mm_aload_n 2 dX12_land_253 rfl rfl ?_
      refine mm_getr (b := 201) dX12_land_254 rfl fk_X12_9 rfl so_200 sr_200_0 ?_
      refine mm_bipush (v := 12) dX12_land_257 rfl ?_
      refine mm_ialdN (12) dX12_land_259 sa_201 (by omega) (by omega) ?_
      refine mm_at (pc' := 260) rfl ?_
      refine mm_iload_n 4 dX12_land_260 rfl rfl ?_
      refine mm_iadd dX12_land_261 ?_
      refine mm_min dX12_land_262 rfl ml_X12_106 jm_min (by omega) (Nat.le_of_ble_eq_true rfl) ⟨Nat.le_refl _, Nat.le_refl _⟩ ?_
      refine mm_iastN (12) dX12_land_265 sa_201 (by omega) (by omega) ?_
      refine mm_iload_n 1 dX12_land_266 rfl rfl ?_
      refine mm_iret dX12_land_267 rfl ⟨Nat.le_refl _, Nat.le_refl _⟩ ?_
      exact hq
    · refine mm_aload_n 2 dX12_land_173 rfl rfl ?_
      refine mm_getr (b := 201) dX12_land_174 rfl fk_X12_9 rfl so_200 sr_200_0 ?_
      refine mm_bipush (v := 30) dX12_land_177 rfl ?_
      refine mm_iload 0 dX12_land_179 rfl ?_
      refine mm_iaddN (30) (i) dX12_land_181 ?_
      refine mm_ialdN (30 + i) dX12_land_182 sa_201 (by omega) (by omega) ?_
      refine mm_top (v := J 201 (30 + i)) (op_lc_ne i (fun _ => ⟨by omega, fun k _ => by omega⟩)) ?_
      refine mm_if_ne (tgt := 238) dX12_land_183 (by decide) (fun c183 => ?_) (fun c183 => ?_)
      · refine mm_iincN (ls' := [(4, .int (nI (i + 1))), (3, .int (r)), (0, .ref 200), (1, .int (nI (c))), (2, .int (p))]) 0 (i) 1 dX12_land_238 rfl rfl (by decide) rfl ?_
        refine mm_goto (tgt := 164) dX12_land_241 (by decide) ?_
        have hh := ih (i + 1) (by omega) (by omega)
        first | (rw [op_lc, if_pos ⟨c183, c194⟩] at hh; exact mm_sub [0, 1, 2, 3, 4] rfl hh) | (rw [op_lc, if_neg (fun q => c183 q.1)] at hh; exact mm_sub [0, 1, 2, 3, 4] rfl hh) | (rw [op_lc, if_neg (fun q => q.2 c194)] at hh; exact mm_sub [0, 1, 2, 3, 4] rfl hh)
      · refine mm_aload_n 2 dX12_land_186 rfl rfl ?_
        refine mm_iload_n 3 dX12_land_187 rfl rfl ?_
        refine mm_iload 0 dX12_land_188 rfl ?_
        refine mm_cV2i (dz := d - 1) dX12_land_190 rfl mzX12_apart ml_X12_323 imX12_apart (by omega) so_200 ⟨rfl, rfl⟩ (ck_apart (op_lc_W hW) (by omega)) (Nat.le_of_ble_eq_true rfl) ⟨Nat.le_refl _, Nat.le_refl _⟩ ?_
        refine mm_iconst (v := 1) dX12_land_193 rfl ?_
        refine mm_icmp_gt (tgt := 238) dX12_land_194 (by decide) (fun c194 => ?_) (fun c194 => ?_)
        · refine mm_iincN (ls' := [(4, .int (nI (i + 1))), (3, .int (r)), (0, .ref 200), (1, .int (nI (c))), (2, .int (p))]) 0 (i) 1 dX12_land_238 rfl rfl (by decide) rfl ?_
          refine mm_goto (tgt := 164) dX12_land_241 (by decide) ?_
          have hh := ih (i + 1) (by omega) (by omega)
          first | (rw [op_lc, if_pos ⟨c183, c194⟩] at hh; exact mm_sub [0, 1, 2, 3, 4] rfl hh) | (rw [op_lc, if_neg (fun q => c183 q.1)] at hh; exact mm_sub [0, 1, 2, 3, 4] rfl hh) | (rw [op_lc, if_neg (fun q => q.2 c194)] at hh; exact mm_sub [0, 1, 2, 3, 4] rfl hh)
        · refine mm_aload_n 2 dX12_land_197 rfl rfl ?_
          refine mm_getr (b := 201) dX12_land_198 rfl fk_X12_9 rfl so_200 sr_200_0 ?_
          refine mm_bipush (v := 110) dX12_land_201 rfl ?_
          refine mm_iload 0 dX12_land_203 rfl ?_
          refine mm_iaddN (110) (i) dX12_land_205 ?_
          refine mm_ialdN (110 + i) dX12_land_206 sa_201 (by omega) (by omega) ?_
          refine mm_top (v := J 201 (110 + i)) (op_lc_ne i (fun _ => ⟨by omega, fun k _ => by omega⟩)) ?_
          refine mm_iconst (v := 2) dX12_land_207 rfl ?_
          refine mm_at (pc' := 208) rfl ?_
          refine mm_idiv dX12_land_208 (by decide) ?_
          refine mm_istore (ls' := [(5, .int ((J 201 (110 + i)) / (2))), (4, .int (nI (i))), (3, .int (r)), (0, .ref 200), (1, .int (nI (c))), (2, .int (p))]) dX12_land_209 (by decide) rfl ?_
          refine mm_aload_n 3 dX12_land_211 rfl rfl ?_
          refine mm_getr (b := 201) dX12_land_212 rfl fk_X12_9 rfl so_200 sr_200_0 ?_
          refine mm_bipush (v := 110) dX12_land_215 rfl ?_
          refine mm_iload 1 dX12_land_217 rfl ?_
          refine mm_iaddN (110) (i) dX12_land_219 ?_
          refine mm_dup2 dX12_land_220 rfl rfl ?_
          refine mm_at (pc' := 221) rfl ?_
          refine mm_ialdN (110 + i) dX12_land_221 sa_201 (by omega) (by omega) ?_
          refine mm_top (v := J 201 (110 + i)) (op_lc_ne i (fun _ => ⟨by omega, fun k _ => by omega⟩)) ?_
          refine mm_iload 0 dX12_land_222 rfl ?_
          refine mm_isub dX12_land_224 ?_
          refine mm_iastN (110 + i) dX12_land_225 sa_201 (by omega) (by omega) ?_
          refine mm_aload_n 3 dX12_land_226 rfl rfl ?_
          refine mm_getr (b := 201) dX12_land_227 rfl fk_X12_9 rfl so_200 sr_200_0 ?_
          refine mm_bipush (v := 13) dX12_land_230 rfl ?_
          refine mm_dup2 dX12_land_232 rfl rfl ?_
          refine mm_at (pc' := 233) rfl ?_
          refine mm_ialdN (13) dX12_land_233 sa_201 (by omega) (by omega) ?_
          refine mm_top (v := (op_lc J w (nI c) i) 201 13) (by rw [mm_up_ni (by omega)]) ?_
          refine mm_iload 0 dX12_land_234 rfl ?_
          refine mm_iadd dX12_land_236 ?_
          refine mm_iastN (13) dX12_land_237 sa_201 (by omega) (by omega) ?_
          refine mm_iincN (ls' := [(4, .int (nI (i + 1))), (5, .int ((J 201 (110 + i)) / (2))), (3, .int (r)), (0, .ref 200), (1, .int (nI (c))), (2, .int (p))]) 1 (i) 1 dX12_land_238 rfl rfl (by decide) rfl ?_
          refine mm_goto (tgt := 164) dX12_land_241 (by decide) ?_
          have hh := ih (i + 1) (by omega) (by omega)
          first | (rw [op_lc, if_pos ⟨c183, c194⟩] at hh; exact mm_sub [0, 2, 3, 4, 5] rfl hh) | (rw [op_lc, if_neg (fun q => c183 q.1)] at hh; exact mm_sub [0, 2, 3, 4, 5] rfl hh) | (rw [op_lc, if_neg (fun q => q.2 c194)] at hh; exact mm_sub [0, 2, 3, 4, 5] rfl hh)
set_option maxRecDepth 100000 in
set_option maxHeartbeats 600000 in
theorem cm_land {g : mm_G} {I : mm_I} {d : Nat} {w h : Nat} (hW : mo_W (I 201) w h) {n : Nat} (hm : I 201 16 = nI n) (hm5 : n ≤ 5) {c p : Int32} (hd : 2 ≤ d) : mm_Ci g zX12_land d [.ref 200, .int c, .int p] sh_S I (op_land w h n I c p).1 (op_land w h n I c p).2 := by
  have hc := mo_W_c hW
  obtain ⟨-, -, hw1, hw2, hh1, hh2⟩ := id hW
  refine mm_Ci_of (fun Q hq => ?_)
  refine mm_begin (ls := [(0, .ref 200), (1, .int (c)), (2, .int (p))]) (Nat.le_of_ble_eq_true rfl) rfl rfl ?_
  refine mm_aload_n 0 dX12_land_0 rfl rfl ?_
  refine mm_iload_n 1 dX12_land_1 rfl rfl ?_
  refine mm_cV1i (dz := d - 1) dX12_land_2 rfl mzX12_isCell ml_X12_91 imX12_isCell (by omega) so_200 ⟨rfl, rfl⟩ (cm_isCell hW (by omega)) (Nat.le_of_ble_eq_true rfl) ⟨Nat.le_refl _, Nat.le_refl _⟩ ?_
  refine mm_if_eqB (tgt := 18) dX12_land_5 (by decide) (fun c5 => ?_) (fun c5 => ?_)
  · refine mm_ldc dX12_land_18 rfl kc_X12_86 ?_
    refine mm_iret dX12_land_20 rfl ⟨Nat.le_refl _, Nat.le_refl _⟩ ?_
    exact mm_l2 (by unfold op_land; rw [if_pos (by first | exact Or.inl c5 | exact Or.inr (c15))]) hq
  · refine mm_iload_n 2 dX12_land_8 rfl rfl ?_
    refine mm_iconst (v := 0) dX12_land_9 rfl ?_
    refine mm_bipush (v := 99) dX12_land_10 rfl ?_
    refine mm_cS3i (dz := d - 1) dX12_land_12 rfl mzX12_within ml_X12_82 imX12_within (by omega) cm_within (Nat.le_of_ble_eq_true rfl) ⟨Nat.le_refl _, Nat.le_refl _⟩ ?_
    refine mm_if_neB (tgt := 21) dX12_land_15 (by decide) (fun c15 => ?_) (fun c15 => ?_)
    · obtain ⟨k, hkk, rfl⟩ := sp_isC_nat (by omega) c5
      refine mm_aload_n 0 dX12_land_21 rfl rfl ?_
      refine mm_getr (b := 201) dX12_land_22 rfl fk_X12_9 rfl so_200 sr_200_0 ?_
      refine mm_bipush (v := 30) dX12_land_25 rfl ?_
      refine mm_iload_n 1 dX12_land_27 rfl rfl ?_
      refine mm_iaddN (30) (k) dX12_land_28 ?_
      refine mm_ialdN (30 + k) dX12_land_29 sa_201 (by omega) (by omega) ?_
      refine mm_iconst (v := 1) dX12_land_30 rfl ?_
      refine mm_icmp_eq (tgt := 55) dX12_land_31 (by decide) (fun c31 => ?_) (fun c31 => ?_)
      · refine mm_ldc dX12_land_55 rfl kc_X12_99 ?_
        refine mm_iret dX12_land_57 rfl ⟨Nat.le_refl _, Nat.le_refl _⟩ ?_
        exact mm_l2 (by unfold op_land; rw [if_neg (by intro q; rcases q with q | q; exact q c5; exact q c15), vv_nI (by omega), if_pos (by first | exact Or.inl c31 | exact Or.inr (Or.inl c44) | exact Or.inr (Or.inr (c52)))]) hq
      · refine mm_aload_n 0 dX12_land_34 rfl rfl ?_
        refine mm_getr (b := 201) dX12_land_35 rfl fk_X12_9 rfl so_200 sr_200_0 ?_
        refine mm_bipush (v := 30) dX12_land_38 rfl ?_
        refine mm_iload_n 1 dX12_land_40 rfl rfl ?_
        refine mm_iaddN (30) (k) dX12_land_41 ?_
        refine mm_ialdN (30 + k) dX12_land_42 sa_201 (by omega) (by omega) ?_
        refine mm_iconst (v := 4) dX12_land_43 rfl ?_
        refine mm_at (pc' := 44) rfl ?_
        refine mm_icmp_eq (tgt := 55) dX12_land_44 (by decide) (fun c44 => ?_) (fun c44 => ?_)
        · refine mm_ldc dX12_land_55 rfl kc_X12_99 ?_
          refine mm_iret dX12_land_57 rfl ⟨Nat.le_refl _, Nat.le_refl _⟩ ?_
          exact mm_l2 (by unfold op_land; rw [if_neg (by intro q; rcases q with q | q; exact q c5; exact q c15), vv_nI (by omega), if_pos (by first | exact Or.inl c31 | exact Or.inr (Or.inl c44) | exact Or.inr (Or.inr (c52)))]) hq
        · refine mm_aload_n 0 dX12_land_47 rfl rfl ?_
          refine mm_iload_n 1 dX12_land_48 rfl rfl ?_
          refine mm_cV1i (dz := d - 1) dX12_land_49 rfl mzX12_machineOn ml_X12_95 imX12_machineOn (by omega) so_200 ⟨rfl, rfl⟩ (cm_machineOn hm hm5 (by omega)) (Nat.le_of_ble_eq_true rfl) ⟨Nat.le_refl _, Nat.le_refl _⟩ ?_
          refine mm_if_lt (tgt := 58) dX12_land_52 (by decide) (fun c52 => ?_) (fun c52 => ?_)
          · refine mm_iconst (v := 0) dX12_land_58 rfl ?_
            refine mm_istore_n (ls' := [(3, .int (0)), (0, .ref 200), (1, .int (nI (k))), (2, .int (p))]) dX12_land_59 rfl (by decide) rfl ?_
            refine mm_iconst (v := 0) dX12_land_60 rfl ?_
            refine mm_istore (ls' := [(4, .int (0)), (3, .int (0)), (0, .ref 200), (1, .int (nI (k))), (2, .int (p))]) dX12_land_61 (by decide) rfl ?_
            rw [op_land, if_neg (by intro q; rcases q with q | q; exact q c5; exact q c15), vv_nI (by omega), if_neg (by intro q; rcases q with q | q | q; exact absurd q c31; exact absurd q c44; exact q c52)] at hq
            refine mm_sub [0, 1, 2, 3, 4] rfl (lm_land1 hW hm hm5 hd ?_ (n + 1) 0 (Nat.zero_le _) (by omega))
            refine mm_iconst (v := 0) dX12_land_161 rfl ?_
            refine mm_istore (ls' := [(4, .int 0), (3, .int (sp_ls (I 201) w (nI k) n)), (0, .ref 200), (1, .int (nI k)), (2, .int p)]) dX12_land_162 (by decide) rfl ?_
            exact lm_land2 (op_lw_W hW) hd hq (w * h + 1) 0 (Nat.zero_le _) (by omega)
          · refine mm_ldc dX12_land_55 rfl kc_X12_99 ?_
            refine mm_iret dX12_land_57 rfl ⟨Nat.le_refl _, Nat.le_refl _⟩ ?_
            exact mm_l2 (by unfold op_land; rw [if_neg (by intro q; rcases q with q | q; exact q c5; exact q c15), vv_nI (by omega), if_pos (by first | exact Or.inl c31 | exact Or.inr (Or.inl c44) | exact Or.inr (Or.inr (c52)))]) hq
    · refine mm_ldc dX12_land_18 rfl kc_X12_86 ?_
      refine mm_iret dX12_land_20 rfl ⟨Nat.le_refl _, Nat.le_refl _⟩ ?_
      exact mm_l2 (by unfold op_land; rw [if_pos (by first | exact Or.inl c5 | exact Or.inr (c15))]) hq
set_option maxRecDepth 100000 in
set_option maxHeartbeats 600000 in
theorem lm_copy1 {g : mm_G} {I : mm_I} {d : Nat} {Q : Option Value → mm_Sh → mm_I → Prop} {k j pb ab mb : Nat} (hk : k ≤ 1) (hp : pb + mb ≤ 80) (hx : mm_Ex g zX12_copy d (0, 0) (0, 0) sh_S (mm_cp I 206 213 (80 * k + pb) 0 mb) 132 [(6, .int (nI mb)), (0, .ref 200), (1, .int (nI k)), (2, .int (nI pb)), (3, .int (nI j)), (4, .int (nI ab)), (5, .int (nI mb))] [] Q) : ∀ (m : Nat) (i : Nat), (i ≤ mb) → mb - i < m → mm_Ex g zX12_copy d (0, 0) (0, 0) sh_S (mm_cp I 206 213 (80 * k + pb) 0 i) 98 [(6, .int (nI (i))), (0, .ref 200), (1, .int (nI (k))), (2, .int (nI (pb))), (3, .int (nI (j))), (4, .int (nI (ab))), (5, .int (nI (mb)))] [] Q := by
  intro m
  induction m with
  | zero => intro i hi hmz; exact absurd hmz (Nat.not_lt_zero _)
  | succ m ih =>
    intro i hi hmz
    refine mm_iload 0 dX12_copy_98 rfl ?_
    refine mm_iload 6 dX12_copy_100 rfl ?_
    refine mm_icmp_geN (i) (mb) (tgt := 132) dX12_copy_102 (by decide) (by omega) (by omega) (fun c102 => ?_) (fun c102 => ?_)
    · have e : i = mb := by omega
      subst e
      exact hx
    · refine mm_aload_n 1 dX12_copy_105 rfl rfl ?_
      refine mm_getr (b := 213) dX12_copy_106 rfl fk_X12_71 rfl so_200 sr_200_30 ?_
      refine mm_iload 0 dX12_copy_109 rfl ?_
      refine mm_aload_n 1 dX12_copy_111 rfl rfl ?_
      refine mm_getr (b := 206) dX12_copy_112 rfl fk_X12_25 rfl so_200 sr_200_8 ?_
      refine mm_bipush (v := 80) dX12_copy_115 rfl ?_
      refine mm_iload_n 2 dX12_copy_117 rfl rfl ?_
      refine mm_at (pc' := 118) rfl ?_
      refine mm_imulN (80) (k) dX12_copy_118 ?_
      refine mm_iload_n 3 dX12_copy_119 rfl rfl ?_
      refine mm_iaddN (80 * k) (pb) dX12_copy_120 ?_
      refine mm_iload 0 dX12_copy_121 rfl ?_
      refine mm_iaddN ((80 * k) + pb) (i) dX12_copy_123 ?_
      refine mm_ialdN (((80 * k) + pb) + i) dX12_copy_124 sa_206 (by omega) (by omega) ?_
      refine mm_top (v := I 206 (80 * k + pb + i)) (mm_cp_ne (by decide)) ?_
      refine mm_iastN (i) dX12_copy_125 sa_213 (by omega) (by omega) ?_
      refine mm_iincN (ls' := [(6, .int (nI (i + 1))), (0, .ref 200), (1, .int (nI (k))), (2, .int (nI (pb))), (3, .int (nI (j))), (4, .int (nI (ab))), (5, .int (nI (mb)))]) 0 (i) 1 dX12_copy_126 rfl rfl (by decide) rfl ?_
      refine mm_at (pc' := 129) rfl ?_
      refine mm_goto (tgt := 98) dX12_copy_129 (by decide) ?_
      rw [mm_cp_s (show i = 0 + i by omega) (show I 206 (80 * k + pb + i) = I 206 (80 * k + pb + i) from rfl)]
      exact ih (i + 1) (by omega) (by omega)
set_option maxRecDepth 100000 in
set_option maxHeartbeats 600000 in
theorem lm_copy2 {g : mm_G} {J : mm_I} {d : Nat} {Q : Option Value → mm_Sh → mm_I → Prop} {k j pb ab mb : Nat} (hk : j ≤ 1) (hp : ab + mb ≤ 80) (hq : Q (some (.int (nI mb))) sh_S (mm_cp J 213 206 0 (80 * j + ab) mb)) : ∀ (m : Nat) (i : Nat), (i ≤ mb) → mb - i < m → mm_Ex g zX12_copy d (0, 0) (0, 0) sh_S (mm_cp J 213 206 0 (80 * j + ab) i) 135 [(6, .int (nI (i))), (0, .ref 200), (1, .int (nI (k))), (2, .int (nI (pb))), (3, .int (nI (j))), (4, .int (nI (ab))), (5, .int (nI (mb)))] [] Q := by
  intro m
  induction m with
  | zero => intro i hi hmz; exact absurd hmz (Nat.not_lt_zero _)
  | succ m ih =>
    intro i hi hmz
    refine mm_iload 0 dX12_copy_135 rfl ?_
    refine mm_iload 6 dX12_copy_137 rfl ?_
    refine mm_icmp_geN (i) (mb) (tgt := 170) dX12_copy_139 (by decide) (by omega) (by omega) (fun c139 => ?_) (fun c139 => ?_)
    · refine mm_iload 6 dX12_copy_170 rfl ?_
      refine mm_iret dX12_copy_172 rfl ⟨Nat.le_refl _, Nat.le_refl _⟩ ?_
      exact (show mb = i by omega) ▸ hq
    · refine mm_aload_n 1 dX12_copy_142 rfl rfl ?_
      refine mm_getr (b := 206) dX12_copy_143 rfl fk_X12_25 rfl so_200 sr_200_8 ?_
      refine mm_bipush (v := 80) dX12_copy_146 rfl ?_
      refine mm_iload_n 4 dX12_copy_148 rfl rfl ?_
      refine mm_imulN (80) (j) dX12_copy_149 ?_
      refine mm_iload 5 dX12_copy_150 rfl ?_
      refine mm_iaddN (80 * j) (ab) dX12_copy_152 ?_
      refine mm_at (pc' := 153) rfl ?_
      refine mm_iload 0 dX12_copy_153 rfl ?_
      refine mm_iaddN ((80 * j) + ab) (i) dX12_copy_155 ?_
      refine mm_aload_n 1 dX12_copy_156 rfl rfl ?_
      refine mm_getr (b := 213) dX12_copy_157 rfl fk_X12_71 rfl so_200 sr_200_30 ?_
      refine mm_iload 0 dX12_copy_160 rfl ?_
      refine mm_ialdN (i) dX12_copy_162 sa_213 (by omega) (by omega) ?_
      refine mm_top (v := J 213 i) (mm_cp_ne (by decide)) ?_
      refine mm_iastN (((80 * j) + ab) + i) dX12_copy_163 sa_206 (by omega) (by omega) ?_
      refine mm_iincN (ls' := [(6, .int (nI (i + 1))), (0, .ref 200), (1, .int (nI (k))), (2, .int (nI (pb))), (3, .int (nI (j))), (4, .int (nI (ab))), (5, .int (nI (mb)))]) 0 (i) 1 dX12_copy_164 rfl rfl (by decide) rfl ?_
      refine mm_at (pc' := 167) rfl ?_
      refine mm_goto (tgt := 135) dX12_copy_167 (by decide) ?_
      rw [mm_cp_s (show 80 * j + ab + i = (80 * j + ab) + i from rfl) (show J 213 i = J 213 (0 + i) by rw [Nat.zero_add])]
      exact ih (i + 1) (by omega) (by omega)
set_option maxRecDepth 100000 in
set_option maxHeartbeats 600000 in
theorem cm_copy {g : mm_G} {I : mm_I} {d : Nat} (hp : sp_pl I) {f p t a m : Int32} (hd : 1 ≤ d) : mm_Ci g zX12_copy d [.ref 200, .int f, .int p, .int t, .int a, .int m] sh_S I (op_copy I f p t a m).1 (op_copy I f p t a m).2 := by
  refine mm_Ci_of (fun Q hq => ?_)
  refine mm_begin (ls := [(0, .ref 200), (1, .int (f)), (2, .int (p)), (3, .int (t)), (4, .int (a)), (5, .int (m))]) (Nat.le_of_ble_eq_true rfl) rfl rfl ?_
  refine mm_iload_n 1 dX12_copy_0 rfl rfl ?_
  refine mm_iconst (v := 0) dX12_copy_1 rfl ?_
  refine mm_iconst (v := 1) dX12_copy_2 rfl ?_
  refine mm_cS3i (dz := d - 1) dX12_copy_3 rfl mzX12_within ml_X12_82 imX12_within (by omega) cm_within (Nat.le_of_ble_eq_true rfl) ⟨Nat.le_refl _, Nat.le_refl _⟩ ?_
  refine mm_if_eqB (tgt := 18) dX12_copy_6 (by decide) (fun c6 => ?_) (fun c6 => ?_)
  · refine mm_ldc dX12_copy_18 rfl kc_X12_86 ?_
    refine mm_iret dX12_copy_20 rfl ⟨Nat.le_refl _, Nat.le_refl _⟩ ?_
    exact mm_l2 (by unfold op_copy; rw [if_pos (by first | exact Or.inl c6 | exact Or.inr (c15))]) hq
  · refine mm_iload_n 3 dX12_copy_9 rfl rfl ?_
    refine mm_iconst (v := 0) dX12_copy_10 rfl ?_
    refine mm_iconst (v := 1) dX12_copy_11 rfl ?_
    refine mm_cS3i (dz := d - 1) dX12_copy_12 rfl mzX12_within ml_X12_82 imX12_within (by omega) cm_within (Nat.le_of_ble_eq_true rfl) ⟨Nat.le_refl _, Nat.le_refl _⟩ ?_
    refine mm_if_neB (tgt := 21) dX12_copy_15 (by decide) (fun c15 => ?_) (fun c15 => ?_)
    · obtain ⟨k, hkk, rfl⟩ := sp_wi_n 0 1 (by decide) (by decide) c6
      obtain ⟨j, hkj, rfl⟩ := sp_wi_n 0 1 (by decide) (by decide) c15
      refine mm_aload_n 0 dX12_copy_21 rfl rfl ?_
      refine mm_getr (b := 205) dX12_copy_22 rfl fk_X12_22 rfl so_200 sr_200_7 ?_
      refine mm_iload_n 1 dX12_copy_25 rfl rfl ?_
      refine mm_ialdN (k) dX12_copy_26 sa_205 (by omega) (by omega) ?_
      refine mm_if_lt (tgt := 39) dX12_copy_27 (by decide) (fun c27 => ?_) (fun c27 => ?_)
      · refine mm_ldc dX12_copy_39 rfl kc_X12_105 ?_
        refine mm_iret dX12_copy_41 rfl ⟨Nat.le_refl _, Nat.le_refl _⟩ ?_
        exact mm_l2 (by unfold op_copy; rw [if_neg (by intro q; rcases q with q | q; exact q c6; exact q c15), vv_nI (by omega), vv_nI (by omega), if_pos (by first | exact Or.inl c27 | exact Or.inr ((Int32.not_le.mp c36)))]) hq
      · refine mm_aload_n 0 dX12_copy_30 rfl rfl ?_
        refine mm_getr (b := 205) dX12_copy_31 rfl fk_X12_22 rfl so_200 sr_200_7 ?_
        refine mm_iload_n 3 dX12_copy_34 rfl rfl ?_
        refine mm_ialdN (j) dX12_copy_35 sa_205 (by omega) (by omega) ?_
        refine mm_if_ge (tgt := 42) dX12_copy_36 (by decide) (fun c36 => ?_) (fun c36 => ?_)
        · obtain ⟨y, hy, hpy⟩ : ∃ z, z ≤ 80 ∧ I 205 k = nI z := (hp k (by omega)).resolve_left (fun q => c27 (by rw [q]; decide))
          obtain ⟨z, hz, hpz⟩ : ∃ z, z ≤ 80 ∧ I 205 j = nI z := (hp j (by omega)).resolve_left (fun q => absurd c36 (by rw [q]; decide))
          refine mm_iload 5 dX12_copy_42 rfl ?_
          refine mm_if_lt (tgt := 91) dX12_copy_44 (by decide) (fun c44 => ?_) (fun c44 => ?_)
          · refine mm_ldcw dX12_copy_91 rfl kc_X12_389 ?_
            refine mm_iret dX12_copy_94 rfl ⟨Nat.le_refl _, Nat.le_refl _⟩ ?_
            exact mm_l2 (by unfold op_copy; rw [if_neg (by intro q; rcases q with q | q; exact q c6; exact q c15), vv_nI (by omega), vv_nI (by omega), if_neg (by intro q; rcases q with q | q; exact absurd q c27; exact absurd q (Int32.not_lt.mpr c36)), if_pos]; first | exact Or.inl c44 | exact Or.inr (Or.inl c48) | exact Or.inr (Or.inr (Or.inl c53)) | (rw [hpy, hpz, vv_nI (show y < 2 ^ 31 by omega), vv_nI (show z < 2 ^ 31 by omega), vv_nI hmb, vv_nI hpb, vv_nI hab]; first | exact Or.inr (Or.inr (Or.inr (Or.inl ((lg_3 hpb hmb (by omega)).mp c70)))) | exact Or.inr (Or.inr (Or.inr (Or.inr ((lg_3 hab hmb (by omega)).mp (Int32.not_le.mp c88)))))) ) hq
          · refine mm_iload_n 2 dX12_copy_47 rfl rfl ?_
            refine mm_if_lt (tgt := 91) dX12_copy_48 (by decide) (fun c48 => ?_) (fun c48 => ?_)
            · refine mm_ldcw dX12_copy_91 rfl kc_X12_389 ?_
              refine mm_iret dX12_copy_94 rfl ⟨Nat.le_refl _, Nat.le_refl _⟩ ?_
              exact mm_l2 (by unfold op_copy; rw [if_neg (by intro q; rcases q with q | q; exact q c6; exact q c15), vv_nI (by omega), vv_nI (by omega), if_neg (by intro q; rcases q with q | q; exact absurd q c27; exact absurd q (Int32.not_lt.mpr c36)), if_pos]; first | exact Or.inl c44 | exact Or.inr (Or.inl c48) | exact Or.inr (Or.inr (Or.inl c53)) | (rw [hpy, hpz, vv_nI (show y < 2 ^ 31 by omega), vv_nI (show z < 2 ^ 31 by omega), vv_nI hmb, vv_nI hpb, vv_nI hab]; first | exact Or.inr (Or.inr (Or.inr (Or.inl ((lg_3 hpb hmb (by omega)).mp c70)))) | exact Or.inr (Or.inr (Or.inr (Or.inr ((lg_3 hab hmb (by omega)).mp (Int32.not_le.mp c88)))))) ) hq
            · refine mm_iload 4 dX12_copy_51 rfl ?_
              refine mm_if_lt (tgt := 91) dX12_copy_53 (by decide) (fun c53 => ?_) (fun c53 => ?_)
              · refine mm_ldcw dX12_copy_91 rfl kc_X12_389 ?_
                refine mm_iret dX12_copy_94 rfl ⟨Nat.le_refl _, Nat.le_refl _⟩ ?_
                exact mm_l2 (by unfold op_copy; rw [if_neg (by intro q; rcases q with q | q; exact q c6; exact q c15), vv_nI (by omega), vv_nI (by omega), if_neg (by intro q; rcases q with q | q; exact absurd q c27; exact absurd q (Int32.not_lt.mpr c36)), if_pos]; first | exact Or.inl c44 | exact Or.inr (Or.inl c48) | exact Or.inr (Or.inr (Or.inl c53)) | (rw [hpy, hpz, vv_nI (show y < 2 ^ 31 by omega), vv_nI (show z < 2 ^ 31 by omega), vv_nI hmb, vv_nI hpb, vv_nI hab]; first | exact Or.inr (Or.inr (Or.inr (Or.inl ((lg_3 hpb hmb (by omega)).mp c70)))) | exact Or.inr (Or.inr (Or.inr (Or.inr ((lg_3 hab hmb (by omega)).mp (Int32.not_le.mp c88)))))) ) hq
              · obtain ⟨mb, hmb, rfl⟩ := nI_of c44
                obtain ⟨pb, hpb, rfl⟩ := nI_of c48
                obtain ⟨ab, hab, rfl⟩ := nI_of c53
                refine mm_iload_n 2 dX12_copy_56 rfl rfl ?_
                refine mm_i2l dX12_copy_57 ?_
                refine mm_iload 5 dX12_copy_58 rfl ?_
                refine mm_i2l dX12_copy_60 ?_
                refine mm_ladd dX12_copy_61 ?_
                refine mm_aload_n 0 dX12_copy_62 rfl rfl ?_
                refine mm_getr (b := 205) dX12_copy_63 rfl fk_X12_22 rfl so_200 sr_200_7 ?_
                refine mm_at (pc' := 66) rfl ?_
                refine mm_iload_n 1 dX12_copy_66 rfl rfl ?_
                refine mm_ialdN (k) dX12_copy_67 sa_205 (by omega) (by omega) ?_
                refine mm_top (v := nI (y)) hpy ?_
                refine mm_i2l dX12_copy_68 ?_
                refine mm_lcmp dX12_copy_69 ?_
                refine mm_if_gt (tgt := 91) dX12_copy_70 (by decide) (fun c70 => ?_) (fun c70 => ?_)
                · refine mm_ldcw dX12_copy_91 rfl kc_X12_389 ?_
                  refine mm_iret dX12_copy_94 rfl ⟨Nat.le_refl _, Nat.le_refl _⟩ ?_
                  exact mm_l2 (by unfold op_copy; rw [if_neg (by intro q; rcases q with q | q; exact q c6; exact q c15), vv_nI (by omega), vv_nI (by omega), if_neg (by intro q; rcases q with q | q; exact absurd q c27; exact absurd q (Int32.not_lt.mpr c36)), if_pos]; first | exact Or.inl c44 | exact Or.inr (Or.inl c48) | exact Or.inr (Or.inr (Or.inl c53)) | (rw [hpy, hpz, vv_nI (show y < 2 ^ 31 by omega), vv_nI (show z < 2 ^ 31 by omega), vv_nI hmb, vv_nI hpb, vv_nI hab]; first | exact Or.inr (Or.inr (Or.inr (Or.inl ((lg_3 hpb hmb (by omega)).mp c70)))) | exact Or.inr (Or.inr (Or.inr (Or.inr ((lg_3 hab hmb (by omega)).mp (Int32.not_le.mp c88)))))) ) hq
                · refine mm_iload 4 dX12_copy_73 rfl ?_
                  refine mm_i2l dX12_copy_75 ?_
                  refine mm_iload 5 dX12_copy_76 rfl ?_
                  refine mm_i2l dX12_copy_78 ?_
                  refine mm_ladd dX12_copy_79 ?_
                  refine mm_aload_n 0 dX12_copy_80 rfl rfl ?_
                  refine mm_getr (b := 205) dX12_copy_81 rfl fk_X12_22 rfl so_200 sr_200_7 ?_
                  refine mm_at (pc' := 84) rfl ?_
                  refine mm_iload_n 3 dX12_copy_84 rfl rfl ?_
                  refine mm_ialdN (j) dX12_copy_85 sa_205 (by omega) (by omega) ?_
                  refine mm_top (v := nI (z)) hpz ?_
                  refine mm_i2l dX12_copy_86 ?_
                  refine mm_lcmp dX12_copy_87 ?_
                  refine mm_if_le (tgt := 95) dX12_copy_88 (by decide) (fun c88 => ?_) (fun c88 => ?_)
                  · refine mm_iconst (v := 0) dX12_copy_95 rfl ?_
                    refine mm_istore (ls' := [(6, .int (0)), (0, .ref 200), (1, .int (nI (k))), (2, .int (nI (pb))), (3, .int (nI (j))), (4, .int (nI (ab))), (5, .int (nI (mb)))]) dX12_copy_96 (by decide) rfl ?_
                    have e1 : pb + mb ≤ y := by
                      have q : ¬ y < pb + mb := fun q => c70 ((lg_3 hpb hmb (by omega)).mpr q)
                      omega
                    have e2 : ab + mb ≤ z := by
                      have q : ¬ z < ab + mb := fun q => (Int32.not_lt.mpr c88) ((lg_3 hab hmb (by omega)).mpr q)
                      omega
                    rw [op_copy, if_neg (by intro q; rcases q with q | q; exact q c6; exact q c15), vv_nI (show k < 2 ^ 31 by omega), vv_nI (show j < 2 ^ 31 by omega), if_neg (by intro q; rcases q with q | q; exact absurd q c27; exact absurd q (Int32.not_lt.mpr c36)), hpy, hpz, vv_nI (show y < 2 ^ 31 by omega), vv_nI (show z < 2 ^ 31 by omega), vv_nI hmb, vv_nI hpb, vv_nI hab, if_neg (by intro q; rcases q with q | q | q | q | q; exact absurd q c44; exact absurd q c48; exact absurd q c53; exact absurd q (by omega); exact absurd q (by omega))] at hq
                    refine mm_cp_0 (I := I) (a0 := 206) (a := 213) (sp := 80 * k + pb) (dp := 0) ▸ mm_sub [0, 1, 2, 3, 4, 5, 6] rfl (lm_copy1 (j := j) (ab := ab) (by omega) (by omega) ?_ (mb + 1) 0 (Nat.zero_le _) (by omega))
                    refine mm_iconst (v := 0) dX12_copy_132 rfl ?_
                    refine mm_istore (ls' := [(6, .int 0), (0, .ref 200), (1, .int (nI k)), (2, .int (nI pb)), (3, .int (nI j)), (4, .int (nI ab)), (5, .int (nI mb))]) dX12_copy_133 (by decide) rfl ?_
                    have hh := lm_copy2 (g := g) (d := d) (k := k) (pb := pb) (J := mm_cp I 206 213 (80 * k + pb) 0 mb) (Q := Q) (by omega) (by omega) hq (mb + 1) 0 (Nat.zero_le _) (by omega)
                    rw [mm_cp_0] at hh
                    exact hh
                  · refine mm_ldcw dX12_copy_91 rfl kc_X12_389 ?_
                    refine mm_iret dX12_copy_94 rfl ⟨Nat.le_refl _, Nat.le_refl _⟩ ?_
                    exact mm_l2 (by unfold op_copy; rw [if_neg (by intro q; rcases q with q | q; exact q c6; exact q c15), vv_nI (by omega), vv_nI (by omega), if_neg (by intro q; rcases q with q | q; exact absurd q c27; exact absurd q (Int32.not_lt.mpr c36)), if_pos]; first | exact Or.inl c44 | exact Or.inr (Or.inl c48) | exact Or.inr (Or.inr (Or.inl c53)) | (rw [hpy, hpz, vv_nI (show y < 2 ^ 31 by omega), vv_nI (show z < 2 ^ 31 by omega), vv_nI hmb, vv_nI hpb, vv_nI hab]; first | exact Or.inr (Or.inr (Or.inr (Or.inl ((lg_3 hpb hmb (by omega)).mp c70)))) | exact Or.inr (Or.inr (Or.inr (Or.inr ((lg_3 hab hmb (by omega)).mp (Int32.not_le.mp c88)))))) ) hq
        · refine mm_ldc dX12_copy_39 rfl kc_X12_105 ?_
          refine mm_iret dX12_copy_41 rfl ⟨Nat.le_refl _, Nat.le_refl _⟩ ?_
          exact mm_l2 (by unfold op_copy; rw [if_neg (by intro q; rcases q with q | q; exact q c6; exact q c15), vv_nI (by omega), vv_nI (by omega), if_pos (by first | exact Or.inl c27 | exact Or.inr ((Int32.not_le.mp c36)))]) hq
    · refine mm_ldc dX12_copy_18 rfl kc_X12_86 ?_
      refine mm_iret dX12_copy_20 rfl ⟨Nat.le_refl _, Nat.le_refl _⟩ ?_
      exact mm_l2 (by unfold op_copy; rw [if_pos (by first | exact Or.inl c6 | exact Or.inr (c15))]) hq
