/-! THE REFERENCE: tape, orders, images, sheets, counts -/
def op_trim (t : Nat) (J : mm_I) (n : Int32) : Int32 × mm_I := if ¬ sp_wi n 0 (nI t) then ((-1000000001), J) else (n, mm_up J 200 4 n)
def op_tell (t : Nat) (J : mm_I) (v : Int32) : Int32 × mm_I := if t = 100 then ((-1000000003), J) else (nI (t + 1), mm_up (mm_up J 204 t v) 200 5 (nI (t + 1)))
def op_clear (J : mm_I) : Int32 × mm_I := (J 201 19, mm_up J 201 19 0)
def op_work (k : Nat) (J : mm_I) (a b c e : Int32) : Int32 × mm_I := if ¬ sp_wi a 1 9 ∨ ¬ sp_wi b 0 50 ∨ ¬ sp_wi c 0 20 ∨ ¬ sp_wi e 0 (((1) <<< ((nI (k)) &&& 31)) - 1) then ((-1000000001), J) else if k = 6 then ((-1000000003), J) else (nI k, mm_up (mm_up (mm_up (mm_up (mm_up J 201 (606 + k) a) 201 (612 + k) b) 201 (618 + k) c) 201 (624 + k) e) 201 19 (nI (k + 1)))
def op_send (n o : Nat) (J : mm_I) (m p : Int32) : Int32 × mm_I := if ¬ sp_isM n m ∨ ¬ sp_wi p 0 5 then ((-1000000001), J) else if J 201 (1226 + 418 * vv p) = 0 then ((-1000000002), J) else if o = 12 then ((-1000000003), J) else
  (J 201 7 + J 201 6, mm_up (mm_up (mm_up (mm_up J 201 (830 + 3 * o + 0) m) 201 (830 + 3 * o + 1) p) 201 (830 + 3 * o + 2) (J 201 7 + J 201 6)) 201 17 (nI (o + 1)))
def op_order (o : Nat) (J : mm_I) (i k : Int32) : Int32 := if i < 0 ∨ ¬ sp_wi k 0 2 then (-1000000001) else if nI o ≤ i then (-1000000005) else J 201 (830 + 3 * vv i + vv k)
def sp_by (a b c : Int32) (k : Nat) : Int32 := ((if (4) ≤ (k) then (if (8) ≤ (k) then c else b) else a) >>> ((nI (24 - (8 * ((k) % (4))))) &&& 31)) &&& 255
def op_fds (J : mm_I) (t : Nat) (a b c : Int32) : Nat → mm_I
  | 0 => J
  | k + 1 => mm_up (mm_up (op_fds J t a b c k) 203 (t + k) (sp_by a b c k)) 200 4 (nI (t + k + 1))
def op_feed (t : Nat) (J : mm_I) (a b c : Int32) : Int32 × mm_I := if 96 < t + 12 then ((-1000000003), J) else (nI (t + 12), op_fds J t a b c 12)
theorem mm_cp_0 {I : mm_I} {a0 a sp dp : Nat} : mm_cp I a0 a sp dp 0 = I := by
  funext b j; unfold mm_cp; by_cases h : b = a
  · subst h; rw [if_pos rfl, if_neg (by omega)]
  · rw [if_neg h]
theorem mm_cp_s {I : mm_I} {a0 a sp dp k i : Nat} {x : Int32} (hi : i = dp + k) (hx : x = I a0 (sp + k)) : mm_up (mm_cp I a0 a sp dp k) a i x = mm_cp I a0 a sp dp (k + 1) := by
  subst hi hx
  funext b j
  unfold mm_up mm_cp
  by_cases hb : b = a
  · subst hb
    by_cases hj : j = dp + k
    · subst hj; rw [if_pos rfl, if_pos rfl, if_pos rfl, if_pos (by omega)]; congr 1; omega
    · by_cases h2 : dp ≤ j ∧ j < dp + k
      · simp only [if_true, if_neg hj, if_pos h2, if_pos (show dp ≤ j ∧ j < dp + (k + 1) by omega)]
      · simp only [if_true, if_neg hj, if_neg h2, if_neg (show ¬ (dp ≤ j ∧ j < dp + (k + 1)) by omega)]
  · simp only [if_neg hb]
theorem mm_cp_ne {I : mm_I} {a0 a sp dp k b j : Nat} (h : b ≠ a) : mm_cp I a0 a sp dp k b j = I b j := by unfold mm_cp; rw [if_neg h]
theorem mm_cp_in {I : mm_I} {a0 a sp dp k j : Nat} (h : dp ≤ j ∧ j < dp + k) : mm_cp I a0 a sp dp k a j = I a0 (sp + (j - dp)) := by unfold mm_cp; rw [if_pos rfl, if_pos h]
theorem mm_cp_out {I : mm_I} {a0 a sp dp k j : Nat} (h : ¬ (dp ≤ j ∧ j < dp + k)) : mm_cp I a0 a sp dp k a j = I a j := by unfold mm_cp; rw [if_pos rfl, if_neg h]
def op_keep (J : mm_I) : Int32 × mm_I := (J 201 7, mm_up (mm_cp J 201 202 0 0 3734) 200 2 1)
def op_back (J : mm_I) : Int32 × mm_I := if J 200 2 = 0 then ((-1000000002), J) else (J 202 7, mm_cp J 202 201 0 0 3734)
/-- k places from o on are 0 -/
def op_zs (J : mm_I) (b o : Nat) : Nat → mm_I
  | 0 => J
  | k + 1 => mm_up (op_zs J b o k) b (o + k) 0
def op_sheet (J : mm_I) (s n : Int32) : Int32 × mm_I := if ¬ sp_wi s 0 1 ∨ ¬ n ≤ 80 then ((-1000000001), J) else if n < 0 then ((-1000000014), J) else (n, op_zs (mm_up J 205 (vv s) n) 206 (80 * vv s) 80)
def sp_pl (J : mm_I) : Prop := ∀ s, s < 2 → J 205 s = -1 ∨ ∃ q, q ≤ 80 ∧ J 205 s = nI q
def op_mark (J : mm_I) (s p v : Int32) : Int32 × mm_I := if ¬ sp_wi s 0 1 then ((-1000000001), J) else if J 205 (vv s) < 0 then ((-1000000011), J) else if ¬ sp_wi p 0 (J 205 (vv s) - 1) then ((-1000000013), J) else (J 206 (80 * vv s + vv p), mm_up J 206 (80 * vv s + vv p) v.toInt16.toInt32)
def op_copy (J : mm_I) (f p t a m : Int32) : Int32 × mm_I := if ¬ sp_wi f 0 1 ∨ ¬ sp_wi t 0 1 then ((-1000000001), J) else if J 205 (vv f) < 0 ∨ J 205 (vv t) < 0 then ((-1000000011), J) else if m < 0 ∨ p < 0 ∨ a < 0 ∨ vv (J 205 (vv f)) < vv p + vv m ∨ vv (J 205 (vv t)) < vv a + vv m then ((-1000000013), J) else
  (m, mm_cp (mm_cp J 206 213 (80 * vv f + vv p) 0 (vv m)) 213 206 0 (80 * vv t + vv a) (vv m))
def sp_pc (N : Nat → Int32) : Nat → Int32
  | 0 => 0
  | p + 1 => sp_pc N p + (if ¬ N (1226 + (418 * p)) = 0 then 1 else 0)
def op_count (w h : Nat) (J : mm_I) (k : Int32) : Int32 := if k = 0 then nI (w * h) else if k = 1 then J 201 16 else if k = 2 then J 201 15 else if k = 3 then sp_pc (J 201) 6 else if k = 4 then J 201 17 else if k = 5 then J 201 18 else if k = 6 then J 201 19 else if k = 7 then J 200 5 else if k = 8 then J 200 4 else (-1000000001)
def sp_kof (N : Nat → Int32) (c n : Nat) : Nat → Int32
  | 0 => rw_sum (fun i => N (110 + i)) c
  | 1 => rw_sum (fun i => if N (630 + 40 * i + 5) = 0 then N (630 + 40 * i + 4) else 0) n
  | 2 => N 10
  | 3 => N 14
  | _ => N 13
def op_kilos (w h n : Nat) (J : mm_I) (k : Int32) : Int32 := if ¬ sp_wi k 0 5 then (-1000000001) else rw_sum (fun i => if k = 5 ∨ k = nI i then sp_kof (J 201) (w * h) n i else 0) 5
set_option maxRecDepth 100000 in
set_option maxHeartbeats 4000000 in
theorem cm_trim {g : mm_G} {I : mm_I} {d : Nat} {t : Nat} (ht : I 200 4 = nI t) {n : Int32} (hd : 1 ≤ d) : mm_Ci g zX12_trim d [.ref 200, .int n] sh_S I (op_trim t I n).1 (op_trim t I n).2 := by
  refine mm_Ci_of (fun Q hq => ?_)
  refine mm_begin (ls := [(0, .ref 200), (1, .int (n))]) (Nat.le_of_ble_eq_true rfl) rfl rfl ?_
  refine mm_iload_n 1 dX12_trim_0 rfl rfl ?_
  refine mm_iconst (v := 0) dX12_trim_1 rfl ?_
  refine mm_aload_n 0 dX12_trim_2 rfl rfl ?_
  refine mm_geti dX12_trim_3 rfl fk_X12_138 rfl so_200 ?_
  refine mm_top (v := nI (t)) ht ?_
  refine mm_cS3i (dz := d - 1) dX12_trim_6 rfl mzX12_within ml_X12_82 imX12_within (by omega) cm_within (Nat.le_of_ble_eq_true rfl) ⟨Nat.le_refl _, Nat.le_refl _⟩ ?_
  refine mm_if_neB (tgt := 15) dX12_trim_9 (by decide) (fun c9 => ?_) (fun c9 => ?_)
  · refine mm_aload_n 0 dX12_trim_15 rfl rfl ?_
    refine mm_iload_n 1 dX12_trim_16 rfl rfl ?_
    refine mm_puti dX12_trim_17 rfl fk_X12_138 rfl fv_12_4 so_200 ?_
    refine mm_iload_n 1 dX12_trim_20 rfl rfl ?_
    refine mm_iret dX12_trim_21 rfl ⟨Nat.le_refl _, Nat.le_refl _⟩ ?_
    exact mm_l2 (by unfold op_trim; rw [if_neg (fun q => q c9)]) hq
  · refine mm_ldc dX12_trim_12 rfl kc_X12_86 ?_
    refine mm_iret dX12_trim_14 rfl ⟨Nat.le_refl _, Nat.le_refl _⟩ ?_
    exact mm_l2 (by unfold op_trim; rw [if_pos c9]) hq
set_option maxRecDepth 100000 in
set_option maxHeartbeats 4000000 in
theorem cm_tell {g : mm_G} {I : mm_I} {d : Nat} {t : Nat} (ht : I 200 5 = nI t) (ht1 : t ≤ 100) {v : Int32} : mm_Ci g zX12_tell d [.ref 200, .int v] sh_S I (op_tell t I v).1 (op_tell t I v).2 := by
  refine mm_Ci_of (fun Q hq => ?_)
  refine mm_begin (ls := [(0, .ref 200), (1, .int (v))]) (Nat.le_of_ble_eq_true rfl) rfl rfl ?_
  refine mm_aload_n 0 dX12_tell_0 rfl rfl ?_
  refine mm_geti dX12_tell_1 rfl fk_X12_370 rfl so_200 ?_
  refine mm_top (v := nI (t)) ht ?_
  refine mm_bipush (v := 100) dX12_tell_4 rfl ?_
  refine mm_icmp_neN (t) (100) (tgt := 12) dX12_tell_6 (by decide) (by omega) (by omega) (fun c6 => ?_) (fun c6 => ?_)
  · refine mm_aload_n 0 dX12_tell_12 rfl rfl ?_
    refine mm_getr (b := 204) dX12_tell_13 rfl fk_X12_19 rfl so_200 sr_200_6 ?_
    refine mm_aload_n 0 dX12_tell_16 rfl rfl ?_
    refine mm_geti dX12_tell_17 rfl fk_X12_370 rfl so_200 ?_
    refine mm_top (v := nI (t)) ht ?_
    refine mm_iload_n 1 dX12_tell_20 rfl rfl ?_
    refine mm_iastN (t) dX12_tell_21 sa_204 (by omega) (by omega) ?_
    refine mm_aload_n 0 dX12_tell_22 rfl rfl ?_
    refine mm_dup dX12_tell_23 rfl ?_
    refine mm_at (pc' := 24) rfl ?_
    refine mm_geti dX12_tell_24 rfl fk_X12_370 rfl so_200 ?_
    refine mm_top (v := I 200 5) (by rw [mm_up_ne (by decide)]) ?_
    refine mm_top (v := nI (t)) ht ?_
    refine mm_iconst (v := 1) dX12_tell_27 rfl ?_
    refine mm_iaddN (t) (1) dX12_tell_28 ?_
    refine mm_puti dX12_tell_29 rfl fk_X12_370 rfl fv_12_5 so_200 ?_
    refine mm_aload_n 0 dX12_tell_32 rfl rfl ?_
    refine mm_geti dX12_tell_33 rfl fk_X12_370 rfl so_200 ?_
    refine mm_top (v := nI (t + 1)) (by rw [mm_up_at]) ?_
    refine mm_iret dX12_tell_36 rfl ⟨Nat.le_refl _, Nat.le_refl _⟩ ?_
    exact mm_l2 (by unfold op_tell; rw [if_neg c6]) hq
  · refine mm_ldc dX12_tell_9 rfl kc_X12_121 ?_
    refine mm_iret dX12_tell_11 rfl ⟨Nat.le_refl _, Nat.le_refl _⟩ ?_
    exact mm_l2 (by unfold op_tell; rw [if_pos c6]) hq
set_option maxRecDepth 100000 in
set_option maxHeartbeats 4000000 in
theorem cm_clear {g : mm_G} {I : mm_I} {d : Nat} : mm_Ci g zX12_clear d [.ref 200] sh_S I (op_clear I).1 (op_clear I).2 := by
  refine mm_Ci_of (fun Q hq => ?_)
  refine mm_begin (ls := [(0, .ref 200)]) (Nat.le_of_ble_eq_true rfl) rfl rfl ?_
  refine mm_aload_n 0 dX12_clear_0 rfl rfl ?_
  refine mm_getr (b := 201) dX12_clear_1 rfl fk_X12_9 rfl so_200 sr_200_0 ?_
  refine mm_bipush (v := 19) dX12_clear_4 rfl ?_
  refine mm_ialdN (19) dX12_clear_6 sa_201 (by omega) (by omega) ?_
  refine mm_istore_n (ls' := [(1, .int (I 201 19)), (0, .ref 200)]) dX12_clear_7 rfl (by decide) rfl ?_
  refine mm_aload_n 1 dX12_clear_8 rfl rfl ?_
  refine mm_getr (b := 201) dX12_clear_9 rfl fk_X12_9 rfl so_200 sr_200_0 ?_
  refine mm_bipush (v := 19) dX12_clear_12 rfl ?_
  refine mm_at (pc' := 14) rfl ?_
  refine mm_iconst (v := 0) dX12_clear_14 rfl ?_
  refine mm_iastN (19) dX12_clear_15 sa_201 (by omega) (by omega) ?_
  refine mm_iload_n 0 dX12_clear_16 rfl rfl ?_
  refine mm_iret dX12_clear_17 rfl ⟨Nat.le_refl _, Nat.le_refl _⟩ ?_
  exact hq
set_option maxRecDepth 100000 in
set_option maxHeartbeats 4000000 in
theorem cm_work {g : mm_G} {I : mm_I} {d : Nat} {k : Nat} (hk : I 201 19 = nI k) (hk6 : k ≤ 6) {a b c e : Int32} (hd : 1 ≤ d) : mm_Ci g zX12_work d [.ref 200, .int a, .int b, .int c, .int e] sh_S I (op_work k I a b c e).1 (op_work k I a b c e).2 := by
  refine mm_Ci_of (fun Q hq => ?_)
  refine mm_begin (ls := [(0, .ref 200), (1, .int (a)), (2, .int (b)), (3, .int (c)), (4, .int (e))]) (Nat.le_of_ble_eq_true rfl) rfl rfl ?_
  refine mm_aload_n 0 dX12_work_0 rfl rfl ?_
  refine mm_getr (b := 201) dX12_work_1 rfl fk_X12_9 rfl so_200 sr_200_0 ?_
  refine mm_bipush (v := 19) dX12_work_4 rfl ?_
  refine mm_ialdN (19) dX12_work_6 sa_201 (by omega) (by omega) ?_
  refine mm_top (v := nI (k)) hk ?_
  refine mm_istore (ls' := [(5, .int (nI (k))), (0, .ref 200), (1, .int (a)), (2, .int (b)), (3, .int (c)), (4, .int (e))]) dX12_work_7 (by decide) rfl ?_
  refine mm_iload_n 2 dX12_work_9 rfl rfl ?_
  refine mm_iconst (v := 1) dX12_work_10 rfl ?_
  refine mm_bipush (v := 9) dX12_work_11 rfl ?_
  refine mm_at (pc' := 13) rfl ?_
  refine mm_cS3i (dz := d - 1) dX12_work_13 rfl mzX12_within ml_X12_82 imX12_within (by omega) cm_within (Nat.le_of_ble_eq_true rfl) ⟨Nat.le_refl _, Nat.le_refl _⟩ ?_
  refine mm_if_eqB (tgt := 54) dX12_work_16 (by decide) (fun c16 => ?_) (fun c16 => ?_)
  · refine mm_ldc dX12_work_54 rfl kc_X12_86 ?_
    refine mm_iret dX12_work_56 rfl ⟨Nat.le_refl _, Nat.le_refl _⟩ ?_
    exact mm_l2 (by unfold op_work; rw [if_pos (by first | exact Or.inl c16 | exact Or.inr (Or.inl c26) | exact Or.inr (Or.inr (Or.inl c36)) | exact Or.inr (Or.inr (Or.inr (c51))))]) hq
  · refine mm_iload_n 3 dX12_work_19 rfl rfl ?_
    refine mm_iconst (v := 0) dX12_work_20 rfl ?_
    refine mm_bipush (v := 50) dX12_work_21 rfl ?_
    refine mm_cS3i (dz := d - 1) dX12_work_23 rfl mzX12_within ml_X12_82 imX12_within (by omega) cm_within (Nat.le_of_ble_eq_true rfl) ⟨Nat.le_refl _, Nat.le_refl _⟩ ?_
    refine mm_if_eqB (tgt := 54) dX12_work_26 (by decide) (fun c26 => ?_) (fun c26 => ?_)
    · refine mm_ldc dX12_work_54 rfl kc_X12_86 ?_
      refine mm_iret dX12_work_56 rfl ⟨Nat.le_refl _, Nat.le_refl _⟩ ?_
      exact mm_l2 (by unfold op_work; rw [if_pos (by first | exact Or.inl c16 | exact Or.inr (Or.inl c26) | exact Or.inr (Or.inr (Or.inl c36)) | exact Or.inr (Or.inr (Or.inr (c51))))]) hq
    · refine mm_iload_n 4 dX12_work_29 rfl rfl ?_
      refine mm_iconst (v := 0) dX12_work_30 rfl ?_
      refine mm_bipush (v := 20) dX12_work_31 rfl ?_
      refine mm_cS3i (dz := d - 1) dX12_work_33 rfl mzX12_within ml_X12_82 imX12_within (by omega) cm_within (Nat.le_of_ble_eq_true rfl) ⟨Nat.le_refl _, Nat.le_refl _⟩ ?_
      refine mm_if_eqB (tgt := 54) dX12_work_36 (by decide) (fun c36 => ?_) (fun c36 => ?_)
      · refine mm_ldc dX12_work_54 rfl kc_X12_86 ?_
        refine mm_iret dX12_work_56 rfl ⟨Nat.le_refl _, Nat.le_refl _⟩ ?_
        exact mm_l2 (by unfold op_work; rw [if_pos (by first | exact Or.inl c16 | exact Or.inr (Or.inl c26) | exact Or.inr (Or.inr (Or.inl c36)) | exact Or.inr (Or.inr (Or.inr (c51))))]) hq
      · refine mm_iload 5 dX12_work_39 rfl ?_
        refine mm_iconst (v := 0) dX12_work_41 rfl ?_
        refine mm_iconst (v := 1) dX12_work_42 rfl ?_
        refine mm_iload 0 dX12_work_43 rfl ?_
        refine mm_ishl dX12_work_45 ?_
        refine mm_iconst (v := 1) dX12_work_46 rfl ?_
        refine mm_isub dX12_work_47 ?_
        refine mm_at (pc' := 48) rfl ?_
        refine mm_cS3i (dz := d - 1) dX12_work_48 rfl mzX12_within ml_X12_82 imX12_within (by omega) cm_within (Nat.le_of_ble_eq_true rfl) ⟨Nat.le_refl _, Nat.le_refl _⟩ ?_
        refine mm_if_neB (tgt := 57) dX12_work_51 (by decide) (fun c51 => ?_) (fun c51 => ?_)
        · refine mm_iload 0 dX12_work_57 rfl ?_
          refine mm_bipush (v := 6) dX12_work_59 rfl ?_
          refine mm_icmp_neN (k) (6) (tgt := 67) dX12_work_61 (by decide) (by omega) (by omega) (fun c61 => ?_) (fun c61 => ?_)
          · refine mm_aload_n 1 dX12_work_67 rfl rfl ?_
            refine mm_getr (b := 201) dX12_work_68 rfl fk_X12_9 rfl so_200 sr_200_0 ?_
            refine mm_sipush (v := 606) dX12_work_71 rfl ?_
            refine mm_iload 0 dX12_work_74 rfl ?_
            refine mm_iaddN (606) (k) dX12_work_76 ?_
            refine mm_iload_n 2 dX12_work_77 rfl rfl ?_
            refine mm_iastN (606 + k) dX12_work_78 sa_201 (by omega) (by omega) ?_
            refine mm_aload_n 1 dX12_work_79 rfl rfl ?_
            refine mm_at (pc' := 80) rfl ?_
            refine mm_getr (b := 201) dX12_work_80 rfl fk_X12_9 rfl so_200 sr_200_0 ?_
            refine mm_sipush (v := 612) dX12_work_83 rfl ?_
            refine mm_iload 0 dX12_work_86 rfl ?_
            refine mm_iaddN (612) (k) dX12_work_88 ?_
            refine mm_iload_n 3 dX12_work_89 rfl rfl ?_
            refine mm_iastN (612 + k) dX12_work_90 sa_201 (by omega) (by omega) ?_
            refine mm_aload_n 1 dX12_work_91 rfl rfl ?_
            refine mm_getr (b := 201) dX12_work_92 rfl fk_X12_9 rfl so_200 sr_200_0 ?_
            refine mm_at (pc' := 95) rfl ?_
            refine mm_sipush (v := 618) dX12_work_95 rfl ?_
            refine mm_iload 0 dX12_work_98 rfl ?_
            refine mm_iaddN (618) (k) dX12_work_100 ?_
            refine mm_iload_n 4 dX12_work_101 rfl rfl ?_
            refine mm_iastN (618 + k) dX12_work_102 sa_201 (by omega) (by omega) ?_
            refine mm_aload_n 1 dX12_work_103 rfl rfl ?_
            refine mm_getr (b := 201) dX12_work_104 rfl fk_X12_9 rfl so_200 sr_200_0 ?_
            refine mm_sipush (v := 624) dX12_work_107 rfl ?_
            refine mm_at (pc' := 110) rfl ?_
            refine mm_iload 0 dX12_work_110 rfl ?_
            refine mm_iaddN (624) (k) dX12_work_112 ?_
            refine mm_iload 5 dX12_work_113 rfl ?_
            refine mm_iastN (624 + k) dX12_work_115 sa_201 (by omega) (by omega) ?_
            refine mm_aload_n 1 dX12_work_116 rfl rfl ?_
            refine mm_getr (b := 201) dX12_work_117 rfl fk_X12_9 rfl so_200 sr_200_0 ?_
            refine mm_bipush (v := 19) dX12_work_120 rfl ?_
            refine mm_dup2 dX12_work_122 rfl rfl ?_
            refine mm_at (pc' := 123) rfl ?_
            refine mm_ialdN (19) dX12_work_123 sa_201 (by omega) (by omega) ?_
            refine mm_top (v := I 201 19) (by rw [mm_up_ni (by omega), mm_up_ni (by omega), mm_up_ni (by omega), mm_up_ni (by omega)]) ?_
            refine mm_top (v := nI (k)) hk ?_
            refine mm_iconst (v := 1) dX12_work_124 rfl ?_
            refine mm_iaddN (k) (1) dX12_work_125 ?_
            refine mm_iastN (19) dX12_work_126 sa_201 (by omega) (by omega) ?_
            refine mm_iload 0 dX12_work_127 rfl ?_
            refine mm_iret dX12_work_129 rfl ⟨Nat.le_refl _, Nat.le_refl _⟩ ?_
            exact mm_l2 (by unfold op_work; rw [if_neg (by intro q; rcases q with q | q | q | q; exact q c16; exact q c26; exact q c36; exact q c51), if_neg c61]) hq
          · refine mm_ldc dX12_work_64 rfl kc_X12_121 ?_
            refine mm_iret dX12_work_66 rfl ⟨Nat.le_refl _, Nat.le_refl _⟩ ?_
            exact mm_l2 (by unfold op_work; rw [if_neg (by intro q; rcases q with q | q | q | q; exact q c16; exact q c26; exact q c36; exact q c51), if_pos c61]) hq
        · refine mm_ldc dX12_work_54 rfl kc_X12_86 ?_
          refine mm_iret dX12_work_56 rfl ⟨Nat.le_refl _, Nat.le_refl _⟩ ?_
          exact mm_l2 (by unfold op_work; rw [if_pos (by first | exact Or.inl c16 | exact Or.inr (Or.inl c26) | exact Or.inr (Or.inr (Or.inl c36)) | exact Or.inr (Or.inr (Or.inr (c51))))]) hq
set_option maxRecDepth 100000 in
set_option maxHeartbeats 4000000 in
theorem cm_ofOrder {g : mm_G} {S : mm_Sh} {I : mm_I} {d : Nat} (m f : Nat) : mm_Ci g zX12_ofOrder d [.int (nI m), .int (nI f)] S I (nI (830 + 3 * m + f)) I := by
  refine mm_Ci_of (fun Q hq => ?_)
  refine mm_begin (ls := [(0, .int (nI (m))), (1, .int (nI (f)))]) (Nat.le_of_ble_eq_true rfl) rfl rfl ?_
  refine mm_sipush (v := 830) dX12_ofOrder_0 rfl ?_
  refine mm_iconst (v := 3) dX12_ofOrder_3 rfl ?_
  refine mm_iload_n 0 dX12_ofOrder_4 rfl rfl ?_
  refine mm_imulN (3) (m) dX12_ofOrder_5 ?_
  refine mm_iaddN (830) (3 * m) dX12_ofOrder_6 ?_
  refine mm_iload_n 1 dX12_ofOrder_7 rfl rfl ?_
  refine mm_iaddN (830 + (3 * m)) (f) dX12_ofOrder_8 ?_
  refine mm_iret dX12_ofOrder_9 rfl ⟨Nat.le_refl _, Nat.le_refl _⟩ ?_
  exact hq
set_option maxRecDepth 100000 in
set_option maxHeartbeats 4000000 in
theorem cm_isEmpty {g : mm_G} {I : mm_I} {d : Nat} {p : Nat} (hp : p < 6) : mm_Ci g zX12_isEmpty d [.ref 200, .int (nI p)] sh_S I (if I 201 (1226 + (418 * p)) = 0 then 1 else 0) I := by
  refine mm_Ci_of (fun Q hq => ?_)
  refine mm_begin (ls := [(0, .ref 200), (1, .int (nI (p)))]) (Nat.le_of_ble_eq_true rfl) rfl rfl ?_
  refine mm_aload_n 0 dX12_isEmpty_0 rfl rfl ?_
  refine mm_getr (b := 201) dX12_isEmpty_1 rfl fk_X12_9 rfl so_200 sr_200_0 ?_
  refine mm_sipush (v := 1226) dX12_isEmpty_4 rfl ?_
  refine mm_sipush (v := 418) dX12_isEmpty_7 rfl ?_
  refine mm_iload_n 1 dX12_isEmpty_10 rfl rfl ?_
  refine mm_imulN (418) (p) dX12_isEmpty_11 ?_
  refine mm_iaddN (1226) (418 * p) dX12_isEmpty_12 ?_
  refine mm_ialdN (1226 + (418 * p)) dX12_isEmpty_13 sa_201 (by omega) (by omega) ?_
  refine mm_at (pc' := 14) rfl ?_
  have K14 : mm_Ex g zX12_isEmpty d (0, 0) (0, 0) sh_S (I) 22 [(0, .ref 200), (1, .int (nI (p)))] [.int (if (I 201 (1226 + (418 * p))) = 0 then 1 else 0)] Q := by
    refine mm_zret dX12_isEmpty_22 rfl mm_b01 ⟨Nat.le_refl _, Nat.le_refl _⟩ ?_
    exact hq
  refine mm_if_ne (tgt := 21) dX12_isEmpty_14 (by decide) (fun c14 => ?_) (fun c14 => ?_)
  · refine mm_iconst (v := 0) dX12_isEmpty_21 rfl ?_
    exact mm_top (by first | rfl | (simp [c14]; done) | (rw [if_pos (by simp_all)]; done) | (rw [if_neg (by simp_all)]; done) | (rw [if_pos (by omega)]; done) | (rw [if_neg (by omega)]; done)) K14
  · refine mm_iconst (v := 1) dX12_isEmpty_17 rfl ?_
    refine mm_goto (tgt := 22) dX12_isEmpty_18 (by decide) ?_
    exact mm_top (by first | rfl | (simp [c14]; done) | (rw [if_pos (by simp_all)]; done) | (rw [if_neg (by simp_all)]; done) | (rw [if_pos (by omega)]; done) | (rw [if_neg (by omega)]; done)) K14
set_option maxRecDepth 100000 in
set_option maxHeartbeats 4000000 in
theorem cm_send {g : mm_G} {I : mm_I} {d : Nat} {n : Nat} (hm : I 201 16 = nI n) (hm5 : n ≤ 5) {o : Nat} (ho : I 201 17 = nI o) (ho12 : o ≤ 12) {m p : Int32} (hd : 2 ≤ d) : mm_Ci g zX12_send d [.ref 200, .int m, .int p] sh_S I (op_send n o I m p).1 (op_send n o I m p).2 := by
  refine mm_Ci_of (fun Q hq => ?_)
  refine mm_begin (ls := [(0, .ref 200), (1, .int (m)), (2, .int (p))]) (Nat.le_of_ble_eq_true rfl) rfl rfl ?_
  refine mm_aload_n 0 dX12_send_0 rfl rfl ?_
  refine mm_iload_n 1 dX12_send_1 rfl rfl ?_
  refine mm_cV1i (dz := d - 1) dX12_send_2 rfl mzX12_isMachine ml_X12_129 imX12_isMachine (by omega) so_200 ⟨rfl, rfl⟩ (cm_isMachine hm hm5 (by omega)) (Nat.le_of_ble_eq_true rfl) ⟨Nat.le_refl _, Nat.le_refl _⟩ ?_
  refine mm_if_eqB (tgt := 17) dX12_send_5 (by decide) (fun c5 => ?_) (fun c5 => ?_)
  · refine mm_ldc dX12_send_17 rfl kc_X12_86 ?_
    refine mm_iret dX12_send_19 rfl ⟨Nat.le_refl _, Nat.le_refl _⟩ ?_
    exact mm_l2 (by unfold op_send; rw [if_pos (by first | exact Or.inl c5 | exact Or.inr (c14))]) hq
  · refine mm_iload_n 2 dX12_send_8 rfl rfl ?_
    refine mm_iconst (v := 0) dX12_send_9 rfl ?_
    refine mm_iconst (v := 5) dX12_send_10 rfl ?_
    refine mm_cS3i (dz := d - 1) dX12_send_11 rfl mzX12_within ml_X12_82 imX12_within (by omega) cm_within (Nat.le_of_ble_eq_true rfl) ⟨Nat.le_refl _, Nat.le_refl _⟩ ?_
    refine mm_if_neB (tgt := 20) dX12_send_14 (by decide) (fun c14 => ?_) (fun c14 => ?_)
    · obtain ⟨k, hkk, rfl⟩ := sp_isM_nat (by omega) c5
      obtain ⟨q, hkq, rfl⟩ := sp_wi_n 0 5 (by decide) (by decide) c14
      refine mm_aload_n 0 dX12_send_20 rfl rfl ?_
      refine mm_iload_n 2 dX12_send_21 rfl rfl ?_
      refine mm_cV1i (dz := d - 1) dX12_send_22 rfl mzX12_isEmpty ml_X12_247 imX12_isEmpty (by omega) so_200 ⟨rfl, rfl⟩ (cm_isEmpty (by omega)) (Nat.le_of_ble_eq_true rfl) ⟨Nat.le_refl _, Nat.le_refl _⟩ ?_
      refine mm_if_eqB (tgt := 31) dX12_send_25 (by decide) (fun c25 => ?_) (fun c25 => ?_)
      · refine mm_aload_n 0 dX12_send_31 rfl rfl ?_
        refine mm_getr (b := 201) dX12_send_32 rfl fk_X12_9 rfl so_200 sr_200_0 ?_
        refine mm_bipush (v := 17) dX12_send_35 rfl ?_
        refine mm_ialdN (17) dX12_send_37 sa_201 (by omega) (by omega) ?_
        refine mm_top (v := nI (o)) ho ?_
        refine mm_istore_n (ls' := [(3, .int (nI (o))), (0, .ref 200), (1, .int (nI (k))), (2, .int (nI (q)))]) dX12_send_38 rfl (by decide) rfl ?_
        refine mm_iload_n 0 dX12_send_39 rfl rfl ?_
        refine mm_bipush (v := 12) dX12_send_40 rfl ?_
        refine mm_icmp_neN (o) (12) (tgt := 48) dX12_send_42 (by decide) (by omega) (by omega) (fun c42 => ?_) (fun c42 => ?_)
        · refine mm_aload_n 1 dX12_send_48 rfl rfl ?_
          refine mm_getr (b := 201) dX12_send_49 rfl fk_X12_9 rfl so_200 sr_200_0 ?_
          refine mm_iload_n 0 dX12_send_52 rfl rfl ?_
          refine mm_iconst (v := 0) dX12_send_53 rfl ?_
          refine mm_cS2i (dz := d - 1) dX12_send_54 rfl mzX12_ofOrder ml_X12_250 imX12_ofOrder (by omega) (cm_ofOrder (o) (0)) (Nat.le_of_ble_eq_true rfl) ⟨Nat.le_refl _, Nat.le_refl _⟩ ?_
          refine mm_iload_n 2 dX12_send_57 rfl rfl ?_
          refine mm_iastN (830 + 3 * o + 0) dX12_send_58 sa_201 (by omega) (by omega) ?_
          refine mm_aload_n 1 dX12_send_59 rfl rfl ?_
          refine mm_at (pc' := 60) rfl ?_
          refine mm_getr (b := 201) dX12_send_60 rfl fk_X12_9 rfl so_200 sr_200_0 ?_
          refine mm_iload_n 0 dX12_send_63 rfl rfl ?_
          refine mm_iconst (v := 1) dX12_send_64 rfl ?_
          refine mm_cS2i (dz := d - 1) dX12_send_65 rfl mzX12_ofOrder ml_X12_250 imX12_ofOrder (by omega) (cm_ofOrder (o) (1)) (Nat.le_of_ble_eq_true rfl) ⟨Nat.le_refl _, Nat.le_refl _⟩ ?_
          refine mm_iload_n 3 dX12_send_68 rfl rfl ?_
          refine mm_iastN (830 + 3 * o + 1) dX12_send_69 sa_201 (by omega) (by omega) ?_
          refine mm_aload_n 1 dX12_send_70 rfl rfl ?_
          refine mm_getr (b := 201) dX12_send_71 rfl fk_X12_9 rfl so_200 sr_200_0 ?_
          refine mm_at (pc' := 74) rfl ?_
          refine mm_iload_n 0 dX12_send_74 rfl rfl ?_
          refine mm_iconst (v := 2) dX12_send_75 rfl ?_
          refine mm_cS2i (dz := d - 1) dX12_send_76 rfl mzX12_ofOrder ml_X12_250 imX12_ofOrder (by omega) (cm_ofOrder (o) (2)) (Nat.le_of_ble_eq_true rfl) ⟨Nat.le_refl _, Nat.le_refl _⟩ ?_
          refine mm_aload_n 1 dX12_send_79 rfl rfl ?_
          refine mm_getr (b := 201) dX12_send_80 rfl fk_X12_9 rfl so_200 sr_200_0 ?_
          refine mm_bipush (v := 7) dX12_send_83 rfl ?_
          refine mm_ialdN (7) dX12_send_85 sa_201 (by omega) (by omega) ?_
          refine mm_top (v := I 201 7) (by rw [mm_up_ni (by omega), mm_up_ni (by omega)]) ?_
          refine mm_aload_n 1 dX12_send_86 rfl rfl ?_
          refine mm_at (pc' := 87) rfl ?_
          refine mm_getr (b := 201) dX12_send_87 rfl fk_X12_9 rfl so_200 sr_200_0 ?_
          refine mm_bipush (v := 6) dX12_send_90 rfl ?_
          refine mm_ialdN (6) dX12_send_92 sa_201 (by omega) (by omega) ?_
          refine mm_top (v := I 201 6) (by rw [mm_up_ni (by omega), mm_up_ni (by omega)]) ?_
          refine mm_iadd dX12_send_93 ?_
          refine mm_iastN (830 + 3 * o + 2) dX12_send_94 sa_201 (by omega) (by omega) ?_
          refine mm_aload_n 1 dX12_send_95 rfl rfl ?_
          refine mm_getr (b := 201) dX12_send_96 rfl fk_X12_9 rfl so_200 sr_200_0 ?_
          refine mm_bipush (v := 17) dX12_send_99 rfl ?_
          refine mm_at (pc' := 101) rfl ?_
          refine mm_dup2 dX12_send_101 rfl rfl ?_
          refine mm_ialdN (17) dX12_send_102 sa_201 (by omega) (by omega) ?_
          refine mm_top (v := I 201 17) (by rw [mm_up_ni (by omega), mm_up_ni (by omega), mm_up_ni (by omega)]) ?_
          refine mm_top (v := nI (o)) ho ?_
          refine mm_iconst (v := 1) dX12_send_103 rfl ?_
          refine mm_iaddN (o) (1) dX12_send_104 ?_
          refine mm_iastN (17) dX12_send_105 sa_201 (by omega) (by omega) ?_
          refine mm_aload_n 1 dX12_send_106 rfl rfl ?_
          refine mm_getr (b := 201) dX12_send_107 rfl fk_X12_9 rfl so_200 sr_200_0 ?_
          refine mm_iload_n 0 dX12_send_110 rfl rfl ?_
          refine mm_at (pc' := 111) rfl ?_
          refine mm_iconst (v := 2) dX12_send_111 rfl ?_
          refine mm_cS2i (dz := d - 1) dX12_send_112 rfl mzX12_ofOrder ml_X12_250 imX12_ofOrder (by omega) (cm_ofOrder (o) (2)) (Nat.le_of_ble_eq_true rfl) ⟨Nat.le_refl _, Nat.le_refl _⟩ ?_
          refine mm_ialdN (830 + 3 * o + 2) dX12_send_115 sa_201 (by omega) (by omega) ?_
          refine mm_top (v := (I 201 7) + (I 201 6)) (by rw [mm_up_ni (by omega), mm_up_at]) ?_
          refine mm_iret dX12_send_116 rfl ⟨Nat.le_refl _, Nat.le_refl _⟩ ?_
          exact mm_l2 (by unfold op_send; rw [if_neg (by intro q; rcases q with q | q; exact q c5; exact q c14), vv_nI (by omega), if_neg c25, if_neg c42]) hq
        · refine mm_ldc dX12_send_45 rfl kc_X12_121 ?_
          refine mm_iret dX12_send_47 rfl ⟨Nat.le_refl _, Nat.le_refl _⟩ ?_
          exact mm_l2 (by unfold op_send; rw [if_neg (by intro q; rcases q with q | q; exact q c5; exact q c14), vv_nI (by omega), if_neg c25, if_pos c42]) hq
      · refine mm_ldc dX12_send_28 rfl kc_X12_99 ?_
        refine mm_iret dX12_send_30 rfl ⟨Nat.le_refl _, Nat.le_refl _⟩ ?_
        exact mm_l2 (by unfold op_send; rw [if_neg (by intro q; rcases q with q | q; exact q c5; exact q c14), vv_nI (by omega), if_pos c25]) hq
    · refine mm_ldc dX12_send_17 rfl kc_X12_86 ?_
      refine mm_iret dX12_send_19 rfl ⟨Nat.le_refl _, Nat.le_refl _⟩ ?_
      exact mm_l2 (by unfold op_send; rw [if_pos (by first | exact Or.inl c5 | exact Or.inr (c14))]) hq
set_option maxRecDepth 100000 in
set_option maxHeartbeats 4000000 in
theorem cm_order {g : mm_G} {I : mm_I} {d : Nat} {o : Nat} (ho : I 201 17 = nI o) (ho12 : o ≤ 12) {i k : Int32} (hd : 1 ≤ d) : mm_Ci g zX12_order d [.ref 200, .int i, .int k] sh_S I (op_order o I i k) I := by
  refine mm_Ci_of (fun Q hq => ?_)
  refine mm_begin (ls := [(0, .ref 200), (1, .int (i)), (2, .int (k))]) (Nat.le_of_ble_eq_true rfl) rfl rfl ?_
  refine mm_iload_n 1 dX12_order_0 rfl rfl ?_
  refine mm_if_lt (tgt := 13) dX12_order_1 (by decide) (fun c1 => ?_) (fun c1 => ?_)
  · refine mm_ldc dX12_order_13 rfl kc_X12_86 ?_
    refine mm_iret dX12_order_15 rfl ⟨Nat.le_refl _, Nat.le_refl _⟩ ?_
    exact mm_l1 (by unfold op_order; rw [if_pos (by first | exact Or.inl c1 | exact Or.inr (c10))]) hq
  · refine mm_iload_n 2 dX12_order_4 rfl rfl ?_
    refine mm_iconst (v := 0) dX12_order_5 rfl ?_
    refine mm_iconst (v := 2) dX12_order_6 rfl ?_
    refine mm_cS3i (dz := d - 1) dX12_order_7 rfl mzX12_within ml_X12_82 imX12_within (by omega) cm_within (Nat.le_of_ble_eq_true rfl) ⟨Nat.le_refl _, Nat.le_refl _⟩ ?_
    refine mm_if_neB (tgt := 16) dX12_order_10 (by decide) (fun c10 => ?_) (fun c10 => ?_)
    · refine mm_iload_n 1 dX12_order_16 rfl rfl ?_
      refine mm_aload_n 0 dX12_order_17 rfl rfl ?_
      refine mm_getr (b := 201) dX12_order_18 rfl fk_X12_9 rfl so_200 sr_200_0 ?_
      refine mm_bipush (v := 17) dX12_order_21 rfl ?_
      refine mm_ialdN (17) dX12_order_23 sa_201 (by omega) (by omega) ?_
      refine mm_top (v := nI (o)) ho ?_
      refine mm_icmp_ge (tgt := 40) dX12_order_24 (by decide) (fun c24 => ?_) (fun c24 => ?_)
      · refine mm_ldc dX12_order_40 rfl kc_X12_100 ?_
        refine mm_iret dX12_order_42 rfl ⟨Nat.le_refl _, Nat.le_refl _⟩ ?_
        exact mm_l1 (by unfold op_order; rw [if_neg (by intro q; rcases q with q | q; exact absurd q c1; exact q c10), if_pos c24]) hq
      · obtain ⟨j, hj, rfl⟩ := nI_of c1
        have hjo : j < o := by
          have q := Int32.not_le.mp c24
          exact (nI_ltI hj (by omega)).mp q
        obtain ⟨q, hkq, rfl⟩ := sp_wi_n 0 2 (by decide) (by decide) c10
        refine mm_aload_n 0 dX12_order_27 rfl rfl ?_
        refine mm_getr (b := 201) dX12_order_28 rfl fk_X12_9 rfl so_200 sr_200_0 ?_
        refine mm_iload_n 1 dX12_order_31 rfl rfl ?_
        refine mm_iload_n 2 dX12_order_32 rfl rfl ?_
        refine mm_cS2i (dz := d - 1) dX12_order_33 rfl mzX12_ofOrder ml_X12_250 imX12_ofOrder (by omega) (cm_ofOrder (j) (q)) (Nat.le_of_ble_eq_true rfl) ⟨Nat.le_refl _, Nat.le_refl _⟩ ?_
        refine mm_ialdN (830 + 3 * j + q) dX12_order_36 sa_201 (by omega) (by omega) ?_
        refine mm_goto (tgt := 42) dX12_order_37 (by decide) ?_
        refine mm_iret dX12_order_42 rfl ⟨Nat.le_refl _, Nat.le_refl _⟩ ?_
        exact mm_l1 (by unfold op_order; rw [if_neg (by intro q; rcases q with q | q; exact absurd q c1; exact q c10), if_neg c24, vv_nI (by omega), vv_nI (by omega)]) hq
    · refine mm_ldc dX12_order_13 rfl kc_X12_86 ?_
      refine mm_iret dX12_order_15 rfl ⟨Nat.le_refl _, Nat.le_refl _⟩ ?_
      exact mm_l1 (by unfold op_order; rw [if_pos (by first | exact Or.inl c1 | exact Or.inr (c10))]) hq
set_option maxRecDepth 100000 in
set_option maxHeartbeats 4000000 in
theorem lm_feed {g : mm_G} {I : mm_I} {d : Nat} {Q : Option Value → mm_Sh → mm_I → Prop} {t : Nat} (ht : I 200 4 = nI t) (htl : t + 12 ≤ 96) {a b c : Int32} (hq : Q (some (.int (nI (t + 12)))) sh_S (op_fds I t a b c 12)) : ∀ (m : Nat) (i : Nat), (i ≤ 12) → (op_fds I t a b c i 200 4 = nI (t + i)) → 12 - i < m → mm_Ex g zX12_feed d (0, 0) (0, 0) sh_S (op_fds I t a b c i) 18 [(4, .int (nI (i))), (0, .ref 200), (1, .int (a)), (2, .int (b)), (3, .int (c))] [] Q := by
  intro m
  induction m with
  | zero => intro i hi h4 hmz; exact absurd hmz (Nat.not_lt_zero _)
  | succ m ih =>
    intro i hi h4 hmz
    refine mm_iload 0 dX12_feed_18 rfl ?_
    refine mm_bipush (v := 12) dX12_feed_20 rfl ?_
    refine mm_icmp_geN (i) (12) (tgt := 91) dX12_feed_22 (by decide) (by omega) (by omega) (fun c22 => ?_) (fun c22 => ?_)
    · refine mm_aload_n 1 dX12_feed_91 rfl rfl ?_
      refine mm_geti dX12_feed_92 rfl fk_X12_138 rfl so_200 ?_
      refine mm_top (v := nI (t + i)) h4 ?_
      refine mm_iret dX12_feed_95 rfl ⟨Nat.le_refl _, Nat.le_refl _⟩ ?_
      have e : i = 12 := by omega
      subst e
      exact hq
    · refine mm_iload 0 dX12_feed_25 rfl ?_
      refine mm_iconst (v := 4) dX12_feed_27 rfl ?_
      have K28 : mm_Ex g zX12_feed d (0, 0) (0, 0) sh_S (op_fds I t a b c i) 47 [(4, .int (nI (i))), (0, .ref 200), (1, .int (a)), (2, .int (b)), (3, .int (c))] [.int (if (4) ≤ (i) then (if (8) ≤ (i) then c else b) else a)] Q := by
        refine mm_istore (ls' := [(5, .int (if (4) ≤ (i) then (if (8) ≤ (i) then c else b) else a)), (4, .int (nI (i))), (0, .ref 200), (1, .int (a)), (2, .int (b)), (3, .int (c))]) dX12_feed_47 (by decide) rfl ?_
        refine mm_aload_n 2 dX12_feed_49 rfl rfl ?_
        refine mm_getr (b := 203) dX12_feed_50 rfl fk_X12_16 rfl so_200 sr_200_3 ?_
        refine mm_aload_n 2 dX12_feed_53 rfl rfl ?_
        refine mm_geti dX12_feed_54 rfl fk_X12_138 rfl so_200 ?_
        refine mm_top (v := nI (t + i)) h4 ?_
        refine mm_iload 0 dX12_feed_57 rfl ?_
        refine mm_bipush (v := 24) dX12_feed_59 rfl ?_
        refine mm_bipush (v := 8) dX12_feed_61 rfl ?_
        refine mm_at (pc' := 63) rfl ?_
        refine mm_iload 1 dX12_feed_63 rfl ?_
        refine mm_iconst (v := 4) dX12_feed_65 rfl ?_
        refine mm_iremN (i) (4) dX12_feed_66 (by omega) (by omega) (by omega) ?_
        refine mm_imulN (8) ((i) % (4)) dX12_feed_67 ?_
        refine mm_isubN (24) (8 * ((i) % (4))) dX12_feed_68 (by omega) ?_
        refine mm_ishr dX12_feed_69 ?_
        refine mm_sipush (v := 255) dX12_feed_70 rfl ?_
        refine mm_iand dX12_feed_73 ?_
        refine mm_at (pc' := 74) rfl ?_
        refine mm_iastN (t + i) dX12_feed_74 sa_203 (by omega) (by omega) ?_
        refine mm_aload_n 2 dX12_feed_75 rfl rfl ?_
        refine mm_dup dX12_feed_76 rfl ?_
        refine mm_geti dX12_feed_77 rfl fk_X12_138 rfl so_200 ?_
        refine mm_top (v := (op_fds I t a b c i) 200 4) (by rw [mm_up_ne (by decide)]) ?_
        refine mm_top (v := nI (t + i)) h4 ?_
        refine mm_iconst (v := 1) dX12_feed_80 rfl ?_
        refine mm_iaddN (t + i) (1) dX12_feed_81 ?_
        refine mm_puti dX12_feed_82 rfl fk_X12_138 rfl fv_12_4 so_200 ?_
        refine mm_iincN (ls' := [(4, .int (nI (i + 1))), (5, .int (if (4) ≤ (i) then (if (8) ≤ (i) then c else b) else a)), (0, .ref 200), (1, .int (a)), (2, .int (b)), (3, .int (c))]) 1 (i) 1 dX12_feed_85 rfl rfl (by decide) rfl ?_
        refine mm_at (pc' := 88) rfl ?_
        refine mm_goto (tgt := 18) dX12_feed_88 (by decide) ?_
        exact mm_sub [0, 2, 3, 4, 5] rfl (ih (i + 1) (by omega) mm_up_at (by omega))
      refine mm_icmp_geN (i) (4) (tgt := 35) dX12_feed_28 (by decide) (by omega) (by omega) (fun c28 => ?_) (fun c28 => ?_)
      · refine mm_iload 0 dX12_feed_35 rfl ?_
        refine mm_bipush (v := 8) dX12_feed_37 rfl ?_
        refine mm_icmp_geN (i) (8) (tgt := 46) dX12_feed_39 (by decide) (by omega) (by omega) (fun c39 => ?_) (fun c39 => ?_)
        · refine mm_iload_n 4 dX12_feed_46 rfl rfl ?_
          exact mm_top (by rw [if_pos (by omega), if_pos (by omega)]) K28
        · refine mm_iload_n 3 dX12_feed_42 rfl rfl ?_
          refine mm_goto (tgt := 47) dX12_feed_43 (by decide) ?_
          exact mm_top (by rw [if_pos (by omega), if_neg (by omega)]) K28
      · refine mm_iload_n 2 dX12_feed_31 rfl rfl ?_
        refine mm_goto (tgt := 47) dX12_feed_32 (by decide) ?_
        exact mm_top (by rw [if_neg (by omega)]) K28
set_option maxRecDepth 100000 in
set_option maxHeartbeats 4000000 in
theorem cm_feed {g : mm_G} {I : mm_I} {d : Nat} {t : Nat} (ht : I 200 4 = nI t) (ht96 : t ≤ 96) {a b c : Int32} : mm_Ci g zX12_feed d [.ref 200, .int a, .int b, .int c] sh_S I (op_feed t I a b c).1 (op_feed t I a b c).2 := by
  refine mm_Ci_of (fun Q hq => ?_)
  refine mm_begin (ls := [(0, .ref 200), (1, .int (a)), (2, .int (b)), (3, .int (c))]) (Nat.le_of_ble_eq_true rfl) rfl rfl ?_
  refine mm_aload_n 0 dX12_feed_0 rfl rfl ?_
  refine mm_geti dX12_feed_1 rfl fk_X12_138 rfl so_200 ?_
  refine mm_top (v := nI (t)) ht ?_
  refine mm_bipush (v := 12) dX12_feed_4 rfl ?_
  refine mm_iaddN (t) (12) dX12_feed_6 ?_
  refine mm_bipush (v := 96) dX12_feed_7 rfl ?_
  refine mm_icmp_leN (t + 12) (96) (tgt := 15) dX12_feed_9 (by decide) (by omega) (by omega) (fun c9 => ?_) (fun c9 => ?_)
  · refine mm_iconst (v := 0) dX12_feed_15 rfl ?_
    refine mm_istore (ls' := [(4, .int (0)), (0, .ref 200), (1, .int (a)), (2, .int (b)), (3, .int (c))]) dX12_feed_16 (by decide) rfl ?_
    rw [op_feed, if_neg (by omega)] at hq
    exact lm_feed ht (by omega) hq 13 0 (by omega) ht (by omega)
  · refine mm_ldc dX12_feed_12 rfl kc_X12_121 ?_
    refine mm_iret dX12_feed_14 rfl ⟨Nat.le_refl _, Nat.le_refl _⟩ ?_
    exact mm_l2 (by unfold op_feed; rw [if_pos (by omega)]) hq
set_option maxRecDepth 100000 in
set_option maxHeartbeats 4000000 in
theorem lm_keep {g : mm_G} {I : mm_I} {d : Nat} {Q : Option Value → mm_Sh → mm_I → Prop} (hq : Q (some (.int (I 201 7))) sh_S (mm_up (mm_cp I 201 202 0 0 3734) 200 2 1)) : ∀ (m : Nat) (i : Nat), (i ≤ 3734) → 3734 - i < m → mm_Ex g zX12_keep d (0, 0) (0, 0) sh_S (mm_cp I 201 202 0 0 i) 2 [(1, .int (nI (i))), (0, .ref 200)] [] Q := by
  intro m
  induction m with
  | zero => intro i hi hmz; exact absurd hmz (Nat.not_lt_zero _)
  | succ m ih =>
    intro i hi hmz
    refine mm_iload_n 0 dX12_keep_2 rfl rfl ?_
    refine mm_sipush (v := 3734) dX12_keep_3 rfl ?_
    refine mm_icmp_geN (i) (3734) (tgt := 27) dX12_keep_6 (by decide) (by omega) (by omega) (fun c6 => ?_) (fun c6 => ?_)
    · have e : i = 3734 := by omega
      subst e
      refine mm_aload_n 1 dX12_keep_27 rfl rfl ?_
      refine mm_iconst (v := 1) dX12_keep_28 rfl ?_
      refine mm_putz dX12_keep_29 rfl fk_X12_385 rfl fv_12_2 (by decide) so_200 ?_
      refine mm_aload_n 1 dX12_keep_32 rfl rfl ?_
      refine mm_getr (b := 201) dX12_keep_33 rfl fk_X12_9 rfl so_200 sr_200_0 ?_
      refine mm_bipush (v := 7) dX12_keep_36 rfl ?_
      refine mm_ialdN (7) dX12_keep_38 sa_201 (by omega) (by omega) ?_
      refine mm_top (v := (mm_cp I 201 202 0 0 3734) 201 7) (by rw [mm_up_ne (by decide)]) ?_
      refine mm_top (v := I 201 7) (mm_cp_ne (by decide)) ?_
      refine mm_iret dX12_keep_39 rfl ⟨Nat.le_refl _, Nat.le_refl _⟩ ?_
      exact hq
    · refine mm_aload_n 1 dX12_keep_9 rfl rfl ?_
      refine mm_getr (b := 202) dX12_keep_10 rfl fk_X12_13 rfl so_200 sr_200_1 ?_
      refine mm_iload_n 0 dX12_keep_13 rfl rfl ?_
      refine mm_aload_n 1 dX12_keep_14 rfl rfl ?_
      refine mm_getr (b := 201) dX12_keep_15 rfl fk_X12_9 rfl so_200 sr_200_0 ?_
      refine mm_iload_n 0 dX12_keep_18 rfl rfl ?_
      refine mm_ialdN (i) dX12_keep_19 sa_201 (by omega) (by omega) ?_
      refine mm_at (pc' := 20) rfl ?_
      refine mm_top (v := I 201 i) (mm_cp_ne (by decide)) ?_
      refine mm_iastN (i) dX12_keep_20 sa_202 (by omega) (by omega) ?_
      refine mm_iincN (ls' := [(1, .int (nI (i + 1))), (0, .ref 200)]) 0 (i) 1 dX12_keep_21 rfl rfl (by decide) rfl ?_
      refine mm_goto (tgt := 2) dX12_keep_24 (by decide) ?_
      rw [mm_cp_s (show i = 0 + i by omega) (show I 201 i = I 201 (0 + i) by rw [Nat.zero_add])]
      exact ih (i + 1) (by omega) (by omega)
set_option maxRecDepth 100000 in
set_option maxHeartbeats 4000000 in
theorem ck_keep {g : mm_G} {I : mm_I} {d : Nat} : mm_Ci g zX12_keep d [.ref 200] sh_S I (op_keep I).1 (op_keep I).2 := by
  refine mm_Ci_of (fun Q hq => ?_)
  refine mm_begin (ls := [(0, .ref 200)]) (Nat.le_of_ble_eq_true rfl) rfl rfl ?_
  refine mm_iconst (v := 0) dX12_keep_0 rfl ?_
  refine mm_istore_n (ls' := [(1, .int (0)), (0, .ref 200)]) dX12_keep_1 rfl (by decide) rfl ?_
  have h := lm_keep (g := g) (d := d) (I := I) hq 3735 0 (by omega) (by omega)
  rw [mm_cp_0] at h
  exact h
set_option maxRecDepth 100000 in
set_option maxHeartbeats 4000000 in
theorem lm_back {g : mm_G} {I : mm_I} {d : Nat} {Q : Option Value → mm_Sh → mm_I → Prop} (hq : Q (some (.int (I 202 7))) sh_S (mm_cp I 202 201 0 0 3734)) : ∀ (m : Nat) (i : Nat), (i ≤ 3734) → 3734 - i < m → mm_Ex g zX12_back d (0, 0) (0, 0) sh_S (mm_cp I 202 201 0 0 i) 12 [(1, .int (nI (i))), (0, .ref 200)] [] Q := by
  intro m
  induction m with
  | zero => intro i hi hmz; exact absurd hmz (Nat.not_lt_zero _)
  | succ m ih =>
    intro i hi hmz
    refine mm_iload_n 0 dX12_back_12 rfl rfl ?_
    refine mm_sipush (v := 3734) dX12_back_13 rfl ?_
    refine mm_icmp_geN (i) (3734) (tgt := 37) dX12_back_16 (by decide) (by omega) (by omega) (fun c16 => ?_) (fun c16 => ?_)
    · have e : i = 3734 := by omega
      subst e
      refine mm_aload_n 1 dX12_back_37 rfl rfl ?_
      refine mm_getr (b := 201) dX12_back_38 rfl fk_X12_9 rfl so_200 sr_200_0 ?_
      refine mm_bipush (v := 7) dX12_back_41 rfl ?_
      refine mm_ialdN (7) dX12_back_43 sa_201 (by omega) (by omega) ?_
      refine mm_top (v := I 202 7) (by rw [mm_cp_in (by omega)]) ?_
      refine mm_iret dX12_back_44 rfl ⟨Nat.le_refl _, Nat.le_refl _⟩ ?_
      exact hq
    · refine mm_aload_n 1 dX12_back_19 rfl rfl ?_
      refine mm_getr (b := 201) dX12_back_20 rfl fk_X12_9 rfl so_200 sr_200_0 ?_
      refine mm_iload_n 0 dX12_back_23 rfl rfl ?_
      refine mm_aload_n 1 dX12_back_24 rfl rfl ?_
      refine mm_getr (b := 202) dX12_back_25 rfl fk_X12_13 rfl so_200 sr_200_1 ?_
      refine mm_iload_n 0 dX12_back_28 rfl rfl ?_
      refine mm_ialdN (i) dX12_back_29 sa_202 (by omega) (by omega) ?_
      refine mm_at (pc' := 30) rfl ?_
      refine mm_top (v := I 202 i) (mm_cp_ne (by decide)) ?_
      refine mm_iastN (i) dX12_back_30 sa_201 (by omega) (by omega) ?_
      refine mm_iincN (ls' := [(1, .int (nI (i + 1))), (0, .ref 200)]) 0 (i) 1 dX12_back_31 rfl rfl (by decide) rfl ?_
      refine mm_goto (tgt := 12) dX12_back_34 (by decide) ?_
      rw [mm_cp_s (show i = 0 + i by omega) (show I 202 i = I 202 (0 + i) by rw [Nat.zero_add])]
      exact ih (i + 1) (by omega) (by omega)
set_option maxRecDepth 100000 in
set_option maxHeartbeats 4000000 in
theorem cm_back {g : mm_G} {I : mm_I} {d : Nat} : mm_Ci g zX12_back d [.ref 200] sh_S I (op_back I).1 (op_back I).2 := by
  refine mm_Ci_of (fun Q hq => ?_)
  refine mm_begin (ls := [(0, .ref 200)]) (Nat.le_of_ble_eq_true rfl) rfl rfl ?_
  refine mm_aload_n 0 dX12_back_0 rfl rfl ?_
  refine mm_geti dX12_back_1 rfl fk_X12_385 rfl so_200 ?_
  refine mm_if_ne (tgt := 10) dX12_back_4 (by decide) (fun c4 => ?_) (fun c4 => ?_)
  · refine mm_iconst (v := 0) dX12_back_10 rfl ?_
    refine mm_istore_n (ls' := [(1, .int (0)), (0, .ref 200)]) dX12_back_11 rfl (by decide) rfl ?_
    rw [op_back, if_neg c4] at hq
    have h := lm_back (g := g) (d := d) (I := I) hq 3735 0 (by omega) (by omega)
    rw [mm_cp_0] at h
    exact h
  · refine mm_ldc dX12_back_7 rfl kc_X12_99 ?_
    refine mm_iret dX12_back_9 rfl ⟨Nat.le_refl _, Nat.le_refl _⟩ ?_
    exact mm_l2 (by unfold op_back; rw [if_pos c4]) hq
set_option maxRecDepth 100000 in
set_option maxHeartbeats 4000000 in
theorem lm_sheet {g : mm_G} {I : mm_I} {d : Nat} {Q : Option Value → mm_Sh → mm_I → Prop} {s : Nat} (hs : s ≤ 1) {x : Int32} (hq : Q (some (.int x)) sh_S (op_zs I 206 (80 * s) 80)) : ∀ (m : Nat) (i : Nat), (i ≤ 80) → 80 - i < m → mm_Ex g zX12_sheet d (0, 0) (0, 0) sh_S (op_zs I 206 (80 * s) i) 35 [(3, .int (nI (i))), (0, .ref 200), (1, .int (nI (s))), (2, .int (x))] [] Q := by
  intro m
  induction m with
  | zero => intro i hi hmz; exact absurd hmz (Nat.not_lt_zero _)
  | succ m ih =>
    intro i hi hmz
    refine mm_iload_n 0 dX12_sheet_35 rfl rfl ?_
    refine mm_bipush (v := 80) dX12_sheet_36 rfl ?_
    refine mm_icmp_geN (i) (80) (tgt := 59) dX12_sheet_38 (by decide) (by omega) (by omega) (fun c38 => ?_) (fun c38 => ?_)
    · refine mm_iload_n 3 dX12_sheet_59 rfl rfl ?_
      refine mm_iret dX12_sheet_60 rfl ⟨Nat.le_refl _, Nat.le_refl _⟩ ?_
      have e : i = 80 := by omega
      subst e
      exact hq
    · refine mm_aload_n 1 dX12_sheet_41 rfl rfl ?_
      refine mm_getr (b := 206) dX12_sheet_42 rfl fk_X12_25 rfl so_200 sr_200_8 ?_
      refine mm_bipush (v := 80) dX12_sheet_45 rfl ?_
      refine mm_iload_n 2 dX12_sheet_47 rfl rfl ?_
      refine mm_imulN (80) (s) dX12_sheet_48 ?_
      refine mm_iload_n 0 dX12_sheet_49 rfl rfl ?_
      refine mm_iaddN (80 * s) (i) dX12_sheet_50 ?_
      refine mm_at (pc' := 51) rfl ?_
      refine mm_iconst (v := 0) dX12_sheet_51 rfl ?_
      refine mm_iastN ((80 * s) + i) dX12_sheet_52 sa_206 (by omega) (by omega) ?_
      refine mm_iincN (ls' := [(3, .int (nI (i + 1))), (0, .ref 200), (1, .int (nI (s))), (2, .int (x))]) 0 (i) 1 dX12_sheet_53 rfl rfl (by decide) rfl ?_
      refine mm_goto (tgt := 35) dX12_sheet_56 (by decide) ?_
      exact mm_sub [0, 1, 2, 3] rfl (ih (i + 1) (by omega) (by omega))
set_option maxRecDepth 100000 in
set_option maxHeartbeats 4000000 in
theorem cm_sheet {g : mm_G} {I : mm_I} {d : Nat} {s x : Int32} (hd : 1 ≤ d) : mm_Ci g zX12_sheet d [.ref 200, .int s, .int x] sh_S I (op_sheet I s x).1 (op_sheet I s x).2 := by
  refine mm_Ci_of (fun Q hq => ?_)
  refine mm_begin (ls := [(0, .ref 200), (1, .int (s)), (2, .int (x))]) (Nat.le_of_ble_eq_true rfl) rfl rfl ?_
  refine mm_iload_n 1 dX12_sheet_0 rfl rfl ?_
  refine mm_iconst (v := 0) dX12_sheet_1 rfl ?_
  refine mm_iconst (v := 1) dX12_sheet_2 rfl ?_
  refine mm_cS3i (dz := d - 1) dX12_sheet_3 rfl mzX12_within ml_X12_82 imX12_within (by omega) cm_within (Nat.le_of_ble_eq_true rfl) ⟨Nat.le_refl _, Nat.le_refl _⟩ ?_
  refine mm_if_eqB (tgt := 15) dX12_sheet_6 (by decide) (fun c6 => ?_) (fun c6 => ?_)
  · refine mm_ldc dX12_sheet_15 rfl kc_X12_86 ?_
    refine mm_iret dX12_sheet_17 rfl ⟨Nat.le_refl _, Nat.le_refl _⟩ ?_
    exact mm_l2 (by unfold op_sheet; rw [if_pos (by first | exact Or.inl c6 | exact Or.inr (c12))]) hq
  · refine mm_iload_n 2 dX12_sheet_9 rfl rfl ?_
    refine mm_bipush (v := 80) dX12_sheet_10 rfl ?_
    refine mm_icmp_le (tgt := 18) dX12_sheet_12 (by decide) (fun c12 => ?_) (fun c12 => ?_)
    · refine mm_iload_n 2 dX12_sheet_18 rfl rfl ?_
      refine mm_if_ge (tgt := 26) dX12_sheet_19 (by decide) (fun c19 => ?_) (fun c19 => ?_)
      · obtain ⟨k, hkk, rfl⟩ := sp_wi_n 0 1 (by decide) (by decide) c6
        refine mm_aload_n 0 dX12_sheet_26 rfl rfl ?_
        refine mm_getr (b := 205) dX12_sheet_27 rfl fk_X12_22 rfl so_200 sr_200_7 ?_
        refine mm_iload_n 1 dX12_sheet_30 rfl rfl ?_
        refine mm_iload_n 2 dX12_sheet_31 rfl rfl ?_
        refine mm_iastN (k) dX12_sheet_32 sa_205 (by omega) (by omega) ?_
        refine mm_iconst (v := 0) dX12_sheet_33 rfl ?_
        refine mm_istore_n (ls' := [(3, .int (0)), (0, .ref 200), (1, .int (nI (k))), (2, .int (x))]) dX12_sheet_34 rfl (by decide) rfl ?_
        rw [op_sheet, if_neg (by intro q; rcases q with q | q; exact q c6; exact q c12), if_neg (Int32.not_lt.mpr c19), vv_nI (by omega)] at hq
        exact lm_sheet (by omega) hq 81 0 (by omega) (by omega)
      · refine mm_ldcw dX12_sheet_22 rfl kc_X12_388 ?_
        refine mm_iret dX12_sheet_25 rfl ⟨Nat.le_refl _, Nat.le_refl _⟩ ?_
        exact mm_l2 (by unfold op_sheet; rw [if_neg (by intro q; rcases q with q | q; exact q c6; exact q c12), if_pos (Int32.not_le.mp c19)]) hq
    · refine mm_ldc dX12_sheet_15 rfl kc_X12_86 ?_
      refine mm_iret dX12_sheet_17 rfl ⟨Nat.le_refl _, Nat.le_refl _⟩ ?_
      exact mm_l2 (by unfold op_sheet; rw [if_pos (by first | exact Or.inl c6 | exact Or.inr (c12))]) hq
set_option maxRecDepth 100000 in
set_option maxHeartbeats 4000000 in
theorem cm_mark {g : mm_G} {I : mm_I} {d : Nat} (hp : sp_pl I) {s p v : Int32} (hd : 1 ≤ d) : mm_Ci g zX12_mark d [.ref 200, .int s, .int p, .int v] sh_S I (op_mark I s p v).1 (op_mark I s p v).2 := by
  refine mm_Ci_of (fun Q hq => ?_)
  refine mm_begin (ls := [(0, .ref 200), (1, .int (s)), (2, .int (p)), (3, .int (v))]) (Nat.le_of_ble_eq_true rfl) rfl rfl ?_
  refine mm_iload_n 1 dX12_mark_0 rfl rfl ?_
  refine mm_iconst (v := 0) dX12_mark_1 rfl ?_
  refine mm_iconst (v := 1) dX12_mark_2 rfl ?_
  refine mm_cS3i (dz := d - 1) dX12_mark_3 rfl mzX12_within ml_X12_82 imX12_within (by omega) cm_within (Nat.le_of_ble_eq_true rfl) ⟨Nat.le_refl _, Nat.le_refl _⟩ ?_
  refine mm_if_neB (tgt := 12) dX12_mark_6 (by decide) (fun c6 => ?_) (fun c6 => ?_)
  · obtain ⟨k, hkk, rfl⟩ := sp_wi_n 0 1 (by decide) (by decide) c6
    refine mm_aload_n 0 dX12_mark_12 rfl rfl ?_
    refine mm_getr (b := 205) dX12_mark_13 rfl fk_X12_22 rfl so_200 sr_200_7 ?_
    refine mm_iload_n 1 dX12_mark_16 rfl rfl ?_
    refine mm_ialdN (k) dX12_mark_17 sa_205 (by omega) (by omega) ?_
    refine mm_if_ge (tgt := 24) dX12_mark_18 (by decide) (fun c18 => ?_) (fun c18 => ?_)
    · refine mm_iload_n 2 dX12_mark_24 rfl rfl ?_
      refine mm_iconst (v := 0) dX12_mark_25 rfl ?_
      refine mm_aload_n 0 dX12_mark_26 rfl rfl ?_
      refine mm_getr (b := 205) dX12_mark_27 rfl fk_X12_22 rfl so_200 sr_200_7 ?_
      refine mm_iload_n 1 dX12_mark_30 rfl rfl ?_
      refine mm_ialdN (k) dX12_mark_31 sa_205 (by omega) (by omega) ?_
      refine mm_iconst (v := 1) dX12_mark_32 rfl ?_
      refine mm_isub dX12_mark_33 ?_
      refine mm_at (pc' := 34) rfl ?_
      refine mm_cS3i (dz := d - 1) dX12_mark_34 rfl mzX12_within ml_X12_82 imX12_within (by omega) cm_within (Nat.le_of_ble_eq_true rfl) ⟨Nat.le_refl _, Nat.le_refl _⟩ ?_
      refine mm_if_neB (tgt := 44) dX12_mark_37 (by decide) (fun c37 => ?_) (fun c37 => ?_)
      · have hz := hp k (by omega)
        obtain ⟨z, hz, hpz⟩ : ∃ z, z ≤ 80 ∧ I 205 k = nI z := hz.resolve_left (fun q => absurd c18 (by rw [q]; decide))
        obtain ⟨j, hj, rfl⟩ : ∃ j, j < 80 ∧ p = nI j := by
          obtain ⟨j, hj, rfl⟩ := nI_of (Int32.not_lt.mpr c37.1)
          have q := (sp_isM_pred (m := z) (by omega)).mp (hpz ▸ c37)
          exact ⟨j, by have := (nI_ltI hj (by omega)).mp q.2; omega, rfl⟩
        refine mm_aload_n 0 dX12_mark_44 rfl rfl ?_
        refine mm_getr (b := 206) dX12_mark_45 rfl fk_X12_25 rfl so_200 sr_200_8 ?_
        refine mm_bipush (v := 80) dX12_mark_48 rfl ?_
        refine mm_iload_n 1 dX12_mark_50 rfl rfl ?_
        refine mm_imulN (80) (k) dX12_mark_51 ?_
        refine mm_iload_n 2 dX12_mark_52 rfl rfl ?_
        refine mm_iaddN (80 * k) (j) dX12_mark_53 ?_
        refine mm_ialdN ((80 * k) + j) dX12_mark_54 sa_206 (by omega) (by omega) ?_
        refine mm_at (pc' := 55) rfl ?_
        refine mm_istore (ls' := [(4, .int (I 206 ((80 * k) + j))), (0, .ref 200), (1, .int (nI (k))), (2, .int (nI (j))), (3, .int (v))]) dX12_mark_55 (by decide) rfl ?_
        refine mm_aload_n 1 dX12_mark_57 rfl rfl ?_
        refine mm_getr (b := 206) dX12_mark_58 rfl fk_X12_25 rfl so_200 sr_200_8 ?_
        refine mm_bipush (v := 80) dX12_mark_61 rfl ?_
        refine mm_iload_n 2 dX12_mark_63 rfl rfl ?_
        refine mm_imulN (80) (k) dX12_mark_64 ?_
        refine mm_iload_n 3 dX12_mark_65 rfl rfl ?_
        refine mm_iaddN (80 * k) (j) dX12_mark_66 ?_
        refine mm_at (pc' := 67) rfl ?_
        refine mm_iload_n 4 dX12_mark_67 rfl rfl ?_
        refine mm_i2s dX12_mark_68 ?_
        refine mm_iastN ((80 * k) + j) dX12_mark_69 sa_206 (by omega) (by omega) ?_
        refine mm_iload 0 dX12_mark_70 rfl ?_
        refine mm_iret dX12_mark_72 rfl ⟨Nat.le_refl _, Nat.le_refl _⟩ ?_
        exact mm_l2 (by unfold op_mark; rw [if_neg (fun q => q c6), vv_nI (by omega), if_neg (Int32.not_lt.mpr c18), if_neg (fun q => q c37), vv_nI (by omega)]) hq
      · refine mm_ldcw dX12_mark_40 rfl kc_X12_389 ?_
        refine mm_iret dX12_mark_43 rfl ⟨Nat.le_refl _, Nat.le_refl _⟩ ?_
        exact mm_l2 (by unfold op_mark; rw [if_neg (fun q => q c6), vv_nI (by omega), if_neg (Int32.not_lt.mpr c18), if_pos c37]) hq
    · refine mm_ldc dX12_mark_21 rfl kc_X12_105 ?_
      refine mm_iret dX12_mark_23 rfl ⟨Nat.le_refl _, Nat.le_refl _⟩ ?_
      exact mm_l2 (by unfold op_mark; rw [if_neg (fun q => q c6), vv_nI (by omega), if_pos (Int32.not_le.mp c18)]) hq
  · refine mm_ldc dX12_mark_9 rfl kc_X12_86 ?_
    refine mm_iret dX12_mark_11 rfl ⟨Nat.le_refl _, Nat.le_refl _⟩ ?_
    exact mm_l2 (by unfold op_mark; rw [if_pos c6]) hq
set_option maxRecDepth 100000 in
set_option maxHeartbeats 4000000 in
theorem lm_count {g : mm_G} {I : mm_I} {d : Nat} {Q : Option Value → mm_Sh → mm_I → Prop} {w h : Nat} (hW : mo_W (I 201) w h) {k : Int32} (hq : Q (some (.int (op_count w h I k))) sh_S I) (hd : 1 ≤ d) : ∀ (m : Nat) (i : Nat), (i ≤ 6) → 6 - i < m → mm_Ex g zX12_count d (0, 0) (0, 0) sh_S (I) 4 [(3, .int (nI (i))), (2, .int (sp_pc (I 201) i)), (0, .ref 200), (1, .int (k))] [] Q := by
  have hc := mo_W_c hW
  obtain ⟨-, -, hw1, hw2, hh1, hh2⟩ := id hW
  intro m
  induction m with
  | zero => intro i hi hmz; exact absurd hmz (Nat.not_lt_zero _)
  | succ m ih =>
    intro i hi hmz
    refine mm_iload_n 0 dX12_count_4 rfl rfl ?_
    refine mm_bipush (v := 6) dX12_count_5 rfl ?_
    refine mm_icmp_geN (i) (6) (tgt := 32) dX12_count_7 (by decide) (by omega) (by omega) (fun c7 => ?_) (fun c7 => ?_)
    · have e : i = 6 := by omega
      subst e
      refine mm_iload_n 3 dX12_count_32 rfl rfl ?_
      by_cases e33_0 : (k) = 0
      · refine mm_tabIn (0) (tgt := 84) dX12_count_33 e33_0 (by decide) (by decide) rfl (by decide) ?_
        subst e33_0
        refine mm_aload_n 2 dX12_count_84 rfl rfl ?_
        refine mm_cV0i (dz := d - 1) dX12_count_85 rfl mzX12_cells ml_X12_78 imX12_cells (by omega) so_200 ⟨rfl, rfl⟩ (cm_cells hW) (Nat.le_of_ble_eq_true rfl) ⟨Nat.le_refl _, Nat.le_refl _⟩ ?_
        refine mm_iret dX12_count_88 rfl ⟨Nat.le_refl _, Nat.le_refl _⟩ ?_
        exact mm_l1 (by unfold op_count; first | (simp; done) | (simp [e33_0, e33_1, e33_2, e33_3, e33_4, e33_5, e33_6, e33_7, e33_8]; done)) hq
      by_cases e33_1 : (k) = 1
      · refine mm_tabIn (1) (tgt := 89) dX12_count_33 e33_1 (by decide) (by decide) rfl (by decide) ?_
        subst e33_1
        refine mm_aload_n 2 dX12_count_89 rfl rfl ?_
        refine mm_getr (b := 201) dX12_count_90 rfl fk_X12_9 rfl so_200 sr_200_0 ?_
        refine mm_bipush (v := 16) dX12_count_93 rfl ?_
        refine mm_ialdN (16) dX12_count_95 sa_201 (by omega) (by omega) ?_
        refine mm_iret dX12_count_96 rfl ⟨Nat.le_refl _, Nat.le_refl _⟩ ?_
        exact mm_l1 (by unfold op_count; first | (simp; done) | (simp [e33_0, e33_1, e33_2, e33_3, e33_4, e33_5, e33_6, e33_7, e33_8]; done)) hq
      by_cases e33_2 : (k) = 2
      · refine mm_tabIn (2) (tgt := 97) dX12_count_33 e33_2 (by decide) (by decide) rfl (by decide) ?_
        subst e33_2
        refine mm_aload_n 2 dX12_count_97 rfl rfl ?_
        refine mm_getr (b := 201) dX12_count_98 rfl fk_X12_9 rfl so_200 sr_200_0 ?_
        refine mm_bipush (v := 15) dX12_count_101 rfl ?_
        refine mm_ialdN (15) dX12_count_103 sa_201 (by omega) (by omega) ?_
        refine mm_iret dX12_count_104 rfl ⟨Nat.le_refl _, Nat.le_refl _⟩ ?_
        exact mm_l1 (by unfold op_count; first | (simp; done) | (simp [e33_0, e33_1, e33_2, e33_3, e33_4, e33_5, e33_6, e33_7, e33_8]; done)) hq
      by_cases e33_3 : (k) = 3
      · refine mm_tabIn (3) (tgt := 105) dX12_count_33 e33_3 (by decide) (by decide) rfl (by decide) ?_
        subst e33_3
        refine mm_iload_n 1 dX12_count_105 rfl rfl ?_
        refine mm_iret dX12_count_106 rfl ⟨Nat.le_refl _, Nat.le_refl _⟩ ?_
        exact mm_l1 (by unfold op_count; first | (simp; done) | (simp [e33_0, e33_1, e33_2, e33_3, e33_4, e33_5, e33_6, e33_7, e33_8]; done)) hq
      by_cases e33_4 : (k) = 4
      · refine mm_tabIn (4) (tgt := 107) dX12_count_33 e33_4 (by decide) (by decide) rfl (by decide) ?_
        subst e33_4
        refine mm_aload_n 2 dX12_count_107 rfl rfl ?_
        refine mm_getr (b := 201) dX12_count_108 rfl fk_X12_9 rfl so_200 sr_200_0 ?_
        refine mm_bipush (v := 17) dX12_count_111 rfl ?_
        refine mm_ialdN (17) dX12_count_113 sa_201 (by omega) (by omega) ?_
        refine mm_iret dX12_count_114 rfl ⟨Nat.le_refl _, Nat.le_refl _⟩ ?_
        exact mm_l1 (by unfold op_count; first | (simp; done) | (simp [e33_0, e33_1, e33_2, e33_3, e33_4, e33_5, e33_6, e33_7, e33_8]; done)) hq
      by_cases e33_5 : (k) = 5
      · refine mm_tabIn (5) (tgt := 115) dX12_count_33 e33_5 (by decide) (by decide) rfl (by decide) ?_
        subst e33_5
        refine mm_aload_n 2 dX12_count_115 rfl rfl ?_
        refine mm_getr (b := 201) dX12_count_116 rfl fk_X12_9 rfl so_200 sr_200_0 ?_
        refine mm_bipush (v := 18) dX12_count_119 rfl ?_
        refine mm_ialdN (18) dX12_count_121 sa_201 (by omega) (by omega) ?_
        refine mm_iret dX12_count_122 rfl ⟨Nat.le_refl _, Nat.le_refl _⟩ ?_
        exact mm_l1 (by unfold op_count; first | (simp; done) | (simp [e33_0, e33_1, e33_2, e33_3, e33_4, e33_5, e33_6, e33_7, e33_8]; done)) hq
      by_cases e33_6 : (k) = 6
      · refine mm_tabIn (6) (tgt := 123) dX12_count_33 e33_6 (by decide) (by decide) rfl (by decide) ?_
        subst e33_6
        refine mm_aload_n 2 dX12_count_123 rfl rfl ?_
        refine mm_getr (b := 201) dX12_count_124 rfl fk_X12_9 rfl so_200 sr_200_0 ?_
        refine mm_bipush (v := 19) dX12_count_127 rfl ?_
        refine mm_ialdN (19) dX12_count_129 sa_201 (by omega) (by omega) ?_
        refine mm_iret dX12_count_130 rfl ⟨Nat.le_refl _, Nat.le_refl _⟩ ?_
        exact mm_l1 (by unfold op_count; first | (simp; done) | (simp [e33_0, e33_1, e33_2, e33_3, e33_4, e33_5, e33_6, e33_7, e33_8]; done)) hq
      by_cases e33_7 : (k) = 7
      · refine mm_tabIn (7) (tgt := 131) dX12_count_33 e33_7 (by decide) (by decide) rfl (by decide) ?_
        subst e33_7
        refine mm_aload_n 2 dX12_count_131 rfl rfl ?_
        refine mm_geti dX12_count_132 rfl fk_X12_370 rfl so_200 ?_
        refine mm_iret dX12_count_135 rfl ⟨Nat.le_refl _, Nat.le_refl _⟩ ?_
        exact mm_l1 (by unfold op_count; first | (simp; done) | (simp [e33_0, e33_1, e33_2, e33_3, e33_4, e33_5, e33_6, e33_7, e33_8]; done)) hq
      by_cases e33_8 : (k) = 8
      · refine mm_tabIn (8) (tgt := 136) dX12_count_33 e33_8 (by decide) (by decide) rfl (by decide) ?_
        subst e33_8
        refine mm_aload_n 2 dX12_count_136 rfl rfl ?_
        refine mm_geti dX12_count_137 rfl fk_X12_138 rfl so_200 ?_
        refine mm_iret dX12_count_140 rfl ⟨Nat.le_refl _, Nat.le_refl _⟩ ?_
        exact mm_l1 (by unfold op_count; first | (simp; done) | (simp [e33_0, e33_1, e33_2, e33_3, e33_4, e33_5, e33_6, e33_7, e33_8]; done)) hq
      refine mm_tabOut 0 9 (tgt := 141) dX12_count_33 rfl (by decide) (by intro k hk q; rcases (show k = 0 ∨ k = 1 ∨ k = 2 ∨ k = 3 ∨ k = 4 ∨ k = 5 ∨ k = 6 ∨ k = 7 ∨ k = 8 by omega) with rfl | rfl | rfl | rfl | rfl | rfl | rfl | rfl | rfl <;> first | exact e33_0 q | exact e33_1 q | exact e33_2 q | exact e33_3 q | exact e33_4 q | exact e33_5 q | exact e33_6 q | exact e33_7 q | exact e33_8 q) (by decide) ?_
      refine mm_ldc dX12_count_141 rfl kc_X12_86 ?_
      refine mm_iret dX12_count_143 rfl ⟨Nat.le_refl _, Nat.le_refl _⟩ ?_
      exact mm_l1 (by unfold op_count; first | (simp; done) | (simp [e33_0, e33_1, e33_2, e33_3, e33_4, e33_5, e33_6, e33_7, e33_8]; done)) hq
    · refine mm_iload_n 1 dX12_count_10 rfl rfl ?_
      refine mm_aload_n 2 dX12_count_11 rfl rfl ?_
      refine mm_iload_n 0 dX12_count_12 rfl rfl ?_
      refine mm_cV1i (dz := d - 1) dX12_count_13 rfl mzX12_isEmpty ml_X12_247 imX12_isEmpty (by omega) so_200 ⟨rfl, rfl⟩ (cm_isEmpty (by omega)) (Nat.le_of_ble_eq_true rfl) ⟨Nat.le_refl _, Nat.le_refl _⟩ ?_
      have K16 : mm_Ex g zX12_count d (0, 0) (0, 0) sh_S (I) 24 [(3, .int (nI (i))), (2, .int (sp_pc (I 201) i)), (0, .ref 200), (1, .int (k))] [.int (if ¬ (I 201 (1226 + (418 * i)) = 0) then 1 else 0), .int (sp_pc (I 201) i)] Q := by
        refine mm_iadd dX12_count_24 ?_
        refine mm_istore_n (ls' := [(2, .int ((sp_pc (I 201) i) + (if ¬ (I 201 (1226 + (418 * i)) = 0) then 1 else 0))), (3, .int (nI (i))), (0, .ref 200), (1, .int (k))]) dX12_count_25 rfl (by decide) rfl ?_
        refine mm_iincN (ls' := [(3, .int (nI (i + 1))), (2, .int ((sp_pc (I 201) i) + (if ¬ (I 201 (1226 + (418 * i)) = 0) then 1 else 0))), (0, .ref 200), (1, .int (k))]) 1 (i) 1 dX12_count_26 rfl rfl (by decide) rfl ?_
        refine mm_goto (tgt := 4) dX12_count_29 (by decide) ?_
        exact mm_sub [0, 1, 2, 3] rfl (ih (i + 1) (by omega) (by omega))
      refine mm_if_eqB (tgt := 23) dX12_count_16 (by decide) (fun c16 => ?_) (fun c16 => ?_)
      · refine mm_iconst (v := 1) dX12_count_23 rfl ?_
        exact mm_top (by first | rfl | (simp [c16]; done) | (rw [if_pos (by simp_all)]; done) | (rw [if_neg (by simp_all)]; done) | (rw [if_pos (by omega)]; done) | (rw [if_neg (by omega)]; done)) K16
      · refine mm_iconst (v := 0) dX12_count_19 rfl ?_
        refine mm_goto (tgt := 24) dX12_count_20 (by decide) ?_
        exact mm_top (by first | rfl | (simp [c16]; done) | (rw [if_pos (by simp_all)]; done) | (rw [if_neg (by simp_all)]; done) | (rw [if_pos (by omega)]; done) | (rw [if_neg (by omega)]; done)) K16
set_option maxRecDepth 100000 in
set_option maxHeartbeats 4000000 in
theorem cm_count {g : mm_G} {I : mm_I} {d : Nat} {w h : Nat} (hW : mo_W (I 201) w h) {k : Int32} (hd : 1 ≤ d) : mm_Ci g zX12_count d [.ref 200, .int k] sh_S I (op_count w h I k) I := by
  refine mm_Ci_of (fun Q hq => ?_)
  refine mm_begin (ls := [(0, .ref 200), (1, .int (k))]) (Nat.le_of_ble_eq_true rfl) rfl rfl ?_
  refine mm_iconst (v := 0) dX12_count_0 rfl ?_
  refine mm_istore_n (ls' := [(2, .int (0)), (0, .ref 200), (1, .int (k))]) dX12_count_1 rfl (by decide) rfl ?_
  refine mm_iconst (v := 0) dX12_count_2 rfl ?_
  refine mm_istore_n (ls' := [(3, .int (0)), (2, .int (0)), (0, .ref 200), (1, .int (k))]) dX12_count_3 rfl (by decide) rfl ?_
  exact lm_count hW hq hd 7 0 (by omega) (by omega)
set_option maxRecDepth 100000 in
set_option maxHeartbeats 4000000 in
theorem lm_kilos0 {g : mm_G} {I : mm_I} {d : Nat} {Q : Option Value → mm_Sh → mm_I → Prop} {w h : Nat} (hW : mo_W (I 201) w h) {x : Int32} (hq : Q (some (.int (rw_sum (fun i => I 201 (110 + i)) (w * h)))) sh_S I) (hd : 1 ≤ d) : ∀ (m : Nat) (i : Nat), (i ≤ w * h) → w * h - i < m → mm_Ex g zX12_kilosOf d (0, 0) (0, 0) sh_S (I) 34 [(3, .int (nI (i))), (2, .int (rw_sum (fun i => I 201 (110 + i)) i)), (0, .ref 200), (1, .int (x))] [] Q := by
  have hc := mo_W_c hW
  obtain ⟨-, -, hw1, hw2, hh1, hh2⟩ := id hW
  intro m
  induction m with
  | zero => intro i hi hmz; exact absurd hmz (Nat.not_lt_zero _)
  | succ m ih =>
    intro i hi hmz
    refine mm_iload_n 0 dX12_kilosOf_34 rfl rfl ?_
    refine mm_aload_n 2 dX12_kilosOf_35 rfl rfl ?_
    refine mm_cV0i (dz := d - 1) dX12_kilosOf_36 rfl mzX12_cells ml_X12_78 imX12_cells (by omega) so_200 ⟨rfl, rfl⟩ (cm_cells hW) (Nat.le_of_ble_eq_true rfl) ⟨Nat.le_refl _, Nat.le_refl _⟩ ?_
    refine mm_icmp_geN (i) (w * h) (tgt := 60) dX12_kilosOf_39 (by decide) (by omega) (by omega) (fun c39 => ?_) (fun c39 => ?_)
    · refine mm_iload_n 1 dX12_kilosOf_60 rfl rfl ?_
      refine mm_iret dX12_kilosOf_61 rfl ⟨Nat.le_refl _, Nat.le_refl _⟩ ?_
      exact (show w * h = i by omega) ▸ hq
    · refine mm_iload_n 1 dX12_kilosOf_42 rfl rfl ?_
      refine mm_aload_n 2 dX12_kilosOf_43 rfl rfl ?_
      refine mm_getr (b := 201) dX12_kilosOf_44 rfl fk_X12_9 rfl so_200 sr_200_0 ?_
      refine mm_bipush (v := 110) dX12_kilosOf_47 rfl ?_
      refine mm_iload_n 0 dX12_kilosOf_49 rfl rfl ?_
      refine mm_iaddN (110) (i) dX12_kilosOf_50 ?_
      refine mm_ialdN (110 + i) dX12_kilosOf_51 sa_201 (by omega) (by omega) ?_
      refine mm_at (pc' := 52) rfl ?_
      refine mm_iadd dX12_kilosOf_52 ?_
      refine mm_istore_n (ls' := [(2, .int ((rw_sum (fun i => I 201 (110 + i)) i) + (I 201 (110 + i)))), (3, .int (nI (i))), (0, .ref 200), (1, .int (x))]) dX12_kilosOf_53 rfl (by decide) rfl ?_
      refine mm_iincN (ls' := [(3, .int (nI (i + 1))), (2, .int ((rw_sum (fun i => I 201 (110 + i)) i) + (I 201 (110 + i)))), (0, .ref 200), (1, .int (x))]) 1 (i) 1 dX12_kilosOf_54 rfl rfl (by decide) rfl ?_
      refine mm_goto (tgt := 34) dX12_kilosOf_57 (by decide) ?_
      exact mm_sub [0, 1, 2, 3] rfl (ih (i + 1) (by omega) (by omega))
set_option maxRecDepth 100000 in
set_option maxHeartbeats 4000000 in
theorem lm_kilos1 {g : mm_G} {I : mm_I} {d : Nat} {Q : Option Value → mm_Sh → mm_I → Prop} {n : Nat} (hm : I 201 16 = nI n) (hm5 : n ≤ 5) {x : Int32} (hq : Q (some (.int (rw_sum (fun i => if I 201 (630 + 40 * i + 5) = 0 then I 201 (630 + 40 * i + 4) else 0) n))) sh_S I) (hd : 1 ≤ d) : ∀ (m : Nat) (i : Nat), (i ≤ n) → n - i < m → mm_Ex g zX12_kilosOf d (0, 0) (0, 0) sh_S (I) 64 [(3, .int (nI (i))), (2, .int (rw_sum (fun i => if I 201 (630 + 40 * i + 5) = 0 then I 201 (630 + 40 * i + 4) else 0) i)), (0, .ref 200), (1, .int (x))] [] Q := by
  intro m
  induction m with
  | zero => intro i hi hmz; exact absurd hmz (Nat.not_lt_zero _)
  | succ m ih =>
    intro i hi hmz
    refine mm_iload_n 0 dX12_kilosOf_64 rfl rfl ?_
    refine mm_aload_n 2 dX12_kilosOf_65 rfl rfl ?_
    refine mm_getr (b := 201) dX12_kilosOf_66 rfl fk_X12_9 rfl so_200 sr_200_0 ?_
    refine mm_bipush (v := 16) dX12_kilosOf_69 rfl ?_
    refine mm_ialdN (16) dX12_kilosOf_71 sa_201 (by omega) (by omega) ?_
    refine mm_top (v := nI (n)) hm ?_
    refine mm_icmp_geN (i) (n) (tgt := 111) dX12_kilosOf_72 (by decide) (by omega) (by omega) (fun c72 => ?_) (fun c72 => ?_)
    · refine mm_iload_n 1 dX12_kilosOf_111 rfl rfl ?_
      refine mm_iret dX12_kilosOf_112 rfl ⟨Nat.le_refl _, Nat.le_refl _⟩ ?_
      exact (show n = i by omega) ▸ hq
    · refine mm_iload_n 1 dX12_kilosOf_75 rfl rfl ?_
      refine mm_aload_n 2 dX12_kilosOf_76 rfl rfl ?_
      refine mm_getr (b := 201) dX12_kilosOf_77 rfl fk_X12_9 rfl so_200 sr_200_0 ?_
      refine mm_iload_n 0 dX12_kilosOf_80 rfl rfl ?_
      refine mm_iconst (v := 5) dX12_kilosOf_81 rfl ?_
      refine mm_cS2i (dz := d - 1) dX12_kilosOf_82 rfl mzX12_of ml_X12_87 imX12_of (by omega) (cm_of (i) (5)) (Nat.le_of_ble_eq_true rfl) ⟨Nat.le_refl _, Nat.le_refl _⟩ ?_
      refine mm_ialdN (630 + 40 * i + 5) dX12_kilosOf_85 sa_201 (by omega) (by omega) ?_
      refine mm_at (pc' := 86) rfl ?_
      have K86 : mm_Ex g zX12_kilosOf d (0, 0) (0, 0) sh_S (I) 103 [(3, .int (nI (i))), (2, .int (rw_sum (fun i => if I 201 (630 + 40 * i + 5) = 0 then I 201 (630 + 40 * i + 4) else 0) i)), (0, .ref 200), (1, .int (x))] [.int (if (I 201 (630 + 40 * i + 5)) = 0 then (I 201 (630 + 40 * i + 4)) else 0), .int (rw_sum (fun i => if I 201 (630 + 40 * i + 5) = 0 then I 201 (630 + 40 * i + 4) else 0) i)] Q := by
        refine mm_iadd dX12_kilosOf_103 ?_
        refine mm_istore_n (ls' := [(2, .int ((rw_sum (fun i => if I 201 (630 + 40 * i + 5) = 0 then I 201 (630 + 40 * i + 4) else 0) i) + (if (I 201 (630 + 40 * i + 5)) = 0 then (I 201 (630 + 40 * i + 4)) else 0))), (3, .int (nI (i))), (0, .ref 200), (1, .int (x))]) dX12_kilosOf_104 rfl (by decide) rfl ?_
        refine mm_iincN (ls' := [(3, .int (nI (i + 1))), (2, .int ((rw_sum (fun i => if I 201 (630 + 40 * i + 5) = 0 then I 201 (630 + 40 * i + 4) else 0) i) + (if (I 201 (630 + 40 * i + 5)) = 0 then (I 201 (630 + 40 * i + 4)) else 0))), (0, .ref 200), (1, .int (x))]) 1 (i) 1 dX12_kilosOf_105 rfl rfl (by decide) rfl ?_
        refine mm_goto (tgt := 64) dX12_kilosOf_108 (by decide) ?_
        exact mm_sub [0, 1, 2, 3] rfl (ih (i + 1) (by omega) (by omega))
      refine mm_if_ne (tgt := 102) dX12_kilosOf_86 (by decide) (fun c86 => ?_) (fun c86 => ?_)
      · refine mm_iconst (v := 0) dX12_kilosOf_102 rfl ?_
        exact mm_top (by rw [if_neg c86]) K86
      · refine mm_aload_n 2 dX12_kilosOf_89 rfl rfl ?_
        refine mm_getr (b := 201) dX12_kilosOf_90 rfl fk_X12_9 rfl so_200 sr_200_0 ?_
        refine mm_iload_n 0 dX12_kilosOf_93 rfl rfl ?_
        refine mm_iconst (v := 4) dX12_kilosOf_94 rfl ?_
        refine mm_cS2i (dz := d - 1) dX12_kilosOf_95 rfl mzX12_of ml_X12_87 imX12_of (by omega) (cm_of (i) (4)) (Nat.le_of_ble_eq_true rfl) ⟨Nat.le_refl _, Nat.le_refl _⟩ ?_
        refine mm_ialdN (630 + 40 * i + 4) dX12_kilosOf_98 sa_201 (by omega) (by omega) ?_
        refine mm_goto (tgt := 103) dX12_kilosOf_99 (by decide) ?_
        exact mm_top (by rw [if_pos c86]) K86
set_option maxRecDepth 100000 in
set_option maxHeartbeats 4000000 in
theorem cm_kilosOf {g : mm_G} {I : mm_I} {d : Nat} {w h : Nat} (hW : mo_W (I 201) w h) {n : Nat} (hm : I 201 16 = nI n) (hm5 : n ≤ 5) {k : Nat} (hk : k < 5) (hd : 1 ≤ d) : mm_Ci g zX12_kilosOf d [.ref 200, .int (nI k)] sh_S I (sp_kof (I 201) (w * h) n k) I := by
  refine mm_Ci_of (fun Q hq => ?_)
  refine mm_begin (ls := [(0, .ref 200), (1, .int (nI (k)))]) (Nat.le_of_ble_eq_true rfl) rfl rfl ?_
  refine mm_iconst (v := 0) dX12_kilosOf_0 rfl ?_
  refine mm_istore_n (ls' := [(2, .int (0)), (0, .ref 200), (1, .int (nI (k)))]) dX12_kilosOf_1 rfl (by decide) rfl ?_
  refine mm_iload_n 2 dX12_kilosOf_2 rfl rfl ?_
  by_cases e3_0 : (k) = 0
  · refine mm_tabIn (0) (tgt := 32) dX12_kilosOf_3 (by rw [e3_0]; rfl) (by decide) (by decide) rfl (by decide) ?_
    subst e3_0
    refine mm_iconst (v := 0) dX12_kilosOf_32 rfl ?_
    refine mm_istore_n (ls' := [(3, .int (0)), (2, .int (0)), (0, .ref 200), (1, .int (nI (0)))]) dX12_kilosOf_33 rfl (by decide) rfl ?_
    exact lm_kilos0 hW hq hd (w * h + 1) 0 (Nat.zero_le _) (by omega)
  by_cases e3_1 : (k) = 1
  · refine mm_tabIn (1) (tgt := 62) dX12_kilosOf_3 (by rw [e3_1]; rfl) (by decide) (by decide) rfl (by decide) ?_
    subst e3_1
    refine mm_iconst (v := 0) dX12_kilosOf_62 rfl ?_
    refine mm_istore_n (ls' := [(3, .int (0)), (2, .int (0)), (0, .ref 200), (1, .int (nI (1)))]) dX12_kilosOf_63 rfl (by decide) rfl ?_
    exact lm_kilos1 hm hm5 hq hd (n + 1) 0 (Nat.zero_le _) (by omega)
  by_cases e3_2 : (k) = 2
  · refine mm_tabIn (2) (tgt := 113) dX12_kilosOf_3 (by rw [e3_2]; rfl) (by decide) (by decide) rfl (by decide) ?_
    subst e3_2
    refine mm_aload_n 1 dX12_kilosOf_113 rfl rfl ?_
    refine mm_getr (b := 201) dX12_kilosOf_114 rfl fk_X12_9 rfl so_200 sr_200_0 ?_
    refine mm_bipush (v := 10) dX12_kilosOf_117 rfl ?_
    refine mm_ialdN (10) dX12_kilosOf_119 sa_201 (by omega) (by omega) ?_
    refine mm_iret dX12_kilosOf_120 rfl ⟨Nat.le_refl _, Nat.le_refl _⟩ ?_
    exact hq
  by_cases e3_3 : (k) = 3
  · refine mm_tabIn (3) (tgt := 121) dX12_kilosOf_3 (by rw [e3_3]; rfl) (by decide) (by decide) rfl (by decide) ?_
    subst e3_3
    refine mm_aload_n 1 dX12_kilosOf_121 rfl rfl ?_
    refine mm_getr (b := 201) dX12_kilosOf_122 rfl fk_X12_9 rfl so_200 sr_200_0 ?_
    refine mm_bipush (v := 14) dX12_kilosOf_125 rfl ?_
    refine mm_ialdN (14) dX12_kilosOf_127 sa_201 (by omega) (by omega) ?_
    refine mm_iret dX12_kilosOf_128 rfl ⟨Nat.le_refl _, Nat.le_refl _⟩ ?_
    exact hq
  refine mm_tabOut 0 4 (tgt := 129) dX12_kilosOf_3 rfl (by decide) (fun k hk q => by have q := (nI_eq (by omega) (by omega)).mp q; omega) (by decide) ?_
  refine mm_aload_n 1 dX12_kilosOf_129 rfl rfl ?_
  refine mm_getr (b := 201) dX12_kilosOf_130 rfl fk_X12_9 rfl so_200 sr_200_0 ?_
  refine mm_bipush (v := 13) dX12_kilosOf_133 rfl ?_
  refine mm_ialdN (13) dX12_kilosOf_135 sa_201 (by omega) (by omega) ?_
  refine mm_iret dX12_kilosOf_136 rfl ⟨Nat.le_refl _, Nat.le_refl _⟩ ?_
  have e : k = 4 := by omega
  subst e
  exact hq
set_option maxRecDepth 100000 in
set_option maxHeartbeats 4000000 in
theorem lm_kilos {g : mm_G} {I : mm_I} {d : Nat} {Q : Option Value → mm_Sh → mm_I → Prop} {w h : Nat} (hW : mo_W (I 201) w h) {n : Nat} (hm : I 201 16 = nI n) (hm5 : n ≤ 5) {k : Int32} (hq : Q (some (.int (rw_sum (fun i => if k = 5 ∨ k = nI i then sp_kof (I 201) (w * h) n i else 0) 5))) sh_S I) (hd : 2 ≤ d) : ∀ (m : Nat) (i : Nat), (i ≤ 5) → 5 - i < m → mm_Ex g zX12_kilos d (0, 0) (0, 0) sh_S (I) 16 [(3, .int (nI (i))), (2, .int (rw_sum (fun i => if k = 5 ∨ k = nI i then sp_kof (I 201) (w * h) n i else 0) i)), (0, .ref 200), (1, .int (k))] [] Q := by
  intro m
  induction m with
  | zero => intro i hi hmz; exact absurd hmz (Nat.not_lt_zero _)
  | succ m ih =>
    intro i hi hmz
    refine mm_iload_n 0 dX12_kilos_16 rfl rfl ?_
    refine mm_iconst (v := 5) dX12_kilos_17 rfl ?_
    refine mm_icmp_geN (i) (5) (tgt := 49) dX12_kilos_18 (by decide) (by omega) (by omega) (fun c18 => ?_) (fun c18 => ?_)
    · refine mm_iload_n 1 dX12_kilos_49 rfl rfl ?_
      refine mm_iret dX12_kilos_50 rfl ⟨Nat.le_refl _, Nat.le_refl _⟩ ?_
      exact (show 5 = i by omega) ▸ hq
    · refine mm_iload_n 1 dX12_kilos_21 rfl rfl ?_
      refine mm_iload_n 3 dX12_kilos_22 rfl rfl ?_
      refine mm_iconst (v := 5) dX12_kilos_23 rfl ?_
      refine mm_icmp_eq (tgt := 32) dX12_kilos_24 (by decide) (fun c24 => ?_) (fun c24 => ?_)
      · refine mm_aload_n 2 dX12_kilos_32 rfl rfl ?_
        refine mm_iload_n 0 dX12_kilos_33 rfl rfl ?_
        refine mm_cV1i (dz := d - 1) dX12_kilos_34 rfl mzX12_kilosOf ml_X12_329 imX12_kilosOf (by omega) so_200 ⟨rfl, rfl⟩ (cm_kilosOf hW hm hm5 (by omega) (by omega)) (Nat.le_of_ble_eq_true rfl) ⟨Nat.le_refl _, Nat.le_refl _⟩ ?_
        refine mm_goto (tgt := 41) dX12_kilos_37 (by decide) ?_
        refine mm_iadd dX12_kilos_41 ?_
        refine mm_istore_n (ls' := [(2, .int ((rw_sum (fun i => if k = 5 ∨ k = nI i then sp_kof (I 201) (w * h) n i else 0) i) + (sp_kof (I 201) (w * h) n i))), (3, .int (nI (i))), (0, .ref 200), (1, .int (k))]) dX12_kilos_42 rfl (by decide) rfl ?_
        refine mm_iincN (ls' := [(3, .int (nI (i + 1))), (2, .int ((rw_sum (fun i => if k = 5 ∨ k = nI i then sp_kof (I 201) (w * h) n i else 0) i) + (sp_kof (I 201) (w * h) n i))), (0, .ref 200), (1, .int (k))]) 1 (i) 1 dX12_kilos_43 rfl rfl (by decide) rfl ?_
        refine mm_goto (tgt := 16) dX12_kilos_46 (by decide) ?_
        refine mm_sub [0, 1, 2, 3] rfl ?_
        have h := ih (i + 1) (by omega) (by omega)
        rw [rw_sum] at h
        first | (rw [if_pos (Or.inl c24)] at h; exact h) | (rw [if_pos (Or.inr c29)] at h; exact h) | (rw [if_neg (by intro q; rcases q with q | q; exact c24 q; exact c29 q)] at h; exact h)
      · refine mm_iload_n 3 dX12_kilos_27 rfl rfl ?_
        refine mm_iload_n 0 dX12_kilos_28 rfl rfl ?_
        refine mm_icmp_ne (tgt := 40) dX12_kilos_29 (by decide) (fun c29 => ?_) (fun c29 => ?_)
        · refine mm_iconst (v := 0) dX12_kilos_40 rfl ?_
          refine mm_iadd dX12_kilos_41 ?_
          refine mm_istore_n (ls' := [(2, .int ((rw_sum (fun i => if k = 5 ∨ k = nI i then sp_kof (I 201) (w * h) n i else 0) i) + 0)), (3, .int (nI (i))), (0, .ref 200), (1, .int (k))]) dX12_kilos_42 rfl (by decide) rfl ?_
          refine mm_iincN (ls' := [(3, .int (nI (i + 1))), (2, .int ((rw_sum (fun i => if k = 5 ∨ k = nI i then sp_kof (I 201) (w * h) n i else 0) i) + 0)), (0, .ref 200), (1, .int (k))]) 1 (i) 1 dX12_kilos_43 rfl rfl (by decide) rfl ?_
          refine mm_goto (tgt := 16) dX12_kilos_46 (by decide) ?_
          refine mm_sub [0, 1, 2, 3] rfl ?_
          have h := ih (i + 1) (by omega) (by omega)
          rw [rw_sum] at h
          first | (rw [if_pos (Or.inl c24)] at h; exact h) | (rw [if_pos (Or.inr c29)] at h; exact h) | (rw [if_neg (by intro q; rcases q with q | q; exact c24 q; exact c29 q)] at h; exact h)
        · refine mm_aload_n 2 dX12_kilos_32 rfl rfl ?_
          refine mm_iload_n 0 dX12_kilos_33 rfl rfl ?_
          refine mm_cV1i (dz := d - 1) dX12_kilos_34 rfl mzX12_kilosOf ml_X12_329 imX12_kilosOf (by omega) so_200 ⟨rfl, rfl⟩ (cm_kilosOf hW hm hm5 (by omega) (by omega)) (Nat.le_of_ble_eq_true rfl) ⟨Nat.le_refl _, Nat.le_refl _⟩ ?_
          refine mm_goto (tgt := 41) dX12_kilos_37 (by decide) ?_
          refine mm_iadd dX12_kilos_41 ?_
          refine mm_istore_n (ls' := [(2, .int ((rw_sum (fun i => if k = 5 ∨ k = nI i then sp_kof (I 201) (w * h) n i else 0) i) + (sp_kof (I 201) (w * h) n i))), (3, .int (nI (i))), (0, .ref 200), (1, .int (k))]) dX12_kilos_42 rfl (by decide) rfl ?_
          refine mm_iincN (ls' := [(3, .int (nI (i + 1))), (2, .int ((rw_sum (fun i => if k = 5 ∨ k = nI i then sp_kof (I 201) (w * h) n i else 0) i) + (sp_kof (I 201) (w * h) n i))), (0, .ref 200), (1, .int (k))]) 1 (i) 1 dX12_kilos_43 rfl rfl (by decide) rfl ?_
          refine mm_goto (tgt := 16) dX12_kilos_46 (by decide) ?_
          refine mm_sub [0, 1, 2, 3] rfl ?_
          have h := ih (i + 1) (by omega) (by omega)
          rw [rw_sum] at h
          first | (rw [if_pos (Or.inl c24)] at h; exact h) | (rw [if_pos (Or.inr c29)] at h; exact h) | (rw [if_neg (by intro q; rcases q with q | q; exact c24 q; exact c29 q)] at h; exact h)
set_option maxRecDepth 100000 in
set_option maxHeartbeats 4000000 in
theorem cm_kilos {g : mm_G} {I : mm_I} {d : Nat} {w h : Nat} (hW : mo_W (I 201) w h) {n : Nat} (hm : I 201 16 = nI n) (hm5 : n ≤ 5) {k : Int32} (hd : 2 ≤ d) : mm_Ci g zX12_kilos d [.ref 200, .int k] sh_S I (op_kilos w h n I k) I := by
  refine mm_Ci_of (fun Q hq => ?_)
  refine mm_begin (ls := [(0, .ref 200), (1, .int (k))]) (Nat.le_of_ble_eq_true rfl) rfl rfl ?_
  refine mm_iload_n 1 dX12_kilos_0 rfl rfl ?_
  refine mm_iconst (v := 0) dX12_kilos_1 rfl ?_
  refine mm_iconst (v := 5) dX12_kilos_2 rfl ?_
  refine mm_cS3i (dz := d - 1) dX12_kilos_3 rfl mzX12_within ml_X12_82 imX12_within (by omega) cm_within (Nat.le_of_ble_eq_true rfl) ⟨Nat.le_refl _, Nat.le_refl _⟩ ?_
  refine mm_if_neB (tgt := 12) dX12_kilos_6 (by decide) (fun c6 => ?_) (fun c6 => ?_)
  · refine mm_iconst (v := 0) dX12_kilos_12 rfl ?_
    refine mm_istore_n (ls' := [(2, .int (0)), (0, .ref 200), (1, .int (k))]) dX12_kilos_13 rfl (by decide) rfl ?_
    refine mm_iconst (v := 0) dX12_kilos_14 rfl ?_
    refine mm_istore_n (ls' := [(3, .int (0)), (2, .int (0)), (0, .ref 200), (1, .int (k))]) dX12_kilos_15 rfl (by decide) rfl ?_
    rw [op_kilos, if_neg (fun q => q c6)] at hq
    exact lm_kilos hW hm hm5 hq hd 6 0 (by omega) (by omega)
  · refine mm_ldc dX12_kilos_9 rfl kc_X12_86 ?_
    refine mm_iret dX12_kilos_11 rfl ⟨Nat.le_refl _, Nat.le_refl _⟩ ?_
    exact mm_l1 (by unfold op_kilos; rw [if_pos c6]) hq
