/-! THE REFERENCE: nights -/
def sp_bit (o : Int32) (l : Nat) : Int32 := (o >>> (nI l &&& 31)) &&& 1
def sp_pb (N : Nat → Int32) (o : Int32) : Nat → Int32
  | 0 => 0
  | l + 1 => sp_pb N o l + (if ((o) >>> ((nI (l)) &&& 31)) &&& 1 = 0 then N (590 + l) else 0)
def sp_hb (N : Nat → Int32) (o : Int32) : Nat → Int32
  | 0 => 0
  | l + 1 => sp_hb N o l + (((o) >>> ((nI (l)) &&& 31)) &&& 1) * N (598 + l)
def sp_mn (o : Int32) : Nat → Int32
  | 0 => 0
  | l + 1 => sp_mn o l + (((o) >>> ((nI (l)) &&& 31)) &&& 1)
/-- whether a cut is better than the best one so far -/
abbrev sp_bt (N : Nat → Int32) (l : Nat) (o b : Int32) : Prop := b < 0 ∨ sp_hb N o l < sp_hb N b l ∨ (sp_hb N o l = sp_hb N b l ∧ ¬ sp_mn b 8 ≤ sp_mn o 8)
def sp_fc (N : Nat → Int32) (l : Nat) (n : Int32) : Nat → Int32
  | 0 => -1
  | o + 1 => if sp_pb N (nI o) l * n ≤ N 4 then (if sp_bt N l (nI o) (sp_fc N l n o) then nI o else sp_fc N l n o) else sp_fc N l n o
def op_night (l : Nat) (J : mm_I) (n : Int32) : Int32 := if sp_wi n 1 24 then sp_hb (J 201) (sp_fc (J 201) l n (2 ^ l)) l else (-1000000001)
def op_cut (l : Nat) (J : mm_I) (n : Int32) : Int32 := if sp_wi n 1 24 then sp_fc (J 201) l n (2 ^ l) else (-1000000001)
theorem sp_2l {l : Nat} (h : l ≤ 8) : ((1 : Int32) <<< ((nI l) &&& 31)) = nI (2 ^ l) := by
  rcases (show l = 0 ∨ l = 1 ∨ l = 2 ∨ l = 3 ∨ l = 4 ∨ l = 5 ∨ l = 6 ∨ l = 7 ∨ l = 8 by omega) with rfl | rfl | rfl | rfl | rfl | rfl | rfl | rfl | rfl <;> decide
theorem sp_2b {l : Nat} (h : l ≤ 8) : 2 ^ l ≤ 256 := by
  rcases (show l = 0 ∨ l = 1 ∨ l = 2 ∨ l = 3 ∨ l = 4 ∨ l = 5 ∨ l = 6 ∨ l = 7 ∨ l = 8 by omega) with rfl | rfl | rfl | rfl | rfl | rfl | rfl | rfl | rfl <;> decide
set_option maxRecDepth 100000 in
set_option maxHeartbeats 4000000 in
theorem lm_pb {g : mm_G} {I : mm_I} {d : Nat} {Q : Option Value → mm_Sh → mm_I → Prop} {l : Nat} (hl : I 201 15 = nI l) (hl8 : l ≤ 8) {o : Int32} (hq : Q (some (.int (sp_pb (I 201) o l))) sh_S I) : ∀ (m : Nat) (i : Nat), (i ≤ l) → l - i < m → mm_Ex g zX12_powerBut d (0, 0) (0, 0) sh_S (I) 4 [(3, .int (nI (i))), (2, .int (sp_pb (I 201) o i)), (0, .ref 200), (1, .int (o))] [] Q := by
  intro m
  induction m with
  | zero => intro i hi hmz; exact absurd hmz (Nat.not_lt_zero _)
  | succ m ih =>
    intro i hi hmz
    refine mm_iload_n 0 dX12_powerBut_4 rfl rfl ?_
    refine mm_aload_n 2 dX12_powerBut_5 rfl rfl ?_
    refine mm_getr (b := 201) dX12_powerBut_6 rfl fk_X12_9 rfl so_200 sr_200_0 ?_
    refine mm_bipush (v := 15) dX12_powerBut_9 rfl ?_
    refine mm_ialdN (15) dX12_powerBut_11 sa_201 (by omega) (by omega) ?_
    refine mm_top (v := nI (l)) hl ?_
    refine mm_icmp_geN (i) (l) (tgt := 46) dX12_powerBut_12 (by decide) (by omega) (by omega) (fun c12 => ?_) (fun c12 => ?_)
    · refine mm_iload_n 1 dX12_powerBut_46 rfl rfl ?_
      refine mm_iret dX12_powerBut_47 rfl ⟨Nat.le_refl _, Nat.le_refl _⟩ ?_
      exact (show l = i by omega) ▸ hq
    · refine mm_iload_n 1 dX12_powerBut_15 rfl rfl ?_
      refine mm_iload_n 3 dX12_powerBut_16 rfl rfl ?_
      refine mm_iload_n 0 dX12_powerBut_17 rfl rfl ?_
      refine mm_ishr dX12_powerBut_18 ?_
      refine mm_iconst (v := 1) dX12_powerBut_19 rfl ?_
      refine mm_iand dX12_powerBut_20 ?_
      have K21 : mm_Ex g zX12_powerBut d (0, 0) (0, 0) sh_S (I) 38 [(3, .int (nI (i))), (2, .int (sp_pb (I 201) o i)), (0, .ref 200), (1, .int (o))] [.int (if (((o) >>> ((nI (i)) &&& 31)) &&& 1) = 0 then (I 201 (590 + i)) else 0), .int (sp_pb (I 201) o i)] Q := by
        refine mm_iadd dX12_powerBut_38 ?_
        refine mm_istore_n (ls' := [(2, .int ((sp_pb (I 201) o i) + (if (((o) >>> ((nI (i)) &&& 31)) &&& 1) = 0 then (I 201 (590 + i)) else 0))), (3, .int (nI (i))), (0, .ref 200), (1, .int (o))]) dX12_powerBut_39 rfl (by decide) rfl ?_
        refine mm_iincN (ls' := [(3, .int (nI (i + 1))), (2, .int ((sp_pb (I 201) o i) + (if (((o) >>> ((nI (i)) &&& 31)) &&& 1) = 0 then (I 201 (590 + i)) else 0))), (0, .ref 200), (1, .int (o))]) 1 (i) 1 dX12_powerBut_40 rfl rfl (by decide) rfl ?_
        refine mm_goto (tgt := 4) dX12_powerBut_43 (by decide) ?_
        exact mm_sub [0, 1, 2, 3] rfl (ih (i + 1) (by omega) (by omega))
      refine mm_if_ne (tgt := 37) dX12_powerBut_21 (by decide) (fun c21 => ?_) (fun c21 => ?_)
      · refine mm_iconst (v := 0) dX12_powerBut_37 rfl ?_
        exact mm_top (by rw [if_neg c21]) K21
      · refine mm_aload_n 2 dX12_powerBut_24 rfl rfl ?_
        refine mm_getr (b := 201) dX12_powerBut_25 rfl fk_X12_9 rfl so_200 sr_200_0 ?_
        refine mm_sipush (v := 590) dX12_powerBut_28 rfl ?_
        refine mm_iload_n 0 dX12_powerBut_31 rfl rfl ?_
        refine mm_iaddN (590) (i) dX12_powerBut_32 ?_
        refine mm_ialdN (590 + i) dX12_powerBut_33 sa_201 (by omega) (by omega) ?_
        refine mm_goto (tgt := 38) dX12_powerBut_34 (by decide) ?_
        exact mm_top (by rw [if_pos c21]) K21
set_option maxRecDepth 100000 in
set_option maxHeartbeats 4000000 in
theorem cm_powerBut {g : mm_G} {I : mm_I} {d : Nat} {l : Nat} (hl : I 201 15 = nI l) (hl8 : l ≤ 8) {o : Int32} : mm_Ci g zX12_powerBut d [.ref 200, .int o] sh_S I (sp_pb (I 201) o l) I := by
  refine mm_Ci_of (fun Q hq => ?_)
  refine mm_begin (ls := [(0, .ref 200), (1, .int (o))]) (Nat.le_of_ble_eq_true rfl) rfl rfl ?_
  refine mm_iconst (v := 0) dX12_powerBut_0 rfl ?_
  refine mm_istore_n (ls' := [(2, .int (0)), (0, .ref 200), (1, .int (o))]) dX12_powerBut_1 rfl (by decide) rfl ?_
  refine mm_iconst (v := 0) dX12_powerBut_2 rfl ?_
  refine mm_istore_n (ls' := [(3, .int (0)), (2, .int (0)), (0, .ref 200), (1, .int (o))]) dX12_powerBut_3 rfl (by decide) rfl ?_
  exact lm_pb hl hl8 hq (l + 1) 0 (by omega) (by omega)
set_option maxRecDepth 100000 in
set_option maxHeartbeats 4000000 in
theorem lm_hb {g : mm_G} {I : mm_I} {d : Nat} {Q : Option Value → mm_Sh → mm_I → Prop} {l : Nat} (hl : I 201 15 = nI l) (hl8 : l ≤ 8) {o : Int32} (hq : Q (some (.int (sp_hb (I 201) o l))) sh_S I) : ∀ (m : Nat) (i : Nat), (i ≤ l) → l - i < m → mm_Ex g zX12_harmOf d (0, 0) (0, 0) sh_S (I) 4 [(3, .int (nI (i))), (2, .int (sp_hb (I 201) o i)), (0, .ref 200), (1, .int (o))] [] Q := by
  intro m
  induction m with
  | zero => intro i hi hmz; exact absurd hmz (Nat.not_lt_zero _)
  | succ m ih =>
    intro i hi hmz
    refine mm_iload_n 0 dX12_harmOf_4 rfl rfl ?_
    refine mm_aload_n 2 dX12_harmOf_5 rfl rfl ?_
    refine mm_getr (b := 201) dX12_harmOf_6 rfl fk_X12_9 rfl so_200 sr_200_0 ?_
    refine mm_bipush (v := 15) dX12_harmOf_9 rfl ?_
    refine mm_ialdN (15) dX12_harmOf_11 sa_201 (by omega) (by omega) ?_
    refine mm_top (v := nI (l)) hl ?_
    refine mm_icmp_geN (i) (l) (tgt := 40) dX12_harmOf_12 (by decide) (by omega) (by omega) (fun c12 => ?_) (fun c12 => ?_)
    · refine mm_iload_n 1 dX12_harmOf_40 rfl rfl ?_
      refine mm_iret dX12_harmOf_41 rfl ⟨Nat.le_refl _, Nat.le_refl _⟩ ?_
      exact (show l = i by omega) ▸ hq
    · refine mm_iload_n 1 dX12_harmOf_15 rfl rfl ?_
      refine mm_iload_n 3 dX12_harmOf_16 rfl rfl ?_
      refine mm_iload_n 0 dX12_harmOf_17 rfl rfl ?_
      refine mm_ishr dX12_harmOf_18 ?_
      refine mm_iconst (v := 1) dX12_harmOf_19 rfl ?_
      refine mm_iand dX12_harmOf_20 ?_
      refine mm_aload_n 2 dX12_harmOf_21 rfl rfl ?_
      refine mm_at (pc' := 22) rfl ?_
      refine mm_getr (b := 201) dX12_harmOf_22 rfl fk_X12_9 rfl so_200 sr_200_0 ?_
      refine mm_sipush (v := 598) dX12_harmOf_25 rfl ?_
      refine mm_iload_n 0 dX12_harmOf_28 rfl rfl ?_
      refine mm_iaddN (598) (i) dX12_harmOf_29 ?_
      refine mm_ialdN (598 + i) dX12_harmOf_30 sa_201 (by omega) (by omega) ?_
      refine mm_imul dX12_harmOf_31 ?_
      refine mm_iadd dX12_harmOf_32 ?_
      refine mm_istore_n (ls' := [(2, .int ((sp_hb (I 201) o i) + ((((o) >>> ((nI (i)) &&& 31)) &&& 1) * (I 201 (598 + i))))), (3, .int (nI (i))), (0, .ref 200), (1, .int (o))]) dX12_harmOf_33 rfl (by decide) rfl ?_
      refine mm_at (pc' := 34) rfl ?_
      refine mm_iincN (ls' := [(3, .int (nI (i + 1))), (2, .int ((sp_hb (I 201) o i) + ((((o) >>> ((nI (i)) &&& 31)) &&& 1) * (I 201 (598 + i))))), (0, .ref 200), (1, .int (o))]) 1 (i) 1 dX12_harmOf_34 rfl rfl (by decide) rfl ?_
      refine mm_goto (tgt := 4) dX12_harmOf_37 (by decide) ?_
      exact mm_sub [0, 1, 2, 3] rfl (ih (i + 1) (by omega) (by omega))
set_option maxRecDepth 100000 in
set_option maxHeartbeats 4000000 in
theorem cm_harmOf {g : mm_G} {I : mm_I} {d : Nat} {l : Nat} (hl : I 201 15 = nI l) (hl8 : l ≤ 8) {o : Int32} : mm_Ci g zX12_harmOf d [.ref 200, .int o] sh_S I (sp_hb (I 201) o l) I := by
  refine mm_Ci_of (fun Q hq => ?_)
  refine mm_begin (ls := [(0, .ref 200), (1, .int (o))]) (Nat.le_of_ble_eq_true rfl) rfl rfl ?_
  refine mm_iconst (v := 0) dX12_harmOf_0 rfl ?_
  refine mm_istore_n (ls' := [(2, .int (0)), (0, .ref 200), (1, .int (o))]) dX12_harmOf_1 rfl (by decide) rfl ?_
  refine mm_iconst (v := 0) dX12_harmOf_2 rfl ?_
  refine mm_istore_n (ls' := [(3, .int (0)), (2, .int (0)), (0, .ref 200), (1, .int (o))]) dX12_harmOf_3 rfl (by decide) rfl ?_
  exact lm_hb hl hl8 hq (l + 1) 0 (by omega) (by omega)
set_option maxRecDepth 100000 in
set_option maxHeartbeats 4000000 in
theorem lm_mn {g : mm_G} {I : mm_I} {d : Nat} {Q : Option Value → mm_Sh → mm_I → Prop} {o : Int32} (hq : Q (some (.int (sp_mn o 8))) sh_S I) : ∀ (m : Nat) (i : Nat), (i ≤ 8) → 8 - i < m → mm_Ex g zX12_many d (0, 0) (0, 0) sh_S (I) 4 [(2, .int (nI (i))), (1, .int (sp_mn o i)), (0, .int (o))] [] Q := by
  intro m
  induction m with
  | zero => intro i hi hmz; exact absurd hmz (Nat.not_lt_zero _)
  | succ m ih =>
    intro i hi hmz
    refine mm_iload_n 0 dX12_many_4 rfl rfl ?_
    refine mm_bipush (v := 8) dX12_many_5 rfl ?_
    refine mm_icmp_geN (i) (8) (tgt := 24) dX12_many_7 (by decide) (by omega) (by omega) (fun c7 => ?_) (fun c7 => ?_)
    · refine mm_iload_n 1 dX12_many_24 rfl rfl ?_
      refine mm_iret dX12_many_25 rfl ⟨Nat.le_refl _, Nat.le_refl _⟩ ?_
      exact (show 8 = i by omega) ▸ hq
    · refine mm_iload_n 1 dX12_many_10 rfl rfl ?_
      refine mm_iload_n 2 dX12_many_11 rfl rfl ?_
      refine mm_iload_n 0 dX12_many_12 rfl rfl ?_
      refine mm_ishr dX12_many_13 ?_
      refine mm_iconst (v := 1) dX12_many_14 rfl ?_
      refine mm_iand dX12_many_15 ?_
      refine mm_iadd dX12_many_16 ?_
      refine mm_at (pc' := 17) rfl ?_
      refine mm_istore_n (ls' := [(1, .int ((sp_mn o i) + (((o) >>> ((nI (i)) &&& 31)) &&& 1))), (2, .int (nI (i))), (0, .int (o))]) dX12_many_17 rfl (by decide) rfl ?_
      refine mm_iincN (ls' := [(2, .int (nI (i + 1))), (1, .int ((sp_mn o i) + (((o) >>> ((nI (i)) &&& 31)) &&& 1))), (0, .int (o))]) 1 (i) 1 dX12_many_18 rfl rfl (by decide) rfl ?_
      refine mm_goto (tgt := 4) dX12_many_21 (by decide) ?_
      exact mm_sub [0, 1, 2] rfl (ih (i + 1) (by omega) (by omega))
set_option maxRecDepth 100000 in
set_option maxHeartbeats 4000000 in
theorem cm_many {g : mm_G} {I : mm_I} {d : Nat} {o : Int32} : mm_Ci g zX12_many d [.int o] sh_S I (sp_mn o 8) I := by
  refine mm_Ci_of (fun Q hq => ?_)
  refine mm_begin (ls := [(0, .int (o))]) (Nat.le_of_ble_eq_true rfl) rfl rfl ?_
  refine mm_iconst (v := 0) dX12_many_0 rfl ?_
  refine mm_istore_n (ls' := [(1, .int (0)), (0, .int (o))]) dX12_many_1 rfl (by decide) rfl ?_
  refine mm_iconst (v := 0) dX12_many_2 rfl ?_
  refine mm_istore_n (ls' := [(2, .int (0)), (1, .int (0)), (0, .int (o))]) dX12_many_3 rfl (by decide) rfl ?_
  exact lm_mn hq 9 0 (by omega) (by omega)
set_option maxRecDepth 100000 in
set_option maxHeartbeats 4000000 in
theorem lm_fc {g : mm_G} {I : mm_I} {d : Nat} {Q : Option Value → mm_Sh → mm_I → Prop} {l : Nat} (hl : I 201 15 = nI l) (hl8 : l ≤ 8) {n : Int32} (hq : Q (some (.int (sp_fc (I 201) l n (2 ^ l)))) sh_S I) (hd : 1 ≤ d) : ∀ (m : Nat) (i : Nat), (i ≤ 2 ^ l) → 2 ^ l - i < m → mm_Ex g zX12_findCut d (0, 0) (0, 0) sh_S (I) 4 [(3, .int (nI (i))), (2, .int (sp_fc (I 201) l n i)), (0, .ref 200), (1, .int (n))] [] Q := by
  have h256 := sp_2b hl8
  intro m
  induction m with
  | zero => intro i hi hmz; exact absurd hmz (Nat.not_lt_zero _)
  | succ m ih =>
    intro i hi hmz
    refine mm_iload_n 0 dX12_findCut_4 rfl rfl ?_
    refine mm_iconst (v := 1) dX12_findCut_5 rfl ?_
    refine mm_aload_n 2 dX12_findCut_6 rfl rfl ?_
    refine mm_getr (b := 201) dX12_findCut_7 rfl fk_X12_9 rfl so_200 sr_200_0 ?_
    refine mm_bipush (v := 15) dX12_findCut_10 rfl ?_
    refine mm_ialdN (15) dX12_findCut_12 sa_201 (by omega) (by omega) ?_
    refine mm_top (v := nI (l)) hl ?_
    refine mm_ishl dX12_findCut_13 ?_
    refine mm_top (v := nI (2 ^ l)) (sp_2l hl8) ?_
    refine mm_icmp_geN (i) (2 ^ l) (tgt := 101) dX12_findCut_14 (by decide) (by omega) (by omega) (fun c14 => ?_) (fun c14 => ?_)
    · refine mm_iload_n 1 dX12_findCut_101 rfl rfl ?_
      refine mm_iret dX12_findCut_102 rfl ⟨Nat.le_refl _, Nat.le_refl _⟩ ?_
      exact (show 2 ^ l = i by omega) ▸ hq
    · refine mm_aload_n 2 dX12_findCut_17 rfl rfl ?_
      refine mm_iload_n 0 dX12_findCut_18 rfl rfl ?_
      refine mm_cV1i (dz := d - 1) dX12_findCut_19 rfl mzX12_powerBut ml_X12_332 imX12_powerBut (by omega) so_200 ⟨rfl, rfl⟩ (cm_powerBut hl hl8) (Nat.le_of_ble_eq_true rfl) ⟨Nat.le_refl _, Nat.le_refl _⟩ ?_
      refine mm_iload_n 3 dX12_findCut_22 rfl rfl ?_
      refine mm_imul dX12_findCut_23 ?_
      refine mm_aload_n 2 dX12_findCut_24 rfl rfl ?_
      refine mm_getr (b := 201) dX12_findCut_25 rfl fk_X12_9 rfl so_200 sr_200_0 ?_
      refine mm_at (pc' := 28) rfl ?_
      refine mm_iconst (v := 4) dX12_findCut_28 rfl ?_
      refine mm_ialdN (4) dX12_findCut_29 sa_201 (by omega) (by omega) ?_
      refine mm_icmp_le (tgt := 36) dX12_findCut_30 (by decide) (fun c30 => ?_) (fun c30 => ?_)
      · refine mm_iload_n 1 dX12_findCut_36 rfl rfl ?_
        have K37 : mm_Ex g zX12_findCut d (0, 0) (0, 0) sh_S (I) 82 [(3, .int (nI (i))), (2, .int (sp_fc (I 201) l n i)), (0, .ref 200), (1, .int (n))] [.int (if ((sp_fc (I 201) l n i) < 0) ∨ (((sp_hb (I 201) (nI (i)) l) < (sp_hb (I 201) (sp_fc (I 201) l n i) l)) ∨ (((sp_hb (I 201) (nI (i)) l) = (sp_hb (I 201) (sp_fc (I 201) l n i) l)) ∧ (¬ ((sp_mn (sp_fc (I 201) l n i) 8) ≤ (sp_mn (nI (i)) 8))))) then 1 else 0)] Q := by
          refine mm_istore (ls' := [(4, .int (if ((sp_fc (I 201) l n i) < 0) ∨ (((sp_hb (I 201) (nI (i)) l) < (sp_hb (I 201) (sp_fc (I 201) l n i) l)) ∨ (((sp_hb (I 201) (nI (i)) l) = (sp_hb (I 201) (sp_fc (I 201) l n i) l)) ∧ (¬ ((sp_mn (sp_fc (I 201) l n i) 8) ≤ (sp_mn (nI (i)) 8))))) then 1 else 0)), (3, .int (nI (i))), (2, .int (sp_fc (I 201) l n i)), (0, .ref 200), (1, .int (n))]) dX12_findCut_82 (by decide) rfl ?_
          refine mm_iload 0 dX12_findCut_84 rfl ?_
          have K86 : mm_Ex g zX12_findCut d (0, 0) (0, 0) sh_S (I) 94 [(4, .int (if ((sp_fc (I 201) l n i) < 0) ∨ (((sp_hb (I 201) (nI (i)) l) < (sp_hb (I 201) (sp_fc (I 201) l n i) l)) ∨ (((sp_hb (I 201) (nI (i)) l) = (sp_hb (I 201) (sp_fc (I 201) l n i) l)) ∧ (¬ ((sp_mn (sp_fc (I 201) l n i) 8) ≤ (sp_mn (nI (i)) 8))))) then 1 else 0)), (3, .int (nI (i))), (2, .int (sp_fc (I 201) l n i)), (0, .ref 200), (1, .int (n))] [.int (if ((sp_fc (I 201) l n i) < 0) ∨ (((sp_hb (I 201) (nI (i)) l) < (sp_hb (I 201) (sp_fc (I 201) l n i) l)) ∨ (((sp_hb (I 201) (nI (i)) l) = (sp_hb (I 201) (sp_fc (I 201) l n i) l)) ∧ (¬ ((sp_mn (sp_fc (I 201) l n i) 8) ≤ (sp_mn (nI (i)) 8))))) then (nI (i)) else (sp_fc (I 201) l n i))] Q := by
            refine mm_istore_n (ls' := [(2, .int (if ((sp_fc (I 201) l n i) < 0) ∨ (((sp_hb (I 201) (nI (i)) l) < (sp_hb (I 201) (sp_fc (I 201) l n i) l)) ∨ (((sp_hb (I 201) (nI (i)) l) = (sp_hb (I 201) (sp_fc (I 201) l n i) l)) ∧ (¬ ((sp_mn (sp_fc (I 201) l n i) 8) ≤ (sp_mn (nI (i)) 8))))) then (nI (i)) else (sp_fc (I 201) l n i))), (4, .int (if ((sp_fc (I 201) l n i) < 0) ∨ (((sp_hb (I 201) (nI (i)) l) < (sp_hb (I 201) (sp_fc (I 201) l n i) l)) ∨ (((sp_hb (I 201) (nI (i)) l) = (sp_hb (I 201) (sp_fc (I 201) l n i) l)) ∧ (¬ ((sp_mn (sp_fc (I 201) l n i) 8) ≤ (sp_mn (nI (i)) 8))))) then 1 else 0)), (3, .int (nI (i))), (0, .ref 200), (1, .int (n))]) dX12_findCut_94 rfl (by decide) rfl ?_
            refine mm_iincN (ls' := [(3, .int (nI (i + 1))), (2, .int (if ((sp_fc (I 201) l n i) < 0) ∨ (((sp_hb (I 201) (nI (i)) l) < (sp_hb (I 201) (sp_fc (I 201) l n i) l)) ∨ (((sp_hb (I 201) (nI (i)) l) = (sp_hb (I 201) (sp_fc (I 201) l n i) l)) ∧ (¬ ((sp_mn (sp_fc (I 201) l n i) 8) ≤ (sp_mn (nI (i)) 8))))) then (nI (i)) else (sp_fc (I 201) l n i))), (4, .int (if ((sp_fc (I 201) l n i) < 0) ∨ (((sp_hb (I 201) (nI (i)) l) < (sp_hb (I 201) (sp_fc (I 201) l n i) l)) ∨ (((sp_hb (I 201) (nI (i)) l) = (sp_hb (I 201) (sp_fc (I 201) l n i) l)) ∧ (¬ ((sp_mn (sp_fc (I 201) l n i) 8) ≤ (sp_mn (nI (i)) 8))))) then 1 else 0)), (0, .ref 200), (1, .int (n))]) 2 (i) 1 dX12_findCut_95 rfl rfl (by decide) rfl ?_
            refine mm_goto (tgt := 4) dX12_findCut_98 (by decide) ?_
            refine mm_sub [0, 1, 3, 4] rfl ?_
            have hh := ih (i + 1) (by omega) (by omega)
            rw [sp_fc, if_pos c30] at hh
            exact hh
          refine mm_if_eqB (tgt := 93) dX12_findCut_86 (by decide) (fun c86 => ?_) (fun c86 => ?_)
          · refine mm_iload_n 2 dX12_findCut_93 rfl rfl ?_
            exact mm_top (by rw [if_neg c86]) K86
          · refine mm_iload_n 1 dX12_findCut_89 rfl rfl ?_
            refine mm_goto (tgt := 94) dX12_findCut_90 (by decide) ?_
            exact mm_top (by rw [if_pos c86]) K86
        refine mm_if_lt (tgt := 77) dX12_findCut_37 (by decide) (fun c37 => ?_) (fun c37 => ?_)
        · refine mm_iconst (v := 1) dX12_findCut_77 rfl ?_
          refine mm_goto (tgt := 82) dX12_findCut_78 (by decide) ?_
          exact mm_top (by first | rfl | (simp [c37]; done) | (rw [if_pos (by simp_all)]; done) | (rw [if_neg (by simp_all)]; done) | (rw [if_pos (by omega)]; done) | (rw [if_neg (by omega)]; done)) K37
        · refine mm_aload_n 2 dX12_findCut_40 rfl rfl ?_
          refine mm_iload_n 0 dX12_findCut_41 rfl rfl ?_
          refine mm_cV1i (dz := d - 1) dX12_findCut_42 rfl mzX12_harmOf ml_X12_335 imX12_harmOf (by omega) so_200 ⟨rfl, rfl⟩ (cm_harmOf hl hl8) (Nat.le_of_ble_eq_true rfl) ⟨Nat.le_refl _, Nat.le_refl _⟩ ?_
          refine mm_aload_n 2 dX12_findCut_45 rfl rfl ?_
          refine mm_iload_n 1 dX12_findCut_46 rfl rfl ?_
          refine mm_cV1i (dz := d - 1) dX12_findCut_47 rfl mzX12_harmOf ml_X12_335 imX12_harmOf (by omega) so_200 ⟨rfl, rfl⟩ (cm_harmOf hl hl8) (Nat.le_of_ble_eq_true rfl) ⟨Nat.le_refl _, Nat.le_refl _⟩ ?_
          refine mm_icmp_lt (tgt := 77) dX12_findCut_50 (by decide) (fun c50 => ?_) (fun c50 => ?_)
          · refine mm_iconst (v := 1) dX12_findCut_77 rfl ?_
            refine mm_goto (tgt := 82) dX12_findCut_78 (by decide) ?_
            exact mm_top (by first | rfl | (simp [c37, c50]; done) | (rw [if_pos (by simp_all)]; done) | (rw [if_neg (by simp_all)]; done) | (rw [if_pos (by omega)]; done) | (rw [if_neg (by omega)]; done)) K37
          · refine mm_aload_n 2 dX12_findCut_53 rfl rfl ?_
            refine mm_iload_n 0 dX12_findCut_54 rfl rfl ?_
            refine mm_cV1i (dz := d - 1) dX12_findCut_55 rfl mzX12_harmOf ml_X12_335 imX12_harmOf (by omega) so_200 ⟨rfl, rfl⟩ (cm_harmOf hl hl8) (Nat.le_of_ble_eq_true rfl) ⟨Nat.le_refl _, Nat.le_refl _⟩ ?_
            refine mm_aload_n 2 dX12_findCut_58 rfl rfl ?_
            refine mm_iload_n 1 dX12_findCut_59 rfl rfl ?_
            refine mm_cV1i (dz := d - 1) dX12_findCut_60 rfl mzX12_harmOf ml_X12_335 imX12_harmOf (by omega) so_200 ⟨rfl, rfl⟩ (cm_harmOf hl hl8) (Nat.le_of_ble_eq_true rfl) ⟨Nat.le_refl _, Nat.le_refl _⟩ ?_
            refine mm_icmp_ne (tgt := 81) dX12_findCut_63 (by decide) (fun c63 => ?_) (fun c63 => ?_)
            · refine mm_iconst (v := 0) dX12_findCut_81 rfl ?_
              exact mm_top (by first | rfl | (simp [c37, c50, c63]; done) | (rw [if_pos (by simp_all)]; done) | (rw [if_neg (by simp_all)]; done) | (rw [if_pos (by omega)]; done) | (rw [if_neg (by omega)]; done)) K37
            · refine mm_iload_n 0 dX12_findCut_66 rfl rfl ?_
              refine mm_cS1i (dz := d - 1) dX12_findCut_67 rfl mzX12_many ml_X12_338 imX12_many (by omega) cm_many (Nat.le_of_ble_eq_true rfl) ⟨Nat.le_refl _, Nat.le_refl _⟩ ?_
              refine mm_iload_n 1 dX12_findCut_70 rfl rfl ?_
              refine mm_cS1i (dz := d - 1) dX12_findCut_71 rfl mzX12_many ml_X12_338 imX12_many (by omega) cm_many (Nat.le_of_ble_eq_true rfl) ⟨Nat.le_refl _, Nat.le_refl _⟩ ?_
              refine mm_icmp_ge (tgt := 81) dX12_findCut_74 (by decide) (fun c74 => ?_) (fun c74 => ?_)
              · refine mm_iconst (v := 0) dX12_findCut_81 rfl ?_
                exact mm_top (by first | rfl | (simp [c37, c50, c63, c74]; done) | (rw [if_pos (by simp_all)]; done) | (rw [if_neg (by simp_all)]; done) | (rw [if_pos (by omega)]; done) | (rw [if_neg (by omega)]; done)) K37
              · refine mm_iconst (v := 1) dX12_findCut_77 rfl ?_
                refine mm_goto (tgt := 82) dX12_findCut_78 (by decide) ?_
                exact mm_top (by first | rfl | (simp [c37, c50, c63, c74]; done) | (rw [if_pos (by simp_all)]; done) | (rw [if_neg (by simp_all)]; done) | (rw [if_pos (by omega)]; done) | (rw [if_neg (by omega)]; done)) K37
      · refine mm_goto (tgt := 95) dX12_findCut_33 (by decide) ?_
        refine mm_iincN (ls' := [(3, .int (nI (i + 1))), (2, .int (sp_fc (I 201) l n i)), (0, .ref 200), (1, .int (n))]) 0 (i) 1 dX12_findCut_95 rfl rfl (by decide) rfl ?_
        refine mm_goto (tgt := 4) dX12_findCut_98 (by decide) ?_
        refine mm_sub [0, 1, 2, 3] rfl ?_
        have hh := ih (i + 1) (by omega) (by omega)
        rw [sp_fc, if_neg c30] at hh
        exact hh
set_option maxRecDepth 100000 in
set_option maxHeartbeats 4000000 in
theorem cm_findCut {g : mm_G} {I : mm_I} {d : Nat} {l : Nat} (hl : I 201 15 = nI l) (hl8 : l ≤ 8) {n : Int32} (hd : 1 ≤ d) : mm_Ci g zX12_findCut d [.ref 200, .int n] sh_S I (sp_fc (I 201) l n (2 ^ l)) I := by
  refine mm_Ci_of (fun Q hq => ?_)
  refine mm_begin (ls := [(0, .ref 200), (1, .int (n))]) (Nat.le_of_ble_eq_true rfl) rfl rfl ?_
  refine mm_iconst (v := -1) dX12_findCut_0 rfl ?_
  refine mm_istore_n (ls' := [(2, .int (-1)), (0, .ref 200), (1, .int (n))]) dX12_findCut_1 rfl (by decide) rfl ?_
  refine mm_iconst (v := 0) dX12_findCut_2 rfl ?_
  refine mm_istore_n (ls' := [(3, .int (0)), (2, .int (-1)), (0, .ref 200), (1, .int (n))]) dX12_findCut_3 rfl (by decide) rfl ?_
  exact lm_fc hl hl8 hq hd (2 ^ l + 1) 0 (Nat.zero_le _) (Nat.lt_succ_of_le (Nat.sub_le _ _))
set_option maxRecDepth 100000 in
set_option maxHeartbeats 4000000 in
theorem cm_night {g : mm_G} {I : mm_I} {d : Nat} {l : Nat} (hl : I 201 15 = nI l) (hl8 : l ≤ 8) {n : Int32} (hd : 2 ≤ d) : mm_Ci g zX12_night d [.ref 200, .int n] sh_S I (op_night l I n) I := by
  refine mm_Ci_of (fun Q hq => ?_)
  refine mm_begin (ls := [(0, .ref 200), (1, .int (n))]) (Nat.le_of_ble_eq_true rfl) rfl rfl ?_
  refine mm_iload_n 1 dX12_night_0 rfl rfl ?_
  refine mm_iconst (v := 1) dX12_night_1 rfl ?_
  refine mm_bipush (v := 24) dX12_night_2 rfl ?_
  refine mm_cS3i (dz := d - 1) dX12_night_4 rfl mzX12_within ml_X12_82 imX12_within (by omega) cm_within (Nat.le_of_ble_eq_true rfl) ⟨Nat.le_refl _, Nat.le_refl _⟩ ?_
  refine mm_if_eqB (tgt := 22) dX12_night_7 (by decide) (fun c7 => ?_) (fun c7 => ?_)
  · refine mm_ldc dX12_night_22 rfl kc_X12_86 ?_
    refine mm_iret dX12_night_24 rfl ⟨Nat.le_refl _, Nat.le_refl _⟩ ?_
    exact mm_l1 (by unfold op_night; rw [if_neg c7]) hq
  · refine mm_aload_n 0 dX12_night_10 rfl rfl ?_
    refine mm_aload_n 0 dX12_night_11 rfl rfl ?_
    refine mm_iload_n 1 dX12_night_12 rfl rfl ?_
    refine mm_cV1i (dz := d - 1) dX12_night_13 rfl mzX12_findCut ml_X12_341 imX12_findCut (by omega) so_200 ⟨rfl, rfl⟩ (cm_findCut hl hl8 (by omega)) (Nat.le_of_ble_eq_true rfl) ⟨Nat.le_refl _, Nat.le_refl _⟩ ?_
    refine mm_cV1i (dz := d - 1) dX12_night_16 rfl mzX12_harmOf ml_X12_335 imX12_harmOf (by omega) so_200 ⟨rfl, rfl⟩ (cm_harmOf hl hl8) (Nat.le_of_ble_eq_true rfl) ⟨Nat.le_refl _, Nat.le_refl _⟩ ?_
    refine mm_goto (tgt := 24) dX12_night_19 (by decide) ?_
    refine mm_iret dX12_night_24 rfl ⟨Nat.le_refl _, Nat.le_refl _⟩ ?_
    exact mm_l1 (by unfold op_night; rw [if_pos c7]) hq
set_option maxRecDepth 100000 in
set_option maxHeartbeats 4000000 in
theorem cm_cut {g : mm_G} {I : mm_I} {d : Nat} {l : Nat} (hl : I 201 15 = nI l) (hl8 : l ≤ 8) {n : Int32} (hd : 2 ≤ d) : mm_Ci g zX12_cut d [.ref 200, .int n] sh_S I (op_cut l I n) I := by
  refine mm_Ci_of (fun Q hq => ?_)
  refine mm_begin (ls := [(0, .ref 200), (1, .int (n))]) (Nat.le_of_ble_eq_true rfl) rfl rfl ?_
  refine mm_iload_n 1 dX12_cut_0 rfl rfl ?_
  refine mm_iconst (v := 1) dX12_cut_1 rfl ?_
  refine mm_bipush (v := 24) dX12_cut_2 rfl ?_
  refine mm_cS3i (dz := d - 1) dX12_cut_4 rfl mzX12_within ml_X12_82 imX12_within (by omega) cm_within (Nat.le_of_ble_eq_true rfl) ⟨Nat.le_refl _, Nat.le_refl _⟩ ?_
  refine mm_if_eqB (tgt := 18) dX12_cut_7 (by decide) (fun c7 => ?_) (fun c7 => ?_)
  · refine mm_ldc dX12_cut_18 rfl kc_X12_86 ?_
    refine mm_iret dX12_cut_20 rfl ⟨Nat.le_refl _, Nat.le_refl _⟩ ?_
    exact mm_l1 (by unfold op_cut; rw [if_neg c7]) hq
  · refine mm_aload_n 0 dX12_cut_10 rfl rfl ?_
    refine mm_iload_n 1 dX12_cut_11 rfl rfl ?_
    refine mm_cV1i (dz := d - 1) dX12_cut_12 rfl mzX12_findCut ml_X12_341 imX12_findCut (by omega) so_200 ⟨rfl, rfl⟩ (cm_findCut hl hl8 (by omega)) (Nat.le_of_ble_eq_true rfl) ⟨Nat.le_refl _, Nat.le_refl _⟩ ?_
    refine mm_goto (tgt := 20) dX12_cut_15 (by decide) ?_
    refine mm_iret dX12_cut_20 rfl ⟨Nat.le_refl _, Nat.le_refl _⟩ ?_
    exact mm_l1 (by unfold op_cut; rw [if_pos c7]) hq
