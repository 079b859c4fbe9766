/-! THE CLASS: its ground, small methods -/
set_option maxRecDepth 100000 in
set_option maxHeartbeats 600000 in
theorem cu_1_0 {g : mm_G} {S : mm_Sh} {I : mm_I} {d : Nat} {kind : Int32} : mm_Ci g zX11_isUnder d [.ref (mm_KB + 1), .int (nI 0), .int kind] S I (if nI 0 = kind then 1 else 0) I := by
  refine mm_Ci_of (fun Q hq => ?_)
  refine mm_begin (ls := [(0, .ref (mm_KB + 1)), (1, .int (nI (0))), (2, .int (kind))]) (Nat.le_of_ble_eq_true rfl) rfl rfl ?_
  refine mm_iload_n 1 dX11_isUnder_0 rfl rfl ?_
  refine mm_istore_n (ls' := [(3, .int (nI (0))), (0, .ref (mm_KB + 1)), (1, .int (nI (0))), (2, .int (kind))]) dX11_isUnder_1 rfl (by decide) rfl ?_
  refine mm_iconst (v := 0) dX11_isUnder_2 rfl ?_
  refine mm_istore (ls' := [(4, .int (0)), (3, .int (nI (0))), (0, .ref (mm_KB + 1)), (1, .int (nI (0))), (2, .int (kind))]) dX11_isUnder_3 (by decide) rfl ?_
  refine mm_iload 0 dX11_isUnder_5 rfl ?_
  refine mm_aload_n 2 dX11_isUnder_7 rfl rfl ?_
  refine mm_alenK (j := 1) dX11_isUnder_8 rfl ?_
  refine mm_icmp_ge (tgt := 39) dX11_isUnder_9 (by decide) (fun q => absurd q (by decide)) (fun _ => ?_)
  refine mm_iload_n 1 dX11_isUnder_12 rfl rfl ?_
  refine mm_if_ltN (0) (tgt := 39) dX11_isUnder_13 (by decide) (by omega) ?_
  refine mm_iload_n 1 dX11_isUnder_16 rfl rfl ?_
  refine mm_aload_n 2 dX11_isUnder_17 rfl rfl ?_
  refine mm_alenK (j := 1) dX11_isUnder_18 rfl ?_
  refine mm_icmp_ge (tgt := 39) dX11_isUnder_19 (by decide) (fun q => absurd q (by decide)) (fun _ => ?_)
  refine mm_iload_n 1 dX11_isUnder_22 rfl rfl ?_
  refine mm_iload_n 4 dX11_isUnder_23 rfl rfl ?_
  refine mm_icmp_ne (tgt := 29) dX11_isUnder_24 (by decide) (fun c24 => ?_) (fun c24 => ?_)
  · refine mm_aload_n 2 dX11_isUnder_29 rfl rfl ?_
    refine mm_iload_n 1 dX11_isUnder_30 rfl rfl ?_
    refine mm_ialdKN (0) dX11_isUnder_31 rfl (by omega) (by omega) ?_
    refine mm_top (v := -1) rfl ?_
    refine mm_istore_n (ls' := [(3, .int (-1)), (4, .int (0)), (0, .ref (mm_KB + 1)), (1, .int (nI (0))), (2, .int (kind))]) dX11_isUnder_32 rfl (by decide) rfl ?_
    refine mm_iinc (v := 1) (ls' := [(4, .int (1)), (3, .int (-1)), (0, .ref (mm_KB + 1)), (1, .int (nI (0))), (2, .int (kind))]) 1 dX11_isUnder_33 rfl (by decide) (by decide) rfl ?_
    refine mm_goto (tgt := 5) dX11_isUnder_36 (by decide) ?_
    refine mm_iload 0 dX11_isUnder_5 rfl ?_
    refine mm_aload_n 2 dX11_isUnder_7 rfl rfl ?_
    refine mm_alenK (j := 1) dX11_isUnder_8 rfl ?_
    refine mm_icmp_ge (tgt := 39) dX11_isUnder_9 (by decide) (fun q => absurd q (by decide)) (fun _ => ?_)
    refine mm_iload_n 1 dX11_isUnder_12 rfl rfl ?_
    refine mm_if_lt (tgt := 39) dX11_isUnder_13 (by decide) (fun _ => ?_) (fun q => absurd (by decide) q)
    refine mm_iconst (v := 0) dX11_isUnder_39 rfl ?_
    refine mm_zret dX11_isUnder_40 rfl (by decide) ⟨Nat.le_refl _, Nat.le_refl _⟩ ?_
    rw [if_neg (by assumption)] at hq; exact hq
  · refine mm_iconst (v := 1) dX11_isUnder_27 rfl ?_
    refine mm_zret dX11_isUnder_28 rfl (by decide) ⟨Nat.le_refl _, Nat.le_refl _⟩ ?_
    rw [if_pos (by first | assumption | exact Or.inl (by assumption) | exact Or.inr (by assumption) | exact Or.inr (Or.inl (by assumption)) | exact Or.inr (Or.inr (by assumption)))] at hq; exact hq
set_option maxRecDepth 100000 in
set_option maxHeartbeats 600000 in
theorem cu_1_1 {g : mm_G} {S : mm_Sh} {I : mm_I} {d : Nat} {kind : Int32} : mm_Ci g zX11_isUnder d [.ref (mm_KB + 1), .int (nI 1), .int kind] S I (if nI 1 = kind then 1 else 0) I := by
  refine mm_Ci_of (fun Q hq => ?_)
  refine mm_begin (ls := [(0, .ref (mm_KB + 1)), (1, .int (nI (1))), (2, .int (kind))]) (Nat.le_of_ble_eq_true rfl) rfl rfl ?_
  refine mm_iload_n 1 dX11_isUnder_0 rfl rfl ?_
  refine mm_istore_n (ls' := [(3, .int (nI (1))), (0, .ref (mm_KB + 1)), (1, .int (nI (1))), (2, .int (kind))]) dX11_isUnder_1 rfl (by decide) rfl ?_
  refine mm_iconst (v := 0) dX11_isUnder_2 rfl ?_
  refine mm_istore (ls' := [(4, .int (0)), (3, .int (nI (1))), (0, .ref (mm_KB + 1)), (1, .int (nI (1))), (2, .int (kind))]) dX11_isUnder_3 (by decide) rfl ?_
  refine mm_iload 0 dX11_isUnder_5 rfl ?_
  refine mm_aload_n 2 dX11_isUnder_7 rfl rfl ?_
  refine mm_alenK (j := 1) dX11_isUnder_8 rfl ?_
  refine mm_icmp_ge (tgt := 39) dX11_isUnder_9 (by decide) (fun q => absurd q (by decide)) (fun _ => ?_)
  refine mm_iload_n 1 dX11_isUnder_12 rfl rfl ?_
  refine mm_if_ltN (1) (tgt := 39) dX11_isUnder_13 (by decide) (by omega) ?_
  refine mm_iload_n 1 dX11_isUnder_16 rfl rfl ?_
  refine mm_aload_n 2 dX11_isUnder_17 rfl rfl ?_
  refine mm_alenK (j := 1) dX11_isUnder_18 rfl ?_
  refine mm_icmp_ge (tgt := 39) dX11_isUnder_19 (by decide) (fun q => absurd q (by decide)) (fun _ => ?_)
  refine mm_iload_n 1 dX11_isUnder_22 rfl rfl ?_
  refine mm_iload_n 4 dX11_isUnder_23 rfl rfl ?_
  refine mm_icmp_ne (tgt := 29) dX11_isUnder_24 (by decide) (fun c24 => ?_) (fun c24 => ?_)
  · refine mm_aload_n 2 dX11_isUnder_29 rfl rfl ?_
    refine mm_iload_n 1 dX11_isUnder_30 rfl rfl ?_
    refine mm_ialdKN (1) dX11_isUnder_31 rfl (by omega) (by omega) ?_
    refine mm_top (v := -1) rfl ?_
    refine mm_istore_n (ls' := [(3, .int (-1)), (4, .int (0)), (0, .ref (mm_KB + 1)), (1, .int (nI (1))), (2, .int (kind))]) dX11_isUnder_32 rfl (by decide) rfl ?_
    refine mm_iinc (v := 1) (ls' := [(4, .int (1)), (3, .int (-1)), (0, .ref (mm_KB + 1)), (1, .int (nI (1))), (2, .int (kind))]) 1 dX11_isUnder_33 rfl (by decide) (by decide) rfl ?_
    refine mm_goto (tgt := 5) dX11_isUnder_36 (by decide) ?_
    refine mm_iload 0 dX11_isUnder_5 rfl ?_
    refine mm_aload_n 2 dX11_isUnder_7 rfl rfl ?_
    refine mm_alenK (j := 1) dX11_isUnder_8 rfl ?_
    refine mm_icmp_ge (tgt := 39) dX11_isUnder_9 (by decide) (fun q => absurd q (by decide)) (fun _ => ?_)
    refine mm_iload_n 1 dX11_isUnder_12 rfl rfl ?_
    refine mm_if_lt (tgt := 39) dX11_isUnder_13 (by decide) (fun _ => ?_) (fun q => absurd (by decide) q)
    refine mm_iconst (v := 0) dX11_isUnder_39 rfl ?_
    refine mm_zret dX11_isUnder_40 rfl (by decide) ⟨Nat.le_refl _, Nat.le_refl _⟩ ?_
    rw [if_neg (by assumption)] at hq; exact hq
  · refine mm_iconst (v := 1) dX11_isUnder_27 rfl ?_
    refine mm_zret dX11_isUnder_28 rfl (by decide) ⟨Nat.le_refl _, Nat.le_refl _⟩ ?_
    rw [if_pos (by first | assumption | exact Or.inl (by assumption) | exact Or.inr (by assumption) | exact Or.inr (Or.inl (by assumption)) | exact Or.inr (Or.inr (by assumption)))] at hq; exact hq
set_option maxRecDepth 100000 in
set_option maxHeartbeats 600000 in
theorem cu_1_2 {g : mm_G} {S : mm_Sh} {I : mm_I} {d : Nat} {kind : Int32} : mm_Ci g zX11_isUnder d [.ref (mm_KB + 1), .int (nI 2), .int kind] S I (if nI 2 = kind ∨ nI 0 = kind then 1 else 0) I := by
  refine mm_Ci_of (fun Q hq => ?_)
  refine mm_begin (ls := [(0, .ref (mm_KB + 1)), (1, .int (nI (2))), (2, .int (kind))]) (Nat.le_of_ble_eq_true rfl) rfl rfl ?_
  refine mm_iload_n 1 dX11_isUnder_0 rfl rfl ?_
  refine mm_istore_n (ls' := [(3, .int (nI (2))), (0, .ref (mm_KB + 1)), (1, .int (nI (2))), (2, .int (kind))]) dX11_isUnder_1 rfl (by decide) rfl ?_
  refine mm_iconst (v := 0) dX11_isUnder_2 rfl ?_
  refine mm_istore (ls' := [(4, .int (0)), (3, .int (nI (2))), (0, .ref (mm_KB + 1)), (1, .int (nI (2))), (2, .int (kind))]) dX11_isUnder_3 (by decide) rfl ?_
  refine mm_iload 0 dX11_isUnder_5 rfl ?_
  refine mm_aload_n 2 dX11_isUnder_7 rfl rfl ?_
  refine mm_alenK (j := 1) dX11_isUnder_8 rfl ?_
  refine mm_icmp_ge (tgt := 39) dX11_isUnder_9 (by decide) (fun q => absurd q (by decide)) (fun _ => ?_)
  refine mm_iload_n 1 dX11_isUnder_12 rfl rfl ?_
  refine mm_if_ltN (2) (tgt := 39) dX11_isUnder_13 (by decide) (by omega) ?_
  refine mm_iload_n 1 dX11_isUnder_16 rfl rfl ?_
  refine mm_aload_n 2 dX11_isUnder_17 rfl rfl ?_
  refine mm_alenK (j := 1) dX11_isUnder_18 rfl ?_
  refine mm_icmp_ge (tgt := 39) dX11_isUnder_19 (by decide) (fun q => absurd q (by decide)) (fun _ => ?_)
  refine mm_iload_n 1 dX11_isUnder_22 rfl rfl ?_
  refine mm_iload_n 4 dX11_isUnder_23 rfl rfl ?_
  refine mm_icmp_ne (tgt := 29) dX11_isUnder_24 (by decide) (fun c24 => ?_) (fun c24 => ?_)
  · refine mm_aload_n 2 dX11_isUnder_29 rfl rfl ?_
    refine mm_iload_n 1 dX11_isUnder_30 rfl rfl ?_
    refine mm_ialdKN (2) dX11_isUnder_31 rfl (by omega) (by omega) ?_
    refine mm_top (v := nI (0)) rfl ?_
    refine mm_istore_n (ls' := [(3, .int (nI (0))), (4, .int (0)), (0, .ref (mm_KB + 1)), (1, .int (nI (2))), (2, .int (kind))]) dX11_isUnder_32 rfl (by decide) rfl ?_
    refine mm_iinc (v := 1) (ls' := [(4, .int (1)), (3, .int (nI (0))), (0, .ref (mm_KB + 1)), (1, .int (nI (2))), (2, .int (kind))]) 1 dX11_isUnder_33 rfl (by decide) (by decide) rfl ?_
    refine mm_goto (tgt := 5) dX11_isUnder_36 (by decide) ?_
    refine mm_iload 0 dX11_isUnder_5 rfl ?_
    refine mm_aload_n 2 dX11_isUnder_7 rfl rfl ?_
    refine mm_alenK (j := 1) dX11_isUnder_8 rfl ?_
    refine mm_icmp_ge (tgt := 39) dX11_isUnder_9 (by decide) (fun q => absurd q (by decide)) (fun _ => ?_)
    refine mm_iload_n 1 dX11_isUnder_12 rfl rfl ?_
    refine mm_if_ltN (0) (tgt := 39) dX11_isUnder_13 (by decide) (by omega) ?_
    refine mm_iload_n 1 dX11_isUnder_16 rfl rfl ?_
    refine mm_aload_n 2 dX11_isUnder_17 rfl rfl ?_
    refine mm_alenK (j := 1) dX11_isUnder_18 rfl ?_
    refine mm_icmp_ge (tgt := 39) dX11_isUnder_19 (by decide) (fun q => absurd q (by decide)) (fun _ => ?_)
    refine mm_iload_n 1 dX11_isUnder_22 rfl rfl ?_
    refine mm_iload_n 4 dX11_isUnder_23 rfl rfl ?_
    refine mm_icmp_ne (tgt := 29) dX11_isUnder_24 (by decide) (fun c24 => ?_) (fun c24 => ?_)
    · refine mm_aload_n 2 dX11_isUnder_29 rfl rfl ?_
      refine mm_iload_n 1 dX11_isUnder_30 rfl rfl ?_
      refine mm_ialdKN (0) dX11_isUnder_31 rfl (by omega) (by omega) ?_
      refine mm_top (v := -1) rfl ?_
      refine mm_istore_n (ls' := [(3, .int (-1)), (4, .int (1)), (0, .ref (mm_KB + 1)), (1, .int (nI (2))), (2, .int (kind))]) dX11_isUnder_32 rfl (by decide) rfl ?_
      refine mm_iinc (v := 2) (ls' := [(4, .int (2)), (3, .int (-1)), (0, .ref (mm_KB + 1)), (1, .int (nI (2))), (2, .int (kind))]) 1 dX11_isUnder_33 rfl (by decide) (by decide) rfl ?_
      refine mm_goto (tgt := 5) dX11_isUnder_36 (by decide) ?_
      refine mm_iload 0 dX11_isUnder_5 rfl ?_
      refine mm_aload_n 2 dX11_isUnder_7 rfl rfl ?_
      refine mm_alenK (j := 1) dX11_isUnder_8 rfl ?_
      refine mm_icmp_ge (tgt := 39) dX11_isUnder_9 (by decide) (fun q => absurd q (by decide)) (fun _ => ?_)
      refine mm_iload_n 1 dX11_isUnder_12 rfl rfl ?_
      refine mm_if_lt (tgt := 39) dX11_isUnder_13 (by decide) (fun _ => ?_) (fun q => absurd (by decide) q)
      refine mm_iconst (v := 0) dX11_isUnder_39 rfl ?_
      refine mm_zret dX11_isUnder_40 rfl (by decide) ⟨Nat.le_refl _, Nat.le_refl _⟩ ?_
      rw [if_neg (fun q => by rcases q with q | q <;> contradiction)] at hq; exact hq
    · refine mm_iconst (v := 1) dX11_isUnder_27 rfl ?_
      refine mm_zret dX11_isUnder_28 rfl (by decide) ⟨Nat.le_refl _, Nat.le_refl _⟩ ?_
      rw [if_pos (by first | assumption | exact Or.inl (by assumption) | exact Or.inr (by assumption) | exact Or.inr (Or.inl (by assumption)) | exact Or.inr (Or.inr (by assumption)))] at hq; exact hq
  · refine mm_iconst (v := 1) dX11_isUnder_27 rfl ?_
    refine mm_zret dX11_isUnder_28 rfl (by decide) ⟨Nat.le_refl _, Nat.le_refl _⟩ ?_
    rw [if_pos (by first | assumption | exact Or.inl (by assumption) | exact Or.inr (by assumption) | exact Or.inr (Or.inl (by assumption)) | exact Or.inr (Or.inr (by assumption)))] at hq; exact hq
set_option maxRecDepth 100000 in
set_option maxHeartbeats 600000 in
theorem cu_1_3 {g : mm_G} {S : mm_Sh} {I : mm_I} {d : Nat} {kind : Int32} : mm_Ci g zX11_isUnder d [.ref (mm_KB + 1), .int (nI 3), .int kind] S I (if nI 3 = kind ∨ nI 0 = kind then 1 else 0) I := by
  refine mm_Ci_of (fun Q hq => ?_)
  refine mm_begin (ls := [(0, .ref (mm_KB + 1)), (1, .int (nI (3))), (2, .int (kind))]) (Nat.le_of_ble_eq_true rfl) rfl rfl ?_
  refine mm_iload_n 1 dX11_isUnder_0 rfl rfl ?_
  refine mm_istore_n (ls' := [(3, .int (nI (3))), (0, .ref (mm_KB + 1)), (1, .int (nI (3))), (2, .int (kind))]) dX11_isUnder_1 rfl (by decide) rfl ?_
  refine mm_iconst (v := 0) dX11_isUnder_2 rfl ?_
  refine mm_istore (ls' := [(4, .int (0)), (3, .int (nI (3))), (0, .ref (mm_KB + 1)), (1, .int (nI (3))), (2, .int (kind))]) dX11_isUnder_3 (by decide) rfl ?_
  refine mm_iload 0 dX11_isUnder_5 rfl ?_
  refine mm_aload_n 2 dX11_isUnder_7 rfl rfl ?_
  refine mm_alenK (j := 1) dX11_isUnder_8 rfl ?_
  refine mm_icmp_ge (tgt := 39) dX11_isUnder_9 (by decide) (fun q => absurd q (by decide)) (fun _ => ?_)
  refine mm_iload_n 1 dX11_isUnder_12 rfl rfl ?_
  refine mm_if_ltN (3) (tgt := 39) dX11_isUnder_13 (by decide) (by omega) ?_
  refine mm_iload_n 1 dX11_isUnder_16 rfl rfl ?_
  refine mm_aload_n 2 dX11_isUnder_17 rfl rfl ?_
  refine mm_alenK (j := 1) dX11_isUnder_18 rfl ?_
  refine mm_icmp_ge (tgt := 39) dX11_isUnder_19 (by decide) (fun q => absurd q (by decide)) (fun _ => ?_)
  refine mm_iload_n 1 dX11_isUnder_22 rfl rfl ?_
  refine mm_iload_n 4 dX11_isUnder_23 rfl rfl ?_
  refine mm_icmp_ne (tgt := 29) dX11_isUnder_24 (by decide) (fun c24 => ?_) (fun c24 => ?_)
  · refine mm_aload_n 2 dX11_isUnder_29 rfl rfl ?_
    refine mm_iload_n 1 dX11_isUnder_30 rfl rfl ?_
    refine mm_ialdKN (3) dX11_isUnder_31 rfl (by omega) (by omega) ?_
    refine mm_top (v := nI (0)) rfl ?_
    refine mm_istore_n (ls' := [(3, .int (nI (0))), (4, .int (0)), (0, .ref (mm_KB + 1)), (1, .int (nI (3))), (2, .int (kind))]) dX11_isUnder_32 rfl (by decide) rfl ?_
    refine mm_iinc (v := 1) (ls' := [(4, .int (1)), (3, .int (nI (0))), (0, .ref (mm_KB + 1)), (1, .int (nI (3))), (2, .int (kind))]) 1 dX11_isUnder_33 rfl (by decide) (by decide) rfl ?_
    refine mm_goto (tgt := 5) dX11_isUnder_36 (by decide) ?_
    refine mm_iload 0 dX11_isUnder_5 rfl ?_
    refine mm_aload_n 2 dX11_isUnder_7 rfl rfl ?_
    refine mm_alenK (j := 1) dX11_isUnder_8 rfl ?_
    refine mm_icmp_ge (tgt := 39) dX11_isUnder_9 (by decide) (fun q => absurd q (by decide)) (fun _ => ?_)
    refine mm_iload_n 1 dX11_isUnder_12 rfl rfl ?_
    refine mm_if_ltN (0) (tgt := 39) dX11_isUnder_13 (by decide) (by omega) ?_
    refine mm_iload_n 1 dX11_isUnder_16 rfl rfl ?_
    refine mm_aload_n 2 dX11_isUnder_17 rfl rfl ?_
    refine mm_alenK (j := 1) dX11_isUnder_18 rfl ?_
    refine mm_icmp_ge (tgt := 39) dX11_isUnder_19 (by decide) (fun q => absurd q (by decide)) (fun _ => ?_)
    refine mm_iload_n 1 dX11_isUnder_22 rfl rfl ?_
    refine mm_iload_n 4 dX11_isUnder_23 rfl rfl ?_
    refine mm_icmp_ne (tgt := 29) dX11_isUnder_24 (by decide) (fun c24 => ?_) (fun c24 => ?_)
    · refine mm_aload_n 2 dX11_isUnder_29 rfl rfl ?_
      refine mm_iload_n 1 dX11_isUnder_30 rfl rfl ?_
      refine mm_ialdKN (0) dX11_isUnder_31 rfl (by omega) (by omega) ?_
      refine mm_top (v := -1) rfl ?_
      refine mm_istore_n (ls' := [(3, .int (-1)), (4, .int (1)), (0, .ref (mm_KB + 1)), (1, .int (nI (3))), (2, .int (kind))]) dX11_isUnder_32 rfl (by decide) rfl ?_
      refine mm_iinc (v := 2) (ls' := [(4, .int (2)), (3, .int (-1)), (0, .ref (mm_KB + 1)), (1, .int (nI (3))), (2, .int (kind))]) 1 dX11_isUnder_33 rfl (by decide) (by decide) rfl ?_
      refine mm_goto (tgt := 5) dX11_isUnder_36 (by decide) ?_
      refine mm_iload 0 dX11_isUnder_5 rfl ?_
      refine mm_aload_n 2 dX11_isUnder_7 rfl rfl ?_
      refine mm_alenK (j := 1) dX11_isUnder_8 rfl ?_
      refine mm_icmp_ge (tgt := 39) dX11_isUnder_9 (by decide) (fun q => absurd q (by decide)) (fun _ => ?_)
      refine mm_iload_n 1 dX11_isUnder_12 rfl rfl ?_
      refine mm_if_lt (tgt := 39) dX11_isUnder_13 (by decide) (fun _ => ?_) (fun q => absurd (by decide) q)
      refine mm_iconst (v := 0) dX11_isUnder_39 rfl ?_
      refine mm_zret dX11_isUnder_40 rfl (by decide) ⟨Nat.le_refl _, Nat.le_refl _⟩ ?_
      rw [if_neg (fun q => by rcases q with q | q <;> contradiction)] at hq; exact hq
    · refine mm_iconst (v := 1) dX11_isUnder_27 rfl ?_
      refine mm_zret dX11_isUnder_28 rfl (by decide) ⟨Nat.le_refl _, Nat.le_refl _⟩ ?_
      rw [if_pos (by first | assumption | exact Or.inl (by assumption) | exact Or.inr (by assumption) | exact Or.inr (Or.inl (by assumption)) | exact Or.inr (Or.inr (by assumption)))] at hq; exact hq
  · refine mm_iconst (v := 1) dX11_isUnder_27 rfl ?_
    refine mm_zret dX11_isUnder_28 rfl (by decide) ⟨Nat.le_refl _, Nat.le_refl _⟩ ?_
    rw [if_pos (by first | assumption | exact Or.inl (by assumption) | exact Or.inr (by assumption) | exact Or.inr (Or.inl (by assumption)) | exact Or.inr (Or.inr (by assumption)))] at hq; exact hq
set_option maxRecDepth 100000 in
set_option maxHeartbeats 600000 in
theorem cu_1_4 {g : mm_G} {S : mm_Sh} {I : mm_I} {d : Nat} {kind : Int32} : mm_Ci g zX11_isUnder d [.ref (mm_KB + 1), .int (nI 4), .int kind] S I (if nI 4 = kind ∨ nI 3 = kind ∨ nI 0 = kind then 1 else 0) I := by
  refine mm_Ci_of (fun Q hq => ?_)
  refine mm_begin (ls := [(0, .ref (mm_KB + 1)), (1, .int (nI (4))), (2, .int (kind))]) (Nat.le_of_ble_eq_true rfl) rfl rfl ?_
  refine mm_iload_n 1 dX11_isUnder_0 rfl rfl ?_
  refine mm_istore_n (ls' := [(3, .int (nI (4))), (0, .ref (mm_KB + 1)), (1, .int (nI (4))), (2, .int (kind))]) dX11_isUnder_1 rfl (by decide) rfl ?_
  refine mm_iconst (v := 0) dX11_isUnder_2 rfl ?_
  refine mm_istore (ls' := [(4, .int (0)), (3, .int (nI (4))), (0, .ref (mm_KB + 1)), (1, .int (nI (4))), (2, .int (kind))]) dX11_isUnder_3 (by decide) rfl ?_
  refine mm_iload 0 dX11_isUnder_5 rfl ?_
  refine mm_aload_n 2 dX11_isUnder_7 rfl rfl ?_
  refine mm_alenK (j := 1) dX11_isUnder_8 rfl ?_
  refine mm_icmp_ge (tgt := 39) dX11_isUnder_9 (by decide) (fun q => absurd q (by decide)) (fun _ => ?_)
  refine mm_iload_n 1 dX11_isUnder_12 rfl rfl ?_
  refine mm_if_ltN (4) (tgt := 39) dX11_isUnder_13 (by decide) (by omega) ?_
  refine mm_iload_n 1 dX11_isUnder_16 rfl rfl ?_
  refine mm_aload_n 2 dX11_isUnder_17 rfl rfl ?_
  refine mm_alenK (j := 1) dX11_isUnder_18 rfl ?_
  refine mm_icmp_ge (tgt := 39) dX11_isUnder_19 (by decide) (fun q => absurd q (by decide)) (fun _ => ?_)
  refine mm_iload_n 1 dX11_isUnder_22 rfl rfl ?_
  refine mm_iload_n 4 dX11_isUnder_23 rfl rfl ?_
  refine mm_icmp_ne (tgt := 29) dX11_isUnder_24 (by decide) (fun c24 => ?_) (fun c24 => ?_)
  · refine mm_aload_n 2 dX11_isUnder_29 rfl rfl ?_
    refine mm_iload_n 1 dX11_isUnder_30 rfl rfl ?_
    refine mm_ialdKN (4) dX11_isUnder_31 rfl (by omega) (by omega) ?_
    refine mm_top (v := nI (3)) rfl ?_
    refine mm_istore_n (ls' := [(3, .int (nI (3))), (4, .int (0)), (0, .ref (mm_KB + 1)), (1, .int (nI (4))), (2, .int (kind))]) dX11_isUnder_32 rfl (by decide) rfl ?_
    refine mm_iinc (v := 1) (ls' := [(4, .int (1)), (3, .int (nI (3))), (0, .ref (mm_KB + 1)), (1, .int (nI (4))), (2, .int (kind))]) 1 dX11_isUnder_33 rfl (by decide) (by decide) rfl ?_
    refine mm_goto (tgt := 5) dX11_isUnder_36 (by decide) ?_
    refine mm_iload 0 dX11_isUnder_5 rfl ?_
    refine mm_aload_n 2 dX11_isUnder_7 rfl rfl ?_
    refine mm_alenK (j := 1) dX11_isUnder_8 rfl ?_
    refine mm_icmp_ge (tgt := 39) dX11_isUnder_9 (by decide) (fun q => absurd q (by decide)) (fun _ => ?_)
    refine mm_iload_n 1 dX11_isUnder_12 rfl rfl ?_
    refine mm_if_ltN (3) (tgt := 39) dX11_isUnder_13 (by decide) (by omega) ?_
    refine mm_iload_n 1 dX11_isUnder_16 rfl rfl ?_
    refine mm_aload_n 2 dX11_isUnder_17 rfl rfl ?_
    refine mm_alenK (j := 1) dX11_isUnder_18 rfl ?_
    refine mm_icmp_ge (tgt := 39) dX11_isUnder_19 (by decide) (fun q => absurd q (by decide)) (fun _ => ?_)
    refine mm_iload_n 1 dX11_isUnder_22 rfl rfl ?_
    refine mm_iload_n 4 dX11_isUnder_23 rfl rfl ?_
    refine mm_icmp_ne (tgt := 29) dX11_isUnder_24 (by decide) (fun c24 => ?_) (fun c24 => ?_)
    · refine mm_aload_n 2 dX11_isUnder_29 rfl rfl ?_
      refine mm_iload_n 1 dX11_isUnder_30 rfl rfl ?_
      refine mm_ialdKN (3) dX11_isUnder_31 rfl (by omega) (by omega) ?_
      refine mm_top (v := nI (0)) rfl ?_
      refine mm_istore_n (ls' := [(3, .int (nI (0))), (4, .int (1)), (0, .ref (mm_KB + 1)), (1, .int (nI (4))), (2, .int (kind))]) dX11_isUnder_32 rfl (by decide) rfl ?_
      refine mm_iinc (v := 2) (ls' := [(4, .int (2)), (3, .int (nI (0))), (0, .ref (mm_KB + 1)), (1, .int (nI (4))), (2, .int (kind))]) 1 dX11_isUnder_33 rfl (by decide) (by decide) rfl ?_
      refine mm_goto (tgt := 5) dX11_isUnder_36 (by decide) ?_
      refine mm_iload 0 dX11_isUnder_5 rfl ?_
      refine mm_aload_n 2 dX11_isUnder_7 rfl rfl ?_
      refine mm_alenK (j := 1) dX11_isUnder_8 rfl ?_
      refine mm_icmp_ge (tgt := 39) dX11_isUnder_9 (by decide) (fun q => absurd q (by decide)) (fun _ => ?_)
      refine mm_iload_n 1 dX11_isUnder_12 rfl rfl ?_
      refine mm_if_ltN (0) (tgt := 39) dX11_isUnder_13 (by decide) (by omega) ?_
      refine mm_iload_n 1 dX11_isUnder_16 rfl rfl ?_
      refine mm_aload_n 2 dX11_isUnder_17 rfl rfl ?_
      refine mm_alenK (j := 1) dX11_isUnder_18 rfl ?_
      refine mm_icmp_ge (tgt := 39) dX11_isUnder_19 (by decide) (fun q => absurd q (by decide)) (fun _ => ?_)
      refine mm_iload_n 1 dX11_isUnder_22 rfl rfl ?_
      refine mm_iload_n 4 dX11_isUnder_23 rfl rfl ?_
      refine mm_icmp_ne (tgt := 29) dX11_isUnder_24 (by decide) (fun c24 => ?_) (fun c24 => ?_)
      · refine mm_aload_n 2 dX11_isUnder_29 rfl rfl ?_
        refine mm_iload_n 1 dX11_isUnder_30 rfl rfl ?_
        refine mm_ialdKN (0) dX11_isUnder_31 rfl (by omega) (by omega) ?_
        refine mm_top (v := -1) rfl ?_
        refine mm_istore_n (ls' := [(3, .int (-1)), (4, .int (2)), (0, .ref (mm_KB + 1)), (1, .int (nI (4))), (2, .int (kind))]) dX11_isUnder_32 rfl (by decide) rfl ?_
        refine mm_iinc (v := 3) (ls' := [(4, .int (3)), (3, .int (-1)), (0, .ref (mm_KB + 1)), (1, .int (nI (4))), (2, .int (kind))]) 1 dX11_isUnder_33 rfl (by decide) (by decide) rfl ?_
        refine mm_goto (tgt := 5) dX11_isUnder_36 (by decide) ?_
        refine mm_iload 0 dX11_isUnder_5 rfl ?_
        refine mm_aload_n 2 dX11_isUnder_7 rfl rfl ?_
        refine mm_alenK (j := 1) dX11_isUnder_8 rfl ?_
        refine mm_icmp_ge (tgt := 39) dX11_isUnder_9 (by decide) (fun q => absurd q (by decide)) (fun _ => ?_)
        refine mm_iload_n 1 dX11_isUnder_12 rfl rfl ?_
        refine mm_if_lt (tgt := 39) dX11_isUnder_13 (by decide) (fun _ => ?_) (fun q => absurd (by decide) q)
        refine mm_iconst (v := 0) dX11_isUnder_39 rfl ?_
        refine mm_zret dX11_isUnder_40 rfl (by decide) ⟨Nat.le_refl _, Nat.le_refl _⟩ ?_
        rw [if_neg (fun q => by rcases q with q | q | q <;> contradiction)] at hq; exact hq
      · refine mm_iconst (v := 1) dX11_isUnder_27 rfl ?_
        refine mm_zret dX11_isUnder_28 rfl (by decide) ⟨Nat.le_refl _, Nat.le_refl _⟩ ?_
        rw [if_pos (by first | assumption | exact Or.inl (by assumption) | exact Or.inr (by assumption) | exact Or.inr (Or.inl (by assumption)) | exact Or.inr (Or.inr (by assumption)))] at hq; exact hq
    · refine mm_iconst (v := 1) dX11_isUnder_27 rfl ?_
      refine mm_zret dX11_isUnder_28 rfl (by decide) ⟨Nat.le_refl _, Nat.le_refl _⟩ ?_
      rw [if_pos (by first | assumption | exact Or.inl (by assumption) | exact Or.inr (by assumption) | exact Or.inr (Or.inl (by assumption)) | exact Or.inr (Or.inr (by assumption)))] at hq; exact hq
  · refine mm_iconst (v := 1) dX11_isUnder_27 rfl ?_
    refine mm_zret dX11_isUnder_28 rfl (by decide) ⟨Nat.le_refl _, Nat.le_refl _⟩ ?_
    rw [if_pos (by first | assumption | exact Or.inl (by assumption) | exact Or.inr (by assumption) | exact Or.inr (Or.inl (by assumption)) | exact Or.inr (Or.inr (by assumption)))] at hq; exact hq
set_option maxRecDepth 100000 in
set_option maxHeartbeats 600000 in
theorem cu_2_0 {g : mm_G} {S : mm_Sh} {I : mm_I} {d : Nat} {kind : Int32} : mm_Ci g zX11_isUnder d [.ref (mm_KB + 2), .int (nI 0), .int kind] S I (if nI 0 = kind then 1 else 0) I := by
  refine mm_Ci_of (fun Q hq => ?_)
  refine mm_begin (ls := [(0, .ref (mm_KB + 2)), (1, .int (nI (0))), (2, .int (kind))]) (Nat.le_of_ble_eq_true rfl) rfl rfl ?_
  refine mm_iload_n 1 dX11_isUnder_0 rfl rfl ?_
  refine mm_istore_n (ls' := [(3, .int (nI (0))), (0, .ref (mm_KB + 2)), (1, .int (nI (0))), (2, .int (kind))]) dX11_isUnder_1 rfl (by decide) rfl ?_
  refine mm_iconst (v := 0) dX11_isUnder_2 rfl ?_
  refine mm_istore (ls' := [(4, .int (0)), (3, .int (nI (0))), (0, .ref (mm_KB + 2)), (1, .int (nI (0))), (2, .int (kind))]) dX11_isUnder_3 (by decide) rfl ?_
  refine mm_iload 0 dX11_isUnder_5 rfl ?_
  refine mm_aload_n 2 dX11_isUnder_7 rfl rfl ?_
  refine mm_alenK (j := 2) dX11_isUnder_8 rfl ?_
  refine mm_icmp_ge (tgt := 39) dX11_isUnder_9 (by decide) (fun q => absurd q (by decide)) (fun _ => ?_)
  refine mm_iload_n 1 dX11_isUnder_12 rfl rfl ?_
  refine mm_if_ltN (0) (tgt := 39) dX11_isUnder_13 (by decide) (by omega) ?_
  refine mm_iload_n 1 dX11_isUnder_16 rfl rfl ?_
  refine mm_aload_n 2 dX11_isUnder_17 rfl rfl ?_
  refine mm_alenK (j := 2) dX11_isUnder_18 rfl ?_
  refine mm_icmp_ge (tgt := 39) dX11_isUnder_19 (by decide) (fun q => absurd q (by decide)) (fun _ => ?_)
  refine mm_iload_n 1 dX11_isUnder_22 rfl rfl ?_
  refine mm_iload_n 4 dX11_isUnder_23 rfl rfl ?_
  refine mm_icmp_ne (tgt := 29) dX11_isUnder_24 (by decide) (fun c24 => ?_) (fun c24 => ?_)
  · refine mm_aload_n 2 dX11_isUnder_29 rfl rfl ?_
    refine mm_iload_n 1 dX11_isUnder_30 rfl rfl ?_
    refine mm_ialdKN (0) dX11_isUnder_31 rfl (by omega) (by omega) ?_
    refine mm_top (v := -1) rfl ?_
    refine mm_istore_n (ls' := [(3, .int (-1)), (4, .int (0)), (0, .ref (mm_KB + 2)), (1, .int (nI (0))), (2, .int (kind))]) dX11_isUnder_32 rfl (by decide) rfl ?_
    refine mm_iinc (v := 1) (ls' := [(4, .int (1)), (3, .int (-1)), (0, .ref (mm_KB + 2)), (1, .int (nI (0))), (2, .int (kind))]) 1 dX11_isUnder_33 rfl (by decide) (by decide) rfl ?_
    refine mm_goto (tgt := 5) dX11_isUnder_36 (by decide) ?_
    refine mm_iload 0 dX11_isUnder_5 rfl ?_
    refine mm_aload_n 2 dX11_isUnder_7 rfl rfl ?_
    refine mm_alenK (j := 2) dX11_isUnder_8 rfl ?_
    refine mm_icmp_ge (tgt := 39) dX11_isUnder_9 (by decide) (fun q => absurd q (by decide)) (fun _ => ?_)
    refine mm_iload_n 1 dX11_isUnder_12 rfl rfl ?_
    refine mm_if_lt (tgt := 39) dX11_isUnder_13 (by decide) (fun _ => ?_) (fun q => absurd (by decide) q)
    refine mm_iconst (v := 0) dX11_isUnder_39 rfl ?_
    refine mm_zret dX11_isUnder_40 rfl (by decide) ⟨Nat.le_refl _, Nat.le_refl _⟩ ?_
    rw [if_neg (by assumption)] at hq; exact hq
  · refine mm_iconst (v := 1) dX11_isUnder_27 rfl ?_
    refine mm_zret dX11_isUnder_28 rfl (by decide) ⟨Nat.le_refl _, Nat.le_refl _⟩ ?_
    rw [if_pos (by first | assumption | exact Or.inl (by assumption) | exact Or.inr (by assumption) | exact Or.inr (Or.inl (by assumption)) | exact Or.inr (Or.inr (by assumption)))] at hq; exact hq
set_option maxRecDepth 100000 in
set_option maxHeartbeats 600000 in
theorem cu_2_1 {g : mm_G} {S : mm_Sh} {I : mm_I} {d : Nat} {kind : Int32} : mm_Ci g zX11_isUnder d [.ref (mm_KB + 2), .int (nI 1), .int kind] S I (if nI 1 = kind ∨ nI 0 = kind then 1 else 0) I := by
  refine mm_Ci_of (fun Q hq => ?_)
  refine mm_begin (ls := [(0, .ref (mm_KB + 2)), (1, .int (nI (1))), (2, .int (kind))]) (Nat.le_of_ble_eq_true rfl) rfl rfl ?_
  refine mm_iload_n 1 dX11_isUnder_0 rfl rfl ?_
  refine mm_istore_n (ls' := [(3, .int (nI (1))), (0, .ref (mm_KB + 2)), (1, .int (nI (1))), (2, .int (kind))]) dX11_isUnder_1 rfl (by decide) rfl ?_
  refine mm_iconst (v := 0) dX11_isUnder_2 rfl ?_
  refine mm_istore (ls' := [(4, .int (0)), (3, .int (nI (1))), (0, .ref (mm_KB + 2)), (1, .int (nI (1))), (2, .int (kind))]) dX11_isUnder_3 (by decide) rfl ?_
  refine mm_iload 0 dX11_isUnder_5 rfl ?_
  refine mm_aload_n 2 dX11_isUnder_7 rfl rfl ?_
  refine mm_alenK (j := 2) dX11_isUnder_8 rfl ?_
  refine mm_icmp_ge (tgt := 39) dX11_isUnder_9 (by decide) (fun q => absurd q (by decide)) (fun _ => ?_)
  refine mm_iload_n 1 dX11_isUnder_12 rfl rfl ?_
  refine mm_if_ltN (1) (tgt := 39) dX11_isUnder_13 (by decide) (by omega) ?_
  refine mm_iload_n 1 dX11_isUnder_16 rfl rfl ?_
  refine mm_aload_n 2 dX11_isUnder_17 rfl rfl ?_
  refine mm_alenK (j := 2) dX11_isUnder_18 rfl ?_
  refine mm_icmp_ge (tgt := 39) dX11_isUnder_19 (by decide) (fun q => absurd q (by decide)) (fun _ => ?_)
  refine mm_iload_n 1 dX11_isUnder_22 rfl rfl ?_
  refine mm_iload_n 4 dX11_isUnder_23 rfl rfl ?_
  refine mm_icmp_ne (tgt := 29) dX11_isUnder_24 (by decide) (fun c24 => ?_) (fun c24 => ?_)
  · refine mm_aload_n 2 dX11_isUnder_29 rfl rfl ?_
    refine mm_iload_n 1 dX11_isUnder_30 rfl rfl ?_
    refine mm_ialdKN (1) dX11_isUnder_31 rfl (by omega) (by omega) ?_
    refine mm_top (v := nI (0)) rfl ?_
    refine mm_istore_n (ls' := [(3, .int (nI (0))), (4, .int (0)), (0, .ref (mm_KB + 2)), (1, .int (nI (1))), (2, .int (kind))]) dX11_isUnder_32 rfl (by decide) rfl ?_
    refine mm_iinc (v := 1) (ls' := [(4, .int (1)), (3, .int (nI (0))), (0, .ref (mm_KB + 2)), (1, .int (nI (1))), (2, .int (kind))]) 1 dX11_isUnder_33 rfl (by decide) (by decide) rfl ?_
    refine mm_goto (tgt := 5) dX11_isUnder_36 (by decide) ?_
    refine mm_iload 0 dX11_isUnder_5 rfl ?_
    refine mm_aload_n 2 dX11_isUnder_7 rfl rfl ?_
    refine mm_alenK (j := 2) dX11_isUnder_8 rfl ?_
    refine mm_icmp_ge (tgt := 39) dX11_isUnder_9 (by decide) (fun q => absurd q (by decide)) (fun _ => ?_)
    refine mm_iload_n 1 dX11_isUnder_12 rfl rfl ?_
    refine mm_if_ltN (0) (tgt := 39) dX11_isUnder_13 (by decide) (by omega) ?_
    refine mm_iload_n 1 dX11_isUnder_16 rfl rfl ?_
    refine mm_aload_n 2 dX11_isUnder_17 rfl rfl ?_
    refine mm_alenK (j := 2) dX11_isUnder_18 rfl ?_
    refine mm_icmp_ge (tgt := 39) dX11_isUnder_19 (by decide) (fun q => absurd q (by decide)) (fun _ => ?_)
    refine mm_iload_n 1 dX11_isUnder_22 rfl rfl ?_
    refine mm_iload_n 4 dX11_isUnder_23 rfl rfl ?_
    refine mm_icmp_ne (tgt := 29) dX11_isUnder_24 (by decide) (fun c24 => ?_) (fun c24 => ?_)
    · refine mm_aload_n 2 dX11_isUnder_29 rfl rfl ?_
      refine mm_iload_n 1 dX11_isUnder_30 rfl rfl ?_
      refine mm_ialdKN (0) dX11_isUnder_31 rfl (by omega) (by omega) ?_
      refine mm_top (v := -1) rfl ?_
      refine mm_istore_n (ls' := [(3, .int (-1)), (4, .int (1)), (0, .ref (mm_KB + 2)), (1, .int (nI (1))), (2, .int (kind))]) dX11_isUnder_32 rfl (by decide) rfl ?_
      refine mm_iinc (v := 2) (ls' := [(4, .int (2)), (3, .int (-1)), (0, .ref (mm_KB + 2)), (1, .int (nI (1))), (2, .int (kind))]) 1 dX11_isUnder_33 rfl (by decide) (by decide) rfl ?_
      refine mm_goto (tgt := 5) dX11_isUnder_36 (by decide) ?_
      refine mm_iload 0 dX11_isUnder_5 rfl ?_
      refine mm_aload_n 2 dX11_isUnder_7 rfl rfl ?_
      refine mm_alenK (j := 2) dX11_isUnder_8 rfl ?_
      refine mm_icmp_ge (tgt := 39) dX11_isUnder_9 (by decide) (fun q => absurd q (by decide)) (fun _ => ?_)
      refine mm_iload_n 1 dX11_isUnder_12 rfl rfl ?_
      refine mm_if_lt (tgt := 39) dX11_isUnder_13 (by decide) (fun _ => ?_) (fun q => absurd (by decide) q)
      refine mm_iconst (v := 0) dX11_isUnder_39 rfl ?_
      refine mm_zret dX11_isUnder_40 rfl (by decide) ⟨Nat.le_refl _, Nat.le_refl _⟩ ?_
      rw [if_neg (fun q => by rcases q with q | q <;> contradiction)] at hq; exact hq
    · refine mm_iconst (v := 1) dX11_isUnder_27 rfl ?_
      refine mm_zret dX11_isUnder_28 rfl (by decide) ⟨Nat.le_refl _, Nat.le_refl _⟩ ?_
      rw [if_pos (by first | assumption | exact Or.inl (by assumption) | exact Or.inr (by assumption) | exact Or.inr (Or.inl (by assumption)) | exact Or.inr (Or.inr (by assumption)))] at hq; exact hq
  · refine mm_iconst (v := 1) dX11_isUnder_27 rfl ?_
    refine mm_zret dX11_isUnder_28 rfl (by decide) ⟨Nat.le_refl _, Nat.le_refl _⟩ ?_
    rw [if_pos (by first | assumption | exact Or.inl (by assumption) | exact Or.inr (by assumption) | exact Or.inr (Or.inl (by assumption)) | exact Or.inr (Or.inr (by assumption)))] at hq; exact hq
set_option maxRecDepth 100000 in
set_option maxHeartbeats 600000 in
theorem cu_2_2 {g : mm_G} {S : mm_Sh} {I : mm_I} {d : Nat} {kind : Int32} : mm_Ci g zX11_isUnder d [.ref (mm_KB + 2), .int (nI 2), .int kind] S I (if nI 2 = kind ∨ nI 1 = kind ∨ nI 0 = kind then 1 else 0) I := by
  refine mm_Ci_of (fun Q hq => ?_)
  refine mm_begin (ls := [(0, .ref (mm_KB + 2)), (1, .int (nI (2))), (2, .int (kind))]) (Nat.le_of_ble_eq_true rfl) rfl rfl ?_
  refine mm_iload_n 1 dX11_isUnder_0 rfl rfl ?_
  refine mm_istore_n (ls' := [(3, .int (nI (2))), (0, .ref (mm_KB + 2)), (1, .int (nI (2))), (2, .int (kind))]) dX11_isUnder_1 rfl (by decide) rfl ?_
  refine mm_iconst (v := 0) dX11_isUnder_2 rfl ?_
  refine mm_istore (ls' := [(4, .int (0)), (3, .int (nI (2))), (0, .ref (mm_KB + 2)), (1, .int (nI (2))), (2, .int (kind))]) dX11_isUnder_3 (by decide) rfl ?_
  refine mm_iload 0 dX11_isUnder_5 rfl ?_
  refine mm_aload_n 2 dX11_isUnder_7 rfl rfl ?_
  refine mm_alenK (j := 2) dX11_isUnder_8 rfl ?_
  refine mm_icmp_ge (tgt := 39) dX11_isUnder_9 (by decide) (fun q => absurd q (by decide)) (fun _ => ?_)
  refine mm_iload_n 1 dX11_isUnder_12 rfl rfl ?_
  refine mm_if_ltN (2) (tgt := 39) dX11_isUnder_13 (by decide) (by omega) ?_
  refine mm_iload_n 1 dX11_isUnder_16 rfl rfl ?_
  refine mm_aload_n 2 dX11_isUnder_17 rfl rfl ?_
  refine mm_alenK (j := 2) dX11_isUnder_18 rfl ?_
  refine mm_icmp_ge (tgt := 39) dX11_isUnder_19 (by decide) (fun q => absurd q (by decide)) (fun _ => ?_)
  refine mm_iload_n 1 dX11_isUnder_22 rfl rfl ?_
  refine mm_iload_n 4 dX11_isUnder_23 rfl rfl ?_
  refine mm_icmp_ne (tgt := 29) dX11_isUnder_24 (by decide) (fun c24 => ?_) (fun c24 => ?_)
  · refine mm_aload_n 2 dX11_isUnder_29 rfl rfl ?_
    refine mm_iload_n 1 dX11_isUnder_30 rfl rfl ?_
    refine mm_ialdKN (2) dX11_isUnder_31 rfl (by omega) (by omega) ?_
    refine mm_top (v := nI (1)) rfl ?_
    refine mm_istore_n (ls' := [(3, .int (nI (1))), (4, .int (0)), (0, .ref (mm_KB + 2)), (1, .int (nI (2))), (2, .int (kind))]) dX11_isUnder_32 rfl (by decide) rfl ?_
    refine mm_iinc (v := 1) (ls' := [(4, .int (1)), (3, .int (nI (1))), (0, .ref (mm_KB + 2)), (1, .int (nI (2))), (2, .int (kind))]) 1 dX11_isUnder_33 rfl (by decide) (by decide) rfl ?_
    refine mm_goto (tgt := 5) dX11_isUnder_36 (by decide) ?_
    refine mm_iload 0 dX11_isUnder_5 rfl ?_
    refine mm_aload_n 2 dX11_isUnder_7 rfl rfl ?_
    refine mm_alenK (j := 2) dX11_isUnder_8 rfl ?_
    refine mm_icmp_ge (tgt := 39) dX11_isUnder_9 (by decide) (fun q => absurd q (by decide)) (fun _ => ?_)
    refine mm_iload_n 1 dX11_isUnder_12 rfl rfl ?_
    refine mm_if_ltN (1) (tgt := 39) dX11_isUnder_13 (by decide) (by omega) ?_
    refine mm_iload_n 1 dX11_isUnder_16 rfl rfl ?_
    refine mm_aload_n 2 dX11_isUnder_17 rfl rfl ?_
    refine mm_alenK (j := 2) dX11_isUnder_18 rfl ?_
    refine mm_icmp_ge (tgt := 39) dX11_isUnder_19 (by decide) (fun q => absurd q (by decide)) (fun _ => ?_)
    refine mm_iload_n 1 dX11_isUnder_22 rfl rfl ?_
    refine mm_iload_n 4 dX11_isUnder_23 rfl rfl ?_
    refine mm_icmp_ne (tgt := 29) dX11_isUnder_24 (by decide) (fun c24 => ?_) (fun c24 => ?_)
    · refine mm_aload_n 2 dX11_isUnder_29 rfl rfl ?_
      refine mm_iload_n 1 dX11_isUnder_30 rfl rfl ?_
      refine mm_ialdKN (1) dX11_isUnder_31 rfl (by omega) (by omega) ?_
      refine mm_top (v := nI (0)) rfl ?_
      refine mm_istore_n (ls' := [(3, .int (nI (0))), (4, .int (1)), (0, .ref (mm_KB + 2)), (1, .int (nI (2))), (2, .int (kind))]) dX11_isUnder_32 rfl (by decide) rfl ?_
      refine mm_iinc (v := 2) (ls' := [(4, .int (2)), (3, .int (nI (0))), (0, .ref (mm_KB + 2)), (1, .int (nI (2))), (2, .int (kind))]) 1 dX11_isUnder_33 rfl (by decide) (by decide) rfl ?_
      refine mm_goto (tgt := 5) dX11_isUnder_36 (by decide) ?_
      refine mm_iload 0 dX11_isUnder_5 rfl ?_
      refine mm_aload_n 2 dX11_isUnder_7 rfl rfl ?_
      refine mm_alenK (j := 2) dX11_isUnder_8 rfl ?_
      refine mm_icmp_ge (tgt := 39) dX11_isUnder_9 (by decide) (fun q => absurd q (by decide)) (fun _ => ?_)
      refine mm_iload_n 1 dX11_isUnder_12 rfl rfl ?_
      refine mm_if_ltN (0) (tgt := 39) dX11_isUnder_13 (by decide) (by omega) ?_
      refine mm_iload_n 1 dX11_isUnder_16 rfl rfl ?_
      refine mm_aload_n 2 dX11_isUnder_17 rfl rfl ?_
      refine mm_alenK (j := 2) dX11_isUnder_18 rfl ?_
      refine mm_icmp_ge (tgt := 39) dX11_isUnder_19 (by decide) (fun q => absurd q (by decide)) (fun _ => ?_)
      refine mm_iload_n 1 dX11_isUnder_22 rfl rfl ?_
      refine mm_iload_n 4 dX11_isUnder_23 rfl rfl ?_
      refine mm_icmp_ne (tgt := 29) dX11_isUnder_24 (by decide) (fun c24 => ?_) (fun c24 => ?_)
      · refine mm_aload_n 2 dX11_isUnder_29 rfl rfl ?_
        refine mm_iload_n 1 dX11_isUnder_30 rfl rfl ?_
        refine mm_ialdKN (0) dX11_isUnder_31 rfl (by omega) (by omega) ?_
        refine mm_top (v := -1) rfl ?_
        refine mm_istore_n (ls' := [(3, .int (-1)), (4, .int (2)), (0, .ref (mm_KB + 2)), (1, .int (nI (2))), (2, .int (kind))]) dX11_isUnder_32 rfl (by decide) rfl ?_
        refine mm_iinc (v := 3) (ls' := [(4, .int (3)), (3, .int (-1)), (0, .ref (mm_KB + 2)), (1, .int (nI (2))), (2, .int (kind))]) 1 dX11_isUnder_33 rfl (by decide) (by decide) rfl ?_
        refine mm_goto (tgt := 5) dX11_isUnder_36 (by decide) ?_
        refine mm_iload 0 dX11_isUnder_5 rfl ?_
        refine mm_aload_n 2 dX11_isUnder_7 rfl rfl ?_
        refine mm_alenK (j := 2) dX11_isUnder_8 rfl ?_
        refine mm_icmp_ge (tgt := 39) dX11_isUnder_9 (by decide) (fun q => absurd q (by decide)) (fun _ => ?_)
        refine mm_iload_n 1 dX11_isUnder_12 rfl rfl ?_
        refine mm_if_lt (tgt := 39) dX11_isUnder_13 (by decide) (fun _ => ?_) (fun q => absurd (by decide) q)
        refine mm_iconst (v := 0) dX11_isUnder_39 rfl ?_
        refine mm_zret dX11_isUnder_40 rfl (by decide) ⟨Nat.le_refl _, Nat.le_refl _⟩ ?_
        rw [if_neg (fun q => by rcases q with q | q | q <;> contradiction)] at hq; exact hq
      · refine mm_iconst (v := 1) dX11_isUnder_27 rfl ?_
        refine mm_zret dX11_isUnder_28 rfl (by decide) ⟨Nat.le_refl _, Nat.le_refl _⟩ ?_
        rw [if_pos (by first | assumption | exact Or.inl (by assumption) | exact Or.inr (by assumption) | exact Or.inr (Or.inl (by assumption)) | exact Or.inr (Or.inr (by assumption)))] at hq; exact hq
    · refine mm_iconst (v := 1) dX11_isUnder_27 rfl ?_
      refine mm_zret dX11_isUnder_28 rfl (by decide) ⟨Nat.le_refl _, Nat.le_refl _⟩ ?_
      rw [if_pos (by first | assumption | exact Or.inl (by assumption) | exact Or.inr (by assumption) | exact Or.inr (Or.inl (by assumption)) | exact Or.inr (Or.inr (by assumption)))] at hq; exact hq
  · refine mm_iconst (v := 1) dX11_isUnder_27 rfl ?_
    refine mm_zret dX11_isUnder_28 rfl (by decide) ⟨Nat.le_refl _, Nat.le_refl _⟩ ?_
    rw [if_pos (by first | assumption | exact Or.inl (by assumption) | exact Or.inr (by assumption) | exact Or.inr (Or.inl (by assumption)) | exact Or.inr (Or.inr (by assumption)))] at hq; exact hq
set_option maxRecDepth 100000 in
set_option maxHeartbeats 600000 in
theorem cu_2_3 {g : mm_G} {S : mm_Sh} {I : mm_I} {d : Nat} {kind : Int32} : mm_Ci g zX11_isUnder d [.ref (mm_KB + 2), .int (nI 3), .int kind] S I (if nI 3 = kind ∨ nI 0 = kind then 1 else 0) I := by
  refine mm_Ci_of (fun Q hq => ?_)
  refine mm_begin (ls := [(0, .ref (mm_KB + 2)), (1, .int (nI (3))), (2, .int (kind))]) (Nat.le_of_ble_eq_true rfl) rfl rfl ?_
  refine mm_iload_n 1 dX11_isUnder_0 rfl rfl ?_
  refine mm_istore_n (ls' := [(3, .int (nI (3))), (0, .ref (mm_KB + 2)), (1, .int (nI (3))), (2, .int (kind))]) dX11_isUnder_1 rfl (by decide) rfl ?_
  refine mm_iconst (v := 0) dX11_isUnder_2 rfl ?_
  refine mm_istore (ls' := [(4, .int (0)), (3, .int (nI (3))), (0, .ref (mm_KB + 2)), (1, .int (nI (3))), (2, .int (kind))]) dX11_isUnder_3 (by decide) rfl ?_
  refine mm_iload 0 dX11_isUnder_5 rfl ?_
  refine mm_aload_n 2 dX11_isUnder_7 rfl rfl ?_
  refine mm_alenK (j := 2) dX11_isUnder_8 rfl ?_
  refine mm_icmp_ge (tgt := 39) dX11_isUnder_9 (by decide) (fun q => absurd q (by decide)) (fun _ => ?_)
  refine mm_iload_n 1 dX11_isUnder_12 rfl rfl ?_
  refine mm_if_ltN (3) (tgt := 39) dX11_isUnder_13 (by decide) (by omega) ?_
  refine mm_iload_n 1 dX11_isUnder_16 rfl rfl ?_
  refine mm_aload_n 2 dX11_isUnder_17 rfl rfl ?_
  refine mm_alenK (j := 2) dX11_isUnder_18 rfl ?_
  refine mm_icmp_ge (tgt := 39) dX11_isUnder_19 (by decide) (fun q => absurd q (by decide)) (fun _ => ?_)
  refine mm_iload_n 1 dX11_isUnder_22 rfl rfl ?_
  refine mm_iload_n 4 dX11_isUnder_23 rfl rfl ?_
  refine mm_icmp_ne (tgt := 29) dX11_isUnder_24 (by decide) (fun c24 => ?_) (fun c24 => ?_)
  · refine mm_aload_n 2 dX11_isUnder_29 rfl rfl ?_
    refine mm_iload_n 1 dX11_isUnder_30 rfl rfl ?_
    refine mm_ialdKN (3) dX11_isUnder_31 rfl (by omega) (by omega) ?_
    refine mm_top (v := nI (0)) rfl ?_
    refine mm_istore_n (ls' := [(3, .int (nI (0))), (4, .int (0)), (0, .ref (mm_KB + 2)), (1, .int (nI (3))), (2, .int (kind))]) dX11_isUnder_32 rfl (by decide) rfl ?_
    refine mm_iinc (v := 1) (ls' := [(4, .int (1)), (3, .int (nI (0))), (0, .ref (mm_KB + 2)), (1, .int (nI (3))), (2, .int (kind))]) 1 dX11_isUnder_33 rfl (by decide) (by decide) rfl ?_
    refine mm_goto (tgt := 5) dX11_isUnder_36 (by decide) ?_
    refine mm_iload 0 dX11_isUnder_5 rfl ?_
    refine mm_aload_n 2 dX11_isUnder_7 rfl rfl ?_
    refine mm_alenK (j := 2) dX11_isUnder_8 rfl ?_
    refine mm_icmp_ge (tgt := 39) dX11_isUnder_9 (by decide) (fun q => absurd q (by decide)) (fun _ => ?_)
    refine mm_iload_n 1 dX11_isUnder_12 rfl rfl ?_
    refine mm_if_ltN (0) (tgt := 39) dX11_isUnder_13 (by decide) (by omega) ?_
    refine mm_iload_n 1 dX11_isUnder_16 rfl rfl ?_
    refine mm_aload_n 2 dX11_isUnder_17 rfl rfl ?_
    refine mm_alenK (j := 2) dX11_isUnder_18 rfl ?_
    refine mm_icmp_ge (tgt := 39) dX11_isUnder_19 (by decide) (fun q => absurd q (by decide)) (fun _ => ?_)
    refine mm_iload_n 1 dX11_isUnder_22 rfl rfl ?_
    refine mm_iload_n 4 dX11_isUnder_23 rfl rfl ?_
    refine mm_icmp_ne (tgt := 29) dX11_isUnder_24 (by decide) (fun c24 => ?_) (fun c24 => ?_)
    · refine mm_aload_n 2 dX11_isUnder_29 rfl rfl ?_
      refine mm_iload_n 1 dX11_isUnder_30 rfl rfl ?_
      refine mm_ialdKN (0) dX11_isUnder_31 rfl (by omega) (by omega) ?_
      refine mm_top (v := -1) rfl ?_
      refine mm_istore_n (ls' := [(3, .int (-1)), (4, .int (1)), (0, .ref (mm_KB + 2)), (1, .int (nI (3))), (2, .int (kind))]) dX11_isUnder_32 rfl (by decide) rfl ?_
      refine mm_iinc (v := 2) (ls' := [(4, .int (2)), (3, .int (-1)), (0, .ref (mm_KB + 2)), (1, .int (nI (3))), (2, .int (kind))]) 1 dX11_isUnder_33 rfl (by decide) (by decide) rfl ?_
      refine mm_goto (tgt := 5) dX11_isUnder_36 (by decide) ?_
      refine mm_iload 0 dX11_isUnder_5 rfl ?_
      refine mm_aload_n 2 dX11_isUnder_7 rfl rfl ?_
      refine mm_alenK (j := 2) dX11_isUnder_8 rfl ?_
      refine mm_icmp_ge (tgt := 39) dX11_isUnder_9 (by decide) (fun q => absurd q (by decide)) (fun _ => ?_)
      refine mm_iload_n 1 dX11_isUnder_12 rfl rfl ?_
      refine mm_if_lt (tgt := 39) dX11_isUnder_13 (by decide) (fun _ => ?_) (fun q => absurd (by decide) q)
      refine mm_iconst (v := 0) dX11_isUnder_39 rfl ?_
      refine mm_zret dX11_isUnder_40 rfl (by decide) ⟨Nat.le_refl _, Nat.le_refl _⟩ ?_
      rw [if_neg (fun q => by rcases q with q | q <;> contradiction)] at hq; exact hq
    · refine mm_iconst (v := 1) dX11_isUnder_27 rfl ?_
      refine mm_zret dX11_isUnder_28 rfl (by decide) ⟨Nat.le_refl _, Nat.le_refl _⟩ ?_
      rw [if_pos (by first | assumption | exact Or.inl (by assumption) | exact Or.inr (by assumption) | exact Or.inr (Or.inl (by assumption)) | exact Or.inr (Or.inr (by assumption)))] at hq; exact hq
  · refine mm_iconst (v := 1) dX11_isUnder_27 rfl ?_
    refine mm_zret dX11_isUnder_28 rfl (by decide) ⟨Nat.le_refl _, Nat.le_refl _⟩ ?_
    rw [if_pos (by first | assumption | exact Or.inl (by assumption) | exact Or.inr (by assumption) | exact Or.inr (Or.inl (by assumption)) | exact Or.inr (Or.inr (by assumption)))] at hq; exact hq
