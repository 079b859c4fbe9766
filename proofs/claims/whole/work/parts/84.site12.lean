/-! THE CLASS: what LOADS take -/
theorem pb_s {N : Nat → Int32} {o : Int32} {i : Nat} (hi : i < 8) : sp_pb N o (i + 1) = if o &&& ((1 : Int32) <<< (nI i &&& 31)) = 0 then sp_pb N o i + N (590 + i) else sp_pb N o i := by
  show sp_pb N o i + (if ((o) >>> ((nI (i)) &&& 31)) &&& 1 = 0 then N (590 + i) else 0) = _
  rw [bit_b hi]
  by_cases c : o.toBitVec.getLsbD i = true
  · rw [if_pos c, if_neg (by decide), if_neg (fun q => by rw [(bit_a hi).mp q] at c; exact absurd c (by decide))]; exact Int32.add_zero _
  · have c2 : o.toBitVec.getLsbD i = false := by cases hh : o.toBitVec.getLsbD i; rfl; exact absurd hh c
    rw [if_neg c, if_pos rfl, if_pos ((bit_a hi).mpr c2)]
theorem hb_s {N : Nat → Int32} {o : Int32} {i : Nat} (hi : i < 8) : sp_hb N o (i + 1) = if o &&& ((1 : Int32) <<< (nI i &&& 31)) = 0 then sp_hb N o i else sp_hb N o i + N (598 + i) := by
  show sp_hb N o i + (((o) >>> ((nI (i)) &&& 31)) &&& 1) * N (598 + i) = _
  rw [bit_b hi]
  by_cases c : o.toBitVec.getLsbD i = true
  · rw [if_pos c, if_neg (fun q => by rw [(bit_a hi).mp q] at c; exact absurd c (by decide)), Int32.one_mul]
  · have c2 : o.toBitVec.getLsbD i = false := by cases hh : o.toBitVec.getLsbD i; rfl; exact absurd hh c
    rw [if_neg c, if_pos ((bit_a hi).mpr c2), Int32.zero_mul, Int32.add_zero]
set_option maxRecDepth 100000 in
set_option maxHeartbeats 600000 in
theorem lg_pb {g : mm_G} {d : Nat} {w h n l k o r : Nat} {A : mm_I} {N : Nat → Int32} (hz : zOK (w * h) n l k o r) (hW : mo_W N w h) {Q : Option Value → mm_Sh → mm_I → Prop} {x : Int32} (hd : 1 ≤ d) (hq : Q (some (.int (sp_pb N x l))) sh_S (cN (w * h) n l k o r A N)) : ∀ (m : Nat) (i : Nat), (i ≤ l) → l - i < m → mm_Ex g zX3_taken d (0, 0) (0, 0) sh_S (cN (w * h) n l k o r A N) 4 [(3, .int (nI (i))), (2, .int (sp_pb N x i)), (0, .ref 17), (1, .int (x))] [] Q := by
  obtain ⟨hz1, hz2, hz3, hz4, hz5, hz6⟩ := id hz
  have hc := mo_W_c hW
  obtain ⟨-, -, hw1, hw2, hh1, hh2⟩ := id hW
  intro m
  induction m with
  | zero => intro i hi hmz; exact absurd hmz (Nat.not_lt_zero _)
  | succ m ih =>
    intro i hi hmz
    refine mm_iload_n 0 dX3_taken_4 rfl rfl ?_
    refine mm_aload_n 2 dX3_taken_5 rfl rfl ?_
    refine mm_getr (b := 18) dX3_taken_6 rfl fk_X3_14 rfl so_17 sr_17_8 ?_
    refine mm_cV0i (dz := d - 1) dX3_taken_9 rfl mzX5_size ml_X3_56 imX5_size (by omega) so_18 ⟨rfl, rfl⟩ (ct_size rw_18) (Nat.le_of_ble_eq_true rfl) ⟨Nat.le_refl _, Nat.le_refl _⟩ ?_
    refine mm_top (v := nI (l)) (s_l (by decide)) ?_
    refine mm_icmp_geN (i) (l) (tgt := 40) dX3_taken_12 (by decide) (by omega) (by omega) (fun c12 => ?_) (fun c12 => ?_)
    · refine mm_iload_n 1 dX3_taken_40 rfl rfl ?_
      refine mm_iret dX3_taken_41 rfl ⟨Nat.le_refl _, Nat.le_refl _⟩ ?_
      first | (exfalso; omega) | exact (show l = i by omega) ▸ hq
    · refine mm_iload_n 3 dX3_taken_15 rfl rfl ?_
      refine mm_iconst (v := 1) dX3_taken_16 rfl ?_
      refine mm_iload_n 0 dX3_taken_17 rfl rfl ?_
      refine mm_ishl dX3_taken_18 ?_
      refine mm_iand dX3_taken_19 ?_
      refine mm_if_ne (tgt := 34) dX3_taken_20 (by decide) (fun c20 => ?_) (fun c20 => ?_)
      · refine mm_iincN (ls' := [(3, .int (nI (i + 1))), (2, .int (sp_pb N x i)), (0, .ref 17), (1, .int (x))]) 0 (i) 1 dX3_taken_34 rfl rfl (by decide) rfl ?_
        refine mm_goto (tgt := 4) dX3_taken_37 (by decide) ?_
        have hh := ih (i + 1) (by omega) (by omega)
        rw [pb_s (by omega)] at hh
        first
          | (rw [if_pos (by assumption)] at hh; exact mm_sub [0, 1, 2, 3] rfl hh)
          | (rw [if_neg (by assumption)] at hh; exact mm_sub [0, 1, 2, 3] rfl hh)
      · refine mm_iload_n 1 dX3_taken_23 rfl rfl ?_
        refine mm_aload_n 2 dX3_taken_24 rfl rfl ?_
        refine mm_getr (b := 18) dX3_taken_25 rfl fk_X3_14 rfl so_17 sr_17_8 ?_
        refine mm_iload_n 0 dX3_taken_28 rfl rfl ?_
        refine mm_cV1i (dz := d - 1) dX3_taken_29 rfl mzX5_at ml_X3_66 imX5_at (by omega) so_18 ⟨rfl, rfl⟩ (ct_at rw_18 (i) (by omega)) (Nat.le_of_ble_eq_true rfl) ⟨Nat.le_refl _, Nat.le_refl _⟩ ?_
        refine mm_top (v := N (590 + i)) (cN_r (lo_at19.trans (if_pos (by omega)))) ?_
        refine mm_iadd dX3_taken_32 ?_
        refine mm_istore_n (ls' := [(2, .int ((sp_pb N x i) + (N (590 + i)))), (3, .int (nI (i))), (0, .ref 17), (1, .int (x))]) dX3_taken_33 rfl (by decide) rfl ?_
        refine mm_at (pc' := 34) rfl ?_
        refine mm_iincN (ls' := [(3, .int (nI (i + 1))), (2, .int ((sp_pb N x i) + (N (590 + i)))), (0, .ref 17), (1, .int (x))]) 1 (i) 1 dX3_taken_34 rfl rfl (by decide) rfl ?_
        refine mm_goto (tgt := 4) dX3_taken_37 (by decide) ?_
        have hh := ih (i + 1) (by omega) (by omega)
        rw [pb_s (by omega)] at hh
        first
          | (rw [if_pos (by assumption)] at hh; exact mm_sub [0, 1, 2, 3] rfl hh)
          | (rw [if_neg (by assumption)] at hh; exact mm_sub [0, 1, 2, 3] rfl hh)
set_option maxRecDepth 100000 in
set_option maxHeartbeats 600000 in
theorem cg_pb {g : mm_G} {d : Nat} {w h n l k o r : Nat} {A : mm_I} {N : Nat → Int32} (hz : zOK (w * h) n l k o r) (hW : mo_W N w h) {x : Int32} (hd : 1 ≤ d) : mm_Ci g zX3_taken d [.ref 17, .int (x)] sh_S (cN (w * h) n l k o r A N) (sp_pb N x l) (cN (w * h) n l k o r A N) := by
  obtain ⟨hz1, hz2, hz3, hz4, hz5, hz6⟩ := id hz
  have hc := mo_W_c hW
  obtain ⟨-, -, hw1, hw2, hh1, hh2⟩ := id hW
  refine mm_Ci_of (fun Q hq => ?_)
  refine mm_begin (ls := [(0, .ref 17), (1, .int (x))]) (Nat.le_of_ble_eq_true rfl) rfl rfl ?_
  refine mm_iconst (v := 0) dX3_taken_0 rfl ?_
  refine mm_istore_n (ls' := [(2, .int (0)), (0, .ref 17), (1, .int (x))]) dX3_taken_1 rfl (by decide) rfl ?_
  refine mm_iconst (v := 0) dX3_taken_2 rfl ?_
  refine mm_istore_n (ls' := [(3, .int (0)), (2, .int (0)), (0, .ref 17), (1, .int (x))]) dX3_taken_3 rfl (by decide) rfl ?_
  exact lg_pb hz hW hd hq (l + 1) 0 (Nat.zero_le _) (by omega)
set_option maxRecDepth 100000 in
set_option maxHeartbeats 600000 in
theorem lg_hb {g : mm_G} {d : Nat} {w h n l k o r : Nat} {A : mm_I} {N : Nat → Int32} (hz : zOK (w * h) n l k o r) (hW : mo_W N w h) {Q : Option Value → mm_Sh → mm_I → Prop} {x : Int32} (hd : 1 ≤ d) (hq : Q (some (.int (sp_hb N x l))) sh_S (cN (w * h) n l k o r A N)) : ∀ (m : Nat) (i : Nat), (i ≤ l) → l - i < m → mm_Ex g zX3_harmOf d (0, 0) (0, 0) sh_S (cN (w * h) n l k o r A N) 4 [(3, .int (nI (i))), (2, .int (sp_hb N x i)), (0, .ref 17), (1, .int (x))] [] Q := by
  obtain ⟨hz1, hz2, hz3, hz4, hz5, hz6⟩ := id hz
  have hc := mo_W_c hW
  obtain ⟨-, -, hw1, hw2, hh1, hh2⟩ := id hW
  intro m
  induction m with
  | zero => intro i hi hmz; exact absurd hmz (Nat.not_lt_zero _)
  | succ m ih =>
    intro i hi hmz
    refine mm_iload_n 0 dX3_harmOf_4 rfl rfl ?_
    refine mm_aload_n 2 dX3_harmOf_5 rfl rfl ?_
    refine mm_getr (b := 20) dX3_harmOf_6 rfl fk_X3_20 rfl so_17 sr_17_9 ?_
    refine mm_cV0i (dz := d - 1) dX3_harmOf_9 rfl mzX5_size ml_X3_56 imX5_size (by omega) so_20 ⟨rfl, rfl⟩ (ct_size rw_20) (Nat.le_of_ble_eq_true rfl) ⟨Nat.le_refl _, Nat.le_refl _⟩ ?_
    refine mm_top (v := nI (l)) (s_l (by decide)) ?_
    refine mm_icmp_geN (i) (l) (tgt := 40) dX3_harmOf_12 (by decide) (by omega) (by omega) (fun c12 => ?_) (fun c12 => ?_)
    · refine mm_iload_n 1 dX3_harmOf_40 rfl rfl ?_
      refine mm_iret dX3_harmOf_41 rfl ⟨Nat.le_refl _, Nat.le_refl _⟩ ?_
      first | (exfalso; omega) | exact (show l = i by omega) ▸ hq
    · refine mm_iload_n 3 dX3_harmOf_15 rfl rfl ?_
      refine mm_iconst (v := 1) dX3_harmOf_16 rfl ?_
      refine mm_iload_n 0 dX3_harmOf_17 rfl rfl ?_
      refine mm_ishl dX3_harmOf_18 ?_
      refine mm_iand dX3_harmOf_19 ?_
      refine mm_if_eq (tgt := 34) dX3_harmOf_20 (by decide) (fun c20 => ?_) (fun c20 => ?_)
      · refine mm_iincN (ls' := [(3, .int (nI (i + 1))), (2, .int (sp_hb N x i)), (0, .ref 17), (1, .int (x))]) 0 (i) 1 dX3_harmOf_34 rfl rfl (by decide) rfl ?_
        refine mm_goto (tgt := 4) dX3_harmOf_37 (by decide) ?_
        have hh := ih (i + 1) (by omega) (by omega)
        rw [hb_s (by omega)] at hh
        first
          | (rw [if_pos (by assumption)] at hh; exact mm_sub [0, 1, 2, 3] rfl hh)
          | (rw [if_neg (by assumption)] at hh; exact mm_sub [0, 1, 2, 3] rfl hh)
      · refine mm_iload_n 1 dX3_harmOf_23 rfl rfl ?_
        refine mm_aload_n 2 dX3_harmOf_24 rfl rfl ?_
        refine mm_getr (b := 20) dX3_harmOf_25 rfl fk_X3_20 rfl so_17 sr_17_9 ?_
        refine mm_iload_n 0 dX3_harmOf_28 rfl rfl ?_
        refine mm_cV1i (dz := d - 1) dX3_harmOf_29 rfl mzX5_at ml_X3_66 imX5_at (by omega) so_20 ⟨rfl, rfl⟩ (ct_at rw_20 (i) (by omega)) (Nat.le_of_ble_eq_true rfl) ⟨Nat.le_refl _, Nat.le_refl _⟩ ?_
        refine mm_top (v := N (598 + i)) (cN_r (lo_at21.trans (if_pos (by omega)))) ?_
        refine mm_iadd dX3_harmOf_32 ?_
        refine mm_istore_n (ls' := [(2, .int ((sp_hb N x i) + (N (598 + i)))), (3, .int (nI (i))), (0, .ref 17), (1, .int (x))]) dX3_harmOf_33 rfl (by decide) rfl ?_
        refine mm_at (pc' := 34) rfl ?_
        refine mm_iincN (ls' := [(3, .int (nI (i + 1))), (2, .int ((sp_hb N x i) + (N (598 + i)))), (0, .ref 17), (1, .int (x))]) 1 (i) 1 dX3_harmOf_34 rfl rfl (by decide) rfl ?_
        refine mm_goto (tgt := 4) dX3_harmOf_37 (by decide) ?_
        have hh := ih (i + 1) (by omega) (by omega)
        rw [hb_s (by omega)] at hh
        first
          | (rw [if_pos (by assumption)] at hh; exact mm_sub [0, 1, 2, 3] rfl hh)
          | (rw [if_neg (by assumption)] at hh; exact mm_sub [0, 1, 2, 3] rfl hh)
set_option maxRecDepth 100000 in
set_option maxHeartbeats 600000 in
theorem cg_hb {g : mm_G} {d : Nat} {w h n l k o r : Nat} {A : mm_I} {N : Nat → Int32} (hz : zOK (w * h) n l k o r) (hW : mo_W N w h) {x : Int32} (hd : 1 ≤ d) : mm_Ci g zX3_harmOf d [.ref 17, .int (x)] sh_S (cN (w * h) n l k o r A N) (sp_hb N x l) (cN (w * h) n l k o r A N) := by
  obtain ⟨hz1, hz2, hz3, hz4, hz5, hz6⟩ := id hz
  have hc := mo_W_c hW
  obtain ⟨-, -, hw1, hw2, hh1, hh2⟩ := id hW
  refine mm_Ci_of (fun Q hq => ?_)
  refine mm_begin (ls := [(0, .ref 17), (1, .int (x))]) (Nat.le_of_ble_eq_true rfl) rfl rfl ?_
  refine mm_iconst (v := 0) dX3_harmOf_0 rfl ?_
  refine mm_istore_n (ls' := [(2, .int (0)), (0, .ref 17), (1, .int (x))]) dX3_harmOf_1 rfl (by decide) rfl ?_
  refine mm_iconst (v := 0) dX3_harmOf_2 rfl ?_
  refine mm_istore_n (ls' := [(3, .int (0)), (2, .int (0)), (0, .ref 17), (1, .int (x))]) dX3_harmOf_3 rfl (by decide) rfl ?_
  exact lg_hb hz hW hd hq (l + 1) 0 (Nat.zero_le _) (by omega)
