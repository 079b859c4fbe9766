/-! THE CLASS: its ground, small methods -/
theorem cu_cell {g : mm_G} {S : mm_Sh} {I : mm_I} {d : Nat} {x kind : Int32} (hx : sp_wi x 0 4) : mm_Ci g zX11_isUnder d [.ref (mm_KB + 1), .int x, .int kind] S I (if sp_kd x kind then 1 else 0) I := by
  obtain ⟨q, hq, rfl⟩ := sp_wi_nat 4 (by decide) hx
  have e : ∀ P : Prop, ∀ [Decidable P], (sp_kd (nI q) kind ↔ P) → (if sp_kd (nI q) kind then (1 : Int32) else 0) = if P then 1 else 0 := fun P _ h => mm_iff h
  rcases show q = 0 ∨ q = 1 ∨ q = 2 ∨ q = 3 ∨ q = 4 by omega with e | e | e | e | e <;> subst e
  · rw [e _ (show _ ↔ nI 0 = kind from ⟨fun h => by rcases h with h | ⟨h, -⟩ | ⟨-, h⟩; exact h; exact h.symm; exact absurd h (by decide), fun h => Or.inl h⟩)]; exact cu_1_0
  · rw [e _ (show _ ↔ nI 1 = kind from ⟨fun h => by rcases h with h | ⟨-, h⟩ | ⟨-, h⟩; exact h; exact absurd rfl h; exact absurd h (by decide), fun h => Or.inl h⟩)]; exact cu_1_1
  · rw [e _ (show _ ↔ nI 2 = kind ∨ nI 0 = kind from ⟨fun h => by rcases h with h | ⟨h, -⟩ | ⟨-, h⟩; exact Or.inl h; exact Or.inr h.symm; exact absurd h (by decide), fun h => by rcases h with h | h; exact Or.inl h; exact Or.inr (Or.inl ⟨h.symm, by decide⟩)⟩)]; exact cu_1_2
  · rw [e _ (show _ ↔ nI 3 = kind ∨ nI 0 = kind from ⟨fun h => by rcases h with h | ⟨h, -⟩ | ⟨-, h⟩; exact Or.inl h; exact Or.inr h.symm; exact absurd h (by decide), fun h => by rcases h with h | h; exact Or.inl h; exact Or.inr (Or.inl ⟨h.symm, by decide⟩)⟩)]; exact cu_1_3
  · rw [e _ (show _ ↔ nI 4 = kind ∨ nI 3 = kind ∨ nI 0 = kind from ⟨fun h => by rcases h with h | ⟨h, -⟩ | ⟨h, -⟩; exact Or.inl h; exact Or.inr (Or.inr h.symm); exact Or.inr (Or.inl h.symm), fun h => by rcases h with h | h | h; exact Or.inl h; exact Or.inr (Or.inr ⟨h.symm, rfl⟩); exact Or.inr (Or.inl ⟨h.symm, by decide⟩)⟩)]; exact cu_1_4
theorem cu_mach {g : mm_G} {S : mm_Sh} {I : mm_I} {d : Nat} {x kind : Int32} (hx : sp_wi x 0 3) : mm_Ci g zX11_isUnder d [.ref (mm_KB + 2), .int x, .int kind] S I (if sp_mk x kind then 1 else 0) I := by
  obtain ⟨q, hq, rfl⟩ := sp_wi_nat 3 (by decide) hx
  have e : ∀ P : Prop, ∀ [Decidable P], (sp_mk (nI q) kind ↔ P) → (if sp_mk (nI q) kind then (1 : Int32) else 0) = if P then 1 else 0 := fun P _ h => mm_iff h
  rcases show q = 0 ∨ q = 1 ∨ q = 2 ∨ q = 3 by omega with e | e | e | e <;> subst e
  · rw [e _ (show _ ↔ nI 0 = kind from ⟨fun h => by rcases h with h | h | ⟨-, h⟩; exact h.symm; exact h; exact absurd h (by decide), fun h => Or.inr (Or.inl h)⟩)]; exact cu_2_0
  · rw [e _ (show _ ↔ nI 1 = kind ∨ nI 0 = kind from ⟨fun h => by rcases h with h | h | ⟨-, h⟩; exact Or.inr h.symm; exact Or.inl h; exact absurd h (by decide), fun h => by rcases h with h | h; exact Or.inr (Or.inl h); exact Or.inl h.symm⟩)]; exact cu_2_1
  · rw [e _ (show _ ↔ nI 2 = kind ∨ nI 1 = kind ∨ nI 0 = kind from ⟨fun h => by rcases h with h | h | ⟨h, -⟩; exact Or.inr (Or.inr h.symm); exact Or.inl h; exact Or.inr (Or.inl h.symm), fun h => by rcases h with h | h | h; exact Or.inr (Or.inl h); exact Or.inr (Or.inr ⟨h.symm, rfl⟩); exact Or.inl h.symm⟩)]; exact cu_2_2
  · rw [e _ (show _ ↔ nI 3 = kind ∨ nI 0 = kind from ⟨fun h => by rcases h with h | h | ⟨-, h⟩; exact Or.inr h.symm; exact Or.inl h; exact absurd h (by decide), fun h => by rcases h with h | h; exact Or.inr (Or.inl h); exact Or.inl h.symm⟩)]; exact cu_2_3
theorem s_kind {c n l k o r : Nat} {A : mm_I} {N : Nat → Int32} {i : Nat} (h : i < c) : cN c n l k o r A N 4 i = N (30 + i) := cN_r (lo_at4.trans (if_pos h))
theorem s_dust {c n l k o r : Nat} {A : mm_I} {N : Nat → Int32} {i : Nat} (h : i < c) : cN c n l k o r A N 6 i = N (110 + i) := cN_r (lo_at6.trans (if_pos h))
theorem s_ice {c n l k o r : Nat} {A : mm_I} {N : Nat → Int32} {i : Nat} (h : i < c) : cN c n l k o r A N 8 i = N (190 + i) := cN_r (lo_at8.trans (if_pos h))
theorem s_w {c n l k o r : Nat} {A : mm_I} {N : Nat → Int32} {w h : Nat} (hW : mo_W N w h) : cN c n l k o r A N 2 0 = nI w := (cN_r (x := 0) (lo_at2.trans rfl)).trans hW.1
theorem s_h {c n l k o r : Nat} {A : mm_I} {N : Nat → Int32} {w h : Nat} (hW : mo_W N w h) : cN c n l k o r A N 2 1 = nI h := (cN_r (x := 1) (lo_at2.trans rfl)).trans hW.2.1
theorem s_seen {c n l k o r : Nat} {A : mm_I} {N : Nat → Int32} {y j : Nat} (h : y < c) (hj : j < 4) (h2 : 0 ≤ N (270 + 4 * y + 3) ∨ j = 3) : cN c n l k o r A N 10 (4 * y + j) = N (270 + 4 * y + j) := by
  rw [cN_r (x := 270 + (4 * y + j)) (lo_at10.trans (if_pos ⟨by omega, ?_⟩))]
  · rw [show 270 + (4 * y + j) = 270 + 4 * y + j by omega]
  · rw [show (4 * y + j) / 4 = y by omega]
    rcases h2 with q | q
    · exact Or.inl (decide_eq_true q)
    · right; omega
set_option maxRecDepth 100000 in
set_option maxHeartbeats 600000 in
theorem cg_cells {g : mm_G} {d : Nat} {w h n l k o r : Nat} {A : mm_I} {N : Nat → Int32} (hz : zOK (w * h) n l k o r) (hW : mo_W N w h) : mm_Ci g zX0_cells d [.ref 2] sh_S (cN (w * h) n l k o r A N) (nI (w * h)) (cN (w * h) n l k o r A N) := by
  obtain ⟨hz1, hz2, hz3, hz4, hz5, hz6⟩ := id hz
  have hc := mo_W_c hW
  obtain ⟨-, -, hw1, hw2, hh1, hh2⟩ := id hW
  refine mm_Ci_of (fun Q hq => ?_)
  refine mm_begin (ls := [(0, .ref 2)]) (Nat.le_of_ble_eq_true rfl) rfl rfl ?_
  refine mm_aload_n 0 dX0_cells_0 rfl rfl ?_
  refine mm_geti dX0_cells_1 rfl fk_X0_42 rfl so_2 ?_
  refine mm_top (v := nI (w)) (s_w hW) ?_
  refine mm_aload_n 0 dX0_cells_4 rfl rfl ?_
  refine mm_geti dX0_cells_5 rfl fk_X0_46 rfl so_2 ?_
  refine mm_top (v := nI (h)) (s_h hW) ?_
  refine mm_imulN (w) (h) dX0_cells_8 ?_
  refine mm_iret dX0_cells_9 rfl ⟨Nat.le_refl _, Nat.le_refl _⟩ ?_
  exact hq
set_option maxRecDepth 100000 in
set_option maxHeartbeats 600000 in
theorem cg_holds {g : mm_G} {d : Nat} {w h n l k o r : Nat} {A : mm_I} {N : Nat → Int32} (hz : zOK (w * h) n l k o r) (hW : mo_W N w h) {c : Int32} (hd : 1 ≤ d) : mm_Ci g zX0_holds d [.ref 2, .int (c)] sh_S (cN (w * h) n l k o r A N) (if sp_isC w h c then 1 else 0) (cN (w * h) n l k o r A N) := by
  obtain ⟨hz1, hz2, hz3, hz4, hz5, hz6⟩ := id hz
  have hc := mo_W_c hW
  obtain ⟨-, -, hw1, hw2, hh1, hh2⟩ := id hW
  refine mm_Ci_of (fun Q hq => ?_)
  refine mm_begin (ls := [(0, .ref 2), (1, .int (c))]) (Nat.le_of_ble_eq_true rfl) rfl rfl ?_
  refine mm_iload_n 1 dX0_holds_0 rfl rfl ?_
  refine mm_if_lt (tgt := 16) dX0_holds_1 (by decide) (fun c1 => ?_) (fun c1 => ?_)
  · refine mm_iconst (v := 0) dX0_holds_16 rfl ?_
    refine mm_zret dX0_holds_17 rfl (by decide) ⟨Nat.le_refl _, Nat.le_refl _⟩ ?_
    rw [if_neg (by first | (exact ⟨Int32.not_lt.mp c1, Int32.not_le.mp c9⟩) | (exact fun q => absurd q.1 (Int32.not_le.mpr c1)) | (exact fun q => absurd c9 (Int32.not_le.mpr q.2)))] at hq; exact hq
  · refine mm_iload_n 1 dX0_holds_4 rfl rfl ?_
    refine mm_aload_n 0 dX0_holds_5 rfl rfl ?_
    refine mm_cV0i (dz := d - 1) dX0_holds_6 rfl mzX0_cells ml_X0_49 imX0_cells (by omega) so_2 ⟨rfl, rfl⟩ (cg_cells hz hW) (Nat.le_of_ble_eq_true rfl) ⟨Nat.le_refl _, Nat.le_refl _⟩ ?_
    refine mm_icmp_ge (tgt := 16) dX0_holds_9 (by decide) (fun c9 => ?_) (fun c9 => ?_)
    · refine mm_iconst (v := 0) dX0_holds_16 rfl ?_
      refine mm_zret dX0_holds_17 rfl (by decide) ⟨Nat.le_refl _, Nat.le_refl _⟩ ?_
      rw [if_neg (by first | (exact ⟨Int32.not_lt.mp c1, Int32.not_le.mp c9⟩) | (exact fun q => absurd q.1 (Int32.not_le.mpr c1)) | (exact fun q => absurd c9 (Int32.not_le.mpr q.2)))] at hq; exact hq
    · refine mm_iconst (v := 1) dX0_holds_12 rfl ?_
      refine mm_goto (tgt := 17) dX0_holds_13 (by decide) ?_
      refine mm_zret dX0_holds_17 rfl (by decide) ⟨Nat.le_refl _, Nat.le_refl _⟩ ?_
      rw [if_pos (by first | (exact ⟨Int32.not_lt.mp c1, Int32.not_le.mp c9⟩) | (exact fun q => absurd q.1 (Int32.not_le.mpr c1)) | (exact fun q => absurd c9 (Int32.not_le.mpr q.2)))] at hq; exact hq
set_option maxRecDepth 100000 in
set_option maxHeartbeats 600000 in
theorem cg_column {g : mm_G} {d : Nat} {w h n l k o r : Nat} {A : mm_I} {N : Nat → Int32} (hz : zOK (w * h) n l k o r) (hW : mo_W N w h) {c : Nat} (hcc : c < w * h) : mm_Ci g zX0_column d [.ref 2, .int (nI (c))] sh_S (cN (w * h) n l k o r A N) (nI (c % w)) (cN (w * h) n l k o r A N) := by
  obtain ⟨hz1, hz2, hz3, hz4, hz5, hz6⟩ := id hz
  have hc := mo_W_c hW
  obtain ⟨-, -, hw1, hw2, hh1, hh2⟩ := id hW
  refine mm_Ci_of (fun Q hq => ?_)
  refine mm_begin (ls := [(0, .ref 2), (1, .int (nI (c)))]) (Nat.le_of_ble_eq_true rfl) rfl rfl ?_
  refine mm_aload_n 0 dX0_column_0 rfl rfl ?_
  refine mm_geti dX0_column_1 rfl fk_X0_42 rfl so_2 ?_
  refine mm_top (v := nI (w)) (s_w hW) ?_
  refine mm_if_leN (w) (tgt := 16) dX0_column_4 (by decide) (by omega) (fun c4 => ?_) (fun c4 => ?_)
  · refine mm_iconst (v := 0) dX0_column_16 rfl ?_
    refine mm_iret dX0_column_17 rfl ⟨Nat.le_refl _, Nat.le_refl _⟩ ?_
    first | exact hq | (exfalso; omega)
  · refine mm_iload_n 1 dX0_column_7 rfl rfl ?_
    refine mm_aload_n 0 dX0_column_8 rfl rfl ?_
    refine mm_geti dX0_column_9 rfl fk_X0_42 rfl so_2 ?_
    refine mm_top (v := nI (w)) (s_w hW) ?_
    refine mm_iremN (c) (w) dX0_column_12 (by omega) (by omega) (by omega) ?_
    refine mm_goto (tgt := 17) dX0_column_13 (by decide) ?_
    refine mm_iret dX0_column_17 rfl ⟨Nat.le_refl _, Nat.le_refl _⟩ ?_
    first | exact hq | (exfalso; omega)
set_option maxRecDepth 100000 in
set_option maxHeartbeats 600000 in
theorem cg_line {g : mm_G} {d : Nat} {w h n l k o r : Nat} {A : mm_I} {N : Nat → Int32} (hz : zOK (w * h) n l k o r) (hW : mo_W N w h) {c : Nat} (hcc : c < w * h) : mm_Ci g zX0_line d [.ref 2, .int (nI (c))] sh_S (cN (w * h) n l k o r A N) (nI (c / w)) (cN (w * h) n l k o r A N) := by
  obtain ⟨hz1, hz2, hz3, hz4, hz5, hz6⟩ := id hz
  have hc := mo_W_c hW
  obtain ⟨-, -, hw1, hw2, hh1, hh2⟩ := id hW
  refine mm_Ci_of (fun Q hq => ?_)
  refine mm_begin (ls := [(0, .ref 2), (1, .int (nI (c)))]) (Nat.le_of_ble_eq_true rfl) rfl rfl ?_
  refine mm_aload_n 0 dX0_line_0 rfl rfl ?_
  refine mm_geti dX0_line_1 rfl fk_X0_42 rfl so_2 ?_
  refine mm_top (v := nI (w)) (s_w hW) ?_
  refine mm_if_leN (w) (tgt := 16) dX0_line_4 (by decide) (by omega) (fun c4 => ?_) (fun c4 => ?_)
  · refine mm_iconst (v := 0) dX0_line_16 rfl ?_
    refine mm_iret dX0_line_17 rfl ⟨Nat.le_refl _, Nat.le_refl _⟩ ?_
    first | exact hq | (exfalso; omega)
  · refine mm_iload_n 1 dX0_line_7 rfl rfl ?_
    refine mm_aload_n 0 dX0_line_8 rfl rfl ?_
    refine mm_geti dX0_line_9 rfl fk_X0_42 rfl so_2 ?_
    refine mm_top (v := nI (w)) (s_w hW) ?_
    refine mm_idivN (c) (w) dX0_line_12 (by omega) (by omega) (by omega) ?_
    refine mm_goto (tgt := 17) dX0_line_13 (by decide) ?_
    refine mm_iret dX0_line_17 rfl ⟨Nat.le_refl _, Nat.le_refl _⟩ ?_
    first | exact hq | (exfalso; omega)
set_option maxRecDepth 100000 in
set_option maxHeartbeats 600000 in
theorem cg_isA {g : mm_G} {d : Nat} {w h n l k o r : Nat} {A : mm_I} {N : Nat → Int32} (hz : zOK (w * h) n l k o r) (hW : mo_W N w h) {c : Nat} {kind : Int32} (hcc : c < w * h) (hk : sp_wi (N (30 + c)) 0 4) (hd : 1 ≤ d) : mm_Ci g zX0_isA d [.ref 2, .int (nI (c)), .int (kind)] sh_S (cN (w * h) n l k o r A N) (if sp_kd (N (30 + c)) kind then 1 else 0) (cN (w * h) n l k o r A N) := by
  obtain ⟨hz1, hz2, hz3, hz4, hz5, hz6⟩ := id hz
  have hc := mo_W_c hW
  obtain ⟨-, -, hw1, hw2, hh1, hh2⟩ := id hW
  refine mm_Ci_of (fun Q hq => ?_)
  refine mm_begin (ls := [(0, .ref 2), (1, .int (nI (c))), (2, .int (kind))]) (Nat.le_of_ble_eq_true rfl) rfl rfl ?_
  refine mm_getsN (j := 1) dX0_isA_0 rfl (by decide) (by decide) ?_
  refine mm_aload_n 0 dX0_isA_3 rfl rfl ?_
  refine mm_getr (b := 3) dX0_isA_4 rfl fk_X0_14 rfl so_2 sr_2_2 ?_
  refine mm_iload_n 1 dX0_isA_7 rfl rfl ?_
  refine mm_cV1i (dz := d - 1) dX0_isA_8 rfl mzX5_at ml_X0_73 imX5_at (by omega) so_3 ⟨rfl, rfl⟩ (ct_at rw_3 (c) (by omega)) (Nat.le_of_ble_eq_true rfl) ⟨Nat.le_refl _, Nat.le_refl _⟩ ?_
  refine mm_top (v := N (30 + c)) (s_kind (by omega)) ?_
  refine mm_iload_n 2 dX0_isA_11 rfl rfl ?_
  refine mm_cN3i (dz := d - 1) dX0_isA_12 rfl mzX11_isUnder (by decide) imX11_isUnder (by omega) (cu_cell (by assumption)) (Nat.le_of_ble_eq_true rfl) ⟨Nat.le_refl _, Nat.le_refl _⟩ ?_
  refine mm_zret dX0_isA_15 rfl mm_b01 ⟨Nat.le_refl _, Nat.le_refl _⟩ ?_
  exact hq
set_option maxRecDepth 100000 in
set_option maxHeartbeats 600000 in
theorem cg_isOpen {g : mm_G} {d : Nat} {w h n l k o r : Nat} {A : mm_I} {N : Nat → Int32} (hz : zOK (w * h) n l k o r) (hW : mo_W N w h) {c : Nat} (hcc : c < w * h) (hd : 1 ≤ d) : mm_Ci g zX0_isOpen d [.ref 2, .int (nI (c))] sh_S (cN (w * h) n l k o r A N) (if ¬ N (30 + c) = 1 then 1 else 0) (cN (w * h) n l k o r A N) := by
  obtain ⟨hz1, hz2, hz3, hz4, hz5, hz6⟩ := id hz
  have hc := mo_W_c hW
  obtain ⟨-, -, hw1, hw2, hh1, hh2⟩ := id hW
  refine mm_Ci_of (fun Q hq => ?_)
  refine mm_begin (ls := [(0, .ref 2), (1, .int (nI (c)))]) (Nat.le_of_ble_eq_true rfl) rfl rfl ?_
  refine mm_aload_n 0 dX0_isOpen_0 rfl rfl ?_
  refine mm_getr (b := 3) dX0_isOpen_1 rfl fk_X0_14 rfl so_2 sr_2_2 ?_
  refine mm_iload_n 1 dX0_isOpen_4 rfl rfl ?_
  refine mm_cV1i (dz := d - 1) dX0_isOpen_5 rfl mzX5_at ml_X0_73 imX5_at (by omega) so_3 ⟨rfl, rfl⟩ (ct_at rw_3 (c) (by omega)) (Nat.le_of_ble_eq_true rfl) ⟨Nat.le_refl _, Nat.le_refl _⟩ ?_
  refine mm_top (v := N (30 + c)) (s_kind (by omega)) ?_
  refine mm_iconst (v := 1) dX0_isOpen_8 rfl ?_
  refine mm_icmp_eq (tgt := 16) dX0_isOpen_9 (by decide) (fun c9 => ?_) (fun c9 => ?_)
  · refine mm_iconst (v := 0) dX0_isOpen_16 rfl ?_
    refine mm_zret dX0_isOpen_17 rfl (by decide) ⟨Nat.le_refl _, Nat.le_refl _⟩ ?_
    rw [if_neg (by first | exact c9 | exact fun q => q c9)] at hq; exact hq
  · refine mm_iconst (v := 1) dX0_isOpen_12 rfl ?_
    refine mm_goto (tgt := 17) dX0_isOpen_13 (by decide) ?_
    refine mm_zret dX0_isOpen_17 rfl (by decide) ⟨Nat.le_refl _, Nat.le_refl _⟩ ?_
    rw [if_pos (by first | exact c9 | exact fun q => q c9)] at hq; exact hq
set_option maxRecDepth 100000 in
set_option maxHeartbeats 600000 in
theorem cg_beside {g : mm_G} {d : Nat} {w h n l k o r : Nat} {A : mm_I} {N : Nat → Int32} (hz : zOK (w * h) n l k o r) (hW : mo_W N w h) {c y : Nat} (hcc : c < w * h) (hy : y < 4) (hd : 1 ≤ d) : mm_Ci g zX0_beside d [.ref 2, .int (nI (c)), .int (nI (y))] sh_S (cN (w * h) n l k o r A N) (sp_be w h c y) (cN (w * h) n l k o r A N) := by
  obtain ⟨hz1, hz2, hz3, hz4, hz5, hz6⟩ := id hz
  have hc := mo_W_c hW
  obtain ⟨-, -, hw1, hw2, hh1, hh2⟩ := id hW
  have hm := Nat.mod_lt c (show 0 < w by omega)
  have hdm := sp_dm w c
  have hdl := sp_dl (show 0 < w by omega) hcc
  have hdw : 0 < c / w → w ≤ c := fun q => by have := Nat.div_mul_le_self c w; have := Nat.mul_le_mul_right w (show 1 ≤ c / w from q); omega
  refine mm_Ci_of (fun Q hq => ?_)
  refine mm_begin (ls := [(0, .ref 2), (1, .int (nI (c))), (2, .int (nI (y)))]) (Nat.le_of_ble_eq_true rfl) rfl rfl ?_
  refine mm_iload_n 2 dX0_beside_0 rfl rfl ?_
  by_cases e1_0 : (y) = 0
  · refine mm_tabIn (0) (tgt := 28) dX0_beside_1 (by rw [e1_0]; rfl) (by decide) (by decide) rfl (by decide) ?_
    refine mm_aload_n 0 dX0_beside_28 rfl rfl ?_
    refine mm_iload_n 1 dX0_beside_29 rfl rfl ?_
    refine mm_cV1i (dz := d - 1) dX0_beside_30 rfl mzX0_column ml_X0_81 imX0_column (by omega) so_2 ⟨rfl, rfl⟩ (cg_column hz hW (c := c) (by omega)) (Nat.le_of_ble_eq_true rfl) ⟨Nat.le_refl _, Nat.le_refl _⟩ ?_
    refine mm_iconst (v := 1) dX0_beside_33 rfl ?_
    refine mm_iaddN (c % w) (1) dX0_beside_34 ?_
    refine mm_aload_n 0 dX0_beside_35 rfl rfl ?_
    refine mm_geti dX0_beside_36 rfl fk_X0_42 rfl so_2 ?_
    refine mm_top (v := nI (w)) (s_w hW) ?_
    refine mm_icmp_geN ((c % w) + 1) (w) (tgt := 48) dX0_beside_39 (by decide) (by omega) (by omega) (fun c39 => ?_) (fun c39 => ?_)
    · refine mm_iconst (v := -1) dX0_beside_48 rfl ?_
      refine mm_iret dX0_beside_49 rfl ⟨Nat.le_refl _, Nat.le_refl _⟩ ?_
      have e : sp_be w h c y = -1 := by rw [show y = 0 by omega]; exact if_neg (by omega)
      rw [e] at hq; exact hq
    · refine mm_iload_n 1 dX0_beside_42 rfl rfl ?_
      refine mm_iconst (v := 1) dX0_beside_43 rfl ?_
      refine mm_iaddN (c) (1) dX0_beside_44 ?_
      refine mm_goto (tgt := 49) dX0_beside_45 (by decide) ?_
      refine mm_iret dX0_beside_49 rfl ⟨Nat.le_refl _, Nat.le_refl _⟩ ?_
      have e : sp_be w h c y = nI (c + 1) := by rw [show y = 0 by omega]; exact if_pos (by omega)
      rw [e] at hq; exact hq
  by_cases e1_1 : (y) = 1
  · refine mm_tabIn (1) (tgt := 50) dX0_beside_1 (by rw [e1_1]; rfl) (by decide) (by decide) rfl (by decide) ?_
    refine mm_aload_n 0 dX0_beside_50 rfl rfl ?_
    refine mm_iload_n 1 dX0_beside_51 rfl rfl ?_
    refine mm_cV1i (dz := d - 1) dX0_beside_52 rfl mzX0_column ml_X0_81 imX0_column (by omega) so_2 ⟨rfl, rfl⟩ (cg_column hz hW (c := c) (by omega)) (Nat.le_of_ble_eq_true rfl) ⟨Nat.le_refl _, Nat.le_refl _⟩ ?_
    refine mm_if_leN (c % w) (tgt := 64) dX0_beside_55 (by decide) (by omega) (fun c55 => ?_) (fun c55 => ?_)
    · refine mm_iconst (v := -1) dX0_beside_64 rfl ?_
      refine mm_iret dX0_beside_65 rfl ⟨Nat.le_refl _, Nat.le_refl _⟩ ?_
      have e : sp_be w h c y = -1 := by rw [show y = 1 by omega]; exact if_neg (by omega)
      rw [e] at hq; exact hq
    · refine mm_iload_n 1 dX0_beside_58 rfl rfl ?_
      refine mm_iconst (v := 1) dX0_beside_59 rfl ?_
      refine mm_isubN (c) (1) dX0_beside_60 (by omega) ?_
      refine mm_goto (tgt := 65) dX0_beside_61 (by decide) ?_
      refine mm_iret dX0_beside_65 rfl ⟨Nat.le_refl _, Nat.le_refl _⟩ ?_
      have e : sp_be w h c y = nI (c - 1) := by rw [show y = 1 by omega]; exact if_pos (by omega)
      rw [e] at hq; exact hq
  by_cases e1_2 : (y) = 2
  · refine mm_tabIn (2) (tgt := 66) dX0_beside_1 (by rw [e1_2]; rfl) (by decide) (by decide) rfl (by decide) ?_
    refine mm_aload_n 0 dX0_beside_66 rfl rfl ?_
    refine mm_iload_n 1 dX0_beside_67 rfl rfl ?_
    refine mm_cV1i (dz := d - 1) dX0_beside_68 rfl mzX0_line ml_X0_84 imX0_line (by omega) so_2 ⟨rfl, rfl⟩ (cg_line hz hW (c := c) (by omega)) (Nat.le_of_ble_eq_true rfl) ⟨Nat.le_refl _, Nat.le_refl _⟩ ?_
    refine mm_iconst (v := 1) dX0_beside_71 rfl ?_
    refine mm_iaddN (c / w) (1) dX0_beside_72 ?_
    refine mm_aload_n 0 dX0_beside_73 rfl rfl ?_
    refine mm_geti dX0_beside_74 rfl fk_X0_46 rfl so_2 ?_
    refine mm_top (v := nI (h)) (s_h hW) ?_
    refine mm_icmp_geN ((c / w) + 1) (h) (tgt := 89) dX0_beside_77 (by decide) (by omega) (by omega) (fun c77 => ?_) (fun c77 => ?_)
    · refine mm_iconst (v := -1) dX0_beside_89 rfl ?_
      refine mm_iret dX0_beside_90 rfl ⟨Nat.le_refl _, Nat.le_refl _⟩ ?_
      have e : sp_be w h c y = -1 := by rw [show y = 2 by omega]; exact if_neg (by omega)
      rw [e] at hq; exact hq
    · refine mm_iload_n 1 dX0_beside_80 rfl rfl ?_
      refine mm_aload_n 0 dX0_beside_81 rfl rfl ?_
      refine mm_geti dX0_beside_82 rfl fk_X0_42 rfl so_2 ?_
      refine mm_top (v := nI (w)) (s_w hW) ?_
      refine mm_iaddN (c) (w) dX0_beside_85 ?_
      refine mm_goto (tgt := 90) dX0_beside_86 (by decide) ?_
      refine mm_iret dX0_beside_90 rfl ⟨Nat.le_refl _, Nat.le_refl _⟩ ?_
      have e : sp_be w h c y = nI (c + w) := by rw [show y = 2 by omega]; exact if_pos (by omega)
      rw [e] at hq; exact hq
  refine mm_tabOut 0 3 (tgt := 91) dX0_beside_1 rfl (by decide) (fun k hk q => by have q := (nI_eq (by omega) (by omega)).mp q; omega) (by decide) ?_
  refine mm_aload_n 0 dX0_beside_91 rfl rfl ?_
  refine mm_iload_n 1 dX0_beside_92 rfl rfl ?_
  refine mm_cV1i (dz := d - 1) dX0_beside_93 rfl mzX0_line ml_X0_84 imX0_line (by omega) so_2 ⟨rfl, rfl⟩ (cg_line hz hW (c := c) (by omega)) (Nat.le_of_ble_eq_true rfl) ⟨Nat.le_refl _, Nat.le_refl _⟩ ?_
  refine mm_if_leN (c / w) (tgt := 108) dX0_beside_96 (by decide) (by omega) (fun c96 => ?_) (fun c96 => ?_)
  · refine mm_iconst (v := -1) dX0_beside_108 rfl ?_
    refine mm_iret dX0_beside_109 rfl ⟨Nat.le_refl _, Nat.le_refl _⟩ ?_
    have e : sp_be w h c y = -1 := by rw [show y = 3 by omega]; exact if_neg (by omega)
    rw [e] at hq; exact hq
  · refine mm_iload_n 1 dX0_beside_99 rfl rfl ?_
    refine mm_aload_n 0 dX0_beside_100 rfl rfl ?_
    refine mm_geti dX0_beside_101 rfl fk_X0_42 rfl so_2 ?_
    refine mm_top (v := nI (w)) (s_w hW) ?_
    refine mm_isubN (c) (w) dX0_beside_104 (by omega) ?_
    refine mm_goto (tgt := 109) dX0_beside_105 (by decide) ?_
    refine mm_iret dX0_beside_109 rfl ⟨Nat.le_refl _, Nat.le_refl _⟩ ?_
    have e : sp_be w h c y = nI (c - w) := by rw [show y = 3 by omega]; exact if_pos (by omega)
    rw [e] at hq; exact hq
