/-! THE START: the memory behind both constructors is as RC asks -/
def st_I : mm_I := im_X12_200 (im_X11_0 (fun _ _ => 0))
theorem st_g1 : st_I 2 0 = st_I 201 0 ∧ st_I 2 1 = st_I 201 1 ∧ st_I 2 7 = st_I 201 14 ∧ st_I 2 8 = st_I 201 13 ∧ st_I 17 0 = st_I 201 7 ∧ st_I 17 6 = st_I 201 8 ∧ st_I 17 7 = st_I 201 9 ∧ st_I 82 1 = nI 0 ∧ st_I 84 1 = nI 0 ∧ st_I 1 4 = nI 0 := by decide +kernel
theorem st_g2 : ∀ i, i < 24 → st_I 4 i = st_I 201 (30 + i) := by decide +kernel
theorem st_g3 : ∀ i, i < 24 → st_I 6 i = st_I 201 (110 + i) := by decide +kernel
theorem st_g4 : ∀ i, i < 24 → st_I 8 i = st_I 201 (190 + i) := by decide +kernel
theorem st_g5 : ∀ i, i < 24 → st_I 10 (4 * i + 3) = st_I 201 (270 + 4 * i + 3) := by decide +kernel
theorem st_g6 : ∀ i, i < 24 → ¬ 0 ≤ st_I 201 (270 + 4 * i + 3) := by decide +kernel
theorem st_g7 : ∀ i, i < 3 → st_I 12 i = st_I 201 (10 + i) := by decide +kernel
theorem st_g8 : ∀ i, i < 5 → st_I 17 (1 + i) = st_I 201 (2 + i) := by decide +kernel
theorem st_g9 : st_I 18 1 = nI 0 ∧ st_I 20 1 = nI 0 ∧ st_I 23 1 = nI 0 ∧ st_I 25 1 = nI 0 ∧ st_I 27 1 = nI 0 ∧ st_I 29 1 = nI 0 := by decide +kernel
theorem st_g10 : ∀ i, i < 24 → st_I 201 (30 + i) = nI (if i = 0 then 4 else 0) := by decide +kernel
theorem st_g11 : ∀ p, p < 6 → st_I 201 (1226 + 418 * p) = nI 0 ∧ st_I (52 + 5 * p) 2 = nI 0 := by decide +kernel
theorem st_g12 : st_I 201 0 = nI 6 ∧ st_I 201 1 = nI 4 ∧ st_I 201 2 = nI 14 ∧ st_I 201 3 = nI 14 ∧ st_I 201 4 = nI 100 ∧ st_I 201 5 = nI 10 ∧ st_I 201 6 = nI 3 ∧ st_I 201 7 = nI 0 ∧ st_I 201 12 = nI 0 ∧ st_I 201 15 = nI 0 ∧ st_I 201 16 = nI 0 ∧ st_I 201 17 = nI 0 ∧ st_I 201 18 = nI 0 ∧ st_I 201 19 = nI 0 := by decide +kernel
theorem st_g13 : st_I 0 2 = 0 ∧ st_I 200 2 = 0 ∧ st_I 174 1 = nI 0 ∧ st_I 200 4 = nI 0 ∧ st_I 191 1 = nI 0 ∧ st_I 200 5 = nI 0 ∧ st_I 195 2 = nI 0 := by decide +kernel
theorem st_g14 : ∀ s, s < 2 → st_I 205 s = -1 := by decide +kernel
theorem op_lgs_a {J : mm_I} {w h a : Nat} (ha : a ≠ 201) : op_lgs J w h 80 a = J a := funext fun k => op_lgs_hi J w h 80 a k (Or.inl ha) (by decide)
theorem st_g15 : st_I 175 = fun _ => 0 := by
  unfold st_I im_X12_200 op_lg
  rw [mm_up_a (by decide), mm_up_a (by decide), mm_up_a (by decide), mm_up_a (by decide), mm_up_a (by decide), mm_up_a (by decide), mm_up_a (by decide), mm_up_a (by decide), op_lgs_a (by decide), mm_up_a (by decide), mm_up_a (by decide), mm_up_a (by decide), mm_up_a (by decide), mm_up_a (by decide), mm_up_a (by decide), mm_up_a (by decide), mm_up_a (by decide), mm_up_a (by decide)]
  unfold im_X11_0
  rw [mm_up_a (by decide), im_X8_86_a (by decide), im_X8_1_a (by decide)]
theorem st_g16 : st_I 203 = fun _ => 0 := by
  unfold st_I im_X12_200 op_lg
  rw [mm_up_a (by decide), mm_up_a (by decide), mm_up_a (by decide), mm_up_a (by decide), mm_up_a (by decide), mm_up_a (by decide), mm_up_a (by decide), mm_up_a (by decide), op_lgs_a (by decide), mm_up_a (by decide), mm_up_a (by decide), mm_up_a (by decide), mm_up_a (by decide), mm_up_a (by decide), mm_up_a (by decide), mm_up_a (by decide), mm_up_a (by decide), mm_up_a (by decide)]
  rw [im_X11_0_a (by decide)]
theorem no_0 {i : Nat} {P : Prop} (h : i < 0) : P := absurd h (Nat.not_lt_zero i)
theorem st_iT : iT (st_I 201) 6 4 0 := by
  obtain ⟨h0, h1, -, -, h4, -, -, -, h12, -⟩ := st_g12
  refine ⟨⟨h0, h1, by decide, by decide, by decide, by decide⟩, fun i hi => no_0 hi, fun i j _ hj => no_0 hj, fun x hx => ⟨if x = 0 then 4 else 0, ?_, st_g10 x hx, ?_⟩, ⟨100, by decide, h4⟩, ⟨0, by decide, h12⟩⟩
  · by_cases z : x = 0
    · rw [if_pos z]; exact Nat.le_refl _
    · rw [if_neg z]; exact Nat.zero_le _
  · by_cases z : x = 0
    · rw [if_pos z]; exact ⟨fun _ => z, fun _ => rfl⟩
    · rw [if_neg z]; exact ⟨fun q => absurd q (by decide), fun q => absurd q z⟩
theorem st_iV : iV (st_I 201) 6 4 0 0 0 0 0 0 := by
  obtain ⟨h0, h1, h2, h3, h4, h5, h6, h7, h12, h15, h16, h17, h18, h19⟩ := st_g12
  exact ⟨st_iT, fun i hi => no_0 hi, fun p hp => ⟨0, (st_g11 p hp).1, by decide, fun s hs => no_0 hs⟩, ⟨h15, h16, h17, h18, h19⟩, ⟨by decide, by decide, by decide, by decide⟩, ⟨14, 14, h2, h3, ⟨by decide, by decide⟩, by decide⟩, ⟨10, by decide, h5⟩, ⟨3, by decide, h6⟩, fun i hi => no_0 hi, fun i hi => no_0 hi, fun i hi => no_0 hi, fun i hi => no_0 hi, ⟨h7, by decide⟩, fun i hi => no_0 hi, fun j => Nat.zero_le _⟩
theorem st_sS : sS (6 * 4) 0 0 0 0 0 st_I (st_I 201) := by
  obtain ⟨a1, a2, a3, a4, a5, a6, a7, a8, a9, a10⟩ := st_g1
  obtain ⟨b1, b2, b3, b4, b5, b6⟩ := st_g9
  exact ⟨a1, a2, a3, a4, st_g2, st_g3, st_g4, st_g5, fun y j hy _ h => absurd h (st_g6 y hy), st_g7, a5, st_g8, a6, a7, fun i hi => no_0 hi, fun i hi => no_0 hi, fun i hi => no_0 hi, fun i hi => no_0 hi, fun i hi => no_0 hi, fun i hi => no_0 hi, fun m i hm _ => no_0 hm, fun i hi => no_0 hi, fun i hi => no_0 hi,
    fun a h => h.elim (fun e => by rw [e]; exact b1) (fun e => by rw [e]; exact b2), fun a h => h.elim (fun e => by rw [e]; exact b3) (fun h => h.elim (fun e => by rw [e]; exact b4) (fun h => h.elim (fun e => by rw [e]; exact b5) (fun e => by rw [e]; exact b6))), a8, a9, a10⟩
theorem st_RC : RC st_I := by
  obtain ⟨c1, c2, c3, c4, c5, c6, c7⟩ := st_g13
  refine ⟨⟨6, 4, 0, 0, 0, 0, 0, 0, st_iV, st_sS, fun p hp => ⟨0, Nat.zero_le _, (st_g11 p hp).1, (st_g11 p hp).2, fun s hs => no_0 hs, fun h => no_0 h, fun _ m hm => no_0 hm⟩⟩, Or.inl ⟨c1, c2⟩, ⟨0, c3, c4, by rw [st_g15, st_g16], Nat.zero_le _, fun i hi => no_0 hi⟩, ⟨0, c5, c6, Nat.zero_le _, fun i hi => no_0 hi⟩, ⟨0, by decide, c7, fun s hs => ⟨⟨fun q => ?_, fun q => ?_⟩, fun q => ?_⟩⟩, fun s hs => Or.inl (st_g14 s hs)⟩
  · exfalso
    rcases (show s = 0 ∨ s = 1 by omega) with rfl | rfl
    · exact absurd q (by decide)
    · exact absurd q (by decide)
  · exact absurd (show st_I 205 s < 0 by rw [st_g14 s hs]; decide) q
  · exact absurd (show st_I 205 s < 0 by rw [st_g14 s hs]; decide) q
set_option maxRecDepth 100000 in
set_option maxHeartbeats 4000000 in
/-- THE LAW, from its entry -/
theorem lw_body {g : mm_G} {d : Nat} (hL : g.2.2.2.2.1 ≤ 3072) (hd : 200 ≤ d) : mm_Ct g zL_law d (600000, 7302250) [.ref (mm_KB + 0)] (shT 0 0) (fun _ _ => 0) (fun r _ _ => r = some (.int 1)) := by
  refine mm_begin (ls := [(0, .ref (mm_KB + 0))]) (Nat.le_of_ble_eq_true rfl) rfl rfl ?_
  refine mm_newT (ci := 11) (C := RX11) (T := TX11) (n' := 1) (Al' := (1, 9)) dL_law_0 rfl rfl mm_wX11 mm_tX11 cn_L_7 mm_iX11 mm_dX11 (by decide) ⟨Nat.le_of_ble_eq_true rfl, Nat.le_of_ble_eq_true rfl⟩ rfl rfl so_0.2 (by decide +kernel) (fun _ => rfl) rfl rfl ?_
  refine mm_dup dL_law_3 rfl ?_
  refine mm_callI0 (dz := d - 1) (Mz := (199, 6272)) (Al' := (200, 6281)) dL_law_4 rfl mzX11_init ml_L_9 imX11_init ⟨rfl, rfl⟩ (by omega) (ini_X11_0 (by omega) (fun _ _ _ => rfl)) (Nat.le_of_ble_eq_true rfl) ⟨Nat.le_of_ble_eq_true rfl, Nat.le_of_ble_eq_true rfl⟩ rfl rfl rfl ?_
  refine mm_at (pc' := 7) rfl ?_
  refine mm_astore_n (ls' := [(1, .ref 0), (0, .ref (mm_KB + 0))]) dL_law_7 rfl (by decide) rfl ?_
  refine mm_newT (ci := 12) (C := RX12) (T := TX12) (n' := 201) (Al' := (201, 6312)) dL_law_8 rfl rfl mm_wX12 mm_tX12 cn_L_10 mm_iX12 mm_dX12 (by decide) ⟨Nat.le_of_ble_eq_true rfl, Nat.le_of_ble_eq_true rfl⟩ rfl rfl so_200.2 (by decide +kernel) (fun k => by rw [im_X11_0_a (by decide)]) rfl rfl ?_
  refine mm_dup dL_law_11 rfl ?_
  refine mm_callI0 (dz := d - 1) (Mz := (13, 8249)) (Al' := (214, 14561)) dL_law_12 rfl mzX12_init ml_L_12 imX12_init ⟨rfl, rfl⟩ (by omega) (ini_X12_200 (by omega) (fun x hx k => by rw [im_X11_0_a hx])) (Nat.le_of_ble_eq_true rfl) ⟨Nat.le_of_ble_eq_true rfl, Nat.le_of_ble_eq_true rfl⟩ rfl rfl rfl ?_
  refine mm_at (pc' := 15) rfl ?_
  refine mm_astore_n (ls' := [(2, .ref 200), (1, .ref 0), (0, .ref (mm_KB + 0))]) dL_law_15 rfl (by decide) rfl ?_
  refine mm_iconst (v := nI 0) dL_law_16 (by decide) ?_
  refine mm_istore_n (ls' := [(3, .int (nI 0)), (2, .ref 200), (1, .ref 0), (0, .ref (mm_KB + 0))]) dL_law_17 rfl (by decide) rfl ?_
  refine mm_sub (ls' := [(3, .int (nI 0)), (0, .ref (mm_KB + 0)), (1, .ref 0), (2, .ref 200)]) [0, 3, 2, 1] rfl ?_
  refine mm_at (pc' := 18) rfl ?_
  exact lw_loop ⟨Nat.le_of_ble_eq_true rfl, Nat.le_of_ble_eq_true rfl⟩ hL (by omega) (fun _ => rfl) 3101 0 st_I (Nat.zero_le _) (by omega) st_RC
