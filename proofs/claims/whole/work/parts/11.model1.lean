/-! THE REFERENCE, small methods. Its own words for its row of numbers 'now' (cell 201), as a function N of the place, serve both sides. -/
def vv (x : Int32) : Nat := x.toNatClampNeg
theorem vv_nI {n : Nat} (h : n < 2 ^ 31) : vv (nI n) = n := nI_clamp h
theorem vv_of {x : Int32} (h : ¬ x < 0) : x = nI (vv x) := by
  obtain ⟨j, hj, rfl⟩ := nI_of h
  rw [vv_nI hj]
theorem i_le {a b : Int32} : ¬ a < b ↔ b ≤ a := Int32.not_lt
theorem i_lt {a b : Int32} : ¬ a ≤ b ↔ b < a := Int32.not_le
/-- v is from a to b -/
abbrev sp_wi (v a b : Int32) : Prop := a ≤ v ∧ v ≤ b
theorem sp_wi_nat {v : Int32} (n : Nat) (hn : n < 2 ^ 31) (h : sp_wi v 0 (nI n)) : ∃ k, k ≤ n ∧ v = nI k := by
  obtain ⟨k, hk, rfl⟩ := nI_of (Int32.not_lt.mpr h.1)
  exact ⟨k, (nI_leI hk hn).mp h.2, rfl⟩
/-- what holds of the reference's numbers, as far as all its calls need it: counts and sizes -/
def mo_W (N : Nat → Int32) (w h : Nat) : Prop := N 0 = nI w ∧ N 1 = nI h ∧ 2 ≤ w ∧ w ≤ 10 ∧ 2 ≤ h ∧ h ≤ 8
theorem mo_W_c {N : Nat → Int32} {w h : Nat} (H : mo_W N w h) : 4 ≤ w * h ∧ w * h ≤ 80 := by
  obtain ⟨-, -, h1, h2, h3, h4⟩ := H
  exact ⟨Nat.mul_le_mul h1 h3, Nat.mul_le_mul h2 h4⟩
/-- a place of the ground -/
abbrev sp_isC (w h : Nat) (c : Int32) : Prop := 0 ≤ c ∧ c < nI (w * h)
theorem sp_isC_nat {w h : Nat} {c : Int32} (hw : w * h < 2 ^ 31) (H : sp_isC w h c) : ∃ k, k < w * h ∧ c = nI k := by
  obtain ⟨k, hk, rfl⟩ := nI_of (Int32.not_lt.mpr H.1)
  exact ⟨k, (nI_ltI hk hw).mp H.2, rfl⟩
abbrev sp_isM (m : Nat) (c : Int32) : Prop := 0 ≤ c ∧ c < nI m
theorem sp_isM_nat {m : Nat} {c : Int32} (hw : m < 2 ^ 31) (H : sp_isM m c) : ∃ k, k < m ∧ c = nI k := by
  obtain ⟨k, hk, rfl⟩ := nI_of (Int32.not_lt.mpr H.1)
  exact ⟨k, (nI_ltI hk hw).mp H.2, rfl⟩
theorem sp_le_pred {n : Nat} {c : Int32} (h0 : 0 < n) (hn : n < 2 ^ 31) : (0 ≤ c ∧ c ≤ nI (n - 1)) ↔ (0 ≤ c ∧ c < nI n) := by
  constructor
  · rintro ⟨h1, h2⟩
    obtain ⟨k, hk, rfl⟩ := nI_of (Int32.not_lt.mpr h1)
    exact ⟨h1, (nI_ltI hk hn).mpr (by have := (nI_leI hk (by omega)).mp h2; omega)⟩
  · rintro ⟨h1, h2⟩
    obtain ⟨k, hk, rfl⟩ := nI_of (Int32.not_lt.mpr h1)
    exact ⟨h1, (nI_leI hk (by omega)).mpr (by have := (nI_ltI hk hn).mp h2; omega)⟩
/-- the machine on a cell, of the first m; -1: none -/
def sp_mo (N : Nat → Int32) (c : Int32) : Nat → Int32
  | 0 => -1
  | m + 1 => if N (630 + 40 * m + 1) = c then nI m else sp_mo N c m
abbrev sp_kd (own kind : Int32) : Prop := own = kind ∨ (kind = 0 ∧ ¬ own = 1) ∨ (kind = 3 ∧ own = 4)
abbrev sp_mk (own kind : Int32) : Prop := kind = 0 ∨ own = kind ∨ (kind = 1 ∧ own = 2)
theorem mm_iff {P R : Prop} {d1 : Decidable P} {d2 : Decidable R} (h : P ↔ R) : (@ite Int32 P d1 1 0) = @ite Int32 R d2 1 0 := by
  by_cases hp : P
  · rw [if_pos hp, if_pos (h.mp hp)]
  · rw [if_neg hp, if_neg (fun q => hp (h.mpr q))]
theorem mm_l2 {S : mm_Sh} {Q : Option Value → mm_Sh → mm_I → Prop} {x : Int32} {I : mm_I} {p : Int32 × mm_I} (h : p = (x, I)) (hq : Q (some (.int p.1)) S p.2) : Q (some (.int x)) S I := by rw [h] at hq; exact hq
theorem sp_isM_pred {m : Nat} {c : Int32} (hm : m < 2 ^ 31) : (0 ≤ c ∧ c ≤ nI m - 1) ↔ (0 ≤ c ∧ c < nI m) := by
  rcases Nat.eq_zero_or_pos m with h | h
  · subst h
    constructor
    · rintro ⟨h1, h2⟩
      have h3 := Int32.le_trans h1 h2
      exact absurd h3 (by decide)
    · rintro ⟨h1, h2⟩
      exact absurd h2 (Int32.not_lt.mpr h1)
  · rw [show nI m - 1 = nI (m - 1) from pk_sub (b := 1) h]
    exact sp_le_pred h hm
set_option maxRecDepth 100000 in
set_option maxHeartbeats 4000000 in
theorem cm_within {g : mm_G} {S : mm_Sh} {I : mm_I} {d : Nat} {v a b : Int32} : mm_Ci g zX12_within d [.int v, .int a, .int b] S I (if sp_wi v a b then 1 else 0) I := by
  refine mm_Ci_of (fun Q hq => ?_)
  refine mm_begin (ls := [(0, .int (v)), (1, .int (a)), (2, .int (b))]) (Nat.le_of_ble_eq_true rfl) rfl rfl ?_
  refine mm_iload_n 0 dX12_within_0 rfl rfl ?_
  refine mm_iload_n 1 dX12_within_1 rfl rfl ?_
  have K2 : mm_Ex g zX12_within d (0, 0) (0, 0) S (I) 15 [(0, .int (v)), (1, .int (a)), (2, .int (b))] [.int (if ¬ ((v) < (a)) ∧ (¬ ((b) < (v))) then 1 else 0)] Q := by
    refine mm_zret dX12_within_15 rfl mm_b01 ⟨Nat.le_refl _, Nat.le_refl _⟩ ?_
    exact mm_li (mm_iff ⟨fun q => ⟨Int32.not_lt.mp q.1, Int32.not_lt.mp q.2⟩, fun q => ⟨Int32.not_lt.mpr q.1, Int32.not_lt.mpr q.2⟩⟩) rfl hq
  refine mm_icmp_lt (tgt := 14) dX12_within_2 (by decide) (fun c2 => ?_) (fun c2 => ?_)
  · refine mm_iconst (v := 0) dX12_within_14 rfl ?_
    exact mm_top (by first | rfl | (simp [c2]; done) | (rw [if_pos (by simp_all)]; done) | (rw [if_neg (by simp_all)]; done) | (rw [if_pos (by omega)]; done) | (rw [if_neg (by omega)]; done)) K2
  · refine mm_iload_n 0 dX12_within_5 rfl rfl ?_
    refine mm_iload_n 2 dX12_within_6 rfl rfl ?_
    refine mm_icmp_gt (tgt := 14) dX12_within_7 (by decide) (fun c7 => ?_) (fun c7 => ?_)
    · refine mm_iconst (v := 0) dX12_within_14 rfl ?_
      exact mm_top (by first | rfl | (simp [c2, c7]; done) | (rw [if_pos (by simp_all)]; done) | (rw [if_neg (by simp_all)]; done) | (rw [if_pos (by omega)]; done) | (rw [if_neg (by omega)]; done)) K2
    · refine mm_iconst (v := 1) dX12_within_10 rfl ?_
      refine mm_goto (tgt := 15) dX12_within_11 (by decide) ?_
      exact mm_top (by first | rfl | (simp [c2, c7]; done) | (rw [if_pos (by simp_all)]; done) | (rw [if_neg (by simp_all)]; done) | (rw [if_pos (by omega)]; done) | (rw [if_neg (by omega)]; done)) K2
set_option maxRecDepth 100000 in
set_option maxHeartbeats 4000000 in
theorem cm_cells {g : mm_G} {I : mm_I} {d : Nat} {w h : Nat} (hW : mo_W (I 201) w h) : mm_Ci g zX12_cells d [.ref 200] sh_S I (nI (w * h)) I := by
  have hc := mo_W_c hW
  obtain ⟨-, -, hw1, hw2, hh1, hh2⟩ := id hW
  refine mm_Ci_of (fun Q hq => ?_)
  refine mm_begin (ls := [(0, .ref 200)]) (Nat.le_of_ble_eq_true rfl) rfl rfl ?_
  refine mm_aload_n 0 dX12_cells_0 rfl rfl ?_
  refine mm_getr (b := 201) dX12_cells_1 rfl fk_X12_9 rfl so_200 sr_200_0 ?_
  refine mm_iconst (v := 0) dX12_cells_4 rfl ?_
  refine mm_ialdN (0) dX12_cells_5 sa_201 (by omega) (by omega) ?_
  refine mm_top (v := nI (w)) hW.1 ?_
  refine mm_aload_n 0 dX12_cells_6 rfl rfl ?_
  refine mm_getr (b := 201) dX12_cells_7 rfl fk_X12_9 rfl so_200 sr_200_0 ?_
  refine mm_iconst (v := 1) dX12_cells_10 rfl ?_
  refine mm_ialdN (1) dX12_cells_11 sa_201 (by omega) (by omega) ?_
  refine mm_at (pc' := 12) rfl ?_
  refine mm_top (v := nI (h)) hW.2.1 ?_
  refine mm_imulN (w) (h) dX12_cells_12 ?_
  refine mm_iret dX12_cells_13 rfl ⟨Nat.le_refl _, Nat.le_refl _⟩ ?_
  exact hq
set_option maxRecDepth 100000 in
set_option maxHeartbeats 4000000 in
theorem cm_isCell {g : mm_G} {I : mm_I} {d : Nat} {w h : Nat} (hW : mo_W (I 201) w h) {c : Int32} (hd : 1 ≤ d) : mm_Ci g zX12_isCell d [.ref 200, .int c] sh_S I (if sp_isC w h c then 1 else 0) I := by
  have hc := mo_W_c hW
  obtain ⟨-, -, hw1, hw2, hh1, hh2⟩ := id hW
  refine mm_Ci_of (fun Q hq => ?_)
  refine mm_begin (ls := [(0, .ref 200), (1, .int (c))]) (Nat.le_of_ble_eq_true rfl) rfl rfl ?_
  refine mm_iload_n 1 dX12_isCell_0 rfl rfl ?_
  refine mm_iconst (v := 0) dX12_isCell_1 rfl ?_
  refine mm_aload_n 0 dX12_isCell_2 rfl rfl ?_
  refine mm_cV0i (dz := d - 1) dX12_isCell_3 rfl mzX12_cells ml_X12_78 imX12_cells (by omega) so_200 ⟨rfl, rfl⟩ (cm_cells hW) (Nat.le_of_ble_eq_true rfl) ⟨Nat.le_refl _, Nat.le_refl _⟩ ?_
  refine mm_iconst (v := 1) dX12_isCell_6 rfl ?_
  refine mm_isubN (w * h) (1) dX12_isCell_7 (by omega) ?_
  refine mm_cS3i (dz := d - 1) dX12_isCell_8 rfl mzX12_within ml_X12_82 imX12_within (by omega) cm_within (Nat.le_of_ble_eq_true rfl) ⟨Nat.le_refl _, Nat.le_refl _⟩ ?_
  refine mm_zret dX12_isCell_11 rfl mm_b01 ⟨Nat.le_refl _, Nat.le_refl _⟩ ?_
  exact mm_li (mm_iff (sp_le_pred (by omega) (by omega))) rfl hq
set_option maxRecDepth 100000 in
set_option maxHeartbeats 4000000 in
theorem cm_isMachine {g : mm_G} {I : mm_I} {d : Nat} {n : Nat} (hm : I 201 16 = nI n) (hm5 : n ≤ 5) {c : Int32} (hd : 1 ≤ d) : mm_Ci g zX12_isMachine d [.ref 200, .int c] sh_S I (if sp_isM n c then 1 else 0) I := by
  refine mm_Ci_of (fun Q hq => ?_)
  refine mm_begin (ls := [(0, .ref 200), (1, .int (c))]) (Nat.le_of_ble_eq_true rfl) rfl rfl ?_
  refine mm_iload_n 1 dX12_isMachine_0 rfl rfl ?_
  refine mm_iconst (v := 0) dX12_isMachine_1 rfl ?_
  refine mm_aload_n 0 dX12_isMachine_2 rfl rfl ?_
  refine mm_getr (b := 201) dX12_isMachine_3 rfl fk_X12_9 rfl so_200 sr_200_0 ?_
  refine mm_bipush (v := 16) dX12_isMachine_6 rfl ?_
  refine mm_ialdN (16) dX12_isMachine_8 sa_201 (by omega) (by omega) ?_
  refine mm_top (v := nI (n)) hm ?_
  refine mm_iconst (v := 1) dX12_isMachine_9 rfl ?_
  refine mm_isub dX12_isMachine_10 ?_
  refine mm_at (pc' := 11) rfl ?_
  refine mm_cS3i (dz := d - 1) dX12_isMachine_11 rfl mzX12_within ml_X12_82 imX12_within (by omega) cm_within (Nat.le_of_ble_eq_true rfl) ⟨Nat.le_refl _, Nat.le_refl _⟩ ?_
  refine mm_zret dX12_isMachine_14 rfl mm_b01 ⟨Nat.le_refl _, Nat.le_refl _⟩ ?_
  exact mm_li (mm_iff (sp_isM_pred (by omega))) rfl hq
set_option maxRecDepth 100000 in
set_option maxHeartbeats 4000000 in
theorem cm_of {g : mm_G} {S : mm_Sh} {I : mm_I} {d : Nat} (m f : Nat) : mm_Ci g zX12_of d [.int (nI m), .int (nI f)] S I (nI (630 + 40 * m + f)) I := by
  refine mm_Ci_of (fun Q hq => ?_)
  refine mm_begin (ls := [(0, .int (nI (m))), (1, .int (nI (f)))]) (Nat.le_of_ble_eq_true rfl) rfl rfl ?_
  refine mm_sipush (v := 630) dX12_of_0 rfl ?_
  refine mm_bipush (v := 40) dX12_of_3 rfl ?_
  refine mm_iload_n 0 dX12_of_5 rfl rfl ?_
  refine mm_imulN (40) (m) dX12_of_6 ?_
  refine mm_iaddN (630) (40 * m) dX12_of_7 ?_
  refine mm_iload_n 1 dX12_of_8 rfl rfl ?_
  refine mm_iaddN (630 + (40 * m)) (f) dX12_of_9 ?_
  refine mm_iret dX12_of_10 rfl ⟨Nat.le_refl _, Nat.le_refl _⟩ ?_
  exact hq
set_option maxRecDepth 100000 in
set_option maxHeartbeats 4000000 in
theorem lm_machineOn {g : mm_G} {I : mm_I} {d : Nat} {Q : Option Value → mm_Sh → mm_I → Prop} {n : Nat} (hm : I 201 16 = nI n) (hm5 : n ≤ 5) {c : Int32} (hd : 1 ≤ d) (hq : Q (some (.int (sp_mo (I 201) c n))) sh_S I) : ∀ (m : Nat) (i : Nat), (i ≤ n) → n - i < m → mm_Ex g zX12_machineOn d (0, 0) (0, 0) sh_S (I) 4 [(3, .int (nI (i))), (2, .int (sp_mo (I 201) c i)), (0, .ref 200), (1, .int (c))] [] Q := by
  intro m
  induction m with
  | zero => intro i hi hmz; exact absurd hmz (Nat.not_lt_zero _)
  | succ m ih =>
    intro i hi hmz
    refine mm_iload_n 0 dX12_machineOn_4 rfl rfl ?_
    refine mm_aload_n 2 dX12_machineOn_5 rfl rfl ?_
    refine mm_getr (b := 201) dX12_machineOn_6 rfl fk_X12_9 rfl so_200 sr_200_0 ?_
    refine mm_bipush (v := 16) dX12_machineOn_9 rfl ?_
    refine mm_ialdN (16) dX12_machineOn_11 sa_201 (by omega) (by omega) ?_
    refine mm_top (v := nI (n)) hm ?_
    refine mm_icmp_geN (i) (n) (tgt := 41) dX12_machineOn_12 (by decide) (by omega) (by omega) (fun c12 => ?_) (fun c12 => ?_)
    · refine mm_iload_n 1 dX12_machineOn_41 rfl rfl ?_
      refine mm_iret dX12_machineOn_42 rfl ⟨Nat.le_refl _, Nat.le_refl _⟩ ?_
      first | (exfalso; omega) | exact (show n = i by omega) ▸ hq
    · refine mm_aload_n 2 dX12_machineOn_15 rfl rfl ?_
      refine mm_getr (b := 201) dX12_machineOn_16 rfl fk_X12_9 rfl so_200 sr_200_0 ?_
      refine mm_iload_n 0 dX12_machineOn_19 rfl rfl ?_
      refine mm_iconst (v := 1) dX12_machineOn_20 rfl ?_
      refine mm_cS2i (dz := d - 1) dX12_machineOn_21 rfl mzX12_of ml_X12_87 imX12_of (by omega) (cm_of (i) (1)) (Nat.le_of_ble_eq_true rfl) ⟨Nat.le_refl _, Nat.le_refl _⟩ ?_
      refine mm_ialdN (630 + 40 * i + 1) dX12_machineOn_24 sa_201 (by omega) (by omega) ?_
      refine mm_iload_n 3 dX12_machineOn_25 rfl rfl ?_
      refine mm_at (pc' := 26) rfl ?_
      have K26 : mm_Ex g zX12_machineOn d (0, 0) (0, 0) sh_S (I) 34 [(3, .int (nI (i))), (2, .int (sp_mo (I 201) c i)), (0, .ref 200), (1, .int (c))] [.int (if (I 201 (630 + 40 * i + 1)) = (c) then (nI (i)) else (sp_mo (I 201) c i))] Q := by
        refine mm_istore_n (ls' := [(2, .int (if (I 201 (630 + 40 * i + 1)) = (c) then (nI (i)) else (sp_mo (I 201) c i))), (3, .int (nI (i))), (0, .ref 200), (1, .int (c))]) dX12_machineOn_34 rfl (by decide) rfl ?_
        refine mm_iincN (ls' := [(3, .int (nI (i + 1))), (2, .int (if (I 201 (630 + 40 * i + 1)) = (c) then (nI (i)) else (sp_mo (I 201) c i))), (0, .ref 200), (1, .int (c))]) 1 (i) 1 dX12_machineOn_35 rfl rfl (by decide) rfl ?_
        refine mm_goto (tgt := 4) dX12_machineOn_38 (by decide) ?_
        exact mm_sub [0, 1, 2, 3] rfl (ih (i + 1) (by omega) (by omega))
      refine mm_icmp_ne (tgt := 33) dX12_machineOn_26 (by decide) (fun c26 => ?_) (fun c26 => ?_)
      · refine mm_iload_n 1 dX12_machineOn_33 rfl rfl ?_
        exact mm_top (by rw [if_neg c26]) K26
      · refine mm_iload_n 0 dX12_machineOn_29 rfl rfl ?_
        refine mm_goto (tgt := 34) dX12_machineOn_30 (by decide) ?_
        exact mm_top (by rw [if_pos c26]) K26
set_option maxRecDepth 100000 in
set_option maxHeartbeats 4000000 in
theorem cm_machineOn {g : mm_G} {I : mm_I} {d : Nat} {n : Nat} (hm : I 201 16 = nI n) (hm5 : n ≤ 5) {c : Int32} (hd : 1 ≤ d) : mm_Ci g zX12_machineOn d [.ref 200, .int c] sh_S I (sp_mo (I 201) c n) I := by
  refine mm_Ci_of (fun Q hq => ?_)
  refine mm_begin (ls := [(0, .ref 200), (1, .int (c))]) (Nat.le_of_ble_eq_true rfl) rfl rfl ?_
  refine mm_iconst (v := -1) dX12_machineOn_0 rfl ?_
  refine mm_istore_n (ls' := [(2, .int (-1)), (0, .ref 200), (1, .int (c))]) dX12_machineOn_1 rfl (by decide) rfl ?_
  refine mm_iconst (v := 0) dX12_machineOn_2 rfl ?_
  refine mm_istore_n (ls' := [(3, .int (0)), (2, .int (-1)), (0, .ref 200), (1, .int (c))]) dX12_machineOn_3 rfl (by decide) rfl ?_
  exact lm_machineOn hm hm5 hd hq (n + 1) 0 (Nat.zero_le _) (by omega)
set_option maxRecDepth 100000 in
set_option maxHeartbeats 4000000 in
theorem cm_isOfKind {g : mm_G} {I : mm_I} {d : Nat} {c : Nat} (hc80 : c < 80) {kind : Int32} : mm_Ci g zX12_isOfKind d [.ref 200, .int (nI c), .int kind] sh_S I (if sp_kd (I 201 (30 + c)) kind then 1 else 0) I := by
  refine mm_Ci_of (fun Q hq => ?_)
  refine mm_begin (ls := [(0, .ref 200), (1, .int (nI (c))), (2, .int (kind))]) (Nat.le_of_ble_eq_true rfl) rfl rfl ?_
  refine mm_aload_n 0 dX12_isOfKind_0 rfl rfl ?_
  refine mm_getr (b := 201) dX12_isOfKind_1 rfl fk_X12_9 rfl so_200 sr_200_0 ?_
  refine mm_bipush (v := 30) dX12_isOfKind_4 rfl ?_
  refine mm_iload_n 1 dX12_isOfKind_6 rfl rfl ?_
  refine mm_iaddN (30) (c) dX12_isOfKind_7 ?_
  refine mm_ialdN (30 + c) dX12_isOfKind_8 sa_201 (by omega) (by omega) ?_
  refine mm_istore_n (ls' := [(3, .int (I 201 (30 + c))), (0, .ref 200), (1, .int (nI (c))), (2, .int (kind))]) dX12_isOfKind_9 rfl (by decide) rfl ?_
  refine mm_iload_n 0 dX12_isOfKind_10 rfl rfl ?_
  refine mm_at (pc' := 11) rfl ?_
  refine mm_iload_n 3 dX12_isOfKind_11 rfl rfl ?_
  have K12 : mm_Ex g zX12_isOfKind d (0, 0) (0, 0) sh_S (I) 39 [(3, .int (I 201 (30 + c))), (0, .ref 200), (1, .int (nI (c))), (2, .int (kind))] [.int (if ((I 201 (30 + c)) = (kind)) ∨ ((((kind) = 0) ∧ (¬ ((I 201 (30 + c)) = (1)) ∨ (((kind) = (3)) ∧ ((I 201 (30 + c)) = (4))))) ∨ (¬ ((kind) = 0) ∧ (((kind) = (3)) ∧ ((I 201 (30 + c)) = (4))))) then 1 else 0)] Q := by
    refine mm_zret dX12_isOfKind_39 rfl mm_b01 ⟨Nat.le_refl _, Nat.le_refl _⟩ ?_
    exact mm_li (mm_iff (by by_cases h1 : (I 201 (30 + c)) = kind <;> by_cases h2 : kind = 0 <;> by_cases h3 : kind = 3 <;> simp_all [sp_kd])) rfl hq
  refine mm_icmp_eq (tgt := 34) dX12_isOfKind_12 (by decide) (fun c12 => ?_) (fun c12 => ?_)
  · refine mm_iconst (v := 1) dX12_isOfKind_34 rfl ?_
    refine mm_goto (tgt := 39) dX12_isOfKind_35 (by decide) ?_
    exact mm_top (by first | rfl | (simp [c12]; done) | (rw [if_pos (by simp_all)]; done) | (rw [if_neg (by simp_all)]; done) | (rw [if_pos (by omega)]; done) | (rw [if_neg (by omega)]; done)) K12
  · refine mm_iload_n 3 dX12_isOfKind_15 rfl rfl ?_
    refine mm_if_ne (tgt := 24) dX12_isOfKind_16 (by decide) (fun c16 => ?_) (fun c16 => ?_)
    · refine mm_iload_n 3 dX12_isOfKind_24 rfl rfl ?_
      refine mm_iconst (v := 3) dX12_isOfKind_25 rfl ?_
      refine mm_icmp_ne (tgt := 38) dX12_isOfKind_26 (by decide) (fun c26 => ?_) (fun c26 => ?_)
      · refine mm_iconst (v := 0) dX12_isOfKind_38 rfl ?_
        exact mm_top (by first | rfl | (simp [c12, c16, c26]; done) | (rw [if_pos (by simp_all)]; done) | (rw [if_neg (by simp_all)]; done) | (rw [if_pos (by omega)]; done) | (rw [if_neg (by omega)]; done)) K12
      · refine mm_iload_n 0 dX12_isOfKind_29 rfl rfl ?_
        refine mm_iconst (v := 4) dX12_isOfKind_30 rfl ?_
        refine mm_icmp_ne (tgt := 38) dX12_isOfKind_31 (by decide) (fun c31 => ?_) (fun c31 => ?_)
        · refine mm_iconst (v := 0) dX12_isOfKind_38 rfl ?_
          exact mm_top (by first | rfl | (simp [c12, c16, c26, c31]; done) | (rw [if_pos (by simp_all)]; done) | (rw [if_neg (by simp_all)]; done) | (rw [if_pos (by omega)]; done) | (rw [if_neg (by omega)]; done)) K12
        · refine mm_iconst (v := 1) dX12_isOfKind_34 rfl ?_
          refine mm_goto (tgt := 39) dX12_isOfKind_35 (by decide) ?_
          exact mm_top (by first | rfl | (simp [c12, c16, c26, c31]; done) | (rw [if_pos (by simp_all)]; done) | (rw [if_neg (by simp_all)]; done) | (rw [if_pos (by omega)]; done) | (rw [if_neg (by omega)]; done)) K12
    · refine mm_iload_n 0 dX12_isOfKind_19 rfl rfl ?_
      refine mm_iconst (v := 1) dX12_isOfKind_20 rfl ?_
      refine mm_icmp_ne (tgt := 34) dX12_isOfKind_21 (by decide) (fun c21 => ?_) (fun c21 => ?_)
      · refine mm_iconst (v := 1) dX12_isOfKind_34 rfl ?_
        refine mm_goto (tgt := 39) dX12_isOfKind_35 (by decide) ?_
        exact mm_top (by first | rfl | (simp [c12, c16, c21]; done) | (rw [if_pos (by simp_all)]; done) | (rw [if_neg (by simp_all)]; done) | (rw [if_pos (by omega)]; done) | (rw [if_neg (by omega)]; done)) K12
      · refine mm_iload_n 3 dX12_isOfKind_24 rfl rfl ?_
        refine mm_iconst (v := 3) dX12_isOfKind_25 rfl ?_
        refine mm_icmp_ne (tgt := 38) dX12_isOfKind_26 (by decide) (fun c26 => ?_) (fun c26 => ?_)
        · refine mm_iconst (v := 0) dX12_isOfKind_38 rfl ?_
          exact mm_top (by first | rfl | (simp [c12, c16, c21, c26]; done) | (rw [if_pos (by simp_all)]; done) | (rw [if_neg (by simp_all)]; done) | (rw [if_pos (by omega)]; done) | (rw [if_neg (by omega)]; done)) K12
        · refine mm_iload_n 0 dX12_isOfKind_29 rfl rfl ?_
          refine mm_iconst (v := 4) dX12_isOfKind_30 rfl ?_
          refine mm_icmp_ne (tgt := 38) dX12_isOfKind_31 (by decide) (fun c31 => ?_) (fun c31 => ?_)
          · refine mm_iconst (v := 0) dX12_isOfKind_38 rfl ?_
            exact mm_top (by first | rfl | (simp [c12, c16, c21, c26, c31]; done) | (rw [if_pos (by simp_all)]; done) | (rw [if_neg (by simp_all)]; done) | (rw [if_pos (by omega)]; done) | (rw [if_neg (by omega)]; done)) K12
          · refine mm_iconst (v := 1) dX12_isOfKind_34 rfl ?_
            refine mm_goto (tgt := 39) dX12_isOfKind_35 (by decide) ?_
            exact mm_top (by first | rfl | (simp [c12, c16, c21, c26, c31]; done) | (rw [if_pos (by simp_all)]; done) | (rw [if_neg (by simp_all)]; done) | (rw [if_pos (by omega)]; done) | (rw [if_neg (by omega)]; done)) K12
