/-! THE CLASS: feed, lay -/
theorem us_ss (x : BitVec 32) {n : Nat} (h : n ≤ 24) : (x >>> n) &&& 255#32 = (x.sshiftRight n) &&& 255#32 := by
  apply BitVec.eq_of_getLsbD_eq
  intro i hi
  rw [BitVec.getLsbD_and, BitVec.getLsbD_and, BitVec.getLsbD_ushiftRight, BitVec.getLsbD_sshiftRight]
  by_cases h8 : i < 8
  · rw [if_pos (by omega)]; simp [show ¬ 32 ≤ i by omega]
  · have q : ∀ i, i < 32 → 8 ≤ i → (255#32).getLsbD i = false := by decide
    rw [q i hi (by omega)]; simp
def fdb (x : Int32) (j : Nat) : Int32 := (x >>> (nI (24 - 8 * j) &&& 31)) &&& 255
theorem fdb_0 (x : Int32) : ((x.toUInt32 >>> ((24 : Int32).toUInt32 &&& Int32.toUInt32 31)).toInt32) &&& 255 = fdb x 0 := by
  apply Int32.toBitVec_inj.mp
  show (x.toBitVec >>> (((24 : Int32).toUInt32 &&& Int32.toUInt32 31).toBitVec % 32#32)) &&& 255#32 = (x.toBitVec.sshiftRight' ((nI (24 - 8 * 0) &&& 31).toBitVec.smod 32)) &&& 255#32
  rw [show (((24 : Int32).toUInt32 &&& Int32.toUInt32 31).toBitVec % 32#32) = 24#32 by decide, show ((nI (24 - 8 * 0) &&& 31).toBitVec.smod 32) = 24#32 by decide, BitVec.ushiftRight_eq', BitVec.sshiftRight_eq']
  exact us_ss _ (by decide)
theorem fdb_1 (x : Int32) : ((x.toUInt32 >>> ((16 : Int32).toUInt32 &&& Int32.toUInt32 31)).toInt32) &&& 255 = fdb x 1 := by
  apply Int32.toBitVec_inj.mp
  show (x.toBitVec >>> (((16 : Int32).toUInt32 &&& Int32.toUInt32 31).toBitVec % 32#32)) &&& 255#32 = (x.toBitVec.sshiftRight' ((nI (24 - 8 * 1) &&& 31).toBitVec.smod 32)) &&& 255#32
  rw [show (((16 : Int32).toUInt32 &&& Int32.toUInt32 31).toBitVec % 32#32) = 16#32 by decide, show ((nI (24 - 8 * 1) &&& 31).toBitVec.smod 32) = 16#32 by decide, BitVec.ushiftRight_eq', BitVec.sshiftRight_eq']
  exact us_ss _ (by decide)
theorem fdb_2 (x : Int32) : ((x.toUInt32 >>> ((8 : Int32).toUInt32 &&& Int32.toUInt32 31)).toInt32) &&& 255 = fdb x 2 := by
  apply Int32.toBitVec_inj.mp
  show (x.toBitVec >>> (((8 : Int32).toUInt32 &&& Int32.toUInt32 31).toBitVec % 32#32)) &&& 255#32 = (x.toBitVec.sshiftRight' ((nI (24 - 8 * 2) &&& 31).toBitVec.smod 32)) &&& 255#32
  rw [show (((8 : Int32).toUInt32 &&& Int32.toUInt32 31).toBitVec % 32#32) = 8#32 by decide, show ((nI (24 - 8 * 2) &&& 31).toBitVec.smod 32) = 8#32 by decide, BitVec.ushiftRight_eq', BitVec.sshiftRight_eq']
  exact us_ss _ (by decide)
theorem fdb_3 (x : Int32) : ((x.toUInt32 >>> ((0 : Int32).toUInt32 &&& Int32.toUInt32 31)).toInt32) &&& 255 = fdb x 3 := by
  apply Int32.toBitVec_inj.mp
  show (x.toBitVec >>> (((0 : Int32).toUInt32 &&& Int32.toUInt32 31).toBitVec % 32#32)) &&& 255#32 = (x.toBitVec.sshiftRight' ((nI (24 - 8 * 3) &&& 31).toBitVec.smod 32)) &&& 255#32
  rw [show (((0 : Int32).toUInt32 &&& Int32.toUInt32 31).toBitVec % 32#32) = 0#32 by decide, show ((nI (24 - 8 * 3) &&& 31).toBitVec.smod 32) = 0#32 by decide, BitVec.ushiftRight_eq', BitVec.sshiftRight_eq']
  exact us_ss _ (by decide)
theorem fdb_le (x : Int32) (j : Nat) : ∃ b, b < 256 ∧ fdb x j = nI b := by
  refine ⟨(fdb x j).toBitVec.toNat, ?_, ?_⟩
  · unfold fdb
    rw [Int32.toBitVec_and, BitVec.toNat_and]
    exact Nat.lt_of_le_of_lt (Nat.and_le_right) (by decide)
  · apply Int32.toBitVec_inj.mp
    apply BitVec.eq_of_toNat_eq
    show _ = (BitVec.ofNat 32 _).toNat
    rw [BitVec.toNat_ofNat, Nat.mod_eq_of_lt (BitVec.isLt _)]
def fdM (I : mm_I) (t : Nat) (a b c : Int32) : Nat → mm_I
  | 0 => I
  | k + 1 => mm_up (mm_up (fdM I t a b c k) 175 (t + k) (sp_by a b c k)) 174 1 (nI (t + k + 1))
theorem fdM_F {I : mm_I} {t : Nat} {a b c : Int32} {x : Nat} (hx : ¬ (x = 174 ∨ x = 175)) : ∀ k, fdM I t a b c k x = I x := by
  intro k
  induction k with
  | zero => rfl
  | succ k ih => unfold fdM; rw [mm_up_a (by omega), mm_up_a (by omega)]; exact ih
def tpR (I J : mm_I) (t : Nat) : Prop := I 174 1 = nI t ∧ J 200 4 = nI t ∧ I 175 = J 203 ∧ tp_ok (J 203) t
theorem sp_by_fdb {a b c : Int32} : ∀ k, k < 12 → ∃ x, sp_by a b c k = fdb x (k % 4) := by
  intro k hk
  exact ⟨_, rfl⟩
theorem fdM_R {I J : mm_I} {t : Nat} {a b c : Int32} (h : tpR I J t) (ht : t + 12 ≤ 96) : ∀ k, k ≤ 12 → tpR (fdM I t a b c k) (op_fds J t a b c k) (t + k) := by
  intro k
  induction k with
  | zero => intro _; exact h
  | succ k ih =>
    intro hk
    obtain ⟨h1, h2, h3, h4, h5⟩ := ih (by omega)
    refine ⟨mm_up_at, mm_up_at, ?_, by omega, fun i hi => ?_⟩
    · funext i; unfold fdM op_fds
      rw [mm_up_ne (show 175 ≠ 174 by decide), mm_up_ne (show 203 ≠ 200 by decide), up_at, up_at]
      by_cases e : i = t + k
      · rw [if_pos ⟨rfl, e⟩, if_pos ⟨rfl, e⟩]
      · rw [if_neg (fun q => e q.2), if_neg (fun q => e q.2)]; exact congrFun h3 i
    · unfold op_fds
      rw [mm_up_a (by decide)]
      show ∃ b_, b_ < 256 ∧ mm_up _ 203 (t + k) _ 203 i = nI b_
      rw [up_at]
      by_cases e : i = t + k
      · rw [if_pos ⟨rfl, e⟩]
        obtain ⟨x, hx⟩ := sp_by_fdb (a := a) (b := b) (c := c) k (by omega)
        rw [hx]; exact fdb_le _ _
      · rw [if_neg (fun q => e q.2)]; exact h5 i (by omega)
set_option maxRecDepth 100000 in
set_option maxHeartbeats 600000 in
theorem cg_ab0 {g : mm_G} {d : Nat} {I : mm_I} {t : Nat} {a b c : Int32} (hI : I 174 1 = nI (t + 0)) (ht : t + 12 ≤ 96) (hd : 1 ≤ d) : mm_Cv g zX11_addBytes d [.ref 0, .int (a)] sh_S (I) (mm_up (mm_up (mm_up (mm_up (mm_up (mm_up (mm_up (mm_up I 175 (t + 0) (sp_by a b c 0)) 174 1 (nI (t + 0 + 1))) 175 (t + 1) (sp_by a b c 1)) 174 1 (nI (t + 1 + 1))) 175 (t + 2) (sp_by a b c 2)) 174 1 (nI (t + 2 + 1))) 175 (t + 3) (sp_by a b c 3)) 174 1 (nI (t + 3 + 1))) := by
  refine mm_Cv_of (fun Q hq => ?_)
  refine mm_begin (ls := [(0, .ref 0), (1, .int (a))]) (Nat.le_of_ble_eq_true rfl) rfl rfl ?_
  refine mm_bipush (v := 24) dX11_addBytes_0 rfl ?_
  refine mm_istore_n (ls' := [(2, .int (24)), (0, .ref 0), (1, .int (a))]) dX11_addBytes_2 rfl (by decide) rfl ?_
  refine mm_iload_n 0 dX11_addBytes_3 rfl rfl ?_
  refine mm_if_lt (tgt := 28) dX11_addBytes_4 (by decide) (fun q => absurd q (by decide)) (fun _ => ?_)
  refine mm_aload_n 1 dX11_addBytes_7 rfl rfl ?_
  refine mm_getr (b := 174) dX11_addBytes_8 rfl fk_X11_37 rfl so_0 sr_0_4 ?_
  refine mm_iload_n 2 dX11_addBytes_11 rfl rfl ?_
  refine mm_iload_n 0 dX11_addBytes_12 rfl rfl ?_
  refine mm_iushr dX11_addBytes_13 ?_
  refine mm_sipush (v := 255) dX11_addBytes_14 rfl ?_
  refine mm_iand dX11_addBytes_17 ?_
  refine mm_top (v := sp_by a b c 0) (fdb_0 _) ?_
  refine mm_cV1i (dz := d - 1) dX11_addBytes_18 rfl mzX5_add ml_X11_329 imX5_add (by omega) so_174 ⟨rfl, rfl⟩ (ct_add rw_174 (t + 0) hI (by omega)) (Nat.le_of_ble_eq_true rfl) ⟨Nat.le_refl _, Nat.le_refl _⟩ ?_
  refine mm_at (pc' := 21) rfl ?_
  refine mm_pop dX11_addBytes_21 rfl ?_
  refine mm_iinc (v := 16) (ls' := [(2, .int (16)), (0, .ref 0), (1, .int (a))]) 0 dX11_addBytes_22 rfl (by decide) (by decide) rfl ?_
  refine mm_goto (tgt := 3) dX11_addBytes_25 (by decide) ?_
  refine mm_iload_n 0 dX11_addBytes_3 rfl rfl ?_
  refine mm_if_lt (tgt := 28) dX11_addBytes_4 (by decide) (fun q => absurd q (by decide)) (fun _ => ?_)
  refine mm_aload_n 1 dX11_addBytes_7 rfl rfl ?_
  refine mm_getr (b := 174) dX11_addBytes_8 rfl fk_X11_37 rfl so_0 sr_0_4 ?_
  refine mm_iload_n 2 dX11_addBytes_11 rfl rfl ?_
  refine mm_iload_n 0 dX11_addBytes_12 rfl rfl ?_
  refine mm_iushr dX11_addBytes_13 ?_
  refine mm_sipush (v := 255) dX11_addBytes_14 rfl ?_
  refine mm_iand dX11_addBytes_17 ?_
  refine mm_top (v := sp_by a b c 1) (fdb_1 _) ?_
  refine mm_cV1i (dz := d - 1) dX11_addBytes_18 rfl mzX5_add ml_X11_329 imX5_add (by omega) so_174 ⟨rfl, rfl⟩ (ct_add rw_174 (t + 1) (by exact mm_up_at) (by omega)) (Nat.le_of_ble_eq_true rfl) ⟨Nat.le_refl _, Nat.le_refl _⟩ ?_
  refine mm_at (pc' := 21) rfl ?_
  refine mm_pop dX11_addBytes_21 rfl ?_
  refine mm_iinc (v := 8) (ls' := [(2, .int (8)), (0, .ref 0), (1, .int (a))]) 0 dX11_addBytes_22 rfl (by decide) (by decide) rfl ?_
  refine mm_goto (tgt := 3) dX11_addBytes_25 (by decide) ?_
  refine mm_iload_n 0 dX11_addBytes_3 rfl rfl ?_
  refine mm_if_lt (tgt := 28) dX11_addBytes_4 (by decide) (fun q => absurd q (by decide)) (fun _ => ?_)
  refine mm_aload_n 1 dX11_addBytes_7 rfl rfl ?_
  refine mm_getr (b := 174) dX11_addBytes_8 rfl fk_X11_37 rfl so_0 sr_0_4 ?_
  refine mm_iload_n 2 dX11_addBytes_11 rfl rfl ?_
  refine mm_iload_n 0 dX11_addBytes_12 rfl rfl ?_
  refine mm_iushr dX11_addBytes_13 ?_
  refine mm_sipush (v := 255) dX11_addBytes_14 rfl ?_
  refine mm_iand dX11_addBytes_17 ?_
  refine mm_top (v := sp_by a b c 2) (fdb_2 _) ?_
  refine mm_cV1i (dz := d - 1) dX11_addBytes_18 rfl mzX5_add ml_X11_329 imX5_add (by omega) so_174 ⟨rfl, rfl⟩ (ct_add rw_174 (t + 2) (by exact mm_up_at) (by omega)) (Nat.le_of_ble_eq_true rfl) ⟨Nat.le_refl _, Nat.le_refl _⟩ ?_
  refine mm_at (pc' := 21) rfl ?_
  refine mm_pop dX11_addBytes_21 rfl ?_
  refine mm_iinc (v := 0) (ls' := [(2, .int (0)), (0, .ref 0), (1, .int (a))]) 0 dX11_addBytes_22 rfl (by decide) (by decide) rfl ?_
  refine mm_goto (tgt := 3) dX11_addBytes_25 (by decide) ?_
  refine mm_iload_n 0 dX11_addBytes_3 rfl rfl ?_
  refine mm_if_lt (tgt := 28) dX11_addBytes_4 (by decide) (fun q => absurd q (by decide)) (fun _ => ?_)
  refine mm_aload_n 1 dX11_addBytes_7 rfl rfl ?_
  refine mm_getr (b := 174) dX11_addBytes_8 rfl fk_X11_37 rfl so_0 sr_0_4 ?_
  refine mm_iload_n 2 dX11_addBytes_11 rfl rfl ?_
  refine mm_iload_n 0 dX11_addBytes_12 rfl rfl ?_
  refine mm_iushr dX11_addBytes_13 ?_
  refine mm_sipush (v := 255) dX11_addBytes_14 rfl ?_
  refine mm_iand dX11_addBytes_17 ?_
  refine mm_top (v := sp_by a b c 3) (fdb_3 _) ?_
  refine mm_cV1i (dz := d - 1) dX11_addBytes_18 rfl mzX5_add ml_X11_329 imX5_add (by omega) so_174 ⟨rfl, rfl⟩ (ct_add rw_174 (t + 3) (by exact mm_up_at) (by omega)) (Nat.le_of_ble_eq_true rfl) ⟨Nat.le_refl _, Nat.le_refl _⟩ ?_
  refine mm_at (pc' := 21) rfl ?_
  refine mm_pop dX11_addBytes_21 rfl ?_
  refine mm_iinc (v := -8) (ls' := [(2, .int (-8)), (0, .ref 0), (1, .int (a))]) 0 dX11_addBytes_22 rfl (by decide) (by decide) rfl ?_
  refine mm_goto (tgt := 3) dX11_addBytes_25 (by decide) ?_
  refine mm_iload_n 0 dX11_addBytes_3 rfl rfl ?_
  refine mm_if_lt (tgt := 28) dX11_addBytes_4 (by decide) (fun _ => ?_) (fun q => absurd (by decide) q)
  refine mm_vret dX11_addBytes_28 rfl ⟨Nat.le_refl _, Nat.le_refl _⟩ ?_
  exact hq
set_option maxRecDepth 100000 in
set_option maxHeartbeats 600000 in
theorem cg_ab4 {g : mm_G} {d : Nat} {I : mm_I} {t : Nat} {a b c : Int32} (hI : I 174 1 = nI (t + 4)) (ht : t + 12 ≤ 96) (hd : 1 ≤ d) : mm_Cv g zX11_addBytes d [.ref 0, .int (b)] sh_S (I) (mm_up (mm_up (mm_up (mm_up (mm_up (mm_up (mm_up (mm_up I 175 (t + 4) (sp_by a b c 4)) 174 1 (nI (t + 4 + 1))) 175 (t + 5) (sp_by a b c 5)) 174 1 (nI (t + 5 + 1))) 175 (t + 6) (sp_by a b c 6)) 174 1 (nI (t + 6 + 1))) 175 (t + 7) (sp_by a b c 7)) 174 1 (nI (t + 7 + 1))) := by
  refine mm_Cv_of (fun Q hq => ?_)
  refine mm_begin (ls := [(0, .ref 0), (1, .int (b))]) (Nat.le_of_ble_eq_true rfl) rfl rfl ?_
  refine mm_bipush (v := 24) dX11_addBytes_0 rfl ?_
  refine mm_istore_n (ls' := [(2, .int (24)), (0, .ref 0), (1, .int (b))]) dX11_addBytes_2 rfl (by decide) rfl ?_
  refine mm_iload_n 0 dX11_addBytes_3 rfl rfl ?_
  refine mm_if_lt (tgt := 28) dX11_addBytes_4 (by decide) (fun q => absurd q (by decide)) (fun _ => ?_)
  refine mm_aload_n 1 dX11_addBytes_7 rfl rfl ?_
  refine mm_getr (b := 174) dX11_addBytes_8 rfl fk_X11_37 rfl so_0 sr_0_4 ?_
  refine mm_iload_n 2 dX11_addBytes_11 rfl rfl ?_
  refine mm_iload_n 0 dX11_addBytes_12 rfl rfl ?_
  refine mm_iushr dX11_addBytes_13 ?_
  refine mm_sipush (v := 255) dX11_addBytes_14 rfl ?_
  refine mm_iand dX11_addBytes_17 ?_
  refine mm_top (v := sp_by a b c 4) (fdb_0 _) ?_
  refine mm_cV1i (dz := d - 1) dX11_addBytes_18 rfl mzX5_add ml_X11_329 imX5_add (by omega) so_174 ⟨rfl, rfl⟩ (ct_add rw_174 (t + 4) hI (by omega)) (Nat.le_of_ble_eq_true rfl) ⟨Nat.le_refl _, Nat.le_refl _⟩ ?_
  refine mm_at (pc' := 21) rfl ?_
  refine mm_pop dX11_addBytes_21 rfl ?_
  refine mm_iinc (v := 16) (ls' := [(2, .int (16)), (0, .ref 0), (1, .int (b))]) 0 dX11_addBytes_22 rfl (by decide) (by decide) rfl ?_
  refine mm_goto (tgt := 3) dX11_addBytes_25 (by decide) ?_
  refine mm_iload_n 0 dX11_addBytes_3 rfl rfl ?_
  refine mm_if_lt (tgt := 28) dX11_addBytes_4 (by decide) (fun q => absurd q (by decide)) (fun _ => ?_)
  refine mm_aload_n 1 dX11_addBytes_7 rfl rfl ?_
  refine mm_getr (b := 174) dX11_addBytes_8 rfl fk_X11_37 rfl so_0 sr_0_4 ?_
  refine mm_iload_n 2 dX11_addBytes_11 rfl rfl ?_
  refine mm_iload_n 0 dX11_addBytes_12 rfl rfl ?_
  refine mm_iushr dX11_addBytes_13 ?_
  refine mm_sipush (v := 255) dX11_addBytes_14 rfl ?_
  refine mm_iand dX11_addBytes_17 ?_
  refine mm_top (v := sp_by a b c 5) (fdb_1 _) ?_
  refine mm_cV1i (dz := d - 1) dX11_addBytes_18 rfl mzX5_add ml_X11_329 imX5_add (by omega) so_174 ⟨rfl, rfl⟩ (ct_add rw_174 (t + 5) (by exact mm_up_at) (by omega)) (Nat.le_of_ble_eq_true rfl) ⟨Nat.le_refl _, Nat.le_refl _⟩ ?_
  refine mm_at (pc' := 21) rfl ?_
  refine mm_pop dX11_addBytes_21 rfl ?_
  refine mm_iinc (v := 8) (ls' := [(2, .int (8)), (0, .ref 0), (1, .int (b))]) 0 dX11_addBytes_22 rfl (by decide) (by decide) rfl ?_
  refine mm_goto (tgt := 3) dX11_addBytes_25 (by decide) ?_
  refine mm_iload_n 0 dX11_addBytes_3 rfl rfl ?_
  refine mm_if_lt (tgt := 28) dX11_addBytes_4 (by decide) (fun q => absurd q (by decide)) (fun _ => ?_)
  refine mm_aload_n 1 dX11_addBytes_7 rfl rfl ?_
  refine mm_getr (b := 174) dX11_addBytes_8 rfl fk_X11_37 rfl so_0 sr_0_4 ?_
  refine mm_iload_n 2 dX11_addBytes_11 rfl rfl ?_
  refine mm_iload_n 0 dX11_addBytes_12 rfl rfl ?_
  refine mm_iushr dX11_addBytes_13 ?_
  refine mm_sipush (v := 255) dX11_addBytes_14 rfl ?_
  refine mm_iand dX11_addBytes_17 ?_
  refine mm_top (v := sp_by a b c 6) (fdb_2 _) ?_
  refine mm_cV1i (dz := d - 1) dX11_addBytes_18 rfl mzX5_add ml_X11_329 imX5_add (by omega) so_174 ⟨rfl, rfl⟩ (ct_add rw_174 (t + 6) (by exact mm_up_at) (by omega)) (Nat.le_of_ble_eq_true rfl) ⟨Nat.le_refl _, Nat.le_refl _⟩ ?_
  refine mm_at (pc' := 21) rfl ?_
  refine mm_pop dX11_addBytes_21 rfl ?_
  refine mm_iinc (v := 0) (ls' := [(2, .int (0)), (0, .ref 0), (1, .int (b))]) 0 dX11_addBytes_22 rfl (by decide) (by decide) rfl ?_
  refine mm_goto (tgt := 3) dX11_addBytes_25 (by decide) ?_
  refine mm_iload_n 0 dX11_addBytes_3 rfl rfl ?_
  refine mm_if_lt (tgt := 28) dX11_addBytes_4 (by decide) (fun q => absurd q (by decide)) (fun _ => ?_)
  refine mm_aload_n 1 dX11_addBytes_7 rfl rfl ?_
  refine mm_getr (b := 174) dX11_addBytes_8 rfl fk_X11_37 rfl so_0 sr_0_4 ?_
  refine mm_iload_n 2 dX11_addBytes_11 rfl rfl ?_
  refine mm_iload_n 0 dX11_addBytes_12 rfl rfl ?_
  refine mm_iushr dX11_addBytes_13 ?_
  refine mm_sipush (v := 255) dX11_addBytes_14 rfl ?_
  refine mm_iand dX11_addBytes_17 ?_
  refine mm_top (v := sp_by a b c 7) (fdb_3 _) ?_
  refine mm_cV1i (dz := d - 1) dX11_addBytes_18 rfl mzX5_add ml_X11_329 imX5_add (by omega) so_174 ⟨rfl, rfl⟩ (ct_add rw_174 (t + 7) (by exact mm_up_at) (by omega)) (Nat.le_of_ble_eq_true rfl) ⟨Nat.le_refl _, Nat.le_refl _⟩ ?_
  refine mm_at (pc' := 21) rfl ?_
  refine mm_pop dX11_addBytes_21 rfl ?_
  refine mm_iinc (v := -8) (ls' := [(2, .int (-8)), (0, .ref 0), (1, .int (b))]) 0 dX11_addBytes_22 rfl (by decide) (by decide) rfl ?_
  refine mm_goto (tgt := 3) dX11_addBytes_25 (by decide) ?_
  refine mm_iload_n 0 dX11_addBytes_3 rfl rfl ?_
  refine mm_if_lt (tgt := 28) dX11_addBytes_4 (by decide) (fun _ => ?_) (fun q => absurd (by decide) q)
  refine mm_vret dX11_addBytes_28 rfl ⟨Nat.le_refl _, Nat.le_refl _⟩ ?_
  exact hq
set_option maxRecDepth 100000 in
set_option maxHeartbeats 600000 in
theorem cg_ab8 {g : mm_G} {d : Nat} {I : mm_I} {t : Nat} {a b c : Int32} (hI : I 174 1 = nI (t + 8)) (ht : t + 12 ≤ 96) (hd : 1 ≤ d) : mm_Cv g zX11_addBytes d [.ref 0, .int (c)] sh_S (I) (mm_up (mm_up (mm_up (mm_up (mm_up (mm_up (mm_up (mm_up I 175 (t + 8) (sp_by a b c 8)) 174 1 (nI (t + 8 + 1))) 175 (t + 9) (sp_by a b c 9)) 174 1 (nI (t + 9 + 1))) 175 (t + 10) (sp_by a b c 10)) 174 1 (nI (t + 10 + 1))) 175 (t + 11) (sp_by a b c 11)) 174 1 (nI (t + 11 + 1))) := by
  refine mm_Cv_of (fun Q hq => ?_)
  refine mm_begin (ls := [(0, .ref 0), (1, .int (c))]) (Nat.le_of_ble_eq_true rfl) rfl rfl ?_
  refine mm_bipush (v := 24) dX11_addBytes_0 rfl ?_
  refine mm_istore_n (ls' := [(2, .int (24)), (0, .ref 0), (1, .int (c))]) dX11_addBytes_2 rfl (by decide) rfl ?_
  refine mm_iload_n 0 dX11_addBytes_3 rfl rfl ?_
  refine mm_if_lt (tgt := 28) dX11_addBytes_4 (by decide) (fun q => absurd q (by decide)) (fun _ => ?_)
  refine mm_aload_n 1 dX11_addBytes_7 rfl rfl ?_
  refine mm_getr (b := 174) dX11_addBytes_8 rfl fk_X11_37 rfl so_0 sr_0_4 ?_
  refine mm_iload_n 2 dX11_addBytes_11 rfl rfl ?_
  refine mm_iload_n 0 dX11_addBytes_12 rfl rfl ?_
  refine mm_iushr dX11_addBytes_13 ?_
  refine mm_sipush (v := 255) dX11_addBytes_14 rfl ?_
  refine mm_iand dX11_addBytes_17 ?_
  refine mm_top (v := sp_by a b c 8) (fdb_0 _) ?_
  refine mm_cV1i (dz := d - 1) dX11_addBytes_18 rfl mzX5_add ml_X11_329 imX5_add (by omega) so_174 ⟨rfl, rfl⟩ (ct_add rw_174 (t + 8) hI (by omega)) (Nat.le_of_ble_eq_true rfl) ⟨Nat.le_refl _, Nat.le_refl _⟩ ?_
  refine mm_at (pc' := 21) rfl ?_
  refine mm_pop dX11_addBytes_21 rfl ?_
  refine mm_iinc (v := 16) (ls' := [(2, .int (16)), (0, .ref 0), (1, .int (c))]) 0 dX11_addBytes_22 rfl (by decide) (by decide) rfl ?_
  refine mm_goto (tgt := 3) dX11_addBytes_25 (by decide) ?_
  refine mm_iload_n 0 dX11_addBytes_3 rfl rfl ?_
  refine mm_if_lt (tgt := 28) dX11_addBytes_4 (by decide) (fun q => absurd q (by decide)) (fun _ => ?_)
  refine mm_aload_n 1 dX11_addBytes_7 rfl rfl ?_
  refine mm_getr (b := 174) dX11_addBytes_8 rfl fk_X11_37 rfl so_0 sr_0_4 ?_
  refine mm_iload_n 2 dX11_addBytes_11 rfl rfl ?_
  refine mm_iload_n 0 dX11_addBytes_12 rfl rfl ?_
  refine mm_iushr dX11_addBytes_13 ?_
  refine mm_sipush (v := 255) dX11_addBytes_14 rfl ?_
  refine mm_iand dX11_addBytes_17 ?_
  refine mm_top (v := sp_by a b c 9) (fdb_1 _) ?_
  refine mm_cV1i (dz := d - 1) dX11_addBytes_18 rfl mzX5_add ml_X11_329 imX5_add (by omega) so_174 ⟨rfl, rfl⟩ (ct_add rw_174 (t + 9) (by exact mm_up_at) (by omega)) (Nat.le_of_ble_eq_true rfl) ⟨Nat.le_refl _, Nat.le_refl _⟩ ?_
  refine mm_at (pc' := 21) rfl ?_
  refine mm_pop dX11_addBytes_21 rfl ?_
  refine mm_iinc (v := 8) (ls' := [(2, .int (8)), (0, .ref 0), (1, .int (c))]) 0 dX11_addBytes_22 rfl (by decide) (by decide) rfl ?_
  refine mm_goto (tgt := 3) dX11_addBytes_25 (by decide) ?_
  refine mm_iload_n 0 dX11_addBytes_3 rfl rfl ?_
  refine mm_if_lt (tgt := 28) dX11_addBytes_4 (by decide) (fun q => absurd q (by decide)) (fun _ => ?_)
  refine mm_aload_n 1 dX11_addBytes_7 rfl rfl ?_
  refine mm_getr (b := 174) dX11_addBytes_8 rfl fk_X11_37 rfl so_0 sr_0_4 ?_
  refine mm_iload_n 2 dX11_addBytes_11 rfl rfl ?_
  refine mm_iload_n 0 dX11_addBytes_12 rfl rfl ?_
  refine mm_iushr dX11_addBytes_13 ?_
  refine mm_sipush (v := 255) dX11_addBytes_14 rfl ?_
  refine mm_iand dX11_addBytes_17 ?_
  refine mm_top (v := sp_by a b c 10) (fdb_2 _) ?_
  refine mm_cV1i (dz := d - 1) dX11_addBytes_18 rfl mzX5_add ml_X11_329 imX5_add (by omega) so_174 ⟨rfl, rfl⟩ (ct_add rw_174 (t + 10) (by exact mm_up_at) (by omega)) (Nat.le_of_ble_eq_true rfl) ⟨Nat.le_refl _, Nat.le_refl _⟩ ?_
  refine mm_at (pc' := 21) rfl ?_
  refine mm_pop dX11_addBytes_21 rfl ?_
  refine mm_iinc (v := 0) (ls' := [(2, .int (0)), (0, .ref 0), (1, .int (c))]) 0 dX11_addBytes_22 rfl (by decide) (by decide) rfl ?_
  refine mm_goto (tgt := 3) dX11_addBytes_25 (by decide) ?_
  refine mm_iload_n 0 dX11_addBytes_3 rfl rfl ?_
  refine mm_if_lt (tgt := 28) dX11_addBytes_4 (by decide) (fun q => absurd q (by decide)) (fun _ => ?_)
  refine mm_aload_n 1 dX11_addBytes_7 rfl rfl ?_
  refine mm_getr (b := 174) dX11_addBytes_8 rfl fk_X11_37 rfl so_0 sr_0_4 ?_
  refine mm_iload_n 2 dX11_addBytes_11 rfl rfl ?_
  refine mm_iload_n 0 dX11_addBytes_12 rfl rfl ?_
  refine mm_iushr dX11_addBytes_13 ?_
  refine mm_sipush (v := 255) dX11_addBytes_14 rfl ?_
  refine mm_iand dX11_addBytes_17 ?_
  refine mm_top (v := sp_by a b c 11) (fdb_3 _) ?_
  refine mm_cV1i (dz := d - 1) dX11_addBytes_18 rfl mzX5_add ml_X11_329 imX5_add (by omega) so_174 ⟨rfl, rfl⟩ (ct_add rw_174 (t + 11) (by exact mm_up_at) (by omega)) (Nat.le_of_ble_eq_true rfl) ⟨Nat.le_refl _, Nat.le_refl _⟩ ?_
  refine mm_at (pc' := 21) rfl ?_
  refine mm_pop dX11_addBytes_21 rfl ?_
  refine mm_iinc (v := -8) (ls' := [(2, .int (-8)), (0, .ref 0), (1, .int (c))]) 0 dX11_addBytes_22 rfl (by decide) (by decide) rfl ?_
  refine mm_goto (tgt := 3) dX11_addBytes_25 (by decide) ?_
  refine mm_iload_n 0 dX11_addBytes_3 rfl rfl ?_
  refine mm_if_lt (tgt := 28) dX11_addBytes_4 (by decide) (fun _ => ?_) (fun q => absurd (by decide) q)
  refine mm_vret dX11_addBytes_28 rfl ⟨Nat.le_refl _, Nat.le_refl _⟩ ?_
  exact hq
set_option maxRecDepth 100000 in
set_option maxHeartbeats 600000 in
theorem cb_feed {g : mm_G} {d : Nat} {I : mm_I} {J : mm_I} {t : Nat} (hR : tpR I J t) {a b c : Int32} (hd : 3 ≤ d) : mm_Di g zX11_feed d [.ref 0, .int (a), .int (b), .int (c)] sh_S (I) (fun r_ K => r_ = (op_feed t J a b c).1 ∧ tpR K (op_feed t J a b c).2 (vv ((op_feed t J a b c).2 200 4)) ∧ ∀ x, ¬ (x = 174 ∨ x = 175) → K x = I x) := by
  obtain ⟨ht, ht2, ht3, ht4, ht5⟩ := id hR
  refine mm_Di_of (fun Q hq => ?_)
  refine mm_begin (ls := [(0, .ref 0), (1, .int (a)), (2, .int (b)), (3, .int (c))]) (Nat.le_of_ble_eq_true rfl) rfl rfl ?_
  refine mm_aload_n 0 dX11_feed_0 rfl rfl ?_
  refine mm_getr (b := 174) dX11_feed_1 rfl fk_X11_37 rfl so_0 sr_0_4 ?_
  refine mm_cV0i (dz := d - 1) dX11_feed_4 rfl mzX5_size ml_X11_236 imX5_size (by omega) so_174 ⟨rfl, rfl⟩ (ct_size rw_174) (Nat.le_of_ble_eq_true rfl) ⟨Nat.le_refl _, Nat.le_refl _⟩ ?_
  refine mm_top (v := nI (t)) ht ?_
  refine mm_bipush (v := 12) dX11_feed_7 rfl ?_
  refine mm_iaddN (t) (12) dX11_feed_9 ?_
  refine mm_bipush (v := 96) dX11_feed_10 rfl ?_
  refine mm_icmp_leN (t + 12) (96) (tgt := 18) dX11_feed_12 (by decide) (by omega) (by omega) (fun c12 => ?_) (fun c12 => ?_)
  · refine mm_aload_n 0 dX11_feed_18 rfl rfl ?_
    refine mm_iload_n 1 dX11_feed_19 rfl rfl ?_
    refine mm_cV1v (dz := d - 1) dX11_feed_20 rfl mzX11_addBytes ml_X11_239 imX11_addBytes (by omega) so_0 ⟨rfl, rfl⟩ (cg_ab0 (I := fdM I t a b c 0) (t := t) (a := a) (b := b) (c := c) (by exact ht) (by omega) (by omega)) (Nat.le_of_ble_eq_true rfl) ⟨Nat.le_refl _, Nat.le_refl _⟩ ?_
    refine mm_aload_n 0 dX11_feed_23 rfl rfl ?_
    refine mm_iload_n 2 dX11_feed_24 rfl rfl ?_
    refine mm_cV1v (dz := d - 1) dX11_feed_25 rfl mzX11_addBytes ml_X11_239 imX11_addBytes (by omega) so_0 ⟨rfl, rfl⟩ (cg_ab4 (I := fdM I t a b c 4) (t := t) (a := a) (b := b) (c := c) (by exact mm_up_at) (by omega) (by omega)) (Nat.le_of_ble_eq_true rfl) ⟨Nat.le_refl _, Nat.le_refl _⟩ ?_
    refine mm_aload_n 0 dX11_feed_28 rfl rfl ?_
    refine mm_iload_n 3 dX11_feed_29 rfl rfl ?_
    refine mm_at (pc' := 30) rfl ?_
    refine mm_cV1v (dz := d - 1) dX11_feed_30 rfl mzX11_addBytes ml_X11_239 imX11_addBytes (by omega) so_0 ⟨rfl, rfl⟩ (cg_ab8 (I := fdM I t a b c 8) (t := t) (a := a) (b := b) (c := c) (by exact mm_up_at) (by omega) (by omega)) (Nat.le_of_ble_eq_true rfl) ⟨Nat.le_refl _, Nat.le_refl _⟩ ?_
    refine mm_aload_n 0 dX11_feed_33 rfl rfl ?_
    refine mm_getr (b := 174) dX11_feed_34 rfl fk_X11_37 rfl so_0 sr_0_4 ?_
    refine mm_cV0i (dz := d - 1) dX11_feed_37 rfl mzX5_size ml_X11_236 imX5_size (by omega) so_174 ⟨rfl, rfl⟩ (ct_size rw_174) (Nat.le_of_ble_eq_true rfl) ⟨Nat.le_refl _, Nat.le_refl _⟩ ?_
    refine mm_top (v := nI (t + 12)) (by exact mm_up_at) ?_
    refine mm_iret dX11_feed_40 rfl ⟨Nat.le_refl _, Nat.le_refl _⟩ ?_
    have e : op_feed t J a b c = (nI (t + 12), op_fds J t a b c 12) := if_neg (by omega)
    have hh := fdM_R (a := a) (b := b) (c := c) hR (by omega) 12 (Nat.le_refl _)
    exact hq _ _ ⟨by rw [e], by rw [e]; show tpR _ (op_fds J t a b c 12) (vv (op_fds J t a b c 12 200 4)); rw [hh.2.1, vv_nI (by omega)]; exact hh, fun x hx => fdM_F hx 12⟩
  · refine mm_ldc dX11_feed_15 rfl kc_X11_170 ?_
    refine mm_iret dX11_feed_17 rfl ⟨Nat.le_refl _, Nat.le_refl _⟩ ?_
    have e : op_feed t J a b c = (-1000000003, J) := if_pos (by omega)
    exact hq _ _ ⟨by rw [e], by rw [e]; show tpR I J (vv (J 200 4)); rw [ht2, vv_nI (by omega)]; exact hR, fun _ _ => rfl⟩
theorem lyS {w h n l k o r : Nat} {A : mm_I} {N : Nat → Int32} (hz : zOK (w * h) n l k o r) {i : Nat} (hi : i < w * h) {v : Int32} : mm_up (cN (w * h) n l k o r A N) 6 i v = cN (w * h) n l k o r A (upd N (110 + i) v) := cN_up hz (lo_at6.trans (if_pos hi)) (sn_up (by omega) hz.1)
def lyN (N : Nat → Int32) (V : Nat → Int32) : Nat → (Nat → Int32)
  | 0 => N
  | k + 1 => upd (lyN N V k) (110 + k) (if sp_wi (V k) 0 999 then V k else 0)
theorem lyN_op {J : mm_I} {s : Nat} : ∀ k, op_ly J s k 201 = lyN (J 201) (fun i => J 206 (80 * s + i)) k := by
  intro k
  induction k with
  | zero => rfl
  | succ k ih => unfold op_ly lyN; rw [up_201, ih]
theorem lyN_W {N V : Nat → Int32} {w h : Nat} (hW : mo_W N w h) : ∀ k, mo_W (lyN N V k) w h := by
  intro k
  induction k with
  | zero => exact hW
  | succ k ih => unfold lyN; exact ⟨(if_neg (by omega)).trans ih.1, (if_neg (by omega)).trans ih.2.1, ih.2.2⟩
set_option maxRecDepth 100000 in
set_option maxHeartbeats 600000 in
theorem lg_ly {g : mm_G} {d : Nat} {w h n l k o r : Nat} {A : mm_I} {N : Nat → Int32} (hz : zOK (w * h) n l k o r) (hW : mo_W N w h) {Q : Option Value → mm_Sh → mm_I → Prop} {s q : Nat} {V : Nat → Int32} (hs : s < 2) (hq1 : q ≤ w * h) (hV : ∀ i, i < q → A (196 + 2 * s + 1) i = V i) (hd : 3 ≤ d) (hq : Q (some (.int (nI q))) sh_S (cN (w * h) n l k o r A (lyN N V q))) : ∀ (m : Nat) (i : Nat), (i ≤ q) → q - i < m → mm_Ex g zX11_lay d (0, 0) (0, 0) sh_S (cN (w * h) n l k o r A (lyN N V i)) 50 [(3, .int (nI (i))), (2, .int (nI (q))), (0, .ref 0), (1, .int (nI (s)))] [] Q := by
  obtain ⟨hz1, hz2, hz3, hz4, hz5, hz6⟩ := id hz
  have hc := mo_W_c hW
  obtain ⟨-, -, hw1, hw2, hh1, hh2⟩ := id hW
  intro m
  induction m with
  | zero => intro i hi hmz; exact absurd hmz (Nat.not_lt_zero _)
  | succ m ih =>
    intro i hi hmz
    refine mm_iload_n 0 dX11_lay_50 rfl rfl ?_
    refine mm_iload_n 1 dX11_lay_51 rfl rfl ?_
    refine mm_icmp_geN (i) (q) (tgt := 104) dX11_lay_52 (by decide) (by omega) (by omega) (fun c52 => ?_) (fun c52 => ?_)
    · refine mm_iload_n 1 dX11_lay_104 rfl rfl ?_
      refine mm_iret dX11_lay_105 rfl ⟨Nat.le_refl _, Nat.le_refl _⟩ ?_
      have e : i = q := by omega
      subst e; exact hq
    · refine mm_aload_n 2 dX11_lay_55 rfl rfl ?_
      refine mm_getr (b := 195) dX11_lay_56 rfl fk_X11_59 rfl so_0 sr_0_8 ?_
      refine mm_iload_n 3 dX11_lay_59 rfl rfl ?_
      refine mm_iload_n 0 dX11_lay_60 rfl rfl ?_
      refine mm_cV2i (dz := d - 1) dX11_lay_61 rfl mzX7_at ml_X11_137 imX7_at (by omega) so_195 ⟨rfl, rfl⟩ (cg_shat (s := s) (i := i) (by omega) (by omega) (by omega)) (Nat.le_of_ble_eq_true rfl) ⟨Nat.le_refl _, Nat.le_refl _⟩ ?_
      refine mm_top (v := V i) (by rw [cN_hi hz2 (by omega)]; exact hV i (by omega)) ?_
      refine mm_istore (ls' := [(4, .int (V i)), (3, .int (nI (i))), (2, .int (nI (q))), (0, .ref 0), (1, .int (nI (s)))]) dX11_lay_64 (by decide) rfl ?_
      refine mm_aload_n 3 dX11_lay_66 rfl rfl ?_
      refine mm_at (pc' := 67) rfl ?_
      refine mm_getr (b := 1) dX11_lay_67 rfl fk_X11_10 rfl so_0 sr_0_0 ?_
      refine mm_getr (b := 2) dX11_lay_70 rfl fk_X11_72 rfl so_1 sr_1_0 ?_
      refine mm_getr (b := 5) dX11_lay_73 rfl fk_X11_105 rfl so_2 sr_2_3 ?_
      refine mm_iload_n 1 dX11_lay_76 rfl rfl ?_
      refine mm_iload 0 dX11_lay_77 rfl ?_
      refine mm_iconst (v := 0) dX11_lay_79 rfl ?_
      refine mm_sipush (v := 999) dX11_lay_80 rfl ?_
      refine mm_cS3i (dz := d - 1) dX11_lay_83 rfl mzX11_within ml_X11_63 imX11_within (by omega) cx_within (Nat.le_of_ble_eq_true rfl) ⟨Nat.le_refl _, Nat.le_refl _⟩ ?_
      refine mm_at (pc' := 86) rfl ?_
      have K86 : mm_Ex g zX11_lay d (0, 0) (0, 0) sh_S (cN (w * h) n l k o r A (lyN N V i)) 95 [(4, .int (V i)), (3, .int (nI (i))), (2, .int (nI (q))), (0, .ref 0), (1, .int (nI (s)))] [.int (if sp_wi (V i) 0 999 then (V i) else 0), .int (nI (i)), .ref 5] Q := by
        refine mm_cV2v (dz := d - 1) dX11_lay_95 rfl mzX5_set ml_X11_139 imX5_set (by omega) so_5 ⟨rfl, rfl⟩ (ct_set rw_5 (i) (by omega)) (Nat.le_of_ble_eq_true rfl) ⟨Nat.le_refl _, Nat.le_refl _⟩ ?_
        refine mm_iincN (ls' := [(3, .int (nI (i + 1))), (4, .int (V i)), (2, .int (nI (q))), (0, .ref 0), (1, .int (nI (s)))]) 1 (i) 1 dX11_lay_98 rfl rfl (by decide) rfl ?_
        refine mm_goto (tgt := 50) dX11_lay_101 (by decide) ?_
        rw [lyS hz (by omega)]
        exact mm_sub [0, 2, 3, 4] rfl (ih (i + 1) (by omega) (by omega))
      refine mm_if_eqB (tgt := 94) dX11_lay_86 (by decide) (fun c86 => ?_) (fun c86 => ?_)
      · refine mm_iconst (v := 0) dX11_lay_94 rfl ?_
        exact mm_top (by rw [if_neg c86]) K86
      · refine mm_iload 0 dX11_lay_89 rfl ?_
        refine mm_goto (tgt := 95) dX11_lay_91 (by decide) ?_
        exact mm_top (by rw [if_pos c86]) K86
set_option maxRecDepth 100000 in
set_option maxHeartbeats 600000 in
theorem cb_lay {g : mm_G} {d : Nat} {w h n l k o r : Nat} {A : mm_I} {N : Nat → Int32} (hz : zOK (w * h) n l k o r) (hW : mo_W N w h) {J : mm_I} (hJ : J 201 = N) (hR : shR (cN (w * h) n l k o r A N) J) (hp : sp_pl J) {s : Int32} (hd : 4 ≤ d) : mm_Di g zX11_lay d [.ref 0, .int s] sh_S (cN (w * h) n l k o r A N) (fun r_ K => r_ = (op_lay w h J s).1 ∧ K = cN (w * h) n l k o r A ((op_lay w h J s).2 201)) := by
  obtain ⟨hz1, hz2, hz3, hz4, hz5, hz6⟩ := id hz
  have hc := mo_W_c hW
  obtain ⟨-, -, hw1, hw2, hh1, hh2⟩ := id hW
  obtain ⟨tv, htv, h2, hR2⟩ := id hR
  refine mm_Di_of (fun Q hq => ?_)
  refine mm_begin (ls := [(0, .ref 0), (1, .int (s))]) (Nat.le_of_ble_eq_true rfl) rfl rfl ?_
  refine mm_iload_n 1 dX11_lay_0 rfl rfl ?_
  refine mm_iconst (v := 0) dX11_lay_1 rfl ?_
  refine mm_iconst (v := 1) dX11_lay_2 rfl ?_
  refine mm_cS3i (dz := d - 1) dX11_lay_3 rfl mzX11_within ml_X11_63 imX11_within (by omega) cx_within (Nat.le_of_ble_eq_true rfl) ⟨Nat.le_refl _, Nat.le_refl _⟩ ?_
  refine mm_if_neB (tgt := 12) dX11_lay_6 (by decide) (fun c6 => ?_) (fun c6 => ?_)
  · obtain ⟨y, hy, rfl⟩ := sp_wi_nat 1 (by decide) c6
    refine mm_aload_n 0 dX11_lay_12 rfl rfl ?_
    refine mm_getr (b := 195) dX11_lay_13 rfl fk_X11_59 rfl so_0 sr_0_8 ?_
    refine mm_iload_n 1 dX11_lay_16 rfl rfl ?_
    refine mm_cV1i (dz := d - 1) dX11_lay_17 rfl mzX7_isThere ml_X11_125 imX7_isThere (by omega) so_195 ⟨rfl, rfl⟩ (cg_shth htv h2 (s := y) (by omega)) (Nat.le_of_ble_eq_true rfl) ⟨Nat.le_refl _, Nat.le_refl _⟩ ?_
    refine mm_if_neB (tgt := 26) dX11_lay_20 (by decide) (fun c20 => ?_) (fun c20 => ?_)
    · have hJ0 := (hR2 y (by omega)).1.mp c20
      obtain z | ⟨q, hq80, z⟩ := hp y (by omega)
      · rw [z] at hJ0; exact absurd (by decide) hJ0
      have hsq : A (196 + 2 * y) 1 = nI q := by have q1 := ((hR2 y (by omega)).2 hJ0).1; rw [cN_hi hz2 (by omega)] at q1; exact q1.trans z
      refine mm_aload_n 0 dX11_lay_26 rfl rfl ?_
      refine mm_getr (b := 1) dX11_lay_27 rfl fk_X11_10 rfl so_0 sr_0_0 ?_
      refine mm_getr (b := 2) dX11_lay_30 rfl fk_X11_72 rfl so_1 sr_1_0 ?_
      refine mm_cV0i (dz := d - 1) dX11_lay_33 rfl mzX0_cells ml_X11_76 imX0_cells (by omega) so_2 ⟨rfl, rfl⟩ (cg_cells hz hW) (Nat.le_of_ble_eq_true rfl) ⟨Nat.le_refl _, Nat.le_refl _⟩ ?_
      refine mm_aload_n 0 dX11_lay_36 rfl rfl ?_
      refine mm_getr (b := 195) dX11_lay_37 rfl fk_X11_59 rfl so_0 sr_0_8 ?_
      refine mm_iload_n 1 dX11_lay_40 rfl rfl ?_
      refine mm_cV1i (dz := d - 1) dX11_lay_41 rfl mzX7_places ml_X11_129 imX7_places (by omega) so_195 ⟨rfl, rfl⟩ (cg_shpl (s := y) (by omega) (by omega)) (Nat.le_of_ble_eq_true rfl) ⟨Nat.le_refl _, Nat.le_refl _⟩ ?_
      refine mm_at (pc' := 44) rfl ?_
      refine mm_top (v := nI (q)) (by rw [cN_hi hz2 (by omega)]; exact hsq) ?_
      refine mm_minN (w * h) (q) dX11_lay_44 rfl ml_X11_132 jm_min (by omega) (by omega) (by omega) (Nat.le_of_ble_eq_true rfl) ⟨Nat.le_refl _, Nat.le_refl _⟩ ?_
      refine mm_istore_n (ls' := [(2, .int (nI (min (w * h) (q)))), (0, .ref 0), (1, .int (nI (y)))]) dX11_lay_47 rfl (by decide) rfl ?_
      refine mm_iconst (v := 0) dX11_lay_48 rfl ?_
      refine mm_istore_n (ls' := [(3, .int (0)), (2, .int (nI (min (w * h) (q)))), (0, .ref 0), (1, .int (nI (y)))]) dX11_lay_49 rfl (by decide) rfl ?_
      have e : op_lay w h J (nI y) = (nI (min (w * h) q), op_ly J y (min (w * h) q)) := by unfold op_lay; rw [if_neg (fun q => q c6), vv_nI (by omega), if_neg hJ0, z, vv_nI (by omega), Nat.min_comm]
      refine mm_sub [0, 1, 2, 3] rfl (lg_ly hz hW (A := A) (N := N) (V := fun i => J 206 (80 * y + i)) (s := y) (q := min (w * h) q) (by omega) (by omega) (fun i hi => by have q1 := ((hR2 y (by omega)).2 hJ0).2 i (by rw [z, vv_nI (by omega)]; omega); rw [cN_hi hz2 (by omega)] at q1; exact q1) (by omega) (hq _ _ ⟨by rw [e], ?_⟩) (w * h + 1) 0 (Nat.zero_le _) (by omega))
      rw [e]
      show _ = cN (w * h) n l k o r A (op_ly J y (min (w * h) q) 201)
      rw [lyN_op, hJ]
    · refine mm_ldc dX11_lay_23 rfl kc_X11_128 ?_
      refine mm_iret dX11_lay_25 rfl ⟨Nat.le_refl _, Nat.le_refl _⟩ ?_
      have e : op_lay w h J (nI y) = (-1000000011, J) := by unfold op_lay; rw [if_neg (fun q => q c6), vv_nI (by omega), if_pos (Decidable.not_not.mp (fun q => c20 ((hR2 y (by omega)).1.mpr q)))]
      exact hq _ _ ⟨by rw [e], by rw [e]; show _ = cN (w * h) n l k o r A (J 201); rw [hJ]⟩
  · refine mm_ldc dX11_lay_9 rfl kc_X11_67 ?_
    refine mm_iret dX11_lay_11 rfl ⟨Nat.le_refl _, Nat.le_refl _⟩ ?_
    have e : op_lay w h J s = (-1000000001, J) := by unfold op_lay; rw [if_pos c6]
    exact hq _ _ ⟨by rw [e], by rw [e]; show _ = cN (w * h) n l k o r A (J 201); rw [hJ]⟩
