/-! THE CLASS: a reading -/
theorem cz_start {I : mm_I} {T : Nat → Int32} {t : Nat} : mm_up (mm_up (mm_up (mm_up (mm_up (mm_up (mm_up (mm_up I 185 1 0) 187 1 0) 184 2 0) 189 1 0) 176 3 1) 176 4 0) 176 5 (ckd (tK T t 0))) 176 6 (-1) = cz I T t true 0 true 0 (I 186) 0 (I 188) 0 (I 190) 0 := by
  funext a i
  by_cases e : a = 176
  · subst e
    rw [cz_176]
    by_cases h6 : i = 6
    · subst h6; rw [mm_up_at]; rfl
    rw [mm_up_ni h6]
    by_cases h5 : i = 5
    · subst h5; rw [mm_up_at]; rfl
    rw [mm_up_ni h5]
    by_cases h4 : i = 4
    · subst h4; rw [mm_up_at]; rfl
    rw [mm_up_ni h4]
    by_cases h3 : i = 3
    · subst h3; rw [mm_up_at]; rfl
    rw [mm_up_ni h3, if_neg h3, if_neg h4, if_neg h5, if_neg h6, mm_up_ne (by decide), mm_up_ne (by decide), mm_up_ne (by decide), mm_up_ne (by decide)]
  rw [mm_up_ne e, mm_up_ne e, mm_up_ne e, mm_up_ne e]
  by_cases e9 : a = 189
  · subst e9
    show _ = (if i = 1 then nI 0 else I 189 i)
    by_cases h : i = 1
    · subst h; rw [mm_up_at]; rfl
    · rw [mm_up_ni h, if_neg h, mm_up_ne (by decide), mm_up_ne (by decide), mm_up_ne (by decide)]
  rw [mm_up_ne e9]
  by_cases e4 : a = 184
  · subst e4
    show _ = (if i = 2 then nI 0 else I 184 i)
    by_cases h : i = 2
    · subst h; rw [mm_up_at]; rfl
    · rw [mm_up_ni h, if_neg h, mm_up_ne (by decide), mm_up_ne (by decide)]
  rw [mm_up_ne e4]
  by_cases e7 : a = 187
  · subst e7
    show _ = (if i = 1 then nI 0 else I 187 i)
    by_cases h : i = 1
    · subst h; rw [mm_up_at]; rfl
    · rw [mm_up_ni h, if_neg h, mm_up_ne (by decide)]
  rw [mm_up_ne e7]
  by_cases e5 : a = 185
  · subst e5
    show _ = (if i = 1 then nI 0 else I 185 i)
    by_cases h : i = 1
    · subst h; rw [mm_up_at]; rfl
    · rw [mm_up_ni h, if_neg h]
  rw [mm_up_ne e5]
  unfold cz
  rw [if_neg e, if_neg e4, if_neg e5]
  by_cases e6 : a = 186
  · subst e6; rfl
  rw [if_neg e6, if_neg e7]
  by_cases e8 : a = 188
  · subst e8; rfl
  rw [if_neg e8, if_neg e9]
  by_cases e10 : a = 190
  · subst e10; rfl
  rw [if_neg e10]
def c_0 (I : mm_I) : cS := (true, 0, true, 0, I 186, 0, I 188, 0, I 190, 0)
set_option maxRecDepth 100000 in
set_option maxHeartbeats 600000 in
theorem cp_empty {g : mm_G} {I : mm_I} {d : Nat} (hd : 2 ≤ d) : mm_Cv g zX4_empty d [.ref 184] sh_S I (mm_up (mm_up (mm_up I 185 1 0) 187 1 0) 184 2 0) := by
  refine mm_Cv_of (fun Q hq => ?_)
  refine mm_begin (ls := [(0, .ref 184)]) (Nat.le_of_ble_eq_true rfl) rfl rfl ?_
  refine mm_aload_n 0 dX4_empty_0 rfl rfl ?_
  refine mm_getr (b := 185) dX4_empty_1 rfl fk_X4_16 rfl so_184 sr_184_0 ?_
  refine mm_iconst (v := 0) dX4_empty_4 rfl ?_
  refine mm_cV1v (dz := d - 1) dX4_empty_5 rfl mzX5_shorten ml_X4_27 imX5_shorten (by omega) so_185 ⟨rfl, rfl⟩ (ct_short0 rw_185 (by omega)) (Nat.le_of_ble_eq_true rfl) ⟨Nat.le_refl _, Nat.le_refl _⟩ ?_
  refine mm_aload_n 0 dX4_empty_8 rfl rfl ?_
  refine mm_getr (b := 187) dX4_empty_9 rfl fk_X4_20 rfl so_184 sr_184_1 ?_
  refine mm_iconst (v := 0) dX4_empty_12 rfl ?_
  refine mm_cV1v (dz := d - 1) dX4_empty_13 rfl mzX5_shorten ml_X4_27 imX5_shorten (by omega) so_187 ⟨rfl, rfl⟩ (ct_short0 rw_187 (by omega)) (Nat.le_of_ble_eq_true rfl) ⟨Nat.le_refl _, Nat.le_refl _⟩ ?_
  refine mm_at (pc' := 16) rfl ?_
  refine mm_aload_n 0 dX4_empty_16 rfl rfl ?_
  refine mm_iconst (v := 0) dX4_empty_17 rfl ?_
  refine mm_puti dX4_empty_18 rfl fk_X4_23 rfl fv_4_2 so_184 ?_
  refine mm_vret dX4_empty_21 rfl ⟨Nat.le_refl _, Nat.le_refl _⟩ ?_
  exact hq
set_option maxRecDepth 100000 in
set_option maxHeartbeats 600000 in
theorem cp_read {g : mm_G} {I : mm_I} {d : Nat} {t : Nat} (ht : I 174 1 = nI t) (ht96 : t ≤ 96) (hB : tp_ok (I 175) t) (hd : 151 ≤ d) : mm_Di g zX2_read d [.ref 176] sh_S I (fun r I' => ∃ I2 : mm_I, (∀ a, a < 178 ∨ 183 < a → I2 a = I a) ∧ I' = cZ I2 (I 175) t (cl_run (I 175) t 97 (c_0 I2)) ∧ r = (if (cl_run (I 175) t 97 (c_0 I2)).1 = true then -1 else nI (tq (I 175) t (cl_run (I 175) t 97 (c_0 I2)).2.1).1)) := by
  refine mm_begin (ls := [(0, .ref 176)]) (Nat.le_of_ble_eq_true rfl) rfl rfl ?_
  refine mm_aload_n 0 dX2_read_0 rfl rfl ?_
  refine mm_getr (b := 177) dX2_read_1 rfl fk_X2_14 rfl so_176 sr_176_0 ?_
  refine mm_dV0v (dz := d - 1) dX2_read_4 rfl mzX9_split ml_X2_36 imX9_split (by omega) so_177 ⟨rfl, rfl⟩ (ck_split ht ht96 hB (by omega)) (Nat.le_of_ble_eq_true rfl) ⟨Nat.le_refl _, Nat.le_refl _⟩ (fun I2 hI2 => ?_)
  obtain ⟨⟨W, hWR⟩, hfr⟩ := hI2
  refine mm_aload_n 0 dX2_read_7 rfl rfl ?_
  refine mm_getr (b := 184) dX2_read_8 rfl fk_X2_23 rfl so_176 sr_176_1 ?_
  refine mm_cV0v (dz := d - 1) dX2_read_11 rfl mzX4_empty ml_X2_39 imX4_empty (by omega) so_184 ⟨rfl, rfl⟩ (cp_empty (by omega)) (Nat.le_of_ble_eq_true rfl) ⟨Nat.le_refl _, Nat.le_refl _⟩ ?_
  refine mm_aload_n 0 dX2_read_14 rfl rfl ?_
  refine mm_getr (b := 189) dX2_read_15 rfl fk_X2_32 rfl so_176 sr_176_2 ?_
  refine mm_at (pc' := 18) rfl ?_
  refine mm_iconst (v := 0) dX2_read_18 rfl ?_
  refine mm_cV1v (dz := d - 1) dX2_read_19 rfl mzX5_shorten ml_X2_42 imX5_shorten (by omega) so_189 ⟨rfl, rfl⟩ (ct_short0 rw_189 (by omega)) (Nat.le_of_ble_eq_true rfl) ⟨Nat.le_refl _, Nat.le_refl _⟩ ?_
  refine mm_aload_n 0 dX2_read_22 rfl rfl ?_
  refine mm_iconst (v := 1) dX2_read_23 rfl ?_
  refine mm_putz dX2_read_24 rfl fk_X2_45 rfl fv_2_3 (by decide) so_176 ?_
  refine mm_aload_n 0 dX2_read_27 rfl rfl ?_
  refine mm_iconst (v := 0) dX2_read_28 rfl ?_
  refine mm_puti dX2_read_29 rfl fk_X2_49 rfl fv_2_4 so_176 ?_
  refine mm_at (pc' := 32) rfl ?_
  refine mm_aload_n 0 dX2_read_32 rfl rfl ?_
  refine mm_aload_n 0 dX2_read_33 rfl rfl ?_
  refine mm_getr (b := 177) dX2_read_34 rfl fk_X2_14 rfl so_176 sr_176_0 ?_
  refine mm_getr (b := 178) dX2_read_37 rfl fk_X2_53 rfl so_177 sr_177_1 ?_
  refine mm_iconst (v := 0) dX2_read_40 rfl ?_
  refine mm_cV1i (dz := d - 1) dX2_read_41 rfl mzX5_at ml_X2_56 imX5_at (by omega) so_178 ⟨rfl, rfl⟩ (ct_at rw_178 0 (by decide)) (Nat.le_of_ble_eq_true rfl) ⟨Nat.le_refl _, Nat.le_refl _⟩ ?_
  refine mm_top (v := ckd (tK (I 175) t 0)) (hWR.2.2.2 0 (Nat.zero_le _)).1 ?_
  refine mm_puti dX2_read_44 rfl fk_X2_59 rfl fv_2_5 so_176 ?_
  refine mm_aload_n 0 dX2_read_47 rfl rfl ?_
  refine mm_at (pc' := 48) rfl ?_
  refine mm_iconst (v := -1) dX2_read_48 rfl ?_
  refine mm_puti dX2_read_49 rfl fk_X2_62 rfl fv_2_6 so_176 ?_
  refine mm_iconst (v := 0) dX2_read_52 rfl ?_
  refine mm_istore_n (ls' := [(1, .int (0)), (0, .ref 176)]) dX2_read_53 rfl (by decide) rfl ?_
  refine mm_mem cz_start ?_
  exact mm_sub [0, 1] rfl (lp_read (I := I2) (T := I 175) (t := t) hB hWR hd 97 0 (c_0 I2) rfl (fun _ => ⟨Nat.zero_le _, Nat.le_refl _, by decide, Nat.zero_le _, fun i hi => absurd hi (Nat.not_lt_zero _)⟩) ⟨rfl, _, rfl, I2, hfr, rfl, rfl⟩)
