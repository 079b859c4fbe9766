/-! ROW: a row of ints with a fixed room -/
theorem mm_begin {g : mm_G} {y : mm_M} {d : Nat} {Mt : Nat × Nat} {S : mm_Sh} {I : mm_I} {ls : List (Nat × Value)} {Q : Option Value → mm_Sh → mm_I → Prop} {av : List Value} (hn : av.length ≤ y.2.2.1) (hc : av.all (fun v => v.category == 1) = true) (hl : lv_args 0 av = ls) (k : mm_Ex g y d (0, 0) Mt S I 0 ls [] Q) : mm_Ct g y d Mt av S I Q := mm_start hn (fun v hv => by simpa using List.all_eq_true.mp hc v hv) hl k
set_option maxRecDepth 100000 in
set_option maxHeartbeats 4000000 in
theorem ct_size {g : mm_G} {S : mm_Sh} {I : mm_I} {a n d : Nat} (hR : rw_is S a n) : mm_Ci g zX5_size d [.ref a] S I (I a 1) I := by
  refine mm_begin (ls := [(0, .ref a)]) (Nat.le_of_ble_eq_true rfl) rfl rfl ?_
  refine mm_aload_n 0 dX5_size_0 rfl rfl ?_
  refine mm_geti dX5_size_1 rfl fk_X5_19 rfl hR.1 ?_
  refine mm_iret dX5_size_4 rfl ⟨Nat.le_refl _, Nat.le_refl _⟩ ?_
  exact ⟨rfl, rfl, rfl⟩
set_option maxRecDepth 100000 in
set_option maxHeartbeats 4000000 in
theorem ct_at {g : mm_G} {S : mm_Sh} {I : mm_I} {a n d : Nat} (hR : rw_is S a n) (i : Nat) (hi : i < n) : mm_Ci g zX5_at d [.ref a, .int (nI i)] S I (I (a + 1) i) I := by
  have h31 := hR.2.2.2
  refine mm_begin (ls := [(0, .ref a), (1, .int (nI (i)))]) (Nat.le_of_ble_eq_true rfl) rfl rfl ?_
  refine mm_iload_n 1 dX5_at_0 rfl rfl ?_
  refine mm_if_ltN (i) (tgt := 22) dX5_at_1 (by decide) (by omega) ?_
  refine mm_iload_n 1 dX5_at_4 rfl rfl ?_
  refine mm_aload_n 0 dX5_at_5 rfl rfl ?_
  refine mm_getr (b := a + 1) dX5_at_6 rfl fk_X5_13 rfl hR.1 hR.2.1 ?_
  refine mm_alen dX5_at_9 hR.2.2.1 ?_
  refine mm_icmp_geN (i) (n) (tgt := 22) dX5_at_10 (by decide) (by omega) (by omega) (fun c10 => ?_) (fun c10 => ?_)
  · refine mm_iconst (v := 0) dX5_at_22 rfl ?_
    refine mm_iret dX5_at_23 rfl ⟨Nat.le_refl _, Nat.le_refl _⟩ ?_
    first | exact absurd c1 (nI_pos (by omega)) | (exfalso; omega)
  · refine mm_aload_n 0 dX5_at_13 rfl rfl ?_
    refine mm_getr (b := a + 1) dX5_at_14 rfl fk_X5_13 rfl hR.1 hR.2.1 ?_
    refine mm_iload_n 1 dX5_at_17 rfl rfl ?_
    refine mm_ialdN (i) dX5_at_18 hR.2.2.1 (by omega) (by omega) ?_
    refine mm_goto (tgt := 23) dX5_at_19 (by decide) ?_
    refine mm_iret dX5_at_23 rfl ⟨Nat.le_refl _, Nat.le_refl _⟩ ?_
    exact ⟨rfl, rfl, rfl⟩
set_option maxRecDepth 100000 in
set_option maxHeartbeats 4000000 in
theorem ct_set {g : mm_G} {S : mm_Sh} {I : mm_I} {a n d : Nat} (hR : rw_is S a n) {v : Int32} (i : Nat) (hi : i < n) : mm_Cv g zX5_set d [.ref a, .int (nI i), .int v] S I (mm_up I (a + 1) i v) := by
  have h31 := hR.2.2.2
  refine mm_begin (ls := [(0, .ref a), (1, .int (nI (i))), (2, .int (v))]) (Nat.le_of_ble_eq_true rfl) rfl rfl ?_
  refine mm_iload_n 1 dX5_set_0 rfl rfl ?_
  refine mm_if_ltN (i) (tgt := 20) dX5_set_1 (by decide) (by omega) ?_
  refine mm_iload_n 1 dX5_set_4 rfl rfl ?_
  refine mm_aload_n 0 dX5_set_5 rfl rfl ?_
  refine mm_getr (b := a + 1) dX5_set_6 rfl fk_X5_13 rfl hR.1 hR.2.1 ?_
  refine mm_alen dX5_set_9 hR.2.2.1 ?_
  refine mm_icmp_geN (i) (n) (tgt := 20) dX5_set_10 (by decide) (by omega) (by omega) (fun c10 => ?_) (fun c10 => ?_)
  · refine mm_vret dX5_set_20 rfl ⟨Nat.le_refl _, Nat.le_refl _⟩ ?_
    first | exact ⟨rfl, rfl, rfl⟩ | exact absurd c1 (nI_pos (by omega)) | (exfalso; omega)
  · refine mm_aload_n 0 dX5_set_13 rfl rfl ?_
    refine mm_getr (b := a + 1) dX5_set_14 rfl fk_X5_13 rfl hR.1 hR.2.1 ?_
    refine mm_iload_n 1 dX5_set_17 rfl rfl ?_
    refine mm_iload_n 2 dX5_set_18 rfl rfl ?_
    refine mm_iastN (i) dX5_set_19 hR.2.2.1 (by omega) (by omega) ?_
    refine mm_vret dX5_set_20 rfl ⟨Nat.le_refl _, Nat.le_refl _⟩ ?_
    first | exact ⟨rfl, rfl, rfl⟩ | exact absurd c1 (nI_pos (by omega)) | (exfalso; omega)
set_option maxRecDepth 100000 in
set_option maxHeartbeats 4000000 in
theorem ct_swap {g : mm_G} {S : mm_Sh} {I : mm_I} {a n d : Nat} (hR : rw_is S a n) {v : Int32} (i : Nat) (hi : i < n) (hd : 1 ≤ d) : mm_Ci g zX5_swap d [.ref a, .int (nI i), .int v] S I (I (a + 1) i) (mm_up I (a + 1) i v) := by
  have h31 := hR.2.2.2
  refine mm_begin (ls := [(0, .ref a), (1, .int (nI (i))), (2, .int (v))]) (Nat.le_of_ble_eq_true rfl) rfl rfl ?_
  refine mm_aload_n 0 dX5_swap_0 rfl rfl ?_
  refine mm_iload_n 1 dX5_swap_1 rfl rfl ?_
  refine mm_cV1i (dz := d - 1) dX5_swap_2 rfl mzX5_at ml_X5_23 imX5_at (by omega) hR.1 ⟨rfl, rfl⟩ (ct_at hR (i) (by omega)) (Nat.le_of_ble_eq_true rfl) ⟨Nat.le_refl _, Nat.le_refl _⟩ ?_
  refine mm_istore_n (ls' := [(3, .int (I (a + 1) i)), (0, .ref a), (1, .int (nI (i))), (2, .int (v))]) dX5_swap_5 rfl (by decide) rfl ?_
  refine mm_aload_n 1 dX5_swap_6 rfl rfl ?_
  refine mm_iload_n 2 dX5_swap_7 rfl rfl ?_
  refine mm_iload_n 3 dX5_swap_8 rfl rfl ?_
  refine mm_cV2v (dz := d - 1) dX5_swap_9 rfl mzX5_set ml_X5_27 imX5_set (by omega) hR.1 ⟨rfl, rfl⟩ (ct_set hR (i) (by omega)) (Nat.le_of_ble_eq_true rfl) ⟨Nat.le_refl _, Nat.le_refl _⟩ ?_
  refine mm_at (pc' := 12) rfl ?_
  refine mm_iload_n 0 dX5_swap_12 rfl rfl ?_
  refine mm_iret dX5_swap_13 rfl ⟨Nat.le_refl _, Nat.le_refl _⟩ ?_
  exact ⟨rfl, rfl, rfl⟩
set_option maxRecDepth 100000 in
set_option maxHeartbeats 4000000 in
theorem ct_add {g : mm_G} {S : mm_Sh} {I : mm_I} {a n d : Nat} (hR : rw_is S a n) {v : Int32} (u : Nat) (hu : I a 1 = nI u) (hi : u < n) : mm_Ci g zX5_add d [.ref a, .int v] S I 1 (mm_up (mm_up I (a + 1) u v) a 1 (nI (u + 1))) := by
  have h31 := hR.2.2.2
  refine mm_begin (ls := [(0, .ref a), (1, .int (v))]) (Nat.le_of_ble_eq_true rfl) rfl rfl ?_
  refine mm_aload_n 0 dX5_add_0 rfl rfl ?_
  refine mm_geti dX5_add_1 rfl fk_X5_19 rfl hR.1 ?_
  refine mm_top (v := nI (u)) hu ?_
  refine mm_if_ltN (u) (tgt := 19) dX5_add_4 (by decide) (by omega) ?_
  refine mm_aload_n 0 dX5_add_7 rfl rfl ?_
  refine mm_geti dX5_add_8 rfl fk_X5_19 rfl hR.1 ?_
  refine mm_top (v := nI (u)) hu ?_
  refine mm_aload_n 0 dX5_add_11 rfl rfl ?_
  refine mm_getr (b := a + 1) dX5_add_12 rfl fk_X5_13 rfl hR.1 hR.2.1 ?_
  refine mm_alen dX5_add_15 hR.2.2.1 ?_
  refine mm_at (pc' := 16) rfl ?_
  refine mm_icmp_ltN (u) (n) (tgt := 21) dX5_add_16 (by decide) (by omega) (by omega) (fun c16 => ?_) (fun c16 => ?_)
  · refine mm_aload_n 0 dX5_add_21 rfl rfl ?_
    refine mm_getr (b := a + 1) dX5_add_22 rfl fk_X5_13 rfl hR.1 hR.2.1 ?_
    refine mm_aload_n 0 dX5_add_25 rfl rfl ?_
    refine mm_geti dX5_add_26 rfl fk_X5_19 rfl hR.1 ?_
    refine mm_top (v := nI (u)) hu ?_
    refine mm_iload_n 1 dX5_add_29 rfl rfl ?_
    refine mm_iastN (u) dX5_add_30 hR.2.2.1 (by omega) (by omega) ?_
    refine mm_aload_n 0 dX5_add_31 rfl rfl ?_
    refine mm_dup dX5_add_32 rfl ?_
    refine mm_at (pc' := 33) rfl ?_
    refine mm_geti dX5_add_33 rfl fk_X5_19 rfl hR.1 ?_
    refine mm_top (v := nI (u)) (by rw [mm_up_ne (by omega)]; exact hu) ?_
    refine mm_iconst (v := 1) dX5_add_36 rfl ?_
    refine mm_iaddN (u) (1) dX5_add_37 ?_
    refine mm_puti dX5_add_38 rfl fk_X5_19 rfl fv_5_1 hR.1 ?_
    refine mm_iconst (v := 1) dX5_add_41 rfl ?_
    refine mm_zret dX5_add_42 rfl (by decide) ⟨Nat.le_refl _, Nat.le_refl _⟩ ?_
    first | exact ⟨rfl, rfl, rfl⟩ | exact absurd c4 (nI_pos (by omega)) | (exfalso; omega)
  · refine mm_iconst (v := 0) dX5_add_19 rfl ?_
    refine mm_zret dX5_add_20 rfl (by decide) ⟨Nat.le_refl _, Nat.le_refl _⟩ ?_
    first | exact ⟨rfl, rfl, rfl⟩ | exact absurd c4 (nI_pos (by omega)) | (exfalso; omega)
set_option maxRecDepth 100000 in
set_option maxHeartbeats 4000000 in
theorem ct_addF {g : mm_G} {S : mm_Sh} {I : mm_I} {a n d : Nat} (hR : rw_is S a n) {v : Int32} (hu : I a 1 = nI n) : mm_Ci g zX5_add d [.ref a, .int v] S I 0 I := by
  have h31 := hR.2.2.2
  refine mm_begin (ls := [(0, .ref a), (1, .int (v))]) (Nat.le_of_ble_eq_true rfl) rfl rfl ?_
  refine mm_aload_n 0 dX5_add_0 rfl rfl ?_
  refine mm_geti dX5_add_1 rfl fk_X5_19 rfl hR.1 ?_
  refine mm_top (v := nI (n)) hu ?_
  refine mm_if_ltN (n) (tgt := 19) dX5_add_4 (by decide) (by omega) ?_
  refine mm_aload_n 0 dX5_add_7 rfl rfl ?_
  refine mm_geti dX5_add_8 rfl fk_X5_19 rfl hR.1 ?_
  refine mm_top (v := nI (n)) hu ?_
  refine mm_aload_n 0 dX5_add_11 rfl rfl ?_
  refine mm_getr (b := a + 1) dX5_add_12 rfl fk_X5_13 rfl hR.1 hR.2.1 ?_
  refine mm_alen dX5_add_15 hR.2.2.1 ?_
  refine mm_at (pc' := 16) rfl ?_
  refine mm_icmp_ltN (n) (n) (tgt := 21) dX5_add_16 (by decide) (by omega) (by omega) (fun c16 => ?_) (fun c16 => ?_)
  · refine mm_aload_n 0 dX5_add_21 rfl rfl ?_
    refine mm_getr (b := a + 1) dX5_add_22 rfl fk_X5_13 rfl hR.1 hR.2.1 ?_
    refine mm_aload_n 0 dX5_add_25 rfl rfl ?_
    refine mm_geti dX5_add_26 rfl fk_X5_19 rfl hR.1 ?_
    refine mm_top (v := nI (n)) hu ?_
    refine mm_iload_n 1 dX5_add_29 rfl rfl ?_
    refine mm_iastN (n) dX5_add_30 hR.2.2.1 (by omega) (by omega) ?_
    refine mm_aload_n 0 dX5_add_31 rfl rfl ?_
    refine mm_dup dX5_add_32 rfl ?_
    refine mm_at (pc' := 33) rfl ?_
    refine mm_geti dX5_add_33 rfl fk_X5_19 rfl hR.1 ?_
    refine mm_iconst (v := 1) dX5_add_36 rfl ?_
    refine mm_iadd dX5_add_37 ?_
    refine mm_puti dX5_add_38 rfl fk_X5_19 rfl fv_5_1 hR.1 ?_
    refine mm_iconst (v := 1) dX5_add_41 rfl ?_
    refine mm_zret dX5_add_42 rfl (by decide) ⟨Nat.le_refl _, Nat.le_refl _⟩ ?_
    first | exact ⟨rfl, rfl, rfl⟩ | exact absurd c4 (nI_pos (by omega)) | (exfalso; omega)
  · refine mm_iconst (v := 0) dX5_add_19 rfl ?_
    refine mm_zret dX5_add_20 rfl (by decide) ⟨Nat.le_refl _, Nat.le_refl _⟩ ?_
    first | exact ⟨rfl, rfl, rfl⟩ | exact absurd c4 (nI_pos (by omega)) | (exfalso; omega)
set_option maxRecDepth 100000 in
set_option maxHeartbeats 4000000 in
theorem ct_shorten {g : mm_G} {S : mm_Sh} {I : mm_I} {a n d : Nat} (hR : rw_is S a n) (u k : Nat) (hu : I a 1 = nI u) (hk : k ≤ u) (hun : u ≤ n) (hd : 1 ≤ d) : mm_Cv g zX5_shorten d [.ref a, .int (nI k)] S I (mm_up I a 1 (nI k)) := by
  have h31 := hR.2.2.2
  refine mm_begin (ls := [(0, .ref a), (1, .int (nI (k)))]) (Nat.le_of_ble_eq_true rfl) rfl rfl ?_
  refine mm_aload_n 0 dX5_shorten_0 rfl rfl ?_
  refine mm_iconst (v := 0) dX5_shorten_1 rfl ?_
  refine mm_iload_n 1 dX5_shorten_2 rfl rfl ?_
  refine mm_aload_n 0 dX5_shorten_3 rfl rfl ?_
  refine mm_geti dX5_shorten_4 rfl fk_X5_19 rfl hR.1 ?_
  refine mm_top (v := nI (u)) hu ?_
  refine mm_minN (k) (u) dX5_shorten_7 rfl ml_X5_31 jm_min (by omega) (by omega) (by omega) (Nat.le_of_ble_eq_true rfl) ⟨Nat.le_refl _, Nat.le_refl _⟩ ?_
  refine mm_maxN (0) (min (k) (u)) dX5_shorten_10 rfl ml_X5_7 jm_max (by omega) (by omega) (by omega) (Nat.le_of_ble_eq_true rfl) ⟨Nat.le_refl _, Nat.le_refl _⟩ ?_
  refine mm_puti dX5_shorten_13 rfl fk_X5_19 rfl fv_5_1 hR.1 ?_
  refine mm_at (pc' := 16) rfl ?_
  refine mm_vret dX5_shorten_16 rfl ⟨Nat.le_refl _, Nat.le_refl _⟩ ?_
  exact ⟨rfl, rfl, by rw [Nat.min_eq_left hk, Nat.max_eq_right (Nat.zero_le _)]⟩
set_option maxRecDepth 100000 in
set_option maxHeartbeats 4000000 in
theorem ct_pop {g : mm_G} {S : mm_Sh} {I : mm_I} {a n d : Nat} (hR : rw_is S a n) (u : Nat) (hu : I a 1 = nI (u + 1)) (hun : u + 1 ≤ n) (hd : 1 ≤ d) : mm_Ci g zX5_pop d [.ref a] S I (I (a + 1) u) (mm_up I a 1 (nI u)) := by
  have h31 := hR.2.2.2
  refine mm_begin (ls := [(0, .ref a)]) (Nat.le_of_ble_eq_true rfl) rfl rfl ?_
  refine mm_aload_n 0 dX5_pop_0 rfl rfl ?_
  refine mm_geti dX5_pop_1 rfl fk_X5_19 rfl hR.1 ?_
  refine mm_top (v := nI (u + 1)) hu ?_
  refine mm_if_gtN (u + 1) (tgt := 9) dX5_pop_4 (by decide) (by omega) (fun c4 => ?_) (fun c4 => ?_)
  · refine mm_aload_n 0 dX5_pop_9 rfl rfl ?_
    refine mm_dup dX5_pop_10 rfl ?_
    refine mm_geti dX5_pop_11 rfl fk_X5_19 rfl hR.1 ?_
    refine mm_top (v := nI (u + 1)) hu ?_
    refine mm_iconst (v := 1) dX5_pop_14 rfl ?_
    refine mm_isubN (u + 1) (1) dX5_pop_15 (by omega) ?_
    refine mm_puti dX5_pop_16 rfl fk_X5_19 rfl fv_5_1 hR.1 ?_
    refine mm_aload_n 0 dX5_pop_19 rfl rfl ?_
    refine mm_aload_n 0 dX5_pop_20 rfl rfl ?_
    refine mm_at (pc' := 21) rfl ?_
    refine mm_geti dX5_pop_21 rfl fk_X5_19 rfl hR.1 ?_
    refine mm_top (v := nI (u)) (by rw [mm_up_at, Nat.add_sub_cancel]) ?_
    refine mm_cV1i (dz := d - 1) dX5_pop_24 rfl mzX5_at ml_X5_23 imX5_at (by omega) hR.1 ⟨rfl, rfl⟩ (ct_at hR (u) (by omega)) (Nat.le_of_ble_eq_true rfl) ⟨Nat.le_refl _, Nat.le_refl _⟩ ?_
    refine mm_top (v := I (a + 1) u) (mm_up_ne (by omega)) ?_
    refine mm_iret dX5_pop_27 rfl ⟨Nat.le_refl _, Nat.le_refl _⟩ ?_
    first | exact ⟨rfl, rfl, rfl⟩ | (exfalso; omega)
  · refine mm_iconst (v := 0) dX5_pop_7 rfl ?_
    refine mm_iret dX5_pop_8 rfl ⟨Nat.le_refl _, Nat.le_refl _⟩ ?_
    first | exact ⟨rfl, rfl, rfl⟩ | (exfalso; omega)
