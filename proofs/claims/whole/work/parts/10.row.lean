/-! ROW: a row of ints with a fixed room -/
theorem mm_begin {g : mm_G} {y : mm_M} {d : Nat} {Mt : Nat × Nat} {S : mm_Sh} {I : mm_I} {ls : List (Nat × Value)} {Q : Option Value → mm_Sh → mm_I → Prop} {av : List Value} (hn : av.length ≤ y.2.2.1) (hc : av.all (fun v => v.category == 1) = true) (hl : lv_args 0 av = ls) (k : mm_Ex g y d (0, 0) Mt S I 0 ls [] Q) : mm_Ct g y d Mt av S I Q := mm_start hn (fun v hv => by simpa using List.all_eq_true.mp hc v hv) hl k
set_option maxRecDepth 100000 in
set_option maxHeartbeats 4000000 in
theorem ct_size {g : mm_G} {S : mm_Sh} {I : mm_I} {a n d : Nat} (hR : rw_is S a n) : mm_Ci g zX5_size d [.ref a] S I (I a 1) I := by
  refine mm_begin (ls := [(0, .ref a)]) (Nat.le_of_ble_eq_true rfl) rfl rfl ?_
  refine mm_aload_n 0 dX5_size_0 rfl rfl ?_
  refine mm_geti dX5_size_1 rfl fk_X5_19 rfl hR.1 ?_
  refine mm_iret dX5_size_4 rfl ⟨Nat.le_refl _, Nat.le_refl _⟩ ?_
  exact ⟨rfl, rfl, rfl⟩
set_option maxRecDepth 100000 in
set_option maxHeartbeats 4000000 in
theorem ct_at {g : mm_G} {S : mm_Sh} {I : mm_I} {a n d : Nat} (hR : rw_is S a n) (i : Nat) (hi : i < n) : mm_Ci g zX5_at d [.ref a, .int (nI i)] S I (I (a + 1) i) I := by
  have h31 := hR.2.2.2
  refine mm_begin (ls := [(0, .ref a), (1, .int (nI (i)))]) (Nat.le_of_ble_eq_true rfl) rfl rfl ?_
  refine mm_iload_n 1 dX5_at_0 rfl rfl ?_
  refine mm_if_ltN (i) (tgt := 22) dX5_at_1 (by decide) (by omega) ?_
  refine mm_iload_n 1 dX5_at_4 rfl rfl ?_
  refine mm_aload_n 0 dX5_at_5 rfl rfl ?_
  refine mm_getr (b := a + 1) dX5_at_6 rfl fk_X5_13 rfl hR.1 hR.2.1 ?_
  refine mm_alen dX5_at_9 hR.2.2.1 ?_
  refine mm_icmp_geN (i) (n) (tgt := 22) dX5_at_10 (by decide) (by omega) (by omega) (fun c10 => ?_) (fun c10 => ?_)
  · refine mm_iconst (v := 0) dX5_at_22 rfl ?_
    refine mm_iret dX5_at_23 rfl ⟨Nat.le_refl _, Nat.le_refl _⟩ ?_
    first | exact absurd c1 (nI_pos (by omega)) | (exfalso; omega)
  · refine mm_aload_n 0 dX5_at_13 rfl rfl ?_
    refine mm_getr (b := a + 1) dX5_at_14 rfl fk_X5_13 rfl hR.1 hR.2.1 ?_
    refine mm_iload_n 1 dX5_at_17 rfl rfl ?_
    refine mm_ialdN (i) dX5_at_18 hR.2.2.1 (by omega) (by omega) ?_
    refine mm_goto (tgt := 23) dX5_at_19 (by decide) ?_
    refine mm_iret dX5_at_23 rfl ⟨Nat.le_refl _, Nat.le_refl _⟩ ?_
    exact ⟨rfl, rfl, rfl⟩
set_option maxRecDepth 100000 in
set_option maxHeartbeats 4000000 in
theorem ct_set {g : mm_G} {S : mm_Sh} {I : mm_I} {a n d : Nat} (hR : rw_is S a n) {v : Int32} (i : Nat) (hi : i < n) : mm_Cv g zX5_set d [.ref a, .int (nI i), .int v] S I (mm_up I (a + 1) i v) := by
  have h31 := hR.2.2.2
  refine mm_begin (ls := [(0, .ref a), (1, .int (nI (i))), (2, .int (v))]) (Nat.le_of_ble_eq_true rfl) rfl rfl ?_
  refine mm_iload_n 1 dX5_set_0 rfl rfl ?_
  refine mm_if_ltN (i) (tgt := 20) dX5_set_1 (by decide) (by omega) ?_
  refine mm_iload_n 1 dX5_set_4 rfl rfl ?_
  refine mm_aload_n 0 dX5_set_5 rfl rfl ?_
  refine mm_getr (b := a + 1) dX5_set_6 rfl fk_X5_13 rfl hR.1 hR.2.1 ?_
  refine mm_alen dX5_set_9 hR.2.2.1 ?_
  refine mm_icmp_geN (i) (n) (tgt := 20) dX5_set_10 (by decide) (by omega) (by omega) (fun c10 => ?_) (fun c10 => ?_)
  · refine mm_vret dX5_set_20 rfl ⟨Nat.le_refl _, Nat.le_refl _⟩ ?_
    first | exact ⟨rfl, rfl, rfl⟩ | exact absurd c1 (nI_pos (by omega)) | (exfalso; omega)
  · refine mm_aload_n 0 dX5_set_13 rfl rfl ?_
    refine mm_getr (b := a + 1) dX5_set_14 rfl fk_X5_13 rfl hR.1 hR.2.1 ?_
    refine mm_iload_n 1 dX5_set_17 rfl rfl ?_
    refine mm_iload_n 2 dX5_set_18 rfl rfl ?_
    refine mm_iastN (i) dX5_set_19 hR.2.2.1 (by omega) (by omega) ?_
    refine mm_vret dX5_set_20 rfl ⟨Nat.le_refl _, Nat.le_refl _⟩ ?_
    first | exact ⟨rfl, rfl, rfl⟩ | exact absurd c1 (nI_pos (by omega)) | (exfalso; omega)
set_option maxRecDepth 100000 in
set_option maxHeartbeats 4000000 in
theorem ct_swap {g : mm_G} {S : mm_Sh} {I : mm_I} {a n d : Nat} (hR : rw_is S a n) {v : Int32} (i : Nat) (hi : i < n) (hd : 1 ≤ d) : mm_Ci g zX5_swap d [.ref a, .int (nI i), .int v] S I (I (a + 1) i) (mm_up I (a + 1) i v) := by
  have h31 := hR.2.2.2
  refine mm_begin (ls := [(0, .ref a), (1, .int (nI (i))), (2, .int (v))]) (Nat.le_of_ble_eq_true rfl) rfl rfl ?_
  refine mm_aload_n 0 dX5_swap_0 rfl rfl ?_
  refine mm_iload_n 1 dX5_swap_1 rfl rfl ?_
  refine mm_cV1i (dz := d - 1) dX5_swap_2 rfl mzX5_at ml_X5_23 imX5_at (by omega) hR.1 ⟨rfl, rfl⟩ (ct_at hR (i) (by omega)) (Nat.le_of_ble_eq_true rfl) ⟨Nat.le_refl _, Nat.le_refl _⟩ ?_
  refine mm_istore_n (ls' := [(3, .int (I (a + 1) i)), (0, .ref a), (1, .int (nI (i))), (2, .int (v))]) dX5_swap_5 rfl (by decide) rfl ?_
  refine mm_aload_n 1 dX5_swap_6 rfl rfl ?_
  refine mm_iload_n 2 dX5_swap_7 rfl rfl ?_
  refine mm_iload_n 3 dX5_swap_8 rfl rfl ?_
  refine mm_cV2v (dz := d - 1) dX5_swap_9 rfl mzX5_set ml_X5_27 imX5_set (by omega) hR.1 ⟨rfl, rfl⟩ (ct_set hR (i) (by omega)) (Nat.le_of_ble_eq_true rfl) ⟨Nat.le_refl _, Nat.le_refl _⟩ ?_
  refine mm_at (pc' := 12) rfl ?_
  refine mm_iload_n 0 dX5_swap_12 rfl rfl ?_
  refine mm_iret dX5_swap_13 rfl ⟨Nat.le_refl _, Nat.le_refl _⟩ ?_
  exact ⟨rfl, rfl, rfl⟩
set_option maxRecDepth 100000 in
set_option maxHeartbeats 4000000 in
theorem ct_add {g : mm_G} {S : mm_Sh} {I : mm_I} {a n d : Nat} (hR : rw_is S a n) {v : Int32} (u : Nat) (hu : I a 1 = nI u) (hi : u < n) : mm_Ci g zX5_add d [.ref a, .int v] S I 1 (mm_up (mm_up I (a + 1) u v) a 1 (nI (u + 1))) := by
  have h31 := hR.2.2.2
  refine mm_begin (ls := [(0, .ref a), (1, .int (v))]) (Nat.le_of_ble_eq_true rfl) rfl rfl ?_
  refine mm_aload_n 0 dX5_add_0 rfl rfl ?_
  refine mm_geti dX5_add_1 rfl fk_X5_19 rfl hR.1 ?_
  refine mm_top (v := nI (u)) hu ?_
  refine mm_if_ltN (u) (tgt := 19) dX5_add_4 (by decide) (by omega) ?_
  refine mm_aload_n 0 dX5_add_7 rfl rfl ?_
  refine mm_geti dX5_add_8 rfl fk_X5_19 rfl hR.1 ?_
  refine mm_top (v := nI (u)) hu ?_
  refine mm_aload_n 0 dX5_add_11 rfl rfl ?_
  refine mm_getr (b := a + 1) dX5_add_12 rfl fk_X5_13 rfl hR.1 hR.2.1 ?_
  refine mm_alen dX5_add_15 hR.2.2.1 ?_
  refine mm_at (pc' := 16) rfl ?_
  refine mm_icmp_ltN (u) (n) (tgt := 21) dX5_add_16 (by decide) (by omega) (by omega) (fun c16 => ?_) (fun c16 => ?_)
  · refine mm_aload_n 0 dX5_add_21 rfl rfl ?_
    refine mm_getr (b := a + 1) dX5_add_22 rfl fk_X5_13 rfl hR.1 hR.2.1 ?_
    refine mm_aload_n 0 dX5_add_25 rfl rfl ?_
    refine mm_geti dX5_add_26 rfl fk_X5_19 rfl hR.1 ?_
    refine mm_top (v := nI (u)) hu ?_
    refine mm_iload_n 1 dX5_add_29 rfl rfl ?_
    refine mm_iastN (u) dX5_add_30 hR.2.2.1 (by omega) (by omega) ?_
    refine mm_aload_n 0 dX5_add_31 rfl rfl ?_
    refine mm_dup dX5_add_32 rfl ?_
    refine mm_at (pc' := 33) rfl ?_
    refine mm_geti dX5_add_33 rfl fk_X5_19 rfl hR.1 ?_
    refine mm_top (v := nI (u)) (by rw [mm_up_ne (by omega)]; exact hu) ?_
    refine mm_iconst (v := 1) dX5_add_36 rfl ?_
    refine mm_iaddN (u) (1) dX5_add_37 ?_
    refine mm_puti dX5_add_38 rfl fk_X5_19 rfl fv_5_1 hR.1 ?_
    refine mm_iconst (v := 1) dX5_add_41 rfl ?_
    refine mm_zret dX5_add_42 rfl (by decide) ⟨Nat.le_refl _, Nat.le_refl _⟩ ?_
    first | exact ⟨rfl, rfl, rfl⟩ | exact absurd c4 (nI_pos (by omega)) | (exfalso; omega)
  · refine mm_iconst (v := 0) dX5_add_19 rfl ?_
    refine mm_zret dX5_add_20 rfl (by decide) ⟨Nat.le_refl _, Nat.le_refl _⟩ ?_
    first | exact ⟨rfl, rfl, rfl⟩ | exact absurd c4 (nI_pos (by omega)) | (exfalso; omega)
set_option maxRecDepth 100000 in
set_option maxHeartbeats 4000000 in
theorem ct_addF {g : mm_G} {S : mm_Sh} {I : mm_I} {a n d : Nat} (hR : rw_is S a n) {v : Int32} (hu : I a 1 = nI n) : mm_Ci g zX5_add d [.ref a, .int v] S I 0 I := by
  have h31 := hR.2.2.2
  refine mm_begin (ls := [(0, .ref a), (1, .int (v))]) (Nat.le_of_ble_eq_true rfl) rfl rfl ?_
  refine mm_aload_n 0 dX5_add_0 rfl rfl ?_
  refine mm_geti dX5_add_1 rfl fk_X5_19 rfl hR.1 ?_
  refine mm_top (v := nI (n)) hu ?_
  refine mm_if_ltN (n) (tgt := 19) dX5_add_4 (by decide) (by omega) ?_
  refine mm_aload_n 0 dX5_add_7 rfl rfl ?_
  refine mm_geti dX5_add_8 rfl fk_X5_19 rfl hR.1 ?_
  refine mm_top (v := nI (n)) hu ?_
  refine mm_aload_n 0 dX5_add_11 rfl rfl ?_
  refine mm_getr (b := a + 1) dX5_add_12 rfl fk_X5_13 rfl hR.1 hR.2.1 ?_
  refine mm_alen dX5_add_15 hR.2.2.1 ?_
  refine mm_at (pc' := 16) rfl ?_
  refine mm_icmp_ltN (n) (n) (tgt := 21) dX5_add_16 (by decide) (by omega) (by omega) (fun c16 => ?_) (fun c16 => ?_)
  · refine mm_aload_n 0 dX5_add_21 rfl rfl ?_
    refine mm_getr (b := a + 1) dX5_add_22 rfl fk_X5_13 rfl hR.1 hR.2.1 ?_
    refine mm_aload_n 0 dX5_add_25 rfl rfl ?_
    refine mm_geti dX5_add_26 rfl fk_X5_19 rfl hR.1 ?_
    refine mm_top (v := nI (n)) hu ?_
    refine mm_iload_n 1 dX5_add_29 rfl rfl ?_
    refine mm_iastN (n) dX5_add_30 hR.2.2.1 (by omega) (by omega) ?_
    refine mm_aload_n 0 dX5_add_31 rfl rfl ?_
    refine mm_dup dX5_add_32 rfl ?_
    refine mm_at (pc' := 33) rfl ?_
    refine mm_geti dX5_add_33 rfl fk_X5_19 rfl hR.1 ?_
    refine mm_iconst (v := 1) dX5_add_36 rfl ?_
    refine mm_iadd dX5_add_37 ?_
    refine mm_puti dX5_add_38 rfl fk_X5_19 rfl fv_5_1 hR.1 ?_
    refine mm_iconst (v := 1) dX5_add_41 rfl ?_
    refine mm_zret dX5_add_42 rfl (by decide) ⟨Nat.le_refl _, Nat.le_refl _⟩ ?_
    first | exact ⟨rfl, rfl, rfl⟩ | exact absurd c4 (nI_pos (by omega)) | (exfalso; omega)
  · refine mm_iconst (v := 0) dX5_add_19 rfl ?_
    refine mm_zret dX5_add_20 rfl (by decide) ⟨Nat.le_refl _, Nat.le_refl _⟩ ?_
    first | exact ⟨rfl, rfl, rfl⟩ | exact absurd c4 (nI_pos (by omega)) | (exfalso; omega)
set_option maxRecDepth 100000 in
set_option maxHeartbeats 4000000 in
theorem ct_shorten {g : mm_G} {S : mm_Sh} {I : mm_I} {a n d : Nat} (hR : rw_is S a n) (u k : Nat) (hu : I a 1 = nI u) (hk : k ≤ u) (hun : u ≤ n) (hd : 1 ≤ d) : mm_Cv g zX5_shorten d [.ref a, .int (nI k)] S I (mm_up I a 1 (nI k)) := by
  have h31 := hR.2.2.2
  refine mm_begin (ls := [(0, .ref a), (1, .int (nI (k)))]) (Nat.le_of_ble_eq_true rfl) rfl rfl ?_
  refine mm_aload_n 0 dX5_shorten_0 rfl rfl ?_
  refine mm_iconst (v := 0) dX5_shorten_1 rfl ?_
  refine mm_iload_n 1 dX5_shorten_2 rfl rfl ?_
  refine mm_aload_n 0 dX5_shorten_3 rfl rfl ?_
  refine mm_geti dX5_shorten_4 rfl fk_X5_19 rfl hR.1 ?_
  refine mm_top (v := nI (u)) hu ?_
  refine mm_minN (k) (u) dX5_shorten_7 rfl ml_X5_31 jm_min (by omega) (by omega) (by omega) (Nat.le_of_ble_eq_true rfl) ⟨Nat.le_refl _, Nat.le_refl _⟩ ?_
  refine mm_maxN (0) (min (k) (u)) dX5_shorten_10 rfl ml_X5_7 jm_max (by omega) (by omega) (by omega) (Nat.le_of_ble_eq_true rfl) ⟨Nat.le_refl _, Nat.le_refl _⟩ ?_
  refine mm_puti dX5_shorten_13 rfl fk_X5_19 rfl fv_5_1 hR.1 ?_
  refine mm_at (pc' := 16) rfl ?_
  refine mm_vret dX5_shorten_16 rfl ⟨Nat.le_refl _, Nat.le_refl _⟩ ?_
  exact ⟨rfl, rfl, by rw [Nat.min_eq_left hk, Nat.max_eq_right (Nat.zero_le _)]⟩
set_option maxRecDepth 100000 in
set_option maxHeartbeats 4000000 in
theorem ct_pop {g : mm_G} {S : mm_Sh} {I : mm_I} {a n d : Nat} (hR : rw_is S a n) (u : Nat) (hu : I a 1 = nI (u + 1)) (hun : u + 1 ≤ n) (hd : 1 ≤ d) : mm_Ci g zX5_pop d [.ref a] S I (I (a + 1) u) (mm_up I a 1 (nI u)) := by
  have h31 := hR.2.2.2
  refine mm_begin (ls := [(0, .ref a)]) (Nat.le_of_ble_eq_true rfl) rfl rfl ?_
  refine mm_aload_n 0 dX5_pop_0 rfl rfl ?_
  refine mm_geti dX5_pop_1 rfl fk_X5_19 rfl hR.1 ?_
  refine mm_top (v := nI (u + 1)) hu ?_
  refine mm_if_gtN (u + 1) (tgt := 9) dX5_pop_4 (by decide) (by omega) (fun c4 => ?_) (fun c4 => ?_)
  · refine mm_aload_n 0 dX5_pop_9 rfl rfl ?_
    refine mm_dup dX5_pop_10 rfl ?_
    refine mm_geti dX5_pop_11 rfl fk_X5_19 rfl hR.1 ?_
    refine mm_top (v := nI (u + 1)) hu ?_
    refine mm_iconst (v := 1) dX5_pop_14 rfl ?_
    refine mm_isubN (u + 1) (1) dX5_pop_15 (by omega) ?_
    refine mm_puti dX5_pop_16 rfl fk_X5_19 rfl fv_5_1 hR.1 ?_
    refine mm_aload_n 0 dX5_pop_19 rfl rfl ?_
    refine mm_aload_n 0 dX5_pop_20 rfl rfl ?_
    refine mm_at (pc' := 21) rfl ?_
    refine mm_geti dX5_pop_21 rfl fk_X5_19 rfl hR.1 ?_
    refine mm_top (v := nI (u)) (by rw [mm_up_at, Nat.add_sub_cancel]) ?_
    refine mm_cV1i (dz := d - 1) dX5_pop_24 rfl mzX5_at ml_X5_23 imX5_at (by omega) hR.1 ⟨rfl, rfl⟩ (ct_at hR (u) (by omega)) (Nat.le_of_ble_eq_true rfl) ⟨Nat.le_refl _, Nat.le_refl _⟩ ?_
    refine mm_top (v := I (a + 1) u) (mm_up_ne (by omega)) ?_
    refine mm_iret dX5_pop_27 rfl ⟨Nat.le_refl _, Nat.le_refl _⟩ ?_
    first | exact ⟨rfl, rfl, rfl⟩ | (exfalso; omega)
  · refine mm_iconst (v := 0) dX5_pop_7 rfl ?_
    refine mm_iret dX5_pop_8 rfl ⟨Nat.le_refl _, Nat.le_refl _⟩ ?_
    first | exact ⟨rfl, rfl, rfl⟩ | (exfalso; omega)
/-- the first k places hold v -/
def rw_fl (I : mm_I) (b : Nat) (v : Int32) (k : Nat) : mm_I := fun c j => if c = b ∧ j < k then v else I c j
theorem rw_fl_0 {I : mm_I} {b : Nat} {v : Int32} : rw_fl I b v 0 = I := by
  funext c j; unfold rw_fl; rw [if_neg (by omega)]
theorem rw_fl_s {I : mm_I} {b i : Nat} {v : Int32} : mm_up (rw_fl I b v i) b i v = rw_fl I b v (i + 1) := by
  funext c j
  unfold mm_up rw_fl
  by_cases hc : c = b
  · subst hc
    by_cases hj : j = i
    · subst hj; simp
    · by_cases h2 : j < i
      · rw [if_pos rfl, if_neg hj, if_pos ⟨rfl, h2⟩, if_pos ⟨rfl, by omega⟩]
      · rw [if_pos rfl, if_neg hj, if_neg (by omega), if_neg (by omega)]
  · rw [if_neg hc, if_neg (by omega), if_neg (by omega)]
theorem rw_fl_in {I : mm_I} {b k j : Nat} {v : Int32} (h : j < k) : rw_fl I b v k b j = v := by unfold rw_fl; rw [if_pos ⟨rfl, h⟩]
theorem rw_fl_out {I : mm_I} {b k j : Nat} {v : Int32} (h : k ≤ j) : rw_fl I b v k b j = I b j := by unfold rw_fl; rw [if_neg (by omega)]
theorem rw_fl_ne {I : mm_I} {b c k j : Nat} {v : Int32} (h : c ≠ b) : rw_fl I b v k c j = I c j := by unfold rw_fl; rw [if_neg (by omega)]
def rw_sum (f : Nat → Int32) : Nat → Int32
  | 0 => 0
  | k + 1 => rw_sum f k + f k
/-- the first place from i on, of m, where f and g part; else the end -/
def rw_al (f g : Nat → Int32) : Nat → Nat → Nat
  | 0, i => i
  | m + 1, i => if f i = g i then rw_al f g m (i + 1) else i
theorem rw_al_le (f g : Nat → Int32) : ∀ m i, i ≤ rw_al f g m i ∧ rw_al f g m i ≤ i + m := by
  intro m
  induction m with
  | zero => intro i; exact ⟨Nat.le_refl _, Nat.le_refl _⟩
  | succ m ih =>
    intro i
    unfold rw_al
    by_cases h : f i = g i
    · rw [if_pos h]; have := ih (i + 1); omega
    · rw [if_neg h]; omega
set_option maxRecDepth 100000 in
set_option maxHeartbeats 4000000 in
theorem lp_fill {g : mm_G} {S : mm_Sh} {a n d : Nat} (hR : rw_is S a n) {Q : Option Value → mm_Sh → mm_I → Prop} {v x : Int32} {k : Nat} {I0 : mm_I} (hu : I0 a 1 = nI k) (hk : k ≤ n) (hq : Q none S (rw_fl I0 (a + 1) v k)) : ∀ (m : Nat) (i : Nat), (i ≤ k) → k - i < m → mm_Ex g zX5_fill d (0, 0) (0, 0) S (rw_fl I0 (a + 1) v i) 19 [(3, .int (nI (i))), (0, .ref a), (1, .int (x)), (2, .int (v))] [] Q := by
  have h31 := hR.2.2.2
  intro m
  induction m with
  | zero => intro i hi hm; exact absurd hm (Nat.not_lt_zero _)
  | succ m ih =>
    intro i hi hm
    refine mm_iload_n 0 dX5_fill_19 rfl rfl ?_
    refine mm_aload_n 1 dX5_fill_20 rfl rfl ?_
    refine mm_geti dX5_fill_21 rfl fk_X5_19 rfl hR.1 ?_
    refine mm_top (v := nI (k)) (by rw [rw_fl_ne (by omega)]; exact hu) ?_
    refine mm_icmp_geN (i) (k) (tgt := 49) dX5_fill_24 (by decide) (by omega) (by omega) (fun c24 => ?_) (fun c24 => ?_)
    · refine mm_vret dX5_fill_49 rfl ⟨Nat.le_refl _, Nat.le_refl _⟩ ?_
      first | (exfalso; omega) | exact (show k = i by omega) ▸ hq
    · refine mm_iload_n 0 dX5_fill_27 rfl rfl ?_
      refine mm_aload_n 1 dX5_fill_28 rfl rfl ?_
      refine mm_getr (b := a + 1) dX5_fill_29 rfl fk_X5_13 rfl hR.1 hR.2.1 ?_
      refine mm_alen dX5_fill_32 hR.2.2.1 ?_
      refine mm_icmp_geN (i) (n) (tgt := 49) dX5_fill_33 (by decide) (by omega) (by omega) (fun c33 => ?_) (fun c33 => ?_)
      · refine mm_vret dX5_fill_49 rfl ⟨Nat.le_refl _, Nat.le_refl _⟩ ?_
        first | (exfalso; omega) | exact (show k = i by omega) ▸ hq
      · refine mm_aload_n 1 dX5_fill_36 rfl rfl ?_
        refine mm_getr (b := a + 1) dX5_fill_37 rfl fk_X5_13 rfl hR.1 hR.2.1 ?_
        refine mm_iload_n 0 dX5_fill_40 rfl rfl ?_
        refine mm_iload_n 3 dX5_fill_41 rfl rfl ?_
        refine mm_iastN (i) dX5_fill_42 hR.2.2.1 (by omega) (by omega) ?_
        refine mm_iincN (ls' := [(3, .int (nI (i + 1))), (0, .ref a), (1, .int (x)), (2, .int (v))]) 0 (i) 1 dX5_fill_43 rfl rfl (by decide) rfl ?_
        refine mm_goto (tgt := 19) dX5_fill_46 (by decide) ?_
        rw [rw_fl_s]
        exact mm_sub [0, 1, 2, 3] rfl (ih (i + 1) (by omega) (by omega))
set_option maxRecDepth 100000 in
set_option maxHeartbeats 4000000 in
theorem ct_fill {g : mm_G} {S : mm_Sh} {I : mm_I} {a n d : Nat} (hR : rw_is S a n) {v : Int32} (k : Nat) (hk : k ≤ n) (hd : 1 ≤ d) : mm_Cv g zX5_fill d [.ref a, .int (nI k), .int v] S I (rw_fl (mm_up I a 1 (nI k)) (a + 1) v k) := by
  have h31 := hR.2.2.2
  refine mm_begin (ls := [(0, .ref a), (1, .int (nI (k))), (2, .int (v))]) (Nat.le_of_ble_eq_true rfl) rfl rfl ?_
  refine mm_aload_n 0 dX5_fill_0 rfl rfl ?_
  refine mm_iconst (v := 0) dX5_fill_1 rfl ?_
  refine mm_iload_n 1 dX5_fill_2 rfl rfl ?_
  refine mm_aload_n 0 dX5_fill_3 rfl rfl ?_
  refine mm_getr (b := a + 1) dX5_fill_4 rfl fk_X5_13 rfl hR.1 hR.2.1 ?_
  refine mm_alen dX5_fill_7 hR.2.2.1 ?_
  refine mm_minN (k) (n) dX5_fill_8 rfl ml_X5_31 jm_min (by omega) (by omega) (by omega) (Nat.le_of_ble_eq_true rfl) ⟨Nat.le_refl _, Nat.le_refl _⟩ ?_
  refine mm_maxN (0) (min (k) (n)) dX5_fill_11 rfl ml_X5_7 jm_max (by omega) (by omega) (by omega) (Nat.le_of_ble_eq_true rfl) ⟨Nat.le_refl _, Nat.le_refl _⟩ ?_
  refine mm_at (pc' := 14) rfl ?_
  refine mm_puti dX5_fill_14 rfl fk_X5_19 rfl fv_5_1 hR.1 ?_
  refine mm_iconst (v := 0) dX5_fill_17 rfl ?_
  refine mm_istore_n (ls' := [(3, .int (0)), (0, .ref a), (1, .int (nI (k))), (2, .int (v))]) dX5_fill_18 rfl (by decide) rfl ?_
  have e : mm_up I a 1 (nI (max 0 (min k n))) = rw_fl (mm_up I a 1 (nI k)) (a + 1) v 0 := by rw [rw_fl_0, Nat.min_eq_left hk, Nat.max_eq_right (Nat.zero_le _)]
  rw [e]
  exact lp_fill hR mm_up_at hk ⟨rfl, rfl, rfl⟩ (k + 1) 0 (Nat.zero_le _) (by omega)
set_option maxRecDepth 100000 in
set_option maxHeartbeats 4000000 in
theorem lp_sum {g : mm_G} {S : mm_Sh} {I : mm_I} {a n d : Nat} (hR : rw_is S a n) {Q : Option Value → mm_Sh → mm_I → Prop} {k : Nat} (hk : k ≤ n) (hq : Q (some (.int (rw_sum (I (a + 1)) k))) S I) : ∀ (m : Nat) (i : Nat), (i ≤ k) → k - i < m → mm_Ex g zX5_sum d (0, 0) (0, 0) S (I) 4 [(3, .int (nI (i))), (2, .int (rw_sum (I (a + 1)) i)), (0, .ref a), (1, .int (nI (k)))] [] Q := by
  have h31 := hR.2.2.2
  intro m
  induction m with
  | zero => intro i hi hm; exact absurd hm (Nat.not_lt_zero _)
  | succ m ih =>
    intro i hi hm
    refine mm_iload_n 0 dX5_sum_4 rfl rfl ?_
    refine mm_iload_n 3 dX5_sum_5 rfl rfl ?_
    refine mm_icmp_geN (i) (k) (tgt := 33) dX5_sum_6 (by decide) (by omega) (by omega) (fun c6 => ?_) (fun c6 => ?_)
    · refine mm_iload_n 1 dX5_sum_33 rfl rfl ?_
      refine mm_iret dX5_sum_34 rfl ⟨Nat.le_refl _, Nat.le_refl _⟩ ?_
      first | (exfalso; omega) | exact (show k = i by omega) ▸ hq
    · refine mm_iload_n 0 dX5_sum_9 rfl rfl ?_
      refine mm_aload_n 2 dX5_sum_10 rfl rfl ?_
      refine mm_getr (b := a + 1) dX5_sum_11 rfl fk_X5_13 rfl hR.1 hR.2.1 ?_
      refine mm_alen dX5_sum_14 hR.2.2.1 ?_
      refine mm_icmp_geN (i) (n) (tgt := 33) dX5_sum_15 (by decide) (by omega) (by omega) (fun c15 => ?_) (fun c15 => ?_)
      · refine mm_iload_n 1 dX5_sum_33 rfl rfl ?_
        refine mm_iret dX5_sum_34 rfl ⟨Nat.le_refl _, Nat.le_refl _⟩ ?_
        first | (exfalso; omega) | exact (show k = i by omega) ▸ hq
      · refine mm_iload_n 1 dX5_sum_18 rfl rfl ?_
        refine mm_aload_n 2 dX5_sum_19 rfl rfl ?_
        refine mm_getr (b := a + 1) dX5_sum_20 rfl fk_X5_13 rfl hR.1 hR.2.1 ?_
        refine mm_iload_n 0 dX5_sum_23 rfl rfl ?_
        refine mm_ialdN (i) dX5_sum_24 hR.2.2.1 (by omega) (by omega) ?_
        refine mm_iadd dX5_sum_25 ?_
        refine mm_istore_n (ls' := [(2, .int ((rw_sum (I (a + 1)) i) + (I (a + 1) i))), (3, .int (nI (i))), (0, .ref a), (1, .int (nI (k)))]) dX5_sum_26 rfl (by decide) rfl ?_
        refine mm_at (pc' := 27) rfl ?_
        refine mm_iincN (ls' := [(3, .int (nI (i + 1))), (2, .int ((rw_sum (I (a + 1)) i) + (I (a + 1) i))), (0, .ref a), (1, .int (nI (k)))]) 1 (i) 1 dX5_sum_27 rfl rfl (by decide) rfl ?_
        refine mm_goto (tgt := 4) dX5_sum_30 (by decide) ?_
        exact mm_sub [0, 1, 2, 3] rfl (ih (i + 1) (by omega) (by omega))
set_option maxRecDepth 100000 in
set_option maxHeartbeats 4000000 in
theorem ct_sum {g : mm_G} {S : mm_Sh} {I : mm_I} {a n d : Nat} (hR : rw_is S a n) (k : Nat) (hk : k ≤ n) : mm_Ci g zX5_sum d [.ref a, .int (nI k)] S I (rw_sum (I (a + 1)) k) I := by
  have h31 := hR.2.2.2
  refine mm_begin (ls := [(0, .ref a), (1, .int (nI (k)))]) (Nat.le_of_ble_eq_true rfl) rfl rfl ?_
  refine mm_iconst (v := 0) dX5_sum_0 rfl ?_
  refine mm_istore_n (ls' := [(2, .int (0)), (0, .ref a), (1, .int (nI (k)))]) dX5_sum_1 rfl (by decide) rfl ?_
  refine mm_iconst (v := 0) dX5_sum_2 rfl ?_
  refine mm_istore_n (ls' := [(3, .int (0)), (2, .int (0)), (0, .ref a), (1, .int (nI (k)))]) dX5_sum_3 rfl (by decide) rfl ?_
  exact lp_sum hR hk ⟨rfl, rfl, rfl⟩ (k + 1) 0 (Nat.zero_le _) (by omega)
theorem mm_copyN {g : mm_G} {y : mm_M} {d : Nat} {Al Mt : Nat × Nat} {S : mm_Sh} {I : mm_I} {pc : Nat} {ls : List (Nat × Value)} {st : List Value} {Q : Option Value → mm_Sh → mm_I → Prop} {index a a0 n n0' : Nat} {own : String} (p t m : Nat) (hd : decode y.2.1 pc = .ok (.invokestatic index, 3)) (ho : y.1.cls = own) (hlk : Cond.methodLink own index arraycopyName ∈ mm_tb) (hdz : 2 ≤ d) (hrs : (st.map fun v => v.category).sum ≤ 8) (ha0 : mm_ia S a0 n0') (ha : mm_ia S a n) (h1 : p + m ≤ n0') (h2 : t + m ≤ n) (h3 : n0' < 2 ^ 31) (h4 : n < 2 ^ 31) (kk : mm_Ex g y d Al Mt S (mm_cp I a0 a p t m) (pc + 3) ls st Q) : mm_Ex g y d Al Mt S I pc ls (.int (nI m) :: .int (nI t) :: .ref a :: .int (nI p) :: .ref a0 :: st) Q :=
  mm_copy hd ho hlk jm_copy hdz hrs ha0 ha (nI_pos (by omega)) (nI_pos (by omega)) (nI_pos (by omega)) (by rw [nI_clamp (by omega), nI_clamp (by omega)]; exact h1) (by rw [nI_clamp (by omega), nI_clamp (by omega)]; exact h2) (by rw [nI_clamp (by omega), nI_clamp (by omega), nI_clamp (by omega)]; exact kk)
set_option maxRecDepth 100000 in
set_option maxHeartbeats 4000000 in
theorem ct_become {g : mm_G} {S : mm_Sh} {I : mm_I} {a n d : Nat} (hR : rw_is S a n) {b : Nat} (hB : rw_is S b n) (hab : a ≠ b) (hd : 2 ≤ d) : mm_Cv g zX5_become d [.ref a, .ref b] S I (mm_up (mm_cp I (b + 1) (a + 1) 0 0 n) a 1 (I b 1)) := by
  have h31 := hR.2.2.2
  have hc : b ≠ a + 1 := by
    intro h
    have h1 := hB.1.2
    rw [h, hR.2.2.1.2] at h1
    cases h1
  refine mm_begin (ls := [(0, .ref a), (1, .ref b)]) (Nat.le_of_ble_eq_true rfl) rfl rfl ?_
  refine mm_aload_n 0 dX5_become_0 rfl rfl ?_
  refine mm_getr (b := a + 1) dX5_become_1 rfl fk_X5_13 rfl hR.1 hR.2.1 ?_
  refine mm_alen dX5_become_4 hR.2.2.1 ?_
  refine mm_aload_n 1 dX5_become_5 rfl rfl ?_
  refine mm_getr (b := b + 1) dX5_become_6 rfl fk_X5_13 rfl hB.1 hB.2.1 ?_
  refine mm_alen dX5_become_9 hB.2.2.1 ?_
  refine mm_minN (n) (n) dX5_become_10 rfl ml_X5_31 jm_min (by omega) (by omega) (by omega) (Nat.le_of_ble_eq_true rfl) ⟨Nat.le_refl _, Nat.le_refl _⟩ ?_
  refine mm_istore_n (ls' := [(2, .int (nI (min (n) (n)))), (0, .ref a), (1, .ref b)]) dX5_become_13 rfl (by decide) rfl ?_
  refine mm_at (pc' := 14) rfl ?_
  refine mm_aload_n 2 dX5_become_14 rfl rfl ?_
  refine mm_getr (b := b + 1) dX5_become_15 rfl fk_X5_13 rfl hB.1 hB.2.1 ?_
  refine mm_iconst (v := 0) dX5_become_18 rfl ?_
  refine mm_aload_n 1 dX5_become_19 rfl rfl ?_
  refine mm_getr (b := a + 1) dX5_become_20 rfl fk_X5_13 rfl hR.1 hR.2.1 ?_
  refine mm_iconst (v := 0) dX5_become_23 rfl ?_
  refine mm_iload_n 0 dX5_become_24 rfl rfl ?_
  refine mm_copyN (0) (0) (min (n) (n)) dX5_become_25 rfl ml_X5_34 (by omega) (Nat.le_of_ble_eq_true rfl) hB.2.2.1 hR.2.2.1 (by omega) (by omega) (by omega) (by omega) ?_
  refine mm_at (pc' := 28) rfl ?_
  refine mm_aload_n 1 dX5_become_28 rfl rfl ?_
  refine mm_aload_n 2 dX5_become_29 rfl rfl ?_
  refine mm_geti dX5_become_30 rfl fk_X5_19 rfl hB.1 ?_
  refine mm_top (v := I b 1) (if_neg hc) ?_
  refine mm_puti dX5_become_33 rfl fk_X5_19 rfl fv_5_1 hR.1 ?_
  refine mm_vret dX5_become_36 rfl ⟨Nat.le_refl _, Nat.le_refl _⟩ ?_
  exact ⟨rfl, rfl, by rw [Nat.min_self]⟩
set_option maxRecDepth 100000 in
set_option maxHeartbeats 4000000 in
theorem ct_take {g : mm_G} {S : mm_Sh} {I : mm_I} {a n d : Nat} (hR : rw_is S a n) {b n2 : Nat} (hB : rw_is S b n2) (p t m : Nat) (h1 : p + m ≤ n2) (h2 : t + m ≤ n) (hd : 2 ≤ d) : mm_Cv g zX5_take d [.ref a, .ref b, .int (nI p), .int (nI t), .int (nI m)] S I (mm_cp I (b + 1) (a + 1) p t m) := by
  have h31 := hR.2.2.2
  have h32 := hB.2.2.2
  refine mm_begin (ls := [(0, .ref a), (1, .ref b), (2, .int (nI (p))), (3, .int (nI (t))), (4, .int (nI (m)))]) (Nat.le_of_ble_eq_true rfl) rfl rfl ?_
  refine mm_iload_n 2 dX5_take_0 rfl rfl ?_
  refine mm_if_ltN (p) (tgt := 13) dX5_take_1 (by decide) (by omega) ?_
  refine mm_iload_n 3 dX5_take_4 rfl rfl ?_
  refine mm_if_ltN (t) (tgt := 13) dX5_take_5 (by decide) (by omega) ?_
  refine mm_iload 4 dX5_take_8 rfl ?_
  refine mm_if_geN (m) (tgt := 14) dX5_take_10 (by decide) (by omega) ?_
  refine mm_iload_n 2 dX5_take_14 rfl rfl ?_
  refine mm_aload_n 1 dX5_take_15 rfl rfl ?_
  refine mm_getr (b := b + 1) dX5_take_16 rfl fk_X5_13 rfl hB.1 hB.2.1 ?_
  refine mm_alen dX5_take_19 hB.2.2.1 ?_
  refine mm_iload 4 dX5_take_20 rfl ?_
  refine mm_isubN (n2) (m) dX5_take_22 (by omega) ?_
  refine mm_icmp_gtN (p) (n2 - m) (tgt := 53) dX5_take_23 (by decide) (by omega) (by omega) (fun c23 => ?_) (fun c23 => ?_)
  · refine mm_vret dX5_take_53 rfl ⟨Nat.le_refl _, Nat.le_refl _⟩ ?_
    first | (exfalso; omega) | exact ⟨rfl, rfl, rfl⟩
  · refine mm_iload_n 3 dX5_take_26 rfl rfl ?_
    refine mm_aload_n 0 dX5_take_27 rfl rfl ?_
    refine mm_getr (b := a + 1) dX5_take_28 rfl fk_X5_13 rfl hR.1 hR.2.1 ?_
    refine mm_alen dX5_take_31 hR.2.2.1 ?_
    refine mm_iload 4 dX5_take_32 rfl ?_
    refine mm_isubN (n) (m) dX5_take_34 (by omega) ?_
    refine mm_icmp_gtN (t) (n - m) (tgt := 53) dX5_take_35 (by decide) (by omega) (by omega) (fun c35 => ?_) (fun c35 => ?_)
    · refine mm_vret dX5_take_53 rfl ⟨Nat.le_refl _, Nat.le_refl _⟩ ?_
      first | (exfalso; omega) | exact ⟨rfl, rfl, rfl⟩
    · refine mm_aload_n 1 dX5_take_38 rfl rfl ?_
      refine mm_getr (b := b + 1) dX5_take_39 rfl fk_X5_13 rfl hB.1 hB.2.1 ?_
      refine mm_iload_n 2 dX5_take_42 rfl rfl ?_
      refine mm_aload_n 0 dX5_take_43 rfl rfl ?_
      refine mm_getr (b := a + 1) dX5_take_44 rfl fk_X5_13 rfl hR.1 hR.2.1 ?_
      refine mm_iload_n 3 dX5_take_47 rfl rfl ?_
      refine mm_iload 4 dX5_take_48 rfl ?_
      refine mm_at (pc' := 50) rfl ?_
      refine mm_copyN (p) (t) (m) dX5_take_50 rfl ml_X5_34 (by omega) (Nat.le_of_ble_eq_true rfl) hB.2.2.1 hR.2.2.1 (by omega) (by omega) (by omega) (by omega) ?_
      refine mm_vret dX5_take_53 rfl ⟨Nat.le_refl _, Nat.le_refl _⟩ ?_
      first | (exfalso; omega) | exact ⟨rfl, rfl, rfl⟩
set_option maxRecDepth 100000 in
set_option maxHeartbeats 4000000 in
theorem lp_alike {g : mm_G} {S : mm_Sh} {I : mm_I} {a n d : Nat} (hR : rw_is S a n) {Q : Option Value → mm_Sh → mm_I → Prop} {b n2 : Nat} (hB : rw_is S b n2) {u : Nat} (hu : u ≤ n) (hu2 : u ≤ n2) (hq : Q (some (.int (nI (rw_al (I (a + 1)) (I (b + 1)) u 0)))) S I) (hd : 1 ≤ d) : ∀ (m : Nat) (i : Nat), (i ≤ u) → (rw_al (I (a + 1)) (I (b + 1)) u 0 = rw_al (I (a + 1)) (I (b + 1)) (u - i) i) → u - i < m → mm_Ex g zX5_alike d (0, 0) (0, 0) S (I) 14 [(3, .int (nI (i))), (2, .int (nI (u))), (0, .ref a), (1, .ref b)] [] Q := by
  have h31 := hR.2.2.2
  have h32 := hB.2.2.2
  intro m
  induction m with
  | zero => intro i hi he hm; exact absurd hm (Nat.not_lt_zero _)
  | succ m ih =>
    intro i hi he hm
    refine mm_iload_n 0 dX5_alike_14 rfl rfl ?_
    refine mm_iload_n 1 dX5_alike_15 rfl rfl ?_
    refine mm_icmp_geN (i) (u) (tgt := 40) dX5_alike_16 (by decide) (by omega) (by omega) (fun c16 => ?_) (fun c16 => ?_)
    · refine mm_iload_n 1 dX5_alike_40 rfl rfl ?_
      refine mm_iret dX5_alike_41 rfl ⟨Nat.le_refl _, Nat.le_refl _⟩ ?_
      rw [he] at hq
      first | (rw [show u - i = 0 by omega] at hq; exact (show i = u by omega) ▸ hq) | (rw [show u - i = (u - (i + 1)) + 1 by omega, rw_al, if_neg c29] at hq; exact hq)
    · refine mm_aload_n 2 dX5_alike_19 rfl rfl ?_
      refine mm_iload_n 0 dX5_alike_20 rfl rfl ?_
      refine mm_cV1i (dz := d - 1) dX5_alike_21 rfl mzX5_at ml_X5_23 imX5_at (by omega) hR.1 ⟨rfl, rfl⟩ (ct_at hR (i) (by omega)) (Nat.le_of_ble_eq_true rfl) ⟨Nat.le_refl _, Nat.le_refl _⟩ ?_
      refine mm_aload_n 3 dX5_alike_24 rfl rfl ?_
      refine mm_iload_n 0 dX5_alike_25 rfl rfl ?_
      refine mm_cV1i (dz := d - 1) dX5_alike_26 rfl mzX5_at ml_X5_23 imX5_at (by omega) hB.1 ⟨rfl, rfl⟩ (ct_at hB (i) (by omega)) (Nat.le_of_ble_eq_true rfl) ⟨Nat.le_refl _, Nat.le_refl _⟩ ?_
      refine mm_icmp_eq (tgt := 34) dX5_alike_29 (by decide) (fun c29 => ?_) (fun c29 => ?_)
      · refine mm_iincN (ls' := [(3, .int (nI (i + 1))), (2, .int (nI (u))), (0, .ref a), (1, .ref b)]) 0 (i) 1 dX5_alike_34 rfl rfl (by decide) rfl ?_
        refine mm_goto (tgt := 14) dX5_alike_37 (by decide) ?_
        exact mm_sub [0, 1, 2, 3] rfl (ih (i + 1) (by omega) (by rw [he, show u - i = (u - (i + 1)) + 1 by omega, rw_al, if_pos c29]) (by omega))
      · refine mm_iload_n 0 dX5_alike_32 rfl rfl ?_
        refine mm_iret dX5_alike_33 rfl ⟨Nat.le_refl _, Nat.le_refl _⟩ ?_
        rw [he] at hq
        first | (rw [show u - i = 0 by omega] at hq; exact (show i = u by omega) ▸ hq) | (rw [show u - i = (u - (i + 1)) + 1 by omega, rw_al, if_neg c29] at hq; exact hq)
set_option maxRecDepth 100000 in
set_option maxHeartbeats 4000000 in
theorem ct_alike {g : mm_G} {S : mm_Sh} {I : mm_I} {a n d : Nat} (hR : rw_is S a n) {b n2 : Nat} (hB : rw_is S b n2) (u w : Nat) (hu : I a 1 = nI u) (hw : I b 1 = nI w) (hun : u ≤ n) (hwn : w ≤ n2) (hd : 1 ≤ d) : mm_Ci g zX5_alike d [.ref a, .ref b] S I (nI (rw_al (I (a + 1)) (I (b + 1)) (min u w) 0)) I := by
  have h31 := hR.2.2.2
  have h32 := hB.2.2.2
  refine mm_begin (ls := [(0, .ref a), (1, .ref b)]) (Nat.le_of_ble_eq_true rfl) rfl rfl ?_
  refine mm_aload_n 0 dX5_alike_0 rfl rfl ?_
  refine mm_geti dX5_alike_1 rfl fk_X5_19 rfl hR.1 ?_
  refine mm_top (v := nI (u)) hu ?_
  refine mm_aload_n 1 dX5_alike_4 rfl rfl ?_
  refine mm_geti dX5_alike_5 rfl fk_X5_19 rfl hB.1 ?_
  refine mm_top (v := nI (w)) hw ?_
  refine mm_minN (u) (w) dX5_alike_8 rfl ml_X5_31 jm_min (by omega) (by omega) (by omega) (Nat.le_of_ble_eq_true rfl) ⟨Nat.le_refl _, Nat.le_refl _⟩ ?_
  refine mm_istore_n (ls' := [(2, .int (nI (min (u) (w)))), (0, .ref a), (1, .ref b)]) dX5_alike_11 rfl (by decide) rfl ?_
  refine mm_iconst (v := 0) dX5_alike_12 rfl ?_
  refine mm_istore_n (ls' := [(3, .int (0)), (2, .int (nI (min (u) (w)))), (0, .ref a), (1, .ref b)]) dX5_alike_13 rfl (by decide) rfl ?_
  refine mm_at (pc' := 14) rfl ?_
  exact lp_alike hR hB (u := min u w) (by omega) (by omega) ⟨rfl, rfl, rfl⟩ (by omega) (min u w + 1) 0 (Nat.zero_le _) rfl (by omega)
