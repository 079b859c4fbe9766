/-! THE CLASS: its ground, THE MAP -/
theorem cN_ne10 {c n l k o r : Nat} (hz : zOK c n l k o r) {A : mm_I} {N N' : Nat → Int32} {x i : Nat} (h : ¬ x = 10) (hN : ∀ z, z < 270 ∨ 590 ≤ z → N' z = N z) : cN c n l k o r A N' x i = cN c n l k o r A N x i := by
  have hlo : lo_ c n l k o r (sn_ N') x i = lo_ c n l k o r (sn_ N) x i := by
    unfold lo_; simp only [if_neg h]
  show cJ N' (A x i) (lo_ c n l k o r (sn_ N') x i) _ = cJ N (A x i) (lo_ c n l k o r (sn_ N) x i) _
  rw [hlo]
  cases hl : lo_ c n l k o r (sn_ N) x i with
  | none => cases cn_ n l k o r x i <;> rfl
  | some z =>
    refine hN z ?_
    have hiv := lo_iv hz hl
    by_cases q : z < 270 ∨ 590 ≤ z
    · exact q
    · have := iv_10 (i := z - 270) (by omega)
      rw [show 270 + (z - 270) = z by omega, hiv] at this
      exact absurd (congrArg Prod.fst this) h
theorem up_10 {I : mm_I} {a i j : Nat} {v : Int32} : mm_up I 10 i v a j = if a = 10 ∧ j = i then v else I a j := by
  unfold mm_up
  by_cases e : a = 10
  · subst e
    by_cases e2 : j = i
    · rw [if_pos rfl, if_pos e2, if_pos ⟨rfl, e2⟩]
    · rw [if_pos rfl, if_neg e2, if_neg (fun q => e2 q.2)]
  · rw [if_neg e, if_neg (fun q => e q.1)]
def mp_ (N : Nat → Int32) (y : Nat) (a b e t : Int32) : Nat → Int32 := upd (upd (upd (upd N (270 + 4 * y) a) (270 + 4 * y + 1) b) (270 + 4 * y + 2) e) (270 + 4 * y + 3) t
theorem mp_at {N : Nat → Int32} {y z : Nat} {a b e t : Int32} : mp_ N y a b e t z = if z = 270 + 4 * y + 3 then t else if z = 270 + 4 * y + 2 then e else if z = 270 + 4 * y + 1 then b else if z = 270 + 4 * y then a else N z := rfl
theorem cN_learn {c n l k o r : Nat} (hz : zOK c n l k o r) {A : mm_I} {N : Nat → Int32} {y : Nat} {a b e t : Int32} (hy : y < c) (ht : 0 ≤ t) : mm_up (mm_up (mm_up (mm_up (cN c n l k o r A N) 10 (y * 4) a) 10 (y * 4 + 1) b) 10 (y * 4 + 2) e) 10 (y * 4 + 3) t = cN c n l k o r A (mp_ N y a b e t) := by
  have hz1 := hz.1
  funext x i
  rw [up_10, up_10, up_10, up_10]
  by_cases h : x = 10
  · subst h
    by_cases h2 : i / 4 = y
    · have hr : cN c n l k o r A (mp_ N y a b e t) 10 i = mp_ N y a b e t (270 + i) := cN_r (lo_at10.trans (if_pos ⟨by omega, Or.inl (by unfold sn_; rw [h2, mp_at, if_pos rfl]; exact decide_eq_true ht)⟩))
      rw [hr, mp_at]
      rcases show i = y * 4 + 3 ∨ i = y * 4 + 2 ∨ i = y * 4 + 1 ∨ i = y * 4 by omega with q | q | q | q
      · rw [if_pos ⟨rfl, q⟩, if_pos (by omega)]
      · rw [if_neg (by omega), if_pos ⟨rfl, q⟩, if_neg (by omega), if_pos (by omega)]
      · rw [if_neg (by omega), if_neg (by omega), if_pos ⟨rfl, q⟩, if_neg (by omega), if_neg (by omega), if_pos (by omega)]
      · rw [if_neg (by omega), if_neg (by omega), if_neg (by omega), if_pos ⟨rfl, q⟩, if_neg (by omega), if_neg (by omega), if_neg (by omega), if_pos (by omega)]
    · rw [if_neg (by omega), if_neg (by omega), if_neg (by omega), if_neg (by omega)]
      show cJ N (A 10 i) (lo_ c n l k o r (sn_ N) 10 i) _ = cJ (mp_ N y a b e t) (A 10 i) (lo_ c n l k o r (sn_ (mp_ N y a b e t)) 10 i) _
      have hs : sn_ (mp_ N y a b e t) (i / 4) = sn_ N (i / 4) := by
        unfold sn_; rw [mp_at, if_neg (by omega), if_neg (by omega), if_neg (by omega), if_neg (by omega)]
      rw [lo_at10, lo_at10, hs]
      by_cases q : i < 4 * c ∧ (sn_ N (i / 4) = true ∨ i % 4 = 3)
      · rw [if_pos q]
        show N (270 + i) = mp_ N y a b e t (270 + i)
        rw [mp_at, if_neg (by omega), if_neg (by omega), if_neg (by omega), if_neg (by omega)]
      · rw [if_neg q]; cases cn_ n l k o r 10 i <;> rfl
  · rw [if_neg (fun q => h q.1), if_neg (fun q => h q.1), if_neg (fun q => h q.1), if_neg (fun q => h q.1)]
    refine (cN_ne10 hz h (fun z hz2 => ?_)).symm
    rw [mp_at, if_neg (by omega), if_neg (by omega), if_neg (by omega), if_neg (by omega)]
theorem s_seen2 {c n l k o r : Nat} {A : mm_I} {N : Nat → Int32} {y j : Nat} (h : y < c) (hj : j < 4) (h2 : 0 ≤ N (270 + 4 * y + 3) ∨ j = 3) : cN c n l k o r A N 10 (y * 4 + j) = N (270 + 4 * y + j) := by
  rw [Nat.mul_comm y 4]; exact s_seen h hj h2
set_option maxRecDepth 100000 in
set_option maxHeartbeats 600000 in
theorem cg_known {g : mm_G} {d : Nat} {w h n l k o r : Nat} {A : mm_I} {N : Nat → Int32} (hz : zOK (w * h) n l k o r) (hW : mo_W N w h) {c j : Nat} (hcc : c < w * h) (hj : j < 4) (hd : 1 ≤ d) : mm_Ci g zX0_known d [.ref 2, .int (nI (c)), .int (nI (j))] sh_S (cN (w * h) n l k o r A N) (if N (270 + 4 * c + 3) < 0 then -1000000005 else N (270 + 4 * c + j)) (cN (w * h) n l k o r A N) := by
  obtain ⟨hz1, hz2, hz3, hz4, hz5, hz6⟩ := id hz
  have hc := mo_W_c hW
  obtain ⟨-, -, hw1, hw2, hh1, hh2⟩ := id hW
  refine mm_Ci_of (fun Q hq => ?_)
  refine mm_begin (ls := [(0, .ref 2), (1, .int (nI (c))), (2, .int (nI (j)))]) (Nat.le_of_ble_eq_true rfl) rfl rfl ?_
  refine mm_iload_n 1 dX0_known_0 rfl rfl ?_
  refine mm_iconst (v := 4) dX0_known_1 rfl ?_
  refine mm_imulN (c) (4) dX0_known_2 ?_
  refine mm_istore_n (ls' := [(3, .int (nI (c * 4))), (0, .ref 2), (1, .int (nI (c))), (2, .int (nI (j)))]) dX0_known_3 rfl (by decide) rfl ?_
  refine mm_aload_n 1 dX0_known_4 rfl rfl ?_
  refine mm_getr (b := 9) dX0_known_5 rfl fk_X0_26 rfl so_2 sr_2_5 ?_
  refine mm_iload_n 0 dX0_known_8 rfl rfl ?_
  refine mm_iconst (v := 3) dX0_known_9 rfl ?_
  refine mm_at (pc' := 10) rfl ?_
  refine mm_iaddN (c * 4) (3) dX0_known_10 ?_
  refine mm_cV1i (dz := d - 1) dX0_known_11 rfl mzX5_at ml_X0_73 imX5_at (by omega) so_9 ⟨rfl, rfl⟩ (ct_at rw_9 ((c * 4) + 3) (by omega)) (Nat.le_of_ble_eq_true rfl) ⟨Nat.le_refl _, Nat.le_refl _⟩ ?_
  refine mm_top (v := N (270 + 4 * c + 3)) (s_seen2 (by omega) (by omega) (by first | exact Or.inr rfl | exact Or.inl (by assumption))) ?_
  refine mm_if_ge (tgt := 22) dX0_known_14 (by decide) (fun c14 => ?_) (fun c14 => ?_)
  · refine mm_aload_n 1 dX0_known_22 rfl rfl ?_
    refine mm_getr (b := 9) dX0_known_23 rfl fk_X0_26 rfl so_2 sr_2_5 ?_
    refine mm_iload_n 0 dX0_known_26 rfl rfl ?_
    refine mm_iload_n 3 dX0_known_27 rfl rfl ?_
    refine mm_iaddN (c * 4) (j) dX0_known_28 ?_
    refine mm_cV1i (dz := d - 1) dX0_known_29 rfl mzX5_at ml_X0_73 imX5_at (by omega) so_9 ⟨rfl, rfl⟩ (ct_at rw_9 ((c * 4) + j) (by omega)) (Nat.le_of_ble_eq_true rfl) ⟨Nat.le_refl _, Nat.le_refl _⟩ ?_
    refine mm_top (v := N (270 + 4 * c + j)) (s_seen2 (by omega) (by omega) (by first | exact Or.inr rfl | exact Or.inl (by assumption))) ?_
    refine mm_iret dX0_known_32 rfl ⟨Nat.le_refl _, Nat.le_refl _⟩ ?_
    rw [if_neg (by first | exact c14 | exact Int32.not_lt.mpr c14 | exact Int32.not_le.mp c14)] at hq; exact hq
  · refine mm_ldc dX0_known_17 rfl kc_X0_115 ?_
    refine mm_goto (tgt := 32) dX0_known_19 (by decide) ?_
    refine mm_iret dX0_known_32 rfl ⟨Nat.le_refl _, Nat.le_refl _⟩ ?_
    rw [if_pos (by first | exact c14 | exact Int32.not_lt.mpr c14 | exact Int32.not_le.mp c14)] at hq; exact hq
set_option maxRecDepth 100000 in
set_option maxHeartbeats 600000 in
theorem cg_learn {g : mm_G} {d : Nat} {w h n l k o r : Nat} {A : mm_I} {N : Nat → Int32} (hz : zOK (w * h) n l k o r) (hW : mo_W N w h) {c : Nat} {kd du ic tk : Int32} (hcc : c < w * h) (ht : 0 ≤ tk) (hd : 1 ≤ d) : mm_Cv g zX0_learn d [.ref 2, .int (nI (c)), .int (kd), .int (du), .int (ic), .int (tk)] sh_S (cN (w * h) n l k o r A N) (cN (w * h) n l k o r A (mp_ N c kd du ic tk)) := by
  obtain ⟨hz1, hz2, hz3, hz4, hz5, hz6⟩ := id hz
  have hc := mo_W_c hW
  obtain ⟨-, -, hw1, hw2, hh1, hh2⟩ := id hW
  refine mm_Cv_of (fun Q hq => ?_)
  refine mm_begin (ls := [(0, .ref 2), (1, .int (nI (c))), (2, .int (kd)), (3, .int (du)), (4, .int (ic)), (5, .int (tk))]) (Nat.le_of_ble_eq_true rfl) rfl rfl ?_
  refine mm_iload_n 1 dX0_learn_0 rfl rfl ?_
  refine mm_iconst (v := 4) dX0_learn_1 rfl ?_
  refine mm_imulN (c) (4) dX0_learn_2 ?_
  refine mm_istore (ls' := [(6, .int (nI (c * 4))), (0, .ref 2), (1, .int (nI (c))), (2, .int (kd)), (3, .int (du)), (4, .int (ic)), (5, .int (tk))]) dX0_learn_3 (by decide) rfl ?_
  refine mm_aload_n 1 dX0_learn_5 rfl rfl ?_
  refine mm_getr (b := 9) dX0_learn_6 rfl fk_X0_26 rfl so_2 sr_2_5 ?_
  refine mm_iload 0 dX0_learn_9 rfl ?_
  refine mm_iload_n 3 dX0_learn_11 rfl rfl ?_
  refine mm_at (pc' := 12) rfl ?_
  refine mm_cV2v (dz := d - 1) dX0_learn_12 rfl mzX5_set ml_X0_56 imX5_set (by omega) so_9 ⟨rfl, rfl⟩ (ct_set rw_9 (c * 4) (by omega)) (Nat.le_of_ble_eq_true rfl) ⟨Nat.le_refl _, Nat.le_refl _⟩ ?_
  refine mm_aload_n 1 dX0_learn_15 rfl rfl ?_
  refine mm_getr (b := 9) dX0_learn_16 rfl fk_X0_26 rfl so_2 sr_2_5 ?_
  refine mm_iload 0 dX0_learn_19 rfl ?_
  refine mm_iconst (v := 1) dX0_learn_21 rfl ?_
  refine mm_iaddN (c * 4) (1) dX0_learn_22 ?_
  refine mm_iload_n 4 dX0_learn_23 rfl rfl ?_
  refine mm_cV2v (dz := d - 1) dX0_learn_24 rfl mzX5_set ml_X0_56 imX5_set (by omega) so_9 ⟨rfl, rfl⟩ (ct_set rw_9 ((c * 4) + 1) (by omega)) (Nat.le_of_ble_eq_true rfl) ⟨Nat.le_refl _, Nat.le_refl _⟩ ?_
  refine mm_at (pc' := 27) rfl ?_
  refine mm_aload_n 1 dX0_learn_27 rfl rfl ?_
  refine mm_getr (b := 9) dX0_learn_28 rfl fk_X0_26 rfl so_2 sr_2_5 ?_
  refine mm_iload 0 dX0_learn_31 rfl ?_
  refine mm_iconst (v := 2) dX0_learn_33 rfl ?_
  refine mm_iaddN (c * 4) (2) dX0_learn_34 ?_
  refine mm_iload 5 dX0_learn_35 rfl ?_
  refine mm_cV2v (dz := d - 1) dX0_learn_37 rfl mzX5_set ml_X0_56 imX5_set (by omega) so_9 ⟨rfl, rfl⟩ (ct_set rw_9 ((c * 4) + 2) (by omega)) (Nat.le_of_ble_eq_true rfl) ⟨Nat.le_refl _, Nat.le_refl _⟩ ?_
  refine mm_aload_n 1 dX0_learn_40 rfl rfl ?_
  refine mm_at (pc' := 41) rfl ?_
  refine mm_getr (b := 9) dX0_learn_41 rfl fk_X0_26 rfl so_2 sr_2_5 ?_
  refine mm_iload 0 dX0_learn_44 rfl ?_
  refine mm_iconst (v := 3) dX0_learn_46 rfl ?_
  refine mm_iaddN (c * 4) (3) dX0_learn_47 ?_
  refine mm_iload 6 dX0_learn_48 rfl ?_
  refine mm_cV2v (dz := d - 1) dX0_learn_50 rfl mzX5_set ml_X0_56 imX5_set (by omega) so_9 ⟨rfl, rfl⟩ (ct_set rw_9 ((c * 4) + 3) (by omega)) (Nat.le_of_ble_eq_true rfl) ⟨Nat.le_refl _, Nat.le_refl _⟩ ?_
  refine mm_vret dX0_learn_53 rfl ⟨Nat.le_refl _, Nat.le_refl _⟩ ?_
  rw [← cN_learn hz hcc ht] at hq; exact hq
