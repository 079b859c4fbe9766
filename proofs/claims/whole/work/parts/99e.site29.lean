/-! THE CLASS: LOADS are paid -/
theorem bit_ab {o : Int32} {i : Nat} (h : i < 8) : (o &&& ((1 : Int32) <<< (nI i &&& 31)) = 0) ↔ ((o >>> (nI i &&& 31)) &&& 1 = 0) := by
  rw [bit_a h, bit_b h]
  cases o.toBitVec.getLsbD i <;> simp
theorem hb_c {N M : Nat → Int32} {o : Int32} : ∀ l, (∀ i, i < l → N (598 + i) = M (598 + i)) → sp_hb N o l = sp_hb M o l := by
  intro l
  induction l with
  | zero => intro _; rfl
  | succ l ih => intro h; unfold sp_hb; rw [ih (fun i hi => h i (by omega)), h l (by omega)]
theorem pb_c {N M : Nat → Int32} {o : Int32} : ∀ l, (∀ i, i < l → N (590 + i) = M (590 + i)) → sp_pb N o l = sp_pb M o l := by
  intro l
  induction l with
  | zero => intro _; rfl
  | succ l ih => intro h; unfold sp_pb; rw [ih (fun i hi => h i (by omega)), h l (by omega)]
theorem pw_d_lt {N : Nat → Int32} {l : Nat} (hl : l ≤ 8) {b : Nat} (hb : N 4 = nI b) (hb31 : b < 2 ^ 31) : ∀ k, pw_d N l k < 256 ∧ (N 4 < sp_pb N (nI (pw_d N l k)) l → ∃ x, x < l ∧ pw_l N (pw_d N l k) l = nI x) := by
  have key : ∀ D, D < 256 → N 4 < sp_pb N (nI D) l → ∃ x, x < l ∧ pw_l N D l = nI x := by
    intro D hD h
    rcases pw_l_in (N := N) (D := D) l with ⟨-, q⟩ | ⟨x, h1, h2, -⟩
    · exfalso
      rw [pw_full l (pw_full2 l q), hb] at h
      exact absurd h (nI_pos hb31)
    · exact ⟨x, h1, h2⟩
  intro k
  induction k with
  | zero => exact ⟨by show 0 < 256; omega, key 0 (by omega)⟩
  | succ k ih =>
    have h1 : pw_d N l (k + 1) < 256 := by
      unfold pw_d
      by_cases c : N 4 < sp_pb N (nI (pw_d N l k)) l
      · obtain ⟨x, hx, ex⟩ := ih.2 c
        rw [if_pos c, ex, vv_nI (by omega)]
        exact pw_lt ih.1 (by omega)
      · rw [if_neg c]; exact ih.1
    exact ⟨h1, key _ h1⟩
set_option maxRecDepth 100000 in
set_option maxHeartbeats 600000 in
theorem dk_lh {g : mm_G} {d : Nat} {w h n l k o r : Nat} {A : mm_I} {N : Nat → Int32} (hz : zOK (w * h) n l k o r) (hW : mo_W N w h) {Q : Option Value → mm_Sh → mm_I → Prop} {D : Nat} (hd : 2 ≤ d) (hx : mm_Ex g zX3_leastHarmful d (0, 0) (0, 0) sh_S (cN (w * h) n l k o r A N) 63 [(2, .int (pw_l N D l)), (0, .ref 17), (1, .int (nI D))] [] Q) : ∀ (m : Nat) (i : Nat), (i ≤ l) → l - i < m → mm_Ex g zX3_leastHarmful d (0, 0) (0, 0) sh_S (cN (w * h) n l k o r A N) 4 [(3, .int (nI i)), (2, .int (pw_l N D i)), (0, .ref 17), (1, .int (nI D))] [] Q := by
  obtain ⟨hz1, hz2, hz3, hz4, hz5, hz6⟩ := id hz
  have hc := mo_W_c hW
  obtain ⟨-, -, hw1, hw2, hh1, hh2⟩ := id hW
  intro m
  induction m with
  | zero => intro i hi hmz; exact absurd hmz (Nat.not_lt_zero _)
  | succ m ih =>
    intro i hi hmz
    rcases pw_l_in (N := N) (D := D) i with ⟨eb, -⟩ | ⟨b, hb, eb, -⟩
    · have step : pw_l N D (i + 1) = if ((nI D >>> (nI i &&& 31)) &&& 1 = 0) ∧ (pw_l N D i < 0 ∨ N (598 + i) < N (598 + vv (pw_l N D i))) then nI i else pw_l N D i := rfl
      rw [eb] at step ⊢
      refine mm_iload_n 0 dX3_leastHarmful_4 rfl rfl ?_
      refine mm_aload_n 2 dX3_leastHarmful_5 rfl rfl ?_
      refine mm_cV0i (dz := d - 1) dX3_leastHarmful_6 rfl mzX3_loads ml_X3_63 imX3_loads (by omega) so_17 ⟨rfl, rfl⟩ (cg_loads hz hW (by omega)) (Nat.le_of_ble_eq_true rfl) ⟨Nat.le_refl _, Nat.le_refl _⟩ ?_
      refine mm_icmp_geN (i) (l) (tgt := 63) dX3_leastHarmful_9 (by decide) (by omega) (by omega) (fun c9 => ?_) (fun c9 => ?_)
      · have e : i = l := by omega
        subst e; rw [eb] at hx; exact mm_sub [1, 2, 3] rfl hx
      · refine mm_iload_n 3 dX3_leastHarmful_12 rfl rfl ?_
        refine mm_iconst (v := 1) dX3_leastHarmful_13 rfl ?_
        refine mm_iload_n 0 dX3_leastHarmful_14 rfl rfl ?_
        refine mm_ishl dX3_leastHarmful_15 ?_
        refine mm_iand dX3_leastHarmful_16 ?_
        have K17 : mm_Ex g zX3_leastHarmful d (0, 0) (0, 0) sh_S (cN (w * h) n l k o r A N) 25 [(3, .int (nI (i))), (2, .int (-1)), (0, .ref 17), (1, .int (nI (D)))] [.int (if ((nI (D)) &&& ((1) <<< ((nI (i)) &&& 31))) = 0 then 1 else 0)] Q := by
          refine mm_istore (ls' := [(4, .int (if ((nI (D)) &&& ((1) <<< ((nI (i)) &&& 31))) = 0 then 1 else 0)), (3, .int (nI (i))), (2, .int (-1)), (0, .ref 17), (1, .int (nI (D)))]) dX3_leastHarmful_25 (by decide) rfl ?_
          refine mm_iload 0 dX3_leastHarmful_27 rfl ?_
          refine mm_if_eqB (tgt := 57) dX3_leastHarmful_29 (by decide) (fun c29 => ?_) (fun c29 => ?_)
          · refine mm_iincN (ls' := [(3, .int (nI (i + 1))), (4, .int (if ((nI (D)) &&& ((1) <<< ((nI (i)) &&& 31))) = 0 then 1 else 0)), (2, .int (-1)), (0, .ref 17), (1, .int (nI (D)))]) 1 (i) 1 dX3_leastHarmful_57 rfl rfl (by decide) rfl ?_
            refine mm_goto (tgt := 4) dX3_leastHarmful_60 (by decide) ?_
            have hh := ih (i + 1) (by omega) (by omega)
            rw [step, if_neg (by rintro ⟨q1, q2⟩; first | exact c29 ((bit_ab (by omega)).mpr q1) | (rcases q2 with q2 | q2; exact absurd q2 (nI_pos (by omega)); rw [vv_nI (by omega)] at q2; first | exact absurd q2 (Int32.not_lt.mpr c52) | exact absurd q2 c52))] at hh
            exact mm_sub [0, 2, 3, 4] rfl hh
          · refine mm_iload_n 2 dX3_leastHarmful_32 rfl rfl ?_
            refine mm_if_lt (tgt := 55) dX3_leastHarmful_33 (by decide) (fun _ => ?_) (fun q => absurd (by decide) q)
            refine mm_iload_n 1 dX3_leastHarmful_55 rfl rfl ?_
            refine mm_istore_n (ls' := [(2, .int (nI (i))), (4, .int (if ((nI (D)) &&& ((1) <<< ((nI (i)) &&& 31))) = 0 then 1 else 0)), (3, .int (nI (i))), (0, .ref 17), (1, .int (nI (D)))]) dX3_leastHarmful_56 rfl (by decide) rfl ?_
            refine mm_iincN (ls' := [(3, .int (nI (i + 1))), (2, .int (nI (i))), (4, .int (if ((nI (D)) &&& ((1) <<< ((nI (i)) &&& 31))) = 0 then 1 else 0)), (0, .ref 17), (1, .int (nI (D)))]) 2 (i) 1 dX3_leastHarmful_57 rfl rfl (by decide) rfl ?_
            refine mm_goto (tgt := 4) dX3_leastHarmful_60 (by decide) ?_
            have hh := ih (i + 1) (by omega) (by omega)
            rw [step, if_pos ⟨(bit_ab (by omega)).mp c29, by first | exact Or.inl (by decide) | exact Or.inr (by rw [vv_nI (by omega)]; first | exact c52 | exact Int32.not_le.mp c52)⟩] at hh
            exact mm_sub [0, 1, 3, 4] rfl hh
        refine mm_if_ne (tgt := 24) dX3_leastHarmful_17 (by decide) (fun c17 => ?_) (fun c17 => ?_)
        · refine mm_iconst (v := 0) dX3_leastHarmful_24 rfl ?_
          exact mm_top (by first | rfl | (simp [c17]; done) | (rw [if_pos (by simp_all)]; done) | (rw [if_neg (by simp_all)]; done) | (rw [if_pos (by omega)]; done) | (rw [if_neg (by omega)]; done)) K17
        · refine mm_iconst (v := 1) dX3_leastHarmful_20 rfl ?_
          refine mm_goto (tgt := 25) dX3_leastHarmful_21 (by decide) ?_
          exact mm_top (by first | rfl | (simp [c17]; done) | (rw [if_pos (by simp_all)]; done) | (rw [if_neg (by simp_all)]; done) | (rw [if_pos (by omega)]; done) | (rw [if_neg (by omega)]; done)) K17
    · have step : pw_l N D (i + 1) = if ((nI D >>> (nI i &&& 31)) &&& 1 = 0) ∧ (pw_l N D i < 0 ∨ N (598 + i) < N (598 + vv (pw_l N D i))) then nI i else pw_l N D i := rfl
      rw [eb] at step ⊢
      refine mm_iload_n 0 dX3_leastHarmful_4 rfl rfl ?_
      refine mm_aload_n 2 dX3_leastHarmful_5 rfl rfl ?_
      refine mm_cV0i (dz := d - 1) dX3_leastHarmful_6 rfl mzX3_loads ml_X3_63 imX3_loads (by omega) so_17 ⟨rfl, rfl⟩ (cg_loads hz hW (by omega)) (Nat.le_of_ble_eq_true rfl) ⟨Nat.le_refl _, Nat.le_refl _⟩ ?_
      refine mm_icmp_geN (i) (l) (tgt := 63) dX3_leastHarmful_9 (by decide) (by omega) (by omega) (fun c9 => ?_) (fun c9 => ?_)
      · have e : i = l := by omega
        subst e; rw [eb] at hx; exact mm_sub [1, 2, 3] rfl hx
      · refine mm_iload_n 3 dX3_leastHarmful_12 rfl rfl ?_
        refine mm_iconst (v := 1) dX3_leastHarmful_13 rfl ?_
        refine mm_iload_n 0 dX3_leastHarmful_14 rfl rfl ?_
        refine mm_ishl dX3_leastHarmful_15 ?_
        refine mm_iand dX3_leastHarmful_16 ?_
        have K17 : mm_Ex g zX3_leastHarmful d (0, 0) (0, 0) sh_S (cN (w * h) n l k o r A N) 25 [(3, .int (nI (i))), (2, .int (nI (b))), (0, .ref 17), (1, .int (nI (D)))] [.int (if ((nI (D)) &&& ((1) <<< ((nI (i)) &&& 31))) = 0 then 1 else 0)] Q := by
          refine mm_istore (ls' := [(4, .int (if ((nI (D)) &&& ((1) <<< ((nI (i)) &&& 31))) = 0 then 1 else 0)), (3, .int (nI (i))), (2, .int (nI (b))), (0, .ref 17), (1, .int (nI (D)))]) dX3_leastHarmful_25 (by decide) rfl ?_
          refine mm_iload 0 dX3_leastHarmful_27 rfl ?_
          refine mm_if_eqB (tgt := 57) dX3_leastHarmful_29 (by decide) (fun c29 => ?_) (fun c29 => ?_)
          · refine mm_iincN (ls' := [(3, .int (nI (i + 1))), (4, .int (if ((nI (D)) &&& ((1) <<< ((nI (i)) &&& 31))) = 0 then 1 else 0)), (2, .int (nI (b))), (0, .ref 17), (1, .int (nI (D)))]) 1 (i) 1 dX3_leastHarmful_57 rfl rfl (by decide) rfl ?_
            refine mm_goto (tgt := 4) dX3_leastHarmful_60 (by decide) ?_
            have hh := ih (i + 1) (by omega) (by omega)
            rw [step, if_neg (by rintro ⟨q1, q2⟩; first | exact c29 ((bit_ab (by omega)).mpr q1) | (rcases q2 with q2 | q2; exact absurd q2 (nI_pos (by omega)); rw [vv_nI (by omega)] at q2; first | exact absurd q2 (Int32.not_lt.mpr c52) | exact absurd q2 c52))] at hh
            exact mm_sub [0, 2, 3, 4] rfl hh
          · refine mm_iload_n 2 dX3_leastHarmful_32 rfl rfl ?_
            refine mm_if_ltN (b) (tgt := 55) dX3_leastHarmful_33 (by decide) (by omega) ?_
            refine mm_aload_n 3 dX3_leastHarmful_36 rfl rfl ?_
            refine mm_getr (b := 20) dX3_leastHarmful_37 rfl fk_X3_20 rfl so_17 sr_17_9 ?_
            refine mm_iload_n 1 dX3_leastHarmful_40 rfl rfl ?_
            refine mm_cV1i (dz := d - 1) dX3_leastHarmful_41 rfl mzX5_at ml_X3_66 imX5_at (by omega) so_20 ⟨rfl, rfl⟩ (ct_at rw_20 (i) (by omega)) (Nat.le_of_ble_eq_true rfl) ⟨Nat.le_refl _, Nat.le_refl _⟩ ?_
            refine mm_top (v := N (598 + i)) (cN_r (lo_at21.trans (if_pos (by omega)))) ?_
            refine mm_aload_n 3 dX3_leastHarmful_44 rfl rfl ?_
            refine mm_at (pc' := 45) rfl ?_
            refine mm_getr (b := 20) dX3_leastHarmful_45 rfl fk_X3_20 rfl so_17 sr_17_9 ?_
            refine mm_iload_n 2 dX3_leastHarmful_48 rfl rfl ?_
            refine mm_cV1i (dz := d - 1) dX3_leastHarmful_49 rfl mzX5_at ml_X3_66 imX5_at (by omega) so_20 ⟨rfl, rfl⟩ (ct_at rw_20 (b) (by omega)) (Nat.le_of_ble_eq_true rfl) ⟨Nat.le_refl _, Nat.le_refl _⟩ ?_
            refine mm_top (v := N (598 + b)) (cN_r (lo_at21.trans (if_pos (by omega)))) ?_
            refine mm_icmp_ge (tgt := 57) dX3_leastHarmful_52 (by decide) (fun c52 => ?_) (fun c52 => ?_)
            · refine mm_iincN (ls' := [(3, .int (nI (i + 1))), (4, .int (if ((nI (D)) &&& ((1) <<< ((nI (i)) &&& 31))) = 0 then 1 else 0)), (2, .int (nI (b))), (0, .ref 17), (1, .int (nI (D)))]) 1 (i) 1 dX3_leastHarmful_57 rfl rfl (by decide) rfl ?_
              refine mm_goto (tgt := 4) dX3_leastHarmful_60 (by decide) ?_
              have hh := ih (i + 1) (by omega) (by omega)
              rw [step, if_neg (by rintro ⟨q1, q2⟩; first | exact c29 ((bit_ab (by omega)).mpr q1) | (rcases q2 with q2 | q2; exact absurd q2 (nI_pos (by omega)); rw [vv_nI (by omega)] at q2; first | exact absurd q2 (Int32.not_lt.mpr c52) | exact absurd q2 c52))] at hh
              exact mm_sub [0, 2, 3, 4] rfl hh
            · refine mm_iload_n 1 dX3_leastHarmful_55 rfl rfl ?_
              refine mm_istore_n (ls' := [(2, .int (nI (i))), (4, .int (if ((nI (D)) &&& ((1) <<< ((nI (i)) &&& 31))) = 0 then 1 else 0)), (3, .int (nI (i))), (0, .ref 17), (1, .int (nI (D)))]) dX3_leastHarmful_56 rfl (by decide) rfl ?_
              refine mm_iincN (ls' := [(3, .int (nI (i + 1))), (2, .int (nI (i))), (4, .int (if ((nI (D)) &&& ((1) <<< ((nI (i)) &&& 31))) = 0 then 1 else 0)), (0, .ref 17), (1, .int (nI (D)))]) 2 (i) 1 dX3_leastHarmful_57 rfl rfl (by decide) rfl ?_
              refine mm_goto (tgt := 4) dX3_leastHarmful_60 (by decide) ?_
              have hh := ih (i + 1) (by omega) (by omega)
              rw [step, if_pos ⟨(bit_ab (by omega)).mp c29, by first | exact Or.inl (by decide) | exact Or.inr (by rw [vv_nI (by omega)]; first | exact c52 | exact Int32.not_le.mp c52)⟩] at hh
              exact mm_sub [0, 1, 3, 4] rfl hh
        refine mm_if_ne (tgt := 24) dX3_leastHarmful_17 (by decide) (fun c17 => ?_) (fun c17 => ?_)
        · refine mm_iconst (v := 0) dX3_leastHarmful_24 rfl ?_
          exact mm_top (by first | rfl | (simp [c17]; done) | (rw [if_pos (by simp_all)]; done) | (rw [if_neg (by simp_all)]; done) | (rw [if_pos (by omega)]; done) | (rw [if_neg (by omega)]; done)) K17
        · refine mm_iconst (v := 1) dX3_leastHarmful_20 rfl ?_
          refine mm_goto (tgt := 25) dX3_leastHarmful_21 (by decide) ?_
          exact mm_top (by first | rfl | (simp [c17]; done) | (rw [if_pos (by simp_all)]; done) | (rw [if_neg (by simp_all)]; done) | (rw [if_pos (by omega)]; done) | (rw [if_neg (by omega)]; done)) K17
set_option maxRecDepth 100000 in
set_option maxHeartbeats 600000 in
theorem cg_lh {g : mm_G} {d : Nat} {w h n l k o r : Nat} {A : mm_I} {N : Nat → Int32} (hz : zOK (w * h) n l k o r) (hW : mo_W N w h) {D x : Nat} (hx : x < l) (ex : pw_l N D l = nI x) (hd : 2 ≤ d) : mm_Ci g zX3_leastHarmful d [.ref 17, .int (nI (D))] sh_S (cN (w * h) n l k o r A N) (nI x) (cN (w * h) n l k o r A N) := by
  obtain ⟨hz1, hz2, hz3, hz4, hz5, hz6⟩ := id hz
  have hc := mo_W_c hW
  obtain ⟨-, -, hw1, hw2, hh1, hh2⟩ := id hW
  refine mm_Ci_of (fun Q hq => ?_)
  refine mm_begin (ls := [(0, .ref 17), (1, .int (nI (D)))]) (Nat.le_of_ble_eq_true rfl) rfl rfl ?_
  refine mm_iconst (v := -1) dX3_leastHarmful_0 rfl ?_
  refine mm_istore_n (ls' := [(2, .int (-1)), (0, .ref 17), (1, .int (nI (D)))]) dX3_leastHarmful_1 rfl (by decide) rfl ?_
  refine mm_iconst (v := 0) dX3_leastHarmful_2 rfl ?_
  refine mm_istore_n (ls' := [(3, .int (0)), (2, .int (-1)), (0, .ref 17), (1, .int (nI (D)))]) dX3_leastHarmful_3 rfl (by decide) rfl ?_
  refine mm_sub [0, 1, 2, 3] rfl (dk_lh hz hW hd ?_ (l + 1) 0 (by omega) (by omega))
  rw [ex]
  refine mm_iconst (v := 0) dX3_leastHarmful_63 rfl ?_
  refine mm_iload_n 0 dX3_leastHarmful_64 rfl rfl ?_
  refine mm_maxN (0) (x) dX3_leastHarmful_65 rfl ml_X3_85 jm_max (by omega) (by omega) (by omega) (Nat.le_of_ble_eq_true rfl) ⟨Nat.le_refl _, Nat.le_refl _⟩ ?_
  refine mm_iret dX3_leastHarmful_68 rfl ⟨Nat.le_refl _, Nat.le_refl _⟩ ?_
  rw [show max 0 x = x by omega] ; exact hq
set_option maxRecDepth 100000 in
set_option maxHeartbeats 600000 in
theorem dk_pl {g : mm_G} {d : Nat} {w h n l k o r : Nat} {A : mm_I} {N : Nat → Int32} (hz : zOK (w * h) n l k o r) (hW : mo_W N w h) {Q : Option Value → mm_Sh → mm_I → Prop} {b : Nat} (hb : N 4 = nI b) (hb31 : b < 2 ^ 31) (hd : 3 ≤ d) (hx40 : mm_Ex g zX3_payLoads d (0, 0) (0, 0) sh_S (cN (w * h) n l k o r A N) 40 [(1, .int (nI (pw_d N l l))), (0, .ref 17)] [] Q) : ∀ (m : Nat) (i : Nat), (i ≤ l) → l - i < m → mm_Ex g zX3_payLoads d (0, 0) (0, 0) sh_S (cN (w * h) n l k o r A N) 4 [(2, .int (nI (i))), (1, .int (nI (pw_d N l i))), (0, .ref 17)] [] Q := by
  obtain ⟨hz1, hz2, hz3, hz4, hz5, hz6⟩ := id hz
  have hc := mo_W_c hW
  obtain ⟨-, -, hw1, hw2, hh1, hh2⟩ := id hW
  intro m
  induction m with
  | zero => intro i hi hmz; exact absurd hmz (Nat.not_lt_zero _)
  | succ m ih =>
    intro i hi hmz
    have hdl := (pw_d_lt hz3 hb hb31 i).1
    refine mm_iload_n 0 dX3_payLoads_4 rfl rfl ?_
    refine mm_aload_n 2 dX3_payLoads_5 rfl rfl ?_
    refine mm_cV0i (dz := d - 1) dX3_payLoads_6 rfl mzX3_loads ml_X3_63 imX3_loads (by omega) so_17 ⟨rfl, rfl⟩ (cg_loads hz hW (by omega)) (Nat.le_of_ble_eq_true rfl) ⟨Nat.le_refl _, Nat.le_refl _⟩ ?_
    refine mm_icmp_geN (i) (l) (tgt := 40) dX3_payLoads_9 (by decide) (by omega) (by omega) (fun c9 => ?_) (fun c9 => ?_)
    · rw [show pw_d N l l = pw_d N l i by first | (rw [show i = l by omega]; done) | exact pw_d_s (by first | exact Int32.not_lt.mpr c21 | exact c21) hi] at hx40
      exact mm_sub [1, 2] rfl hx40
    · refine mm_aload_n 2 dX3_payLoads_12 rfl rfl ?_
      refine mm_iload_n 1 dX3_payLoads_13 rfl rfl ?_
      refine mm_cV1i (dz := d - 1) dX3_payLoads_14 rfl mzX3_taken ml_X3_76 imX3_taken (by omega) so_17 ⟨rfl, rfl⟩ (cg_pb hz hW (by omega)) (Nat.le_of_ble_eq_true rfl) ⟨Nat.le_refl _, Nat.le_refl _⟩ ?_
      refine mm_aload_n 2 dX3_payLoads_17 rfl rfl ?_
      refine mm_geti dX3_payLoads_18 rfl fk_X3_33 rfl so_17 ?_
      refine mm_top (v := N 4) (cN_r (lo_at17.trans rfl)) ?_
      refine mm_icmp_le (tgt := 40) dX3_payLoads_21 (by decide) (fun c21 => ?_) (fun c21 => ?_)
      · rw [show pw_d N l l = pw_d N l i by first | (rw [show i = l by omega]; done) | exact pw_d_s (by first | exact Int32.not_lt.mpr c21 | exact c21) hi] at hx40
        exact mm_sub [1, 2] rfl hx40
      · obtain ⟨x, hx, ex⟩ := (pw_d_lt hz3 hb hb31 i).2 (by first | exact c21 | exact Int32.not_le.mp c21)
        refine mm_iload_n 1 dX3_payLoads_24 rfl rfl ?_
        refine mm_iconst (v := 1) dX3_payLoads_25 rfl ?_
        refine mm_aload_n 2 dX3_payLoads_26 rfl rfl ?_
        refine mm_iload_n 1 dX3_payLoads_27 rfl rfl ?_
        refine mm_cV1i (dz := d - 1) dX3_payLoads_28 rfl mzX3_leastHarmful ml_X3_79 imX3_leastHarmful (by omega) so_17 ⟨rfl, rfl⟩ (cg_lh hz hW (D := pw_d N l i) (x := x) hx ex (by omega)) (Nat.le_of_ble_eq_true rfl) ⟨Nat.le_refl _, Nat.le_refl _⟩ ?_
        refine mm_ishl dX3_payLoads_31 ?_
        refine mm_ior dX3_payLoads_32 ?_
        refine mm_at (pc' := 33) rfl ?_
        refine mm_top (v := nI (pw_d N l i ||| 2 ^ x)) (pw_or _ hdl x (by omega)) ?_
        refine mm_istore_n (ls' := [(1, .int (nI (pw_d N l i ||| 2 ^ x))), (2, .int (nI (i))), (0, .ref 17)]) dX3_payLoads_33 rfl (by decide) rfl ?_
        refine mm_iincN (ls' := [(2, .int (nI (i + 1))), (1, .int (nI (pw_d N l i ||| 2 ^ x))), (0, .ref 17)]) 1 (i) 1 dX3_payLoads_34 rfl rfl (by decide) rfl ?_
        refine mm_goto (tgt := 4) dX3_payLoads_37 (by decide) ?_
        have hh := ih (i + 1) (by omega) (by omega)
        rw [show pw_d N l (i + 1) = pw_d N l i ||| 2 ^ x by show (if N 4 < sp_pb N (nI (pw_d N l i)) l then _ else _) = _; rw [if_pos (by first | exact c21 | exact Int32.not_le.mp c21), ex, vv_nI (by omega)]] at hh
        exact mm_sub [0, 1, 2] rfl hh
set_option maxRecDepth 100000 in
set_option maxHeartbeats 600000 in
theorem cg_pl {g : mm_G} {d : Nat} {w h n l k o r : Nat} {A : mm_I} {N : Nat → Int32} (hz : zOK (w * h) n l k o r) (hW : mo_W N w h) {b : Nat} (hb : N 4 = nI b) (hb31 : b < 2 ^ 31) (hd : 3 ≤ d) : mm_Cv g zX3_payLoads d [.ref 17] sh_S (cN (w * h) n l k o r A N) (cN (w * h) n l k o r A (upd (upd (upd N 9 (nI (pw_d N l l))) 8 (N 8 + sp_hb N (nI (pw_d N l l)) l)) 4 (N 4 - sp_pb N (nI (pw_d N l l)) l))) := by
  obtain ⟨hz1, hz2, hz3, hz4, hz5, hz6⟩ := id hz
  have hc := mo_W_c hW
  obtain ⟨-, -, hw1, hw2, hh1, hh2⟩ := id hW
  have hdl := (pw_d_lt hz3 hb hb31 l).1
  have hW1 : mo_W (upd N 9 (nI (pw_d N l l))) w h := ⟨hW.1, hW.2.1, hW.2.2⟩
  have hW2 : mo_W (upd (upd N 9 (nI (pw_d N l l))) 8 (N 8 + sp_hb N (nI (pw_d N l l)) l)) w h := ⟨hW.1, hW.2.1, hW.2.2⟩
  refine mm_Cv_of (fun Q hq => ?_)
  refine mm_begin (ls := [(0, .ref 17)]) (Nat.le_of_ble_eq_true rfl) rfl rfl ?_
  refine mm_iconst (v := 0) dX3_payLoads_0 rfl ?_
  refine mm_istore_n (ls' := [(1, .int (0)), (0, .ref 17)]) dX3_payLoads_1 rfl (by decide) rfl ?_
  refine mm_iconst (v := 0) dX3_payLoads_2 rfl ?_
  refine mm_istore_n (ls' := [(2, .int (0)), (1, .int (0)), (0, .ref 17)]) dX3_payLoads_3 rfl (by decide) rfl ?_
  refine mm_sub [0, 1, 2] rfl (dk_pl hz hW hb hb31 hd ?_ (l + 1) 0 (by omega) (by omega))
  refine mm_aload_n 1 dX3_payLoads_40 rfl rfl ?_
  refine mm_iload_n 0 dX3_payLoads_41 rfl rfl ?_
  refine mm_puti dX3_payLoads_42 rfl fk_X3_45 rfl fv_3_7 so_17 ?_
  refine mm_mem (J := cN (w * h) n l k o r A (upd N 9 (nI (pw_d N l l)))) (cN_up hz (x := 9) (lo_at17.trans rfl) (sn_up (by omega) hz.1)) ?_
  refine mm_aload_n 1 dX3_payLoads_45 rfl rfl ?_
  refine mm_dup dX3_payLoads_46 rfl ?_
  refine mm_geti dX3_payLoads_47 rfl fk_X3_42 rfl so_17 ?_
  refine mm_top (v := N 8) (cN_r (x := 8) (lo_at17.trans rfl)) ?_
  refine mm_aload_n 1 dX3_payLoads_50 rfl rfl ?_
  refine mm_iload_n 0 dX3_payLoads_51 rfl rfl ?_
  refine mm_at (pc' := 52) rfl ?_
  refine mm_cV1i (dz := d - 1) dX3_payLoads_52 rfl mzX3_harmOf ml_X3_82 imX3_harmOf (by omega) so_17 ⟨rfl, rfl⟩ (show mm_Ci g zX3_harmOf (d - 1) [.ref 17, .int (nI (pw_d N l l))] sh_S (cN (w * h) n l k o r A (upd N 9 (nI (pw_d N l l)))) (sp_hb N (nI (pw_d N l l)) l) (cN (w * h) n l k o r A (upd N 9 (nI (pw_d N l l)))) from hb_c (N := (upd N 9 (nI (pw_d N l l)))) (M := N) l (fun i hi => by unfold upd; rw [if_neg (by omega)]) ▸ cg_hb hz hW1 (by omega)) (Nat.le_of_ble_eq_true rfl) ⟨Nat.le_refl _, Nat.le_refl _⟩ ?_
  refine mm_iadd dX3_payLoads_55 ?_
  refine mm_puti dX3_payLoads_56 rfl fk_X3_42 rfl fv_3_6 so_17 ?_
  refine mm_mem (J := cN (w * h) n l k o r A (upd (upd N 9 (nI (pw_d N l l))) 8 (N 8 + sp_hb N (nI (pw_d N l l)) l))) (cN_up hz (x := 8) (lo_at17.trans rfl) (sn_up (by omega) hz.1)) ?_
  refine mm_aload_n 1 dX3_payLoads_59 rfl rfl ?_
  refine mm_dup dX3_payLoads_60 rfl ?_
  refine mm_geti dX3_payLoads_61 rfl fk_X3_33 rfl so_17 ?_
  refine mm_top (v := N 4) (cN_r (x := 4) (lo_at17.trans rfl)) ?_
  refine mm_aload_n 1 dX3_payLoads_64 rfl rfl ?_
  refine mm_iload_n 0 dX3_payLoads_65 rfl rfl ?_
  refine mm_at (pc' := 66) rfl ?_
  refine mm_cV1i (dz := d - 1) dX3_payLoads_66 rfl mzX3_taken ml_X3_76 imX3_taken (by omega) so_17 ⟨rfl, rfl⟩ (show mm_Ci g zX3_taken (d - 1) [.ref 17, .int (nI (pw_d N l l))] sh_S (cN (w * h) n l k o r A (upd (upd N 9 (nI (pw_d N l l))) 8 (N 8 + sp_hb N (nI (pw_d N l l)) l))) (sp_pb N (nI (pw_d N l l)) l) (cN (w * h) n l k o r A (upd (upd N 9 (nI (pw_d N l l))) 8 (N 8 + sp_hb N (nI (pw_d N l l)) l))) from pb_c (N := (upd (upd N 9 (nI (pw_d N l l))) 8 (N 8 + sp_hb N (nI (pw_d N l l)) l))) (M := N) l (fun i hi => by unfold upd; rw [if_neg (by omega), if_neg (by omega)]) ▸ cg_pb hz hW2 (by omega)) (Nat.le_of_ble_eq_true rfl) ⟨Nat.le_refl _, Nat.le_refl _⟩ ?_
  refine mm_isub dX3_payLoads_69 ?_
  refine mm_puti dX3_payLoads_70 rfl fk_X3_33 rfl fv_3_3 so_17 ?_
  refine mm_mem (J := cN (w * h) n l k o r A (upd (upd (upd N 9 (nI (pw_d N l l))) 8 (N 8 + sp_hb N (nI (pw_d N l l)) l)) 4 (N 4 - sp_pb N (nI (pw_d N l l)) l))) (cN_up hz (x := 4) (lo_at17.trans rfl) (sn_up (by omega) hz.1)) ?_
  refine mm_vret dX3_payLoads_73 rfl ⟨Nat.le_refl _, Nat.le_refl _⟩ ?_
  exact hq
