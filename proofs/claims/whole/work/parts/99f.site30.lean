/-! THE CLASS: the search for THE PLAN -/
theorem en_max {x : Int32} : (if -1 < x then x else -1) = if 0 ≤ x then x else -1 := by
  by_cases h : 0 ≤ x
  · rw [if_pos h, if_pos (Int32.lt_of_lt_of_le (by decide) h)]
  · rw [if_neg h, if_neg (fun q => h (by
      have q := Int32.lt_iff_toInt_lt.mp q
      refine Int32.le_iff_toInt_le.mpr ?_
      have e1 : (-1 : Int32).toInt = -1 := rfl
      have e2 : (0 : Int32).toInt = 0 := rfl
      omega))]
def wE (A : mm_I) (T up : Int32) (s : sk_S) (m : Nat) (r : Nat → Int32) : Prop := A 22 9 = nI s.1 ∧ s.1 ≤ 20000 ∧ A 22 10 = (if s.2.1 = true then 1 else 0) ∧ A 22 6 = s.2.2.1 ∧ (A 33 1 = nI s.2.2.2.1 ∧ s.2.2.2.1 ≤ 6 ∧ ∀ i, i < s.2.2.2.1 → A 34 i = s.2.2.2.2 i) ∧ (A 31 1 = nI m ∧ ∀ i, i < m → A 32 i = r i) ∧ A 22 7 = T ∧ A 22 8 = up
def wF (A B : mm_I) : Prop := ∀ a, ¬ (a = 22 ∨ (31 ≤ a ∧ a ≤ 34)) → B a = A a
theorem wF_r (A : mm_I) : wF A A := fun _ _ => rfl
theorem wF_t {A B C : mm_I} (h : wF A B) (h2 : wF B C) : wF A C := fun a ha => (h2 a ha).trans (h a ha)
theorem wF_u {A B : mm_I} (h : wF A B) {a i : Nat} {x : Int32} (ha : a = 22 ∨ (31 ≤ a ∧ a ≤ 34)) : wF A (mm_up B a i x) := fun b hb => by
  rw [mm_up_a (fun q => hb (by rw [q]; exact ha))]; exact h b hb
theorem wE_t {A : mm_I} {T up : Int32} {s : sk_S} {m : Nat} {r : Nat → Int32} {x : Int32} (h : wE A T up s m r) : wE (mm_up (mm_up (mm_up A 22 9 (nI (s.1 - 1))) 32 m x) 31 1 (nI (m + 1))) T up (s.1 - 1, s.2) (m + 1) (upd r m x) := by
  obtain ⟨h1, h2, h3, h4, ⟨h5, h6, h7⟩, ⟨h8, h9⟩, h10, h11⟩ := h
  refine ⟨rfl, by show s.1 - 1 ≤ 20000; omega, h3, h4, ⟨h5, h6, h7⟩, ⟨rfl, fun i hi => ?_⟩, h10, h11⟩
  rw [mm_up_ne (by decide)]
  unfold upd
  by_cases e : i = m
  · rw [if_pos e, e, mm_up_at]
  · rw [if_neg e, mm_up_ni e, mm_up_ne (by decide)]; exact h9 i (by omega)
theorem wE_m {A : mm_I} {T up : Int32} {s : sk_S} {m : Nat} {r : Nat → Int32} {x : Int32} (h : wE A T up s (m + 1) (upd r m x)) : wE (mm_up A 31 1 (nI m)) T up s m r := by
  obtain ⟨h1, h2, h3, h4, ⟨h5, h6, h7⟩, ⟨h8, h9⟩, h10, h11⟩ := h
  refine ⟨h1, h2, h3, h4, ⟨h5, h6, h7⟩, ⟨rfl, fun i hi => ?_⟩, h10, h11⟩
  rw [mm_up_ne (by decide), h9 i (by omega)]
  unfold upd; rw [if_neg (by omega)]
theorem wE_d {A : mm_I} {T up : Int32} {s : sk_S} {m : Nat} {r : Nat → Int32} (h : wE A T up s m r) : wE (mm_up A 22 9 (nI (s.1 - 1))) T up (s.1 - 1, s.2) m r := by
  obtain ⟨h1, h2, h3, h4, ⟨h5, h6, h7⟩, ⟨h8, h9⟩, h10, h11⟩ := h
  exact ⟨rfl, by show s.1 - 1 ≤ 20000; omega, h3, h4, ⟨h5, h6, h7⟩, ⟨h8, h9⟩, h10, h11⟩
theorem wE_s {A : mm_I} {T up : Int32} {s : sk_S} {m : Nat} {r : Nat → Int32} (h : wE A T up s m r) : wE (mm_up A 22 10 1) T up (s.1, true, s.2.2) m r := by
  obtain ⟨h1, h2, h3, h4, ⟨h5, h6, h7⟩, ⟨h8, h9⟩, h10, h11⟩ := h
  exact ⟨h1, h2, rfl, h4, ⟨h5, h6, h7⟩, ⟨h8, h9⟩, h10, h11⟩
theorem wE_w {A : mm_I} {T up : Int32} {s : sk_S} {m : Nat} {r : Nat → Int32} {x : Int32} (h : wE A T up s m r) (hm : m ≤ 6) : wE (mm_up (mm_cp (mm_up A 22 6 x) 32 34 0 0 6) 33 1 (A 31 1)) T up (s.1, s.2.1, x, m, r) m r := by
  obtain ⟨h1, h2, h3, h4, ⟨h5, h6, h7⟩, ⟨h8, h9⟩, h10, h11⟩ := h
  refine ⟨h1, h2, h3, rfl, ⟨h8, hm, fun i hi => ?_⟩, ⟨h8, h9⟩, h10, h11⟩
  have hi : i < m := hi
  rw [mm_up_ne (by decide)]
  show mm_cp (mm_up A 22 6 x) 32 34 0 0 6 34 i = r i
  unfold mm_cp
  rw [if_pos rfl, if_pos ⟨by omega, by omega⟩, mm_up_ne (by decide), show 0 + (i - 0) = i by omega]
  exact h9 i hi
theorem cN_do2 {c n l k o r : Nat} (hn : n ≤ 5) {A : mm_I} {N : Nat → Int32} {a b s d m : Nat} (ha : offC a) (hb : offC b) : mm_cp (cN c n l k o r A N) a b s d m = cN c n l k o r (mm_cp A a b s d m) N := by
  funext x i
  by_cases h : x = b
  · subst h
    rw [cN_off hn hb]
    unfold mm_cp
    rw [if_pos rfl, if_pos rfl]
    by_cases q : d ≤ i ∧ i < d + m
    · rw [if_pos q, if_pos q, cN_off hn ha]
    · rw [if_neg q, if_neg q, cN_off hn hb]
  · show mm_cp (cN c n l k o r A N) a b s d m x i = cJ N (mm_cp A a b s d m x i) _ _
    rw [mm_cp_ne h, mm_cp_ne h]; rfl
set_option maxRecDepth 100000 in
set_option maxHeartbeats 600000 in
theorem dk_li {g : mm_G} {I : mm_I} {d : Nat} {S : mm_Sh} {Q : Option Value → mm_Sh → mm_I → Prop} {b p c x : Int32} (hd : 1 ≤ d) (hq : Q (some (.int (sk_en b p c x))) S I) : ∀ (m : Nat) (i : Nat), (i ≤ vv x) → vv x - i < m → mm_Ex g zX10_live d (0, 0) (0, 0) S (I) 6 [(5, .int (nI (i))), (4, .int (sk_pd b p c i)), (0, .int (b)), (1, .int (p)), (2, .int (x)), (3, .int (c))] [] Q := by
  intro m
  induction m with
  | zero => intro i hi hmz; exact absurd hmz (Nat.not_lt_zero _)
  | succ m ih =>
    intro i hi hmz
    refine mm_iload 0 dX10_live_6 rfl ?_
    refine mm_iload_n 4 dX10_live_8 rfl rfl ?_
    refine mm_icmp_ge (tgt := 37) dX10_live_9 (by decide) (fun c9 => ?_) (fun c9 => ?_)
    · refine mm_iconst (v := -1) dX10_live_37 rfl ?_
      refine mm_iload 1 dX10_live_38 rfl ?_
      refine mm_max dX10_live_40 rfl ml_X10_116 jm_max (by omega) (Nat.le_of_ble_eq_true rfl) ⟨Nat.le_refl _, Nat.le_refl _⟩ ?_
      refine mm_iret dX10_live_43 rfl ⟨Nat.le_refl _, Nat.le_refl _⟩ ?_
      rw [en_max]
      exact mm_l1 (by unfold sk_en; first | rw [sk_pd_neg c14 hi] | rw [show vv x = i from Nat.le_antisymm (vv_ge (by have := vv_lt x; omega) c9) hi]) hq
    · refine mm_iload 1 dX10_live_12 rfl ?_
      refine mm_if_lt (tgt := 37) dX10_live_14 (by decide) (fun c14 => ?_) (fun c14 => ?_)
      · refine mm_iconst (v := -1) dX10_live_37 rfl ?_
        refine mm_iload 1 dX10_live_38 rfl ?_
        refine mm_max dX10_live_40 rfl ml_X10_116 jm_max (by omega) (Nat.le_of_ble_eq_true rfl) ⟨Nat.le_refl _, Nat.le_refl _⟩ ?_
        refine mm_iret dX10_live_43 rfl ⟨Nat.le_refl _, Nat.le_refl _⟩ ?_
        rw [en_max]
        exact mm_l1 (by unfold sk_en; first | rw [sk_pd_neg c14 hi] | rw [show vv x = i from Nat.le_antisymm (vv_ge (by have := vv_lt x; omega) c9) hi]) hq
      · refine mm_sipush (v := 9999) dX10_live_17 rfl ?_
        refine mm_iload 1 dX10_live_20 rfl ?_
        refine mm_iload_n 3 dX10_live_22 rfl rfl ?_
        refine mm_iadd dX10_live_23 ?_
        refine mm_min dX10_live_24 rfl ml_X10_110 jm_min (by omega) (Nat.le_of_ble_eq_true rfl) ⟨Nat.le_refl _, Nat.le_refl _⟩ ?_
        refine mm_iload_n 5 dX10_live_27 rfl rfl ?_
        refine mm_isub dX10_live_28 ?_
        refine mm_at (pc' := 29) rfl ?_
        refine mm_istore (ls' := [(4, .int ((if (sk_pd b p c i) + p < 9999 then (sk_pd b p c i) + p else 9999) - c)), (5, .int (nI (i))), (0, .int (b)), (1, .int (p)), (2, .int (x)), (3, .int (c))]) dX10_live_29 (by decide) rfl ?_
        refine mm_iincN (ls' := [(5, .int (nI (i + 1))), (4, .int ((if (sk_pd b p c i) + p < 9999 then (sk_pd b p c i) + p else 9999) - c)), (0, .int (b)), (1, .int (p)), (2, .int (x)), (3, .int (c))]) 1 (i) 1 dX10_live_31 rfl rfl (by decide) rfl ?_
        refine mm_goto (tgt := 6) dX10_live_34 (by decide) ?_
        have hv := vv_lt x
        have hi2 := (vv_gt c9).resolve_right (by omega)
        have hh := ih (i + 1) (by omega) (by omega)
        rw [sk_pd, if_neg c14] at hh
        exact mm_sub [0, 1, 2, 3, 4, 5] rfl hh
set_option maxRecDepth 100000 in
set_option maxHeartbeats 600000 in
theorem cg_live {g : mm_G} {S : mm_Sh} {I : mm_I} {d : Nat} {b p x c : Int32} (hd : 1 ≤ d) : mm_Ci g zX10_live d [.int b, .int p, .int x, .int c] S I (sk_en b p c x) I := by
  refine mm_Ci_of (fun Q hq => ?_)
  refine mm_begin (ls := [(0, .int (b)), (1, .int (p)), (2, .int (x)), (3, .int (c))]) (Nat.le_of_ble_eq_true rfl) rfl rfl ?_
  refine mm_iload_n 0 dX10_live_0 rfl rfl ?_
  refine mm_istore (ls' := [(4, .int (b)), (0, .int (b)), (1, .int (p)), (2, .int (x)), (3, .int (c))]) dX10_live_1 (by decide) rfl ?_
  refine mm_iconst (v := 0) dX10_live_3 rfl ?_
  refine mm_istore (ls' := [(5, .int (0)), (4, .int (b)), (0, .int (b)), (1, .int (p)), (2, .int (x)), (3, .int (c))]) dX10_live_4 (by decide) rfl ?_
  exact mm_sub [0, 1, 2, 3, 4, 5] rfl (dk_li hd hq (vv x + 1) 0 (Nat.zero_le _) (by omega))
set_option maxRecDepth 100000 in
set_option maxHeartbeats 600000 in
theorem cg_weigh {g : mm_G} {d : Nat} {w h n l k o r : Nat} {A : mm_I} {N : Nat → Int32} (hz : zOK (w * h) n l k o r) (hW : mo_W N w h) {T up : Int32} {s : sk_S} {m : Nat} {r_ : Nat → Int32} (hE : wE A T up s m r_) (hm6 : m ≤ 6) {t b p : Int32} (hd : 3 ≤ d) : mm_Dv g zX10_weigh d [.ref 22, .int (t), .int (b), .int (p)] sh_S (cN (w * h) n l k o r A N) (fun J => ∃ A2, J = cN (w * h) n l k o r A2 N ∧ wE A2 T up (sk_we up T m r_ t b p s) m r_ ∧ wF A A2) := by
  obtain ⟨hz1, hz2, hz3, hz4, hz5, hz6⟩ := id hz
  have hc := mo_W_c hW
  obtain ⟨-, -, hw1, hw2, hh1, hh2⟩ := id hW
  obtain ⟨h1, h2, h3, h4, ⟨h5, h6, h7⟩, ⟨h8, h9⟩, h10, h11⟩ := id hE
  refine mm_Dv_of (fun Q hq => ?_)
  refine mm_begin (ls := [(0, .ref 22), (1, .int (t)), (2, .int (b)), (3, .int (p))]) (Nat.le_of_ble_eq_true rfl) rfl rfl ?_
  refine mm_iload_n 2 dX10_weigh_0 rfl rfl ?_
  refine mm_iload_n 3 dX10_weigh_1 rfl rfl ?_
  refine mm_aload_n 0 dX10_weigh_2 rfl rfl ?_
  refine mm_geti dX10_weigh_3 rfl fk_X10_53 rfl so_22 ?_
  refine mm_top (v := T) ((cN_off hz2 (by decide)).trans h10) ?_
  refine mm_iload_n 1 dX10_weigh_6 rfl rfl ?_
  refine mm_isub dX10_weigh_7 ?_
  refine mm_aload_n 0 dX10_weigh_8 rfl rfl ?_
  refine mm_geti dX10_weigh_9 rfl fk_X10_63 rfl so_22 ?_
  refine mm_at (pc' := 12) rfl ?_
  refine mm_top (v := up) ((cN_off hz2 (by decide)).trans h11) ?_
  refine mm_cS4i (dz := d - 1) dX10_weigh_12 rfl mzX10_live ml_X10_100 imX10_live (by omega) (cg_live (by omega)) (Nat.le_of_ble_eq_true rfl) ⟨Nat.le_refl _, Nat.le_refl _⟩ ?_
  refine mm_istore (ls' := [(4, .int (sk_en b p up (T - t))), (0, .ref 22), (1, .int (t)), (2, .int (b)), (3, .int (p))]) dX10_weigh_15 (by decide) rfl ?_
  refine mm_iload 0 dX10_weigh_17 rfl ?_
  refine mm_aload_n 1 dX10_weigh_19 rfl rfl ?_
  refine mm_geti dX10_weigh_20 rfl fk_X10_73 rfl so_22 ?_
  refine mm_top (v := s.2.2.1) ((cN_off hz2 (by decide)).trans h4) ?_
  refine mm_icmp_le (tgt := 43) dX10_weigh_23 (by decide) (fun c23 => ?_) (fun c23 => ?_)
  · refine mm_vret dX10_weigh_43 rfl ⟨Nat.le_refl _, Nat.le_refl _⟩ ?_
    exact hq _ ⟨A, rfl, by unfold sk_we; rw [if_pos (by rw [Int32.add_zero]; exact c23)]; exact hE, wF_r A⟩
  · refine mm_aload_n 1 dX10_weigh_26 rfl rfl ?_
    refine mm_iload 0 dX10_weigh_27 rfl ?_
    refine mm_puti dX10_weigh_29 rfl fk_X10_73 rfl fv_10_6 so_22 ?_
    refine mm_aload_n 1 dX10_weigh_32 rfl rfl ?_
    refine mm_getr (b := 33) dX10_weigh_33 rfl fk_X10_32 rfl so_22 sr_22_5 ?_
    refine mm_aload_n 1 dX10_weigh_36 rfl rfl ?_
    refine mm_getr (b := 31) dX10_weigh_37 rfl fk_X10_29 rfl so_22 sr_22_4 ?_
    refine mm_at (pc' := 40) rfl ?_
    refine mm_cV1v (dz := d - 1) dX10_weigh_40 rfl mzX5_become ml_X10_35 imX5_become (by omega) so_33 ⟨rfl, rfl⟩ (ct_become rw_33 rw_31 (by decide) (by omega)) (Nat.le_of_ble_eq_true rfl) ⟨Nat.le_refl _, Nat.le_refl _⟩ ?_
    refine mm_vret dX10_weigh_43 rfl ⟨Nat.le_refl _, Nat.le_refl _⟩ ?_
    have hx := wE_w (x := sk_en b p up (T - t)) hE hm6
    refine hq _ ⟨mm_up (mm_cp (mm_up A 22 6 (sk_en b p up (T - t))) 32 34 0 0 6) 33 1 (A 31 1), ?_, ?_, ?_⟩
    · rw [cN_dof hz2 (by decide), cN_do2 hz2 (by decide) (by decide), cN_off hz2 (by decide), cN_dof hz2 (by decide)]; rfl
    · unfold sk_we; rw [if_neg (by rw [Int32.add_zero]; exact fun q => by first | exact c23 q | exact absurd q (Int32.not_le.mpr c23)), Int32.add_zero]; exact hx
    · refine wF_u (fun a ha => ?_) (by omega)
      funext i; unfold mm_cp; rw [if_neg (by omega)]; exact congrFun (wF_u (wF_r A) (by omega) a ha) i
