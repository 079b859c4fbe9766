/-! THE CLASS: how far CELLS are -/
def bcA (A : mm_I) (s : bf_S) : mm_I := fun a i => if a = 14 then s.1 i else if a = 16 then s.2.1 i else if a = 15 then (if i = 1 then nI s.2.2 else A 15 i) else A a i
theorem bcA_n {A : mm_I} {s : bf_S} {a : Nat} (h : ¬ (14 ≤ a ∧ a ≤ 16)) : bcA A s a = A a := by
  funext i; unfold bcA; rw [if_neg (by omega), if_neg (by omega), if_neg (by omega)]
theorem bcA_u14 {c n l k o r : Nat} (hn : n ≤ 5) {A : mm_I} {N : Nat → Int32} {f q : Nat → Int32} {m x : Nat} {v : Int32} : mm_up (cN c n l k o r (bcA A (f, q, m)) N) 14 x v = cN c n l k o r (bcA A (upd f x v, q, m)) N := by
  rw [cN_dof hn (by decide)]; congr 1
  funext a i; unfold mm_up bcA upd
  by_cases h : a = 14
  · subst h; simp
  · simp only [if_neg h]
theorem bcA_u16 {c n l k o r : Nat} (hn : n ≤ 5) {A : mm_I} {N : Nat → Int32} {f q : Nat → Int32} {m : Nat} {v : Int32} : mm_up (mm_up (cN c n l k o r (bcA A (f, q, m)) N) 16 m v) 15 1 (nI (m + 1)) = cN c n l k o r (bcA A (f, upd q m v, m + 1)) N := by
  rw [cN_dof hn (by decide), cN_dof hn (by decide)]; congr 1
  funext a i; unfold mm_up bcA upd
  by_cases h : a = 14
  · subst h; simp
  by_cases h2 : a = 16
  · subst h2; simp
  by_cases h3 : a = 15
  · subst h3; simp; by_cases h4 : i = 1 <;> simp [h4]
  · simp only [if_neg h, if_neg h2, if_neg h3]
def bc_f (A : mm_I) (c : Nat) : Nat → Int32 := fun i => if i < c then -1 else A 14 i
def bc_r (A : mm_I) (N : Nat → Int32) (w h t : Nat) : bf_S := bf_o (fun c => N (30 + c)) w h 80 0 (bf_0 (fun c => N (30 + c)) (bc_f A (w * h)) (A 16) t)
def bcM (A : mm_I) (N : Nat → Int32) (w h t : Nat) : mm_I := bcA (mm_up A 13 1 (nI (w * h))) (bc_r A N w h t)
theorem bc_fill {c n l k o r : Nat} (hn : n ≤ 5) {A : mm_I} {N : Nat → Int32} : mm_up (flM (cN c n l k o r A N) 13 (-1) c) 15 1 0 = cN c n l k o r (bcA (mm_up A 13 1 (nI c)) (bc_f A c, A 16, 0)) N := by
  have e : flM (cN c n l k o r A N) 13 (-1) c = cN c n l k o r (rw_fl (mm_up A 13 1 (nI c)) 14 (-1) c) N := by
    unfold flM
    rw [cN_dof hn (by decide)]
    funext a i
    by_cases h : a = 14
    · subst h
      rw [cN_off hn (by decide)]
      unfold rw_fl
      by_cases q : 14 = 13 + 1 ∧ i < c
      · rw [if_pos q, if_pos q]
      · rw [if_neg q, if_neg q, cN_off hn (by decide)]
    · have e1 : ∀ M : mm_I, rw_fl M (13 + 1) (-1) c a i = M a i := fun M => rw_fl_ne h
      rw [e1]
      show cJ N _ _ _ = cJ N (rw_fl (mm_up A 13 1 (nI c)) (13 + 1) (-1) c a i) _ _
      rw [e1]
  rw [e, cN_dof hn (by decide)]; congr 1
  funext a i; unfold mm_up bcA rw_fl bc_f
  by_cases h : a = 14
  · subst h; simp
  by_cases h2 : a = 16
  · subst h2; simp
  by_cases h3 : a = 15
  · subst h3; simp; rfl
  · simp [h, h2, h3]
theorem bc_r_ok {A : mm_I} {N : Nat → Int32} {w h t : Nat} (ht : t < w * h) (hn : w * h ≤ 80) : bf_ok (w * h) (bf_0 (fun c => N (30 + c)) (bc_f A (w * h)) (A 16) t) := bf_0_ok ht hn (fun c hc => by unfold bc_f; rw [if_pos hc])
theorem bf_i_q {kd : Nat → Int32} {w h k : Nat} {s : bf_S} {c0 : Nat} (hw : 0 < w) (hn : w * h ≤ 80) (H : bf_ok (w * h) s) (hk : k < s.2.2) (he : s.2.1 k = nI c0) : ∀ y, (bf_i kd w h k s y).2.1 k = nI c0 := by
  intro y
  induction y with
  | zero => exact he
  | succ y ih =>
    show (bf_w kd w h k y (bf_i kd w h k s y)).2.1 k = nI c0
    have h2 := (bf_i_ok (kd := kd) hw hn H hk y).2
    unfold bf_w
    by_cases c : sp_be w h (vv ((bf_i kd w h k s y).2.1 k)) y < 0 ∨ kd (vv (sp_be w h (vv ((bf_i kd w h k s y).2.1 k)) y)) = 1 ∨ 0 ≤ (bf_i kd w h k s y).1 (vv (sp_be w h (vv ((bf_i kd w h k s y).2.1 k)) y))
    · rw [if_pos c]; exact ih
    · rw [if_neg c]
      show upd _ _ _ k = _
      rw [pk_un (by omega)]; exact ih
set_option maxRecDepth 100000 in
set_option maxHeartbeats 600000 in
theorem lg_me4 {g : mm_G} {d : Nat} {w h n l k o r : Nat} {A : mm_I} {N : Nat → Int32} (hz : zOK (w * h) n l k o r) (hW : mo_W N w h) {Q : Option Value → mm_Sh → mm_I → Prop} {t k_ : Nat} {s : bf_S} (hs : bf_ok (w * h) s) (hk : k_ < s.2.2) {c0 : Nat} (hc0 : c0 < w * h) (he0 : s.2.1 k_ = nI c0) (hx : mm_Ex g zX0_measure d (0, 0) (0, 0) sh_S (cN (w * h) n l k o r (bcA A (bf_i (fun c => N (30 + c)) w h k_ s 4)) N) 153 [(3, .int (nI c0)), (2, .int (nI k_)), (0, .ref 2), (1, .int (nI t))] [] Q) (hd : 2 ≤ d) : ∀ (m : Nat) (y : Nat), (y ≤ 4) → 4 - y < m → mm_Ex g zX0_measure d (0, 0) (0, 0) sh_S (cN (w * h) n l k o r (bcA A (bf_i (fun c => N (30 + c)) w h k_ s y)) N) 77 [(4, .int (nI y)), (3, .int (nI c0)), (2, .int (nI k_)), (0, .ref 2), (1, .int (nI t))] [] Q := by
  obtain ⟨hz1, hz2, hz3, hz4, hz5, hz6⟩ := id hz
  have hc := mo_W_c hW
  obtain ⟨-, -, hw1, hw2, hh1, hh2⟩ := id hW
  intro m
  induction m with
  | zero => intro y hy hmz; exact absurd hmz (Nat.not_lt_zero _)
  | succ m ih =>
    intro y hy hmz
    have hok := bf_i_ok (kd := (fun c => N (30 + c))) (show 0 < w by omega) hc.2 hs hk y
    have hml := bf_ok_le hok.1
    have hkm := Nat.lt_of_lt_of_le hk hok.2
    have e0 := bf_i_q (kd := (fun c => N (30 + c))) (show 0 < w by omega) hc.2 hs hk he0 y
    have hf0 : ∃ j0, j0 < (bf_i (fun c => N (30 + c)) w h k_ s y).2.2 ∧ (bf_i (fun c => N (30 + c)) w h k_ s y).1 c0 = nI j0 := by
      obtain ⟨c1, hc1, e1, j0, hj0, ej0⟩ := hok.1.1 k_ hkm
      have : c1 = c0 := (nI_eq (by omega) (by omega)).mp (e1.symm.trans e0)
      subst this; exact ⟨j0, hj0, ej0⟩
    obtain ⟨j0, hj0, ej0⟩ := hf0
    have step : bf_i (fun c => N (30 + c)) w h k_ s (y + 1) = bf_w (fun c => N (30 + c)) w h k_ y (bf_i (fun c => N (30 + c)) w h k_ s y) := rfl
    by_cases hy4 : y = 4
    · subst hy4
      refine mm_iload 0 dX0_measure_77 rfl ?_
      refine mm_iconst (v := 4) dX0_measure_79 rfl ?_
      exact mm_icmp_geN 4 4 (tgt := 153) dX0_measure_80 (by decide) (by decide) (by decide) (fun _ => mm_sub [1, 2, 3, 4] rfl hx) (fun q => absurd q (by decide))
    generalize hsy : bf_i (fun c => N (30 + c)) w h k_ s y = sy at hok hml hkm e0 ej0 hj0 step ⊢
    obtain ⟨f, q, m⟩ := sy
    replace e0 : q k_ = nI c0 := e0
    replace ej0 : f c0 = nI j0 := ej0
    replace hml : m ≤ w * h := hml
    replace hkm : k_ < m := hkm
    replace hj0 : j0 < m := hj0
    rcases sp_be_in (way := y) (show 0 < w by omega) hc0 with ec | ⟨c, hcn, ec⟩
    · refine mm_iload 0 dX0_measure_77 rfl ?_
      refine mm_iconst (v := 4) dX0_measure_79 rfl ?_
      refine mm_icmp_geN (y) (4) (tgt := 153) dX0_measure_80 (by decide) (by omega) (by omega) (fun c80 => ?_) (fun c80 => ?_)
      · exact absurd c80 (by omega)
      · refine mm_aload_n 3 dX0_measure_83 rfl rfl ?_
        refine mm_iload_n 1 dX0_measure_84 rfl rfl ?_
        refine mm_iload 0 dX0_measure_85 rfl ?_
        refine mm_cV2i (dz := d - 1) dX0_measure_87 rfl mzX0_beside ml_X0_105 imX0_beside (by omega) so_2 ⟨rfl, rfl⟩ (show mm_Ci g zX0_beside (d - 1) [.ref 2, .int (nI c0), .int (nI y)] sh_S (cN (w * h) n l k o r (bcA A (f, q, m)) N) (-1) (cN (w * h) n l k o r (bcA A (f, q, m)) N) from ec ▸ cg_beside hz hW (c := c0) (y := y) (by omega) (by omega) (by omega)) (Nat.le_of_ble_eq_true rfl) ⟨Nat.le_refl _, Nat.le_refl _⟩ ?_
        refine mm_istore (ls' := [(5, .int (-1)), (4, .int (nI (y))), (3, .int (nI (c0))), (2, .int (nI (k_))), (0, .ref 2), (1, .int (nI (t)))]) dX0_measure_90 (by decide) rfl ?_
        refine mm_iload 0 dX0_measure_92 rfl ?_
        refine mm_if_lt (tgt := 147) dX0_measure_94 (by decide) (fun _ => ?_) (fun q => absurd (by decide) q)
        refine mm_iincN (ls' := [(4, .int (nI (y + 1))), (5, .int (-1)), (3, .int (nI (c0))), (2, .int (nI (k_))), (0, .ref 2), (1, .int (nI (t)))]) 1 (y) 1 dX0_measure_147 rfl rfl (by decide) rfl ?_
        refine mm_goto (tgt := 77) dX0_measure_150 (by decide) ?_
        have e := step.trans (bf_w_no e0 (by omega) (by first | exact Or.inl (by rw [ec]; decide) | exact Or.inr (Or.inl (by rw [ec, vv_nI (by omega)]; simpa using c103)) | exact Or.inr (Or.inr (by rw [ec, vv_nI (by omega)]; first | exact c115 | exact Int32.not_lt.mp c115))))
        have hh := ih (y + 1) (by omega) (by omega)
        rw [e] at hh
        exact mm_sub [0, 2, 3, 4, 5] rfl hh
    · refine mm_iload 0 dX0_measure_77 rfl ?_
      refine mm_iconst (v := 4) dX0_measure_79 rfl ?_
      refine mm_icmp_geN (y) (4) (tgt := 153) dX0_measure_80 (by decide) (by omega) (by omega) (fun c80 => ?_) (fun c80 => ?_)
      · exact absurd c80 (by omega)
      · refine mm_aload_n 3 dX0_measure_83 rfl rfl ?_
        refine mm_iload_n 1 dX0_measure_84 rfl rfl ?_
        refine mm_iload 0 dX0_measure_85 rfl ?_
        refine mm_cV2i (dz := d - 1) dX0_measure_87 rfl mzX0_beside ml_X0_105 imX0_beside (by omega) so_2 ⟨rfl, rfl⟩ (show mm_Ci g zX0_beside (d - 1) [.ref 2, .int (nI c0), .int (nI y)] sh_S (cN (w * h) n l k o r (bcA A (f, q, m)) N) (nI (c)) (cN (w * h) n l k o r (bcA A (f, q, m)) N) from ec ▸ cg_beside hz hW (c := c0) (y := y) (by omega) (by omega) (by omega)) (Nat.le_of_ble_eq_true rfl) ⟨Nat.le_refl _, Nat.le_refl _⟩ ?_
        refine mm_istore (ls' := [(5, .int (nI (c))), (4, .int (nI (y))), (3, .int (nI (c0))), (2, .int (nI (k_))), (0, .ref 2), (1, .int (nI (t)))]) dX0_measure_90 (by decide) rfl ?_
        refine mm_iload 0 dX0_measure_92 rfl ?_
        refine mm_if_ltN (c) (tgt := 147) dX0_measure_94 (by decide) (by omega) ?_
        refine mm_at (pc' := 97) rfl ?_
        refine mm_aload_n 4 dX0_measure_97 rfl rfl ?_
        refine mm_iload 0 dX0_measure_98 rfl ?_
        refine mm_cV1i (dz := d - 1) dX0_measure_100 rfl mzX0_isOpen ml_X0_95 imX0_isOpen (by omega) so_2 ⟨rfl, rfl⟩ (cg_isOpen hz hW (c := c) (by omega) (by omega)) (Nat.le_of_ble_eq_true rfl) ⟨Nat.le_refl _, Nat.le_refl _⟩ ?_
        refine mm_if_eqB (tgt := 147) dX0_measure_103 (by decide) (fun c103 => ?_) (fun c103 => ?_)
        · refine mm_iincN (ls' := [(4, .int (nI (y + 1))), (5, .int (nI (c))), (3, .int (nI (c0))), (2, .int (nI (k_))), (0, .ref 2), (1, .int (nI (t)))]) 1 (y) 1 dX0_measure_147 rfl rfl (by decide) rfl ?_
          refine mm_goto (tgt := 77) dX0_measure_150 (by decide) ?_
          have e := step.trans (bf_w_no e0 (by omega) (by first | exact Or.inl (by rw [ec]; decide) | exact Or.inr (Or.inl (by rw [ec, vv_nI (by omega)]; simpa using c103)) | exact Or.inr (Or.inr (by rw [ec, vv_nI (by omega)]; first | exact c115 | exact Int32.not_lt.mp c115))))
          have hh := ih (y + 1) (by omega) (by omega)
          rw [e] at hh
          exact mm_sub [0, 2, 3, 4, 5] rfl hh
        · refine mm_aload_n 4 dX0_measure_106 rfl rfl ?_
          refine mm_getr (b := 13) dX0_measure_107 rfl fk_X0_32 rfl so_2 sr_2_9 ?_
          refine mm_iload 0 dX0_measure_110 rfl ?_
          refine mm_cV1i (dz := d - 1) dX0_measure_112 rfl mzX5_at ml_X0_73 imX5_at (by omega) so_13 ⟨rfl, rfl⟩ (ct_at rw_13 (c) (by omega)) (Nat.le_of_ble_eq_true rfl) ⟨Nat.le_refl _, Nat.le_refl _⟩ ?_
          refine mm_top (v := f c) (cN_off hz2 (by decide)) ?_
          refine mm_if_ge (tgt := 147) dX0_measure_115 (by decide) (fun c115 => ?_) (fun c115 => ?_)
          · refine mm_iincN (ls' := [(4, .int (nI (y + 1))), (5, .int (nI (c))), (3, .int (nI (c0))), (2, .int (nI (k_))), (0, .ref 2), (1, .int (nI (t)))]) 1 (y) 1 dX0_measure_147 rfl rfl (by decide) rfl ?_
            refine mm_goto (tgt := 77) dX0_measure_150 (by decide) ?_
            have e := step.trans (bf_w_no e0 (by omega) (by first | exact Or.inl (by rw [ec]; decide) | exact Or.inr (Or.inl (by rw [ec, vv_nI (by omega)]; simpa using c103)) | exact Or.inr (Or.inr (by rw [ec, vv_nI (by omega)]; first | exact c115 | exact Int32.not_lt.mp c115))))
            have hh := ih (y + 1) (by omega) (by omega)
            rw [e] at hh
            exact mm_sub [0, 2, 3, 4, 5] rfl hh
          · have hm80 : m < w * h := by
              have q9 := bf_c_lt (f := f) (c := c) (by first | exact c115 | exact Int32.not_le.mp c115) _ hcn
              have q8 : bf_c f (w * h) = m := hok.1.2.2
              omega
            refine mm_aload_n 4 dX0_measure_118 rfl rfl ?_
            refine mm_getr (b := 13) dX0_measure_119 rfl fk_X0_32 rfl so_2 sr_2_9 ?_
            refine mm_iload 0 dX0_measure_122 rfl ?_
            refine mm_aload_n 4 dX0_measure_124 rfl rfl ?_
            refine mm_getr (b := 13) dX0_measure_125 rfl fk_X0_32 rfl so_2 sr_2_9 ?_
            refine mm_iload_n 2 dX0_measure_128 rfl rfl ?_
            refine mm_cV1i (dz := d - 1) dX0_measure_129 rfl mzX5_at ml_X0_73 imX5_at (by omega) so_13 ⟨rfl, rfl⟩ (ct_at rw_13 (c0) (by omega)) (Nat.le_of_ble_eq_true rfl) ⟨Nat.le_refl _, Nat.le_refl _⟩ ?_
            refine mm_at (pc' := 132) rfl ?_
            refine mm_top (v := f c0) (cN_off hz2 (by decide)) ?_
            refine mm_iconst (v := 1) dX0_measure_132 rfl ?_
            refine mm_iadd dX0_measure_133 ?_
            refine mm_cV2v (dz := d - 1) dX0_measure_134 rfl mzX5_set ml_X0_56 imX5_set (by omega) so_13 ⟨rfl, rfl⟩ (ct_set rw_13 (c) (by omega)) (Nat.le_of_ble_eq_true rfl) ⟨Nat.le_refl _, Nat.le_refl _⟩ ?_
            refine mm_aload_n 4 dX0_measure_137 rfl rfl ?_
            refine mm_getr (b := 15) dX0_measure_138 rfl fk_X0_35 rfl so_2 sr_2_10 ?_
            refine mm_iload 0 dX0_measure_141 rfl ?_
            refine mm_cV1i (dz := d - 1) dX0_measure_143 rfl mzX5_add ml_X0_99 imX5_add (by omega) so_15 ⟨rfl, rfl⟩ (ct_add rw_15 m (by rw [mm_up_ne (by decide)]; exact cN_off hz2 (by decide)) (by omega)) (Nat.le_of_ble_eq_true rfl) ⟨Nat.le_refl _, Nat.le_refl _⟩ ?_
            refine mm_pop dX0_measure_146 rfl ?_
            refine mm_at (pc' := 147) rfl ?_
            refine mm_iincN (ls' := [(4, .int (nI (y + 1))), (5, .int (nI (c))), (3, .int (nI (c0))), (2, .int (nI (k_))), (0, .ref 2), (1, .int (nI (t)))]) 1 (y) 1 dX0_measure_147 rfl rfl (by decide) rfl ?_
            refine mm_goto (tgt := 77) dX0_measure_150 (by decide) ?_
            have e := step.trans (bf_w_yes e0 (by omega) ec (by omega) c103 (fun q => absurd q (by first | exact Int32.not_le.mpr c115 | exact c115)))
            rw [bcA_u14 hz2, bcA_u16 hz2]
            have hh := ih (y + 1) (by omega) (by omega)
            rw [e] at hh
            exact mm_sub [0, 2, 3, 4, 5] rfl hh
/-- what else lies there does not matter -/
def bf_R (c : Nat) (s s' : bf_S) : Prop := s.2.2 = s'.2.2 ∧ (∀ i, i < s.2.2 → s.2.1 i = s'.2.1 i) ∧ ∀ x, x < c → s.1 x = s'.1 x
theorem bf_w_R {kd : Nat → Int32} {w h k y : Nat} {s s' : bf_S} (hw : 0 < w) (hn : w * h ≤ 80) (H : bf_ok (w * h) s) (hk : k < s.2.2) (R : bf_R (w * h) s s') : bf_R (w * h) (bf_w kd w h k y s) (bf_w kd w h k y s') := by
  obtain ⟨f, q, m⟩ := s
  obtain ⟨f', q', m'⟩ := s'
  obtain ⟨r1, r2, r3⟩ := R
  replace r1 : m = m' := r1
  replace r2 : ∀ i, i < m → q i = q' i := r2
  replace r3 : ∀ x, x < w * h → f x = f' x := r3
  subst r1
  obtain ⟨c0, hc0, e0, j0, hj0, ej0⟩ := H.1 k hk
  replace e0 : q k = nI c0 := e0
  have e0' : q' k = nI c0 := (r2 k hk).symm.trans e0
  rcases sp_be_in (way := y) hw hc0 with e | ⟨c, hcn, e⟩
  · rw [bf_w_no e0 (by omega) (Or.inl (by rw [e]; decide)), bf_w_no e0' (by omega) (Or.inl (by rw [e]; decide))]; exact ⟨rfl, r2, r3⟩
  · by_cases h1 : kd c = 1
    · rw [bf_w_no e0 (by omega) (Or.inr (Or.inl (by rw [e, vv_nI (by omega)]; exact h1))), bf_w_no e0' (by omega) (Or.inr (Or.inl (by rw [e, vv_nI (by omega)]; exact h1)))]; exact ⟨rfl, r2, r3⟩
    · by_cases h2 : 0 ≤ f c
      · rw [bf_w_no e0 (by omega) (Or.inr (Or.inr (by rw [e, vv_nI (by omega)]; exact h2))), bf_w_no e0' (by omega) (Or.inr (Or.inr (by rw [e, vv_nI (by omega), ← r3 c hcn]; exact h2)))]; exact ⟨rfl, r2, r3⟩
      · rw [bf_w_yes e0 (by omega) e (by omega) h1 h2, bf_w_yes e0' (by omega) e (by omega) h1 (by rw [← r3 c hcn]; exact h2)]
        refine ⟨rfl, fun i hi => ?_, fun x hx => ?_⟩
        · show upd q m (nI c) i = upd q' m (nI c) i
          unfold upd
          by_cases hi2 : i = m
          · rw [if_pos hi2, if_pos hi2]
          · rw [if_neg hi2, if_neg hi2]; exact r2 i (by have : i < m + 1 := hi; omega)
        · show upd f c (f c0 + 1) x = upd f' c (f' c0 + 1) x
          unfold upd
          by_cases hx2 : x = c
          · rw [if_pos hx2, if_pos hx2, r3 c0 hc0]
          · rw [if_neg hx2, if_neg hx2]; exact r3 x hx
theorem bf_i_R {kd : Nat → Int32} {w h k : Nat} {s s' : bf_S} (hw : 0 < w) (hn : w * h ≤ 80) (H : bf_ok (w * h) s) (hk : k < s.2.2) (R : bf_R (w * h) s s') : ∀ y, bf_R (w * h) (bf_i kd w h k s y) (bf_i kd w h k s' y) := by
  intro y
  induction y with
  | zero => exact R
  | succ y ih =>
    have h2 := bf_i_ok (kd := kd) hw hn H hk y
    exact bf_w_R hw hn h2.1 (Nat.lt_of_lt_of_le hk h2.2) ih
theorem bf_o_R {kd : Nat → Int32} {w h : Nat} (hw : 0 < w) (hn : w * h ≤ 80) : ∀ (m k : Nat) (s s' : bf_S), bf_ok (w * h) s → bf_R (w * h) s s' → bf_R (w * h) (bf_o kd w h m k s) (bf_o kd w h m k s') := by
  intro m
  induction m with
  | zero => intro k s s' _ R; exact R
  | succ m ih =>
    intro k s s' H R
    unfold bf_o
    by_cases c : k < s.2.2
    · rw [if_pos c, if_pos (by rw [← R.1]; exact c)]
      exact ih (k + 1) _ _ (bf_i_ok (kd := kd) hw hn H c 4).1 (bf_i_R hw hn H c R 4)
    · rw [if_neg c, if_neg (by rw [← R.1]; exact c)]; exact R
theorem bc_r_R {A J : mm_I} {N : Nat → Int32} {w h t : Nat} (hw : 0 < w) (hn : w * h ≤ 80) (ht : t < w * h) (hJ : J 201 = N) : bf_R (w * h) (bc_r A N w h t) (bf_r J w h t) := by
  subst hJ
  refine bf_o_R hw hn 80 0 _ _ (bc_r_ok ht hn) ?_
  unfold bf_0
  by_cases c : J 201 (30 + t) = 1
  · rw [if_pos c, if_pos c]
    exact ⟨rfl, fun i hi => absurd hi (Nat.not_lt_zero _), fun x hx => by show bc_f A (w * h) x = bf_fl (J 207) x; unfold bc_f bf_fl; rw [if_pos hx, if_pos (by omega)]⟩
  · rw [if_neg c, if_neg c]
    refine ⟨rfl, fun i hi => ?_, fun x hx => ?_⟩
    · have : i = 0 := by have : i < 1 := hi; omega
      subst this; rfl
    · show upd (bc_f A (w * h)) t 0 x = upd (bf_fl (J 207)) t 0 x
      unfold upd
      by_cases hx2 : x = t
      · rw [if_pos hx2, if_pos hx2]
      · rw [if_neg hx2, if_neg hx2]; unfold bc_f bf_fl; rw [if_pos hx, if_pos (by omega)]
theorem bf_o_ok {kd : Nat → Int32} {w h : Nat} (hw : 0 < w) (hn : w * h ≤ 80) : ∀ (m k : Nat) (s : bf_S), bf_ok (w * h) s → bf_ok (w * h) (bf_o kd w h m k s) := by
  intro m
  induction m with
  | zero => intro k s H; exact H
  | succ m ih =>
    intro k s H
    unfold bf_o
    by_cases c : k < s.2.2
    · rw [if_pos c]; exact ih (k + 1) _ (bf_i_ok (kd := kd) hw hn H c 4).1
    · rw [if_neg c]; exact H
set_option maxRecDepth 100000 in
set_option maxHeartbeats 600000 in
theorem lg_me2 {g : mm_G} {d : Nat} {w h n l k o r : Nat} {A : mm_I} {N : Nat → Int32} (hz : zOK (w * h) n l k o r) (hW : mo_W N w h) {Q : Option Value → mm_Sh → mm_I → Prop} {t : Nat} (hd : 2 ≤ d) : ∀ (m k_ : Nat) (s : bf_S), bf_ok (w * h) s → 80 - k_ < m + 1 → k_ ≤ 80 → Q none sh_S (cN (w * h) n l k o r (bcA A (bf_o (fun c => N (30 + c)) w h m k_ s)) N) → mm_Ex g zX0_measure d (0, 0) (0, 0) sh_S (cN (w * h) n l k o r (bcA A s) N) 48 [(2, .int (nI k_)), (0, .ref 2), (1, .int (nI t))] [] Q := by
  obtain ⟨hz1, hz2, hz3, hz4, hz5, hz6⟩ := id hz
  have hc := mo_W_c hW
  obtain ⟨-, -, hw1, hw2, hh1, hh2⟩ := id hW
  intro m
  induction m with
  | zero =>
    intro k_ s hs h1 h2 hq
    have e : k_ = 80 := by omega
    subst e
    refine mm_iload_n 0 dX0_measure_48 rfl rfl ?_
    refine mm_bipush (v := 80) dX0_measure_49 rfl ?_
    refine mm_icmp_geN 80 80 (tgt := 159) dX0_measure_51 (by decide) (by decide) (by decide) (fun _ => ?_) (fun q => absurd q (by decide))
    refine mm_vret dX0_measure_159 rfl ⟨Nat.le_refl _, Nat.le_refl _⟩ ?_
    exact hq
  | succ m ih =>
    intro k_ s hs h1 h2 hq
    have hle := bf_ok_le hs
    rw [bf_o] at hq
    obtain ⟨f, q, u⟩ := s
    replace hle : u ≤ w * h := hle
    refine mm_iload_n 0 dX0_measure_48 rfl rfl ?_
    refine mm_bipush (v := 80) dX0_measure_49 rfl ?_
    refine mm_icmp_geN (k_) (80) (tgt := 159) dX0_measure_51 (by decide) (by omega) (by omega) (fun c51 => ?_) (fun c51 => ?_)
    · refine mm_vret dX0_measure_159 rfl ⟨Nat.le_refl _, Nat.le_refl _⟩ ?_
      rw [if_neg (show ¬ k_ < u by omega)] at hq; exact hq
    · refine mm_iload_n 0 dX0_measure_54 rfl rfl ?_
      refine mm_aload_n 1 dX0_measure_55 rfl rfl ?_
      refine mm_getr (b := 15) dX0_measure_56 rfl fk_X0_35 rfl so_2 sr_2_10 ?_
      refine mm_cV0i (dz := d - 1) dX0_measure_59 rfl mzX5_size ml_X0_102 imX5_size (by omega) so_15 ⟨rfl, rfl⟩ (ct_size rw_15) (Nat.le_of_ble_eq_true rfl) ⟨Nat.le_refl _, Nat.le_refl _⟩ ?_
      refine mm_top (v := nI (u)) (cN_off hz2 (by decide)) ?_
      refine mm_icmp_geN (k_) (u) (tgt := 159) dX0_measure_62 (by decide) (by omega) (by omega) (fun c62 => ?_) (fun c62 => ?_)
      · refine mm_vret dX0_measure_159 rfl ⟨Nat.le_refl _, Nat.le_refl _⟩ ?_
        rw [if_neg (show ¬ k_ < u by omega)] at hq; exact hq
      · have hlt : k_ < u := by omega
        obtain ⟨c0, hc0, e0, -⟩ := hs.1 k_ hlt
        refine mm_aload_n 1 dX0_measure_65 rfl rfl ?_
        refine mm_getr (b := 15) dX0_measure_66 rfl fk_X0_35 rfl so_2 sr_2_10 ?_
        refine mm_iload_n 0 dX0_measure_69 rfl rfl ?_
        refine mm_cV1i (dz := d - 1) dX0_measure_70 rfl mzX5_at ml_X0_73 imX5_at (by omega) so_15 ⟨rfl, rfl⟩ (ct_at rw_15 (k_) (by omega)) (Nat.le_of_ble_eq_true rfl) ⟨Nat.le_refl _, Nat.le_refl _⟩ ?_
        refine mm_top (v := nI (c0)) ((cN_off hz2 (by decide)).trans e0) ?_
        refine mm_istore_n (ls' := [(3, .int (nI (c0))), (2, .int (nI (k_))), (0, .ref 2), (1, .int (nI (t)))]) dX0_measure_73 rfl (by decide) rfl ?_
        refine mm_iconst (v := 0) dX0_measure_74 rfl ?_
        refine mm_istore (ls' := [(4, .int (0)), (3, .int (nI (c0))), (2, .int (nI (k_))), (0, .ref 2), (1, .int (nI (t)))]) dX0_measure_75 (by decide) rfl ?_
        refine mm_at (pc' := 77) rfl ?_
        refine mm_sub [0, 1, 2, 3, 4] rfl (lg_me4 hz hW hs hlt hc0 e0 ?_ hd 5 0 (by omega) (by omega))
        have hok := bf_i_ok (kd := (fun c => N (30 + c))) (show 0 < w by omega) hc.2 hs hlt 4
        refine mm_iincN (ls' := [(2, .int (nI (k_ + 1))), (3, .int (nI c0)), (0, .ref 2), (1, .int (nI t))]) 1 k_ 1 dX0_measure_153 rfl rfl (by decide) rfl ?_
        refine mm_goto (tgt := 48) dX0_measure_156 (by decide) ?_
        rw [if_pos hlt] at hq
        exact mm_sub [0, 2, 3] rfl (ih (k_ + 1) _ hok.1 (by omega) (by omega) hq)
set_option maxRecDepth 100000 in
set_option maxHeartbeats 600000 in
theorem cg_meas {g : mm_G} {d : Nat} {w h n l k o r : Nat} {A : mm_I} {N : Nat → Int32} (hz : zOK (w * h) n l k o r) (hW : mo_W N w h) {t : Nat} (ht : t < w * h) (hd : 2 ≤ d) : mm_Cv g zX0_measure d [.ref 2, .int (nI (t))] sh_S (cN (w * h) n l k o r A N) (cN (w * h) n l k o r (bcM A N w h t) N) := by
  obtain ⟨hz1, hz2, hz3, hz4, hz5, hz6⟩ := id hz
  have hc := mo_W_c hW
  obtain ⟨-, -, hw1, hw2, hh1, hh2⟩ := id hW
  refine mm_Cv_of (fun Q hq => ?_)
  refine mm_begin (ls := [(0, .ref 2), (1, .int (nI (t)))]) (Nat.le_of_ble_eq_true rfl) rfl rfl ?_
  refine mm_aload_n 0 dX0_measure_0 rfl rfl ?_
  refine mm_getr (b := 13) dX0_measure_1 rfl fk_X0_32 rfl so_2 sr_2_9 ?_
  refine mm_aload_n 0 dX0_measure_4 rfl rfl ?_
  refine mm_cV0i (dz := d - 1) dX0_measure_5 rfl mzX0_cells ml_X0_49 imX0_cells (by omega) so_2 ⟨rfl, rfl⟩ (cg_cells hz hW) (Nat.le_of_ble_eq_true rfl) ⟨Nat.le_refl _, Nat.le_refl _⟩ ?_
  refine mm_iconst (v := -1) dX0_measure_8 rfl ?_
  refine mm_cV2v (dz := d - 1) dX0_measure_9 rfl mzX5_fill ml_X0_53 imX5_fill (by omega) so_13 ⟨rfl, rfl⟩ (ct_fill rw_13 (w * h) (by omega) (by omega)) (Nat.le_of_ble_eq_true rfl) ⟨Nat.le_refl _, Nat.le_refl _⟩ ?_
  refine mm_aload_n 0 dX0_measure_12 rfl rfl ?_
  refine mm_getr (b := 15) dX0_measure_13 rfl fk_X0_35 rfl so_2 sr_2_10 ?_
  refine mm_at (pc' := 16) rfl ?_
  refine mm_iconst (v := 0) dX0_measure_16 rfl ?_
  refine mm_cV1v (dz := d - 1) dX0_measure_17 rfl mzX5_shorten ml_X0_92 imX5_shorten (by omega) so_15 ⟨rfl, rfl⟩ (ct_short0 rw_15 (by omega)) (Nat.le_of_ble_eq_true rfl) ⟨Nat.le_refl _, Nat.le_refl _⟩ ?_
  refine mm_mem (J := cN (w * h) n l k o r (bcA (mm_up A 13 1 (nI (w * h))) (bc_f A (w * h), A 16, 0)) N) (bc_fill hz2) ?_
  refine mm_aload_n 0 dX0_measure_20 rfl rfl ?_
  refine mm_iload_n 1 dX0_measure_21 rfl rfl ?_
  refine mm_cV1i (dz := d - 1) dX0_measure_22 rfl mzX0_isOpen ml_X0_95 imX0_isOpen (by omega) so_2 ⟨rfl, rfl⟩ (cg_isOpen hz hW (c := t) (by omega) (by omega)) (Nat.le_of_ble_eq_true rfl) ⟨Nat.le_refl _, Nat.le_refl _⟩ ?_
  refine mm_if_eqB (tgt := 46) dX0_measure_25 (by decide) (fun c25 => ?_) (fun c25 => ?_)
  · refine mm_iconst (v := 0) dX0_measure_46 rfl ?_
    refine mm_istore_n (ls' := [(2, .int (0)), (0, .ref 2), (1, .int (nI (t)))]) dX0_measure_47 rfl (by decide) rfl ?_
    have hr := bc_r_ok (A := A) (N := N) ht hc.2
    unfold bcM bc_r bf_0 at hq
    unfold bf_0 at hr
    rw [if_pos (by simpa using c25)] at hq hr
    exact lg_me2 hz hW hd 80 0 _ hr (by omega) (by omega) hq
  · refine mm_aload_n 0 dX0_measure_28 rfl rfl ?_
    refine mm_getr (b := 13) dX0_measure_29 rfl fk_X0_32 rfl so_2 sr_2_9 ?_
    refine mm_iload_n 1 dX0_measure_32 rfl rfl ?_
    refine mm_iconst (v := 0) dX0_measure_33 rfl ?_
    refine mm_cV2v (dz := d - 1) dX0_measure_34 rfl mzX5_set ml_X0_56 imX5_set (by omega) so_13 ⟨rfl, rfl⟩ (ct_set rw_13 (t) (by omega)) (Nat.le_of_ble_eq_true rfl) ⟨Nat.le_refl _, Nat.le_refl _⟩ ?_
    refine mm_aload_n 0 dX0_measure_37 rfl rfl ?_
    refine mm_getr (b := 15) dX0_measure_38 rfl fk_X0_35 rfl so_2 sr_2_10 ?_
    refine mm_at (pc' := 41) rfl ?_
    refine mm_iload_n 1 dX0_measure_41 rfl rfl ?_
    refine mm_cV1i (dz := d - 1) dX0_measure_42 rfl mzX5_add ml_X0_99 imX5_add (by omega) so_15 ⟨rfl, rfl⟩ (ct_add rw_15 0 (by rw [mm_up_ne (by decide)]; exact cN_off hz2 (by decide)) (by omega)) (Nat.le_of_ble_eq_true rfl) ⟨Nat.le_refl _, Nat.le_refl _⟩ ?_
    refine mm_pop dX0_measure_45 rfl ?_
    refine mm_iconst (v := 0) dX0_measure_46 rfl ?_
    refine mm_istore_n (ls' := [(2, .int (0)), (0, .ref 2), (1, .int (nI (t)))]) dX0_measure_47 rfl (by decide) rfl ?_
    have hr := bc_r_ok (A := A) (N := N) ht hc.2
    unfold bcM bc_r bf_0 at hq
    unfold bf_0 at hr
    rw [if_neg (by simpa using c25)] at hq hr
    rw [bcA_u14 hz2, bcA_u16 hz2]
    exact lg_me2 hz hW hd 80 0 _ hr (by omega) (by omega) hq
