/-! THE CLASS: words of the tape -/
def gl (T : Nat → Int32) (t k : Nat) : Bool := decide (0 < k ∧ (tk_L T t (k - 1) ∨ tk_D T t (k - 1)))
def nvi (T : Nat → Int32) (f : Nat) : Nat → Int32
  | 0 => 0
  | j + 1 => nvi T f j * 10 + T (f + j) - 48
/-- the class's number of what stands here -/
def cc_ : Nat → Int32
  | 0 => 1 | 1 => 6 | 2 => 7 | 3 => 8 | 4 => 9 | 5 => 10 | 6 => 11 | 7 => 2 | 8 => 3 | 9 => 4 | _ => 5
def ckd (x : Nat) : Int32 := if x < 256 then nI x else if x = 400 then -101 else if x = 401 then -102 else if x = 402 then -103 else if x = 403 then -104 else if x = 404 then -105 else - cc_ (x - 300)
theorem wd_p {T : Nat → Int32} {f tx : Nat} : ∀ n, wdp T f tx n = true → ∀ i, i < n → T (f + i) = (mm_sx tx).getD i 0 := fun n => by
  induction n with
  | zero => intro _ i hi; omega
  | succ n ih =>
    intro hh i hi
    unfold wdp at hh
    have := Bool.and_eq_true_iff.mp hh
    by_cases e : i = n
    · subst e; exact of_decide_eq_true this.2
    · exact ih this.1 i (by omega)
theorem wd_u {T : Nat → Int32} {q : Nat × Nat × Nat} {a b : Nat} (ha : a < 12) (hb : b < 12) (h1 : wd T q a = true) (h2 : wd T q b = true) : a = b := by
  unfold wd at h1 h2
  have g1 := Bool.and_eq_true_iff.mp h1
  have g2 := Bool.and_eq_true_iff.mp h2
  have l1 := (of_decide_eq_true g1.1).2
  have l2 := (of_decide_eq_true g2.1).2
  have f1 := wd_p _ g1.2 0 (by have := (tx_len (show a < 14 by omega)).1; omega)
  have f2 := wd_p _ g2.2 0 (by have := (tx_len (show b < 14 by omega)).1; omega)
  have key : ∀ a, a < 12 → ∀ b, b < 12 → (mm_sx a).length = (mm_sx b).length → (mm_sx a).getD 0 0 = (mm_sx b).getD 0 0 → a = b := by decide
  exact key a ha b hb (by omega) (f1.symm.trans f2)
theorem wd_len {T : Nat → Int32} {q : Nat × Nat × Nat} {a : Nat} (h1 : wd T q a = true) : q.2.2 = 1 ∧ q.2.1 - q.1 = (mm_sx a).length := by
  unfold wd at h1
  exact of_decide_eq_true (Bool.and_eq_true_iff.mp h1).1
theorem wh_some {T : Nat → Int32} {q : Nat × Nat × Nat} {a : Nat} (ha : wd T q a = true) : ∀ k, k ≤ 11 → a < k → ∃ j, j < 11 ∧ wh T q k = nI j := by
  intro k
  induction k with
  | zero => intro _ h; omega
  | succ k ih =>
    intro hk h
    unfold wh
    by_cases c : wd T q k = true
    · rw [if_pos c]; exact ⟨k, by omega, rfl⟩
    · rw [if_neg c]
      by_cases e : a = k
      · subst e; exact absurd ha c
      · exact ih (by omega) (by omega)
theorem wh_none {T : Nat → Int32} {q : Nat × Nat × Nat} : ∀ k, (∀ a, a < k → ¬ wd T q a = true) → wh T q k = -1 := by
  intro k
  induction k with
  | zero => intro _; rfl
  | succ k ih => intro h; unfold wh; rw [if_neg (h k (by omega))]; exact ih (fun a ha => h a (by omega))
theorem tkd_wd {T : Nat → Int32} {f e a : Nat} (ha : a < 11) (h : wd T (f, e, 1) a = true) : tkd T (f, e, 1) = 300 + a := by
  have hl := wd_len h
  have hlen := (tx_len (show a < 14 by omega)).1
  obtain ⟨j, hj, ej⟩ := wh_some h 11 (Nat.le_refl _) ha
  have := wd_u (by omega) (by omega) (wh_wd hj 11 (Nat.le_refl _) ej) h
  subst this
  unfold tkd
  rw [if_neg (by show ¬ (1 = 0); decide), if_neg (by show ¬ (1 = 2); decide), if_neg (by show ¬ (1 = 3); decide), if_pos rfl, if_neg (by intro q; have := q.1; omega), ej, if_pos (nI_pos' (by omega)), vv_nI (by omega)]
theorem tkd_el {T : Nat → Int32} {f e : Nat} (h : wd T (f, e, 1) 11 = true) : tkd T (f, e, 1) = 403 := by
  have hl := wd_len h
  have hlen := (tx_len (show 11 < 14 by decide)).1
  have hn : wh T (f, e, 1) 11 = -1 := wh_none 11 (fun a ha q => by have := wd_u (by omega) (by omega) q h; omega)
  unfold tkd
  rw [if_neg (by show ¬ (1 = 0); decide), if_neg (by show ¬ (1 = 2); decide), if_neg (by show ¬ (1 = 3); decide), if_pos rfl, if_neg (by intro q; have := q.1; omega), hn, if_neg (by decide), if_pos h]
theorem tkd_un {T : Nat → Int32} {f e : Nat} (h1 : ¬ (e - f = 1 ∧ 0 ≤ nm_ix (vv (T f)))) (h : ∀ a, a < 12 → ¬ wd T (f, e, 1) a = true) : tkd T (f, e, 1) = 404 := by
  have hn : wh T (f, e, 1) 11 = -1 := wh_none 11 (fun a ha => h a (by omega))
  unfold tkd
  rw [if_neg (by show ¬ (1 = 0); decide), if_neg (by show ¬ (1 = 2); decide), if_neg (by show ¬ (1 = 3); decide), if_pos rfl, if_neg h1, hn, if_neg (by decide), if_neg (h 11 (by decide))]
theorem tkd_nm {T : Nat → Int32} {f e : Nat} (h1 : e - f = 1 ∧ 0 ≤ nm_ix (vv (T f))) : tkd T (f, e, 1) = 402 := by
  unfold tkd
  rw [if_neg (by show ¬ (1 = 0); decide), if_neg (by show ¬ (1 = 2); decide), if_neg (by show ¬ (1 = 3); decide), if_pos rfl, if_pos h1]
theorem tx_c {b : Nat} (hb : b < 256) : ((nI b).toUInt32 % 65536).toInt32 = nI b := by
  have h : ∀ b, b < 256 → ((nI b).toUInt32 % 65536).toInt32 = nI b := by decide +kernel
  exact h b hb
theorem sh0 (x : Int32) : (if 0 < (if x < 0 then x else 0) then (if x < 0 then x else 0) else 0) = 0 := by
  by_cases c : x < 0
  · rw [if_pos c]
    rw [if_neg (fun q => absurd (Int32.lt_trans q c) (by decide))]
  · rw [if_neg c, if_neg (by decide)]
set_option maxRecDepth 100000 in
set_option maxHeartbeats 600000 in
theorem ct_short0 {g : mm_G} {S : mm_Sh} {I : mm_I} {a n d : Nat} (hR : rw_is S a n) (hd : 1 ≤ d) : mm_Cv g zX5_shorten d [.ref a, .int 0] S I (mm_up I a 1 0) := by
  refine mm_Cv_of (fun Q hq => ?_)
  refine mm_begin (ls := [(0, .ref a), (1, .int (0))]) (Nat.le_of_ble_eq_true rfl) rfl rfl ?_
  refine mm_aload_n 0 dX5_shorten_0 rfl rfl ?_
  refine mm_iconst (v := 0) dX5_shorten_1 rfl ?_
  refine mm_iload_n 1 dX5_shorten_2 rfl rfl ?_
  refine mm_aload_n 0 dX5_shorten_3 rfl rfl ?_
  refine mm_geti dX5_shorten_4 rfl fk_X5_19 rfl hR.1 ?_
  refine mm_min dX5_shorten_7 rfl ml_X5_31 jm_min (by omega) (Nat.le_of_ble_eq_true rfl) ⟨Nat.le_refl _, Nat.le_refl _⟩ ?_
  refine mm_max dX5_shorten_10 rfl ml_X5_7 jm_max (by omega) (Nat.le_of_ble_eq_true rfl) ⟨Nat.le_refl _, Nat.le_refl _⟩ ?_
  refine mm_puti dX5_shorten_13 rfl fk_X5_19 rfl fv_5_1 hR.1 ?_
  refine mm_at (pc' := 16) rfl ?_
  refine mm_vret dX5_shorten_16 rfl ⟨Nat.le_refl _, Nat.le_refl _⟩ ?_
  rw [sh0]
  exact hq
set_option maxRecDepth 100000 in
set_option maxHeartbeats 600000 in
theorem ck_isLetter {g : mm_G} {I : mm_I} {d : Nat} {t : Nat} (ht : I 174 1 = nI t) (ht96 : t ≤ 96) {k : Nat} (hk : k ≤ 96) (hd : 1 ≤ d) : mm_Ci g zX9_isLetter d [.ref 177, .int (nI k)] sh_S I (if tk_L (I 175) t k then 1 else 0) I := by
  refine mm_Ci_of (fun Q hq => ?_)
  refine mm_begin (ls := [(0, .ref 177), (1, .int (nI (k)))]) (Nat.le_of_ble_eq_true rfl) rfl rfl ?_
  refine mm_iload_n 1 dX9_isLetter_0 rfl rfl ?_
  refine mm_aload_n 0 dX9_isLetter_1 rfl rfl ?_
  refine mm_getr (b := 174) dX9_isLetter_2 rfl fk_X9_9 rfl so_177 sr_177_0 ?_
  refine mm_cV0i (dz := d - 1) dX9_isLetter_5 rfl mzX5_size ml_X9_32 imX5_size (by omega) so_174 ⟨rfl, rfl⟩ (ct_size rw_174) (Nat.le_of_ble_eq_true rfl) ⟨Nat.le_refl _, Nat.le_refl _⟩ ?_
  refine mm_top (v := nI (t)) ht ?_
  refine mm_icmp_geN (k) (t) (tgt := 41) dX9_isLetter_8 (by decide) (by omega) (by omega) (fun c8 => ?_) (fun c8 => ?_)
  · refine mm_iconst (v := 0) dX9_isLetter_41 rfl ?_
    refine mm_zret dX9_isLetter_42 rfl (by decide) ⟨Nat.le_refl _, Nat.le_refl _⟩ ?_
    first | (rw [if_pos (show tk_L (I 175) t k by exact ⟨by omega, Int32.not_lt.mp c21, Int32.not_lt.mp c34⟩)] at hq; exact hq) | (rw [if_neg (show ¬ tk_L (I 175) t k by rintro ⟨h1, h2, h3⟩; first | omega | exact absurd c21 (Int32.not_lt.mpr h2) | exact absurd c34 (Int32.not_lt.mpr h3))] at hq; exact hq)
  · refine mm_aload_n 0 dX9_isLetter_11 rfl rfl ?_
    refine mm_getr (b := 174) dX9_isLetter_12 rfl fk_X9_9 rfl so_177 sr_177_0 ?_
    refine mm_iload_n 1 dX9_isLetter_15 rfl rfl ?_
    refine mm_cV1i (dz := d - 1) dX9_isLetter_16 rfl mzX5_at ml_X9_36 imX5_at (by omega) so_174 ⟨rfl, rfl⟩ (ct_at rw_174 (k) (by omega)) (Nat.le_of_ble_eq_true rfl) ⟨Nat.le_refl _, Nat.le_refl _⟩ ?_
    refine mm_bipush (v := 97) dX9_isLetter_19 rfl ?_
    refine mm_icmp_lt (tgt := 41) dX9_isLetter_21 (by decide) (fun c21 => ?_) (fun c21 => ?_)
    · refine mm_iconst (v := 0) dX9_isLetter_41 rfl ?_
      refine mm_zret dX9_isLetter_42 rfl (by decide) ⟨Nat.le_refl _, Nat.le_refl _⟩ ?_
      first | (rw [if_pos (show tk_L (I 175) t k by exact ⟨by omega, Int32.not_lt.mp c21, Int32.not_lt.mp c34⟩)] at hq; exact hq) | (rw [if_neg (show ¬ tk_L (I 175) t k by rintro ⟨h1, h2, h3⟩; first | omega | exact absurd c21 (Int32.not_lt.mpr h2) | exact absurd c34 (Int32.not_lt.mpr h3))] at hq; exact hq)
    · refine mm_aload_n 0 dX9_isLetter_24 rfl rfl ?_
      refine mm_getr (b := 174) dX9_isLetter_25 rfl fk_X9_9 rfl so_177 sr_177_0 ?_
      refine mm_iload_n 1 dX9_isLetter_28 rfl rfl ?_
      refine mm_cV1i (dz := d - 1) dX9_isLetter_29 rfl mzX5_at ml_X9_36 imX5_at (by omega) so_174 ⟨rfl, rfl⟩ (ct_at rw_174 (k) (by omega)) (Nat.le_of_ble_eq_true rfl) ⟨Nat.le_refl _, Nat.le_refl _⟩ ?_
      refine mm_bipush (v := 122) dX9_isLetter_32 rfl ?_
      refine mm_icmp_gt (tgt := 41) dX9_isLetter_34 (by decide) (fun c34 => ?_) (fun c34 => ?_)
      · refine mm_iconst (v := 0) dX9_isLetter_41 rfl ?_
        refine mm_zret dX9_isLetter_42 rfl (by decide) ⟨Nat.le_refl _, Nat.le_refl _⟩ ?_
        first | (rw [if_pos (show tk_L (I 175) t k by exact ⟨by omega, Int32.not_lt.mp c21, Int32.not_lt.mp c34⟩)] at hq; exact hq) | (rw [if_neg (show ¬ tk_L (I 175) t k by rintro ⟨h1, h2, h3⟩; first | omega | exact absurd c21 (Int32.not_lt.mpr h2) | exact absurd c34 (Int32.not_lt.mpr h3))] at hq; exact hq)
      · refine mm_iconst (v := 1) dX9_isLetter_37 rfl ?_
        refine mm_goto (tgt := 42) dX9_isLetter_38 (by decide) ?_
        refine mm_zret dX9_isLetter_42 rfl (by decide) ⟨Nat.le_refl _, Nat.le_refl _⟩ ?_
        first | (rw [if_pos (show tk_L (I 175) t k by exact ⟨by omega, Int32.not_lt.mp c21, Int32.not_lt.mp c34⟩)] at hq; exact hq) | (rw [if_neg (show ¬ tk_L (I 175) t k by rintro ⟨h1, h2, h3⟩; first | omega | exact absurd c21 (Int32.not_lt.mpr h2) | exact absurd c34 (Int32.not_lt.mpr h3))] at hq; exact hq)
set_option maxRecDepth 100000 in
set_option maxHeartbeats 600000 in
theorem ck_isDigit {g : mm_G} {I : mm_I} {d : Nat} {t : Nat} (ht : I 174 1 = nI t) (ht96 : t ≤ 96) {k : Nat} (hk : k ≤ 96) (hd : 1 ≤ d) : mm_Ci g zX9_isDigit d [.ref 177, .int (nI k)] sh_S I (if tk_D (I 175) t k then 1 else 0) I := by
  refine mm_Ci_of (fun Q hq => ?_)
  refine mm_begin (ls := [(0, .ref 177), (1, .int (nI (k)))]) (Nat.le_of_ble_eq_true rfl) rfl rfl ?_
  refine mm_iload_n 1 dX9_isDigit_0 rfl rfl ?_
  refine mm_aload_n 0 dX9_isDigit_1 rfl rfl ?_
  refine mm_getr (b := 174) dX9_isDigit_2 rfl fk_X9_9 rfl so_177 sr_177_0 ?_
  refine mm_cV0i (dz := d - 1) dX9_isDigit_5 rfl mzX5_size ml_X9_32 imX5_size (by omega) so_174 ⟨rfl, rfl⟩ (ct_size rw_174) (Nat.le_of_ble_eq_true rfl) ⟨Nat.le_refl _, Nat.le_refl _⟩ ?_
  refine mm_top (v := nI (t)) ht ?_
  refine mm_icmp_geN (k) (t) (tgt := 41) dX9_isDigit_8 (by decide) (by omega) (by omega) (fun c8 => ?_) (fun c8 => ?_)
  · refine mm_iconst (v := 0) dX9_isDigit_41 rfl ?_
    refine mm_zret dX9_isDigit_42 rfl (by decide) ⟨Nat.le_refl _, Nat.le_refl _⟩ ?_
    first | (rw [if_pos (show tk_D (I 175) t k by exact ⟨by omega, Int32.not_lt.mp c21, Int32.not_lt.mp c34⟩)] at hq; exact hq) | (rw [if_neg (show ¬ tk_D (I 175) t k by rintro ⟨h1, h2, h3⟩; first | omega | exact absurd c21 (Int32.not_lt.mpr h2) | exact absurd c34 (Int32.not_lt.mpr h3))] at hq; exact hq)
  · refine mm_aload_n 0 dX9_isDigit_11 rfl rfl ?_
    refine mm_getr (b := 174) dX9_isDigit_12 rfl fk_X9_9 rfl so_177 sr_177_0 ?_
    refine mm_iload_n 1 dX9_isDigit_15 rfl rfl ?_
    refine mm_cV1i (dz := d - 1) dX9_isDigit_16 rfl mzX5_at ml_X9_36 imX5_at (by omega) so_174 ⟨rfl, rfl⟩ (ct_at rw_174 (k) (by omega)) (Nat.le_of_ble_eq_true rfl) ⟨Nat.le_refl _, Nat.le_refl _⟩ ?_
    refine mm_bipush (v := 48) dX9_isDigit_19 rfl ?_
    refine mm_icmp_lt (tgt := 41) dX9_isDigit_21 (by decide) (fun c21 => ?_) (fun c21 => ?_)
    · refine mm_iconst (v := 0) dX9_isDigit_41 rfl ?_
      refine mm_zret dX9_isDigit_42 rfl (by decide) ⟨Nat.le_refl _, Nat.le_refl _⟩ ?_
      first | (rw [if_pos (show tk_D (I 175) t k by exact ⟨by omega, Int32.not_lt.mp c21, Int32.not_lt.mp c34⟩)] at hq; exact hq) | (rw [if_neg (show ¬ tk_D (I 175) t k by rintro ⟨h1, h2, h3⟩; first | omega | exact absurd c21 (Int32.not_lt.mpr h2) | exact absurd c34 (Int32.not_lt.mpr h3))] at hq; exact hq)
    · refine mm_aload_n 0 dX9_isDigit_24 rfl rfl ?_
      refine mm_getr (b := 174) dX9_isDigit_25 rfl fk_X9_9 rfl so_177 sr_177_0 ?_
      refine mm_iload_n 1 dX9_isDigit_28 rfl rfl ?_
      refine mm_cV1i (dz := d - 1) dX9_isDigit_29 rfl mzX5_at ml_X9_36 imX5_at (by omega) so_174 ⟨rfl, rfl⟩ (ct_at rw_174 (k) (by omega)) (Nat.le_of_ble_eq_true rfl) ⟨Nat.le_refl _, Nat.le_refl _⟩ ?_
      refine mm_bipush (v := 57) dX9_isDigit_32 rfl ?_
      refine mm_icmp_gt (tgt := 41) dX9_isDigit_34 (by decide) (fun c34 => ?_) (fun c34 => ?_)
      · refine mm_iconst (v := 0) dX9_isDigit_41 rfl ?_
        refine mm_zret dX9_isDigit_42 rfl (by decide) ⟨Nat.le_refl _, Nat.le_refl _⟩ ?_
        first | (rw [if_pos (show tk_D (I 175) t k by exact ⟨by omega, Int32.not_lt.mp c21, Int32.not_lt.mp c34⟩)] at hq; exact hq) | (rw [if_neg (show ¬ tk_D (I 175) t k by rintro ⟨h1, h2, h3⟩; first | omega | exact absurd c21 (Int32.not_lt.mpr h2) | exact absurd c34 (Int32.not_lt.mpr h3))] at hq; exact hq)
      · refine mm_iconst (v := 1) dX9_isDigit_37 rfl ?_
        refine mm_goto (tgt := 42) dX9_isDigit_38 (by decide) ?_
        refine mm_zret dX9_isDigit_42 rfl (by decide) ⟨Nat.le_refl _, Nat.le_refl _⟩ ?_
        first | (rw [if_pos (show tk_D (I 175) t k by exact ⟨by omega, Int32.not_lt.mp c21, Int32.not_lt.mp c34⟩)] at hq; exact hq) | (rw [if_neg (show ¬ tk_D (I 175) t k by rintro ⟨h1, h2, h3⟩; first | omega | exact absurd c21 (Int32.not_lt.mpr h2) | exact absurd c34 (Int32.not_lt.mpr h3))] at hq; exact hq)
set_option maxRecDepth 100000 in
set_option maxHeartbeats 600000 in
theorem ck_gl {g : mm_G} {I : mm_I} {d : Nat} {t : Nat} (ht : I 174 1 = nI t) (ht96 : t ≤ 96) {k : Nat} (hk : k ≤ 96) (hd : 2 ≤ d) : mm_Ci g zX9_isGlued d [.ref 177, .int (nI k)] sh_S I (if gl (I 175) t k = true then 1 else 0) I := by
  refine mm_Ci_of (fun Q hq => ?_)
  refine mm_begin (ls := [(0, .ref 177), (1, .int (nI (k)))]) (Nat.le_of_ble_eq_true rfl) rfl rfl ?_
  refine mm_iload_n 1 dX9_isGlued_0 rfl rfl ?_
  refine mm_if_leN (k) (tgt := 28) dX9_isGlued_1 (by decide) (by omega) (fun c1 => ?_) (fun c1 => ?_)
  · refine mm_iconst (v := 0) dX9_isGlued_28 rfl ?_
    refine mm_zret dX9_isGlued_29 rfl (by decide) ⟨Nat.le_refl _, Nat.le_refl _⟩ ?_
    first | (rw [if_pos (show gl (I 175) t k = true by exact decide_eq_true ⟨by omega, Or.inl c11⟩)] at hq; exact hq) | (rw [if_pos (show gl (I 175) t k = true by exact decide_eq_true ⟨by omega, Or.inr c21⟩)] at hq; exact hq) | (rw [if_neg (show ¬ gl (I 175) t k = true by intro q; have := of_decide_eq_true q; rcases this with ⟨h1, h2 | h2⟩ <;> first | omega | exact c11 h2 | exact c21 h2)] at hq; exact hq)
  · refine mm_aload_n 0 dX9_isGlued_4 rfl rfl ?_
    refine mm_iload_n 1 dX9_isGlued_5 rfl rfl ?_
    refine mm_iconst (v := 1) dX9_isGlued_6 rfl ?_
    refine mm_isubN (k) (1) dX9_isGlued_7 (by omega) ?_
    refine mm_cV1i (dz := d - 1) dX9_isGlued_8 rfl mzX9_isLetter ml_X9_51 imX9_isLetter (by omega) so_177 ⟨rfl, rfl⟩ (ck_isLetter ht ht96 (by omega) (by omega)) (Nat.le_of_ble_eq_true rfl) ⟨Nat.le_refl _, Nat.le_refl _⟩ ?_
    refine mm_if_neB (tgt := 24) dX9_isGlued_11 (by decide) (fun c11 => ?_) (fun c11 => ?_)
    · refine mm_iconst (v := 1) dX9_isGlued_24 rfl ?_
      refine mm_goto (tgt := 29) dX9_isGlued_25 (by decide) ?_
      refine mm_zret dX9_isGlued_29 rfl (by decide) ⟨Nat.le_refl _, Nat.le_refl _⟩ ?_
      first | (rw [if_pos (show gl (I 175) t k = true by exact decide_eq_true ⟨by omega, Or.inl c11⟩)] at hq; exact hq) | (rw [if_pos (show gl (I 175) t k = true by exact decide_eq_true ⟨by omega, Or.inr c21⟩)] at hq; exact hq) | (rw [if_neg (show ¬ gl (I 175) t k = true by intro q; have := of_decide_eq_true q; rcases this with ⟨h1, h2 | h2⟩ <;> first | omega | exact c11 h2 | exact c21 h2)] at hq; exact hq)
    · refine mm_aload_n 0 dX9_isGlued_14 rfl rfl ?_
      refine mm_iload_n 1 dX9_isGlued_15 rfl rfl ?_
      refine mm_iconst (v := 1) dX9_isGlued_16 rfl ?_
      refine mm_isubN (k) (1) dX9_isGlued_17 (by omega) ?_
      refine mm_cV1i (dz := d - 1) dX9_isGlued_18 rfl mzX9_isDigit ml_X9_61 imX9_isDigit (by omega) so_177 ⟨rfl, rfl⟩ (ck_isDigit ht ht96 (by omega) (by omega)) (Nat.le_of_ble_eq_true rfl) ⟨Nat.le_refl _, Nat.le_refl _⟩ ?_
      refine mm_if_eqB (tgt := 28) dX9_isGlued_21 (by decide) (fun c21 => ?_) (fun c21 => ?_)
      · refine mm_iconst (v := 0) dX9_isGlued_28 rfl ?_
        refine mm_zret dX9_isGlued_29 rfl (by decide) ⟨Nat.le_refl _, Nat.le_refl _⟩ ?_
        first | (rw [if_pos (show gl (I 175) t k = true by exact decide_eq_true ⟨by omega, Or.inl c11⟩)] at hq; exact hq) | (rw [if_pos (show gl (I 175) t k = true by exact decide_eq_true ⟨by omega, Or.inr c21⟩)] at hq; exact hq) | (rw [if_neg (show ¬ gl (I 175) t k = true by intro q; have := of_decide_eq_true q; rcases this with ⟨h1, h2 | h2⟩ <;> first | omega | exact c11 h2 | exact c21 h2)] at hq; exact hq)
      · refine mm_iconst (v := 1) dX9_isGlued_24 rfl ?_
        refine mm_goto (tgt := 29) dX9_isGlued_25 (by decide) ?_
        refine mm_zret dX9_isGlued_29 rfl (by decide) ⟨Nat.le_refl _, Nat.le_refl _⟩ ?_
        first | (rw [if_pos (show gl (I 175) t k = true by exact decide_eq_true ⟨by omega, Or.inl c11⟩)] at hq; exact hq) | (rw [if_pos (show gl (I 175) t k = true by exact decide_eq_true ⟨by omega, Or.inr c21⟩)] at hq; exact hq) | (rw [if_neg (show ¬ gl (I 175) t k = true by intro q; have := of_decide_eq_true q; rcases this with ⟨h1, h2 | h2⟩ <;> first | omega | exact c11 h2 | exact c21 h2)] at hq; exact hq)
set_option maxRecDepth 100000 in
set_option maxHeartbeats 600000 in
theorem lk_num {g : mm_G} {I : mm_I} {d : Nat} {Q : Option Value → mm_Sh → mm_I → Prop} {f e : Nat} (he : e ≤ 96) (hfe : f ≤ e) (hd : 1 ≤ d) (hq : Q (some (.int (nvi (I 175) f (e - f)))) sh_S I) : ∀ (m : Nat) (j : Nat), (f + j ≤ e) → e - (f + j) < m → mm_Ex g zX9_numberAt d (0, 0) (0, 0) sh_S (I) 5 [(4, .int (nI (f + j))), (3, .int (nvi (I 175) f j)), (0, .ref 177), (1, .int (nI (f))), (2, .int (nI (e)))] [] Q := by
  intro m
  induction m with
  | zero => intro j hj hmz; exact absurd hmz (Nat.not_lt_zero _)
  | succ m ih =>
    intro j hj hmz
    refine mm_iload 0 dX9_numberAt_5 rfl ?_
    refine mm_iload_n 4 dX9_numberAt_7 rfl rfl ?_
    refine mm_icmp_geN (f + j) (e) (tgt := 35) dX9_numberAt_8 (by decide) (by omega) (by omega) (fun c8 => ?_) (fun c8 => ?_)
    · refine mm_iload_n 1 dX9_numberAt_35 rfl rfl ?_
      refine mm_iret dX9_numberAt_36 rfl ⟨Nat.le_refl _, Nat.le_refl _⟩ ?_
      rw [show e - f = j by omega] at hq
      exact hq
    · refine mm_iload_n 1 dX9_numberAt_11 rfl rfl ?_
      refine mm_bipush (v := 10) dX9_numberAt_12 rfl ?_
      refine mm_imul dX9_numberAt_14 ?_
      refine mm_aload_n 2 dX9_numberAt_15 rfl rfl ?_
      refine mm_getr (b := 174) dX9_numberAt_16 rfl fk_X9_9 rfl so_177 sr_177_0 ?_
      refine mm_iload 0 dX9_numberAt_19 rfl ?_
      refine mm_cV1i (dz := d - 1) dX9_numberAt_21 rfl mzX5_at ml_X9_36 imX5_at (by omega) so_174 ⟨rfl, rfl⟩ (ct_at rw_174 (f + j) (by omega)) (Nat.le_of_ble_eq_true rfl) ⟨Nat.le_refl _, Nat.le_refl _⟩ ?_
      refine mm_at (pc' := 24) rfl ?_
      refine mm_iadd dX9_numberAt_24 ?_
      refine mm_bipush (v := 48) dX9_numberAt_25 rfl ?_
      refine mm_isub dX9_numberAt_27 ?_
      refine mm_istore_n (ls' := [(3, .int ((((nvi (I 175) f j) * 10) + (I 175 (f + j))) - 48)), (4, .int (nI (f + j))), (0, .ref 177), (1, .int (nI (f))), (2, .int (nI (e)))]) dX9_numberAt_28 rfl (by decide) rfl ?_
      refine mm_iincN (ls' := [(4, .int (nI (f + j + 1))), (3, .int ((((nvi (I 175) f j) * 10) + (I 175 (f + j))) - 48)), (0, .ref 177), (1, .int (nI (f))), (2, .int (nI (e)))]) 1 (f + j) 1 dX9_numberAt_29 rfl rfl (by decide) rfl ?_
      refine mm_goto (tgt := 5) dX9_numberAt_32 (by decide) ?_
      exact mm_sub [0, 1, 2, 3, 4] rfl (ih (j + 1) (by omega) (by omega))
set_option maxRecDepth 100000 in
set_option maxHeartbeats 600000 in
theorem ck_num {g : mm_G} {I : mm_I} {d : Nat} {f e : Nat} (he : e ≤ 96) (hfe : f ≤ e) (hd : 1 ≤ d) : mm_Ci g zX9_numberAt d [.ref 177, .int (nI f), .int (nI e)] sh_S I (nvi (I 175) f (e - f)) I := by
  refine mm_Ci_of (fun Q hq => ?_)
  refine mm_begin (ls := [(0, .ref 177), (1, .int (nI (f))), (2, .int (nI (e)))]) (Nat.le_of_ble_eq_true rfl) rfl rfl ?_
  refine mm_iconst (v := 0) dX9_numberAt_0 rfl ?_
  refine mm_istore_n (ls' := [(3, .int (0)), (0, .ref 177), (1, .int (nI (f))), (2, .int (nI (e)))]) dX9_numberAt_1 rfl (by decide) rfl ?_
  refine mm_iload_n 2 dX9_numberAt_2 rfl rfl ?_
  refine mm_istore (ls' := [(4, .int (nI (f))), (3, .int (0)), (0, .ref 177), (1, .int (nI (f))), (2, .int (nI (e)))]) dX9_numberAt_3 (by decide) rfl ?_
  exact mm_sub [0, 1, 2, 3, 4] rfl (lk_num he hfe hd hq (e + 1) 0 hfe (by omega))
set_option maxRecDepth 100000 in
set_option maxHeartbeats 600000 in
theorem lk_sp {g : mm_G} {I : mm_I} {d : Nat} {Q : Option Value → mm_Sh → mm_I → Prop} {f e tx : Nat} (htx : tx < 14) (he : e ≤ 96) (hfe : f ≤ e) (hl1 : e - f = (mm_sx tx).length) (hd : 4 ≤ d) (hq : Q (some (.int (if wd (I 175) (f, e, 1) tx = true then 1 else 0))) sh_S I) : ∀ (m : Nat) (k : Nat), (k ≤ (mm_sx tx).length) → (wdp (I 175) f tx k = true) → (mm_sx tx).length - k < m → mm_Ex g zX9_spells d (0, 0) (0, 0) sh_S (I) 15 [(4, .int (nI (k))), (0, .ref 177), (1, .ref (mm_KB + (5 + tx))), (2, .int (nI (f))), (3, .int (nI (e)))] [] Q := by
  intro m
  induction m with
  | zero => intro k hk hw hmz; exact absurd hmz (Nat.not_lt_zero _)
  | succ m ih =>
    intro k hk hw hmz
    have hl := tx_len htx
    refine mm_iload 0 dX9_spells_15 rfl ?_
    refine mm_aload_n 2 dX9_spells_17 rfl rfl ?_
    refine mm_cT0i (t := tx) (dz := d - 1) dX9_spells_18 rfl mzJ0_length_8abf5 ml_X9_104 imJ0_length_8abf5 (by omega) (by omega) rfl (ct_length htx (by omega)) (Nat.le_of_ble_eq_true rfl) ⟨Nat.le_refl _, Nat.le_refl _⟩ ?_
    refine mm_icmp_geN (k) ((mm_sx tx).length) (tgt := 52) dX9_spells_21 (by decide) (by omega) (by omega) (fun c21 => ?_) (fun c21 => ?_)
    · refine mm_iconst (v := 1) dX9_spells_52 rfl ?_
      refine mm_zret dX9_spells_53 rfl (by decide) ⟨Nat.le_refl _, Nat.le_refl _⟩ ?_
      have e1 : k = (mm_sx tx).length := by omega
      subst e1
      rw [if_pos (by unfold wd; rw [hw, Bool.and_true]; exact decide_eq_true ⟨rfl, hl1⟩)] at hq
      exact hq
    · refine mm_aload_n 1 dX9_spells_24 rfl rfl ?_
      refine mm_getr (b := 174) dX9_spells_25 rfl fk_X9_9 rfl so_177 sr_177_0 ?_
      refine mm_iload_n 3 dX9_spells_28 rfl rfl ?_
      refine mm_iload 0 dX9_spells_29 rfl ?_
      refine mm_iaddN (f) (k) dX9_spells_31 ?_
      refine mm_cV1i (dz := d - 1) dX9_spells_32 rfl mzX5_at ml_X9_36 imX5_at (by omega) so_174 ⟨rfl, rfl⟩ (ct_at rw_174 (f + k) (by omega)) (Nat.le_of_ble_eq_true rfl) ⟨Nat.le_refl _, Nat.le_refl _⟩ ?_
      refine mm_aload_n 2 dX9_spells_35 rfl rfl ?_
      refine mm_at (pc' := 36) rfl ?_
      refine mm_iload 0 dX9_spells_36 rfl ?_
      refine mm_cT1i (t := tx) (dz := d - 1) dX9_spells_38 rfl mzJ0_charAt_5068e ml_X9_107 imJ0_charAt_5068e (by omega) (by omega) rfl (ct_charAt (t := tx) (k := k) htx (by omega) (by omega)) (Nat.le_of_ble_eq_true rfl) ⟨Nat.le_refl _, Nat.le_refl _⟩ ?_
      refine mm_icmp_eq (tgt := 46) dX9_spells_41 (by decide) (fun c41 => ?_) (fun c41 => ?_)
      · refine mm_iincN (ls' := [(4, .int (nI (k + 1))), (0, .ref 177), (1, .ref (mm_KB + (5 + tx))), (2, .int (nI (f))), (3, .int (nI (e)))]) 0 (k) 1 dX9_spells_46 rfl rfl (by decide) rfl ?_
        refine mm_goto (tgt := 15) dX9_spells_49 (by decide) ?_
        exact mm_sub [0, 1, 2, 3, 4] rfl (ih (k + 1) (by omega) (by unfold wdp; rw [hw, Bool.true_and]; exact decide_eq_true c41) (by omega))
      · refine mm_iconst (v := 0) dX9_spells_44 rfl ?_
        refine mm_zret dX9_spells_45 rfl (by decide) ⟨Nat.le_refl _, Nat.le_refl _⟩ ?_
        rw [if_neg (by rw [wd_no (k := k + 1) (by rw [wdp, decide_eq_false c41, Bool.and_false, Bool.and_false]; decide) (by omega)]; decide)] at hq
        exact hq
set_option maxRecDepth 100000 in
set_option maxHeartbeats 600000 in
theorem ck_sp {g : mm_G} {I : mm_I} {d : Nat} {f e tx : Nat} (htx : tx < 14) (he : e ≤ 96) (hfe : f ≤ e) (hd : 4 ≤ d) : mm_Ci g zX9_spells d [.ref 177, .ref (mm_KB + (5 + tx)), .int (nI f), .int (nI e)] sh_S I (if wd (I 175) (f, e, 1) tx = true then 1 else 0) I := by
  have hl := tx_len htx
  refine mm_Ci_of (fun Q hq => ?_)
  refine mm_begin (ls := [(0, .ref 177), (1, .ref (mm_KB + (5 + tx))), (2, .int (nI (f))), (3, .int (nI (e)))]) (Nat.le_of_ble_eq_true rfl) rfl rfl ?_
  refine mm_aload_n 1 dX9_spells_0 rfl rfl ?_
  refine mm_cT0i (t := tx) (dz := d - 1) dX9_spells_1 rfl mzJ0_length_8abf5 ml_X9_104 imJ0_length_8abf5 (by omega) (by omega) rfl (ct_length htx (by omega)) (Nat.le_of_ble_eq_true rfl) ⟨Nat.le_refl _, Nat.le_refl _⟩ ?_
  refine mm_iload_n 3 dX9_spells_4 rfl rfl ?_
  refine mm_iload_n 2 dX9_spells_5 rfl rfl ?_
  refine mm_isubN (e) (f) dX9_spells_6 (by omega) ?_
  refine mm_icmp_eqN ((mm_sx tx).length) (e - f) (tgt := 12) dX9_spells_7 (by decide) (by omega) (by omega) (fun c7 => ?_) (fun c7 => ?_)
  · refine mm_iconst (v := 0) dX9_spells_12 rfl ?_
    refine mm_istore (ls' := [(4, .int (0)), (0, .ref 177), (1, .ref (mm_KB + (5 + tx))), (2, .int (nI (f))), (3, .int (nI (e)))]) dX9_spells_13 (by decide) rfl ?_
    exact mm_sub [0, 1, 2, 3, 4] rfl (lk_sp htx he hfe (by omega) hd hq ((mm_sx tx).length + 1) 0 (Nat.zero_le _) rfl (by omega))
  · refine mm_iconst (v := 0) dX9_spells_10 rfl ?_
    refine mm_zret dX9_spells_11 rfl (by decide) ⟨Nat.le_refl _, Nat.le_refl _⟩ ?_
    rw [if_neg (by intro q; have : e - f = _ := (wd_len q).2; omega)] at hq
    exact hq
