/-! THE CLASS: the tape is split -/
def cx (T : Nat → Int32) (t f : Nat) : Nat × Nat × Nat := if (¬ tk_s T t f = 3 ∧ gl T t f = true) ∨ (tk_s T t f = 2 ∧ 4 < tk_we T t (tk_s T t f) 96 (f + 1) - f) then (f, tk_we T t (tk_s T t f) 96 (f + 1), 4) else (f, tk_we T t (tk_s T t f) 96 (f + 1), tk_s T t f)
def cnx (T : Nat → Int32) (t e : Nat) : Nat × Nat × Nat := if tk_sb T t 96 e = t then (t, t, 0) else cx T t (tk_sb T t 96 e)
def cq (T : Nat → Int32) (t : Nat) : Nat → Nat × Nat × Nat
  | 0 => cnx T t 0
  | k + 1 => cnx T t (cq T t k).2.1
def cv (T : Nat → Int32) (t : Nat) (q : Nat × Nat × Nat) : Int32 := if tk_L T t q.1 then T q.1 else if tk_D T t q.1 then nvi T q.1 (q.2.1 - q.1) else 0
def wv (T : Nat → Int32) (t : Nat) (q : Nat × Nat × Nat) : Int32 × Int32 × Int32 := (ckd (tkd T q), cv T t q, nI q.1)
def wl (T : Nat → Int32) (t : Nat) : Nat → List (Int32 × Int32 × Int32)
  | 0 => []
  | j + 1 => wl T t j ++ [wv T t (cq T t j)]
theorem wl_len {T : Nat → Int32} {t : Nat} : ∀ j, (wl T t j).length = j := by
  intro j
  induction j with
  | zero => rfl
  | succ j ih => unfold wl; rw [List.length_append, ih]; rfl
theorem wl_at {T : Nat → Int32} {t : Nat} : ∀ j i, i < j → (wl T t j).getD i (0, 0, 0) = wv T t (cq T t i) := by
  intro j
  induction j with
  | zero => intro i h; omega
  | succ j ih =>
    intro i h
    unfold wl
    rw [List.getD_eq_getElem?_getD]
    by_cases e : i = j
    · subst e; rw [List.getElem?_append_right (by rw [wl_len]; exact Nat.le_refl _), wl_len]; simp
    · rw [List.getElem?_append_left (by rw [wl_len]; omega), ← List.getD_eq_getElem?_getD]; exact ih i (by omega)
theorem tk_sb_fu {T : Nat → Int32} {t : Nat} : ∀ f f' k, t ≤ k + f → t ≤ k + f' → tk_sb T t f k = tk_sb T t f' k := by
  intro f
  induction f with
  | zero =>
    intro f' k h h'
    cases f' with
    | zero => rfl
    | succ f' => unfold tk_sb; rw [if_neg (by omega)]
  | succ f ih =>
    intro f' k h h'
    cases f' with
    | zero => unfold tk_sb; rw [if_neg (by omega)]
    | succ f' =>
      unfold tk_sb
      by_cases c : k < t ∧ T k = 32
      · rw [if_pos c, if_pos c]; exact ih f' (k + 1) (by omega) (by omega)
      · rw [if_neg c, if_neg c]
theorem cnx_bl {T : Nat → Int32} {t k : Nat} (ht : t ≤ 96) (hk : k < t) (h : T k = 32) : cnx T t k = cnx T t (k + 1) := by
  have e : tk_sb T t 96 k = tk_sb T t 96 (k + 1) := by
    rw [show tk_sb T t 96 k = (if k < t ∧ T k = 32 then tk_sb T t 95 (k + 1) else k) from rfl, if_pos ⟨hk, h⟩]
    exact tk_sb_fu 95 96 (k + 1) (by omega) (by omega)
  unfold cnx; rw [e]
theorem cnx_tk {T : Nat → Int32} {t k : Nat} (hk : k < t) (h : ¬ T k = 32) : cnx T t k = cx T t k := by
  have e : tk_sb T t 96 k = k := by
    rw [show tk_sb T t 96 k = (if k < t ∧ T k = 32 then tk_sb T t 95 (k + 1) else k) from rfl, if_neg (fun q => h q.2)]
  unfold cnx; rw [e, if_neg (by omega)]
theorem cnx_end {T : Nat → Int32} {t : Nat} : cnx T t t = (t, t, 0) := by
  have e : tk_sb T t 96 t = t := by
    rw [show tk_sb T t 96 t = (if t < t ∧ T t = 32 then tk_sb T t 95 (t + 1) else t) from rfl, if_neg (fun q => absurd q.1 (Nat.lt_irrefl _))]
  unfold cnx; rw [e, if_pos rfl]
theorem cx_2 {T : Nat → Int32} {t f : Nat} : (cx T t f).2.1 = tk_we T t (tk_s T t f) 96 (f + 1) := by
  unfold cx; split <;> rfl
theorem cx_1 {T : Nat → Int32} {t f : Nat} : (cx T t f).1 = f := by
  unfold cx; split <;> rfl
theorem cx_s {T : Nat → Int32} {t f : Nat} : ¬ (cx T t f).2.2 = 0 := by
  have := tk_s_in T t f
  unfold cx; split
  · show ¬ (4 = 0); decide
  · show ¬ tk_s T t f = 0; omega
theorem tk_we_3 {T : Nat → Int32} {t k : Nat} : tk_we T t 3 96 k = k := by
  rw [show tk_we T t 3 96 k = (if tk_P T t 3 k then tk_we T t 3 95 (k + 1) else k) from rfl, if_neg (by rintro (⟨q, -⟩ | ⟨q, -⟩) <;> revert q <;> decide)]
set_option maxRecDepth 100000 in
set_option maxHeartbeats 600000 in
theorem lk_sp1 {g : mm_G} {I : mm_I} {d : Nat} {Q : Option Value → mm_Sh → mm_I → Prop} {t : Nat} (ht : I 174 1 = nI t) (ht96 : t ≤ 96) (hB : tp_ok (I 175) t) {L : List (Int32 × Int32 × Int32)} (hL : L.length < 97) {f : Nat} (hd : 2 ≤ d) : ∀ (m k : Nat), t ≤ k + m → k ≤ t → (mm_Ex g zX9_splitAt d (0, 0) (0, 0) sh_S (wz I L) 37 [(2, .int (nI (tk_we (I 175) t 1 m k))), (0, .ref 177), (1, .int (nI (f)))] [] Q) → mm_Ex g zX9_splitAt d (0, 0) (0, 0) sh_S (wz I L) 12 [(2, .int (nI (k))), (0, .ref 177), (1, .int (nI (f)))] [] Q := by
  intro m
  induction m with
  | zero =>
    intro k hk hkt hx
    refine mm_iload_n 0 dX9_splitAt_12 rfl rfl ?_
    refine mm_aload_n 1 dX9_splitAt_13 rfl rfl ?_
    refine mm_getr (b := 174) dX9_splitAt_14 rfl fk_X9_9 rfl so_177 sr_177_0 ?_
    refine mm_cV0i (dz := d - 1) dX9_splitAt_17 rfl mzX5_size ml_X9_32 imX5_size (by omega) so_174 ⟨rfl, rfl⟩ (ct_size rw_174) (Nat.le_of_ble_eq_true rfl) ⟨Nat.le_refl _, Nat.le_refl _⟩ ?_
    refine mm_top (v := nI (t)) ht ?_
    refine mm_icmp_geN (k) (t) (tgt := 37) dX9_splitAt_20 (by decide) (by omega) (by omega) (fun c20 => ?_) (fun c20 => ?_)
    · exact hx
    · omega
  | succ m ih =>
    intro k hk hkt hx
    rw [tk_we] at hx
    refine mm_iload_n 0 dX9_splitAt_12 rfl rfl ?_
    refine mm_aload_n 1 dX9_splitAt_13 rfl rfl ?_
    refine mm_getr (b := 174) dX9_splitAt_14 rfl fk_X9_9 rfl so_177 sr_177_0 ?_
    refine mm_cV0i (dz := d - 1) dX9_splitAt_17 rfl mzX5_size ml_X9_32 imX5_size (by omega) so_174 ⟨rfl, rfl⟩ (ct_size rw_174) (Nat.le_of_ble_eq_true rfl) ⟨Nat.le_refl _, Nat.le_refl _⟩ ?_
    refine mm_top (v := nI (t)) ht ?_
    refine mm_icmp_geN (k) (t) (tgt := 37) dX9_splitAt_20 (by decide) (by omega) (by omega) (fun c20 => ?_) (fun c20 => ?_)
    · rw [if_neg (by rintro (⟨q, q2⟩ | ⟨q, q2⟩) <;> first | (revert q; decide) | (have := q2.1; omega) | exact c28 q2)] at hx
      exact hx
    · refine mm_aload_n 1 dX9_splitAt_23 rfl rfl ?_
      refine mm_iload_n 0 dX9_splitAt_24 rfl rfl ?_
      refine mm_cV1i (dz := d - 1) dX9_splitAt_25 rfl mzX9_isLetter ml_X9_51 imX9_isLetter (by omega) so_177 ⟨rfl, rfl⟩ (show mm_Ci g zX9_isLetter (d - 1) [.ref 177, .int (nI (k))] sh_S (wz I L) (if tk_L (I 175) t k then 1 else 0) (wz I L) from ck_isLetter (I := wz I L) ht ht96 (by omega) (by omega)) (Nat.le_of_ble_eq_true rfl) ⟨Nat.le_refl _, Nat.le_refl _⟩ ?_
      refine mm_if_eqB (tgt := 37) dX9_splitAt_28 (by decide) (fun c28 => ?_) (fun c28 => ?_)
      · rw [if_neg (by rintro (⟨q, q2⟩ | ⟨q, q2⟩) <;> first | (revert q; decide) | (have := q2.1; omega) | exact c28 q2)] at hx
        exact hx
      · refine mm_iincN (ls' := [(2, .int (nI (k + 1))), (0, .ref 177), (1, .int (nI (f)))]) 0 (k) 1 dX9_splitAt_31 rfl rfl (by decide) rfl ?_
        refine mm_goto (tgt := 12) dX9_splitAt_34 (by decide) ?_
        rw [if_pos (Or.inl ⟨rfl, c28⟩)] at hx
        exact ih (k + 1) (by omega) (by omega) hx
set_option maxRecDepth 100000 in
set_option maxHeartbeats 600000 in
theorem lk_sp2 {g : mm_G} {I : mm_I} {d : Nat} {Q : Option Value → mm_Sh → mm_I → Prop} {t : Nat} (ht : I 174 1 = nI t) (ht96 : t ≤ 96) (hB : tp_ok (I 175) t) {L : List (Int32 × Int32 × Int32)} (hL : L.length < 97) {f : Nat} (hd : 2 ≤ d) : ∀ (m k : Nat), t ≤ k + m → k ≤ t → (mm_Ex g zX9_splitAt d (0, 0) (0, 0) sh_S (wz I L) 105 [(2, .int (nI (tk_we (I 175) t 2 m k))), (0, .ref 177), (1, .int (nI (f)))] [] Q) → mm_Ex g zX9_splitAt d (0, 0) (0, 0) sh_S (wz I L) 80 [(2, .int (nI (k))), (0, .ref 177), (1, .int (nI (f)))] [] Q := by
  intro m
  induction m with
  | zero =>
    intro k hk hkt hx
    refine mm_iload_n 0 dX9_splitAt_80 rfl rfl ?_
    refine mm_aload_n 1 dX9_splitAt_81 rfl rfl ?_
    refine mm_getr (b := 174) dX9_splitAt_82 rfl fk_X9_9 rfl so_177 sr_177_0 ?_
    refine mm_cV0i (dz := d - 1) dX9_splitAt_85 rfl mzX5_size ml_X9_32 imX5_size (by omega) so_174 ⟨rfl, rfl⟩ (ct_size rw_174) (Nat.le_of_ble_eq_true rfl) ⟨Nat.le_refl _, Nat.le_refl _⟩ ?_
    refine mm_top (v := nI (t)) ht ?_
    refine mm_icmp_geN (k) (t) (tgt := 105) dX9_splitAt_88 (by decide) (by omega) (by omega) (fun c88 => ?_) (fun c88 => ?_)
    · exact hx
    · omega
  | succ m ih =>
    intro k hk hkt hx
    rw [tk_we] at hx
    refine mm_iload_n 0 dX9_splitAt_80 rfl rfl ?_
    refine mm_aload_n 1 dX9_splitAt_81 rfl rfl ?_
    refine mm_getr (b := 174) dX9_splitAt_82 rfl fk_X9_9 rfl so_177 sr_177_0 ?_
    refine mm_cV0i (dz := d - 1) dX9_splitAt_85 rfl mzX5_size ml_X9_32 imX5_size (by omega) so_174 ⟨rfl, rfl⟩ (ct_size rw_174) (Nat.le_of_ble_eq_true rfl) ⟨Nat.le_refl _, Nat.le_refl _⟩ ?_
    refine mm_top (v := nI (t)) ht ?_
    refine mm_icmp_geN (k) (t) (tgt := 105) dX9_splitAt_88 (by decide) (by omega) (by omega) (fun c88 => ?_) (fun c88 => ?_)
    · rw [if_neg (by rintro (⟨q, q2⟩ | ⟨q, q2⟩) <;> first | (revert q; decide) | (have := q2.1; omega) | exact c96 q2)] at hx
      exact hx
    · refine mm_aload_n 1 dX9_splitAt_91 rfl rfl ?_
      refine mm_iload_n 0 dX9_splitAt_92 rfl rfl ?_
      refine mm_cV1i (dz := d - 1) dX9_splitAt_93 rfl mzX9_isDigit ml_X9_61 imX9_isDigit (by omega) so_177 ⟨rfl, rfl⟩ (show mm_Ci g zX9_isDigit (d - 1) [.ref 177, .int (nI (k))] sh_S (wz I L) (if tk_D (I 175) t k then 1 else 0) (wz I L) from ck_isDigit (I := wz I L) ht ht96 (by omega) (by omega)) (Nat.le_of_ble_eq_true rfl) ⟨Nat.le_refl _, Nat.le_refl _⟩ ?_
      refine mm_if_eqB (tgt := 105) dX9_splitAt_96 (by decide) (fun c96 => ?_) (fun c96 => ?_)
      · rw [if_neg (by rintro (⟨q, q2⟩ | ⟨q, q2⟩) <;> first | (revert q; decide) | (have := q2.1; omega) | exact c96 q2)] at hx
        exact hx
      · refine mm_iincN (ls' := [(2, .int (nI (k + 1))), (0, .ref 177), (1, .int (nI (f)))]) 0 (k) 1 dX9_splitAt_99 rfl rfl (by decide) rfl ?_
        refine mm_goto (tgt := 80) dX9_splitAt_102 (by decide) ?_
        rw [if_pos (Or.inr ⟨rfl, c96⟩)] at hx
        exact ih (k + 1) (by omega) (by omega) hx
set_option maxRecDepth 100000 in
set_option maxHeartbeats 600000 in
theorem ck_spa {g : mm_G} {I : mm_I} {d : Nat} {t : Nat} (ht : I 174 1 = nI t) (ht96 : t ≤ 96) (hB : tp_ok (I 175) t) {L : List (Int32 × Int32 × Int32)} (hL : L.length < 97) {f : Nat} (hf : f < t) (hd : 6 ≤ d) : mm_Ci g zX9_splitAt d [.ref 177, .int (nI f)] sh_S (wz I L) (nI (cx (I 175) t f).2.1) (wz I (L ++ [wv (I 175) t (cx (I 175) t f)])) := by
  refine mm_Ci_of (fun Q hq => ?_)
  refine mm_begin (ls := [(0, .ref 177), (1, .int (nI (f)))]) (Nat.le_of_ble_eq_true rfl) rfl rfl ?_
  refine mm_iload_n 1 dX9_splitAt_0 rfl rfl ?_
  refine mm_iconst (v := 1) dX9_splitAt_1 rfl ?_
  refine mm_iaddN (f) (1) dX9_splitAt_2 ?_
  refine mm_istore_n (ls' := [(2, .int (nI (f + 1))), (0, .ref 177), (1, .int (nI (f)))]) dX9_splitAt_3 rfl (by decide) rfl ?_
  refine mm_aload_n 1 dX9_splitAt_4 rfl rfl ?_
  refine mm_iload_n 2 dX9_splitAt_5 rfl rfl ?_
  refine mm_cV1i (dz := d - 1) dX9_splitAt_6 rfl mzX9_isLetter ml_X9_51 imX9_isLetter (by omega) so_177 ⟨rfl, rfl⟩ (show mm_Ci g zX9_isLetter (d - 1) [.ref 177, .int (nI (f))] sh_S (wz I L) (if tk_L (I 175) t f then 1 else 0) (wz I L) from ck_isLetter (I := wz I L) ht ht96 (by omega) (by omega)) (Nat.le_of_ble_eq_true rfl) ⟨Nat.le_refl _, Nat.le_refl _⟩ ?_
  refine mm_if_eqB (tgt := 72) dX9_splitAt_9 (by decide) (fun c9 => ?_) (fun c9 => ?_)
  · refine mm_aload_n 1 dX9_splitAt_72 rfl rfl ?_
    refine mm_iload_n 2 dX9_splitAt_73 rfl rfl ?_
    refine mm_cV1i (dz := d - 1) dX9_splitAt_74 rfl mzX9_isDigit ml_X9_61 imX9_isDigit (by omega) so_177 ⟨rfl, rfl⟩ (show mm_Ci g zX9_isDigit (d - 1) [.ref 177, .int (nI (f))] sh_S (wz I L) (if tk_D (I 175) t f then 1 else 0) (wz I L) from ck_isDigit (I := wz I L) ht ht96 (by omega) (by omega)) (Nat.le_of_ble_eq_true rfl) ⟨Nat.le_refl _, Nat.le_refl _⟩ ?_
    refine mm_if_eqB (tgt := 151) dX9_splitAt_77 (by decide) (fun c77 => ?_) (fun c77 => ?_)
    · refine mm_aload_n 1 dX9_splitAt_151 rfl rfl ?_
      refine mm_aload_n 1 dX9_splitAt_152 rfl rfl ?_
      refine mm_getr (b := 174) dX9_splitAt_153 rfl fk_X9_9 rfl so_177 sr_177_0 ?_
      refine mm_iload_n 2 dX9_splitAt_156 rfl rfl ?_
      refine mm_cV1i (dz := d - 1) dX9_splitAt_157 rfl mzX5_at ml_X9_36 imX5_at (by omega) so_174 ⟨rfl, rfl⟩ (ct_at rw_174 (f) (by omega)) (Nat.le_of_ble_eq_true rfl) ⟨Nat.le_refl _, Nat.le_refl _⟩ ?_
      refine mm_top (v := I 175 f) rfl ?_
      refine mm_iconst (v := 0) dX9_splitAt_160 rfl ?_
      refine mm_iload_n 2 dX9_splitAt_161 rfl rfl ?_
      refine mm_cV3v (dz := d - 1) dX9_splitAt_162 rfl mzX9_addWord ml_X9_43 imX9_addWord (by omega) so_177 ⟨rfl, rfl⟩ (ck_addW (by omega) (by omega)) (Nat.le_of_ble_eq_true rfl) ⟨Nat.le_refl _, Nat.le_refl _⟩ ?_
      refine mm_at (pc' := 165) rfl ?_
      refine mm_iload_n 0 dX9_splitAt_165 rfl rfl ?_
      refine mm_iret dX9_splitAt_166 rfl ⟨Nat.le_refl _, Nat.le_refl _⟩ ?_
      obtain ⟨b, hb, eb⟩ := hB.2 f hf
      rw [cx, show tk_s (I 175) t f = 3 from (by unfold tk_s; rw [if_neg c9, if_neg c77]), tk_we_3, if_neg (by rintro (⟨q, -⟩ | ⟨q, -⟩); exact q rfl; revert q; decide), wv, cv, if_neg c9, if_neg c77, show tkd (I 175) (f, f + 1, 3) = b by (unfold tkd; rw [if_neg (by show ¬ (3 = 0); decide), if_neg (by show ¬ (3 = 2); decide), if_pos rfl, eb, vv_nI (by omega)]), ckd, if_pos hb, ← eb] at hq
      exact hq
    · obtain ⟨hw1, hw2⟩ := tk_we_le (T := I 175) (t := t) (s := 2) 96 (f + 1) (by omega)
      rw [cx, show tk_s (I 175) t f = 2 from (by unfold tk_s; rw [if_neg c9, if_pos c77])] at hq
      refine mm_sub [0, 1, 2] rfl (lk_sp2 ht ht96 hB hL (by omega) 96 (f + 1) (by omega) (by omega) ?_)
      generalize tk_we (I 175) t 2 96 (f + 1) = e at hw1 hw2 hq ⊢
      have hcv : ∀ s, cv (I 175) t (f, e, s) = nvi (I 175) f (e - f) := fun s => by unfold cv; rw [if_neg c9, if_pos c77]
      refine mm_aload_n 1 dX9_splitAt_105 rfl rfl ?_
      refine mm_iload_n 2 dX9_splitAt_106 rfl rfl ?_
      refine mm_cV1i (dz := d - 1) dX9_splitAt_107 rfl mzX9_isGlued ml_X9_54 imX9_isGlued (by omega) so_177 ⟨rfl, rfl⟩ (show mm_Ci g zX9_isGlued (d - 1) [.ref 177, .int (nI (f))] sh_S (wz I L) (if gl (I 175) t f = true then 1 else 0) (wz I L) from ck_gl (I := wz I L) ht ht96 (by omega) (by omega)) (Nat.le_of_ble_eq_true rfl) ⟨Nat.le_refl _, Nat.le_refl _⟩ ?_
      refine mm_if_neB (tgt := 124) dX9_splitAt_110 (by decide) (fun c110 => ?_) (fun c110 => ?_)
      · refine mm_iconst (v := 0) dX9_splitAt_124 rfl ?_
        refine mm_istore_n (ls' := [(3, .int (0)), (2, .int (nI (e))), (0, .ref 177), (1, .int (nI (f)))]) dX9_splitAt_125 rfl (by decide) rfl ?_
        refine mm_aload_n 2 dX9_splitAt_126 rfl rfl ?_
        refine mm_iload_n 0 dX9_splitAt_127 rfl rfl ?_
        refine mm_if_eq (tgt := 136) dX9_splitAt_128 (by decide) (fun _ => ?_) (fun q => absurd (by decide) q)
        refine mm_bipush (v := -105) dX9_splitAt_136 rfl ?_
        refine mm_aload_n 2 dX9_splitAt_138 rfl rfl ?_
        refine mm_iload_n 3 dX9_splitAt_139 rfl rfl ?_
        refine mm_iload_n 1 dX9_splitAt_140 rfl rfl ?_
        refine mm_cV2i (dz := d - 1) dX9_splitAt_141 rfl mzX9_numberAt ml_X9_64 imX9_numberAt (by omega) so_177 ⟨rfl, rfl⟩ (show mm_Ci g zX9_numberAt (d - 1) [.ref 177, .int (nI (f)), .int (nI (e))] sh_S (wz I L) (nvi (I 175) f (e - f)) (wz I L) from ck_num (I := wz I L) (by omega) (by omega) (by omega)) (Nat.le_of_ble_eq_true rfl) ⟨Nat.le_refl _, Nat.le_refl _⟩ ?_
        refine mm_iload_n 3 dX9_splitAt_144 rfl rfl ?_
        refine mm_cV3v (dz := d - 1) dX9_splitAt_145 rfl mzX9_addWord ml_X9_43 imX9_addWord (by omega) so_177 ⟨rfl, rfl⟩ (ck_addW (by omega) (by omega)) (Nat.le_of_ble_eq_true rfl) ⟨Nat.le_refl _, Nat.le_refl _⟩ ?_
        refine mm_goto (tgt := 165) dX9_splitAt_148 (by decide) ?_
        refine mm_iload_n 1 dX9_splitAt_165 rfl rfl ?_
        refine mm_iret dX9_splitAt_166 rfl ⟨Nat.le_refl _, Nat.le_refl _⟩ ?_
        by_cases cg : gl (I 175) t f = true ∨ 4 < e - f
        · rw [if_pos (show (¬ 2 = 3 ∧ gl (I 175) t f = true) ∨ (2 = 2 ∧ 4 < e - f) from cg.imp (fun q => ⟨by decide, q⟩) (fun q => ⟨rfl, q⟩)), wv, hcv] at hq
          first | exact hq | (exfalso; rcases cg with q | q; exact c110 q; omega)
        · rw [if_neg (show ¬ ((¬ 2 = 3 ∧ gl (I 175) t f = true) ∨ (2 = 2 ∧ 4 < e - f)) by rintro (⟨-, q⟩ | ⟨-, q⟩); exact cg (Or.inl q); exact cg (Or.inr q)), wv, hcv] at hq
          first | exact hq | (exfalso; first | exact cg (Or.inl c110) | exact cg (Or.inr (by omega)))
      · refine mm_iload_n 0 dX9_splitAt_113 rfl rfl ?_
        refine mm_iload_n 2 dX9_splitAt_114 rfl rfl ?_
        refine mm_isubN (e) (f) dX9_splitAt_115 (by omega) ?_
        refine mm_iconst (v := 4) dX9_splitAt_116 rfl ?_
        refine mm_icmp_gtN (e - f) (4) (tgt := 124) dX9_splitAt_117 (by decide) (by omega) (by omega) (fun c117 => ?_) (fun c117 => ?_)
        · refine mm_iconst (v := 0) dX9_splitAt_124 rfl ?_
          refine mm_istore_n (ls' := [(3, .int (0)), (2, .int (nI (e))), (0, .ref 177), (1, .int (nI (f)))]) dX9_splitAt_125 rfl (by decide) rfl ?_
          refine mm_aload_n 2 dX9_splitAt_126 rfl rfl ?_
          refine mm_iload_n 0 dX9_splitAt_127 rfl rfl ?_
          refine mm_if_eq (tgt := 136) dX9_splitAt_128 (by decide) (fun _ => ?_) (fun q => absurd (by decide) q)
          refine mm_bipush (v := -105) dX9_splitAt_136 rfl ?_
          refine mm_aload_n 2 dX9_splitAt_138 rfl rfl ?_
          refine mm_iload_n 3 dX9_splitAt_139 rfl rfl ?_
          refine mm_iload_n 1 dX9_splitAt_140 rfl rfl ?_
          refine mm_cV2i (dz := d - 1) dX9_splitAt_141 rfl mzX9_numberAt ml_X9_64 imX9_numberAt (by omega) so_177 ⟨rfl, rfl⟩ (show mm_Ci g zX9_numberAt (d - 1) [.ref 177, .int (nI (f)), .int (nI (e))] sh_S (wz I L) (nvi (I 175) f (e - f)) (wz I L) from ck_num (I := wz I L) (by omega) (by omega) (by omega)) (Nat.le_of_ble_eq_true rfl) ⟨Nat.le_refl _, Nat.le_refl _⟩ ?_
          refine mm_iload_n 3 dX9_splitAt_144 rfl rfl ?_
          refine mm_cV3v (dz := d - 1) dX9_splitAt_145 rfl mzX9_addWord ml_X9_43 imX9_addWord (by omega) so_177 ⟨rfl, rfl⟩ (ck_addW (by omega) (by omega)) (Nat.le_of_ble_eq_true rfl) ⟨Nat.le_refl _, Nat.le_refl _⟩ ?_
          refine mm_goto (tgt := 165) dX9_splitAt_148 (by decide) ?_
          refine mm_iload_n 1 dX9_splitAt_165 rfl rfl ?_
          refine mm_iret dX9_splitAt_166 rfl ⟨Nat.le_refl _, Nat.le_refl _⟩ ?_
          by_cases cg : gl (I 175) t f = true ∨ 4 < e - f
          · rw [if_pos (show (¬ 2 = 3 ∧ gl (I 175) t f = true) ∨ (2 = 2 ∧ 4 < e - f) from cg.imp (fun q => ⟨by decide, q⟩) (fun q => ⟨rfl, q⟩)), wv, hcv] at hq
            first | exact hq | (exfalso; rcases cg with q | q; exact c110 q; omega)
          · rw [if_neg (show ¬ ((¬ 2 = 3 ∧ gl (I 175) t f = true) ∨ (2 = 2 ∧ 4 < e - f)) by rintro (⟨-, q⟩ | ⟨-, q⟩); exact cg (Or.inl q); exact cg (Or.inr q)), wv, hcv] at hq
            first | exact hq | (exfalso; first | exact cg (Or.inl c110) | exact cg (Or.inr (by omega)))
        · refine mm_iconst (v := 1) dX9_splitAt_120 rfl ?_
          refine mm_goto (tgt := 125) dX9_splitAt_121 (by decide) ?_
          refine mm_istore_n (ls' := [(3, .int (1)), (2, .int (nI (e))), (0, .ref 177), (1, .int (nI (f)))]) dX9_splitAt_125 rfl (by decide) rfl ?_
          refine mm_aload_n 2 dX9_splitAt_126 rfl rfl ?_
          refine mm_iload_n 0 dX9_splitAt_127 rfl rfl ?_
          refine mm_if_eq (tgt := 136) dX9_splitAt_128 (by decide) (fun q => absurd q (by decide)) (fun _ => ?_)
          refine mm_bipush (v := -102) dX9_splitAt_131 rfl ?_
          refine mm_goto (tgt := 138) dX9_splitAt_133 (by decide) ?_
          refine mm_aload_n 2 dX9_splitAt_138 rfl rfl ?_
          refine mm_iload_n 3 dX9_splitAt_139 rfl rfl ?_
          refine mm_iload_n 1 dX9_splitAt_140 rfl rfl ?_
          refine mm_cV2i (dz := d - 1) dX9_splitAt_141 rfl mzX9_numberAt ml_X9_64 imX9_numberAt (by omega) so_177 ⟨rfl, rfl⟩ (show mm_Ci g zX9_numberAt (d - 1) [.ref 177, .int (nI (f)), .int (nI (e))] sh_S (wz I L) (nvi (I 175) f (e - f)) (wz I L) from ck_num (I := wz I L) (by omega) (by omega) (by omega)) (Nat.le_of_ble_eq_true rfl) ⟨Nat.le_refl _, Nat.le_refl _⟩ ?_
          refine mm_iload_n 3 dX9_splitAt_144 rfl rfl ?_
          refine mm_cV3v (dz := d - 1) dX9_splitAt_145 rfl mzX9_addWord ml_X9_43 imX9_addWord (by omega) so_177 ⟨rfl, rfl⟩ (ck_addW (by omega) (by omega)) (Nat.le_of_ble_eq_true rfl) ⟨Nat.le_refl _, Nat.le_refl _⟩ ?_
          refine mm_goto (tgt := 165) dX9_splitAt_148 (by decide) ?_
          refine mm_iload_n 1 dX9_splitAt_165 rfl rfl ?_
          refine mm_iret dX9_splitAt_166 rfl ⟨Nat.le_refl _, Nat.le_refl _⟩ ?_
          by_cases cg : gl (I 175) t f = true ∨ 4 < e - f
          · rw [if_pos (show (¬ 2 = 3 ∧ gl (I 175) t f = true) ∨ (2 = 2 ∧ 4 < e - f) from cg.imp (fun q => ⟨by decide, q⟩) (fun q => ⟨rfl, q⟩)), wv, hcv] at hq
            first | exact hq | (exfalso; rcases cg with q | q; exact c110 q; omega)
          · rw [if_neg (show ¬ ((¬ 2 = 3 ∧ gl (I 175) t f = true) ∨ (2 = 2 ∧ 4 < e - f)) by rintro (⟨-, q⟩ | ⟨-, q⟩); exact cg (Or.inl q); exact cg (Or.inr q)), wv, hcv] at hq
            first | exact hq | (exfalso; first | exact cg (Or.inl c110) | exact cg (Or.inr (by omega)))
  · obtain ⟨hw1, hw2⟩ := tk_we_le (T := I 175) (t := t) (s := 1) 96 (f + 1) (by omega)
    rw [cx, show tk_s (I 175) t f = 1 from (by unfold tk_s; rw [if_pos c9])] at hq
    refine mm_sub [0, 1, 2] rfl (lk_sp1 ht ht96 hB hL (by omega) 96 (f + 1) (by omega) (by omega) ?_)
    generalize tk_we (I 175) t 1 96 (f + 1) = e at hw1 hw2 hq ⊢
    have hcv : ∀ s, cv (I 175) t (f, e, s) = I 175 f := fun s => by unfold cv; rw [if_pos c9]
    refine mm_aload_n 1 dX9_splitAt_37 rfl rfl ?_
    refine mm_aload_n 1 dX9_splitAt_38 rfl rfl ?_
    refine mm_iload_n 2 dX9_splitAt_39 rfl rfl ?_
    refine mm_cV1i (dz := d - 1) dX9_splitAt_40 rfl mzX9_isGlued ml_X9_54 imX9_isGlued (by omega) so_177 ⟨rfl, rfl⟩ (show mm_Ci g zX9_isGlued (d - 1) [.ref 177, .int (nI (f))] sh_S (wz I L) (if gl (I 175) t f = true then 1 else 0) (wz I L) from ck_gl (I := wz I L) ht ht96 (by omega) (by omega)) (Nat.le_of_ble_eq_true rfl) ⟨Nat.le_refl _, Nat.le_refl _⟩ ?_
    refine mm_if_eqB (tgt := 51) dX9_splitAt_43 (by decide) (fun c43 => ?_) (fun c43 => ?_)
    · refine mm_aload_n 1 dX9_splitAt_51 rfl rfl ?_
      refine mm_iload_n 2 dX9_splitAt_52 rfl rfl ?_
      refine mm_iload_n 0 dX9_splitAt_53 rfl rfl ?_
      refine mm_cV2i (dz := d - 1) dX9_splitAt_54 rfl mzX9_wordKind ml_X9_57 imX9_wordKind (by omega) so_177 ⟨rfl, rfl⟩ (show mm_Ci g zX9_wordKind (d - 1) [.ref 177, .int (nI (f)), .int (nI (e))] sh_S (wz I L) (ckd (tkd (I 175) (f, e, 1))) (wz I L) from ck_wk (I := wz I L) hB (by omega) (by omega) (by omega) (by omega)) (Nat.le_of_ble_eq_true rfl) ⟨Nat.le_refl _, Nat.le_refl _⟩ ?_
      refine mm_aload_n 1 dX9_splitAt_57 rfl rfl ?_
      refine mm_getr (b := 174) dX9_splitAt_58 rfl fk_X9_9 rfl so_177 sr_177_0 ?_
      refine mm_iload_n 2 dX9_splitAt_61 rfl rfl ?_
      refine mm_cV1i (dz := d - 1) dX9_splitAt_62 rfl mzX5_at ml_X9_36 imX5_at (by omega) so_174 ⟨rfl, rfl⟩ (ct_at rw_174 (f) (by omega)) (Nat.le_of_ble_eq_true rfl) ⟨Nat.le_refl _, Nat.le_refl _⟩ ?_
      refine mm_at (pc' := 65) rfl ?_
      refine mm_top (v := I 175 f) rfl ?_
      refine mm_iload_n 2 dX9_splitAt_65 rfl rfl ?_
      refine mm_cV3v (dz := d - 1) dX9_splitAt_66 rfl mzX9_addWord ml_X9_43 imX9_addWord (by omega) so_177 ⟨rfl, rfl⟩ (ck_addW (by omega) (by omega)) (Nat.le_of_ble_eq_true rfl) ⟨Nat.le_refl _, Nat.le_refl _⟩ ?_
      refine mm_goto (tgt := 165) dX9_splitAt_69 (by decide) ?_
      refine mm_iload_n 0 dX9_splitAt_165 rfl rfl ?_
      refine mm_iret dX9_splitAt_166 rfl ⟨Nat.le_refl _, Nat.le_refl _⟩ ?_
      by_cases cg : gl (I 175) t f = true
      · rw [if_pos (show (¬ 1 = 3 ∧ gl (I 175) t f = true) ∨ (1 = 2 ∧ 4 < e - f) from Or.inl ⟨by decide, cg⟩), wv, hcv] at hq
        first | exact hq | exact absurd cg c43
      · rw [if_neg (show ¬ ((¬ 1 = 3 ∧ gl (I 175) t f = true) ∨ (1 = 2 ∧ 4 < e - f)) by rintro (⟨-, q⟩ | ⟨q, -⟩); exact cg q; revert q; decide), wv, hcv] at hq
        first | exact hq | exact absurd c43 cg
    · refine mm_bipush (v := -105) dX9_splitAt_46 rfl ?_
      refine mm_goto (tgt := 57) dX9_splitAt_48 (by decide) ?_
      refine mm_aload_n 1 dX9_splitAt_57 rfl rfl ?_
      refine mm_getr (b := 174) dX9_splitAt_58 rfl fk_X9_9 rfl so_177 sr_177_0 ?_
      refine mm_iload_n 2 dX9_splitAt_61 rfl rfl ?_
      refine mm_cV1i (dz := d - 1) dX9_splitAt_62 rfl mzX5_at ml_X9_36 imX5_at (by omega) so_174 ⟨rfl, rfl⟩ (ct_at rw_174 (f) (by omega)) (Nat.le_of_ble_eq_true rfl) ⟨Nat.le_refl _, Nat.le_refl _⟩ ?_
      refine mm_top (v := I 175 f) rfl ?_
      refine mm_iload_n 2 dX9_splitAt_65 rfl rfl ?_
      refine mm_cV3v (dz := d - 1) dX9_splitAt_66 rfl mzX9_addWord ml_X9_43 imX9_addWord (by omega) so_177 ⟨rfl, rfl⟩ (ck_addW (by omega) (by omega)) (Nat.le_of_ble_eq_true rfl) ⟨Nat.le_refl _, Nat.le_refl _⟩ ?_
      refine mm_goto (tgt := 165) dX9_splitAt_69 (by decide) ?_
      refine mm_iload_n 0 dX9_splitAt_165 rfl rfl ?_
      refine mm_iret dX9_splitAt_166 rfl ⟨Nat.le_refl _, Nat.le_refl _⟩ ?_
      by_cases cg : gl (I 175) t f = true
      · rw [if_pos (show (¬ 1 = 3 ∧ gl (I 175) t f = true) ∨ (1 = 2 ∧ 4 < e - f) from Or.inl ⟨by decide, cg⟩), wv, hcv] at hq
        first | exact hq | exact absurd cg c43
      · rw [if_neg (show ¬ ((¬ 1 = 3 ∧ gl (I 175) t f = true) ∨ (1 = 2 ∧ 4 < e - f)) by rintro (⟨-, q⟩ | ⟨q, -⟩); exact cg q; revert q; decide), wv, hcv] at hq
        first | exact hq | exact absurd c43 cg
