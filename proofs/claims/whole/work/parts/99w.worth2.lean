/-! THE CLASS: what an E is worth, its row -/
def stA (A : mm_I) (s : ev_S) : mm_I := fun a => if a = 173 then s.2 else if a = 172 then upd (A 172) 1 (nI s.1) else A a
theorem stA_a {A : mm_I} {s : ev_S} {a : Nat} (h : ¬ (a = 172 ∨ a = 173)) : stA A s a = A a := by unfold stA; rw [if_neg (by omega), if_neg (by omega)]
theorem stA_1 {A : mm_I} {s : ev_S} : stA A s 172 1 = nI s.1 := by unfold stA; rw [if_neg (by decide), if_pos rfl, upd_y]
theorem stA_f {A : mm_I} {s : ev_S} {i : Nat} : stA A s 173 i = s.2 i := by unfold stA; rw [if_pos rfl]
theorem stA_p {A : mm_I} {h u : Nat} {f : Nat → Int32} {v : Int32} : mm_up (mm_up (stA A (h, f)) 173 u v) 172 1 (nI (u + 1)) = stA A (u + 1, upd f u v) := by
  funext a i
  by_cases e : a = 173
  · subst e; rw [mm_up_ne (by decide)]; unfold stA mm_up upd; simp
  by_cases e2 : a = 172
  · subst e2
    by_cases e3 : i = 1
    · subst e3; rw [mm_up_at, stA_1]
    · rw [mm_up_ni e3, mm_up_ne (by decide)]; unfold stA upd; simp [e3]
  · rw [mm_up_ne e2, mm_up_ne e, stA_a (by omega), stA_a (by omega)]
theorem stA_q {A : mm_I} {h u : Nat} {f : Nat → Int32} : mm_up (stA A (h, f)) 172 1 (nI u) = stA A (u, f) := by
  funext a i
  by_cases e2 : a = 172
  · subst e2
    by_cases e3 : i = 1
    · subst e3; rw [mm_up_at, stA_1]
    · rw [mm_up_ni e3]; unfold stA upd; simp [e3]
  · rw [mm_up_ne e2]
    by_cases e : a = 173
    · subst e; rfl
    · rw [stA_a (by omega), stA_a (by omega)]
/-- codes of the class's sums from place K on, and the STOP behind them -/
def vc_at (F : Nat → Int32) : Nat → List Nat → Prop
  | K, [] => F K = -1
  | K, c :: cs => F K = cs_ c ∧ c < 30000 ∧ vc_at F (K + 1) cs
theorem cs_0 {c : Nat} (h : c < 10000) : cs_ c = nI c := if_pos h
theorem cs_1 {k : Nat} (h : k < 10) : cs_ (10000 + k) = - (mm_sx 12).getD k 0 := by unfold cs_; rw [if_neg (by omega), if_pos (by omega), Nat.add_sub_cancel_left]
theorem cs_2 {k : Nat} (h : k < 9) : cs_ (20000 + k) = - (mm_sx 13).getD k 0 := by unfold cs_; rw [if_neg (by omega), if_neg (by omega), if_neg (by omega), Nat.add_sub_cancel_left]
theorem nm_f : ∀ k, k < 10 → (- (mm_sx 12).getD k 0 < (0 : Int32)) ∧ ¬ (- (mm_sx 12).getD k 0 = (-1 : Int32)) ∧ ¬ (- (mm_sx 12).getD k 0 = (-33 : Int32)) ∧ (- (mm_sx 12).getD k 0 ≤ (-97 : Int32)) ∧ ((-122 : Int32) ≤ - (mm_sx 12).getD k 0) ∧ - (- (mm_sx 12).getD k 0) = (mm_sx 12).getD k 0 := by decide
theorem sg_f : ∀ k, k < 8 → (- (mm_sx 13).getD k 0 < (0 : Int32)) ∧ ¬ (- (mm_sx 13).getD k 0 = (-1 : Int32)) ∧ ¬ (- (mm_sx 13).getD k 0 = (-33 : Int32)) ∧ ¬ ((- (mm_sx 13).getD k 0 ≤ (-97 : Int32)) ∧ ((-122 : Int32) ≤ - (mm_sx 13).getD k 0)) ∧ - (- (mm_sx 13).getD k 0) = (mm_sx 13).getD k 0 := by decide
theorem ev_j {en : Nat → Int32} : ∀ (cs : List Nat) (h : Nat) (f f' : Nat → Int32), wf cs h → (∀ i, i < h → f i = f' i) → (ev en cs (h, f)).2 0 = (ev en cs (h, f')).2 0 := by
  intro cs
  induction cs with
  | nil => intro h f f' hw hf; exact hf 0 (by have : h = 1 := hw; omega)
  | cons c cs ih =>
    intro h f f' hw hf
    show (ev en cs (ev_s en c (h, f))).2 0 = (ev en cs (ev_s en c (h, f'))).2 0
    unfold wf at hw
    unfold ev_s
    by_cases c1 : c < 10000
    · rw [if_pos c1, if_pos c1]
      rw [if_pos (by omega)] at hw
      exact ih _ _ _ hw.2.2 (fun i hi => by unfold upd; by_cases e : i = h; (rw [if_pos e, if_pos e]); (rw [if_neg e, if_neg e]; exact hf i (by omega)))
    rw [if_neg c1, if_neg c1]
    by_cases c2 : c < 20000
    · rw [if_pos c2, if_pos c2]
      rw [if_pos c2] at hw
      exact ih _ _ _ hw.2.2 (fun i hi => by unfold upd; by_cases e : i = h; (rw [if_pos e, if_pos e]); (rw [if_neg e, if_neg e]; exact hf i (by omega)))
    rw [if_neg c2, if_neg c2]
    rw [if_neg c2] at hw
    by_cases c3 : c = 20008
    · rw [if_pos c3, if_pos c3]
      rw [if_pos c3] at hw
      refine ih _ _ _ hw.2.2 (fun i hi => ?_)
      show upd f (h - 1) (if f (h - 1) = 0 then 1 else 0) i = upd f' (h - 1) (if f' (h - 1) = 0 then 1 else 0) i
      rw [show f (h - 1) = f' (h - 1) from hf _ (by omega)]
      unfold upd; by_cases e : i = h - 1
      · rw [if_pos e, if_pos e]
      · rw [if_neg e, if_neg e]; exact hf i hi
    · rw [if_neg c3, if_neg c3]
      rw [if_neg c3] at hw
      refine ih _ _ _ hw.2.2.2 (fun i hi => ?_)
      show upd f (h - 1 - 1) (sp_dn (f (h - 1 - 1)) (f (h - 1)) (c - 20000)) i = upd f' (h - 1 - 1) (sp_dn (f' (h - 1 - 1)) (f' (h - 1)) (c - 20000)) i
      rw [show f (h - 1 - 1) = f' (h - 1 - 1) from hf _ (by omega), show f (h - 1) = f' (h - 1) from hf _ (by omega)]
      unfold upd; by_cases e : i = h - 1 - 1
      · rw [if_pos e, if_pos e]
      · rw [if_neg e, if_neg e]; exact hf i (by change i < h - 1 at hi; omega)
set_option maxRecDepth 100000 in
set_option maxHeartbeats 600000 in
theorem lg_wo {g : mm_G} {d : Nat} {w h n l k o r : Nat} {A : mm_I} {N : Nat → Int32} (hz : zOK (w * h) n l k o r) (hW : mo_W N w h) {m c : Nat} (hm : m < n) (h1 : N (630 + 40 * m + 1) = nI c) (hcc : c < w * h) {la lb : Nat} (h2 : N 2 = nI la) (h3 : N 3 = nI lb) (hla : 1 ≤ la ∧ la ≤ 24) (hlb : lb ≤ 24) {p L : Nat} (hp : p < 6) (hL : A (55 + 5 * p) 1 = nI L) (hL96 : L ≤ 96) {Q : Option Value → mm_Sh → mm_I → Prop} {e0 : Nat} (hd : 4 ≤ d) : ∀ (cs : List Nat) (i hh : Nat) (f : Nat → Int32), i + cs.length < L → vc_at (A (55 + 5 * p + 1)) i cs → wf cs hh → (∀ r_, r_ = (ev (sp_nm N w m c) cs (hh, f)).2 0 → ∀ s : ev_S, s.2 0 = r_ → Q (some (.int r_)) sh_S (cN (w * h) n l k o r (stA A (0, s.2)) N)) → mm_Ex g zX6_worth d (0, 0) (0, 0) sh_S (cN (w * h) n l k o r (stA A (hh, f)) N) 11 [(4, .int (nI (i))), (0, .ref 171), (1, .ref (36 + 3 * m)), (2, .ref (52 + 5 * p)), (3, .int (nI (e0)))] [] Q := by
  obtain ⟨hz1, hz2, hz3, hz4, hz5, hz6⟩ := id hz
  have hc := mo_W_c hW
  obtain ⟨-, -, hw1, hw2, hh1, hh2⟩ := id hW
  intro cs
  induction cs with
  | nil =>
    intro i hh f hi hv hw hk_
    have eh : hh = 1 := hw
    subst eh
    change A (55 + 5 * p + 1) i = -1 at hv
    have hi2 : i < L := by have q := hi; rw [List.length_nil] at q; omega
    refine mm_iload 0 dX6_worth_11 rfl ?_
    refine mm_aload_n 3 dX6_worth_13 rfl rfl ?_
    refine mm_getr (b := 55 + 5 * p) dX6_worth_14 rfl fk_X6_270 rfl (sp_1 hp).1 (sp_1 hp).2.2.2.1 ?_
    refine mm_cV0i (dz := d - 1) dX6_worth_17 rfl mzX5_size ml_X6_72 imX5_size (by omega) (sp_1 hp).2.2.2.2.1.1 ⟨rfl, rfl⟩ (ct_size (sp_1 hp).2.2.2.2.1) (Nat.le_of_ble_eq_true rfl) ⟨Nat.le_refl _, Nat.le_refl _⟩ ?_
    refine mm_top (v := nI (L)) ((cN_off hz2 (by omega)).trans ((congrFun (stA_a (by omega)) 1).trans hL)) ?_
    refine mm_icmp_geN (i) (L) (tgt := 176) dX6_worth_20 (by decide) (by omega) (by omega) (fun c20 => ?_) (fun c20 => ?_)
    · refine mm_aload_n 1 dX6_worth_176 rfl rfl ?_
      refine mm_getr (b := 172) dX6_worth_177 rfl fk_X6_20 rfl so_171 sr_171_1 ?_
      refine mm_cV0i (dz := d - 1) dX6_worth_180 rfl mzX5_pop ml_X6_273 imX5_pop (by omega) so_172 ⟨rfl, rfl⟩ (ct_pop rw_172 (0) (by exact (cN_off hz2 (by decide)).trans (stA_1.trans (by first | rfl | (congr 1; omega)))) (by omega) (by omega)) (Nat.le_of_ble_eq_true rfl) ⟨Nat.le_refl _, Nat.le_refl _⟩ ?_
      refine mm_top (v := f (0)) ((cN_off hz2 (by decide)).trans stA_f) ?_
      refine mm_mem (J := cN (w * h) n l k o r (stA A (0, f)) N) (by rw [cN_dof hz2 (by decide), stA_q]) ?_
      refine mm_iret dX6_worth_183 rfl ⟨Nat.le_refl _, Nat.le_refl _⟩ ?_
      exact hk_ _ rfl (0, f) rfl
    · refine mm_aload_n 3 dX6_worth_23 rfl rfl ?_
      refine mm_getr (b := 55 + 5 * p) dX6_worth_24 rfl fk_X6_270 rfl (sp_1 hp).1 (sp_1 hp).2.2.2.1 ?_
      refine mm_iload 0 dX6_worth_27 rfl ?_
      refine mm_cV1i (dz := d - 1) dX6_worth_29 rfl mzX5_at ml_X6_76 imX5_at (by omega) (sp_1 hp).2.2.2.2.1.1 ⟨rfl, rfl⟩ (ct_at (sp_1 hp).2.2.2.2.1 (i) (by omega)) (Nat.le_of_ble_eq_true rfl) ⟨Nat.le_refl _, Nat.le_refl _⟩ ?_
      refine mm_top (v := -1) ((cN_off hz2 (by omega)).trans ((congrFun (stA_a (by omega)) i).trans hv)) ?_
      refine mm_iconst (v := -1) dX6_worth_32 rfl ?_
      refine mm_icmp_eq (tgt := 176) dX6_worth_33 (by decide) (fun _ => ?_) (fun q => absurd (by decide) q)
      refine mm_aload_n 1 dX6_worth_176 rfl rfl ?_
      refine mm_getr (b := 172) dX6_worth_177 rfl fk_X6_20 rfl so_171 sr_171_1 ?_
      refine mm_cV0i (dz := d - 1) dX6_worth_180 rfl mzX5_pop ml_X6_273 imX5_pop (by omega) so_172 ⟨rfl, rfl⟩ (ct_pop rw_172 (0) (by exact (cN_off hz2 (by decide)).trans (stA_1.trans (by first | rfl | (congr 1; omega)))) (by omega) (by omega)) (Nat.le_of_ble_eq_true rfl) ⟨Nat.le_refl _, Nat.le_refl _⟩ ?_
      refine mm_top (v := f (0)) ((cN_off hz2 (by decide)).trans stA_f) ?_
      refine mm_mem (J := cN (w * h) n l k o r (stA A (0, f)) N) (by rw [cN_dof hz2 (by decide), stA_q]) ?_
      refine mm_iret dX6_worth_183 rfl ⟨Nat.le_refl _, Nat.le_refl _⟩ ?_
      exact hk_ _ rfl (0, f) rfl
  | cons c0 cs ih =>
    intro i hh f hi hv hw hk_
    have hi2 : i + 1 + cs.length < L := by have q := hi; rw [List.length_cons] at q; omega
    change A (55 + 5 * p + 1) i = cs_ c0 ∧ c0 < 30000 ∧ vc_at (A (55 + 5 * p + 1)) (i + 1) cs at hv
    unfold wf at hw
    by_cases k1 : c0 < 10000
    · rw [if_pos (by omega)] at hw
      refine mm_iload 0 dX6_worth_11 rfl ?_
      refine mm_aload_n 3 dX6_worth_13 rfl rfl ?_
      refine mm_getr (b := 55 + 5 * p) dX6_worth_14 rfl fk_X6_270 rfl (sp_1 hp).1 (sp_1 hp).2.2.2.1 ?_
      refine mm_cV0i (dz := d - 1) dX6_worth_17 rfl mzX5_size ml_X6_72 imX5_size (by omega) (sp_1 hp).2.2.2.2.1.1 ⟨rfl, rfl⟩ (ct_size (sp_1 hp).2.2.2.2.1) (Nat.le_of_ble_eq_true rfl) ⟨Nat.le_refl _, Nat.le_refl _⟩ ?_
      refine mm_top (v := nI (L)) ((cN_off hz2 (by omega)).trans ((congrFun (stA_a (by omega)) 1).trans hL)) ?_
      refine mm_icmp_geN (i) (L) (tgt := 176) dX6_worth_20 (by decide) (by omega) (by omega) (fun c20 => ?_) (fun c20 => ?_)
      · first | (exfalso; omega) | (exfalso; have q := nI_pos' (n := c0) (by omega); rw [c33] at q; exact absurd q (by decide))
      · refine mm_aload_n 3 dX6_worth_23 rfl rfl ?_
        refine mm_getr (b := 55 + 5 * p) dX6_worth_24 rfl fk_X6_270 rfl (sp_1 hp).1 (sp_1 hp).2.2.2.1 ?_
        refine mm_iload 0 dX6_worth_27 rfl ?_
        refine mm_cV1i (dz := d - 1) dX6_worth_29 rfl mzX5_at ml_X6_76 imX5_at (by omega) (sp_1 hp).2.2.2.2.1.1 ⟨rfl, rfl⟩ (ct_at (sp_1 hp).2.2.2.2.1 (i) (by omega)) (Nat.le_of_ble_eq_true rfl) ⟨Nat.le_refl _, Nat.le_refl _⟩ ?_
        refine mm_top (v := nI (c0)) ((cN_off hz2 (by omega)).trans ((congrFun (stA_a (by omega)) i).trans (hv.1.trans (cs_0 k1)))) ?_
        refine mm_iconst (v := -1) dX6_worth_32 rfl ?_
        refine mm_icmp_eq (tgt := 176) dX6_worth_33 (by decide) (fun c33 => ?_) (fun c33 => ?_)
        · first | (exfalso; omega) | (exfalso; have q := nI_pos' (n := c0) (by omega); rw [c33] at q; exact absurd q (by decide))
        · refine mm_aload_n 3 dX6_worth_36 rfl rfl ?_
          refine mm_getr (b := 55 + 5 * p) dX6_worth_37 rfl fk_X6_270 rfl (sp_1 hp).1 (sp_1 hp).2.2.2.1 ?_
          refine mm_iload 0 dX6_worth_40 rfl ?_
          refine mm_cV1i (dz := d - 1) dX6_worth_42 rfl mzX5_at ml_X6_76 imX5_at (by omega) (sp_1 hp).2.2.2.2.1.1 ⟨rfl, rfl⟩ (ct_at (sp_1 hp).2.2.2.2.1 (i) (by omega)) (Nat.le_of_ble_eq_true rfl) ⟨Nat.le_refl _, Nat.le_refl _⟩ ?_
          refine mm_top (v := nI (c0)) ((cN_off hz2 (by omega)).trans ((congrFun (stA_a (by omega)) i).trans (hv.1.trans (cs_0 k1)))) ?_
          refine mm_istore (ls' := [(5, .int (nI (c0))), (4, .int (nI (i))), (0, .ref 171), (1, .ref (36 + 3 * m)), (2, .ref (52 + 5 * p)), (3, .int (nI (e0)))]) dX6_worth_45 (by decide) rfl ?_
          refine mm_iload 0 dX6_worth_47 rfl ?_
          refine mm_if_ltN (c0) (tgt := 65) dX6_worth_49 (by decide) (by omega) ?_
          refine mm_at (pc' := 52) rfl ?_
          refine mm_aload_n 2 dX6_worth_52 rfl rfl ?_
          refine mm_getr (b := 172) dX6_worth_53 rfl fk_X6_20 rfl so_171 sr_171_1 ?_
          refine mm_iload 0 dX6_worth_56 rfl ?_
          refine mm_cV1i (dz := d - 1) dX6_worth_58 rfl mzX5_add ml_X6_139 imX5_add (by omega) so_172 ⟨rfl, rfl⟩ (ct_add rw_172 (hh) (by exact (cN_off hz2 (by decide)).trans stA_1) (by omega)) (Nat.le_of_ble_eq_true rfl) ⟨Nat.le_refl _, Nat.le_refl _⟩ ?_
          refine mm_mem (J := cN (w * h) n l k o r (stA A (hh + 1, upd f (hh) (nI (c0)))) N) (by rw [cN_dof hz2 (by decide), cN_dof hz2 (by decide), stA_p]) ?_
          refine mm_pop dX6_worth_61 rfl ?_
          refine mm_goto (tgt := 170) dX6_worth_62 (by decide) ?_
          refine mm_iincN (ls' := [(4, .int (nI (i + 1))), (5, .int (nI (c0))), (0, .ref 171), (1, .ref (36 + 3 * m)), (2, .ref (52 + 5 * p)), (3, .int (nI (e0)))]) 1 (i) 1 dX6_worth_170 rfl rfl (by decide) rfl ?_
          refine mm_goto (tgt := 11) dX6_worth_173 (by decide) ?_
          exact mm_sub [0, 2, 3, 4, 5] rfl (ih (i + 1) _ _ (by omega) hv.2.2 hw.2.2 (fun r_ h1_ s h2_ => hk_ r_ (h1_.trans (by show _ = (ev (sp_nm N w m c) cs (ev_s (sp_nm N w m c) _ (hh, f))).2 0; unfold ev_s; rw [if_pos k1])) s h2_))
    by_cases k2 : c0 < 20000
    · rw [if_pos k2] at hw
      obtain ⟨kk, hk, rfl⟩ : ∃ kk, kk < 10 ∧ c0 = 10000 + kk := ⟨c0 - 10000, by have q := hw.1; omega, by omega⟩
      have nf := nm_f kk hk
      refine mm_iload 0 dX6_worth_11 rfl ?_
      refine mm_aload_n 3 dX6_worth_13 rfl rfl ?_
      refine mm_getr (b := 55 + 5 * p) dX6_worth_14 rfl fk_X6_270 rfl (sp_1 hp).1 (sp_1 hp).2.2.2.1 ?_
      refine mm_cV0i (dz := d - 1) dX6_worth_17 rfl mzX5_size ml_X6_72 imX5_size (by omega) (sp_1 hp).2.2.2.2.1.1 ⟨rfl, rfl⟩ (ct_size (sp_1 hp).2.2.2.2.1) (Nat.le_of_ble_eq_true rfl) ⟨Nat.le_refl _, Nat.le_refl _⟩ ?_
      refine mm_top (v := nI (L)) ((cN_off hz2 (by omega)).trans ((congrFun (stA_a (by omega)) 1).trans hL)) ?_
      refine mm_icmp_geN (i) (L) (tgt := 176) dX6_worth_20 (by decide) (by omega) (by omega) (fun c20 => ?_) (fun c20 => ?_)
      · first | exact absurd c33 nf.2.1 | (exfalso; omega)
      · refine mm_aload_n 3 dX6_worth_23 rfl rfl ?_
        refine mm_getr (b := 55 + 5 * p) dX6_worth_24 rfl fk_X6_270 rfl (sp_1 hp).1 (sp_1 hp).2.2.2.1 ?_
        refine mm_iload 0 dX6_worth_27 rfl ?_
        refine mm_cV1i (dz := d - 1) dX6_worth_29 rfl mzX5_at ml_X6_76 imX5_at (by omega) (sp_1 hp).2.2.2.2.1.1 ⟨rfl, rfl⟩ (ct_at (sp_1 hp).2.2.2.2.1 (i) (by omega)) (Nat.le_of_ble_eq_true rfl) ⟨Nat.le_refl _, Nat.le_refl _⟩ ?_
        refine mm_top (v := -(mm_sx 12).getD kk 0) ((cN_off hz2 (by omega)).trans ((congrFun (stA_a (by omega)) i).trans (hv.1.trans (cs_1 hk)))) ?_
        refine mm_iconst (v := -1) dX6_worth_32 rfl ?_
        refine mm_icmp_eq (tgt := 176) dX6_worth_33 (by decide) (fun c33 => ?_) (fun c33 => ?_)
        · first | exact absurd c33 nf.2.1 | (exfalso; omega)
        · refine mm_aload_n 3 dX6_worth_36 rfl rfl ?_
          refine mm_getr (b := 55 + 5 * p) dX6_worth_37 rfl fk_X6_270 rfl (sp_1 hp).1 (sp_1 hp).2.2.2.1 ?_
          refine mm_iload 0 dX6_worth_40 rfl ?_
          refine mm_cV1i (dz := d - 1) dX6_worth_42 rfl mzX5_at ml_X6_76 imX5_at (by omega) (sp_1 hp).2.2.2.2.1.1 ⟨rfl, rfl⟩ (ct_at (sp_1 hp).2.2.2.2.1 (i) (by omega)) (Nat.le_of_ble_eq_true rfl) ⟨Nat.le_refl _, Nat.le_refl _⟩ ?_
          refine mm_top (v := -(mm_sx 12).getD kk 0) ((cN_off hz2 (by omega)).trans ((congrFun (stA_a (by omega)) i).trans (hv.1.trans (cs_1 hk)))) ?_
          refine mm_istore (ls' := [(5, .int (-(mm_sx 12).getD kk 0)), (4, .int (nI (i))), (0, .ref 171), (1, .ref (36 + 3 * m)), (2, .ref (52 + 5 * p)), (3, .int (nI (e0)))]) dX6_worth_45 (by decide) rfl ?_
          refine mm_iload 0 dX6_worth_47 rfl ?_
          refine mm_if_lt (tgt := 65) dX6_worth_49 (by decide) (fun c49 => ?_) (fun c49 => ?_)
          · refine mm_iload 0 dX6_worth_65 rfl ?_
            refine mm_bipush (v := -33) dX6_worth_67 rfl ?_
            refine mm_icmp_ne (tgt := 101) dX6_worth_69 (by decide) (fun c69 => ?_) (fun c69 => ?_)
            · refine mm_iload 0 dX6_worth_101 rfl ?_
              refine mm_bipush (v := -97) dX6_worth_103 rfl ?_
              refine mm_icmp_gt (tgt := 134) dX6_worth_105 (by decide) (fun c105 => ?_) (fun c105 => ?_)
              · first | exact absurd nf.2.2.2.1 (Int32.not_le.mpr c105) | exact absurd nf.2.2.2.2.1 (Int32.not_le.mpr c112) | exact absurd c105 (Int32.not_lt.mpr nf.2.2.2.1) | exact absurd c112 (Int32.not_lt.mpr nf.2.2.2.2.1)
              · refine mm_iload 0 dX6_worth_108 rfl ?_
                refine mm_bipush (v := -122) dX6_worth_110 rfl ?_
                refine mm_icmp_lt (tgt := 134) dX6_worth_112 (by decide) (fun c112 => ?_) (fun c112 => ?_)
                · first | exact absurd nf.2.2.2.1 (Int32.not_le.mpr c105) | exact absurd nf.2.2.2.2.1 (Int32.not_le.mpr c112) | exact absurd c105 (Int32.not_lt.mpr nf.2.2.2.1) | exact absurd c112 (Int32.not_lt.mpr nf.2.2.2.2.1)
                · refine mm_aload_n 2 dX6_worth_115 rfl rfl ?_
                  refine mm_getr (b := 172) dX6_worth_116 rfl fk_X6_20 rfl so_171 sr_171_1 ?_
                  refine mm_aload_n 2 dX6_worth_119 rfl rfl ?_
                  refine mm_aload_n 3 dX6_worth_120 rfl rfl ?_
                  refine mm_iload 0 dX6_worth_121 rfl ?_
                  refine mm_ineg dX6_worth_123 ?_
                  refine mm_top (v := (mm_sx 12).getD kk 0) nf.2.2.2.2.2 ?_
                  refine mm_cV2i (dz := d - 1) dX6_worth_124 rfl mzX6_sense ml_X6_280 imX6_sense (by omega) so_171 ⟨rfl, rfl⟩ (cg_sense hz hW hm h1 hcc h2 h3 hla hlb hk (by omega)) (Nat.le_of_ble_eq_true rfl) ⟨Nat.le_refl _, Nat.le_refl _⟩ ?_
                  refine mm_at (pc' := 127) rfl ?_
                  refine mm_cV1i (dz := d - 1) dX6_worth_127 rfl mzX5_add ml_X6_139 imX5_add (by omega) so_172 ⟨rfl, rfl⟩ (ct_add rw_172 (hh) (by exact (cN_off hz2 (by decide)).trans stA_1) (by omega)) (Nat.le_of_ble_eq_true rfl) ⟨Nat.le_refl _, Nat.le_refl _⟩ ?_
                  refine mm_mem (J := cN (w * h) n l k o r (stA A (hh + 1, upd f (hh) (sp_nm N w m c kk))) N) (by rw [cN_dof hz2 (by decide), cN_dof hz2 (by decide), stA_p]) ?_
                  refine mm_pop dX6_worth_130 rfl ?_
                  refine mm_goto (tgt := 170) dX6_worth_131 (by decide) ?_
                  refine mm_iincN (ls' := [(4, .int (nI (i + 1))), (5, .int (-(mm_sx 12).getD kk 0)), (0, .ref 171), (1, .ref (36 + 3 * m)), (2, .ref (52 + 5 * p)), (3, .int (nI (e0)))]) 1 (i) 1 dX6_worth_170 rfl rfl (by decide) rfl ?_
                  refine mm_goto (tgt := 11) dX6_worth_173 (by decide) ?_
                  exact mm_sub [0, 2, 3, 4, 5] rfl (ih (i + 1) _ _ (by omega) hv.2.2 hw.2.2 (fun r_ h1_ s h2_ => hk_ r_ (h1_.trans (by show _ = (ev (sp_nm N w m c) cs (ev_s (sp_nm N w m c) _ (hh, f))).2 0; unfold ev_s; rw [if_neg k1, if_pos k2, Nat.add_sub_cancel_left])) s h2_))
            · exact absurd c69 nf.2.2.1
          · exact absurd nf.1 (Int32.not_lt.mpr (by first | exact c49 | exact Int32.not_lt.mp c49))
    rw [if_neg k2] at hw
    by_cases k3 : c0 = 20008
    · subst k3
      rw [if_pos rfl] at hw
      obtain ⟨hh, rfl⟩ : ∃ u, hh = u + 1 := ⟨hh - 1, by omega⟩
      refine mm_iload 0 dX6_worth_11 rfl ?_
      refine mm_aload_n 3 dX6_worth_13 rfl rfl ?_
      refine mm_getr (b := 55 + 5 * p) dX6_worth_14 rfl fk_X6_270 rfl (sp_1 hp).1 (sp_1 hp).2.2.2.1 ?_
      refine mm_cV0i (dz := d - 1) dX6_worth_17 rfl mzX5_size ml_X6_72 imX5_size (by omega) (sp_1 hp).2.2.2.2.1.1 ⟨rfl, rfl⟩ (ct_size (sp_1 hp).2.2.2.2.1) (Nat.le_of_ble_eq_true rfl) ⟨Nat.le_refl _, Nat.le_refl _⟩ ?_
      refine mm_top (v := nI (L)) ((cN_off hz2 (by omega)).trans ((congrFun (stA_a (by omega)) 1).trans hL)) ?_
      refine mm_icmp_geN (i) (L) (tgt := 176) dX6_worth_20 (by decide) (by omega) (by omega) (fun c20 => ?_) (fun c20 => ?_)
      · exfalso; omega
      · refine mm_aload_n 3 dX6_worth_23 rfl rfl ?_
        refine mm_getr (b := 55 + 5 * p) dX6_worth_24 rfl fk_X6_270 rfl (sp_1 hp).1 (sp_1 hp).2.2.2.1 ?_
        refine mm_iload 0 dX6_worth_27 rfl ?_
        refine mm_cV1i (dz := d - 1) dX6_worth_29 rfl mzX5_at ml_X6_76 imX5_at (by omega) (sp_1 hp).2.2.2.2.1.1 ⟨rfl, rfl⟩ (ct_at (sp_1 hp).2.2.2.2.1 (i) (by omega)) (Nat.le_of_ble_eq_true rfl) ⟨Nat.le_refl _, Nat.le_refl _⟩ ?_
        refine mm_top (v := -33) ((cN_off hz2 (by omega)).trans ((congrFun (stA_a (by omega)) i).trans (hv.1.trans (by decide)))) ?_
        refine mm_iconst (v := -1) dX6_worth_32 rfl ?_
        refine mm_icmp_eq (tgt := 176) dX6_worth_33 (by decide) (fun q => absurd q (by decide)) (fun _ => ?_)
        refine mm_aload_n 3 dX6_worth_36 rfl rfl ?_
        refine mm_getr (b := 55 + 5 * p) dX6_worth_37 rfl fk_X6_270 rfl (sp_1 hp).1 (sp_1 hp).2.2.2.1 ?_
        refine mm_iload 0 dX6_worth_40 rfl ?_
        refine mm_cV1i (dz := d - 1) dX6_worth_42 rfl mzX5_at ml_X6_76 imX5_at (by omega) (sp_1 hp).2.2.2.2.1.1 ⟨rfl, rfl⟩ (ct_at (sp_1 hp).2.2.2.2.1 (i) (by omega)) (Nat.le_of_ble_eq_true rfl) ⟨Nat.le_refl _, Nat.le_refl _⟩ ?_
        refine mm_top (v := -33) ((cN_off hz2 (by omega)).trans ((congrFun (stA_a (by omega)) i).trans (hv.1.trans (by decide)))) ?_
        refine mm_istore (ls' := [(5, .int (-33)), (4, .int (nI (i))), (0, .ref 171), (1, .ref (36 + 3 * m)), (2, .ref (52 + 5 * p)), (3, .int (nI (e0)))]) dX6_worth_45 (by decide) rfl ?_
        refine mm_iload 0 dX6_worth_47 rfl ?_
        refine mm_if_lt (tgt := 65) dX6_worth_49 (by decide) (fun _ => ?_) (fun q => absurd (by decide) q)
        refine mm_iload 0 dX6_worth_65 rfl ?_
        refine mm_bipush (v := -33) dX6_worth_67 rfl ?_
        refine mm_icmp_ne (tgt := 101) dX6_worth_69 (by decide) (fun q => absurd q (by decide)) (fun _ => ?_)
        refine mm_aload_n 2 dX6_worth_72 rfl rfl ?_
        refine mm_getr (b := 172) dX6_worth_73 rfl fk_X6_20 rfl so_171 sr_171_1 ?_
        refine mm_aload_n 2 dX6_worth_76 rfl rfl ?_
        refine mm_getr (b := 172) dX6_worth_77 rfl fk_X6_20 rfl so_171 sr_171_1 ?_
        refine mm_cV0i (dz := d - 1) dX6_worth_80 rfl mzX5_pop ml_X6_273 imX5_pop (by omega) so_172 ⟨rfl, rfl⟩ (ct_pop rw_172 (hh) (by exact (cN_off hz2 (by decide)).trans (stA_1.trans (by first | rfl | (congr 1; omega)))) (by omega) (by omega)) (Nat.le_of_ble_eq_true rfl) ⟨Nat.le_refl _, Nat.le_refl _⟩ ?_
        refine mm_top (v := f (hh)) ((cN_off hz2 (by decide)).trans stA_f) ?_
        refine mm_mem (J := cN (w * h) n l k o r (stA A (hh, f)) N) (by rw [cN_dof hz2 (by decide), stA_q]) ?_
        have K83 : mm_Ex g zX6_worth d (0, 0) (0, 0) sh_S (cN (w * h) n l k o r (stA A (hh, f)) N) 91 [(5, .int (-33)), (4, .int (nI (i))), (0, .ref 171), (1, .ref (36 + 3 * m)), (2, .ref (52 + 5 * p)), (3, .int (nI (e0)))] [.int (if (f (hh)) = 0 then 1 else 0), .ref 172] Q := by
          refine mm_cN1i (dz := d - 1) dX6_worth_91 rfl mzX11_asBit (by decide) imX11_asBit (by omega) cx_asBit (Nat.le_of_ble_eq_true rfl) ⟨Nat.le_refl _, Nat.le_refl _⟩ ?_
          refine mm_cV1i (dz := d - 1) dX6_worth_94 rfl mzX5_add ml_X6_139 imX5_add (by omega) so_172 ⟨rfl, rfl⟩ (ct_add rw_172 (hh) (by exact (cN_off hz2 (by decide)).trans stA_1) (by omega)) (Nat.le_of_ble_eq_true rfl) ⟨Nat.le_refl _, Nat.le_refl _⟩ ?_
          refine mm_mem (J := cN (w * h) n l k o r (stA A (hh + 1, upd f (hh) (if (f (hh)) = 0 then 1 else 0))) N) (by rw [cN_dof hz2 (by decide), cN_dof hz2 (by decide), stA_p]) ?_
          refine mm_pop dX6_worth_97 rfl ?_
          refine mm_goto (tgt := 170) dX6_worth_98 (by decide) ?_
          refine mm_iincN (ls' := [(4, .int (nI (i + 1))), (5, .int (-33)), (0, .ref 171), (1, .ref (36 + 3 * m)), (2, .ref (52 + 5 * p)), (3, .int (nI (e0)))]) 1 (i) 1 dX6_worth_170 rfl rfl (by decide) rfl ?_
          refine mm_goto (tgt := 11) dX6_worth_173 (by decide) ?_
          exact mm_sub [0, 2, 3, 4, 5] rfl (ih (i + 1) _ _ (by omega) hv.2.2 hw.2.2 (fun r_ h1_ s h2_ => hk_ r_ (h1_.trans (by show _ = (ev (sp_nm N w m c) cs (ev_s (sp_nm N w m c) _ (hh + 1, f))).2 0; unfold ev_s; rw [if_neg k1, if_neg k2, if_pos rfl, Nat.add_sub_cancel])) s h2_))
        refine mm_if_ne (tgt := 90) dX6_worth_83 (by decide) (fun c83 => ?_) (fun c83 => ?_)
        · refine mm_iconst (v := 0) dX6_worth_90 rfl ?_
          exact mm_top (by first | rfl | (simp [c83]; done) | (rw [if_pos (by simp_all)]; done) | (rw [if_neg (by simp_all)]; done) | (rw [if_pos (by omega)]; done) | (rw [if_neg (by omega)]; done)) K83
        · refine mm_iconst (v := 1) dX6_worth_86 rfl ?_
          refine mm_goto (tgt := 91) dX6_worth_87 (by decide) ?_
          exact mm_top (by first | rfl | (simp [c83]; done) | (rw [if_pos (by simp_all)]; done) | (rw [if_neg (by simp_all)]; done) | (rw [if_pos (by omega)]; done) | (rw [if_neg (by omega)]; done)) K83
    · rw [if_neg k3] at hw
      obtain ⟨kk, hk, rfl⟩ : ∃ kk, kk < 8 ∧ c0 = 20000 + kk := ⟨c0 - 20000, by have q := hw.1; omega, by omega⟩
      have sf_ := sg_f kk hk
      obtain ⟨hh, rfl⟩ : ∃ u, hh = u + 1 + 1 := ⟨hh - 2, by have q := hw.2.1; omega⟩
      refine mm_iload 0 dX6_worth_11 rfl ?_
      refine mm_aload_n 3 dX6_worth_13 rfl rfl ?_
      refine mm_getr (b := 55 + 5 * p) dX6_worth_14 rfl fk_X6_270 rfl (sp_1 hp).1 (sp_1 hp).2.2.2.1 ?_
      refine mm_cV0i (dz := d - 1) dX6_worth_17 rfl mzX5_size ml_X6_72 imX5_size (by omega) (sp_1 hp).2.2.2.2.1.1 ⟨rfl, rfl⟩ (ct_size (sp_1 hp).2.2.2.2.1) (Nat.le_of_ble_eq_true rfl) ⟨Nat.le_refl _, Nat.le_refl _⟩ ?_
      refine mm_top (v := nI (L)) ((cN_off hz2 (by omega)).trans ((congrFun (stA_a (by omega)) 1).trans hL)) ?_
      refine mm_icmp_geN (i) (L) (tgt := 176) dX6_worth_20 (by decide) (by omega) (by omega) (fun c20 => ?_) (fun c20 => ?_)
      · first | exact absurd c33 sf_.2.1 | (exfalso; omega)
      · refine mm_aload_n 3 dX6_worth_23 rfl rfl ?_
        refine mm_getr (b := 55 + 5 * p) dX6_worth_24 rfl fk_X6_270 rfl (sp_1 hp).1 (sp_1 hp).2.2.2.1 ?_
        refine mm_iload 0 dX6_worth_27 rfl ?_
        refine mm_cV1i (dz := d - 1) dX6_worth_29 rfl mzX5_at ml_X6_76 imX5_at (by omega) (sp_1 hp).2.2.2.2.1.1 ⟨rfl, rfl⟩ (ct_at (sp_1 hp).2.2.2.2.1 (i) (by omega)) (Nat.le_of_ble_eq_true rfl) ⟨Nat.le_refl _, Nat.le_refl _⟩ ?_
        refine mm_top (v := -(mm_sx 13).getD kk 0) ((cN_off hz2 (by omega)).trans ((congrFun (stA_a (by omega)) i).trans (hv.1.trans (cs_2 (by omega))))) ?_
        refine mm_iconst (v := -1) dX6_worth_32 rfl ?_
        refine mm_icmp_eq (tgt := 176) dX6_worth_33 (by decide) (fun c33 => ?_) (fun c33 => ?_)
        · first | exact absurd c33 sf_.2.1 | (exfalso; omega)
        · refine mm_aload_n 3 dX6_worth_36 rfl rfl ?_
          refine mm_getr (b := 55 + 5 * p) dX6_worth_37 rfl fk_X6_270 rfl (sp_1 hp).1 (sp_1 hp).2.2.2.1 ?_
          refine mm_iload 0 dX6_worth_40 rfl ?_
          refine mm_cV1i (dz := d - 1) dX6_worth_42 rfl mzX5_at ml_X6_76 imX5_at (by omega) (sp_1 hp).2.2.2.2.1.1 ⟨rfl, rfl⟩ (ct_at (sp_1 hp).2.2.2.2.1 (i) (by omega)) (Nat.le_of_ble_eq_true rfl) ⟨Nat.le_refl _, Nat.le_refl _⟩ ?_
          refine mm_top (v := -(mm_sx 13).getD kk 0) ((cN_off hz2 (by omega)).trans ((congrFun (stA_a (by omega)) i).trans (hv.1.trans (cs_2 (by omega))))) ?_
          refine mm_istore (ls' := [(5, .int (-(mm_sx 13).getD kk 0)), (4, .int (nI (i))), (0, .ref 171), (1, .ref (36 + 3 * m)), (2, .ref (52 + 5 * p)), (3, .int (nI (e0)))]) dX6_worth_45 (by decide) rfl ?_
          refine mm_iload 0 dX6_worth_47 rfl ?_
          refine mm_if_lt (tgt := 65) dX6_worth_49 (by decide) (fun c49 => ?_) (fun c49 => ?_)
          · refine mm_iload 0 dX6_worth_65 rfl ?_
            refine mm_bipush (v := -33) dX6_worth_67 rfl ?_
            refine mm_icmp_ne (tgt := 101) dX6_worth_69 (by decide) (fun c69 => ?_) (fun c69 => ?_)
            · refine mm_iload 0 dX6_worth_101 rfl ?_
              refine mm_bipush (v := -97) dX6_worth_103 rfl ?_
              refine mm_icmp_gt (tgt := 134) dX6_worth_105 (by decide) (fun c105 => ?_) (fun c105 => ?_)
              · refine mm_aload_n 2 dX6_worth_134 rfl rfl ?_
                refine mm_getr (b := 172) dX6_worth_135 rfl fk_X6_20 rfl so_171 sr_171_1 ?_
                refine mm_cV0i (dz := d - 1) dX6_worth_138 rfl mzX5_pop ml_X6_273 imX5_pop (by omega) so_172 ⟨rfl, rfl⟩ (ct_pop rw_172 (hh + 1) (by exact (cN_off hz2 (by decide)).trans (stA_1.trans (by first | rfl | (congr 1; omega)))) (by omega) (by omega)) (Nat.le_of_ble_eq_true rfl) ⟨Nat.le_refl _, Nat.le_refl _⟩ ?_
                refine mm_top (v := f (hh + 1)) ((cN_off hz2 (by decide)).trans stA_f) ?_
                refine mm_mem (J := cN (w * h) n l k o r (stA A (hh + 1, f)) N) (by rw [cN_dof hz2 (by decide), stA_q]) ?_
                refine mm_istore (ls' := [(6, .int (f (hh + 1))), (5, .int (-(mm_sx 13).getD kk 0)), (4, .int (nI (i))), (0, .ref 171), (1, .ref (36 + 3 * m)), (2, .ref (52 + 5 * p)), (3, .int (nI (e0)))]) dX6_worth_141 (by decide) rfl ?_
                refine mm_aload_n 3 dX6_worth_143 rfl rfl ?_
                refine mm_getr (b := 172) dX6_worth_144 rfl fk_X6_20 rfl so_171 sr_171_1 ?_
                refine mm_cV0i (dz := d - 1) dX6_worth_147 rfl mzX5_pop ml_X6_273 imX5_pop (by omega) so_172 ⟨rfl, rfl⟩ (ct_pop rw_172 (hh) (by exact (cN_off hz2 (by decide)).trans (stA_1.trans (by first | rfl | (congr 1; omega)))) (by omega) (by omega)) (Nat.le_of_ble_eq_true rfl) ⟨Nat.le_refl _, Nat.le_refl _⟩ ?_
                refine mm_top (v := f (hh)) ((cN_off hz2 (by decide)).trans stA_f) ?_
                refine mm_mem (J := cN (w * h) n l k o r (stA A (hh, f)) N) (by rw [cN_dof hz2 (by decide), stA_q]) ?_
                refine mm_istore (ls' := [(7, .int (f (hh))), (6, .int (f (hh + 1))), (5, .int (-(mm_sx 13).getD kk 0)), (4, .int (nI (i))), (0, .ref 171), (1, .ref (36 + 3 * m)), (2, .ref (52 + 5 * p)), (3, .int (nI (e0)))]) dX6_worth_150 (by decide) rfl ?_
                refine mm_at (pc' := 152) rfl ?_
                refine mm_aload_n 4 dX6_worth_152 rfl rfl ?_
                refine mm_getr (b := 172) dX6_worth_153 rfl fk_X6_20 rfl so_171 sr_171_1 ?_
                refine mm_iload 0 dX6_worth_156 rfl ?_
                refine mm_iload 2 dX6_worth_158 rfl ?_
                refine mm_ineg dX6_worth_160 ?_
                refine mm_top (v := (mm_sx 13).getD kk 0) sf_.2.2.2.2 ?_
                refine mm_iload 1 dX6_worth_161 rfl ?_
                refine mm_cS3i (dz := d - 1) dX6_worth_163 rfl mzX6_join ml_X6_284 imX6_join (by omega) (cg_join hk (by omega)) (Nat.le_of_ble_eq_true rfl) ⟨Nat.le_refl _, Nat.le_refl _⟩ ?_
                refine mm_cV1i (dz := d - 1) dX6_worth_166 rfl mzX5_add ml_X6_139 imX5_add (by omega) so_172 ⟨rfl, rfl⟩ (ct_add rw_172 (hh) (by exact (cN_off hz2 (by decide)).trans stA_1) (by omega)) (Nat.le_of_ble_eq_true rfl) ⟨Nat.le_refl _, Nat.le_refl _⟩ ?_
                refine mm_at (pc' := 169) rfl ?_
                refine mm_mem (J := cN (w * h) n l k o r (stA A (hh + 1, upd f (hh) (sp_dn (f hh) (f (hh + 1)) kk))) N) (by rw [cN_dof hz2 (by decide), cN_dof hz2 (by decide), stA_p]) ?_
                refine mm_pop dX6_worth_169 rfl ?_
                refine mm_iincN (ls' := [(4, .int (nI (i + 1))), (7, .int (f (hh))), (6, .int (f (hh + 1))), (5, .int (-(mm_sx 13).getD kk 0)), (0, .ref 171), (1, .ref (36 + 3 * m)), (2, .ref (52 + 5 * p)), (3, .int (nI (e0)))]) 3 (i) 1 dX6_worth_170 rfl rfl (by decide) rfl ?_
                refine mm_goto (tgt := 11) dX6_worth_173 (by decide) ?_
                exact mm_sub [0, 4, 5, 6, 7] rfl (ih (i + 1) _ _ (by omega) hv.2.2 hw.2.2.2 (fun r_ h1_ s h2_ => hk_ r_ (h1_.trans (by show _ = (ev (sp_nm N w m c) cs (ev_s (sp_nm N w m c) _ (hh + 1 + 1, f))).2 0; unfold ev_s; rw [if_neg k1, if_neg k2, if_neg k3, Nat.add_sub_cancel_left]; rfl)) s h2_))
              · refine mm_iload 0 dX6_worth_108 rfl ?_
                refine mm_bipush (v := -122) dX6_worth_110 rfl ?_
                refine mm_icmp_lt (tgt := 134) dX6_worth_112 (by decide) (fun c112 => ?_) (fun c112 => ?_)
                · refine mm_aload_n 2 dX6_worth_134 rfl rfl ?_
                  refine mm_getr (b := 172) dX6_worth_135 rfl fk_X6_20 rfl so_171 sr_171_1 ?_
                  refine mm_cV0i (dz := d - 1) dX6_worth_138 rfl mzX5_pop ml_X6_273 imX5_pop (by omega) so_172 ⟨rfl, rfl⟩ (ct_pop rw_172 (hh + 1) (by exact (cN_off hz2 (by decide)).trans (stA_1.trans (by first | rfl | (congr 1; omega)))) (by omega) (by omega)) (Nat.le_of_ble_eq_true rfl) ⟨Nat.le_refl _, Nat.le_refl _⟩ ?_
                  refine mm_top (v := f (hh + 1)) ((cN_off hz2 (by decide)).trans stA_f) ?_
                  refine mm_mem (J := cN (w * h) n l k o r (stA A (hh + 1, f)) N) (by rw [cN_dof hz2 (by decide), stA_q]) ?_
                  refine mm_istore (ls' := [(6, .int (f (hh + 1))), (5, .int (-(mm_sx 13).getD kk 0)), (4, .int (nI (i))), (0, .ref 171), (1, .ref (36 + 3 * m)), (2, .ref (52 + 5 * p)), (3, .int (nI (e0)))]) dX6_worth_141 (by decide) rfl ?_
                  refine mm_aload_n 3 dX6_worth_143 rfl rfl ?_
                  refine mm_getr (b := 172) dX6_worth_144 rfl fk_X6_20 rfl so_171 sr_171_1 ?_
                  refine mm_cV0i (dz := d - 1) dX6_worth_147 rfl mzX5_pop ml_X6_273 imX5_pop (by omega) so_172 ⟨rfl, rfl⟩ (ct_pop rw_172 (hh) (by exact (cN_off hz2 (by decide)).trans (stA_1.trans (by first | rfl | (congr 1; omega)))) (by omega) (by omega)) (Nat.le_of_ble_eq_true rfl) ⟨Nat.le_refl _, Nat.le_refl _⟩ ?_
                  refine mm_top (v := f (hh)) ((cN_off hz2 (by decide)).trans stA_f) ?_
                  refine mm_mem (J := cN (w * h) n l k o r (stA A (hh, f)) N) (by rw [cN_dof hz2 (by decide), stA_q]) ?_
                  refine mm_istore (ls' := [(7, .int (f (hh))), (6, .int (f (hh + 1))), (5, .int (-(mm_sx 13).getD kk 0)), (4, .int (nI (i))), (0, .ref 171), (1, .ref (36 + 3 * m)), (2, .ref (52 + 5 * p)), (3, .int (nI (e0)))]) dX6_worth_150 (by decide) rfl ?_
                  refine mm_at (pc' := 152) rfl ?_
                  refine mm_aload_n 4 dX6_worth_152 rfl rfl ?_
                  refine mm_getr (b := 172) dX6_worth_153 rfl fk_X6_20 rfl so_171 sr_171_1 ?_
                  refine mm_iload 0 dX6_worth_156 rfl ?_
                  refine mm_iload 2 dX6_worth_158 rfl ?_
                  refine mm_ineg dX6_worth_160 ?_
                  refine mm_top (v := (mm_sx 13).getD kk 0) sf_.2.2.2.2 ?_
                  refine mm_iload 1 dX6_worth_161 rfl ?_
                  refine mm_cS3i (dz := d - 1) dX6_worth_163 rfl mzX6_join ml_X6_284 imX6_join (by omega) (cg_join hk (by omega)) (Nat.le_of_ble_eq_true rfl) ⟨Nat.le_refl _, Nat.le_refl _⟩ ?_
                  refine mm_cV1i (dz := d - 1) dX6_worth_166 rfl mzX5_add ml_X6_139 imX5_add (by omega) so_172 ⟨rfl, rfl⟩ (ct_add rw_172 (hh) (by exact (cN_off hz2 (by decide)).trans stA_1) (by omega)) (Nat.le_of_ble_eq_true rfl) ⟨Nat.le_refl _, Nat.le_refl _⟩ ?_
                  refine mm_at (pc' := 169) rfl ?_
                  refine mm_mem (J := cN (w * h) n l k o r (stA A (hh + 1, upd f (hh) (sp_dn (f hh) (f (hh + 1)) kk))) N) (by rw [cN_dof hz2 (by decide), cN_dof hz2 (by decide), stA_p]) ?_
                  refine mm_pop dX6_worth_169 rfl ?_
                  refine mm_iincN (ls' := [(4, .int (nI (i + 1))), (7, .int (f (hh))), (6, .int (f (hh + 1))), (5, .int (-(mm_sx 13).getD kk 0)), (0, .ref 171), (1, .ref (36 + 3 * m)), (2, .ref (52 + 5 * p)), (3, .int (nI (e0)))]) 3 (i) 1 dX6_worth_170 rfl rfl (by decide) rfl ?_
                  refine mm_goto (tgt := 11) dX6_worth_173 (by decide) ?_
                  exact mm_sub [0, 4, 5, 6, 7] rfl (ih (i + 1) _ _ (by omega) hv.2.2 hw.2.2.2 (fun r_ h1_ s h2_ => hk_ r_ (h1_.trans (by show _ = (ev (sp_nm N w m c) cs (ev_s (sp_nm N w m c) _ (hh + 1 + 1, f))).2 0; unfold ev_s; rw [if_neg k1, if_neg k2, if_neg k3, Nat.add_sub_cancel_left]; rfl)) s h2_))
                · exact absurd ⟨by first | exact c105 | exact Int32.not_lt.mp c105, by first | exact c112 | exact Int32.not_lt.mp c112⟩ sf_.2.2.2.1
            · exact absurd c69 sf_.2.2.1
          · exact absurd sf_.1 (Int32.not_lt.mpr (by first | exact c49 | exact Int32.not_lt.mp c49))
theorem stA_0 {A : mm_I} : mm_up A 172 1 0 = stA A (0, A 173) := by
  funext a i
  by_cases e2 : a = 172
  · subst e2
    by_cases e3 : i = 1
    · subst e3; rw [mm_up_at, stA_1]; rfl
    · rw [mm_up_ni e3]; unfold stA upd; simp [e3]
  · rw [mm_up_ne e2]
    by_cases e : a = 173
    · subst e; rfl
    · rw [stA_a (by omega)]
set_option maxRecDepth 100000 in
set_option maxHeartbeats 600000 in
theorem cg_worth {g : mm_G} {d : Nat} {w h n l k o r : Nat} {A : mm_I} {N : Nat → Int32} (hz : zOK (w * h) n l k o r) (hW : mo_W N w h) {m c : Nat} (hm : m < n) (h1 : N (630 + 40 * m + 1) = nI c) (hcc : c < w * h) {la lb : Nat} (h2 : N 2 = nI la) (h3 : N 3 = nI lb) (hla : 1 ≤ la ∧ la ≤ 24) (hlb : lb ≤ 24) {p L : Nat} (hp : p < 6) (hL : A (55 + 5 * p) 1 = nI L) (hL96 : L ≤ 96) {e0 : Nat} {cs : List Nat} (hi : e0 + cs.length < L) (hv : vc_at (A (56 + 5 * p)) e0 cs) (hw : wf cs 0) (hd : 4 ≤ d) : mm_Di g zX6_worth d [.ref 171, .ref (36 + 3 * m), .ref (52 + 5 * p), .int (nI e0)] sh_S (cN (w * h) n l k o r A N) (fun r_ K => r_ = (ev (sp_nm N w m c) cs (0, A 173)).2 0 ∧ ∃ A2, K = cN (w * h) n l k o r A2 N ∧ ∀ a, ¬ (a = 172 ∨ a = 173) → A2 a = A a) := by
  obtain ⟨hz1, hz2, hz3, hz4, hz5, hz6⟩ := id hz
  have hc := mo_W_c hW
  obtain ⟨-, -, hw1, hw2, hh1, hh2⟩ := id hW
  refine mm_Di_of (fun Q hq => ?_)
  refine mm_begin (ls := [(0, .ref 171), (1, .ref (36 + 3 * m)), (2, .ref (52 + 5 * p)), (3, .int (nI (e0)))]) (Nat.le_of_ble_eq_true rfl) rfl rfl ?_
  refine mm_aload_n 0 dX6_worth_0 rfl rfl ?_
  refine mm_getr (b := 172) dX6_worth_1 rfl fk_X6_20 rfl so_171 sr_171_1 ?_
  refine mm_iconst (v := 0) dX6_worth_4 rfl ?_
  refine mm_cV1v (dz := d - 1) dX6_worth_5 rfl mzX5_shorten ml_X6_88 imX5_shorten (by omega) so_172 ⟨rfl, rfl⟩ (ct_short0 rw_172 (by omega)) (Nat.le_of_ble_eq_true rfl) ⟨Nat.le_refl _, Nat.le_refl _⟩ ?_
  refine mm_mem (J := cN (w * h) n l k o r (stA A (0, A 173)) N) (by rw [cN_dof hz2 (by decide)]; exact congrArg (fun z => cN (w * h) n l k o r z N) stA_0) ?_
  refine mm_iload_n 3 dX6_worth_8 rfl rfl ?_
  refine mm_istore (ls' := [(4, .int (nI (e0))), (0, .ref 171), (1, .ref (36 + 3 * m)), (2, .ref (52 + 5 * p)), (3, .int (nI (e0)))]) dX6_worth_9 (by decide) rfl ?_
  exact mm_sub [0, 1, 2, 3, 4] rfl (lg_wo hz hW hm h1 hcc h2 h3 hla hlb hp hL hL96 hd cs e0 0 (A 173) hi (by rw [show 55 + 5 * p + 1 = 56 + 5 * p by omega]; exact hv) hw (fun r_ h_ s h2_ => hq _ _ ⟨h_, _, rfl, fun a ha => stA_a ha⟩))
