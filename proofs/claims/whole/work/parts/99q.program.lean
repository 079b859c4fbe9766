/-! THE CLASS: program -/
set_option maxRecDepth 100000 in
set_option maxHeartbeats 600000 in
theorem cp_read2 {g : mm_G} {I : mm_I} {d : Nat} {t : Nat} (ht : I 174 1 = nI t) (ht96 : t ≤ 96) (hB : tp_ok (I 175) t) (hd : 151 ≤ d) : mm_Di g zX2_read d [.ref 176] sh_S I (fun r I' => ∃ I2 : mm_I, (∃ W, WR I2 (I 175) t W) ∧ (∀ a, a < 178 ∨ 183 < a → I2 a = I a) ∧ I' = cZ I2 (I 175) t (cl_run (I 175) t 97 (c_0 I2)) ∧ r = (if (cl_run (I 175) t 97 (c_0 I2)).1 = true then -1 else nI (tq (I 175) t (cl_run (I 175) t 97 (c_0 I2)).2.1).1)) := by
  refine mm_begin (ls := [(0, .ref 176)]) (Nat.le_of_ble_eq_true rfl) rfl rfl ?_
  refine mm_aload_n 0 dX2_read_0 rfl rfl ?_
  refine mm_getr (b := 177) dX2_read_1 rfl fk_X2_14 rfl so_176 sr_176_0 ?_
  refine mm_dV0v (dz := d - 1) dX2_read_4 rfl mzX9_split ml_X2_36 imX9_split (by omega) so_177 ⟨rfl, rfl⟩ (ck_split ht ht96 hB (by omega)) (Nat.le_of_ble_eq_true rfl) ⟨Nat.le_refl _, Nat.le_refl _⟩ (fun I2 hI2 => ?_)
  obtain ⟨⟨W, hWR⟩, hfr⟩ := hI2
  refine mm_aload_n 0 dX2_read_7 rfl rfl ?_
  refine mm_getr (b := 184) dX2_read_8 rfl fk_X2_23 rfl so_176 sr_176_1 ?_
  refine mm_cV0v (dz := d - 1) dX2_read_11 rfl mzX4_empty ml_X2_39 imX4_empty (by omega) so_184 ⟨rfl, rfl⟩ (cp_empty (by omega)) (Nat.le_of_ble_eq_true rfl) ⟨Nat.le_refl _, Nat.le_refl _⟩ ?_
  refine mm_aload_n 0 dX2_read_14 rfl rfl ?_
  refine mm_getr (b := 189) dX2_read_15 rfl fk_X2_32 rfl so_176 sr_176_2 ?_
  refine mm_at (pc' := 18) rfl ?_
  refine mm_iconst (v := 0) dX2_read_18 rfl ?_
  refine mm_cV1v (dz := d - 1) dX2_read_19 rfl mzX5_shorten ml_X2_42 imX5_shorten (by omega) so_189 ⟨rfl, rfl⟩ (ct_short0 rw_189 (by omega)) (Nat.le_of_ble_eq_true rfl) ⟨Nat.le_refl _, Nat.le_refl _⟩ ?_
  refine mm_aload_n 0 dX2_read_22 rfl rfl ?_
  refine mm_iconst (v := 1) dX2_read_23 rfl ?_
  refine mm_putz dX2_read_24 rfl fk_X2_45 rfl fv_2_3 (by decide) so_176 ?_
  refine mm_aload_n 0 dX2_read_27 rfl rfl ?_
  refine mm_iconst (v := 0) dX2_read_28 rfl ?_
  refine mm_puti dX2_read_29 rfl fk_X2_49 rfl fv_2_4 so_176 ?_
  refine mm_at (pc' := 32) rfl ?_
  refine mm_aload_n 0 dX2_read_32 rfl rfl ?_
  refine mm_aload_n 0 dX2_read_33 rfl rfl ?_
  refine mm_getr (b := 177) dX2_read_34 rfl fk_X2_14 rfl so_176 sr_176_0 ?_
  refine mm_getr (b := 178) dX2_read_37 rfl fk_X2_53 rfl so_177 sr_177_1 ?_
  refine mm_iconst (v := 0) dX2_read_40 rfl ?_
  refine mm_cV1i (dz := d - 1) dX2_read_41 rfl mzX5_at ml_X2_56 imX5_at (by omega) so_178 ⟨rfl, rfl⟩ (ct_at rw_178 0 (by decide)) (Nat.le_of_ble_eq_true rfl) ⟨Nat.le_refl _, Nat.le_refl _⟩ ?_
  refine mm_top (v := ckd (tK (I 175) t 0)) (hWR.2.2.2 0 (Nat.zero_le _)).1 ?_
  refine mm_puti dX2_read_44 rfl fk_X2_59 rfl fv_2_5 so_176 ?_
  refine mm_aload_n 0 dX2_read_47 rfl rfl ?_
  refine mm_at (pc' := 48) rfl ?_
  refine mm_iconst (v := -1) dX2_read_48 rfl ?_
  refine mm_puti dX2_read_49 rfl fk_X2_62 rfl fv_2_6 so_176 ?_
  refine mm_iconst (v := 0) dX2_read_52 rfl ?_
  refine mm_istore_n (ls' := [(1, .int (0)), (0, .ref 176)]) dX2_read_53 rfl (by decide) rfl ?_
  refine mm_mem cz_start ?_
  exact mm_sub [0, 1] rfl (lp_read (I := I2) (T := I 175) (t := t) hB hWR hd 97 0 (c_0 I2) rfl (fun _ => ⟨Nat.zero_le _, Nat.le_refl _, by decide, Nat.zero_le _, fun i hi => absurd hi (Nat.not_lt_zero _)⟩) ⟨rfl, _, rfl, I2, ⟨W, hWR⟩, hfr, rfl, rfl⟩)
def prG (p : Nat) (N A : Nat → Int32) (E lv : Nat → Nat) (a : Nat) (CS : List Nat) (n : Nat) : Prop := ∀ N2 A2 : Nat → Int32, (∀ s f, s < n → f < 8 → sf N2 p s f = sf N p s f) → (∀ i, i < 3 * a → A2 i = A i) → en N2 p E 0 = 0 ∧ ∀ s, s < n → gS N2 p A2 E lv a CS n s
theorem sim_top2 {I : mm_I} {T : Nat → Int32} {t W p : Nat} {N Af Sf Bf : Nat → Int32} (hB : tp_ok T t) (hWR : WR I T t W) (hN : N (1226 + 418 * p) = 0) : ∀ y ok k' N' CS' n', r_row (tK T t) (tV T t) p 4 (-1) (true, 0, N, [], 0) = (y, ok, k', N', CS', n') →
    (ok = true ∧ tK T t k' = 400 → ∃ Af' a Sf' Bf', cl_run T t 97 (true, 0, true, 0, Af, 0, Sf, 0, Bf, 0) = (true, k', false, n', Af', a, Sf', CS'.length, Bf', 0) ∧ (∀ i, i < CS'.length → Sf' i = cs_ (CS'.getD i 0)) ∧ Fr p 0 N N' ∧ 0 < n' ∧ n' ≤ 32 ∧ 0 < a ∧ a ≤ 38 ∧ CS'.length ≤ 96 ∧ ∃ E lv : Nat → Nat, prG p N' Af' E lv a CS' n') ∧
    (¬ (ok = true ∧ tK T t k' = 400) → (cl_run T t 97 (true, 0, true, 0, Af, 0, Sf, 0, Bf, 0)).1 = false ∧ (cl_run T t 97 (true, 0, true, 0, Af, 0, Sf, 0, Bf, 0)).2.1 = k') := by
  intro y ok k' N' CS' n' he
  have hI : cI T t W (true, 0, true, 0, Af, 0, Sf, ([] : List Nat).length, Bf, 0) := fun _ => ⟨Nat.zero_le _, Nat.le_refl _, Nat.zero_le _, Nat.zero_le _, fun i hi => absurd hi (Nat.not_lt_zero _)⟩
  have hr : r1_ T t p (true, 0, N, [], 0) := ⟨⟨Nat.zero_le _, Nat.le_refl _, hN, Nat.zero_le _⟩, fun _ => Nat.zero_le _⟩
  have hG := (r_row_good hB.1 hB 4 (-1) (true, 0, N, [], 0) rfl hr).1
  have h := sim_all (p := p) hB hWR 4 0 rfl (-1) 0 N [] 0 Af 0 Sf Bf hI hr (fun i hi => absurd hi (Nat.not_lt_zero _))
  rw [he] at h hG
  obtain ⟨h1, h2⟩ := h
  dsimp only at h1 h2 hG
  have hW96 := hWR.1
  cases ok with
  | true =>
    obtain ⟨e1, e2, A', a', S', B', hok, hgd⟩ := h1 rfl
    obtain ⟨p1, p2, p3, p4, p5, p6, p7, p8, p9, p10⟩ := hok
    have hI' := Rch_I hB hWR p1 hI
    have ha := cI_a hB hI'
    have hk := (hI' rfl).1
    have hsn := (hI' rfl).2.1
    obtain ⟨c, hc, hrun⟩ := Rch_run p1
    refine ⟨fun hh => ⟨A', a', S', B', ?_, p2, p5, p7, p10, p8, ha, by omega, ?_⟩, fun hh => ?_⟩
    · have := hrun (97 - c)
      rw [show 97 - c + c = 97 by omega] at this
      refine this.trans (cl_run_n ?_)
      exact fun q => q.2 ⟨hh.2, rfl, rfl⟩
    · obtain ⟨E, lv, he1, hg⟩ := hgd
      refine ⟨E, lv, fun N2 A2 hN2 hA2 => ⟨(en_c (hN2 0 0 (by omega) (by decide)) rfl).trans he1, fun s hs => hg N2 A2 E lv a' n' CS' ⟨fun s f _ h2 h3 _ => hN2 s f h2 h3, fun i _ h2 => hA2 i h2, fun _ _ _ => ⟨rfl, rfl⟩, ⟨Nat.le_refl _, fun _ _ => rfl⟩, Nat.le_refl _, Nat.le_refl _, by omega⟩ (Or.inl rfl) ?_ s (Nat.zero_le _) hs⟩⟩
      unfold EndB
      rw [if_pos (by decide)]
      exact LdP_0 _
    · have hne : ¬ tK T t k' = 400 := fun q => hh ⟨rfl, q⟩
      have := hrun (97 - c)
      rw [show 97 - c + c = 97 by omega] at this
      have e3 : cl_run T t 97 (true, 0, true, 0, Af, 0, Sf, 0, Bf, 0) = (false, k', false, n', A', a', S', CS'.length, B', 0) := by
        refine this.trans ?_
        rw [show 97 - c = (96 - c) + 1 by omega, cl_run_y ⟨rfl, fun q => hne q.1⟩, c_it_on (fun q => absurd q.2.1 (by omega)), c_on_n e2]
        exact cl_run_n (fun q => bFT q.1)
      rw [e3]
      exact ⟨rfl, rfl⟩
  | false =>
    obtain ⟨w1, cc, w2, w3, w4⟩ := h2 rfl
    obtain ⟨c, hc, hrun⟩ := Rch_run w4
    have hkt : k' ≤ 96 := Nat.le_trans hG.1.1 hB.1
    refine ⟨fun hh => absurd hh.1 bFT, fun _ => ?_⟩
    have := hrun (97 - c)
    rw [show 97 - c + c = 97 by omega] at this
    have e3 : cl_run T t 97 (true, 0, true, 0, Af, 0, Sf, 0, Bf, 0) = cc := this.trans (cl_run_n (fun q => absurd (w2.symm.trans q.1) bFT))
    rw [e3]
    exact ⟨w2, w3⟩
theorem prG_c {p : Nat} {N A N' A' : Nat → Int32} {E lv : Nat → Nat} {a : Nat} {CS : List Nat} {n : Nat} (h : prG p N A E lv a CS n) (hN : ∀ s f, s < n → f < 8 → sf N' p s f = sf N p s f) (hA : ∀ i, i < 3 * a → A' i = A i) : prG p N' A' E lv a CS n :=
  fun N2 A2 h1 h2 => h N2 A2 (fun s f q1 q2 => (h1 s f q1 q2).trans (hN s f q1 q2)) (fun i q => (h2 i q).trans (hA i q))
/-- a PROGRAM, as both have it -/
def prW (M : mm_I) (N : Nat → Int32) (p n a : Nat) (CS : List Nat) (E lv : Nat → Nat) : Prop := 0 < a ∧ a ≤ 38 ∧ M (53 + 5 * p) 1 = nI (3 * a) ∧ M (55 + 5 * p) 1 = nI CS.length ∧ CS.length ≤ 96 ∧ (∀ i, i < CS.length → M (56 + 5 * p) i = cs_ (CS.getD i 0)) ∧ (∀ i, i < CS.length → N (1226 + 418 * p + 258 + i) = nI (CS.getD i 0)) ∧ prG p N (M (54 + 5 * p)) E lv a CS n
def prR (M : mm_I) (N : Nat → Int32) (p : Nat) : Prop := ∃ n, n ≤ 32 ∧ N (1226 + 418 * p) = nI n ∧ M (52 + 5 * p) 2 = nI n ∧ (0 < n → ∃ a CS E lv, prW M N p n a CS E lv)
theorem prW_c {M M' : mm_I} {N N' : Nat → Int32} {p n a : Nat} {CS : List Nat} {E lv : Nat → Nat} (h : prW M N p n a CS E lv) (hn : n ≤ 32) (h1 : M' (53 + 5 * p) 1 = M (53 + 5 * p) 1) (h2 : ∀ i, i < 120 → M' (54 + 5 * p) i = M (54 + 5 * p) i) (h3 : M' (55 + 5 * p) 1 = M (55 + 5 * p) 1) (h4 : ∀ i, i < 96 → M' (56 + 5 * p) i = M (56 + 5 * p) i) (hN : ∀ x, 1226 + 418 * p ≤ x → x < 1226 + 418 * (p + 1) → N' x = N x) : prW M' N' p n a CS E lv := by
  obtain ⟨q1, q2, q3, q4, q5, q6, q7, q8⟩ := h
  exact ⟨q1, q2, h1.trans q3, h3.trans q4, q5, fun i hi => (h4 i (by omega)).trans (q6 i hi), fun i hi => (hN _ (by omega) (by omega)).trans (q7 i hi), prG_c q8 (fun s f h1 h2 => hN _ (by omega) (by omega)) (fun i hi => h2 i (by omega))⟩
theorem prR_c {M M' : mm_I} {N N' : Nat → Int32} {p : Nat} (h : prR M N p) (h0 : M' (52 + 5 * p) 2 = M (52 + 5 * p) 2) (h1 : M' (53 + 5 * p) 1 = M (53 + 5 * p) 1) (h2 : ∀ i, i < 120 → M' (54 + 5 * p) i = M (54 + 5 * p) i) (h3 : M' (55 + 5 * p) 1 = M (55 + 5 * p) 1) (h4 : ∀ i, i < 96 → M' (56 + 5 * p) i = M (56 + 5 * p) i) (hN : ∀ x, 1226 + 418 * p ≤ x → x < 1226 + 418 * (p + 1) → N' x = N x) : prR M' N' p := by
  obtain ⟨n, q1, q2, q3, q4⟩ := h
  refine ⟨n, q1, (hN _ (by omega) (by omega)).trans q2, h0.trans q3, fun hn => ?_⟩
  obtain ⟨a, CS, E, lv, q⟩ := q4 hn
  exact ⟨a, CS, E, lv, prW_c q q1 h1 h2 h3 h4 hN⟩
theorem bsM_a {I : mm_I} {a x : Nat} {v : Int32} (h : ¬ (x = a ∨ x = a + 1 ∨ x = a + 1 + 1)) : bsM I a v x = I x := by
  funext i; unfold bsM; rw [rw_fl_ne (by omega), mm_up_ne (by omega), mm_up_ne (by omega), mm_up_ne (by omega)]
theorem bsM_i {I : mm_I} {a i : Nat} {v : Int32} (h : ¬ (i = 6 ∨ i = 7)) : bsM I a v a i = I a i := by
  unfold bsM; rw [rw_fl_ne (by omega), mm_up_ne (by omega), mm_up_ni (by omega), mm_up_ni (by omega)]
theorem bsM_6 {I : mm_I} {a : Nat} {v : Int32} : bsM I a v a 6 = v := by
  unfold bsM; rw [rw_fl_ne (by omega), mm_up_ne (by omega), mm_up_ni (by omega), mm_up_at]
theorem bsM_7 {I : mm_I} {a : Nat} {v : Int32} : bsM I a v a 7 = 0 := by
  unfold bsM; rw [rw_fl_ne (by omega), mm_up_ne (by omega), mm_up_at]
theorem bsM_l {I : mm_I} {a i : Nat} {v : Int32} (h : i < 4) : bsM I a v (a + 1 + 1) i = 0 := by
  unfold bsM; rw [rw_fl_in h]
theorem upd_n {N : Nat → Int32} {x y : Nat} {v : Int32} (h : ¬ y = x) : upd N x v y = N y := by unfold upd; rw [if_neg h]
theorem upd_y {N : Nat → Int32} {x : Nat} {v : Int32} : upd N x v x = v := by unfold upd; rw [if_pos rfl]
theorem sS_m {c n l k o r m : Nat} {M M' : mm_I} {N : Nat → Int32} {N' : Nat → Int32} (hz : zOK c n l k o r) (hm : m < n) (H : sS c n l k o r M N) (hM : ∀ a, ¬ (a = 36 + 3 * m ∨ a = 37 + 3 * m ∨ a = 38 + 3 * m) → M' a = M a) (hN : ∀ x, ¬ (630 + 40 * m ≤ x ∧ x < 630 + 40 * m + 40) → N' x = N x) (h : ∀ i, i < 7 → M' (36 + 3 * m) i = N' (630 + 40 * m + i)) : sS c n l k o r M' N' := by
  obtain ⟨hz1, hz2, hz3, hz4, hz5, hz6⟩ := hz
  refine sS.mk ?_ ?_ ?_ ?_ ?_ ?_ ?_ ?_ ?_ ?_ ?_ ?_ ?_ ?_ ?_ ?_ ?_ ?_ ?_ ?_ ?_ ?_ ?_ ?_ ?_ ?_ ?_ ?_
  · rw [hM _ (by omega), hN _ (by omega)]; exact H.w
  · rw [hM _ (by omega), hN _ (by omega)]; exact H.h
  · rw [hM _ (by omega), hN _ (by omega)]; exact H.fu
  · rw [hM _ (by omega), hN _ (by omega)]; exact H.lo
  · intro i hi; rw [hM _ (by omega), hN _ (by omega)]; exact H.ki i hi
  · intro i hi; rw [hM _ (by omega), hN _ (by omega)]; exact H.du i hi
  · intro i hi; rw [hM _ (by omega), hN _ (by omega)]; exact H.ic i hi
  · intro y hy; rw [hM _ (by omega), hN _ (by omega)]; exact H.se y hy
  · intro y j hy hj h0; rw [hN _ (by omega)] at h0; rw [hM _ (by omega), hN _ (by omega)]; exact H.sf y j hy hj h0
  · intro i hi; rw [hM _ (by omega), hN _ (by omega)]; exact H.st i hi
  · rw [hM _ (by omega), hN _ (by omega)]; exact H.p0
  · intro i hi; rw [hM _ (by omega), hN _ (by omega)]; exact H.p1 i hi
  · rw [hM _ (by omega), hN _ (by omega)]; exact H.p6
  · rw [hM _ (by omega), hN _ (by omega)]; exact H.p7
  · intro i hi; rw [hM _ (by omega), hN _ (by omega)]; exact H.l0 i hi
  · intro i hi; rw [hM _ (by omega), hN _ (by omega)]; exact H.l1 i hi
  · intro i hi; rw [hM _ (by omega), hN _ (by omega)]; exact H.k0 i hi
  · intro i hi; rw [hM _ (by omega), hN _ (by omega)]; exact H.k1 i hi
  · intro i hi; rw [hM _ (by omega), hN _ (by omega)]; exact H.k2 i hi
  · intro i hi; rw [hM _ (by omega), hN _ (by omega)]; exact H.k3 i hi
  · intro q i hq hi
    by_cases e : q = m
    · subst e; exact h i hi
    · rw [hM _ (by omega), hN _ (by omega)]; exact H.m q i hq hi
  · intro i hi; rw [hM _ (by omega), hN _ (by omega)]; exact H.o0 i hi
  · intro i hi; rw [hM _ (by omega), hN _ (by omega)]; exact H.r0 i hi
  · intro a ha; rw [hM _ (by omega)]; exact H.cl a ha
  · intro a ha; rw [hM _ (by omega)]; exact H.ck a ha
  · rw [hM _ (by omega)]; exact H.co
  · rw [hM _ (by omega)]; exact H.cr
  · rw [hM _ (by omega)]; exact H.cn
theorem sS_bs {c n l k o r m : Nat} {M : mm_I} {N : Nat → Int32} {v : Int32} (hz : zOK c n l k o r) (hm : m < n) (H : sS c n l k o r M N) : sS c n l k o r (bsM M (36 + 3 * m) v) (upd N (630 + 40 * m + 6) v) := by
  refine sS_m hz hm H (fun a ha => bsM_a (by omega)) (fun x hx => upd_n (by omega)) (fun i hi => ?_)
  by_cases e : i = 6
  · subst e; rw [bsM_6, upd_y]
  · rw [bsM_i (by omega), upd_n (by omega)]; exact H.m m i hm hi
def peN (N : Nat → Int32) (p : Nat) : Nat → (Nat → Int32)
  | 0 => N
  | m + 1 => upd (peN N p m) (630 + 40 * m + 6) (if N (630 + 40 * m + 6) = nI p then -1 else N (630 + 40 * m + 6))
theorem peN_o {N : Nat → Int32} {p x : Nat} : ∀ m, (∀ q, q < m → ¬ x = 630 + 40 * q + 6) → peN N p m x = N x := by
  intro m
  induction m with
  | zero => intro _; rfl
  | succ m ih => intro h; unfold peN; rw [upd_n (h m (by omega))]; exact ih (fun q hq => h q (by omega))
theorem peN_i {N : Nat → Int32} {p q : Nat} : ∀ m, q < m → peN N p m (630 + 40 * q + 6) = if N (630 + 40 * q + 6) = nI p then -1 else N (630 + 40 * q + 6) := by
  intro m
  induction m with
  | zero => intro h; omega
  | succ m ih =>
    intro h
    unfold peN
    by_cases e : q = m
    · subst e; rw [upd_y]
    · rw [upd_n (by omega)]; exact ih (by omega)
theorem peN_op {J : mm_I} {p : Nat} : ∀ m, op_pe J p m 201 = peN (J 201) p m := by
  intro m
  induction m with
  | zero => rfl
  | succ m ih => unfold op_pe peN; rw [up_201, ih]
/-- cells of MACHINES that ran p, of the first m -/
def esC (N : Nat → Int32) (p m a : Nat) : Prop := ∃ q, q < m ∧ N (630 + 40 * q + 6) = nI p ∧ (a = 36 + 3 * q ∨ a = 37 + 3 * q ∨ a = 38 + 3 * q)
theorem upd_same {N : Nat → Int32} {x : Nat} : upd N x (N x) = N := by
  funext y; unfold upd; by_cases e : y = x
  · rw [if_pos e, e]
  · rw [if_neg e]
set_option maxRecDepth 100000 in
set_option maxHeartbeats 600000 in
theorem lg_es {g : mm_G} {d c n l k o r p : Nat} {I : mm_I} {N : Nat → Int32} {Q : Option Value → mm_Sh → mm_I → Prop} (hz : zOK c n l k o r) (hd : 3 ≤ d) (hx : ∀ K, sS c n l k o r K (peN N p n) → (∀ a, ¬ esC N p n a → K a = I a) → Q none sh_S K) : ∀ (mf i : Nat) (K : mm_I), i ≤ n → sS c n l k o r K (peN N p i) → (∀ a, ¬ esC N p i a → K a = I a) → n - i < mf → mm_Ex g zX8_endScript d (0, 0) (0, 0) sh_S K 2 [(2, .int (nI (i))), (0, .ref 1), (1, .int (nI (p)))] [] Q := by
  obtain ⟨hz1, hz2, hz3, hz4, hz5, hz6⟩ := id hz
  intro mf
  induction mf with
  | zero => intro i K hi hS hF hmz; exact absurd hmz (Nat.not_lt_zero _)
  | succ mf ih =>
    intro i K hi hS hF hmz
    refine mm_iload_n 0 dX8_endScript_2 rfl rfl ?_
    refine mm_aload_n 1 dX8_endScript_3 rfl rfl ?_
    refine mm_geti dX8_endScript_4 rfl fk_X8_39 rfl so_1 ?_
    refine mm_top (v := nI (n)) hS.cn ?_
    refine mm_icmp_geN (i) (n) (tgt := 39) dX8_endScript_7 (by decide) (by omega) (by omega) (fun c7 => ?_) (fun c7 => ?_)
    · refine mm_vret dX8_endScript_39 rfl ⟨Nat.le_refl _, Nat.le_refl _⟩ ?_
      have e : i = n := by omega
      subst e; exact hx K hS hF
    · refine mm_aload_n 1 dX8_endScript_10 rfl rfl ?_
      refine mm_iload_n 0 dX8_endScript_11 rfl rfl ?_
      refine mm_cV1r (dz := d - 1) dX8_endScript_12 rfl mzX8_worker ml_X8_79 imX8_worker (by omega) so_1 ⟨rfl, rfl⟩ (bg_wk1 (n := n) (m := i) hS.cn (by omega) hz2) (Nat.le_of_ble_eq_true rfl) ⟨Nat.le_refl _, Nat.le_refl _⟩ ?_
      refine mm_astore_n (ls' := [(3, .ref (36 + 3 * i)), (2, .int (nI (i))), (0, .ref 1), (1, .int (nI (p)))]) dX8_endScript_15 rfl (by decide) rfl ?_
      refine mm_aload_n 0 dX8_endScript_16 rfl rfl ?_
      refine mm_ifnull dX8_endScript_17 ?_
      refine mm_aload_n 0 dX8_endScript_20 rfl rfl ?_
      refine mm_at (pc' := 21) rfl ?_
      refine mm_geti dX8_endScript_21 rfl fk_X8_100 rfl (sm_1 (show i < 5 by omega)).1 ?_
      refine mm_top (v := peN N p i (630 + 40 * i + 6)) (hS.m i 6 (by omega) (by omega)) ?_
      refine mm_iload_n 3 dX8_endScript_24 rfl rfl ?_
      refine mm_icmp_ne (tgt := 33) dX8_endScript_25 (by decide) (fun c25 => ?_) (fun c25 => ?_)
      · refine mm_iincN (ls' := [(2, .int (nI (i + 1))), (3, .ref (36 + 3 * i)), (0, .ref 1), (1, .int (nI (p)))]) 1 (i) 1 dX8_endScript_33 rfl rfl (by decide) rfl ?_
        refine mm_goto (tgt := 2) dX8_endScript_36 (by decide) ?_
        have e6 : peN N p i (630 + 40 * i + 6) = N (630 + 40 * i + 6) := peN_o i (fun q hq => by omega)
        refine mm_sub [0, 2, 3] rfl (ih (i + 1) K (by omega) (by unfold peN; rw [if_neg (by rw [← e6]; exact c25), ← e6, upd_same]; exact hS) (fun a ha => hF a (fun ⟨q, h1, h2⟩ => ha ⟨q, by omega, h2⟩)) (by omega))
      · refine mm_aload_n 0 dX8_endScript_28 rfl rfl ?_
        refine mm_iconst (v := -1) dX8_endScript_29 rfl ?_
        refine mm_cV1v (dz := d - 1) dX8_endScript_30 rfl mzX1_beginScript ml_X8_102 imX1_beginScript (by omega) (sm_1 (show i < 5 by omega)).1 ⟨rfl, rfl⟩ (ct_bs (a := 36 + 3 * i) ⟨(sm_1 (show i < 5 by omega)).1, (sm_1 (show i < 5 by omega)).2.1.trans (by rw [show 37 + 3 * i = 36 + 3 * i + 1 by omega]), by have q := (sm_1 (show i < 5 by omega)).2.2.1; rw [show 37 + 3 * i = 36 + 3 * i + 1 by omega] at q; exact q⟩ (by omega)) (Nat.le_of_ble_eq_true rfl) ⟨Nat.le_refl _, Nat.le_refl _⟩ ?_
        refine mm_iincN (ls' := [(2, .int (nI (i + 1))), (3, .ref (36 + 3 * i)), (0, .ref 1), (1, .int (nI (p)))]) 1 (i) 1 dX8_endScript_33 rfl rfl (by decide) rfl ?_
        refine mm_goto (tgt := 2) dX8_endScript_36 (by decide) ?_
        have e6 : peN N p i (630 + 40 * i + 6) = N (630 + 40 * i + 6) := peN_o i (fun q hq => by omega)
        refine mm_sub [0, 2, 3] rfl (ih (i + 1) _ (by omega) (by unfold peN; rw [if_pos (by rw [← e6]; exact c25)]; exact sS_bs hz (by omega) hS) (fun a ha => ?_) (by omega))
        rw [bsM_a (fun q => ha ⟨i, by omega, by rw [← e6]; exact c25, by omega⟩)]; exact hF a (fun ⟨q, h1, h2⟩ => ha ⟨q, by omega, h2⟩)
set_option maxRecDepth 100000 in
set_option maxHeartbeats 600000 in
theorem cg_es {g : mm_G} {d c n l k o r p : Nat} {I : mm_I} {N : Nat → Int32} (hz : zOK c n l k o r) (hS : sS c n l k o r I N) (hd : 3 ≤ d) : mm_Dv g zX8_endScript d [.ref 1, .int (nI p)] sh_S I (fun K => sS c n l k o r K (peN N p n) ∧ ∀ a, ¬ esC N p n a → K a = I a) := by
  refine mm_Dv_of (fun Q hq => ?_)
  refine mm_begin (ls := [(0, .ref 1), (1, .int (nI (p)))]) (Nat.le_of_ble_eq_true rfl) rfl rfl ?_
  refine mm_iconst (v := 0) dX8_endScript_0 rfl ?_
  refine mm_istore_n (ls' := [(2, .int (0)), (0, .ref 1), (1, .int (nI (p)))]) dX8_endScript_1 rfl (by decide) rfl ?_
  exact mm_sub [0, 1, 2] rfl (lg_es (I := I) hz hd (fun K h1 h2 => hq K ⟨h1, h2⟩) (n + 1) 0 I (Nat.zero_le _) hS (fun _ _ => rfl) (by omega))
set_option maxRecDepth 100000 in
set_option maxHeartbeats 600000 in
theorem cg_pe {g : mm_G} {d : Nat} {I : mm_I} {p : Nat} (hp : p < 6) (hd : 2 ≤ d) : mm_Cv g zX4_empty d [.ref (52 + 5 * p)] sh_S (I) (mm_up (mm_up (mm_up I (53 + 5 * p) 1 0) (55 + 5 * p) 1 0) (52 + 5 * p) 2 0) := by
  refine mm_Cv_of (fun Q hq => ?_)
  refine mm_begin (ls := [(0, .ref (52 + 5 * p))]) (Nat.le_of_ble_eq_true rfl) rfl rfl ?_
  refine mm_aload_n 0 dX4_empty_0 rfl rfl ?_
  refine mm_getr (b := 53 + 5 * p) dX4_empty_1 rfl fk_X4_16 rfl (sp_1 hp).1 (sp_1 hp).2.1 ?_
  refine mm_iconst (v := 0) dX4_empty_4 rfl ?_
  refine mm_cV1v (dz := d - 1) dX4_empty_5 rfl mzX5_shorten ml_X4_27 imX5_shorten (by omega) (sp_1 hp).2.2.1.1 ⟨rfl, rfl⟩ (ct_short0 (sp_1 hp).2.2.1 (by omega)) (Nat.le_of_ble_eq_true rfl) ⟨Nat.le_refl _, Nat.le_refl _⟩ ?_
  refine mm_aload_n 0 dX4_empty_8 rfl rfl ?_
  refine mm_getr (b := 55 + 5 * p) dX4_empty_9 rfl fk_X4_20 rfl (sp_1 hp).1 (sp_1 hp).2.2.2.1 ?_
  refine mm_iconst (v := 0) dX4_empty_12 rfl ?_
  refine mm_cV1v (dz := d - 1) dX4_empty_13 rfl mzX5_shorten ml_X4_27 imX5_shorten (by omega) (sp_1 hp).2.2.2.2.1.1 ⟨rfl, rfl⟩ (ct_short0 (sp_1 hp).2.2.2.2.1 (by omega)) (Nat.le_of_ble_eq_true rfl) ⟨Nat.le_refl _, Nat.le_refl _⟩ ?_
  refine mm_at (pc' := 16) rfl ?_
  refine mm_aload_n 0 dX4_empty_16 rfl rfl ?_
  refine mm_iconst (v := 0) dX4_empty_17 rfl ?_
  refine mm_puti dX4_empty_18 rfl fk_X4_23 rfl fv_4_2 (sp_1 hp).1 ?_
  refine mm_vret dX4_empty_21 rfl ⟨Nat.le_refl _, Nat.le_refl _⟩ ?_
  exact hq
def pbM (I : mm_I) (p : Nat) : mm_I := mm_up (mm_up (mm_cp (mm_up (mm_cp I (185 + 1) (53 + 5 * p + 1) 0 0 120) (53 + 5 * p) 1 (I 185 1)) (187 + 1) (55 + 5 * p + 1) 0 0 96) (55 + 5 * p) 1 ((mm_up (mm_cp I (185 + 1) (53 + 5 * p + 1) 0 0 120) (53 + 5 * p) 1 (I 185 1)) 187 1)) (52 + 5 * p) 2 (I 184 2)
set_option maxRecDepth 100000 in
set_option maxHeartbeats 600000 in
theorem cg_pb_ {g : mm_G} {d : Nat} {I : mm_I} {p : Nat} (hp : p < 6) (hd : 3 ≤ d) : mm_Cv g zX4_become d [.ref (52 + 5 * p), .ref 184] sh_S (I) (pbM I p) := by
  refine mm_Cv_of (fun Q hq => ?_)
  refine mm_begin (ls := [(0, .ref (52 + 5 * p)), (1, .ref 184)]) (Nat.le_of_ble_eq_true rfl) rfl rfl ?_
  refine mm_aload_n 0 dX4_become_0 rfl rfl ?_
  refine mm_getr (b := 53 + 5 * p) dX4_become_1 rfl fk_X4_16 rfl (sp_1 hp).1 (sp_1 hp).2.1 ?_
  refine mm_aload_n 1 dX4_become_4 rfl rfl ?_
  refine mm_getr (b := 185) dX4_become_5 rfl fk_X4_16 rfl so_184 sr_184_0 ?_
  refine mm_cV1v (dz := d - 1) dX4_become_8 rfl mzX5_become ml_X4_30 imX5_become (by omega) (sp_1 hp).2.2.1.1 ⟨rfl, rfl⟩ (ct_become (sp_1 hp).2.2.1 rw_185 (by omega) (by omega)) (Nat.le_of_ble_eq_true rfl) ⟨Nat.le_refl _, Nat.le_refl _⟩ ?_
  refine mm_aload_n 0 dX4_become_11 rfl rfl ?_
  refine mm_getr (b := 55 + 5 * p) dX4_become_12 rfl fk_X4_20 rfl (sp_1 hp).1 (sp_1 hp).2.2.2.1 ?_
  refine mm_aload_n 1 dX4_become_15 rfl rfl ?_
  refine mm_at (pc' := 16) rfl ?_
  refine mm_getr (b := 187) dX4_become_16 rfl fk_X4_20 rfl so_184 sr_184_1 ?_
  refine mm_cV1v (dz := d - 1) dX4_become_19 rfl mzX5_become ml_X4_30 imX5_become (by omega) (sp_1 hp).2.2.2.2.1.1 ⟨rfl, rfl⟩ (ct_become (sp_1 hp).2.2.2.2.1 rw_187 (by omega) (by omega)) (Nat.le_of_ble_eq_true rfl) ⟨Nat.le_refl _, Nat.le_refl _⟩ ?_
  refine mm_aload_n 0 dX4_become_22 rfl rfl ?_
  refine mm_aload_n 1 dX4_become_23 rfl rfl ?_
  refine mm_geti dX4_become_24 rfl fk_X4_23 rfl so_184 ?_
  refine mm_top (v := I 184 2) (by rw [mm_up_ne (by omega), mm_cp_ne (by omega), mm_up_ne (by omega), mm_cp_ne (by omega)]) ?_
  refine mm_puti dX4_become_27 rfl fk_X4_23 rfl fv_4_2 (sp_1 hp).1 ?_
  refine mm_vret dX4_become_30 rfl ⟨Nat.le_refl _, Nat.le_refl _⟩ ?_
  exact hq
theorem pbM_a {I : mm_I} {p a : Nat} (h : ¬ (52 + 5 * p ≤ a ∧ a ≤ 56 + 5 * p)) : pbM I p a = I a := by
  funext i; unfold pbM; rw [mm_up_ne (by omega), mm_up_ne (by omega), mm_cp_ne (by omega), mm_up_ne (by omega), mm_cp_ne (by omega)]
theorem pbM_2 {I : mm_I} {p : Nat} : pbM I p (52 + 5 * p) 2 = I 184 2 := by unfold pbM; rw [mm_up_at]
theorem pbM_3 {I : mm_I} {p : Nat} : pbM I p (53 + 5 * p) 1 = I 185 1 := by
  unfold pbM; rw [mm_up_ne (by omega), mm_up_ne (by omega), mm_cp_ne (by omega), mm_up_at]
theorem pbM_4 {I : mm_I} {p i : Nat} (h : i < 120) : pbM I p (54 + 5 * p) i = I 186 i := by
  unfold pbM; rw [mm_up_ne (by omega), mm_up_ne (by omega), mm_cp_ne (by omega), mm_up_ne (by omega), show 54 + 5 * p = 53 + 5 * p + 1 by omega, mm_cp_in ⟨by omega, by omega⟩]; congr 1; omega
theorem pbM_5 {I : mm_I} {p : Nat} (hp : p < 6) : pbM I p (55 + 5 * p) 1 = I 187 1 := by
  unfold pbM; rw [mm_up_ne (by omega), mm_up_at, mm_up_ne (by omega), mm_cp_ne (by omega)]
theorem pbM_6 {I : mm_I} {p i : Nat} (hp : p < 6) (h : i < 96) : pbM I p (56 + 5 * p) i = I 188 i := by
  unfold pbM; rw [mm_up_ne (by omega), mm_up_ne (by omega), show 56 + 5 * p = 55 + 5 * p + 1 by omega, mm_cp_in ⟨by omega, by omega⟩, mm_up_ne (by omega), mm_cp_ne (by omega)]; congr 1; omega
