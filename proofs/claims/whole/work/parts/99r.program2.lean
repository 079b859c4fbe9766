/-! What a reading leaves as it was -/
def Frm (p n : Nat) (N N' : Nat → Int32) : Prop := ∀ x, x < 1226 + 418 * p ∨ 1226 + 418 * p + 1 + 8 * n ≤ x → N' x = N x
theorem Frm_t {p n m : Nat} {N N' N2 : Nat → Int32} (h : Frm p n N N') (h2 : Frm p m N' N2) (hm : n ≤ m) : Frm p m N N2 := fun x hx => (h2 x hx).trans (h x (by omega))
theorem Frm_0 {p n : Nat} {N : Nat → Int32} : Frm p n N N := fun _ _ => rfl
theorem Frm_sw {p n s f : Nat} {N : Nat → Int32} {v : Int32} (hs : s < n) (hf : f < 8) : Frm p n N (sw p N s f v) := fun x hx => by unfold sw upd; rw [if_neg (by omega)]
def gn_ (p : Nat) (S S' : rS) : Prop := S.2.2.2.2 ≤ S'.2.2.2.2 ∧ Frm p S'.2.2.2.2 S.2.2.1 S'.2.2.1
theorem gn_t {p : Nat} {S S' S2 : rS} (h : gn_ p S S') (h2 : gn_ p S' S2) : gn_ p S S2 := ⟨Nat.le_trans h.1 h2.1, Frm_t h.2 h2.2 h2.1⟩
theorem gn_nu {K V : Nat → Nat} {p f n : Nat} {S : rS} (hf : f < 8) (hn : n < S.2.2.2.2) : gn_ p S (r_nu K V p f n S) := ⟨Nat.le_refl _, Frm_sw hn hf⟩
theorem gn_ex {K V : Nat → Nat} {p n : Nat} {S : rS} (hn : n < S.2.2.2.2) : gn_ p S (r_ex K V p n S) := ⟨Nat.le_refl _, Frm_sw hn (by decide)⟩
theorem gn_br {K : Nat → Nat} {p D : Nat} {row : Int32 → rS → Int32 × rS} {s : Nat} {S : rS} (hr : ∀ ab S, gn_ p S (row ab S).2) : gn_ p S (r_br K D row s S).2 := by
  unfold r_br
  by_cases c : S.1 = true ∧ K S.2.1 = 123 ∧ 0 < D
  · rw [if_pos c]; exact hr (nI s) (true, S.2.1 + 1, S.2.2)
  · rw [if_neg c]; exact ⟨Nat.le_refl _, Frm_0⟩
theorem gn_bd {K : Nat → Nat} {p D : Nat} {row : Int32 → rS → Int32 × rS} {f n : Nat} {S : rS} (hr : ∀ ab S, gn_ p S (row ab S).2) (hf : f < 8) (hn : n < S.2.2.2.2) : gn_ p S (r_bd K p D row f n S) := by
  have h := gn_br (K := K) (D := D) (s := n) (S := S) hr
  exact ⟨h.1, Frm_t h.2 (Frm_sw (Nat.lt_of_lt_of_le hn h.1) hf) (Nat.le_refl _)⟩
theorem gn_el {K : Nat → Nat} {p D : Nat} {row : Int32 → rS → Int32 × rS} {n : Nat} {S : rS} (hr : ∀ ab S, gn_ p S (row ab S).2) (hn : n < S.2.2.2.2) : gn_ p S (r_el K p D row n S) := by
  unfold r_el
  by_cases c : S.1 = true ∧ K S.2.1 = 403
  · rw [if_pos c]; exact gn_bd (S := (true, S.2.1 + 1, S.2.2)) hr (by decide) hn
  · rw [if_neg c]; exact ⟨Nat.le_refl _, Frm_0⟩
theorem gn_op {K V : Nat → Nat} {p D : Nat} {row : Int32 → rS → Int32 × rS} {n o : Nat} {S : rS} (hr : ∀ ab S, gn_ p S (row ab S).2) (hn : n < S.2.2.2.2) : gn_ p S (r_op K V p D row n o S) := by
  unfold r_op
  by_cases c0 : o = 0
  · rw [if_pos c0]; exact gn_t (gn_nu (by decide) hn) (gn_nu (by decide) hn)
  rw [if_neg c0]
  by_cases c1 : o = 10
  · rw [if_pos c1]; exact gn_t (gn_nu (by decide) hn) (gn_bd hr (by decide) hn)
  rw [if_neg c1]
  by_cases c2 : o = 7
  · rw [if_pos c2]; exact gn_ex hn
  rw [if_neg c2]
  by_cases c3 : o = 9
  · rw [if_pos c3]; exact gn_t (gn_ex hn) (gn_bd hr (by decide) hn)
  rw [if_neg c3]
  by_cases c4 : o = 8
  · rw [if_pos c4]
    have h1 := gn_t (gn_ex (K := K) (V := V) hn) (gn_bd (K := K) (D := D) (n := n) (f := 4) hr (by decide) hn)
    exact gn_t h1 (gn_el hr (Nat.lt_of_lt_of_le hn h1.1))
  rw [if_neg c4]; exact ⟨Nat.le_refl _, Frm_0⟩
theorem Frm_new {p n o : Nat} {N : Nat → Int32} {ab : Int32} : Frm p (n + 1) N (r_new p N n o ab) := fun x hx => by
  unfold r_new sw upd; rw [if_neg (by omega), if_neg (by omega), if_neg (by omega), if_neg (by omega), if_neg (by omega), if_neg (by omega)]
set_option maxRecDepth 100000 in
theorem gn_one {K V : Nat → Nat} {p D : Nat} {row : Int32 → rS → Int32 × rS} {ab : Int32} {S : rS} (hr : ∀ ab S, gn_ p S (row ab S).2) : gn_ p S (r_one K V p D row ab S).2 ∧ ((r_one K V p D row ab S).2.1 = true → (r_one K V p D row ab S).1 = nI S.2.2.2.2 ∧ S.2.2.2.2 < (r_one K V p D row ab S).2.2.2.2.2) := by
  unfold r_one
  by_cases c : isW (K S.2.1)
  · rw [if_pos c]
    have h := gn_op (K := K) (V := V) (D := D) (o := K S.2.1 - 300) (n := S.2.2.2.2) (S := (true, S.2.1 + 1, r_new p S.2.2.1 S.2.2.2.2 (K S.2.1 - 300) ab, S.2.2.2.1, S.2.2.2.2 + 1)) hr (by show S.2.2.2.2 < S.2.2.2.2 + 1; omega)
    have h1 : S.2.2.2.2 + 1 ≤ (r_op K V p D row S.2.2.2.2 (K S.2.1 - 300) (true, S.2.1 + 1, r_new p S.2.2.1 S.2.2.2.2 (K S.2.1 - 300) ab, S.2.2.2.1, S.2.2.2.2 + 1)).2.2.2.2 := h.1
    exact ⟨⟨Nat.le_trans (Nat.le_succ S.2.2.2.2) h1, Frm_t (n := S.2.2.2.2 + 1) (N' := r_new p S.2.2.1 S.2.2.2.2 (K S.2.1 - 300) ab) Frm_new h.2 h1⟩, fun _ => ⟨rfl, h1⟩⟩
  · rw [if_neg c]; exact ⟨⟨Nat.le_refl _, Frm_0⟩, fun q => absurd (show false = true from q) (by decide)⟩
theorem vv_nIle (n : Nat) : vv (nI n) ≤ n := by
  by_cases h : n < 2 ^ 31
  · rw [vv_nI h]; exact Nat.le_refl _
  · have := vv_lt (nI n); omega
theorem gn_nx {p : Nat} {f l : Int32} {r : Int32 × rS} {S : rS} (h : gn_ p S r.2) (hl : ¬ f < 0 → vv l < S.2.2.2.2) : gn_ p S (r_nx p f l r) := by
  refine ⟨h.1, ?_⟩
  show Frm p r.2.2.2.2.2 S.2.2.1 (if f < 0 then r.2.2.2.1 else if r.2.1 = true then sw p r.2.2.2.1 (vv l) 6 r.1 else r.2.2.2.1)
  by_cases c : f < 0
  · rw [if_pos c]; exact h.2
  rw [if_neg c]
  by_cases c2 : r.2.1 = true
  · rw [if_pos c2]; exact Frm_t h.2 (Frm_sw (Nat.lt_of_lt_of_le (hl c) h.1) (by decide)) (Nat.le_refl _)
  · rw [if_neg c2]; exact h.2
theorem gn_lp {K : Nat → Nat} {p : Nat} {one : rS → Int32 × rS} (h1 : ∀ S, gn_ p S (one S).2 ∧ ((one S).2.1 = true → (one S).1 = nI S.2.2.2.2 ∧ S.2.2.2.2 < (one S).2.2.2.2.2)) : ∀ m f l S, (¬ f < 0 → vv l < S.2.2.2.2) → gn_ p S (r_lp K p one m f l S).2 := by
  intro m
  induction m with
  | zero => intro f l S _; exact ⟨Nat.le_refl _, Frm_0⟩
  | succ m ih =>
    intro f l S hl
    unfold r_lp
    have hx := gn_nx (p := p) (f := f) (l := l) (h1 S).1 hl
    by_cases c : (one S).2.1 = true ∧ isW (K (one S).2.2.1)
    · rw [if_pos c]
      refine gn_t hx (ih _ _ _ (fun _ => ?_))
      obtain ⟨e1, e2⟩ := (h1 S).2 c.1
      rw [e1]
      exact Nat.lt_of_le_of_lt (vv_nIle _) e2
    · rw [if_neg c]; exact hx
theorem gn_row {K V : Nat → Nat} {p : Nat} : ∀ D ab S, gn_ p S (r_row K V p D ab S).2 := by
  intro D
  induction D with
  | zero => intro ab S; exact gn_lp (fun S => gn_one (fun _ _ => ⟨Nat.le_refl _, Frm_0⟩)) 97 (-1) (-1) S (fun q => absurd (by decide) q)
  | succ D ih => intro ab S; exact gn_lp (fun S => gn_one ih) 97 (-1) (-1) S (fun q => absurd (by decide) q)
/-! THE CLASS: program -/
theorem sS_c {c n l k o r : Nat} {M M' : mm_I} {N N' : Nat → Int32} (hn : n ≤ 5) (H : sS c n l k o r M N) (hM : ∀ a, ¬ offC a → M' a = M a) (hN : ∀ x, x < 1226 → N' x = N x) (hz : zOK c n l k o r) : sS c n l k o r M' N' := by
  obtain ⟨hz1, hz2, hz3, hz4, hz5, hz6⟩ := hz
  refine sS.mk ?_ ?_ ?_ ?_ ?_ ?_ ?_ ?_ ?_ ?_ ?_ ?_ ?_ ?_ ?_ ?_ ?_ ?_ ?_ ?_ ?_ ?_ ?_ ?_ ?_ ?_ ?_ ?_
  · rw [hM _ (by omega), hN _ (by omega)]; exact H.w
  · rw [hM _ (by omega), hN _ (by omega)]; exact H.h
  · rw [hM _ (by omega), hN _ (by omega)]; exact H.fu
  · rw [hM _ (by omega), hN _ (by omega)]; exact H.lo
  · intro i hi; rw [hM _ (by omega), hN _ (by omega)]; exact H.ki i hi
  · intro i hi; rw [hM _ (by omega), hN _ (by omega)]; exact H.du i hi
  · intro i hi; rw [hM _ (by omega), hN _ (by omega)]; exact H.ic i hi
  · intro y hy; rw [hM _ (by omega), hN _ (by omega)]; exact H.se y hy
  · intro y j hy hj h0; rw [hN _ (by omega)] at h0; rw [hM _ (by omega), hN _ (by omega)]; exact H.sf y j hy hj h0
  · intro i hi; rw [hM _ (by omega), hN _ (by omega)]; exact H.st i hi
  · rw [hM _ (by omega), hN _ (by omega)]; exact H.p0
  · intro i hi; rw [hM _ (by omega), hN _ (by omega)]; exact H.p1 i hi
  · rw [hM _ (by omega), hN _ (by omega)]; exact H.p6
  · rw [hM _ (by omega), hN _ (by omega)]; exact H.p7
  · intro i hi; rw [hM _ (by omega), hN _ (by omega)]; exact H.l0 i hi
  · intro i hi; rw [hM _ (by omega), hN _ (by omega)]; exact H.l1 i hi
  · intro i hi; rw [hM _ (by omega), hN _ (by omega)]; exact H.k0 i hi
  · intro i hi; rw [hM _ (by omega), hN _ (by omega)]; exact H.k1 i hi
  · intro i hi; rw [hM _ (by omega), hN _ (by omega)]; exact H.k2 i hi
  · intro i hi; rw [hM _ (by omega), hN _ (by omega)]; exact H.k3 i hi
  · intro q i hq hi; rw [hM _ (by omega), hN _ (by omega)]; exact H.m q i hq hi
  · intro i hi; rw [hM _ (by omega), hN _ (by omega)]; exact H.o0 i hi
  · intro i hi; rw [hM _ (by omega), hN _ (by omega)]; exact H.r0 i hi
  · intro a ha; rw [hM _ (by omega)]; exact H.cl a ha
  · intro a ha; rw [hM _ (by omega)]; exact H.ck a ha
  · rw [hM _ (by omega)]; exact H.co
  · rw [hM _ (by omega)]; exact H.cr
  · rw [hM _ (by omega)]; exact H.cn
theorem cZ_a {I : mm_I} {T : Nat → Int32} {t : Nat} {S : cS} {a : Nat} (h : a ≠ 176) (h2 : a < 184 ∨ 190 < a) : cZ I T t S a = I a := by
  obtain ⟨ok, k, fr, st, Af, an, Sf, sn, Bf, bn⟩ := S
  exact cz_n h h2
/-- what a call of program leaves -/
def pgP (c n l k o r t : Nat) (I J K : mm_I) (x : Int32) : Prop :=
  sS c n l k o r K ((op_program n t J x).2 201) ∧ K 174 1 = 0 ∧ K 175 = I 175 ∧ (∀ a, a = 0 ∨ 190 < a ∨ (85 < a ∧ a < 174) → K a = I a) ∧
  (∀ p, p < 6 → ¬ x = nI p → ∀ a, 52 + 5 * p ≤ a → a ≤ 56 + 5 * p → K a = I a) ∧
  (∀ p, p < 6 → x = nI p → prR K ((op_program n t J x).2 201) p) ∧
  (∀ m, m < n → (¬ sp_wi x 0 5 ∨ ¬ J 201 (630 + 40 * m + 6) = x) → ∀ a, 36 + 3 * m ≤ a → a ≤ 38 + 3 * m → K a = I a)
/-- what the reference's row is then -/
theorem pg_N_x {J : mm_I} {p n t x : Nat} (hB : tp_ok (J 203) t) (hx : x < 1226 + 418 * p ∨ 1226 + 418 * (p + 1) ≤ x) : nc (pg_R J p n t).2.2.1 p (pg_R J p n t).2.2.2.1 x = peN (J 201) p n x := by
  have hr : r1_ (J 203) t p (true, 0, pg_N J p n, [], 0) := ⟨⟨Nat.zero_le _, Nat.le_refl _, (if_pos rfl : pg_N J p n (1226 + 418 * p) = 0), Nat.zero_le _⟩, fun _ => Nat.zero_le _⟩
  have hG := (r_row_good hB.1 hB 4 (-1) (true, 0, pg_N J p n, [], 0) rfl hr).1
  have hF := (gn_row (K := tK (J 203) t) (V := tV (J 203) t) (p := p) 4 (-1) (true, 0, pg_N J p n, [], 0)).2
  have h32 := hG.1.2.2.2
  have hcs : (pg_R J p n t).2.2.2.1.length ≤ 96 := Nat.le_trans hG.1.2.1 (Nat.le_trans hG.1.1 hB.1)
  have e1 : nc (pg_R J p n t).2.2.1 p (pg_R J p n t).2.2.2.1 x = (pg_R J p n t).2.2.1 x := by unfold nc; rw [if_neg (by omega), if_neg (by omega)]
  rw [e1]
  have e2 : (pg_R J p n t).2.2.1 x = pg_N J p n x := by
    refine hF x ?_
    have : (r_row (tK (J 203) t) (tV (J 203) t) p 4 (-1) (true, 0, pg_N J p n, [], 0)).2.2.2.2.2 ≤ 32 := h32
    omega
  rw [e2]
  unfold pg_N
  rw [upd_n (by omega)]
  unfold pg_J
  rw [peN_op, mm_up_a (by decide)]
theorem nI_lt6 {p : Int32} (h : p < nI 6) : p ≤ 5 := by
  rw [Int32.le_iff_toInt_le]; rw [Int32.lt_iff_toInt_lt] at h
  have e1 : (nI 6).toInt = 6 := by decide
  have e2 : (5 : Int32).toInt = 5 := by decide
  omega
set_option maxRecDepth 100000 in
set_option maxHeartbeats 600000 in
theorem bg_scN {g : mm_G} {d : Nat} {I : mm_I} {p : Int32} (hp : ¬ sp_wi p 0 5) : mm_Cr g zX8_script d [.ref 1, .int (p)] sh_S (I) (.null) (I) := by
  refine mm_Cr_of (fun Q hq => ?_)
  refine mm_begin (ls := [(0, .ref 1), (1, .int (p))]) (Nat.le_of_ble_eq_true rfl) rfl rfl ?_
  refine mm_iload_n 1 dX8_script_0 rfl rfl ?_
  refine mm_if_lt (tgt := 22) dX8_script_1 (by decide) (fun c1 => ?_) (fun c1 => ?_)
  · refine mm_null dX8_script_22 ?_
    refine mm_aret dX8_script_23 rfl (Or.inl ⟨_, rfl⟩) (Or.inl rfl) ⟨Nat.le_refl _, Nat.le_refl _⟩ ?_
    exact hq
  · refine mm_iload_n 1 dX8_script_4 rfl rfl ?_
    refine mm_aload_n 0 dX8_script_5 rfl rfl ?_
    refine mm_getr (b := 51) dX8_script_6 rfl fk_X8_45 rfl so_1 sr_1_5 ?_
    refine mm_alenR dX8_script_9 sq_51 ?_
    refine mm_icmp_ge (tgt := 22) dX8_script_10 (by decide) (fun c10 => ?_) (fun c10 => ?_)
    · refine mm_null dX8_script_22 ?_
      refine mm_aret dX8_script_23 rfl (Or.inl ⟨_, rfl⟩) (Or.inl rfl) ⟨Nat.le_refl _, Nat.le_refl _⟩ ?_
      exact hq
    · exact absurd ⟨Int32.not_lt.mp c1, (by have q := Int32.not_le.mp c10; exact nI_lt6 q)⟩ hp
set_option maxRecDepth 100000 in
set_option maxHeartbeats 600000 in
theorem cb_programB {g : mm_G} {d : Nat} {I : mm_I} {c n l k o r t : Nat} {N : Nat → Int32} {J : mm_I} (hz : zOK c n l k o r) (hS : sS c n l k o r I N) (hJ : J 201 = N) (hT : tpR I J t) {x : Int32} (hx : ¬ sp_wi x 0 5) (hd : 3 ≤ d) : mm_Di g zX11_program d [.ref 0, .int (x)] sh_S (I) (fun r_ K => r_ = (op_program n t J x).1 ∧ pgP c n l k o r t I J K x) := by
  refine mm_Di_of (fun Q hq => ?_)
  refine mm_begin (ls := [(0, .ref 0), (1, .int (x))]) (Nat.le_of_ble_eq_true rfl) rfl rfl ?_
  refine mm_aload_n 0 dX11_program_0 rfl rfl ?_
  refine mm_getr (b := 1) dX11_program_1 rfl fk_X11_10 rfl so_0 sr_0_0 ?_
  refine mm_iload_n 1 dX11_program_4 rfl rfl ?_
  refine mm_cV1r (dz := d - 1) dX11_program_5 rfl mzX8_script ml_X11_245 imX8_script (by omega) so_1 ⟨rfl, rfl⟩ (bg_scN hx) (Nat.le_of_ble_eq_true rfl) ⟨Nat.le_refl _, Nat.le_refl _⟩ ?_
  refine mm_astoreN_n (ls' := [(2, .null), (0, .ref 0), (1, .int (x))]) dX11_program_8 rfl (by decide) rfl ?_
  refine mm_aloadN_n 0 dX11_program_9 rfl rfl ?_
  refine mm_ifnonnullN dX11_program_10 ?_
  refine mm_aload_n 1 dX11_program_13 rfl rfl ?_
  refine mm_at (pc' := 14) rfl ?_
  refine mm_getr (b := 174) dX11_program_14 rfl fk_X11_37 rfl so_0 sr_0_4 ?_
  refine mm_iconst (v := 0) dX11_program_17 rfl ?_
  refine mm_cV1v (dz := d - 1) dX11_program_18 rfl mzX5_shorten ml_X11_242 imX5_shorten (by omega) so_174 ⟨rfl, rfl⟩ (ct_short0 rw_174 (by omega)) (Nat.le_of_ble_eq_true rfl) ⟨Nat.le_refl _, Nat.le_refl _⟩ ?_
  refine mm_ldc dX11_program_21 rfl kc_X11_67 ?_
  refine mm_iret dX11_program_23 rfl ⟨Nat.le_refl _, Nat.le_refl _⟩ ?_
  have e : op_program n t J x = (-1000000001, mm_up J 200 4 0) := if_pos hx
  have e2 : (op_program n t J x).2 201 = N := by rw [e]; show mm_up J 200 4 0 201 = N; rw [mm_up_a (by decide)]; exact hJ
  refine hq _ _ ⟨by rw [e], ?_, mm_up_at, mm_up_a (by decide), fun a ha => mm_up_a (by omega), fun p hp _ a h1 h2 => mm_up_a (by omega), fun p hp hh => ?_, fun m hm _ a h1 h2 => mm_up_a (by omega)⟩
  · rw [e2]; exact sS_c hz.2.1 hS (fun a ha => mm_up_a (by omega)) (fun _ _ => rfl) hz
  · exfalso; apply hx; rw [hh]; exact (sp_wi_nI (b := 5) (by omega) (by decide)).mpr (by omega)
set_option maxRecDepth 100000 in
set_option maxHeartbeats 600000 in
theorem cb_program1 {g : mm_G} {d : Nat} {I : mm_I} {c n l k o r t : Nat} {N : Nat → Int32} {J : mm_I} (hz : zOK c n l k o r) (hS : sS c n l k o r I N) (hJ : J 201 = N) (hT : tpR I J t) {p : Nat} (hp : p < 6) (hd : 152 ≤ d) : mm_Di g zX11_program d [.ref 0, .int (nI (p))] sh_S (I) (fun r_ K => r_ = (op_program n t J (nI p)).1 ∧ pgP c n l k o r t I J K (nI p)) := by
  refine mm_Di_of (fun Q hq => ?_)
  refine mm_begin (ls := [(0, .ref 0), (1, .int (nI (p)))]) (Nat.le_of_ble_eq_true rfl) rfl rfl ?_
  refine mm_aload_n 0 dX11_program_0 rfl rfl ?_
  refine mm_getr (b := 1) dX11_program_1 rfl fk_X11_10 rfl so_0 sr_0_0 ?_
  refine mm_iload_n 1 dX11_program_4 rfl rfl ?_
  refine mm_cV1r (dz := d - 1) dX11_program_5 rfl mzX8_script ml_X11_245 imX8_script (by omega) so_1 ⟨rfl, rfl⟩ (bg_sc1 hp) (Nat.le_of_ble_eq_true rfl) ⟨Nat.le_refl _, Nat.le_refl _⟩ ?_
  refine mm_astore_n (ls' := [(2, .ref (52 + 5 * p)), (0, .ref 0), (1, .int (nI (p)))]) dX11_program_8 rfl (by decide) rfl ?_
  refine mm_aload_n 0 dX11_program_9 rfl rfl ?_
  refine mm_ifnonnull (tgt := 24) dX11_program_10 (by decide) ?_
  refine mm_aload_n 1 dX11_program_24 rfl rfl ?_
  refine mm_getr (b := 176) dX11_program_25 rfl fk_X11_46 rfl so_0 sr_0_5 ?_
  refine mm_dV0i (dz := d - 1) dX11_program_28 rfl mzX2_read ml_X11_248 imX2_read (by omega) so_176 ⟨rfl, rfl⟩ (cp_read2 hT.1 hT.2.2.2.1 (by rw [hT.2.2.1]; exact hT.2.2.2) (by omega)) (Nat.le_of_ble_eq_true rfl) ⟨Nat.le_refl _, Nat.le_refl _⟩ (fun rr K1 hK1 => ?_)
  obtain ⟨I2, ⟨W, hWR⟩, hfr, rfl, hrr⟩ := hK1
  refine mm_istore_n (ls' := [(3, .int (rr)), (2, .ref (52 + 5 * p)), (0, .ref 0), (1, .int (nI (p)))]) dX11_program_31 rfl (by decide) rfl ?_
  refine mm_aload_n 2 dX11_program_32 rfl rfl ?_
  refine mm_getr (b := 174) dX11_program_33 rfl fk_X11_37 rfl so_0 sr_0_4 ?_
  refine mm_iconst (v := 0) dX11_program_36 rfl ?_
  refine mm_cV1v (dz := d - 1) dX11_program_37 rfl mzX5_shorten ml_X11_242 imX5_shorten (by omega) so_174 ⟨rfl, rfl⟩ (ct_short0 rw_174 (by omega)) (Nat.le_of_ble_eq_true rfl) ⟨Nat.le_refl _, Nat.le_refl _⟩ ?_
  refine mm_at (pc' := 40) rfl ?_
  refine mm_aload_n 2 dX11_program_40 rfl rfl ?_
  refine mm_getr (b := 1) dX11_program_41 rfl fk_X11_10 rfl so_0 sr_0_0 ?_
  refine mm_iload_n 3 dX11_program_44 rfl rfl ?_
  refine mm_dV1v (dz := d - 1) dX11_program_45 rfl mzX8_endScript ml_X11_251 imX8_endScript (by omega) so_1 ⟨rfl, rfl⟩ (cg_es (N := N) (p := p) hz (sS_c hz.2.1 hS (fun a ha => (mm_up_a (by omega)).trans ((cZ_a (by omega) (by omega)).trans (hfr a (by omega)))) (fun _ _ => rfl) hz) (by omega)) (Nat.le_of_ble_eq_true rfl) ⟨Nat.le_refl _, Nat.le_refl _⟩ (fun K2 hK2 => ?_)
  obtain ⟨hS2, hF2⟩ := hK2
  refine mm_iload_n 0 dX11_program_48 rfl rfl ?_
  refine mm_if_lt (tgt := 61) dX11_program_49 (by decide) (fun c49 => ?_) (fun c49 => ?_)
  · refine mm_aload_n 1 dX11_program_61 rfl rfl ?_
    refine mm_aload_n 2 dX11_program_62 rfl rfl ?_
    refine mm_getr (b := 176) dX11_program_63 rfl fk_X11_46 rfl so_0 sr_0_5 ?_
    refine mm_getr (b := 184) dX11_program_66 rfl fk_X11_259 rfl so_176 sr_176_1 ?_
    refine mm_cV1v (dz := d - 1) dX11_program_69 rfl mzX4_become ml_X11_263 imX4_become (by omega) (sp_1 hp).1 ⟨rfl, rfl⟩ (cg_pb_ hp (by omega)) (Nat.le_of_ble_eq_true rfl) ⟨Nat.le_refl _, Nat.le_refl _⟩ ?_
    refine mm_aload_n 1 dX11_program_72 rfl rfl ?_
    refine mm_geti dX11_program_73 rfl fk_X11_267 rfl (sp_1 hp).1 ?_
    refine mm_iret dX11_program_76 rfl ⟨Nat.le_refl _, Nat.le_refl _⟩ ?_
    have hBt : tp_ok (I 175) t := by rw [hT.2.2.1]; exact hT.2.2.2
    have eop : op_program n t J (nI p) = op_pg J p n t := by unfold op_program; rw [if_neg (fun q => q ((sp_wi_nI (b := 5) (by omega) (by decide)).mpr (by omega))), vv_nI (by omega)]
    have hE : ∀ a, a = 0 ∨ a = 174 ∨ 85 < a ∨ (51 ≤ a ∧ a ≤ 81) → ¬ esC N p n a := fun a ha ⟨q, h1, _, h3⟩ => by have := hz.2.1; omega
    have hI2 : ∀ a, ¬ (a = 174 ∨ (176 ≤ a ∧ a ≤ 190)) → mm_up (cZ I2 (I 175) t (cl_run (I 175) t 97 (c_0 I2))) 174 1 0 a = I a := fun a ha => (mm_up_a (by omega)).trans ((cZ_a (by omega) (by omega)).trans (hfr a (by omega)))
    rcases hRR : r_row (tK (I 175) t) (tV (I 175) t) p 4 (-1) (true, 0, pg_N J p n, [], 0) with ⟨y, ok, k', N', CS', n'⟩
    have hpg : pg_R J p n t = (ok, k', N', CS', n') := by unfold pg_R; rw [← hT.2.2.1, hRR]
    have hst := sim_top2 (p := p) (Af := I2 186) (Sf := I2 188) (Bf := I2 190) hBt hWR (if_pos rfl : pg_N J p n (1226 + 418 * p) = 0) y ok k' N' CS' n' hRR
    have hcm : ∀ m, m < n → (¬ sp_wi (nI p) 0 5 ∨ ¬ J 201 (630 + 40 * m + 6) = nI p) → ∀ a, 36 + 3 * m ≤ a → a ≤ 38 + 3 * m → K2 a = I a := fun m hm hh a h1 h2 => by
      rcases hh with hh | hh
      · exact absurd ((sp_wi_nI (b := 5) (by omega) (by decide)).mpr (by omega)) hh
      · rw [hJ] at hh
        have hn5 := hz.2.1
        rw [hF2 a (fun ⟨q, e1, e2, e3⟩ => hh (by rw [show m = q by omega]; exact e2))]; exact hI2 a (by omega)
    have hok : ok = true ∧ tK (I 175) t k' = 400 := Decidable.not_not.mp (fun q => by
      have q2 := (hst.2 q).1
      change (cl_run (I 175) t 97 (c_0 I2)).1 = false at q2
      rw [q2, if_neg (by decide)] at hrr
      rw [hrr] at c49
      have := (tq_good (I 175) t (cl_run (I 175) t 97 (c_0 I2)).2.1).1
      have := (tq_good (I 175) t (cl_run (I 175) t 97 (c_0 I2)).2.1).2.1
      have := hBt.1
      exact nI_pos (by omega) c49)
    obtain ⟨Af', a', Sf', Bf', hrun, hSf, -, hn0, hn32, ha0, ha38, hcs, E, lv, hG⟩ := hst.1 hok
    change cl_run (I 175) t 97 (c_0 I2) = _ at hrun
    have epg : op_pg J p n t = (nI n', pg_Z J p n t 0) := by unfold op_pg; rw [if_pos (by show (pg_R J p n t).1 = true ∧ tK (J 203) t (pg_R J p n t).2.1 = 400; rw [hpg, ← hT.2.2.1]; exact hok), hpg]
    have e201 : (op_program n t J (nI p)).2 201 = nc N' p CS' := by rw [eop, epg]; show pg_Z J p n t 0 201 = _; unfold pg_Z; rw [hpg]; rfl
    have hx1 := fun x hx => pg_N_x (J := J) (p := p) (n := n) (t := t) (x := x) hT.2.2.2 hx
    rw [hpg] at hx1
    have hK2 : ∀ a, 176 ≤ a → K2 a = cZ I2 (I 175) t (true, k', false, n', Af', a', Sf', CS'.length, Bf', 0) a := fun a ha => by rw [hF2 a (hE a (by omega)), mm_up_a (by omega), hrun]
    have eN0 : N' (1226 + 418 * p) = nI n' := by
      have hr : r1_ (J 203) t p (true, 0, pg_N J p n, [], 0) := ⟨⟨Nat.zero_le _, Nat.le_refl _, (if_pos rfl : pg_N J p n (1226 + 418 * p) = 0), Nat.zero_le _⟩, fun _ => Nat.zero_le _⟩
      have hGd := (r_row_good hT.2.2.2.1 hT.2.2.2 4 (-1) (true, 0, pg_N J p n, [], 0) rfl hr).1
      rw [← hT.2.2.1, hRR] at hGd
      exact hGd.1.2.2.1
    have hn5 := hz.2.1
    refine hq _ _ ⟨?_, ?_, ?_, ?_, fun a ha => ?_, fun p' hp' hne a h1 h2 => ?_, fun p' hp' he => ?_, fun m hm hh a h1 h2 => ?_⟩
    · rw [eop, epg, pbM_2, hK2 184 (by decide)]; rfl
    · rw [e201]; exact sS_c hn5 hS2 (fun a ha => pbM_a (by omega)) (fun x hx => (hx1 x (by omega)).trans (by rw [hJ])) hz
    · rw [pbM_a (by omega), hF2 174 (hE _ (by omega)), mm_up_at]
    · rw [pbM_a (by omega), hF2 175 (hE _ (by omega))]; exact hI2 175 (by omega)
    · rw [pbM_a (by omega), hF2 a (hE _ (by omega))]; exact hI2 a (by omega)
    · have : ¬ p' = p := fun q => hne (by rw [q])
      rw [pbM_a (by omega), hF2 a (hE _ (by omega))]; exact hI2 a (by omega)
    · have e : p = p' := by have := congrArg vv he; rw [vv_nI (by omega), vv_nI (by omega)] at this; exact this
      subst e
      rw [e201]
      have enc : ∀ x, x < 1226 + 418 * p + 257 → nc N' p CS' x = N' x := fun x hx => by unfold nc; rw [if_neg (by omega), if_neg (by omega)]
      refine ⟨n', hn32, (enc _ (by omega)).trans eN0, ?_, fun _ => ⟨a', CS', E, lv, ha0, ha38, ?_, ?_, hcs, fun i hi => ?_, fun i hi => ?_, prG_c hG (fun s f h1 h2 => enc _ (by omega)) (fun i hi => ?_)⟩⟩
      · rw [pbM_2, hK2 184 (by decide)]; rfl
      · rw [pbM_3, hK2 185 (by decide)]; rfl
      · rw [pbM_5 hp, hK2 187 (by decide)]; rfl
      · rw [pbM_6 hp (by omega), hK2 188 (by decide)]; exact hSf i hi
      · unfold nc; rw [if_neg (by omega), if_pos (by omega)]; congr 2; omega
      · rw [pbM_4 (by omega), hK2 186 (by decide)]; rfl
    · rw [pbM_a (by omega)]; exact hcm m hm hh a h1 h2
  · refine mm_aload_n 1 dX11_program_52 rfl rfl ?_
    refine mm_cV0v (dz := d - 1) dX11_program_53 rfl mzX4_empty ml_X11_254 imX4_empty (by omega) (sp_1 hp).1 ⟨rfl, rfl⟩ (cg_pe hp (by omega)) (Nat.le_of_ble_eq_true rfl) ⟨Nat.le_refl _, Nat.le_refl _⟩ ?_
    refine mm_bipush (v := -100) dX11_program_56 rfl ?_
    refine mm_iload_n 0 dX11_program_58 rfl rfl ?_
    refine mm_isub dX11_program_59 ?_
    refine mm_iret dX11_program_60 rfl ⟨Nat.le_refl _, Nat.le_refl _⟩ ?_
    have hBt : tp_ok (I 175) t := by rw [hT.2.2.1]; exact hT.2.2.2
    have eop : op_program n t J (nI p) = op_pg J p n t := by unfold op_program; rw [if_neg (fun q => q ((sp_wi_nI (b := 5) (by omega) (by decide)).mpr (by omega))), vv_nI (by omega)]
    have hE : ∀ a, a = 0 ∨ a = 174 ∨ 85 < a ∨ (51 ≤ a ∧ a ≤ 81) → ¬ esC N p n a := fun a ha ⟨q, h1, _, h3⟩ => by have := hz.2.1; omega
    have hI2 : ∀ a, ¬ (a = 174 ∨ (176 ≤ a ∧ a ≤ 190)) → mm_up (cZ I2 (I 175) t (cl_run (I 175) t 97 (c_0 I2))) 174 1 0 a = I a := fun a ha => (mm_up_a (by omega)).trans ((cZ_a (by omega) (by omega)).trans (hfr a (by omega)))
    rcases hRR : r_row (tK (I 175) t) (tV (I 175) t) p 4 (-1) (true, 0, pg_N J p n, [], 0) with ⟨y, ok, k', N', CS', n'⟩
    have hpg : pg_R J p n t = (ok, k', N', CS', n') := by unfold pg_R; rw [← hT.2.2.1, hRR]
    have hst := sim_top2 (p := p) (Af := I2 186) (Sf := I2 188) (Bf := I2 190) hBt hWR (if_pos rfl : pg_N J p n (1226 + 418 * p) = 0) y ok k' N' CS' n' hRR
    have hcm : ∀ m, m < n → (¬ sp_wi (nI p) 0 5 ∨ ¬ J 201 (630 + 40 * m + 6) = nI p) → ∀ a, 36 + 3 * m ≤ a → a ≤ 38 + 3 * m → K2 a = I a := fun m hm hh a h1 h2 => by
      rcases hh with hh | hh
      · exact absurd ((sp_wi_nI (b := 5) (by omega) (by decide)).mpr (by omega)) hh
      · rw [hJ] at hh
        have hn5 := hz.2.1
        rw [hF2 a (fun ⟨q, e1, e2, e3⟩ => hh (by rw [show m = q by omega]; exact e2))]; exact hI2 a (by omega)
    have hok : ¬ (ok = true ∧ tK (I 175) t k' = 400) := fun q => by
      obtain ⟨Af', a', Sf', Bf', hrun, -⟩ := hst.1 q
      change cl_run (I 175) t 97 (c_0 I2) = _ at hrun
      rw [hrun, if_pos rfl] at hrr
      rw [hrr] at c49
      exact c49 (by decide)
    obtain ⟨q1, q2⟩ := hst.2 hok
    change (cl_run (I 175) t 97 (c_0 I2)).1 = false at q1
    change (cl_run (I 175) t 97 (c_0 I2)).2.1 = k' at q2
    rw [q1, if_neg (by decide), q2] at hrr
    have epg : op_pg J p n t = ((-100) - nI (tq (J 203) t k').1, mm_up (pg_Z J p n t 1) 201 (1226 + 418 * p) 0) := by unfold op_pg; rw [if_neg (by show ¬ ((pg_R J p n t).1 = true ∧ tK (J 203) t (pg_R J p n t).2.1 = 400); rw [hpg, ← hT.2.2.1]; exact hok), hpg]
    have e201 : (op_program n t J (nI p)).2 201 = upd (nc N' p CS') (1226 + 418 * p) 0 := by rw [eop, epg]; show mm_up (pg_Z J p n t 1) 201 (1226 + 418 * p) 0 201 = _; rw [up_201]; unfold pg_Z; rw [hpg]; rfl
    have hx1 := fun x hx => pg_N_x (J := J) (p := p) (n := n) (t := t) (x := x) hT.2.2.2 hx
    rw [hpg] at hx1
    have hn5 := hz.2.1
    have hM3 : ∀ a, ¬ (a = 52 + 5 * p ∨ a = 53 + 5 * p ∨ a = 55 + 5 * p) → mm_up (mm_up (mm_up K2 (53 + 5 * p) 1 0) (55 + 5 * p) 1 0) (52 + 5 * p) 2 0 a = K2 a := fun a ha => by rw [mm_up_a (by omega), mm_up_a (by omega), mm_up_a (by omega)]
    refine hq _ _ ⟨?_, ?_, ?_, ?_, fun a ha => ?_, fun p' hp' hne a h1 h2 => ?_, fun p' hp' he => ?_, fun m hm hh a h1 h2 => ?_⟩
    · rw [eop, epg, hrr, hT.2.2.1]
    · rw [e201]; exact sS_c hn5 hS2 (fun a ha => hM3 a (by omega)) (fun x hx => (upd_n (by omega)).trans ((hx1 x (by omega)).trans (by rw [hJ]))) hz
    · rw [hM3 _ (by omega), hF2 174 (hE _ (by omega)), mm_up_at]
    · rw [hM3 _ (by omega), hF2 175 (hE _ (by omega))]; exact hI2 175 (by omega)
    · rw [hM3 _ (by omega), hF2 a (hE _ (by omega))]; exact hI2 a (by omega)
    · have : ¬ p' = p := fun q => hne (by rw [q])
      rw [hM3 _ (by omega), hF2 a (hE _ (by omega))]; exact hI2 a (by omega)
    · have e : p = p' := by have := congrArg vv he; rw [vv_nI (by omega), vv_nI (by omega)] at this; exact this
      subst e
      rw [e201]
      exact ⟨0, by decide, upd_y, mm_up_at, fun q => absurd q (by decide)⟩
    · rw [hM3 _ (by omega)]; exact hcm m hm hh a h1 h2
theorem cb_program {g : mm_G} {d : Nat} {I : mm_I} {c n l k o r t : Nat} {N : Nat → Int32} {J : mm_I} (hz : zOK c n l k o r) (hS : sS c n l k o r I N) (hJ : J 201 = N) (hT : tpR I J t) {x : Int32} (hd : 152 ≤ d) : mm_Di g zX11_program d [.ref 0, .int x] sh_S I (fun r_ K => r_ = (op_program n t J x).1 ∧ pgP c n l k o r t I J K x) := by
  by_cases c : sp_wi x 0 5
  · obtain ⟨p, hp, rfl⟩ := sp_wi_nat 5 (by decide) c
    exact cb_program1 hz hS hJ hT (by omega) hd
  · exact cb_programB hz hS hJ hT c (by omega)
