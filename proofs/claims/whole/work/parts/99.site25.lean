/-! THE CLASS: kilos, land -/
def apN (w a b : Nat) : Nat := ((a % w - b % w) + (b % w - a % w)) + ((a / w - b / w) + (b / w - a / w))
theorem apN_c {w a b : Nat} : apN w a b = apN w b a := by unfold apN; omega
theorem abs_n {x y : Nat} (hx : x ≤ 10) (hy : y ≤ 10) : sp_abs (nI x - nI y) = nI ((x - y) + (y - x)) := by
  have hh : ∀ x, x ≤ 10 → ∀ y, y ≤ 10 → sp_abs (nI x - nI y) = nI ((x - y) + (y - x)) := by decide +kernel
  exact hh x hx y hy
theorem ap_n {w h a b : Nat} (hw1 : 2 ≤ w) (hw : w ≤ 10) (hh : h ≤ 8) (ha : a < w * h) (hb : b < w * h) (hc : w * h ≤ 80) : sp_ap w (nI a) (nI b) = nI (apN w a b) := by
  unfold sp_ap
  have h1 := Nat.mod_lt a (show 0 < w by omega)
  have h2 := Nat.mod_lt b (show 0 < w by omega)
  have h3 := sp_dl (show 0 < w by omega) ha
  have h4 := sp_dl (show 0 < w by omega) hb
  rw [pk_rem (by omega) (by omega) (by omega), pk_rem (by omega) (by omega) (by omega), pk_div (by omega) (by omega) (by omega), pk_div (by omega) (by omega) (by omega), abs_n (by omega) (by omega), abs_n (by omega) (by omega), nI_add]
  rfl
theorem apN_le {w h a b : Nat} (hw1 : 2 ≤ w) (hw : w ≤ 10) (hh : h ≤ 8) (ha : a < w * h) (hb : b < w * h) : apN w a b ≤ 18 := by
  unfold apN
  have h1 := Nat.mod_lt a (show 0 < w by omega)
  have h2 := Nat.mod_lt b (show 0 < w by omega)
  have h3 := sp_dl (show 0 < w by omega) ha
  have h4 := sp_dl (show 0 < w by omega) hb
  have hh2 : ∀ x y u v : Nat, x < w → y < w → u < h → v < h → ((x - y) + (y - x)) + ((u - v) + (v - u)) ≤ 18 := by intros; omega
  exact hh2 _ _ _ _ h1 h2 h3 h4
set_option maxRecDepth 100000 in
set_option maxHeartbeats 600000 in
theorem cg_apart {g : mm_G} {d : Nat} {w h n l k o r : Nat} {A : mm_I} {N : Nat → Int32} (hz : zOK (w * h) n l k o r) (hW : mo_W N w h) {a b : Nat} (ha : a < w * h) (hb : b < w * h) (hd : 1 ≤ d) : mm_Ci g zX0_apart d [.ref 2, .int (nI (a)), .int (nI (b))] sh_S (cN (w * h) n l k o r A N) (nI (apN w a b)) (cN (w * h) n l k o r A N) := by
  obtain ⟨hz1, hz2, hz3, hz4, hz5, hz6⟩ := id hz
  have hc := mo_W_c hW
  obtain ⟨-, -, hw1, hw2, hh1, hh2⟩ := id hW
  have hm1 := Nat.mod_lt a (show 0 < w by omega)
  have hm2 := Nat.mod_lt b (show 0 < w by omega)
  have hl1 := sp_dl (show 0 < w by omega) ha
  have hl2 := sp_dl (show 0 < w by omega) hb
  refine mm_Ci_of (fun Q hq => ?_)
  refine mm_begin (ls := [(0, .ref 2), (1, .int (nI (a))), (2, .int (nI (b)))]) (Nat.le_of_ble_eq_true rfl) rfl rfl ?_
  refine mm_aload_n 0 dX0_apart_0 rfl rfl ?_
  refine mm_iload_n 1 dX0_apart_1 rfl rfl ?_
  refine mm_cV1i (dz := d - 1) dX0_apart_2 rfl mzX0_column ml_X0_81 imX0_column (by omega) so_2 ⟨rfl, rfl⟩ (cg_column hz hW (c := a) (by omega)) (Nat.le_of_ble_eq_true rfl) ⟨Nat.le_refl _, Nat.le_refl _⟩ ?_
  refine mm_aload_n 0 dX0_apart_5 rfl rfl ?_
  refine mm_iload_n 2 dX0_apart_6 rfl rfl ?_
  refine mm_cV1i (dz := d - 1) dX0_apart_7 rfl mzX0_column ml_X0_81 imX0_column (by omega) so_2 ⟨rfl, rfl⟩ (cg_column hz hW (c := b) (by omega)) (Nat.le_of_ble_eq_true rfl) ⟨Nat.le_refl _, Nat.le_refl _⟩ ?_
  refine mm_isub dX0_apart_10 ?_
  refine mm_abs dX0_apart_11 rfl ml_X0_87 jm_abs (by omega) (Nat.le_of_ble_eq_true rfl) ⟨Nat.le_refl _, Nat.le_refl _⟩ ?_
  refine mm_at (pc' := 14) rfl ?_
  refine mm_aload_n 0 dX0_apart_14 rfl rfl ?_
  refine mm_iload_n 1 dX0_apart_15 rfl rfl ?_
  refine mm_cV1i (dz := d - 1) dX0_apart_16 rfl mzX0_line ml_X0_84 imX0_line (by omega) so_2 ⟨rfl, rfl⟩ (cg_line hz hW (c := a) (by omega)) (Nat.le_of_ble_eq_true rfl) ⟨Nat.le_refl _, Nat.le_refl _⟩ ?_
  refine mm_aload_n 0 dX0_apart_19 rfl rfl ?_
  refine mm_iload_n 2 dX0_apart_20 rfl rfl ?_
  refine mm_cV1i (dz := d - 1) dX0_apart_21 rfl mzX0_line ml_X0_84 imX0_line (by omega) so_2 ⟨rfl, rfl⟩ (cg_line hz hW (c := b) (by omega)) (Nat.le_of_ble_eq_true rfl) ⟨Nat.le_refl _, Nat.le_refl _⟩ ?_
  refine mm_isub dX0_apart_24 ?_
  refine mm_abs dX0_apart_25 rfl ml_X0_87 jm_abs (by omega) (Nat.le_of_ble_eq_true rfl) ⟨Nat.le_refl _, Nat.le_refl _⟩ ?_
  refine mm_at (pc' := 28) rfl ?_
  refine mm_iadd dX0_apart_28 ?_
  refine mm_iret dX0_apart_29 rfl ⟨Nat.le_refl _, Nat.le_refl _⟩ ?_
  have e1 := abs_n (x := a % w) (y := b % w) (by omega) (by omega)
  have e2 := abs_n (x := a / w) (y := b / w) (by omega) (by omega)
  unfold sp_abs at e1 e2
  rw [e1, e2, nI_add]; exact hq
theorem sum_c {f g : Nat → Int32} : ∀ n, (∀ i, i < n → f i = g i) → rw_sum f n = rw_sum g n := by
  intro n
  induction n with
  | zero => intro _; rfl
  | succ n ih => intro h; unfold rw_sum; rw [ih (fun i hi => h i (by omega)), h n (by omega)]
set_option maxRecDepth 100000 in
set_option maxHeartbeats 600000 in
theorem dk_dc {g : mm_G} {d : Nat} {w h n l k o r : Nat} {A : mm_I} {N : Nat → Int32} (hz : zOK (w * h) n l k o r) (hW : mo_W N w h) {Q : Option Value → mm_Sh → mm_I → Prop} (hd : 1 ≤ d) (hq : Q (some (.int (rw_sum (fun i => if N (630 + 40 * i + 5) = 0 then N (630 + 40 * i + 4) else 0) n))) sh_S (cN (w * h) n l k o r A N)) : ∀ (m : Nat) (i : Nat), (i ≤ n) → n - i < m → mm_Ex g zX8_dustCarried d (0, 0) (0, 0) sh_S (cN (w * h) n l k o r A N) 4 [(2, .int (nI (i))), (1, .int (rw_sum (fun i => if N (630 + 40 * i + 5) = 0 then N (630 + 40 * i + 4) else 0) i)), (0, .ref 1)] [] Q := by
  obtain ⟨hz1, hz2, hz3, hz4, hz5, hz6⟩ := id hz
  have hc := mo_W_c hW
  obtain ⟨-, -, hw1, hw2, hh1, hh2⟩ := id hW
  intro m
  induction m with
  | zero => intro i hi hmz; exact absurd hmz (Nat.not_lt_zero _)
  | succ m ih =>
    intro i hi hmz
    refine mm_iload_n 0 dX8_dustCarried_4 rfl rfl ?_
    refine mm_aload_n 2 dX8_dustCarried_5 rfl rfl ?_
    refine mm_geti dX8_dustCarried_6 rfl fk_X8_39 rfl so_1 ?_
    refine mm_top (v := nI (n)) s_n ?_
    refine mm_icmp_geN (i) (n) (tgt := 42) dX8_dustCarried_9 (by decide) (by omega) (by omega) (fun c9 => ?_) (fun c9 => ?_)
    · refine mm_iload_n 1 dX8_dustCarried_42 rfl rfl ?_
      refine mm_iret dX8_dustCarried_43 rfl ⟨Nat.le_refl _, Nat.le_refl _⟩ ?_
      rw [show i = n by omega]; exact hq
    · refine mm_aload_n 2 dX8_dustCarried_12 rfl rfl ?_
      refine mm_iload_n 0 dX8_dustCarried_13 rfl rfl ?_
      refine mm_cV1r (dz := d - 1) dX8_dustCarried_14 rfl mzX8_worker ml_X8_79 imX8_worker (by omega) so_1 ⟨rfl, rfl⟩ (cg_worker hz hW (m := i) (by omega)) (Nat.le_of_ble_eq_true rfl) ⟨Nat.le_refl _, Nat.le_refl _⟩ ?_
      refine mm_astore_n (ls' := [(3, .ref (36 + 3 * i)), (2, .int (nI (i))), (1, .int (rw_sum (fun i => if N (630 + 40 * i + 5) = 0 then N (630 + 40 * i + 4) else 0) i)), (0, .ref 1)]) dX8_dustCarried_17 rfl (by decide) rfl ?_
      refine mm_aload_n 0 dX8_dustCarried_18 rfl rfl ?_
      refine mm_ifnull dX8_dustCarried_19 ?_
      refine mm_aload_n 0 dX8_dustCarried_22 rfl rfl ?_
      refine mm_at (pc' := 23) rfl ?_
      refine mm_geti dX8_dustCarried_23 rfl fk_X8_123 rfl (sm_1 (show i < 5 by omega)).1 ?_
      refine mm_top (v := N (630 + 40 * i + 5)) (s_m (by omega) (by omega) (by omega)) ?_
      refine mm_if_ne (tgt := 36) dX8_dustCarried_26 (by decide) (fun c26 => ?_) (fun c26 => ?_)
      · refine mm_iincN (ls' := [(2, .int (nI (i + 1))), (3, .ref (36 + 3 * i)), (1, .int (rw_sum (fun i => if N (630 + 40 * i + 5) = 0 then N (630 + 40 * i + 4) else 0) i)), (0, .ref 1)]) 1 (i) 1 dX8_dustCarried_36 rfl rfl (by decide) rfl ?_
        refine mm_goto (tgt := 4) dX8_dustCarried_39 (by decide) ?_
        have hh := ih (i + 1) (by omega) (by omega)
        rw [show rw_sum (fun i => if N (630 + 40 * i + 5) = 0 then N (630 + 40 * i + 4) else 0) (i + 1) = rw_sum (fun i => if N (630 + 40 * i + 5) = 0 then N (630 + 40 * i + 4) else 0) i by show rw_sum (fun i => if N (630 + 40 * i + 5) = 0 then N (630 + 40 * i + 4) else 0) i + (if N (630 + 40 * i + 5) = 0 then N (630 + 40 * i + 4) else 0) = _; rw [if_neg c26, Int32.add_zero]] at hh
        exact mm_sub [0, 2, 3] rfl hh
      · refine mm_iload_n 2 dX8_dustCarried_29 rfl rfl ?_
        refine mm_aload_n 0 dX8_dustCarried_30 rfl rfl ?_
        refine mm_geti dX8_dustCarried_31 rfl fk_X8_126 rfl (sm_1 (show i < 5 by omega)).1 ?_
        refine mm_top (v := N (630 + 40 * i + 4)) (s_m (by omega) (by omega) (by omega)) ?_
        refine mm_iadd dX8_dustCarried_34 ?_
        refine mm_istore_n (ls' := [(1, .int ((rw_sum (fun i => if N (630 + 40 * i + 5) = 0 then N (630 + 40 * i + 4) else 0) i) + (N (630 + 40 * i + 4)))), (3, .ref (36 + 3 * i)), (2, .int (nI (i))), (0, .ref 1)]) dX8_dustCarried_35 rfl (by decide) rfl ?_
        refine mm_iincN (ls' := [(2, .int (nI (i + 1))), (1, .int ((rw_sum (fun i => if N (630 + 40 * i + 5) = 0 then N (630 + 40 * i + 4) else 0) i) + (N (630 + 40 * i + 4)))), (3, .ref (36 + 3 * i)), (0, .ref 1)]) 2 (i) 1 dX8_dustCarried_36 rfl rfl (by decide) rfl ?_
        refine mm_goto (tgt := 4) dX8_dustCarried_39 (by decide) ?_
        have hh := ih (i + 1) (by omega) (by omega)
        rw [show rw_sum (fun i => if N (630 + 40 * i + 5) = 0 then N (630 + 40 * i + 4) else 0) (i + 1) = (rw_sum (fun i => if N (630 + 40 * i + 5) = 0 then N (630 + 40 * i + 4) else 0) i) + (N (630 + 40 * i + 4)) by show rw_sum (fun i => if N (630 + 40 * i + 5) = 0 then N (630 + 40 * i + 4) else 0) i + (if N (630 + 40 * i + 5) = 0 then N (630 + 40 * i + 4) else 0) = _; rw [if_pos c26]] at hh
        exact mm_sub [0, 1, 3] rfl hh
set_option maxRecDepth 100000 in
set_option maxHeartbeats 600000 in
theorem cg_dc {g : mm_G} {d : Nat} {w h n l k o r : Nat} {A : mm_I} {N : Nat → Int32} (hz : zOK (w * h) n l k o r) (hW : mo_W N w h) (hd : 1 ≤ d) : mm_Ci g zX8_dustCarried d [.ref 1] sh_S (cN (w * h) n l k o r A N) (rw_sum (fun i => if N (630 + 40 * i + 5) = 0 then N (630 + 40 * i + 4) else 0) n) (cN (w * h) n l k o r A N) := by
  obtain ⟨hz1, hz2, hz3, hz4, hz5, hz6⟩ := id hz
  have hc := mo_W_c hW
  obtain ⟨-, -, hw1, hw2, hh1, hh2⟩ := id hW
  refine mm_Ci_of (fun Q hq => ?_)
  refine mm_begin (ls := [(0, .ref 1)]) (Nat.le_of_ble_eq_true rfl) rfl rfl ?_
  refine mm_iconst (v := 0) dX8_dustCarried_0 rfl ?_
  refine mm_istore_n (ls' := [(1, .int (0)), (0, .ref 1)]) dX8_dustCarried_1 rfl (by decide) rfl ?_
  refine mm_iconst (v := 0) dX8_dustCarried_2 rfl ?_
  refine mm_istore_n (ls' := [(2, .int (0)), (1, .int (0)), (0, .ref 1)]) dX8_dustCarried_3 rfl (by decide) rfl ?_
  exact mm_sub [0, 1, 2] rfl (dk_dc hz hW hd hq (n + 1) 0 (by omega) (by omega))
theorem kil_0 {N : Nat → Int32} {c n : Nat} : rw_sum (fun i => if (0 : Int32) = 5 ∨ (0 : Int32) = nI i then sp_kof N c n i else 0) 5 = sp_kof N c n 0 := by
  show ((((0 + (if (0 : Int32) = 5 ∨ (0 : Int32) = nI 0 then sp_kof N c n 0 else 0)) + (if (0 : Int32) = 5 ∨ (0 : Int32) = nI 1 then sp_kof N c n 1 else 0)) + (if (0 : Int32) = 5 ∨ (0 : Int32) = nI 2 then sp_kof N c n 2 else 0)) + (if (0 : Int32) = 5 ∨ (0 : Int32) = nI 3 then sp_kof N c n 3 else 0)) + (if (0 : Int32) = 5 ∨ (0 : Int32) = nI 4 then sp_kof N c n 4 else 0) = _
  rw [if_pos (by decide), if_neg (by decide), if_neg (by decide), if_neg (by decide), if_neg (by decide)]
  simp [sp_kof]
theorem kil_1 {N : Nat → Int32} {c n : Nat} : rw_sum (fun i => if (1 : Int32) = 5 ∨ (1 : Int32) = nI i then sp_kof N c n i else 0) 5 = sp_kof N c n 1 := by
  show ((((0 + (if (1 : Int32) = 5 ∨ (1 : Int32) = nI 0 then sp_kof N c n 0 else 0)) + (if (1 : Int32) = 5 ∨ (1 : Int32) = nI 1 then sp_kof N c n 1 else 0)) + (if (1 : Int32) = 5 ∨ (1 : Int32) = nI 2 then sp_kof N c n 2 else 0)) + (if (1 : Int32) = 5 ∨ (1 : Int32) = nI 3 then sp_kof N c n 3 else 0)) + (if (1 : Int32) = 5 ∨ (1 : Int32) = nI 4 then sp_kof N c n 4 else 0) = _
  rw [if_neg (by decide), if_pos (by decide), if_neg (by decide), if_neg (by decide), if_neg (by decide)]
  simp [sp_kof]
theorem kil_2 {N : Nat → Int32} {c n : Nat} : rw_sum (fun i => if (2 : Int32) = 5 ∨ (2 : Int32) = nI i then sp_kof N c n i else 0) 5 = N 10 := by
  show ((((0 + (if (2 : Int32) = 5 ∨ (2 : Int32) = nI 0 then sp_kof N c n 0 else 0)) + (if (2 : Int32) = 5 ∨ (2 : Int32) = nI 1 then sp_kof N c n 1 else 0)) + (if (2 : Int32) = 5 ∨ (2 : Int32) = nI 2 then sp_kof N c n 2 else 0)) + (if (2 : Int32) = 5 ∨ (2 : Int32) = nI 3 then sp_kof N c n 3 else 0)) + (if (2 : Int32) = 5 ∨ (2 : Int32) = nI 4 then sp_kof N c n 4 else 0) = _
  rw [if_neg (by decide), if_neg (by decide), if_pos (by decide), if_neg (by decide), if_neg (by decide)]
  simp [sp_kof]
theorem kil_3 {N : Nat → Int32} {c n : Nat} : rw_sum (fun i => if (3 : Int32) = 5 ∨ (3 : Int32) = nI i then sp_kof N c n i else 0) 5 = N 14 := by
  show ((((0 + (if (3 : Int32) = 5 ∨ (3 : Int32) = nI 0 then sp_kof N c n 0 else 0)) + (if (3 : Int32) = 5 ∨ (3 : Int32) = nI 1 then sp_kof N c n 1 else 0)) + (if (3 : Int32) = 5 ∨ (3 : Int32) = nI 2 then sp_kof N c n 2 else 0)) + (if (3 : Int32) = 5 ∨ (3 : Int32) = nI 3 then sp_kof N c n 3 else 0)) + (if (3 : Int32) = 5 ∨ (3 : Int32) = nI 4 then sp_kof N c n 4 else 0) = _
  rw [if_neg (by decide), if_neg (by decide), if_neg (by decide), if_pos (by decide), if_neg (by decide)]
  simp [sp_kof]
theorem kil_4 {N : Nat → Int32} {c n : Nat} : rw_sum (fun i => if (4 : Int32) = 5 ∨ (4 : Int32) = nI i then sp_kof N c n i else 0) 5 = N 13 := by
  show ((((0 + (if (4 : Int32) = 5 ∨ (4 : Int32) = nI 0 then sp_kof N c n 0 else 0)) + (if (4 : Int32) = 5 ∨ (4 : Int32) = nI 1 then sp_kof N c n 1 else 0)) + (if (4 : Int32) = 5 ∨ (4 : Int32) = nI 2 then sp_kof N c n 2 else 0)) + (if (4 : Int32) = 5 ∨ (4 : Int32) = nI 3 then sp_kof N c n 3 else 0)) + (if (4 : Int32) = 5 ∨ (4 : Int32) = nI 4 then sp_kof N c n 4 else 0) = _
  rw [if_neg (by decide), if_neg (by decide), if_neg (by decide), if_neg (by decide), if_pos (by decide)]
  simp [sp_kof]
theorem kil_5 {N : Nat → Int32} {c n : Nat} : rw_sum (fun i => if (5 : Int32) = 5 ∨ (5 : Int32) = nI i then sp_kof N c n i else 0) 5 = (((sp_kof N c n 0 + sp_kof N c n 1) + N (10 + 0)) + N 14) + N 13 := by
  show ((((0 + (if (5 : Int32) = 5 ∨ (5 : Int32) = nI 0 then sp_kof N c n 0 else 0)) + (if (5 : Int32) = 5 ∨ (5 : Int32) = nI 1 then sp_kof N c n 1 else 0)) + (if (5 : Int32) = 5 ∨ (5 : Int32) = nI 2 then sp_kof N c n 2 else 0)) + (if (5 : Int32) = 5 ∨ (5 : Int32) = nI 3 then sp_kof N c n 3 else 0)) + (if (5 : Int32) = 5 ∨ (5 : Int32) = nI 4 then sp_kof N c n 4 else 0) = _
  rw [if_pos (by decide), if_pos (by decide), if_pos (by decide), if_pos (by decide), if_pos (by decide)]
  simp [sp_kof]
set_option maxRecDepth 100000 in
set_option maxHeartbeats 600000 in
theorem cb_kilos {g : mm_G} {d : Nat} {w h n l k o r : Nat} {A : mm_I} {N : Nat → Int32} (hz : zOK (w * h) n l k o r) (hW : mo_W N w h) {J : mm_I} (hJ : J 201 = N) (hD : mo_D N n) (hK : mo_K N (w * h)) {x : Int32} (hd : 3 ≤ d) : mm_Ci g zX11_kilos d [.ref 0, .int (x)] sh_S (cN (w * h) n l k o r A N) (op_kilos w h n J x) (cN (w * h) n l k o r A N) := by
  obtain ⟨hz1, hz2, hz3, hz4, hz5, hz6⟩ := id hz
  have hc := mo_W_c hW
  obtain ⟨-, -, hw1, hw2, hh1, hh2⟩ := id hW
  refine mm_Ci_of (fun Q hq => ?_)
  refine mm_begin (ls := [(0, .ref 0), (1, .int (x))]) (Nat.le_of_ble_eq_true rfl) rfl rfl ?_
  refine mm_aload_n 0 dX11_kilos_0 rfl rfl ?_
  refine mm_getr (b := 1) dX11_kilos_1 rfl fk_X11_10 rfl so_0 sr_0_0 ?_
  refine mm_getr (b := 2) dX11_kilos_4 rfl fk_X11_72 rfl so_1 sr_1_0 ?_
  refine mm_astore_n (ls' := [(2, .ref 2), (0, .ref 0), (1, .int (x))]) dX11_kilos_7 rfl (by decide) rfl ?_
  refine mm_iload_n 2 dX11_kilos_8 rfl rfl ?_
  by_cases e9_0 : (x) = 0
  · refine mm_tabIn (0) (tgt := 48) dX11_kilos_9 e9_0 (by decide) (by decide) rfl (by decide) ?_
    refine mm_aload_n 0 dX11_kilos_48 rfl rfl ?_
    refine mm_getr (b := 5) dX11_kilos_49 rfl fk_X11_105 rfl so_2 sr_2_3 ?_
    refine mm_aload_n 0 dX11_kilos_52 rfl rfl ?_
    refine mm_cV0i (dz := d - 1) dX11_kilos_53 rfl mzX0_cells ml_X11_76 imX0_cells (by omega) so_2 ⟨rfl, rfl⟩ (cg_cells hz hW) (Nat.le_of_ble_eq_true rfl) ⟨Nat.le_refl _, Nat.le_refl _⟩ ?_
    refine mm_cV1i (dz := d - 1) dX11_kilos_56 rfl mzX5_sum ml_X11_291 imX5_sum (by omega) so_5 ⟨rfl, rfl⟩ (ct_sum rw_5 (w * h) (by omega)) (Nat.le_of_ble_eq_true rfl) ⟨Nat.le_refl _, Nat.le_refl _⟩ ?_
    refine mm_top (v := sp_kof N (w * h) n 0) (sum_c _ (fun i hi => s_dust hi)) ?_
    refine mm_iret dX11_kilos_59 rfl ⟨Nat.le_refl _, Nat.le_refl _⟩ ?_
    subst hJ; subst e9_0; exact mm_l1 (by unfold op_kilos; rw [if_neg (fun q => q ⟨by decide, by decide⟩)]; exact kil_0) hq
  by_cases e9_1 : (x) = 1
  · refine mm_tabIn (1) (tgt := 60) dX11_kilos_9 e9_1 (by decide) (by decide) rfl (by decide) ?_
    refine mm_aload_n 1 dX11_kilos_60 rfl rfl ?_
    refine mm_getr (b := 1) dX11_kilos_61 rfl fk_X11_10 rfl so_0 sr_0_0 ?_
    refine mm_cV0i (dz := d - 1) dX11_kilos_64 rfl mzX8_dustCarried ml_X11_294 imX8_dustCarried (by omega) so_1 ⟨rfl, rfl⟩ (cg_dc hz hW (by omega)) (Nat.le_of_ble_eq_true rfl) ⟨Nat.le_refl _, Nat.le_refl _⟩ ?_
    refine mm_iret dX11_kilos_67 rfl ⟨Nat.le_refl _, Nat.le_refl _⟩ ?_
    subst hJ; subst e9_1; exact mm_l1 (by unfold op_kilos; rw [if_neg (fun q => q ⟨by decide, by decide⟩)]; exact kil_1) hq
  by_cases e9_2 : (x) = 2
  · refine mm_tabIn (2) (tgt := 68) dX11_kilos_9 e9_2 (by decide) (by decide) rfl (by decide) ?_
    refine mm_aload_n 0 dX11_kilos_68 rfl rfl ?_
    refine mm_getr (b := 11) dX11_kilos_69 rfl fk_X11_148 rfl so_2 sr_2_6 ?_
    refine mm_iconst (v := 0) dX11_kilos_72 rfl ?_
    refine mm_cV1i (dz := d - 1) dX11_kilos_73 rfl mzX5_at ml_X11_102 imX5_at (by omega) so_11 ⟨rfl, rfl⟩ (ct_at rw_11 (0) (by omega)) (Nat.le_of_ble_eq_true rfl) ⟨Nat.le_refl _, Nat.le_refl _⟩ ?_
    refine mm_top (v := N (10 + 0)) (cN_r (lo_at12.trans (if_pos (by omega)))) ?_
    refine mm_iret dX11_kilos_76 rfl ⟨Nat.le_refl _, Nat.le_refl _⟩ ?_
    subst hJ; subst e9_2; exact mm_l1 (by unfold op_kilos; rw [if_neg (fun q => q ⟨by decide, by decide⟩)]; exact kil_2) hq
  by_cases e9_3 : (x) = 3
  · refine mm_tabIn (3) (tgt := 77) dX11_kilos_9 e9_3 (by decide) (by decide) rfl (by decide) ?_
    refine mm_aload_n 0 dX11_kilos_77 rfl rfl ?_
    refine mm_geti dX11_kilos_78 rfl fk_X11_297 rfl so_2 ?_
    refine mm_top (v := N 14) (cN_r (lo_at2.trans rfl)) ?_
    refine mm_iret dX11_kilos_81 rfl ⟨Nat.le_refl _, Nat.le_refl _⟩ ?_
    subst hJ; subst e9_3; exact mm_l1 (by unfold op_kilos; rw [if_neg (fun q => q ⟨by decide, by decide⟩)]; exact kil_3) hq
  by_cases e9_4 : (x) = 4
  · refine mm_tabIn (4) (tgt := 82) dX11_kilos_9 e9_4 (by decide) (by decide) rfl (by decide) ?_
    refine mm_aload_n 0 dX11_kilos_82 rfl rfl ?_
    refine mm_geti dX11_kilos_83 rfl fk_X11_300 rfl so_2 ?_
    refine mm_top (v := N 13) (cN_r (lo_at2.trans rfl)) ?_
    refine mm_iret dX11_kilos_86 rfl ⟨Nat.le_refl _, Nat.le_refl _⟩ ?_
    subst hJ; subst e9_4; exact mm_l1 (by unfold op_kilos; rw [if_neg (fun q => q ⟨by decide, by decide⟩)]; exact kil_4) hq
  by_cases e9_5 : (x) = 5
  · refine mm_tabIn (5) (tgt := 87) dX11_kilos_9 e9_5 (by decide) (by decide) rfl (by decide) ?_
    refine mm_aload_n 0 dX11_kilos_87 rfl rfl ?_
    refine mm_getr (b := 5) dX11_kilos_88 rfl fk_X11_105 rfl so_2 sr_2_3 ?_
    refine mm_aload_n 0 dX11_kilos_91 rfl rfl ?_
    refine mm_cV0i (dz := d - 1) dX11_kilos_92 rfl mzX0_cells ml_X11_76 imX0_cells (by omega) so_2 ⟨rfl, rfl⟩ (cg_cells hz hW) (Nat.le_of_ble_eq_true rfl) ⟨Nat.le_refl _, Nat.le_refl _⟩ ?_
    refine mm_cV1i (dz := d - 1) dX11_kilos_95 rfl mzX5_sum ml_X11_291 imX5_sum (by omega) so_5 ⟨rfl, rfl⟩ (ct_sum rw_5 (w * h) (by omega)) (Nat.le_of_ble_eq_true rfl) ⟨Nat.le_refl _, Nat.le_refl _⟩ ?_
    refine mm_top (v := sp_kof N (w * h) n 0) (sum_c _ (fun i hi => s_dust hi)) ?_
    refine mm_aload_n 1 dX11_kilos_98 rfl rfl ?_
    refine mm_getr (b := 1) dX11_kilos_99 rfl fk_X11_10 rfl so_0 sr_0_0 ?_
    refine mm_cV0i (dz := d - 1) dX11_kilos_102 rfl mzX8_dustCarried ml_X11_294 imX8_dustCarried (by omega) so_1 ⟨rfl, rfl⟩ (cg_dc hz hW (by omega)) (Nat.le_of_ble_eq_true rfl) ⟨Nat.le_refl _, Nat.le_refl _⟩ ?_
    refine mm_at (pc' := 105) rfl ?_
    refine mm_iadd dX11_kilos_105 ?_
    refine mm_aload_n 0 dX11_kilos_106 rfl rfl ?_
    refine mm_getr (b := 11) dX11_kilos_107 rfl fk_X11_148 rfl so_2 sr_2_6 ?_
    refine mm_iconst (v := 0) dX11_kilos_110 rfl ?_
    refine mm_cV1i (dz := d - 1) dX11_kilos_111 rfl mzX5_at ml_X11_102 imX5_at (by omega) so_11 ⟨rfl, rfl⟩ (ct_at rw_11 (0) (by omega)) (Nat.le_of_ble_eq_true rfl) ⟨Nat.le_refl _, Nat.le_refl _⟩ ?_
    refine mm_top (v := N (10 + 0)) (cN_r (lo_at12.trans (if_pos (by omega)))) ?_
    refine mm_iadd dX11_kilos_114 ?_
    refine mm_aload_n 0 dX11_kilos_115 rfl rfl ?_
    refine mm_geti dX11_kilos_116 rfl fk_X11_297 rfl so_2 ?_
    refine mm_at (pc' := 119) rfl ?_
    refine mm_top (v := N 14) (cN_r (lo_at2.trans rfl)) ?_
    refine mm_iadd dX11_kilos_119 ?_
    refine mm_aload_n 0 dX11_kilos_120 rfl rfl ?_
    refine mm_geti dX11_kilos_121 rfl fk_X11_300 rfl so_2 ?_
    refine mm_top (v := N 13) (cN_r (lo_at2.trans rfl)) ?_
    refine mm_iadd dX11_kilos_124 ?_
    refine mm_iret dX11_kilos_125 rfl ⟨Nat.le_refl _, Nat.le_refl _⟩ ?_
    subst hJ; subst e9_5; exact mm_l1 (by unfold op_kilos; rw [if_neg (fun q => q ⟨by decide, by decide⟩)]; exact kil_5) hq
  refine mm_tabOut 0 6 (tgt := 126) dX11_kilos_9 rfl (by decide) (by intro k hk q; rcases (show k = 0 ∨ k = 1 ∨ k = 2 ∨ k = 3 ∨ k = 4 ∨ k = 5 by omega) with rfl | rfl | rfl | rfl | rfl | rfl <;> first | exact e9_0 q | exact e9_1 q | exact e9_2 q | exact e9_3 q | exact e9_4 q | exact e9_5 q) (by decide) ?_
  refine mm_ldc dX11_kilos_126 rfl kc_X11_67 ?_
  refine mm_iret dX11_kilos_128 rfl ⟨Nat.le_refl _, Nat.le_refl _⟩ ?_
  subst hJ; exact mm_l1 (by unfold op_kilos; rw [if_pos (fun q => by obtain ⟨j, hj, rfl⟩ := sp_wi_nat 5 (by decide) q; rcases show j = 0 ∨ j = 1 ∨ j = 2 ∨ j = 3 ∨ j = 4 ∨ j = 5 by omega with e | e | e | e | e | e <;> subst e <;> first | exact e9_0 rfl | exact e9_1 rfl | exact e9_2 rfl | exact e9_3 rfl | exact e9_4 rfl | exact e9_5 rfl)]) hq
