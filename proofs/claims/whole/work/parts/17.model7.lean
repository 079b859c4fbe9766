/-! WAYS: how far each place is, found breadth first: far, queue, how many are in it -/
abbrev bf_S : Type := (Nat → Int32) × (Nat → Int32) × Nat
/-- one way on from the k-th of the queue -/
def bf_w (kd : Nat → Int32) (w h k y : Nat) (s : bf_S) : bf_S :=
  if sp_be w h (vv (s.2.1 k)) y < 0 ∨ kd (vv (sp_be w h (vv (s.2.1 k)) y)) = 1 ∨ 0 ≤ s.1 (vv (sp_be w h (vv (s.2.1 k)) y)) then s
  else (upd s.1 (vv (sp_be w h (vv (s.2.1 k)) y)) (s.1 (vv (s.2.1 k)) + 1), upd s.2.1 s.2.2 (sp_be w h (vv (s.2.1 k)) y), s.2.2 + 1)
def bf_i (kd : Nat → Int32) (w h k : Nat) (s : bf_S) : Nat → bf_S
  | 0 => s
  | y + 1 => bf_w kd w h k y (bf_i kd w h k s y)
def bf_o (kd : Nat → Int32) (w h : Nat) : Nat → Nat → bf_S → bf_S
  | 0, _, s => s
  | m + 1, k, s => if k < s.2.2 then bf_o kd w h m (k + 1) (bf_i kd w h k s 4) else s
/-- how many places are reached -/
def bf_c (f : Nat → Int32) : Nat → Nat
  | 0 => 0
  | n + 1 => bf_c f n + (if f n < 0 then 0 else 1)
theorem bf_c_le (f : Nat → Int32) : ∀ n, bf_c f n ≤ n := by
  intro n
  induction n with
  | zero => exact Nat.le_refl _
  | succ n ih => unfold bf_c; by_cases h : f n < 0 <;> simp only [h, if_true, if_false] <;> omega
theorem bf_c_lt {f : Nat → Int32} {c : Nat} (hf : f c < 0) : ∀ n, c < n → bf_c f n < n := by
  intro n
  induction n with
  | zero => intro h; omega
  | succ n ih =>
    intro h
    unfold bf_c
    by_cases hc : c = n
    · subst hc
      rw [if_pos hf]
      have := bf_c_le f c
      omega
    · have := ih (by omega)
      by_cases h2 : f n < 0 <;> simp only [h2, if_true, if_false] <;> omega
theorem bf_c_out {f : Nat → Int32} {c : Nat} {v : Int32} : ∀ n, n ≤ c → bf_c (upd f c v) n = bf_c f n := by
  intro n
  induction n with
  | zero => intro _; rfl
  | succ n ih =>
    intro h
    unfold bf_c
    rw [ih (by omega), pk_un (show n ≠ c by omega)]
theorem bf_c_up {f : Nat → Int32} {c : Nat} {v : Int32} (hf : f c < 0) (hv : ¬ v < 0) : ∀ n, c < n → bf_c (upd f c v) n = bf_c f n + 1 := by
  intro n
  induction n with
  | zero => intro h; omega
  | succ n ih =>
    intro h
    unfold bf_c
    by_cases hc : c = n
    · subst hc
      rw [bf_c_out c (Nat.le_refl _), pk_us, if_neg hv, if_pos hf]
    · rw [ih (by omega), pk_un (show n ≠ c by omega)]
      omega
def bf_ok (n : Nat) (s : bf_S) : Prop := (∀ i, i < s.2.2 → ∃ c, c < n ∧ s.2.1 i = nI c ∧ ∃ j, j < s.2.2 ∧ s.1 c = nI j) ∧ (∀ c, c < n → s.1 c = -1 ∨ ∃ j, j < s.2.2 ∧ s.1 c = nI j) ∧ bf_c s.1 n = s.2.2
theorem bf_ok_le {n : Nat} {s : bf_S} (h : bf_ok n s) : s.2.2 ≤ n := by rw [← h.2.2]; exact bf_c_le _ _
theorem bf_w_ok {kd : Nat → Int32} {w h k y : Nat} {s : bf_S} (hw : 0 < w) (hn : w * h ≤ 80) (H : bf_ok (w * h) s) (hk : k < s.2.2) : bf_ok (w * h) (bf_w kd w h k y s) ∧ s.2.2 ≤ (bf_w kd w h k y s).2.2 := by
  obtain ⟨c0, hc0, e0, j0, hj0, ej0⟩ := H.1 k hk
  have hle := bf_ok_le H
  unfold bf_w
  rw [e0, vv_nI (by omega)]
  by_cases hc : sp_be w h c0 y < 0 ∨ kd (vv (sp_be w h c0 y)) = 1 ∨ 0 ≤ s.1 (vv (sp_be w h c0 y))
  · rw [if_pos hc]; exact ⟨H, Nat.le_refl _⟩
  · rw [if_neg hc]
    rcases sp_be_in (way := y) hw hc0 with e | ⟨c, hcn, e⟩
    · exact absurd (Or.inl (by rw [e]; decide)) hc
    · rw [e, vv_nI (by omega)] at hc ⊢
      have hfc : s.1 c < 0 := Int32.not_le.mp (fun q => hc (Or.inr (Or.inr q)))
      have hv : ¬ s.1 c0 + 1 < 0 := by rw [ej0, nI_1]; exact nI_pos (by omega)
      have hlt : s.2.2 < w * h := by rw [← H.2.2]; exact bf_c_lt hfc _ hcn
      refine ⟨⟨fun i hi => ?_, fun c1 hc1 => ?_, ?_⟩, Nat.le_succ _⟩
      · show ∃ c2, c2 < w * h ∧ upd s.2.1 s.2.2 (nI c) i = nI c2 ∧ ∃ j, j < s.2.2 + 1 ∧ upd s.1 c (s.1 c0 + 1) c2 = nI j
        have hi : i < s.2.2 + 1 := hi
        by_cases hi2 : i = s.2.2
        · subst hi2
          exact ⟨c, hcn, pk_us, j0 + 1, by omega, by rw [pk_us, ej0, nI_1]⟩
        · obtain ⟨c2, h1, h2, j2, h3, h4⟩ := H.1 i (by omega)
          refine ⟨c2, h1, by rw [pk_un hi2]; exact h2, ?_⟩
          by_cases h5 : c2 = c
          · subst h5; exact absurd hfc (by rw [h4]; exact nI_pos (by omega))
          · exact ⟨j2, by omega, by rw [pk_un h5]; exact h4⟩
      · show upd s.1 c (s.1 c0 + 1) c1 = -1 ∨ ∃ j, j < s.2.2 + 1 ∧ upd s.1 c (s.1 c0 + 1) c1 = nI j
        by_cases h5 : c1 = c
        · subst h5; exact Or.inr ⟨j0 + 1, by omega, by rw [pk_us, ej0, nI_1]⟩
        · rw [pk_un h5]
          rcases H.2.1 c1 hc1 with h6 | ⟨j, h6, h7⟩
          · exact Or.inl h6
          · exact Or.inr ⟨j, by omega, h7⟩
      · show bf_c (upd s.1 c (s.1 c0 + 1)) (w * h) = s.2.2 + 1
        rw [bf_c_up hfc hv _ hcn, H.2.2]
theorem bf_i_ok {kd : Nat → Int32} {w h k : Nat} {s : bf_S} (hw : 0 < w) (hn : w * h ≤ 80) (H : bf_ok (w * h) s) (hk : k < s.2.2) : ∀ y, bf_ok (w * h) (bf_i kd w h k s y) ∧ s.2.2 ≤ (bf_i kd w h k s y).2.2 := by
  intro y
  induction y with
  | zero => exact ⟨H, Nat.le_refl _⟩
  | succ y ih =>
    have h2 := bf_w_ok (kd := kd) (k := k) (y := y) hw hn ih.1 (Nat.lt_of_lt_of_le hk ih.2)
    exact ⟨h2.1, Nat.le_trans ih.2 h2.2⟩
/-- at the start: nothing is reached but the target, if it is no rock -/
def bf_0 (kd : Nat → Int32) (f q : Nat → Int32) (t : Nat) : bf_S := if kd t = 1 then (f, q, 0) else (upd f t 0, upd q 0 (nI t), 1)
theorem bf_c_no {f : Nat → Int32} : ∀ n, (∀ c, c < n → f c = -1) → bf_c f n = 0 := by
  intro n
  induction n with
  | zero => intro _; rfl
  | succ n ih =>
    intro h
    unfold bf_c
    rw [ih (fun c hc => h c (by omega)), h n (by omega)]
    rfl
theorem bf_0_ok {kd f q : Nat → Int32} {t n : Nat} (ht : t < n) (hn : n ≤ 80) (hf : ∀ c, c < n → f c = -1) : bf_ok n (bf_0 kd f q t) := by
  unfold bf_0
  by_cases h : kd t = 1
  · rw [if_pos h]
    exact ⟨fun i hi => absurd hi (Nat.not_lt_zero _), fun c hc => Or.inl (hf c hc), bf_c_no n hf⟩
  · rw [if_neg h]
    refine ⟨fun i hi => ?_, fun c hc => ?_, ?_⟩
    · have : i = 0 := by have : i < 1 := hi; omega
      subst this
      exact ⟨t, ht, (pk_us : upd q 0 (nI t) 0 = nI t), 0, Nat.zero_lt_one, (pk_us : upd f t 0 t = 0)⟩
    · by_cases hc2 : c = t
      · subst hc2; exact Or.inr ⟨0, Nat.zero_lt_one, (pk_us : upd f c 0 c = 0)⟩
      · left; show upd f t 0 c = -1; rw [pk_un hc2]; exact hf c hc
    · show bf_c (upd f t 0) n = 1
      rw [bf_c_up (by rw [hf t ht]; decide) (by decide) n ht, bf_c_no n hf]
/-- far and queue in the reference's memory -/
def bf_m (I : mm_I) (s : bf_S) : mm_I := fun a => if a = 207 then s.1 else if a = 208 then s.2.1 else I a
theorem bf_m_7 {I : mm_I} {s : bf_S} {i : Nat} : bf_m I s 207 i = s.1 i := rfl
theorem bf_m_8 {I : mm_I} {s : bf_S} {i : Nat} : bf_m I s 208 i = s.2.1 i := rfl
theorem bf_m_n {I : mm_I} {s : bf_S} {a i : Nat} (h : a ≠ 207) (h2 : a ≠ 208) : bf_m I s a i = I a i := by unfold bf_m; rw [if_neg h, if_neg h2]
theorem bf_m_a {I : mm_I} {s : bf_S} {a : Nat} (h : a ≠ 207) (h2 : a ≠ 208) : bf_m I s a = I a := by unfold bf_m; rw [if_neg h, if_neg h2]
theorem bf_m_u7 {I : mm_I} {f q : Nat → Int32} {m c : Nat} {v : Int32} : mm_up (bf_m I (f, q, m)) 207 c v = bf_m I (upd f c v, q, m) := by
  funext a j
  by_cases ha : a = 207
  · subst ha; unfold mm_up upd; rw [if_pos rfl]; rfl
  · rw [mm_up_ne ha]
    by_cases h8 : a = 208
    · subst h8; rfl
    · rw [bf_m_n ha h8, bf_m_n ha h8]
theorem bf_m_u8 {I : mm_I} {f q : Nat → Int32} {m m' c : Nat} {v : Int32} : mm_up (bf_m I (f, q, m)) 208 c v = bf_m I (f, upd q c v, m') := by
  funext a j
  by_cases ha : a = 208
  · subst ha; unfold mm_up upd; rw [if_pos rfl]; rfl
  · rw [mm_up_ne ha]
    by_cases h7 : a = 207
    · subst h7; rfl
    · rw [bf_m_n h7 ha, bf_m_n h7 ha]
def bf_fl (f : Nat → Int32) : Nat → Int32 := fun c => if c < 80 then -1 else f c
/-- the reference's search for the ways to t -/
def bf_r (I : mm_I) (w h t : Nat) : bf_S := bf_o (fun c => I 201 (30 + c)) w h 80 0 (bf_0 (fun c => I 201 (30 + c)) (bf_fl (I 207)) (I 208) t)
theorem bf_w_no {kd : Nat → Int32} {w h k y c0 m : Nat} {f q : Nat → Int32} (e0 : q k = nI c0) (hc0 : c0 < 2 ^ 31) (hh : sp_be w h c0 y < 0 ∨ kd (vv (sp_be w h c0 y)) = 1 ∨ 0 ≤ f (vv (sp_be w h c0 y))) : bf_w kd w h k y (f, q, m) = (f, q, m) := by
  unfold bf_w
  show (if sp_be w h (vv (q k)) y < 0 ∨ kd (vv (sp_be w h (vv (q k)) y)) = 1 ∨ 0 ≤ f (vv (sp_be w h (vv (q k)) y)) then (f, q, m) else _) = _
  rw [e0, vv_nI hc0, if_pos hh]
theorem bf_w_yes {kd : Nat → Int32} {w h k y c0 c m : Nat} {f q : Nat → Int32} (e0 : q k = nI c0) (hc0 : c0 < 2 ^ 31) (ec : sp_be w h c0 y = nI c) (hc : c < 2 ^ 31) (h1 : ¬ kd c = 1) (h2 : ¬ 0 ≤ f c) : bf_w kd w h k y (f, q, m) = (upd f c (f c0 + 1), upd q m (nI c), m + 1) := by
  unfold bf_w
  show (if sp_be w h (vv (q k)) y < 0 ∨ kd (vv (sp_be w h (vv (q k)) y)) = 1 ∨ 0 ≤ f (vv (sp_be w h (vv (q k)) y)) then (f, q, m) else (upd f (vv (sp_be w h (vv (q k)) y)) (f (vv (q k)) + 1), upd q m (sp_be w h (vv (q k)) y), m + 1)) = _
  rw [e0, vv_nI hc0, ec, vv_nI hc, if_neg (by intro q; rcases q with q | q | q; exact nI_pos hc q; exact h1 q; exact h2 q)]
theorem bf_fl_m {I : mm_I} {m : Nat} : rw_fl I 207 (-1) 80 = bf_m I (bf_fl (I 207), I 208, m) := by
  funext a j
  by_cases ha : a = 207
  · subst ha
    rw [bf_m_7]
    show rw_fl I 207 (-1) 80 207 j = bf_fl (I 207) j
    unfold rw_fl bf_fl
    by_cases hj : j < 80
    · rw [if_pos ⟨rfl, hj⟩, if_pos hj]
    · rw [if_neg (by omega), if_neg hj]
  · rw [rw_fl_ne ha]
    by_cases h8 : a = 208
    · subst h8; rfl
    · rw [bf_m_n ha h8]
theorem bf_r_ok (I : mm_I) {w h t : Nat} (ht : t < w * h) (hn : w * h ≤ 80) : bf_ok (w * h) (bf_0 (fun c => I 201 (30 + c)) (bf_fl (I 207)) (I 208) t) := bf_0_ok ht hn (fun c hc => by unfold bf_fl; rw [if_pos (by omega)])
set_option maxRecDepth 100000 in
set_option maxHeartbeats 600000 in
theorem lm_ff1 {g : mm_G} {I : mm_I} {d : Nat} {Q : Option Value → mm_Sh → mm_I → Prop} {t : Nat} (hx : mm_Ex g zX12_findFar d (0, 0) (0, 0) sh_S (rw_fl I 207 (-1) 80) 21 [(0, .ref 200), (1, .int (nI t))] [] Q) : ∀ (m : Nat) (i : Nat), (i ≤ 80) → 80 - i < m → mm_Ex g zX12_findFar d (0, 0) (0, 0) sh_S (rw_fl I 207 (-1) i) 2 [(2, .int (nI (i))), (0, .ref 200), (1, .int (nI (t)))] [] Q := by
  intro m
  induction m with
  | zero => intro i hi hmz; exact absurd hmz (Nat.not_lt_zero _)
  | succ m ih =>
    intro i hi hmz
    refine mm_iload_n 0 dX12_findFar_2 rfl rfl ?_
    refine mm_bipush (v := 80) dX12_findFar_3 rfl ?_
    refine mm_icmp_geN (i) (80) (tgt := 21) dX12_findFar_5 (by decide) (by omega) (by omega) (fun c5 => ?_) (fun c5 => ?_)
    · have e : i = 80 := by omega
      subst e
      exact mm_sub [1, 2] rfl hx
    · refine mm_aload_n 1 dX12_findFar_8 rfl rfl ?_
      refine mm_getr (b := 207) dX12_findFar_9 rfl fk_X12_28 rfl so_200 sr_200_9 ?_
      refine mm_iload_n 0 dX12_findFar_12 rfl rfl ?_
      refine mm_iconst (v := -1) dX12_findFar_13 rfl ?_
      refine mm_iastN (i) dX12_findFar_14 sa_207 (by omega) (by omega) ?_
      refine mm_iincN (ls' := [(2, .int (nI (i + 1))), (0, .ref 200), (1, .int (nI (t)))]) 0 (i) 1 dX12_findFar_15 rfl rfl (by decide) rfl ?_
      refine mm_goto (tgt := 2) dX12_findFar_18 (by decide) ?_
      rw [rw_fl_s]
      exact ih (i + 1) (by omega) (by omega)
set_option maxRecDepth 100000 in
set_option maxHeartbeats 600000 in
theorem lm_ff4 {g : mm_G} {I : mm_I} {d : Nat} {Q : Option Value → mm_Sh → mm_I → Prop} {w h : Nat} (hW : mo_W (I 201) w h) {t k : Nat} {s : bf_S} (hs : bf_ok (w * h) s) (hk : k < s.2.2) (hx : mm_Ex g zX12_findFar d (0, 0) (0, 0) sh_S (bf_m I (bf_i (fun c => I 201 (30 + c)) w h k s 4)) 148 [(3, .int (nI k)), (2, .int (nI (bf_i (fun c => I 201 (30 + c)) w h k s 4).2.2)), (0, .ref 200), (1, .int (nI t))] [] Q) (hd : 2 ≤ d) : ∀ (m : Nat) (y : Nat), (y ≤ 4) → 4 - y < m → mm_Ex g zX12_findFar d (0, 0) (0, 0) sh_S (bf_m I (bf_i (fun c => I 201 (30 + c)) w h k s y)) 62 [(4, .int (nI (y))), (3, .int (nI (k))), (2, .int (nI ((bf_i (fun c => I 201 (30 + c)) w h k s y).2.2))), (0, .ref 200), (1, .int (nI (t)))] [] Q := by
  have hc := mo_W_c hW
  obtain ⟨-, -, hw1, hw2, hh1, hh2⟩ := id hW
  intro m
  induction m with
  | zero => intro y hy hmz; exact absurd hmz (Nat.not_lt_zero _)
  | succ m ih =>
    intro y hy hmz
    have hok := bf_i_ok (kd := (fun c => I 201 (30 + c))) (show 0 < w by omega) hc.2 hs hk y
    have hml := bf_ok_le hok.1
    have hkm := Nat.lt_of_lt_of_le hk hok.2
    obtain ⟨c0, hc0, e0, j0, hj0, ej0⟩ := hok.1.1 k hkm
    have step : bf_i (fun c => I 201 (30 + c)) w h k s (y + 1) = bf_w (fun c => I 201 (30 + c)) w h k y (bf_i (fun c => I 201 (30 + c)) w h k s y) := rfl
    by_cases hy4 : y = 4
    · subst hy4
      refine mm_iload 0 dX12_findFar_62 rfl ?_
      refine mm_iconst (v := 4) dX12_findFar_64 rfl ?_
      exact mm_icmp_geN 4 4 (tgt := 148) dX12_findFar_65 (by decide) (by decide) (by decide) (fun _ => mm_sub [1, 2, 3, 4] rfl hx) (fun q => absurd q (by decide))
    generalize hsy : bf_i (fun c => I 201 (30 + c)) w h k s y = sy at hok hml hkm e0 ej0 hj0 step ⊢
    obtain ⟨f, q, m⟩ := sy
    replace e0 : q k = nI c0 := e0
    replace ej0 : f c0 = nI j0 := ej0
    replace hml : m ≤ w * h := hml
    replace hkm : k < m := hkm
    replace hj0 : j0 < m := hj0
    show mm_Ex g zX12_findFar d (0, 0) (0, 0) sh_S (bf_m I (f, q, m)) 62 [(4, .int (nI y)), (3, .int (nI k)), (2, .int (nI m)), (0, .ref 200), (1, .int (nI t))] [] Q
    refine mm_iload 0 dX12_findFar_62 rfl ?_
    refine mm_iconst (v := 4) dX12_findFar_64 rfl ?_
    refine mm_icmp_geN (y) (4) (tgt := 148) dX12_findFar_65 (by decide) (by omega) (by omega) (fun c65 => ?_) (fun c65 => ?_)
    · exact absurd c65 (by omega)
    · refine mm_aload_n 3 dX12_findFar_68 rfl rfl ?_
      refine mm_aload_n 3 dX12_findFar_69 rfl rfl ?_
      refine mm_getr (b := 208) dX12_findFar_70 rfl fk_X12_31 rfl so_200 sr_200_10 ?_
      refine mm_iload_n 1 dX12_findFar_73 rfl rfl ?_
      refine mm_ialdN (k) dX12_findFar_74 sa_208 (by omega) (by omega) ?_
      refine mm_top (v := nI (c0)) e0 ?_
      refine mm_iload 0 dX12_findFar_75 rfl ?_
      refine mm_cV2i (dz := d - 1) dX12_findFar_77 rfl mzX12_beside ml_X12_111 imX12_beside (by omega) so_200 ⟨rfl, rfl⟩ (cm_beside (show mo_W ((bf_m I (f, q, m)) 201) w h from by rw [bf_m_a (by decide) (by decide)]; exact hW) hc0 (by omega) (by omega)) (Nat.le_of_ble_eq_true rfl) ⟨Nat.le_refl _, Nat.le_refl _⟩ ?_
      refine mm_at (pc' := 80) rfl ?_
      refine mm_istore (ls' := [(5, .int (sp_be w h c0 y)), (4, .int (nI (y))), (3, .int (nI (k))), (2, .int (nI (m))), (0, .ref 200), (1, .int (nI (t)))]) dX12_findFar_80 (by decide) rfl ?_
      refine mm_iload 0 dX12_findFar_82 rfl ?_
      refine mm_if_lt (tgt := 142) dX12_findFar_84 (by decide) (fun c84 => ?_) (fun c84 => ?_)
      · refine mm_iincN (ls' := [(4, .int (nI (y + 1))), (5, .int (sp_be w h c0 y)), (3, .int (nI (k))), (2, .int (nI (m))), (0, .ref 200), (1, .int (nI (t)))]) 1 (y) 1 dX12_findFar_142 rfl rfl (by decide) rfl ?_
        refine mm_goto (tgt := 62) dX12_findFar_145 (by decide) ?_
        have e := step.trans (bf_w_no e0 (by omega) (by first | exact Or.inl c84 | exact Or.inr (Or.inl (by rw [ec, vv_nI (by omega)]; exact c98)) | exact Or.inr (Or.inr (by rw [ec, vv_nI (by omega)]; exact c108))))
        have hh := ih (y + 1) (by omega) (by omega)
        rw [e] at hh
        exact mm_sub [0, 2, 3, 4, 5] rfl hh
      · obtain ⟨c, hcn, ec⟩ := (sp_be_in (way := y) (show 0 < w by omega) hc0).resolve_left (fun q => c84 (by rw [q]; decide))
        rw [ec]
        refine mm_aload_n 4 dX12_findFar_87 rfl rfl ?_
        refine mm_getr (b := 201) dX12_findFar_88 rfl fk_X12_9 rfl so_200 sr_200_0 ?_
        refine mm_bipush (v := 30) dX12_findFar_91 rfl ?_
        refine mm_iload 0 dX12_findFar_93 rfl ?_
        refine mm_iaddN (30) (c) dX12_findFar_95 ?_
        refine mm_ialdN (30 + c) dX12_findFar_96 sa_201 (by omega) (by omega) ?_
        refine mm_top (v := I 201 (30 + c)) (bf_m_n (by decide) (by decide)) ?_
        refine mm_iconst (v := 1) dX12_findFar_97 rfl ?_
        refine mm_at (pc' := 98) rfl ?_
        refine mm_icmp_eq (tgt := 142) dX12_findFar_98 (by decide) (fun c98 => ?_) (fun c98 => ?_)
        · refine mm_iincN (ls' := [(4, .int (nI (y + 1))), (5, .int (nI (c))), (3, .int (nI (k))), (2, .int (nI (m))), (0, .ref 200), (1, .int (nI (t)))]) 1 (y) 1 dX12_findFar_142 rfl rfl (by decide) rfl ?_
          refine mm_goto (tgt := 62) dX12_findFar_145 (by decide) ?_
          have e := step.trans (bf_w_no e0 (by omega) (by first | exact Or.inl c84 | exact Or.inr (Or.inl (by rw [ec, vv_nI (by omega)]; exact c98)) | exact Or.inr (Or.inr (by rw [ec, vv_nI (by omega)]; exact c108))))
          have hh := ih (y + 1) (by omega) (by omega)
          rw [e] at hh
          exact mm_sub [0, 2, 3, 4, 5] rfl hh
        · refine mm_aload_n 4 dX12_findFar_101 rfl rfl ?_
          refine mm_getr (b := 207) dX12_findFar_102 rfl fk_X12_28 rfl so_200 sr_200_9 ?_
          refine mm_iload 0 dX12_findFar_105 rfl ?_
          refine mm_ialdN (c) dX12_findFar_107 sa_207 (by omega) (by omega) ?_
          refine mm_top (v := f c) rfl ?_
          refine mm_if_ge (tgt := 142) dX12_findFar_108 (by decide) (fun c108 => ?_) (fun c108 => ?_)
          · refine mm_iincN (ls' := [(4, .int (nI (y + 1))), (5, .int (nI (c))), (3, .int (nI (k))), (2, .int (nI (m))), (0, .ref 200), (1, .int (nI (t)))]) 1 (y) 1 dX12_findFar_142 rfl rfl (by decide) rfl ?_
            refine mm_goto (tgt := 62) dX12_findFar_145 (by decide) ?_
            have e := step.trans (bf_w_no e0 (by omega) (by first | exact Or.inl c84 | exact Or.inr (Or.inl (by rw [ec, vv_nI (by omega)]; exact c98)) | exact Or.inr (Or.inr (by rw [ec, vv_nI (by omega)]; exact c108))))
            have hh := ih (y + 1) (by omega) (by omega)
            rw [e] at hh
            exact mm_sub [0, 2, 3, 4, 5] rfl hh
          · have hm80 : m < w * h := by
              have q9 := bf_c_lt (Int32.not_le.mp c108) _ hcn
              have q8 : bf_c f (w * h) = m := hok.1.2.2
              omega
            refine mm_aload_n 4 dX12_findFar_111 rfl rfl ?_
            refine mm_getr (b := 207) dX12_findFar_112 rfl fk_X12_28 rfl so_200 sr_200_9 ?_
            refine mm_iload 0 dX12_findFar_115 rfl ?_
            refine mm_aload_n 4 dX12_findFar_117 rfl rfl ?_
            refine mm_getr (b := 207) dX12_findFar_118 rfl fk_X12_28 rfl so_200 sr_200_9 ?_
            refine mm_aload_n 4 dX12_findFar_121 rfl rfl ?_
            refine mm_getr (b := 208) dX12_findFar_122 rfl fk_X12_31 rfl so_200 sr_200_10 ?_
            refine mm_at (pc' := 125) rfl ?_
            refine mm_iload_n 2 dX12_findFar_125 rfl rfl ?_
            refine mm_ialdN (k) dX12_findFar_126 sa_208 (by omega) (by omega) ?_
            refine mm_top (v := nI (c0)) e0 ?_
            refine mm_ialdN (c0) dX12_findFar_127 sa_207 (by omega) (by omega) ?_
            refine mm_top (v := f c0) rfl ?_
            refine mm_iconst (v := 1) dX12_findFar_128 rfl ?_
            refine mm_iadd dX12_findFar_129 ?_
            refine mm_iastN (c) dX12_findFar_130 sa_207 (by omega) (by omega) ?_
            refine mm_aload_n 4 dX12_findFar_131 rfl rfl ?_
            refine mm_getr (b := 208) dX12_findFar_132 rfl fk_X12_31 rfl so_200 sr_200_10 ?_
            refine mm_at (pc' := 135) rfl ?_
            refine mm_iload_n 3 dX12_findFar_135 rfl rfl ?_
            refine mm_iload 0 dX12_findFar_136 rfl ?_
            refine mm_iastN (m) dX12_findFar_138 sa_208 (by omega) (by omega) ?_
            refine mm_iincN (ls' := [(2, .int (nI (m + 1))), (5, .int (nI (c))), (4, .int (nI (y))), (3, .int (nI (k))), (0, .ref 200), (1, .int (nI (t)))]) 3 (m) 1 dX12_findFar_139 rfl rfl (by decide) rfl ?_
            refine mm_iincN (ls' := [(4, .int (nI (y + 1))), (2, .int (nI (m + 1))), (5, .int (nI (c))), (3, .int (nI (k))), (0, .ref 200), (1, .int (nI (t)))]) 2 (y) 1 dX12_findFar_142 rfl rfl (by decide) rfl ?_
            refine mm_goto (tgt := 62) dX12_findFar_145 (by decide) ?_
            have e := step.trans (bf_w_yes e0 (by omega) ec (by omega) c98 c108)
            rw [bf_m_u7, bf_m_u8 (m' := m + 1)]
            have hh := ih (y + 1) (by omega) (by omega)
            rw [e] at hh
            exact mm_sub [0, 3, 1, 4, 5] rfl hh
set_option maxRecDepth 100000 in
set_option maxHeartbeats 600000 in
theorem lm_ff2 {g : mm_G} {I : mm_I} {d : Nat} {Q : Option Value → mm_Sh → mm_I → Prop} {w h : Nat} (hW : mo_W (I 201) w h) {t : Nat} (hd : 2 ≤ d) : ∀ (n k : Nat) (s : bf_S), bf_ok (w * h) s → 80 - k < n + 1 → k ≤ 80 → Q none sh_S (bf_m I (bf_o (fun c => I 201 (30 + c)) w h n k s)) → mm_Ex g zX12_findFar d (0, 0) (0, 0) sh_S (bf_m I s) 54 [(3, .int (nI k)), (2, .int (nI s.2.2)), (0, .ref 200), (1, .int (nI t))] [] Q := by
  have hc := mo_W_c hW
  intro n
  induction n with
  | zero =>
    intro k s hs hn hk hq
    have hle := bf_ok_le hs
    refine mm_iload_n 0 dX12_findFar_54 rfl rfl ?_
    refine mm_iload_n 1 dX12_findFar_55 rfl rfl ?_
    refine mm_icmp_geN k s.2.2 (tgt := 154) dX12_findFar_56 (by decide) (by omega) (by omega) (fun c1 => ?_) (fun c1 => by exfalso; omega)
    exact mm_vret dX12_findFar_154 rfl ⟨Nat.le_refl _, Nat.le_refl _⟩ hq
  | succ n ih =>
    intro k s hs hn hk hq
    have hle := bf_ok_le hs
    rw [bf_o] at hq
    refine mm_iload_n 0 dX12_findFar_54 rfl rfl ?_
    refine mm_iload_n 1 dX12_findFar_55 rfl rfl ?_
    refine mm_icmp_geN k s.2.2 (tgt := 154) dX12_findFar_56 (by decide) (by omega) (by omega) (fun c1 => ?_) (fun c1 => ?_)
    · rw [if_neg (by omega)] at hq
      exact mm_vret dX12_findFar_154 rfl ⟨Nat.le_refl _, Nat.le_refl _⟩ hq
    · rw [if_pos c1] at hq
      refine mm_iconst (v := 0) dX12_findFar_59 rfl ?_
      refine mm_istore (ls' := [(4, .int 0), (3, .int (nI k)), (2, .int (nI s.2.2)), (0, .ref 200), (1, .int (nI t))]) dX12_findFar_60 (by decide) rfl ?_
      refine lm_ff4 hW hs c1 ?_ hd 5 0 (by omega) (by omega)
      have hok := bf_i_ok (kd := (fun c => I 201 (30 + c))) (show 0 < w by have := hW.2.2.1; omega) hc.2 hs c1 4
      refine mm_iincN (ls' := [(3, .int (nI (k + 1))), (2, .int (nI (bf_i (fun c => I 201 (30 + c)) w h k s 4).2.2)), (0, .ref 200), (1, .int (nI t))]) 0 k 1 dX12_findFar_148 rfl rfl (by decide) rfl ?_
      refine mm_goto (tgt := 54) dX12_findFar_151 (by decide) ?_
      exact ih (k + 1) _ hok.1 (by omega) (by omega) hq
set_option maxRecDepth 100000 in
set_option maxHeartbeats 600000 in
theorem cm_findFar {g : mm_G} {I : mm_I} {d : Nat} {w h : Nat} (hW : mo_W (I 201) w h) {t : Nat} (ht : t < w * h) (hd : 2 ≤ d) : mm_Cv g zX12_findFar d [.ref 200, .int (nI t)] sh_S I (bf_m I (bf_r I w h t)) := by
  have hc := mo_W_c hW
  obtain ⟨-, -, hw1, hw2, hh1, hh2⟩ := id hW
  refine mm_Cv_of (fun Q hq => ?_)
  refine mm_begin (ls := [(0, .ref 200), (1, .int (nI (t)))]) (Nat.le_of_ble_eq_true rfl) rfl rfl ?_
  refine mm_iconst (v := 0) dX12_findFar_0 rfl ?_
  refine mm_istore_n (ls' := [(2, .int (0)), (0, .ref 200), (1, .int (nI (t)))]) dX12_findFar_1 rfl (by decide) rfl ?_
  refine rw_fl_0 (I := I) (b := 207) (v := -1) ▸ lm_ff1 ?_ 81 0 (by omega) (by omega)
  rw [bf_fl_m (m := 0)]
  refine mm_iconst (v := 0) dX12_findFar_21 rfl ?_
  refine mm_istore_n (ls' := [(2, .int (0)), (0, .ref 200), (1, .int (nI (t)))]) dX12_findFar_22 rfl (by decide) rfl ?_
  refine mm_aload_n 1 dX12_findFar_23 rfl rfl ?_
  refine mm_getr (b := 201) dX12_findFar_24 rfl fk_X12_9 rfl so_200 sr_200_0 ?_
  refine mm_bipush (v := 30) dX12_findFar_27 rfl ?_
  refine mm_iload_n 2 dX12_findFar_29 rfl rfl ?_
  refine mm_iaddN (30) (t) dX12_findFar_30 ?_
  refine mm_ialdN (30 + t) dX12_findFar_31 sa_201 (by omega) (by omega) ?_
  refine mm_at (pc' := 32) rfl ?_
  refine mm_top (v := I 201 (30 + t)) (bf_m_n (by decide) (by decide)) ?_
  refine mm_iconst (v := 1) dX12_findFar_32 rfl ?_
  refine mm_icmp_eq (tgt := 52) dX12_findFar_33 (by decide) (fun c33 => ?_) (fun c33 => ?_)
  · have hr := bf_r_ok I ht hc.2
    unfold bf_r bf_0 at hq
    unfold bf_0 at hr
    rw [if_pos c33] at hq hr
    refine mm_iconst (v := 0) dX12_findFar_52 rfl ?_
    refine mm_istore_n (ls' := [(3, .int 0), (2, .int 0), (0, .ref 200), (1, .int (nI t))]) dX12_findFar_53 rfl (by decide) rfl ?_
    exact lm_ff2 hW hd 80 0 _ hr (by omega) (by omega) hq
  · refine mm_aload_n 1 dX12_findFar_36 rfl rfl ?_
    refine mm_getr (b := 207) dX12_findFar_37 rfl fk_X12_28 rfl so_200 sr_200_9 ?_
    refine mm_iload_n 2 dX12_findFar_40 rfl rfl ?_
    refine mm_iconst (v := 0) dX12_findFar_41 rfl ?_
    refine mm_iastN (t) dX12_findFar_42 sa_207 (by omega) (by omega) ?_
    refine mm_aload_n 1 dX12_findFar_43 rfl rfl ?_
    refine mm_getr (b := 208) dX12_findFar_44 rfl fk_X12_31 rfl so_200 sr_200_10 ?_
    refine mm_at (pc' := 47) rfl ?_
    refine mm_iconst (v := 0) dX12_findFar_47 rfl ?_
    refine mm_iload_n 2 dX12_findFar_48 rfl rfl ?_
    refine mm_iastN (0) dX12_findFar_49 sa_208 (by omega) (by omega) ?_
    refine mm_iconst (v := 1) dX12_findFar_50 rfl ?_
    refine mm_istore_n (ls' := [(2, .int (1)), (0, .ref 200), (1, .int (nI (t)))]) dX12_findFar_51 rfl (by decide) rfl ?_
    have hr := bf_r_ok I ht hc.2
    unfold bf_r bf_0 at hq
    unfold bf_0 at hr
    rw [if_neg c33] at hq hr
    rw [bf_m_u7, bf_m_u8 (m' := 1)]
    refine mm_iconst (v := 0) dX12_findFar_52 rfl ?_
    refine mm_istore_n (ls' := [(3, .int 0), (2, .int 1), (0, .ref 200), (1, .int (nI t))]) dX12_findFar_53 rfl (by decide) rfl ?_
    exact lm_ff2 hW hd 80 0 _ hr (by omega) (by omega) hq
def op_steps (w h : Nat) (J : mm_I) (c o : Int32) : Int32 × mm_I := if ¬ sp_isC w h c ∨ ¬ sp_isC w h o then ((-1000000001), J) else if (bf_r J w h (vv o)).1 (vv c) < 0 then ((-1000000005), bf_m J (bf_r J w h (vv o))) else ((bf_r J w h (vv o)).1 (vv c), bf_m J (bf_r J w h (vv o)))
set_option maxRecDepth 100000 in
set_option maxHeartbeats 600000 in
theorem cm_steps {g : mm_G} {I : mm_I} {d : Nat} {w h : Nat} (hW : mo_W (I 201) w h) {c o : Int32} (hd : 3 ≤ d) : mm_Ci g zX12_steps d [.ref 200, .int c, .int o] sh_S I (op_steps w h I c o).1 (op_steps w h I c o).2 := by
  have hc := mo_W_c hW
  obtain ⟨-, -, hw1, hw2, hh1, hh2⟩ := id hW
  refine mm_Ci_of (fun Q hq => ?_)
  refine mm_begin (ls := [(0, .ref 200), (1, .int (c)), (2, .int (o))]) (Nat.le_of_ble_eq_true rfl) rfl rfl ?_
  refine mm_aload_n 0 dX12_steps_0 rfl rfl ?_
  refine mm_iload_n 1 dX12_steps_1 rfl rfl ?_
  refine mm_cV1i (dz := d - 1) dX12_steps_2 rfl mzX12_isCell ml_X12_91 imX12_isCell (by omega) so_200 ⟨rfl, rfl⟩ (cm_isCell hW (by omega)) (Nat.le_of_ble_eq_true rfl) ⟨Nat.le_refl _, Nat.le_refl _⟩ ?_
  refine mm_if_eqB (tgt := 16) dX12_steps_5 (by decide) (fun c5 => ?_) (fun c5 => ?_)
  · refine mm_ldc dX12_steps_16 rfl kc_X12_86 ?_
    refine mm_iret dX12_steps_18 rfl ⟨Nat.le_refl _, Nat.le_refl _⟩ ?_
    exact mm_l2 (by unfold op_steps; rw [if_pos (by first | exact Or.inl c5 | exact Or.inr (c13))]) hq
  · refine mm_aload_n 0 dX12_steps_8 rfl rfl ?_
    refine mm_iload_n 2 dX12_steps_9 rfl rfl ?_
    refine mm_cV1i (dz := d - 1) dX12_steps_10 rfl mzX12_isCell ml_X12_91 imX12_isCell (by omega) so_200 ⟨rfl, rfl⟩ (cm_isCell hW (by omega)) (Nat.le_of_ble_eq_true rfl) ⟨Nat.le_refl _, Nat.le_refl _⟩ ?_
    refine mm_if_neB (tgt := 19) dX12_steps_13 (by decide) (fun c13 => ?_) (fun c13 => ?_)
    · obtain ⟨k, hkk, rfl⟩ := sp_isC_nat (by omega) c5
      obtain ⟨j, hkj, rfl⟩ := sp_isC_nat (by omega) c13
      refine mm_aload_n 0 dX12_steps_19 rfl rfl ?_
      refine mm_iload_n 2 dX12_steps_20 rfl rfl ?_
      refine mm_cV1v (dz := d - 1) dX12_steps_21 rfl mzX12_findFar ml_X12_114 imX12_findFar (by omega) so_200 ⟨rfl, rfl⟩ (cm_findFar hW (by omega) (by omega)) (Nat.le_of_ble_eq_true rfl) ⟨Nat.le_refl _, Nat.le_refl _⟩ ?_
      refine mm_aload_n 0 dX12_steps_24 rfl rfl ?_
      refine mm_getr (b := 207) dX12_steps_25 rfl fk_X12_28 rfl so_200 sr_200_9 ?_
      refine mm_iload_n 1 dX12_steps_28 rfl rfl ?_
      refine mm_ialdN (k) dX12_steps_29 sa_207 (by omega) (by omega) ?_
      refine mm_top (v := (bf_r I w h j).1 k) rfl ?_
      refine mm_if_ge (tgt := 38) dX12_steps_30 (by decide) (fun c30 => ?_) (fun c30 => ?_)
      · refine mm_aload_n 0 dX12_steps_38 rfl rfl ?_
        refine mm_getr (b := 207) dX12_steps_39 rfl fk_X12_28 rfl so_200 sr_200_9 ?_
        refine mm_iload_n 1 dX12_steps_42 rfl rfl ?_
        refine mm_ialdN (k) dX12_steps_43 sa_207 (by omega) (by omega) ?_
        refine mm_top (v := (bf_r I w h j).1 k) rfl ?_
        refine mm_iret dX12_steps_44 rfl ⟨Nat.le_refl _, Nat.le_refl _⟩ ?_
        exact mm_l2 (by unfold op_steps; rw [if_neg (by intro q; rcases q with q | q; exact q c5; exact q c13), vv_nI (by omega), vv_nI (by omega), if_neg (Int32.not_lt.mpr c30)]) hq
      · refine mm_ldc dX12_steps_33 rfl kc_X12_100 ?_
        refine mm_goto (tgt := 44) dX12_steps_35 (by decide) ?_
        refine mm_iret dX12_steps_44 rfl ⟨Nat.le_refl _, Nat.le_refl _⟩ ?_
        exact mm_l2 (by unfold op_steps; rw [if_neg (by intro q; rcases q with q | q; exact q c5; exact q c13), vv_nI (by omega), vv_nI (by omega), if_pos (Int32.not_le.mp c30)]) hq
    · refine mm_ldc dX12_steps_16 rfl kc_X12_86 ?_
      refine mm_iret dX12_steps_18 rfl ⟨Nat.le_refl _, Nat.le_refl _⟩ ?_
      exact mm_l2 (by unfold op_steps; rw [if_pos (by first | exact Or.inl c5 | exact Or.inr (c13))]) hq
