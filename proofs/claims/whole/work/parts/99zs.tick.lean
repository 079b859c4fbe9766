/-! What holds of the row all along: power, REPORTS that go, a TICK -/
def mo_L (N : Nat → Int32) (l : Nat) : Prop := ∀ i, i < l → ∃ x, x ≤ 50 ∧ N (590 + i) = nI x
theorem pb_nat {N : Nat → Int32} {o : Int32} : ∀ l, mo_L N l → ∃ P, P ≤ 50 * l ∧ sp_pb N o l = nI P := by
  intro l
  induction l with
  | zero => intro _; exact ⟨0, Nat.le_refl _, rfl⟩
  | succ l ih =>
    intro h
    obtain ⟨P, h1, h2⟩ := ih (fun i hi => h i (by omega))
    obtain ⟨x, x1, x2⟩ := h l (by omega)
    show ∃ P, P ≤ 50 * (l + 1) ∧ sp_pb N o l + (if ((o) >>> ((nI (l)) &&& 31)) &&& 1 = 0 then N (590 + l) else 0) = nI P
    by_cases c : ((o) >>> ((nI (l)) &&& 31)) &&& 1 = 0
    · rw [if_pos c, h2, x2, nI_add]; exact ⟨P + x, by omega, rfl⟩
    · rw [if_neg c, h2, Int32.add_zero]; exact ⟨P, by omega, rfl⟩
theorem pw_end {N : Nat → Int32} {l b : Nat} (hl : l ≤ 8) (hb : N 4 = nI b) (hb31 : b < 2 ^ 31) : ¬ N 4 < sp_pb N (nI (pw_d N l l)) l := by
  have h0 : ¬ N 4 < 0 := by rw [hb]; exact nI_pos hb31
  have key : ∀ k, (¬ N 4 < sp_pb N (nI (pw_d N l k)) l) ∨ pw_c (pw_d N l k) l = k := by
    intro k
    induction k with
    | zero => exact Or.inr (pw_c0 l hl)
    | succ k ih =>
      rw [pw_d]
      by_cases c : N 4 < sp_pb N (nI (pw_d N l k)) l
      · rw [if_pos c]
        rcases ih with q | q
        · exact absurd c q
        · rcases pw_l_in (N := N) (D := pw_d N l k) l with ⟨-, z⟩ | ⟨v, hv, ev, hbit⟩
          · exact absurd (by rw [pw_full l (pw_full2 l z)] at c; exact c) h0
          · right
            rw [ev, vv_nI (by omega), pw_c_o (pw_d_lt hl hb hb31 k).1 (by omega) hbit l hl, if_pos hv, q]
      · rw [if_neg c]; exact Or.inl c
  rcases key l with q | q
  · exact q
  · rw [pw_full l q]; exact h0
theorem pa_inv {J : mm_I} {w h n : Nat} (H : iT (J 201) w h n) : ∀ i, i ≤ n → iT (pa_m J i 201) w h n := by
  intro i
  induction i with
  | zero => intro _; exact H
  | succ i ih =>
    intro hi
    unfold pa_m
    split
    · exact ih (by omega)
    · obtain ⟨-, -, ⟨q, q1, q2⟩, -⟩ := H.2.1 i (by omega)
      rw [up_201, q2, show (3 : Int32) = nI 3 from rfl, nI_add, show (100 : Int32) = nI 100 from rfl, spm (by decide) (by omega)]
      exact iT_f (ih (by omega)) (Or.inl ⟨rfl, by omega⟩)
theorem opa_inv {J : mm_I} {w h n : Nat} (hn : n ≤ 5) (H : iT (J 201) w h n) (h5 : ∃ x, x ≤ 99 ∧ J 201 5 = nI x) : iT (op_pa J n 201) w h n ∧ ∀ y, ¬ (y = 4 ∨ (630 ≤ y ∧ y < 830 ∧ (y - 630) % 40 = 2)) → op_pa J n 201 y = J 201 y := by
  unfold op_pa
  split
  · obtain ⟨x, x1, x2⟩ := h5
    obtain ⟨b, b1, b2⟩ := H.2.2.2.2.1
    refine ⟨pa_inv (J := mm_up J 201 4 (sp_min 9999 (J 201 4 + J 201 5))) ?_ n (Nat.le_refl _), fun y hy => ?_⟩
    · rw [up_201, b2, x2, nI_add, show (9999 : Int32) = nI 9999 from rfl, spm (by decide) (by omega)]
      exact iT_b H (by omega)
    · rw [pa_ne n (fun _ k hk => by omega), up_201, upd_n (by omega)]
  · exact ⟨H, fun _ _ => rfl⟩
theorem pc_all {J : mm_I} {w h n l : Nat} (hn : n ≤ 5) (hl : l ≤ 8) (H : iT (J 201) w h n) (hP : mP (J 201) n) (h5 : ∃ x, x ≤ 99 ∧ J 201 5 = nI x) (hL : mo_L (J 201) l) : iT (op_pc J n l 201) w h n ∧ mP (op_pc J n l 201) n ∧ (∀ y, ¬ (y = 4 ∨ y = 8 ∨ y = 9 ∨ (630 ≤ y ∧ y < 830 ∧ (y - 630) % 40 = 2)) → op_pc J n l 201 y = J 201 y) := by
  obtain ⟨e1, e2⟩ := opa_inv hn H h5
  have hfr : ∀ y, ¬ (y = 4 ∨ y = 8 ∨ y = 9 ∨ (630 ≤ y ∧ y < 830 ∧ (y - 630) % 40 = 2)) → op_pc J n l 201 y = J 201 y := fun y hy => by
    unfold op_pc op_pw
    rw [up_201, up_201, up_201, upd_n (by omega), upd_n (by omega), upd_n (by omega)]; exact e2 y (by omega)
  refine ⟨?_, mP_e hP hn (fun y hy => hfr y (by omega)) (fun y hy => hfr y (by omega)), hfr⟩
  obtain ⟨b, b1, b2⟩ := e1.2.2.2.2.1
  obtain ⟨p, p1, p2⟩ := pb_nat (N := op_pa J n 201) (o := nI (pw_d (op_pa J n 201) l l)) l (fun i hi => by rw [e2 _ (by omega)]; exact hL i hi)
  have hend := pw_end (N := op_pa J n 201) hl b2 (by omega)
  rw [b2, p2] at hend
  have hle : p ≤ b := Nat.not_lt.mp (fun z => hend ((nI_ltI (by omega) (by omega)).mpr z))
  unfold op_pc op_pw
  rw [up_201, up_201, up_201, b2, p2, pk_sub hle]
  exact iT_b (iT_x (iT_x e1 (by omega)) (by omega)) (by omega)
theorem rg_a_at {K : mm_I} {r e : Nat} {f : Nat → Int32} (he : e < 6) : rg_a K r f 201 (866 + 6 * r + e) = f e := by
  unfold rg_a
  rw [up_201, up_201, up_201, up_201, up_201, up_201, up_201]
  rcases show e = 0 ∨ e = 1 ∨ e = 2 ∨ e = 3 ∨ e = 4 ∨ e = 5 by omega with q | q | q | q | q | q <;> subst q
  · rw [upd_n (by omega), upd_n (by omega), upd_n (by omega), upd_n (by omega), upd_n (by omega), upd_n (by omega), Nat.add_zero, upd_y]
  · rw [upd_n (by omega), upd_n (by omega), upd_n (by omega), upd_n (by omega), upd_n (by omega), upd_y]
  · rw [upd_n (by omega), upd_n (by omega), upd_n (by omega), upd_n (by omega), upd_y]
  · rw [upd_n (by omega), upd_n (by omega), upd_n (by omega), upd_y]
  · rw [upd_n (by omega), upd_n (by omega), upd_y]
  · rw [upd_n (by omega), upd_y]
theorem rg_hi {J : mm_I} {r0 a x : Nat} : ∀ m, 866 + 6 * (r0 + m) ≤ x → (rg J r0 m).1 a x = J a x := by
  intro m
  induction m with
  | zero => intro _; rfl
  | succ m ih =>
    intro hx
    have hl := rg_le (J := J) (r0 := r0) m
    unfold rg
    by_cases c : J 201 (630 + 40 * m + 3) = 100
    · rw [if_pos c]; exact ih (by omega)
    · rw [if_neg c]
      show rg_a (rg J r0 m).1 (rg J r0 m).2 (rg_f (J 201) m) a x = _
      rw [rg_a_ne (by omega) (Nat.zero_le _)]; exact ih (by omega)
theorem rg_new {J : mm_I} {n r0 c T L : Nat} (hT : T ≤ 2000) (h7 : J 201 7 = nI T) (h6 : J 201 6 = nI L) (hL : L ≤ 9) (hC : mo_C (J 201) n c) (hR : rpt (J 201) c (T + 1) T r0) : ∀ m, m ≤ n → (∀ i, i < (rg J r0 m).2 → (∃ x, x < c ∧ (rg J r0 m).1 201 (866 + 6 * i) = nI x) ∧ ∃ s u, (rg J r0 m).1 201 (866 + 6 * i + 4) = nI s ∧ (rg J r0 m).1 201 (866 + 6 * i + 5) = nI u ∧ s < T + 1 ∧ T ≤ u ∧ u ≤ s + 9 ∧ (¬ L = 0 → T + 1 ≤ u)) ∧ ∀ v, rcnt ((rg J r0 m).1 201) v (rg J r0 m).2 ≤ rcnt (J 201) v r0 + m := by
  intro m
  induction m with
  | zero =>
    intro _
    refine ⟨fun i hi => ?_, fun v => Nat.le_refl _⟩
    obtain ⟨h1, s, u, h2, h3, h4, h5, h8⟩ := hR i hi
    exact ⟨h1, s, u, h2, h3, by omega, by omega, h8, fun _ => h5⟩
  | succ m ih =>
    intro hm
    obtain ⟨e1, e2⟩ := ih (by omega)
    have hl := rg_le (J := J) (r0 := r0) m
    unfold rg
    by_cases c' : J 201 (630 + 40 * m + 3) = 100
    · rw [if_pos c']; exact ⟨e1, fun v => Nat.le_trans (e2 v) (by omega)⟩
    · rw [if_neg c']
      have hn : ∀ i e, i < (rg J r0 m).2 → e < 6 → rg_a (rg J r0 m).1 (rg J r0 m).2 (rg_f (J 201) m) 201 (866 + 6 * i + e) = (rg J r0 m).1 201 (866 + 6 * i + e) := fun i e hi he => rg_a_ne (by omega) (Nat.zero_le _)
      constructor
      · intro i hi
        show (∃ x, x < c ∧ rg_a (rg J r0 m).1 (rg J r0 m).2 (rg_f (J 201) m) 201 (866 + 6 * i) = nI x) ∧ ∃ s u, rg_a (rg J r0 m).1 (rg J r0 m).2 (rg_f (J 201) m) 201 (866 + 6 * i + 4) = nI s ∧ rg_a (rg J r0 m).1 (rg J r0 m).2 (rg_f (J 201) m) 201 (866 + 6 * i + 5) = nI u ∧ s < T + 1 ∧ T ≤ u ∧ u ≤ s + 9 ∧ (¬ L = 0 → T + 1 ≤ u)
        by_cases e : i = (rg J r0 m).2
        · subst e
          obtain ⟨x, x1, x2⟩ := hC m (by omega)
          refine ⟨⟨x, x1, (rg_a_at (e := 0) (by decide)).trans x2⟩, T, T + L, (rg_a_at (by decide)).trans h7, (rg_a_at (by decide)).trans ?_, by omega, by omega, by omega, by omega⟩
          show J 201 7 + J 201 6 = _
          rw [h7, h6, nI_add]
        · have hi' : i < (rg J r0 m).2 + 1 := hi
          have z0 : rg_a (rg J r0 m).1 (rg J r0 m).2 (rg_f (J 201) m) 201 (866 + 6 * i) = (rg J r0 m).1 201 (866 + 6 * i) := hn i 0 (by omega) (by decide)
          rw [z0, hn i 4 (by omega) (by decide), hn i 5 (by omega) (by decide)]
          exact e1 i (by omega)
      · intro v
        show rcnt (rg_a (rg J r0 m).1 (rg J r0 m).2 (rg_f (J 201) m) 201) v (rg J r0 m).2 + _ ≤ _
        rw [rcnt_c _ (fun i hi => hn i 4 hi (by decide))]
        have := e2 v
        split <;> omega
theorem rg_all {J : mm_I} {w h n r0 T L : Nat} (hn : n ≤ 5) (hT : T ≤ 2000) (h7 : J 201 7 = nI T) (h6 : J 201 6 = nI L) (hL : L ≤ 9) (h18 : J 201 18 = nI r0) (hr0 : r0 ≤ 45) (H : iT (J 201) w h n) (hP : mP (J 201) n) (hR : rpt (J 201) (w * h) (T + 1) T r0) : ∃ r', r' ≤ r0 + n ∧ op_rg J n r0 201 18 = nI r' ∧ iT (op_rg J n r0 201) w h n ∧ mP (op_rg J n r0 201) n ∧ rpt (op_rg J n r0 201) (w * h) (T + 1) (T + 1) r' ∧ (∀ v, rcnt (op_rg J n r0 201) v r' ≤ rcnt (J 201) v r0 + n) ∧ ∀ y, ¬ y = 18 → y < 270 ∨ (590 ≤ y ∧ y < 866) ∨ 1226 ≤ y → op_rg J n r0 201 y = J 201 y := by
  have hcc := mo_W_c H.1
  have hC : mo_C (J 201) n (w * h) := fun i hi => (H.2.1 i hi).2.1
  obtain ⟨e1, e2⟩ := rg_new hT h7 h6 hL hC hR n (Nat.le_refl _)
  have hl := rg_le (J := J) (r0 := r0) n
  have hfr : ∀ y, ¬ y = 18 → y < 270 ∨ (590 ≤ y ∧ y < 866) ∨ 1226 ≤ y → (rg J r0 n).1 201 y = J 201 y := fun y h1 h2 => by
    by_cases e : y < 866
    · exact rg_ne (Or.inr ⟨h1, by omega⟩) n
    · exact rg_hi n (by omega)
  have H1 : iT ((rg J r0 n).1 201) w h n := iT_e2 H hn (fun y hy => hfr y (by omega) (by omega))
  have P1 : mP ((rg J r0 n).1 201) n := mP_e hP hn (fun y hy => hfr y (by omega) (by omega)) (fun y hy => hfr y (by omega) (by omega))
  unfold op_rg
  by_cases c : J 201 6 = 0
  · rw [if_pos c]
    have hR1 : rpt ((rg J r0 n).1 201) (w * h) T (T + 1) (rg J r0 n).2 := fun i hi => by
      obtain ⟨h1, s, u, h2, h3, h4, h5, h8, -⟩ := e1 i hi
      exact ⟨h1, s, u, h2, h3, h4, h5, h8⟩
    obtain ⟨q1, q2, q3, q4, q5, q6⟩ := rc_all hn (by omega) hcc.2 H1 P1 ((hfr 7 (by omega) (by omega)).trans h7) hT hR1 (by omega) rfl
    exact ⟨_, Nat.le_trans (rc_le _) hl.2, q4, q1, q2, q3, fun v => Nat.le_trans (q5 v) (e2 v), fun y h1 h2 => (q6 y h1 h2).trans (hfr y h1 h2)⟩
  · rw [if_neg c]
    refine ⟨_, hl.2, rg_18 h18 n, H1, P1, fun i hi => ?_, e2, hfr⟩
    obtain ⟨h1, s, u, h2, h3, h4, h5, h8, h9⟩ := e1 i hi
    exact ⟨h1, s, u, h2, h3, h4, h9 (fun z => c (by rw [h6, z]; rfl)), h8⟩
