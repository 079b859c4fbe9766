/-! BOTH READINGS ARE ALIKE: if, and all together -/
theorem sim_i {I : mm_I} {T : Nat → Int32} {t W p bn k n a D : Nat} {fr : Bool} {ab : Int32} {N Af Sf Bf : Nat → Int32} {CS : List Nat} {row : Int32 → rS → Int32 × rS} (hB : tp_ok T t) (hWR : WR I T t W) (hD : bn + D = 4) (hW : 0 < D → OkW T t W p (bn + 1) row) (hk : k + 1 ≤ t) (hS : ∀ i, i < CS.length → Sf i = cs_ (CS.getD i 0)) (hn : n < 32) (hI : cI T t W (true, k, fr, n, Af, a, Sf, CS.length, Bf, bn)) (hRo : 0 < D → RowOK T t p row) (hIo : cI T t W (c_o T t 8 (true, k + 1, false, n + 1, Af, a, Sf, CS.length, Bf, bn))) (hr : r1_ T t p (r_ex (tK T t) (tV T t) p n (true, k + 1, r_new p N n 8 ab, CS, n + 1))) (h1 : Rch T t 1 (true, k, fr, n, Af, a, Sf, CS.length, Bf, bn) (c_o T t 8 (true, k + 1, false, n + 1, Af, a, Sf, CS.length, Bf, bn))) : Res1 T t p ab bn k N CS n fr Af a Sf Bf (r_op (tK T t) (tV T t) p D row n 8 (true, k + 1, r_new p N n 8 ab, CS, n + 1)) := by
  obtain ⟨b, k2, cs, epx, hk2, hpx⟩ := ex_px hB hk
  have ee : r_ex (tK T t) (tV T t) p n (true, k + 1, r_new p N n 8 ab, CS, n + 1) = (b, k2, sw p (r_new p N n 8 ab) n 3 (nI CS.length), CS ++ cs ++ [30000], n + 1) := by
    unfold r_ex; rw [epx]
  have e : r_op (tK T t) (tV T t) p D row n 8 (true, k + 1, r_new p N n 8 ab, CS, n + 1) = r_el (tK T t) p D row n (r_bd (tK T t) p D row 4 n (b, k2, sw p (r_new p N n 8 ab) n 3 (nI CS.length), CS ++ cs ++ [30000], n + 1)) := by
    unfold r_op; rw [if_neg (by decide), if_neg (by decide), if_neg (by decide), if_neg (by decide), if_pos rfl, ee]
  have e2 : c_o T t 8 (true, k + 1, false, n + 1, Af, a, Sf, CS.length, Bf, bn) = c_op (tK T t) a (b, k2, false, n + 1, a3 Af a 3 (nI CS.length) 0, a + 1, upd (apl Sf CS.length cs) (CS.length + cs.length) (-1), (CS ++ cs ++ [30000]).length, Bf, bn) := by
    rw [ex_len, c_o_8, c_ex_e epx]
  rw [ee] at hr
  rw [e]
  rw [e2] at h1 hIo
  have hbr := sim_br (s := n) hB hWR hD hW hIo hr (ex_S hS)
  have hrb := (r_bd_good (f := 4) (n := n) hB hRo hr).1
  have hC := ex_P (CS := CS) (cs := cs)
  have hX := ex_X (CS := CS) (cs := cs)
  have hbT : b = false → (r_br (tK T t) D row n (b, k2, sw p (r_new p N n 8 ab) n 3 (nI CS.length), CS ++ cs ++ [30000], n + 1)).2.1 = false := fun q => by
    unfold r_br; rw [if_neg (by rw [q]; exact fun w => bFT w.1)]
  unfold r_bd at hrb ⊢
  generalize r_br (tK T t) D row n (b, k2, sw p (r_new p N n 8 ab) n 3 (nI CS.length), CS ++ cs ++ [30000], n + 1) = r at hbr hbT hrb
  obtain ⟨y, ok, k', N', CS', n'⟩ := r
  obtain ⟨b1, b2⟩ := hbr y ok k' N' CS' n' rfl
  dsimp only at hbT hrb ⊢
  generalize CS ++ cs ++ [30000] = CS2 at *
  cases ok with
  | false =>
    have eel : r_el (tK T t) p D row n (false, k', sw p N' n 4 y, CS', n') = (false, k', sw p N' n 4 y, CS', n') := by
      unfold r_el; rw [if_neg (fun q => bFT q.1)]
    rw [eel]
    obtain ⟨g1, c', g2, g3, g4⟩ := b2 rfl
    exact ⟨fun h => absurd h bFT, fun _ => ⟨by show k ≤ k'; omega, c', g2, g3, Rch_m (Rch_t h1 g4) (by show _ ≤ k' - k + 1; omega)⟩⟩
  | true =>
    obtain ⟨ey, hb4, k3, A3, a3', S3, B3, ek, hk3, hc, w1, w2, w3, w4, w5, w6, w7, w8, w9, w10, hgd⟩ := b1 rfl
    subst ey
    subst ek
    have hb : b = true := by cases b; exact absurd (hbT rfl) (by decide); rfl
    obtain ⟨x1, x2, x3⟩ := hpx hb
    have hc9 : a3 Af a 3 (nI CS.length) 0 (3 * a) = 3 := by rw [a3_at, if_neg (by omega), if_neg (by omega), if_pos rfl]
    have hI3 := Rch_I hB hWR (Rch_t h1 w1) hI
    have ha3 := cI_a hB hI3
    have hcl := Rch_cl (T := T) (t := t) (st := n') (Af := A3) (a := a3') (Sf := S3) (sn := CS'.length) (Bf := B3) (bn := bn) hc
    have hA3 : A3 (3 * a) = 3 := by rw [w5 _ (by omega)]; exact hc9
    have hf : ∀ f, f < 8 → ¬ f = 4 → ¬ f = 3 → sf (sw p N' n 4 (nI (n + 1))) p n f = sf (r_new p N n 8 ab) p n f := fun f g1 g2 g3 => by
      rw [sw_n (by omega) (by omega) g1, Fr_s w6 (by omega) g1, sw_n (by omega) (by omega) g1]
    have hf3 : sf (sw p N' n 4 (nI (n + 1))) p n 3 = nI CS.length := by
      rw [sw_n (by omega) (by omega) (by omega), Fr_s w6 (by omega) (by omega), sw_y]
    have hFr : Fr p n N (sw p N' n 4 (nI (n + 1))) := Fr_t (m := n) (Fr_t (m := n + 1) (Fr_t (m := n) (Fr_new hn) (Fr_sw (n := n) (f := 3) (Nat.le_refl _) (by omega) hn) (Nat.le_refl _)) w6 (by omega)) (Fr_sw (n := n) (f := 4) (Nat.le_refl _) (by omega) hn) (Nat.le_refl _)
    by_cases ce : tK T t (k3 + 1) = 403
    · rw [c_cl_e w3 (by omega) ⟨hA3, ce⟩] at hcl
      have eel : r_el (tK T t) p D row n (true, k3 + 1, sw p N' n 4 (nI (n + 1)), CS', n') = r_bd (tK T t) p D row 5 n (true, k3 + 1 + 1, sw p N' n 4 (nI (n + 1)), CS', n') := by
        unfold r_el; rw [if_pos ⟨rfl, ce⟩]
      rw [eel]
      have hIc := Rch_I hB hWR hcl hI3
      have hlt := tK_lt hB (k := k3 + 1) (by omega)
      have hr5 : r1_ T t p (true, k3 + 1 + 1, sw p N' n 4 (nI (n + 1)), CS', n') := by
        obtain ⟨⟨i1, i2, i3, i4⟩, i5⟩ := hrb
        exact ⟨⟨hlt, Nat.le_succ_of_le i2, i3, i4⟩, fun _ => Nat.le_trans (i5 rfl) (tq_le (Nat.le_succ _))⟩
      have hbr2 := sim_br (s := n) hB hWR hD hW hIc hr5 w2
      unfold r_bd
      generalize r_br (tK T t) D row n (true, k3 + 1 + 1, sw p N' n 4 (nI (n + 1)), CS', n') = r5 at hbr2
      obtain ⟨y5, ok5, k5', N5, CS5, n5⟩ := r5
      obtain ⟨d1, d2⟩ := hbr2 y5 ok5 k5' N5 CS5 n5 rfl
      dsimp only
      cases ok5 with
      | false =>
        obtain ⟨g1, c', g2, g3, g4⟩ := d2 rfl
        exact ⟨fun h => absurd h bFT, fun _ => ⟨by show k ≤ k5'; omega, c', g2, g3, Rch_m (Rch_t (Rch_t (Rch_t h1 w1) hcl) g4) (by show _ ≤ k5' - k + 1; omega)⟩⟩
      | true =>
        obtain ⟨ey, _, k5, A5, a5, S5, B5, ek, hk5, hc5, v1, v2, v3, v4, v5, v6, v7, v8, v9, v10, hgd5⟩ := d1 rfl
        subst ey
        subst ek
        have hI5 := Rch_I hB hWR v1 hIc
        have ha5 := cI_a hB hI5
        have hcl5 := Rch_cl (T := T) (t := t) (st := n5) (Af := A5) (a := a5) (Sf := S5) (sn := CS5.length) (Bf := B5) (bn := bn) hc5
        have hA5 : A5 (3 * a3') = 12 := by rw [v5 _ (by omega), al_at, if_neg (by omega), a3_at, if_neg (by omega), if_neg (by omega), if_pos rfl]
        rw [c_cl_o v3 (by omega) (Or.inr hA5)] at hcl5
        have hA5k : ∀ i, i < 3 * a3' → ¬ i = 3 * a + 2 → al A5 a5 a3' i = A3 i := fun i g1 g2 => by
          rw [al_at, if_neg (by omega), v5 _ (by omega), al_at, if_neg (by omega), a3_at, if_neg (by omega), if_neg (by omega), if_neg (by omega)]
        have hg : ∀ s f, s < n' → f < 8 → ¬ (s = n ∧ f = 5) → sf (sw p N5 n 5 (nI n')) p s f = sf (sw p N' n 4 (nI (n + 1))) p s f := fun s f g1 g2 g3 => by
          rw [sw_n g3 (by omega) g2, Fr_s v6 g1 g2]
        have hff : ∀ f, f < 8 → ¬ f = 4 → ¬ f = 3 → ¬ f = 5 → sf (sw p N5 n 5 (nI n')) p n f = sf (r_new p N n 8 ab) p n f := fun f g1 g2 g3 g4 => by
          rw [hg n f (by omega) g1 (by omega), hf f g1 g2 g3]
        refine ⟨fun _ => ⟨_, _, _, _, ⟨Rch_m (Rch_t (Rch_t (Rch_t (Rch_t h1 w1) hcl) v1) hcl5) (by show _ ≤ k5 + 1 - k; omega), v2, fun i hi => (v4 i hi).trans (w4 i hi), fun i hi => ?_, ?_, ⟨by show CS.length ≤ CS5.length; omega, fun i hi => (v7.2 i (by omega)).trans ((w7.2 i (by omega)).trans (hC.2 i hi))⟩, by show n < n5; omega, by omega, by show k < k5 + 1; omega, v10⟩, ?_⟩, fun h => absurd h bTF⟩
        · rw [hA5k i (by omega) (by omega), w5 i (by omega), a3_at, if_neg (by omega), if_neg (by omega), if_neg (by omega)]
        · exact Fr_t (m := n) (Fr_t (m := n') hFr v6 (by omega)) (Fr_sw (n := n) (f := 5) (Nat.le_refl _) (by omega) hn) (Nat.le_refl _)
        · refine Gd1_e (n1 := n') (a1 := a3') hb4 w8 v8 hn w9 v9 (by omega) ((hff 0 (by omega) (by omega) (by omega) (by omega)).trans new_0) ((hg n 4 (by omega) (by omega) (by omega)).trans sw_y) sw_y ((hff 6 (by omega) (by omega) (by omega) (by omega)).trans new_6) ((hff 7 (by omega) (by omega) (by omega) (by omega)).trans new_7) ?_ ?_ ⟨CS.length, (hg n 3 (by omega) (by omega) (by omega)).trans hf3, ?_, gX_m v7 (gX_m w7 (hX x1 x2))⟩ ?_ ?_ ?_ ?_
          · rw [hA5k _ (by omega) (by omega)]; exact hA3
          · rw [al_at, if_neg (by omega), v5 _ (by omega), al_at, if_pos (by omega)]
          · rw [hA5k _ (by omega) (by omega), w5 _ (by omega), a3_at, if_neg (by omega), if_pos rfl]
          · rw [al_at, if_neg (by omega)]; exact hA5
          · rw [al_at, if_pos (by omega)]
          · exact GdR_c w8 (fun s f g1 g2 g3 => by rw [hg s f g2 g3 (by omega), sw_n (by omega) (by omega) g3]) (fun i g1 g2 => hA5k i g2 (by omega)) v7 hgd
          · refine GdR_c v8 (fun s f g1 g2 g3 => sw_n (by omega) (by omega) g3) (fun i g1 g2 => ?_) ⟨Nat.le_refl _, fun _ _ => rfl⟩ hgd5
            rw [al_at, if_neg (by omega)]
    · have eel : r_el (tK T t) p D row n (true, k3 + 1, sw p N' n 4 (nI (n + 1)), CS', n') = (true, k3 + 1, sw p N' n 4 (nI (n + 1)), CS', n') := by
        unfold r_el; rw [if_neg (fun q => ce q.2)]
      rw [eel]
      rw [c_cl_o w3 (by omega) (Or.inl ⟨hA3, ce⟩)] at hcl
      refine ⟨fun _ => ⟨_, _, _, _, ⟨Rch_m (Rch_t (Rch_t h1 w1) hcl) (by show _ ≤ k3 + 1 - k; omega), w2, w4, fun i hi => ?_, hFr, ⟨by show CS.length ≤ CS'.length; omega, fun i hi => (w7.2 i (by omega)).trans (hC.2 i hi)⟩, by show n < n'; omega, by omega, by show k < k3 + 1; omega, w10⟩, ?_⟩, fun h => absurd h bTF⟩
      · rw [al_at, if_neg (by omega), w5 i (by omega), a3_at, if_neg (by omega), if_neg (by omega), if_neg (by omega)]
      · refine Gd1_b (o := 8) (e0 := a) (a1 := a3') hb4 w8 hn w9 (by omega) ⟨by omega, by omega⟩ (by rw [if_neg (by decide)]) ((hf 0 (by omega) (by omega) (by omega)).trans new_0) sw_y ((hf 5 (by omega) (by omega) (by omega)).trans new_5) ((hf 6 (by omega) (by omega) (by omega)).trans new_6) ((hf 7 (by omega) (by omega) (by omega)).trans new_7) ?_ ?_ (fun _ => ⟨CS.length, hf3, ?_, gX_m w7 (hX x1 x2)⟩) (fun e => by omega) (Or.inl ⟨rfl, rfl⟩) ?_
        · rw [al_at, if_neg (by omega)]; exact hA3
        · rw [al_at, if_pos (by omega)]
        · rw [al_at, if_neg (by omega), w5 _ (by omega), a3_at, if_neg (by omega), if_pos rfl]
        · refine GdR_c w8 (fun s f g1 g2 g3 => sw_n (by omega) (by omega) g3) (fun i g1 g2 => ?_) ⟨Nat.le_refl _, fun _ _ => rfl⟩ hgd
          rw [al_at, if_neg (by omega)]
