/-! BOTH READINGS ARE ALIKE: steps with blocks -/
theorem c_cl_w {K : Nat → Nat} {x : Nat} {ok : Bool} {k : Nat} {fr : Bool} {st : Nat} {Af : Nat → Int32} {a : Nat} {Sf : Nat → Int32} {sn : Nat} {Bf : Nat → Int32} {bn : Nat} (hx : Bf bn = nI x) (hx2 : x < 1000) (h : Af (3 * x) = 4 ∨ Af (3 * x) = 5) : c_cl K (ok, k, fr, st, Af, a, Sf, sn, Bf, bn + 1) = (true, k + 1, fr, st, al (a3 Af a 12 0 (nI x)) (a + 1) x, a + 1, Sf, sn, Bf, bn) := by
  show (if Af (vv (Bf bn) * 3) = 3 ∧ K (k + 1) = 403 then _ else if Af (vv (Bf bn) * 3) = 4 ∨ Af (vv (Bf bn) * 3) = 5 then (true, k + 1, fr, st, al (a3 Af a 12 0 (Bf bn)) (a + 1) (vv (Bf bn)), a + 1, Sf, sn, Bf, bn) else _) = _
  rw [hx, vv_nI (by omega), Nat.mul_comm x 3, if_neg (fun q => by rcases h with e | e <;> (rw [e] at q; exact absurd q.1 (by decide))), if_pos h]
theorem c_cl_o {K : Nat → Nat} {x : Nat} {ok : Bool} {k : Nat} {fr : Bool} {st : Nat} {Af : Nat → Int32} {a : Nat} {Sf : Nat → Int32} {sn : Nat} {Bf : Nat → Int32} {bn : Nat} (hx : Bf bn = nI x) (hx2 : x < 1000) (h : (Af (3 * x) = 3 ∧ ¬ K (k + 1) = 403) ∨ Af (3 * x) = 12) : c_cl K (ok, k, fr, st, Af, a, Sf, sn, Bf, bn + 1) = (true, k + 1, fr, st, al Af a x, a, Sf, sn, Bf, bn) := by
  show (if Af (vv (Bf bn) * 3) = 3 ∧ K (k + 1) = 403 then _ else if Af (vv (Bf bn) * 3) = 4 ∨ Af (vv (Bf bn) * 3) = 5 then _ else (true, k + 1, fr, st, al Af a (vv (Bf bn)), a, Sf, sn, Bf, bn)) = _
  rw [hx, vv_nI (by omega), Nat.mul_comm x 3, if_neg (fun q => by rcases h with e | e; exact e.2 q.2; (rw [e] at q; exact absurd q.1 (by decide))), if_neg (fun q => by rcases h with e | e; (rw [e.1] at q; exact absurd q (by decide)); (rw [e] at q; exact absurd q (by decide)))]
theorem c_cl_e {K : Nat → Nat} {x : Nat} {ok : Bool} {k : Nat} {fr : Bool} {st : Nat} {Af : Nat → Int32} {a : Nat} {Sf : Nat → Int32} {sn : Nat} {Bf : Nat → Int32} {bn : Nat} (hx : Bf bn = nI x) (hx2 : x < 1000) (h : Af (3 * x) = 3 ∧ K (k + 1) = 403) : c_cl K (ok, k, fr, st, Af, a, Sf, sn, Bf, bn + 1) = c_op K a (true, k + 1 + 1, fr, st, al (a3 Af a 12 0 0) (a + 1) x, a + 1, Sf, sn, Bf, bn) := by
  show (if Af (vv (Bf bn) * 3) = 3 ∧ K (k + 1) = 403 then c_op K a (true, k + 1 + 1, fr, st, al (a3 Af a 12 0 0) (a + 1) (vv (Bf bn)), a + 1, Sf, sn, Bf, bn) else _) = _
  rw [hx, vv_nI (by omega), Nat.mul_comm x 3, if_pos h]
/-- the turn at a block's end -/
theorem Rch_cl {T : Nat → Int32} {t k : Nat} {st : Nat} {Af : Nat → Int32} {a : Nat} {Sf : Nat → Int32} {sn : Nat} {Bf : Nat → Int32} {bn : Nat} (h : tK T t k = 125) : Rch T t 1 (true, k, false, st, Af, a, Sf, sn, Bf, bn + 1) (c_cl (tK T t) (true, k, false, st, Af, a, Sf, sn, Bf, bn + 1)) := by
  have := Rch_1 (T := T) (t := t) (n := 1) (s := (true, k, false, st, Af, a, Sf, sn, Bf, bn + 1)) (by omega) ⟨rfl, fun q => absurd q.2.1 (by show ¬ bn + 1 = 0; omega)⟩
  rw [c_it_cl ⟨h, by omega, rfl⟩] at this
  exact this
theorem cI_a {T : Nat → Int32} {t W k : Nat} {fr : Bool} {st : Nat} {Af : Nat → Int32} {a : Nat} {Sf : Nat → Int32} {sn : Nat} {Bf : Nat → Int32} {bn : Nat} (hB : tp_ok T t) (h : cI T t W (true, k, fr, st, Af, a, Sf, sn, Bf, bn)) : a ≤ 38 := by
  obtain ⟨g1, g2, g3, g4, g5⟩ := h rfl
  have hk := tq_good T t k
  have := hk.1
  have := hk.2.1
  have := hB.1
  omega
/-- while -/
theorem sim_w {I : mm_I} {T : Nat → Int32} {t W p bn k n a D : Nat} {fr : Bool} {ab : Int32} {N Af Sf Bf : Nat → Int32} {CS : List Nat} {row : Int32 → rS → Int32 × rS} (hB : tp_ok T t) (hWR : WR I T t W) (hD : bn + D = 4) (hW : 0 < D → OkW T t W p (bn + 1) row) (hk : k + 1 ≤ t) (hS : ∀ i, i < CS.length → Sf i = cs_ (CS.getD i 0)) (hn : n < 32) (hI : cI T t W (true, k, fr, n, Af, a, Sf, CS.length, Bf, bn)) (hIo : cI T t W (c_o T t 9 (true, k + 1, false, n + 1, Af, a, Sf, CS.length, Bf, bn))) (hr : r1_ T t p (r_ex (tK T t) (tV T t) p n (true, k + 1, r_new p N n 9 ab, CS, n + 1))) (h1 : Rch T t 1 (true, k, fr, n, Af, a, Sf, CS.length, Bf, bn) (c_o T t 9 (true, k + 1, false, n + 1, Af, a, Sf, CS.length, Bf, bn))) : Res1 T t p ab bn k N CS n fr Af a Sf Bf (r_op (tK T t) (tV T t) p D row n 9 (true, k + 1, r_new p N n 9 ab, CS, n + 1)) := by
  obtain ⟨b, k2, cs, epx, hk2, hpx⟩ := ex_px hB hk
  have ee : r_ex (tK T t) (tV T t) p n (true, k + 1, r_new p N n 9 ab, CS, n + 1) = (b, k2, sw p (r_new p N n 9 ab) n 3 (nI CS.length), CS ++ cs ++ [30000], n + 1) := by
    unfold r_ex; rw [epx]
  have e : r_op (tK T t) (tV T t) p D row n 9 (true, k + 1, r_new p N n 9 ab, CS, n + 1) = r_bd (tK T t) p D row 4 n (b, k2, sw p (r_new p N n 9 ab) n 3 (nI CS.length), CS ++ cs ++ [30000], n + 1) := by
    unfold r_op; rw [if_neg (by decide), if_neg (by decide), if_neg (by decide), if_pos rfl, ee]
  have e2 : c_o T t 9 (true, k + 1, false, n + 1, Af, a, Sf, CS.length, Bf, bn) = c_op (tK T t) a (b, k2, false, n + 1, a3 Af a 4 (nI CS.length) 0, a + 1, upd (apl Sf CS.length cs) (CS.length + cs.length) (-1), (CS ++ cs ++ [30000]).length, Bf, bn) := by
    rw [ex_len, c_o_9, c_ex_e epx]
  rw [ee] at hr
  rw [e]
  rw [e2] at h1 hIo
  have hbr := sim_br (s := n) hB hWR hD hW hIo hr (ex_S hS)
  have hC := ex_P (CS := CS) (cs := cs)
  have hX := ex_X (CS := CS) (cs := cs)
  have hbT : b = false → (r_br (tK T t) D row n (b, k2, sw p (r_new p N n 9 ab) n 3 (nI CS.length), CS ++ cs ++ [30000], n + 1)).2.1 = false := fun q => by
    unfold r_br; rw [if_neg (by rw [q]; exact fun w => bFT w.1)]
  unfold r_bd
  generalize r_br (tK T t) D row n (b, k2, sw p (r_new p N n 9 ab) n 3 (nI CS.length), CS ++ cs ++ [30000], n + 1) = r at hbr hbT
  obtain ⟨y, ok, k', N', CS', n'⟩ := r
  obtain ⟨b1, b2⟩ := hbr y ok k' N' CS' n' rfl
  dsimp only at hbT ⊢
  generalize CS ++ cs ++ [30000] = CS2 at *
  refine ⟨fun ht => ?_, fun ht => ?_⟩
  · obtain ⟨ey, hb4, k3, A3, a3', S3, B3, ek, hk3, hc, w1, w2, w3, w4, w5, w6, w7, w8, w9, w10, hgd⟩ := b1 ht
    dsimp only
    subst ey
    subst ek
    have hb : b = true := by cases b; exact absurd (hbT rfl) (by rw [show ok = true from ht]; decide); rfl
    obtain ⟨x1, x2, x3⟩ := hpx hb
    have hc9 : a3 Af a 4 (nI CS.length) 0 (3 * a) = 4 := by rw [a3_at, if_neg (by omega), if_neg (by omega), if_pos rfl]
    have hI3 := Rch_I hB hWR (Rch_t h1 w1) hI
    have ha3 := cI_a hB hI3
    have hcl := Rch_cl (T := T) (t := t) (st := n') (Af := A3) (a := a3') (Sf := S3) (sn := CS'.length) (Bf := B3) (bn := bn) hc
    rw [c_cl_w w3 (by omega) (Or.inl (by rw [w5 _ (by omega)]; exact hc9))] at hcl
    refine ⟨_, _, _, _, ⟨Rch_m (Rch_t (Rch_t h1 w1) hcl) (by omega), w2, w4, fun i hi => ?_, ?_, ⟨by omega, fun i hi => (w7.2 i (by omega)).trans (hC.2 i hi)⟩, by omega, by omega, by omega, w10⟩, ?_⟩
    · rw [al_at, if_neg (by omega), a3_at, if_neg (by omega), if_neg (by omega), if_neg (by omega), w5 i (by omega), a3_at, if_neg (by omega), if_neg (by omega), if_neg (by omega)]
    · exact Fr_t (m := n) (Fr_t (m := n + 1) (Fr_t (m := n) (Fr_new hn) (Fr_sw (n := n) (f := 3) (Nat.le_refl _) (by omega) hn) (Nat.le_refl _)) w6 (by omega)) (Fr_sw (n := n) (f := 4) (Nat.le_refl _) (by omega) hn) (Nat.le_refl _)
    · have hf : ∀ f, f < 8 → ¬ f = 4 → ¬ f = 3 → sf (sw p N' n 4 (nI (n + 1))) p n f = sf (r_new p N n 9 ab) p n f := fun f g1 g2 g3 => by
        rw [sw_n (by omega) (by omega) g1, Fr_s w6 (by omega) g1, sw_n (by omega) (by omega) g1]
      refine Gd1_b (o := 9) (e0 := a) (a1 := a3') hb4 w8 hn w9 (by omega) ⟨by omega, by omega⟩ (by rw [if_neg (by decide)]) ((hf 0 (by omega) (by omega) (by omega)).trans new_0) sw_y ((hf 5 (by omega) (by omega) (by omega)).trans new_5) ((hf 6 (by omega) (by omega) (by omega)).trans new_6) ((hf 7 (by omega) (by omega) (by omega)).trans new_7) ?_ ?_ (fun _ => ⟨CS.length, ?_, ?_, gX_m w7 (hX x1 x2)⟩) (fun e => by omega) (Or.inr ⟨by omega, rfl, ?_, ?_⟩) ?_
      · rw [al_at, if_neg (by omega), a3_at, if_neg (by omega), if_neg (by omega), if_neg (by omega), w5 _ (by omega)]; exact hc9
      · rw [al_at, if_pos (by omega)]
      · rw [sw_n (by omega) (by omega) (by omega), Fr_s w6 (by omega) (by omega), sw_y]
      · rw [al_at, if_neg (by omega), a3_at, if_neg (by omega), if_neg (by omega), if_neg (by omega), w5 _ (by omega), a3_at, if_neg (by omega), if_pos rfl]
      · rw [al_at, if_neg (by omega), a3_at, if_neg (by omega), if_neg (by omega), if_pos rfl]
      · rw [al_at, if_neg (by omega), a3_at, if_pos rfl]
      · refine GdR_c w8 (fun s f g1 g2 g3 => sw_n (by omega) (by omega) g3) (fun i g1 g2 => ?_) ⟨Nat.le_refl _, fun _ _ => rfl⟩ hgd
        rw [al_at, if_neg (by omega), a3_at, if_neg (by omega), if_neg (by omega), if_neg (by omega)]
  · obtain ⟨g1, c', g2, g3, g4⟩ := b2 ht
    exact ⟨by show k ≤ k'; omega, c', g2, g3, Rch_m (Rch_t h1 g4) (by show _ ≤ k' - k + 1; omega)⟩
/-- repeat -/
theorem sim_r {I : mm_I} {T : Nat → Int32} {t W p bn k n a D : Nat} {fr : Bool} {ab : Int32} {N Af Sf Bf : Nat → Int32} {CS : List Nat} {row : Int32 → rS → Int32 × rS} (hB : tp_ok T t) (hWR : WR I T t W) (hD : bn + D = 4) (hW : 0 < D → OkW T t W p (bn + 1) row) (hk : k + 1 ≤ t) (hS : ∀ i, i < CS.length → Sf i = cs_ (CS.getD i 0)) (hn : n < 32) (hI : cI T t W (true, k, fr, n, Af, a, Sf, CS.length, Bf, bn)) (hIo : cI T t W (c_o T t 10 (true, k + 1, false, n + 1, Af, a, Sf, CS.length, Bf, bn))) (hr : r1_ T t p (r_nu (tK T t) (tV T t) p 1 n (true, k + 1, r_new p N n 10 ab, CS, n + 1))) (h1 : Rch T t 1 (true, k, fr, n, Af, a, Sf, CS.length, Bf, bn) (c_o T t 10 (true, k + 1, false, n + 1, Af, a, Sf, CS.length, Bf, bn))) : Res1 T t p ab bn k N CS n fr Af a Sf Bf (r_op (tK T t) (tV T t) p D row n 10 (true, k + 1, r_new p N n 10 ab, CS, n + 1)) := by
  have hbk : ∃ b k2 v, rd_ (tK T t) 401 true (k + 1) = (b, k2) ∧ r_nu (tK T t) (tV T t) p 1 n (true, k + 1, r_new p N n 10 ab, CS, n + 1) = (b, k2, sw p (r_new p N n 10 ab) n 1 (nI v), CS, n + 1) ∧ k + 1 ≤ k2 ∧ (b = true → v ≤ 9999 ∧ cv T t (tq T t (k + 1)) = nI v) := by
    by_cases c : tK T t (k + 1) = 401
    · refine ⟨true, k + 1 + 1, tV T t (k + 1), by unfold rd_; rw [if_pos ⟨rfl, c⟩], by unfold r_nu rn_; rw [if_pos ⟨rfl, c⟩], by omega, fun _ => ⟨by have := tV_lt hB c; omega, cv_num hB c⟩⟩
    · exact ⟨false, k + 1, 0, by unfold rd_; rw [if_neg (fun q => c q.2)], by unfold r_nu rn_; rw [if_neg (fun q => c q.2)], by omega, fun q => absurd q bFT⟩
  obtain ⟨b, k2, v, erd, ee, hk2, hpx⟩ := hbk
  have e : r_op (tK T t) (tV T t) p D row n 10 (true, k + 1, r_new p N n 10 ab, CS, n + 1) = r_bd (tK T t) p D row 4 n (b, k2, sw p (r_new p N n 10 ab) n 1 (nI v), CS, n + 1) := by
    unfold r_op; rw [if_neg (by decide), if_pos rfl, ee]
  have e2 : c_o T t 10 (true, k + 1, false, n + 1, Af, a, Sf, CS.length, Bf, bn) = c_op (tK T t) (a + 1) (b, k2, false, n + 1, a3 (a3 Af a 13 (nI bn) (cv T t (tq T t (k + 1)))) (a + 1) 5 (nI bn) 0, a + 1 + 1, Sf, CS.length, Bf, bn) := by
    rw [c_o_10, erd]
  rw [ee] at hr
  rw [e]
  rw [e2] at h1 hIo
  have hbr := sim_br (s := n) hB hWR hD hW hIo hr hS
  have hbT : b = false → (r_br (tK T t) D row n (b, k2, sw p (r_new p N n 10 ab) n 1 (nI v), CS, n + 1)).2.1 = false := fun q => by
    unfold r_br; rw [if_neg (by rw [q]; exact fun w => bFT w.1)]
  unfold r_bd
  generalize r_br (tK T t) D row n (b, k2, sw p (r_new p N n 10 ab) n 1 (nI v), CS, n + 1) = r at hbr hbT
  obtain ⟨y, ok, k', N', CS', n'⟩ := r
  obtain ⟨b1, b2⟩ := hbr y ok k' N' CS' n' rfl
  dsimp only at hbT ⊢
  refine ⟨fun ht => ?_, fun ht => ?_⟩
  · obtain ⟨ey, hb4, k3, A3, a3', S3, B3, ek, hk3, hc, w1, w2, w3, w4, w5, w6, w7, w8, w9, w10, hgd⟩ := b1 ht
    dsimp only
    subst ey
    subst ek
    have hb : b = true := by cases b; exact absurd (hbT rfl) (by rw [show ok = true from ht]; decide); rfl
    obtain ⟨x1, x2⟩ := hpx hb
    have hc9 : a3 (a3 Af a 13 (nI bn) (cv T t (tq T t (k + 1)))) (a + 1) 5 (nI bn) 0 (3 * (a + 1)) = 5 := by rw [a3_at, if_neg (by omega), if_neg (by omega), if_pos rfl]
    have hI3 := Rch_I hB hWR (Rch_t h1 w1) hI
    have ha3 := cI_a hB hI3
    have hcl := Rch_cl (T := T) (t := t) (st := n') (Af := A3) (a := a3') (Sf := S3) (sn := CS'.length) (Bf := B3) (bn := bn) hc
    rw [c_cl_w w3 (by omega) (Or.inr (by rw [w5 _ (by omega)]; exact hc9))] at hcl
    refine ⟨_, _, _, _, ⟨Rch_m (Rch_t (Rch_t h1 w1) hcl) (by omega), w2, w4, fun i hi => ?_, ?_, w7, by omega, by omega, by omega, w10⟩, ?_⟩
    · rw [al_at, if_neg (by omega), a3_at, if_neg (by omega), if_neg (by omega), if_neg (by omega), w5 i (by omega), a3_at, if_neg (by omega), if_neg (by omega), if_neg (by omega), a3_at, if_neg (by omega), if_neg (by omega), if_neg (by omega)]
    · exact Fr_t (m := n) (Fr_t (m := n + 1) (Fr_t (m := n) (Fr_new hn) (Fr_sw (n := n) (f := 1) (Nat.le_refl _) (by omega) hn) (Nat.le_refl _)) w6 (by omega)) (Fr_sw (n := n) (f := 4) (Nat.le_refl _) (by omega) hn) (Nat.le_refl _)
    · have hf : ∀ f, f < 8 → ¬ f = 4 → ¬ f = 1 → sf (sw p N' n 4 (nI (n + 1))) p n f = sf (r_new p N n 10 ab) p n f := fun f g1 g2 g3 => by
        rw [sw_n (by omega) (by omega) g1, Fr_s w6 (by omega) g1, sw_n (by omega) (by omega) g1]
      refine Gd1_b (o := 10) (e0 := a + 1) (a1 := a3') hb4 w8 hn w9 (by omega) ⟨by omega, by omega⟩ (by rw [if_pos rfl]) ((hf 0 (by omega) (by omega) (by omega)).trans new_0) sw_y ((hf 5 (by omega) (by omega) (by omega)).trans new_5) ((hf 6 (by omega) (by omega) (by omega)).trans new_6) ((hf 7 (by omega) (by omega) (by omega)).trans new_7) ?_ ?_ (fun e => by omega) (fun _ => ⟨v, x1, ?_, ?_, ?_, ?_, ?_⟩) (Or.inr ⟨by omega, rfl, ?_, ?_⟩) ?_
      · rw [al_at, if_neg (by omega), a3_at, if_neg (by omega), if_neg (by omega), if_neg (by omega), w5 _ (by omega)]; exact hc9
      · rw [al_at, if_pos (by omega)]
      · rw [sw_n (by omega) (by omega) (by omega), Fr_s w6 (by omega) (by omega), sw_y]
      · rw [al_at, if_neg (by omega), a3_at, if_neg (by omega), if_neg (by omega), if_neg (by omega), w5 _ (by omega), a3_at, if_neg (by omega), if_pos rfl]
      · rw [al_at, if_neg (by omega), a3_at, if_neg (by omega), if_neg (by omega), if_neg (by omega), w5 _ (by omega), a3_at, if_neg (by omega), if_neg (by omega), if_neg (by omega), a3_at, if_neg (by omega), if_neg (by omega), if_pos rfl]
      · rw [al_at, if_neg (by omega), a3_at, if_neg (by omega), if_neg (by omega), if_neg (by omega), w5 _ (by omega), a3_at, if_neg (by omega), if_neg (by omega), if_neg (by omega), a3_at, if_neg (by omega), if_pos rfl]
      · rw [al_at, if_neg (by omega), a3_at, if_neg (by omega), if_neg (by omega), if_neg (by omega), w5 _ (by omega), a3_at, if_neg (by omega), if_neg (by omega), if_neg (by omega), a3_at, if_pos rfl]; exact x2
      · rw [al_at, if_neg (by omega), a3_at, if_neg (by omega), if_neg (by omega), if_pos rfl]
      · rw [al_at, if_neg (by omega), a3_at, if_pos rfl]
      · refine GdR_c w8 (fun s f g1 g2 g3 => sw_n (by omega) (by omega) g3) (fun i g1 g2 => ?_) ⟨Nat.le_refl _, fun _ _ => rfl⟩ hgd
        rw [al_at, if_neg (by omega), a3_at, if_neg (by omega), if_neg (by omega), if_neg (by omega)]
  · obtain ⟨g1, c', g2, g3, g4⟩ := b2 ht
    exact ⟨by show k ≤ k'; omega, c', g2, g3, Rch_m (Rch_t h1 g4) (by show _ ≤ k' - k + 1; omega)⟩
