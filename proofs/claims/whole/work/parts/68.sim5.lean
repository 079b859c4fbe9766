/-! BOTH READINGS ARE ALIKE: a step with no block -/
theorem getD_app {a b : List Nat} {i : Nat} : (a ++ b).getD i 0 = if i < a.length then a.getD i 0 else b.getD (i - a.length) 0 := by
  rw [List.getD_eq_getElem?_getD, List.getElem?_append]
  split
  · rw [List.getD_eq_getElem?_getD]
  · rw [List.getD_eq_getElem?_getD]
theorem apl_at : ∀ (cs : List Nat) (f : Nat → Int32) (n i : Nat), apl f n cs i = if n ≤ i ∧ i < n + cs.length then cs_ (cs.getD (i - n) 0) else f i := by
  intro cs
  induction cs with
  | nil => intro f n i; rw [if_neg (by simp only [List.length_nil]; omega)]; rfl
  | cons c cs ih =>
    intro f n i
    show apl (upd f n (cs_ c)) (n + 1) cs i = _
    rw [ih]
    simp only [List.length_cons]
    by_cases h : n + 1 ≤ i ∧ i < n + 1 + cs.length
    · rw [if_pos h, if_pos (by omega), show i - n = (i - (n + 1)) + 1 by omega]; rfl
    · rw [if_neg h]
      by_cases e : i = n
      · subst e; rw [if_pos (by omega), Nat.sub_self]; unfold upd; rw [if_pos rfl]; rfl
      · rw [if_neg (by omega)]; unfold upd; rw [if_neg e]
theorem ex_len {CS cs : List Nat} : (CS ++ cs ++ [30000]).length = CS.length + cs.length + 1 := by
  simp only [List.length_append, List.length_cons, List.length_nil]
theorem ex_S {CS cs : List Nat} {Sf : Nat → Int32} (hS : ∀ i, i < CS.length → Sf i = cs_ (CS.getD i 0)) : ∀ i, i < (CS ++ cs ++ [30000]).length → upd (apl Sf CS.length cs) (CS.length + cs.length) (-1) i = cs_ ((CS ++ cs ++ [30000]).getD i 0) := by
  intro i hi
  rw [ex_len] at hi
  rw [getD_app, List.length_append]
  by_cases h : i < CS.length + cs.length
  · rw [if_pos h, getD_app]
    unfold upd
    rw [if_neg (by omega), apl_at]
    by_cases h2 : i < CS.length
    · rw [if_pos h2, if_neg (by omega)]; exact hS i h2
    · rw [if_neg h2, if_pos (by omega)]
  · rw [if_neg h, show i - (CS.length + cs.length) = 0 by omega]
    unfold upd
    rw [if_pos (by omega)]; decide
theorem ex_P {CS cs : List Nat} : CS.length ≤ (CS ++ cs ++ [30000]).length ∧ ∀ i, i < CS.length → (CS ++ cs ++ [30000]).getD i 0 = CS.getD i 0 := by
  refine ⟨by rw [ex_len]; omega, fun i hi => ?_⟩
  rw [getD_app, if_pos (by rw [List.length_append]; omega), getD_app, if_pos hi]
theorem ex_X {CS cs : List Nat} (h : Pw cs) (h96 : cs.length ≤ 96) : gX (CS ++ cs ++ [30000]) CS.length := by
  refine ⟨cs, by rw [ex_len]; omega, fun i hi => ?_, ?_, ?_, h.2.1⟩
  · rw [getD_app, if_pos (by rw [List.length_append]; omega), getD_app, if_neg (by omega), show CS.length + i - CS.length = i by omega]
  · rw [getD_app, if_neg (by rw [List.length_append]; omega), List.length_append, Nat.sub_self]; rfl
  · have := h.1 [] 0 (by omega) rfl
    rw [List.append_nil] at this
    exact this
theorem a3_at {Af : Nat → Int32} {a i : Nat} {c f s : Int32} : a3 Af a c f s i = if i = 3 * a + 2 then s else if i = 3 * a + 1 then f else if i = 3 * a then c else Af i := by
  unfold a3 upd; rfl
theorem al_at {Af : Nat → Int32} {a x i : Nat} : al Af a x i = if i = x * 3 + 2 then nI a else Af i := by
  unfold al upd; rfl
theorem c_o_7 {T : Nat → Int32} {t k : Nat} {ok fr : Bool} {st : Nat} {Af : Nat → Int32} {a : Nat} {Sf : Nat → Int32} {sn : Nat} {Bf : Nat → Int32} {bn : Nat} : c_o T t 7 (ok, k, fr, st, Af, a, Sf, sn, Bf, bn) = c_ex T t (a3 Af a 2 (nI sn) 0) 1 (ok, k, fr, st, Af, a, Sf, sn, Bf, bn) := rfl
theorem c_o_8 {T : Nat → Int32} {t k : Nat} {ok fr : Bool} {st : Nat} {Af : Nat → Int32} {a : Nat} {Sf : Nat → Int32} {sn : Nat} {Bf : Nat → Int32} {bn : Nat} : c_o T t 8 (ok, k, fr, st, Af, a, Sf, sn, Bf, bn) = c_op (tK T t) a (c_ex T t (a3 Af a 3 (nI sn) 0) 1 (ok, k, fr, st, Af, a, Sf, sn, Bf, bn)) := rfl
theorem c_o_9 {T : Nat → Int32} {t k : Nat} {ok fr : Bool} {st : Nat} {Af : Nat → Int32} {a : Nat} {Sf : Nat → Int32} {sn : Nat} {Bf : Nat → Int32} {bn : Nat} : c_o T t 9 (ok, k, fr, st, Af, a, Sf, sn, Bf, bn) = c_op (tK T t) a (c_ex T t (a3 Af a 4 (nI sn) 0) 1 (ok, k, fr, st, Af, a, Sf, sn, Bf, bn)) := rfl
theorem c_o_10 {T : Nat → Int32} {t k : Nat} {ok fr : Bool} {st : Nat} {Af : Nat → Int32} {a : Nat} {Sf : Nat → Int32} {sn : Nat} {Bf : Nat → Int32} {bn : Nat} : c_o T t 10 (ok, k, fr, st, Af, a, Sf, sn, Bf, bn) = c_op (tK T t) (a + 1) ((rd_ (tK T t) 401 ok k).1, (rd_ (tK T t) 401 ok k).2, fr, st, a3 (a3 Af a 13 (nI bn) (cv T t (tq T t k))) (a + 1) 5 (nI bn) 0, a + 1 + 1, Sf, sn, Bf, bn) := rfl
theorem c_ex_e {T : Nat → Int32} {t k : Nat} {ok fr : Bool} {st : Nat} {Af : Nat → Int32} {a : Nat} {Sf : Nat → Int32} {sn : Nat} {Bf : Nat → Int32} {bn : Nat} {A' : Nat → Int32} {x k2 : Nat} {b : Bool} {cs : List Nat} (h : px (tK T t) (tV T t) 70 0 0 0 k = (b, k2, cs)) : c_ex T t A' x (ok, k, fr, st, Af, a, Sf, sn, Bf, bn) = (b, k2, fr, st, A', a + x, upd (apl Sf sn cs) (sn + cs.length) (-1), sn + cs.length + 1, Bf, bn) := by
  show ((px (tK T t) (tV T t) 70 0 0 0 k).1, (px (tK T t) (tV T t) 70 0 0 0 k).2.1, fr, st, A', a + x, upd (apl Sf sn (px (tK T t) (tV T t) 70 0 0 0 k).2.2) (sn + (px (tK T t) (tV T t) 70 0 0 0 k).2.2.length) (-1), sn + (px (tK T t) (tV T t) 70 0 0 0 k).2.2.length + 1, Bf, bn) = _
  rw [h]
def Res1 (T : Nat → Int32) (t p : Nat) (ab : Int32) (bn k : Nat) (N : Nat → Int32) (CS : List Nat) (n : Nat) (fr : Bool) (Af : Nat → Int32) (a : Nat) (Sf Bf : Nat → Int32) (r : rS) : Prop :=
  (r.1 = true → ∃ Af' a' Sf' Bf', Ok_ T t p k N CS n fr Af a Sf Bf bn r.2.1 r.2.2.1 r.2.2.2.1 r.2.2.2.2 Af' a' Sf' Bf' ∧ Gd1 p ab n r.2.2.2.2 a a' bn r.2.2.1 Af' r.2.2.2.1) ∧ (r.1 = false → Bd_ T t k (true, k, fr, n, Af, a, Sf, CS.length, Bf, bn) r.2.1)
/-- its first turn -/
theorem sim_1 {T : Nat → Int32} {t k : Nat} {fr : Bool} {st : Nat} {Af : Nat → Int32} {a : Nat} {Sf : Nat → Int32} {sn : Nat} {Bf : Nat → Int32} {bn : Nat} (h : isW (tK T t k)) : Rch T t 1 (true, k, fr, st, Af, a, Sf, sn, Bf, bn) (c_o T t (tK T t k - 300) (true, k + 1, false, st + 1, Af, a, Sf, sn, Bf, bn)) := by
  have := Rch_1 (T := T) (t := t) (n := 1) (s := (true, k, fr, st, Af, a, Sf, sn, Bf, bn)) (by omega) ⟨rfl, fun q => by have : tK T t k = 400 := q.1; omega⟩
  rw [c_it_on (by omega), c_on_y h] at this
  exact this
theorem sim_s {T : Nat → Int32} {t p bn k n a o : Nat} {fr : Bool} {ab : Int32} {N Af Sf Bf : Nat → Int32} {CS : List Nat} {D : Nat} {row : Int32 → rS → Int32 × rS} (hS : ∀ i, i < CS.length → Sf i = cs_ (CS.getD i 0)) (hn : n < 32) (hbn : bn ≤ 4) (ho : 1 ≤ o ∧ o ≤ 6) (h1 : Rch T t 1 (true, k, fr, n, Af, a, Sf, CS.length, Bf, bn) (c_o T t o (true, k + 1, false, n + 1, Af, a, Sf, CS.length, Bf, bn))) : Res1 T t p ab bn k N CS n fr Af a Sf Bf (r_op (tK T t) (tV T t) p D row n o (true, k + 1, r_new p N n o ab, CS, n + 1)) := by
  have e : r_op (tK T t) (tV T t) p D row n o (true, k + 1, r_new p N n o ab, CS, n + 1) = (true, k + 1, r_new p N n o ab, CS, n + 1) := by
    unfold r_op; rw [if_neg (by omega), if_neg (by omega), if_neg (by omega), if_neg (by omega), if_neg (by omega)]
  have e2 : c_o T t o (true, k + 1, false, n + 1, Af, a, Sf, CS.length, Bf, bn) = (true, k + 1, false, n + 1, a3 Af a (cc_ o) 0 0, a + 1, Sf, CS.length, Bf, bn) := by
    show (if o = 0 then _ else if o = 10 then _ else if o = 7 then _ else if o = 8 then _ else if o = 9 then _ else _) = _
    rw [if_neg (by omega), if_neg (by omega), if_neg (by omega), if_neg (by omega), if_neg (by omega)]
  rw [e]
  rw [e2] at h1
  refine ⟨fun _ => ⟨_, _, _, _, ⟨Rch_m h1 (by show 1 ≤ k + 1 - k; omega), hS, fun _ _ => rfl, fun i hi => ?_, Fr_new hn, ⟨Nat.le_refl _, fun _ _ => rfl⟩, by show n < n + 1; omega, by omega, by show k < k + 1; omega, by show n + 1 ≤ 32; omega⟩, ?_⟩, fun h => absurd h bTF⟩
  · rw [a3_at, if_neg (by omega), if_neg (by omega), if_neg (by omega)]
  · refine Gd1_s (o := o) hbn (by omega) new_0 new_6 new_7 ?_ (fun e => by omega) (fun e => by omega)
    rw [a3_at, if_neg (by omega), if_neg (by omega), if_pos rfl]
theorem sim_g {T : Nat → Int32} {t p bn k n a : Nat} {fr : Bool} {ab : Int32} {N Af Sf Bf : Nat → Int32} {CS : List Nat} {D : Nat} {row : Int32 → rS → Int32 × rS} (hB : tp_ok T t) (hS : ∀ i, i < CS.length → Sf i = cs_ (CS.getD i 0)) (hn : n < 32) (hbn : bn ≤ 4) (h1 : Rch T t 1 (true, k, fr, n, Af, a, Sf, CS.length, Bf, bn) (c_o T t 0 (true, k + 1, false, n + 1, Af, a, Sf, CS.length, Bf, bn))) : Res1 T t p ab bn k N CS n fr Af a Sf Bf (r_op (tK T t) (tV T t) p D row n 0 (true, k + 1, r_new p N n 0 ab, CS, n + 1)) := by
  have e : r_op (tK T t) (tV T t) p D row n 0 (true, k + 1, r_new p N n 0 ab, CS, n + 1) = r_nu (tK T t) (tV T t) p 2 n (r_nu (tK T t) (tV T t) p 1 n (true, k + 1, r_new p N n 0 ab, CS, n + 1)) := by
    unfold r_op; rw [if_pos rfl]
  have e2 : c_o T t 0 (true, k + 1, false, n + 1, Af, a, Sf, CS.length, Bf, bn) = ((rd_ (tK T t) 401 (rd_ (tK T t) 401 true (k + 1)).1 (rd_ (tK T t) 401 true (k + 1)).2).1, (rd_ (tK T t) 401 (rd_ (tK T t) 401 true (k + 1)).1 (rd_ (tK T t) 401 true (k + 1)).2).2, false, n + 1, a3 Af a 1 (cv T t (tq T t (k + 1))) (cv T t (tq T t (rd_ (tK T t) 401 true (k + 1)).2)), a + 1, Sf, CS.length, Bf, bn) := by
    rfl
  rw [e]
  rw [e2] at h1
  clear e e2
  by_cases c : tK T t (k + 1) = 401
  · have er : rd_ (tK T t) 401 true (k + 1) = (true, k + 1 + 1) := by unfold rd_; rw [if_pos ⟨rfl, c⟩]
    have en : r_nu (tK T t) (tV T t) p 1 n (true, k + 1, r_new p N n 0 ab, CS, n + 1) = (true, k + 1 + 1, sw p (r_new p N n 0 ab) n 1 (nI (tV T t (k + 1))), CS, n + 1) := by
      unfold r_nu rn_; rw [if_pos ⟨rfl, c⟩]
    rw [er] at h1
    rw [en]
    dsimp only at h1
    by_cases c2 : tK T t (k + 1 + 1) = 401
    · have er2 : rd_ (tK T t) 401 true (k + 1 + 1) = (true, k + 1 + 1 + 1) := by unfold rd_; rw [if_pos ⟨rfl, c2⟩]
      have en2 : r_nu (tK T t) (tV T t) p 2 n (true, k + 1 + 1, sw p (r_new p N n 0 ab) n 1 (nI (tV T t (k + 1))), CS, n + 1) = (true, k + 1 + 1 + 1, sw p (sw p (r_new p N n 0 ab) n 1 (nI (tV T t (k + 1)))) n 2 (nI (tV T t (k + 1 + 1))), CS, n + 1) := by
        unfold r_nu rn_; rw [if_pos ⟨rfl, c2⟩]
      rw [er2] at h1
      rw [en2]
      have v1 := tV_lt hB c
      have v2 := tV_lt hB c2
      refine ⟨fun _ => ⟨_, _, _, _, ⟨Rch_m h1 (by show 1 ≤ k + 1 + 1 + 1 - k; omega), hS, fun _ _ => rfl, fun i hi => ?_, Fr_t (Fr_new hn) (Fr_t (Fr_sw (n := n) (Nat.le_refl _) (by omega) hn) (Fr_sw (n := n) (Nat.le_refl _) (by omega) hn) (Nat.le_refl _)) (Nat.le_refl _), ⟨Nat.le_refl _, fun _ _ => rfl⟩, by show n < n + 1; omega, by omega, by show k < k + 1 + 1 + 1; omega, by show n + 1 ≤ 32; omega⟩, ?_⟩, fun h => absurd h bTF⟩
      · rw [a3_at, if_neg (by omega), if_neg (by omega), if_neg (by omega)]
      · refine Gd1_s (o := 0) hbn (by omega) ?_ ?_ ?_ ?_ (fun _ => ⟨tV T t (k + 1), tV T t (k + 1 + 1), by omega, by omega, ?_, ?_, ?_, ?_⟩) (fun e => by omega)
        · rw [sw_n (by omega) (by omega) (by omega), sw_n (by omega) (by omega) (by omega)]; exact new_0
        · rw [sw_n (by omega) (by omega) (by omega), sw_n (by omega) (by omega) (by omega)]; exact new_6
        · rw [sw_n (by omega) (by omega) (by omega), sw_n (by omega) (by omega) (by omega)]; exact new_7
        · rw [a3_at, if_neg (by omega), if_neg (by omega), if_pos rfl]; rfl
        · rw [sw_n (by omega) (by omega) (by omega), sw_y]
        · rw [sw_y]
        · rw [a3_at, if_neg (by omega), if_pos rfl]; exact cv_num hB c
        · rw [a3_at, if_pos rfl]; exact cv_num hB c2
    · have er2 : rd_ (tK T t) 401 true (k + 1 + 1) = (false, k + 1 + 1) := by unfold rd_; rw [if_neg (fun q => c2 q.2)]
      have en2 : r_nu (tK T t) (tV T t) p 2 n (true, k + 1 + 1, sw p (r_new p N n 0 ab) n 1 (nI (tV T t (k + 1))), CS, n + 1) = (false, k + 1 + 1, sw p (sw p (r_new p N n 0 ab) n 1 (nI (tV T t (k + 1)))) n 2 (nI 0), CS, n + 1) := by
        unfold r_nu rn_; rw [if_neg (fun q => c2 q.2)]
      rw [er2] at h1
      rw [en2]
      exact ⟨fun h => absurd h bFT, fun _ => ⟨by show k ≤ k + 1 + 1; omega, _, rfl, rfl, Rch_m h1 (by omega)⟩⟩
  · have er : rd_ (tK T t) 401 true (k + 1) = (false, k + 1) := by unfold rd_; rw [if_neg (fun q => c q.2)]
    have er2 : rd_ (tK T t) 401 false (k + 1) = (false, k + 1) := by unfold rd_; rw [if_neg (fun q => bFT q.1)]
    have en : r_nu (tK T t) (tV T t) p 1 n (true, k + 1, r_new p N n 0 ab, CS, n + 1) = (false, k + 1, sw p (r_new p N n 0 ab) n 1 (nI 0), CS, n + 1) := by
      unfold r_nu rn_; rw [if_neg (fun q => c q.2)]
    have en2 : r_nu (tK T t) (tV T t) p 2 n (false, k + 1, sw p (r_new p N n 0 ab) n 1 (nI 0), CS, n + 1) = (false, k + 1, sw p (sw p (r_new p N n 0 ab) n 1 (nI 0)) n 2 (nI 0), CS, n + 1) := by
      unfold r_nu rn_; rw [if_neg (fun q => bFT q.1)]
    rw [er] at h1
    dsimp only at h1
    rw [er2] at h1
    rw [en, en2]
    exact ⟨fun h => absurd h bFT, fun _ => ⟨by show k ≤ k + 1; omega, _, rfl, rfl, Rch_m h1 (by omega)⟩⟩
/-- an expression: both sides -/
theorem ex_px {T : Nat → Int32} {t k : Nat} (hB : tp_ok T t) (hk : k ≤ t) : ∃ b k2 cs, px (tK T t) (tV T t) 70 0 0 0 k = (b, k2, cs) ∧ k ≤ k2 ∧ (b = true → Pw cs ∧ cs.length ≤ 96 ∧ k < k2) := by
  have hg := px_good (K := tK T t) (V := tV T t) 70 0 0 0 k
  have hle := px_le_t hB hg hk
  have hw := px_w hB 70 0 0 0 k
  generalize px (tK T t) (tV T t) 70 0 0 0 k = r at hg hle hw
  obtain ⟨b, k2, cs⟩ := r
  obtain ⟨q1, q2, q3, q4⟩ := hg
  dsimp only at q1 q3 q4 hle hw
  have := hB.1
  exact ⟨b, k2, cs, rfl, q1, fun h => ⟨hw h, by omega, q4 h⟩⟩
theorem sim_m {T : Nat → Int32} {t p bn k n a : Nat} {fr : Bool} {ab : Int32} {N Af Sf Bf : Nat → Int32} {CS : List Nat} {D : Nat} {row : Int32 → rS → Int32 × rS} (hB : tp_ok T t) (hk : k + 1 ≤ t) (hS : ∀ i, i < CS.length → Sf i = cs_ (CS.getD i 0)) (hn : n < 32) (hbn : bn ≤ 4) (h1 : Rch T t 1 (true, k, fr, n, Af, a, Sf, CS.length, Bf, bn) (c_o T t 7 (true, k + 1, false, n + 1, Af, a, Sf, CS.length, Bf, bn))) : Res1 T t p ab bn k N CS n fr Af a Sf Bf (r_op (tK T t) (tV T t) p D row n 7 (true, k + 1, r_new p N n 7 ab, CS, n + 1)) := by
  obtain ⟨b, k2, cs, epx, hk2, hpx⟩ := ex_px hB hk
  have e : r_op (tK T t) (tV T t) p D row n 7 (true, k + 1, r_new p N n 7 ab, CS, n + 1) = (b, k2, sw p (r_new p N n 7 ab) n 3 (nI CS.length), CS ++ cs ++ [30000], n + 1) := by
    unfold r_op; rw [if_neg (by decide), if_neg (by decide), if_pos rfl]; unfold r_ex; rw [epx]
  have e2 : c_o T t 7 (true, k + 1, false, n + 1, Af, a, Sf, CS.length, Bf, bn) = (b, k2, false, n + 1, a3 Af a 2 (nI CS.length) 0, a + 1, upd (apl Sf CS.length cs) (CS.length + cs.length) (-1), (CS ++ cs ++ [30000]).length, Bf, bn) := by
    rw [ex_len]
    rw [c_o_7, c_ex_e epx]
  rw [e]
  rw [e2] at h1
  cases b with
  | false => exact ⟨fun h => absurd h bFT, fun _ => ⟨by show k ≤ k2; omega, _, rfl, rfl, Rch_m h1 (by omega)⟩⟩
  | true =>
    obtain ⟨g1, g2, g3⟩ := hpx rfl
    refine ⟨fun _ => ⟨_, _, _, _, ⟨Rch_m h1 (by show 1 ≤ k2 - k; omega), ex_S hS, fun _ _ => rfl, fun i hi => ?_, Fr_t (Fr_new hn) (Fr_sw (n := n) (Nat.le_refl _) (by omega) hn) (Nat.le_refl _), ex_P, by show n < n + 1; omega, by omega, by show k < k2; omega, by show n + 1 ≤ 32; omega⟩, ?_⟩, fun h => absurd h bTF⟩
    · rw [a3_at, if_neg (by omega), if_neg (by omega), if_neg (by omega)]
    · refine Gd1_s (o := 7) hbn (by omega) ?_ ?_ ?_ ?_ (fun e => by omega) (fun _ => ⟨CS.length, ?_, ?_, ex_X g1 g2⟩)
      · rw [sw_n (by omega) (by omega) (by omega)]; exact new_0
      · rw [sw_n (by omega) (by omega) (by omega)]; exact new_6
      · rw [sw_n (by omega) (by omega) (by omega)]; exact new_7
      · rw [a3_at, if_neg (by omega), if_neg (by omega), if_pos rfl]; rfl
      · rw [sw_y]
      · rw [a3_at, if_neg (by omega), if_pos rfl]
