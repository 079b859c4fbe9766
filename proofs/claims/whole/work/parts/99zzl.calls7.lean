/-! Calls of the class, as the reference would do them: run, tape, what waits, sheets -/
theorem cl_runs {g : mm_G} {d : Nat} {I : mm_I} {w h n l k o r T : Nat} (H : RC I) (hS : siR I (I 201) w h n l k o r T) {x : Int32} (hd : 160 ≤ d) : mm_Di g zX11_run d [.ref 0, .int x] sh_S I (St I (op_run w h n l I x)) := by
  refine mm_Di_w (cb_run hS (by omega)) (fun r_ K hK => ?_)
  obtain ⟨e, ⟨o', r', T', s⟩, f⟩ := hK
  exact ⟨fun a ha => f a (by omega), e, RC_now H (fun a ha => f a (by omega)) ⟨by rw [run_a (by omega)], by rw [run_a (by omega)], by rw [run_a (by omega)], fun a h1 h2 => run_a (by omega)⟩ s⟩
/-- the tape alone -/
theorem RC_tape {I K J' : mm_I} {t : Nat} (H : RC I) (hK : ∀ x, ¬ (x = 174 ∨ x = 175) → K x = I x) (hJ : ∀ a, 200 ≤ a → ¬ (a = 200 ∨ a = 203) → J' a = I a) (h2 : ∀ i, ¬ i = 4 → J' 200 i = I 200 i) (ht : tpR K J' t) : RC2 K J' := by
  obtain ⟨⟨w, h, n, l, k, o, r, T, s⟩, b, -, ⟨t2, d⟩, e, f⟩ := H
  refine ⟨⟨w, h, n, l, k, o, r, T, ?_⟩, imR_c b (by rw [hK 0 (by omega)]) (fun a h1 h2 => hK a (by omega)) (h2 2 (by decide)) (hJ 202 (by decide) (by decide)), ⟨t, ht⟩, ⟨t2, wtR_c d (by rw [hK 191 (by omega)]) (hK 192 (by omega)) (h2 5 (by decide)) (hJ 204 (by decide) (by decide))⟩, shR_c e (fun a h1 h2 => hK a (by omega)) (hJ 205 (by decide) (by decide)) (hJ 206 (by decide) (by decide)), pl_c f (hJ 205 (by decide) (by decide))⟩
  rw [hJ 201 (by decide) (by decide)]
  exact siR_c s (fun a h1 h2 => hK a (by omega))
theorem fds_a {J : mm_I} {t a : Nat} {x y z : Int32} (ha : ¬ (a = 200 ∨ a = 203)) : ∀ k, op_fds J t x y z k a = J a := by
  intro k
  induction k with
  | zero => rfl
  | succ k ih => unfold op_fds; rw [mm_up_a (by omega), mm_up_a (by omega)]; exact ih
theorem fds_i {J : mm_I} {t i : Nat} {x y z : Int32} (hi : ¬ i = 4) : ∀ k, op_fds J t x y z k 200 i = J 200 i := by
  intro k
  induction k with
  | zero => rfl
  | succ k ih => unfold op_fds; rw [mm_up_ni hi, mm_up_ne (by decide)]; exact ih
theorem cl_feed {g : mm_G} {d : Nat} {I : mm_I} (H : RC I) {t : Nat} (ht : tpR I I t) {a b c : Int32} (hd : 160 ≤ d) : mm_Di g zX11_feed d [.ref 0, .int a, .int b, .int c] sh_S I (St I (op_feed t I a b c)) := by
  refine mm_Di_w (cb_feed ht (by omega)) (fun r_ K hK => ?_)
  obtain ⟨e, f, q⟩ := hK
  refine ⟨fun x hx => q x (by omega), e, RC_tape H q (fun x h1 h2 => ?_) (fun i hi => ?_) f⟩
  · unfold op_feed; split; rfl; exact fds_a h2 12
  · unfold op_feed; split; rfl; exact fds_i hi 12
theorem cl_trim {g : mm_G} {d : Nat} {I : mm_I} {w h n l k o r T : Nat} (H : RC I) (hS : siR I (I 201) w h n l k o r T) {t : Nat} (ht : tpR I I t) {x : Int32} (hd : 160 ≤ d) : mm_Di g zX11_trim d [.ref 0, .int x] sh_S I (St I (op_trim t I x)) := by
  have hz := iV_z hS.1
  obtain ⟨t1, t2, t3, t4, t5⟩ := id ht
  have q := cb_trim (g := g) (d := d) (A := I) hz hS.1.1.1 (J := I) t1 t4 (x := x) (by omega)
  rw [← cN_dh hz.2.1 (show 85 < 174 by decide), ← sS_self hS.2.1] at q
  by_cases c : sp_wi x 0 (nI t)
  · rw [if_pos c] at q
    have e : op_trim t I x = (x, mm_up I 200 4 x) := by unfold op_trim; rw [if_neg (fun z => z c)]
    rw [e] at q ⊢
    obtain ⟨y, y1, rfl⟩ := sp_wi_nat t (by omega) c
    refine mm_Ci_Di q ⟨fun a ha => mm_up_a (by omega), rfl, RC_tape (t := y) H (fun a ha => mm_up_a (by omega)) (fun a h1 h2 => mm_up_a (by omega)) (fun i hi => show mm_up I 200 4 (nI y) 200 i = I 200 i from mm_up_ni hi) ⟨mm_up_at, show mm_up I 200 4 (nI y) 200 4 = nI y from mm_up_at, ?_, ?_⟩⟩
    · show mm_up I 174 1 (nI y) 175 = mm_up I 200 4 (nI y) 203
      rw [mm_up_a (by decide), mm_up_a (by decide)]; exact t3
    · show tp_ok (mm_up I 200 4 (nI y) 203) y
      rw [mm_up_a (by decide)]; exact ⟨by omega, fun i hi => t5 i (by omega)⟩
  · rw [if_neg c] at q
    have e : op_trim t I x = (-1000000001, I) := by unfold op_trim; rw [if_pos c]
    rw [e] at q ⊢
    exact mm_Ci_Di q (St_id H)
theorem cl_tell {g : mm_G} {d : Nat} {I : mm_I} {w h n l k o r T : Nat} (H : RC I) (hS : siR I (I 201) w h n l k o r T) {t : Nat} (ht : wtR I I t) {v : Int32} (hd : 160 ≤ d) : mm_Di g zX11_tell d [.ref 0, .int v] sh_S I (St I (op_tell t I v)) := by
  have hz := iV_z hS.1
  obtain ⟨t1, t2, t3, t4⟩ := id ht
  by_cases c : t = 100
  · have q := cb_tell2 (g := g) (d := d) (A := I) hz hS.1.1.1 (by rw [t1, c]) (v := v) (by omega)
    rw [← sS_self hS.2.1] at q
    have e : op_tell t I v = (-1000000003, I) := by unfold op_tell; rw [if_pos c]
    rw [e]; exact mm_Ci_Di q (St_id H)
  · have q := cb_tell1 (g := g) (d := d) (A := I) hz hS.1.1.1 t1 (by omega) (v := v) (by omega)
    rw [← cN_dh hz.2.1 (show 85 < 191 by decide), ← cN_dh hz.2.1 (show 85 < 192 by decide), ← sS_self hS.2.1] at q
    have e : op_tell t I v = (nI (t + 1), mm_up (mm_up I 204 t v) 200 5 (nI (t + 1))) := by unfold op_tell; rw [if_neg c]
    rw [e]
    have hK : ∀ a, ¬ (a = 191 ∨ a = 192) → mm_up (mm_up I 192 t v) 191 1 (nI (t + 1)) a = I a := fun a ha => by rw [mm_up_a (by omega), mm_up_a (by omega)]
    have hJ : ∀ a, ¬ (a = 200 ∨ a = 204) → mm_up (mm_up I 204 t v) 200 5 (nI (t + 1)) a = I a := fun a ha => by rw [mm_up_a (by omega), mm_up_a (by omega)]
    have h2 : ∀ i, ¬ i = 5 → mm_up (mm_up I 204 t v) 200 5 (nI (t + 1)) 200 i = I 200 i := fun i hi => by rw [mm_up_ni hi, mm_up_ne (by decide)]
    obtain ⟨-, b, ⟨tt, tp⟩, -, s, f⟩ := H
    refine mm_Ci_Di q ⟨fun a ha => hK a (by omega), rfl, ⟨w, h, n, l, k, o, r, T, ?_⟩, imR_c b (by rw [hK 0 (by omega)]) (fun a h1 h2 => hK a (by omega)) (h2 2 (by decide)) (hJ 202 (by decide)), ⟨tt, tpR_c tp (by rw [hK 174 (by omega)]) (hK 175 (by omega)) (h2 4 (by decide)) (hJ 203 (by decide))⟩, ⟨t + 1, mm_up_at, show mm_up (mm_up I 204 t v) 200 5 (nI (t + 1)) 200 5 = nI (t + 1) from mm_up_at, by omega, fun i hi => ?_⟩, shR_c s (fun a h1 h2 => hK a (by omega)) (hJ 205 (by decide)) (hJ 206 (by decide)), pl_c f (hJ 205 (by decide))⟩
    · show siR _ (mm_up (mm_up I 204 t v) 200 5 (nI (t + 1)) 201) w h n l k o r T
      rw [hJ 201 (by decide)]
      exact siR_c hS (fun a h1 h2 => hK a (by omega))
    · show mm_up (mm_up I 192 t v) 191 1 (nI (t + 1)) 192 i = mm_up (mm_up I 204 t v) 200 5 (nI (t + 1)) 204 i
      have e1 : mm_up (mm_up I 192 t v) 191 1 (nI (t + 1)) 192 i = mm_up I 192 t v 192 i := mm_up_ne (by decide)
      have e2 : mm_up (mm_up I 204 t v) 200 5 (nI (t + 1)) 204 i = mm_up I 204 t v 204 i := mm_up_ne (by decide)
      rw [e1, e2]
      by_cases z : i = t
      · subst z; rw [mm_up_at, mm_up_at]
      · rw [mm_up_ni z, mm_up_ni z]; exact t4 i (by omega)
/-- sheets alone -/
theorem RC_sh {I K J' : mm_I} (H : RC I) (hK : shF I K) (hJ : ∀ a, 200 ≤ a → a ≤ 204 → J' a = I a) (hs : shR K J') (hp : sp_pl J') : RC2 K J' := by
  obtain ⟨⟨w, h, n, l, k, o, r, T, s⟩, b, ⟨t, c⟩, ⟨t2, d⟩, -, -⟩ := H
  refine ⟨⟨w, h, n, l, k, o, r, T, ?_⟩, imR_c b (by rw [hK 0 (by omega)]) (fun a h1 h2 => hK a (by omega)) (by rw [hJ 200 (by decide) (by decide)]) (hJ 202 (by decide) (by decide)), ⟨t, tpR_c c (by rw [hK 174 (by omega)]) (hK 175 (by omega)) (by rw [hJ 200 (by decide) (by decide)]) (hJ 203 (by decide) (by decide))⟩, ⟨t2, wtR_c d (by rw [hK 191 (by omega)]) (hK 192 (by omega)) (by rw [hJ 200 (by decide) (by decide)]) (hJ 204 (by decide) (by decide))⟩, hs, hp⟩
  rw [hJ 201 (by decide) (by decide)]
  exact siR_c s (fun a h1 h2 => hK a (by omega))
theorem zs_a {J : mm_I} {b p a : Nat} (ha : a ≠ b) : ∀ k, op_zs J b p k a = J a := by
  intro k
  induction k with
  | zero => rfl
  | succ k ih => unfold op_zs; rw [mm_up_a ha]; exact ih
theorem cp_a {I : mm_I} {a b p t m x : Nat} (h : x ≠ b) : mm_cp I a b p t m x = I x := by funext j; unfold mm_cp; rw [if_neg h]
theorem cl_sheet {g : mm_G} {d : Nat} {I : mm_I} (H : RC I) {s x : Int32} (hd : 160 ≤ d) : mm_Di g zX11_sheet d [.ref 0, .int s, .int x] sh_S I (St I (op_sheet I s x)) := by
  refine mm_Di_w (cb_sheet H.2.2.2.2.1 H.2.2.2.2.2 (by omega)) (fun r_ K hK => ?_)
  obtain ⟨e, f, q⟩ := hK
  refine ⟨fun a ha => q a (by omega), e, RC_sh H q (fun a h1 h2 => ?_) f (fun s' hs' => ?_)⟩
  · unfold op_sheet; split; rfl; split; rfl; show op_zs (mm_up I 205 (vv s) x) 206 (80 * vv s) 80 a = I a; rw [zs_a (by omega), mm_up_a (by omega)]
  · unfold op_sheet
    split
    · exact H.2.2.2.2.2 s' hs'
    · split
      · exact H.2.2.2.2.2 s' hs'
      · rename_i h1 h2
        dsimp only
        rw [zs_a (by decide)]
        by_cases z : s' = vv s
        · subst z
          rw [mm_up_at]
          have a2 : x ≤ 80 := Decidable.not_not.mp (fun z => h1 (Or.inr z))
          obtain ⟨y, y1, y2⟩ := sp_wi_nat 80 (by decide) (show sp_wi x 0 (nI 80) from ⟨Int32.not_lt.mp h2, a2⟩)
          exact Or.inr ⟨y, y1, y2⟩
        · rw [mm_up_ni z]; exact H.2.2.2.2.2 s' hs'
theorem cl_mark {g : mm_G} {d : Nat} {I : mm_I} (H : RC I) {s p v : Int32} (hd : 160 ≤ d) : mm_Di g zX11_mark d [.ref 0, .int s, .int p, .int v] sh_S I (St I (op_mark I s p v)) := by
  refine mm_Di_w (cb_mark H.2.2.2.2.1 H.2.2.2.2.2 (by omega)) (fun r_ K hK => ?_)
  obtain ⟨e, f, q⟩ := hK
  have h5 : ∀ a, a ≠ 206 → (op_mark I s p v).2 a = I a := fun a ha => by
    unfold op_mark; split; rfl; split; rfl; split; rfl; exact mm_up_a ha
  exact ⟨fun a ha => q a (by omega), e, RC_sh H q (fun a h1 h2 => h5 a (by omega)) f (pl_c H.2.2.2.2.2 (h5 205 (by decide)))⟩
theorem cl_copy {g : mm_G} {d : Nat} {I : mm_I} (H : RC I) {f p t a m : Int32} (hd : 160 ≤ d) : mm_Di g zX11_copy d [.ref 0, .int f, .int p, .int t, .int a, .int m] sh_S I (St I (op_copy I f p t a m)) := by
  refine mm_Di_w (cb_copy H.2.2.2.2.1 H.2.2.2.2.2 (by omega)) (fun r_ K hK => ?_)
  obtain ⟨e, f', q⟩ := hK
  have h5 : ∀ x, ¬ (x = 206 ∨ x = 213) → (op_copy I f p t a m).2 x = I x := fun x hx => by
    unfold op_copy; split; rfl; split; rfl; split; rfl; show mm_cp (mm_cp I 206 213 (80 * vv f + vv p) 0 (vv m)) 213 206 0 (80 * vv t + vv a) (vv m) x = I x; rw [cp_a (by omega), cp_a (by omega)]
  exact ⟨fun x hx => q x (by omega), e, RC_sh H q (fun x h1 h2 => h5 x (by omega)) f' (pl_c H.2.2.2.2.2 (h5 205 (by decide)))⟩
