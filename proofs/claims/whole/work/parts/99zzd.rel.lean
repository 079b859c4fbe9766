/-! THE WHOLE as both have it -/
theorem siR_c {M M' : mm_I} {N : Nat → Int32} {w h n l k o r T : Nat} (H : siR M N w h n l k o r T) (hM : ∀ a, 0 < a → a < 86 → M' a = M a) : siR M' N w h n l k o r T := by
  have hz := iV_z H.1
  have hz2 := hz.2.1
  exact ⟨H.1, sS_c hz2 H.2.1 (fun a ha => hM a (by omega) (by omega)) (fun _ _ => rfl) hz, fun p hp => pgR_c (H.2.2 p hp) hz2 hp (fun b hb => hM b (by omega) (by omega)) (fun m hm => by rw [hM _ (by omega) (by omega)]) (fun _ _ => rfl)⟩
/-- THE IMAGE: M: what holds of it in the class -/
def sh85 (I : mm_I) : mm_I := fun a => I (a + 85)
def imR (I J : mm_I) : Prop := (I 0 2 = 0 ∧ J 200 2 = 0) ∨ (I 0 2 = 1 ∧ J 200 2 = 1 ∧ ∃ w h n l k o r T, siR (sh85 I) (J 202) w h n l k o r T)
def wtR (I J : mm_I) (t : Nat) : Prop := I 191 1 = nI t ∧ J 200 5 = nI t ∧ t ≤ 100 ∧ ∀ i, i < t → I 192 i = J 204 i
def RC2 (I J : mm_I) : Prop := (∃ w h n l k o r T, siR I (J 201) w h n l k o r T) ∧ imR I J ∧ (∃ t, tpR I J t) ∧ (∃ t, wtR I J t) ∧ shR I J ∧ sp_pl J
theorem imR_c {I I' J J' : mm_I} (H : imR I J) (h0 : I' 0 2 = I 0 2) (hI : ∀ a, 86 ≤ a → a < 171 → I' a = I a) (h2 : J' 200 2 = J 200 2) (hJ : J' 202 = J 202) : imR I' J' := by
  rcases H with ⟨a, b⟩ | ⟨a, b, w, h, n, l, k, o, r, T, c⟩
  · exact Or.inl ⟨h0.trans a, h2.trans b⟩
  · refine Or.inr ⟨h0.trans a, h2.trans b, w, h, n, l, k, o, r, T, ?_⟩
    rw [hJ]
    exact siR_c c (fun x h1 h2 => hI _ (by omega) (by omega))
theorem tpR_c {I I' J J' : mm_I} {t : Nat} (H : tpR I J t) (h1 : I' 174 1 = I 174 1) (h2 : I' 175 = I 175) (h3 : J' 200 4 = J 200 4) (h4 : J' 203 = J 203) : tpR I' J' t := ⟨h1.trans H.1, h3.trans H.2.1, by rw [h2, h4]; exact H.2.2.1, by rw [h4]; exact H.2.2.2⟩
theorem wtR_c {I I' J J' : mm_I} {t : Nat} (H : wtR I J t) (h1 : I' 191 1 = I 191 1) (h2 : I' 192 = I 192) (h3 : J' 200 5 = J 200 5) (h4 : J' 204 = J 204) : wtR I' J' t := ⟨h1.trans H.1, h3.trans H.2.1, H.2.2.1, fun i hi => by rw [h2, h4]; exact H.2.2.2 i hi⟩
theorem shR_c {I I' J J' : mm_I} (H : shR I J) (h1 : ∀ a, 195 ≤ a → a ≤ 199 → I' a = I a) (h2 : J' 205 = J 205) (h3 : J' 206 = J 206) : shR I' J' := by
  obtain ⟨tv, t1, t2, t3⟩ := H
  refine ⟨tv, t1, by rw [h1 195 (by omega) (by omega)]; exact t2, fun s hs => ?_⟩
  rw [h2, h3, h1 (196 + 2 * s) (by omega) (by omega), h1 (196 + 2 * s + 1) (by omega) (by omega)]
  exact t3 s hs
theorem pl_c {J J' : mm_I} (H : sp_pl J) (h : J' 205 = J 205) : sp_pl J' := fun s hs => by rw [h]; exact H s hs
/-- what a call leaves alone, but for THE SITE -/
def outF (I' I : mm_I) : Prop := ∀ a, (a = 0 ∨ (86 ≤ a ∧ a < 171) ∨ (174 ≤ a ∧ a ≤ 175) ∨ (191 ≤ a ∧ a ≤ 192) ∨ (195 ≤ a ∧ a ≤ 199)) → I' a = I a
def outJ (J' J : mm_I) : Prop := J' 200 2 = J 200 2 ∧ J' 200 4 = J 200 4 ∧ J' 200 5 = J 200 5 ∧ ∀ a, 202 ≤ a → a ≤ 206 → J' a = J a
theorem outJ_0 {J : mm_I} : outJ J J := ⟨rfl, rfl, rfl, fun _ _ _ => rfl⟩
theorem outF_0 {I : mm_I} : outF I I := fun _ _ => rfl
theorem outJ_u {J : mm_I} {i : Nat} {v : Int32} : outJ (mm_up J 201 i v) J := ⟨by rw [mm_up_ne (by decide)], by rw [mm_up_ne (by decide)], by rw [mm_up_ne (by decide)], fun a h1 h2 => mm_up_a (by omega)⟩
theorem outJ_a {J J' : mm_I} (h : ∀ a, 200 ≤ a → a ≠ 201 → J' a = J a) : outJ J' J := ⟨by rw [h 200 (by decide) (by decide)], by rw [h 200 (by decide) (by decide)], by rw [h 200 (by decide) (by decide)], fun a h1 h2 => h a (by omega) (by omega)⟩
theorem RC_now {I I' J J' : mm_I} {w h n l k o r T : Nat} (H : RC2 I J) (hI : outF I' I) (hJ : outJ J' J) (hS : siR I' (J' 201) w h n l k o r T) : RC2 I' J' := by
  obtain ⟨-, b, ⟨t, c⟩, ⟨t2, d⟩, e, f⟩ := H
  obtain ⟨j2, j4, j5, ja⟩ := hJ
  exact ⟨⟨w, h, n, l, k, o, r, T, hS⟩, imR_c b (by rw [hI 0 (by omega)]) (fun a h1 h2 => hI a (by omega)) j2 (ja 202 (by omega) (by omega)), ⟨t, tpR_c c (by rw [hI 174 (by omega)]) (hI 175 (by omega)) j4 (ja 203 (by omega) (by omega))⟩, ⟨t2, wtR_c d (by rw [hI 191 (by omega)]) (hI 192 (by omega)) j5 (ja 204 (by omega) (by omega))⟩, shR_c e (fun a h1 h2 => hI a (by omega)) (ja 205 (by omega) (by omega)) (ja 206 (by omega) (by omega)), pl_c f (ja 205 (by omega) (by omega))⟩
def RC (I : mm_I) : Prop := RC2 I I
theorem RC_mx {I J : mm_I} (H : RC2 I J) : RC (mx I J) := by
  obtain ⟨⟨w, h, n, l, k, o, r, T, a⟩, b, ⟨t, c⟩, ⟨t2, d⟩, e, f⟩ := H
  have hI : ∀ a, a < 200 → mx I J a = I a := fun a h => mx_lo h
  exact ⟨⟨w, h, n, l, k, o, r, T, siR_c a (fun x _ h2 => hI x (by omega))⟩, imR_c b (by rw [hI 0 (by omega)]) (fun a h1 h2 => hI a (by omega)) rfl rfl, ⟨t, tpR_c c (by rw [hI 174 (by omega)]) (hI 175 (by omega)) rfl rfl⟩, ⟨t2, wtR_c d (by rw [hI 191 (by omega)]) (hI 192 (by omega)) rfl rfl⟩, shR_c e (fun a h1 h2 => hI a (by omega)) rfl rfl, pl_c f rfl⟩
/-- one call of the class, with what the reference would do -/
def St (I : mm_I) (P : Int32 × mm_I) (r : Int32) (K : mm_I) : Prop := (∀ a, 200 ≤ a → K a = I a) ∧ r = P.1 ∧ RC2 K P.2
/-- rows that differ where nothing but CELLS, MACHINES' numbers, THE BANK, PARTS may -/
theorem iV_it {N N' : Nat → Int32} {w h n l k o r T : Nat} (H : iV N w h n l k o r T) (hT : iT N' w h n) (e : ∀ y, (y = 2 ∨ y = 3 ∨ (5 ≤ y ∧ y ≤ 7) ∨ (15 ≤ y ∧ y ≤ 19) ∨ (590 ≤ y ∧ y < 630) ∨ (630 ≤ y ∧ y < 830 ∧ ((y - 630) % 40 = 6 ∨ (y - 630) % 40 = 7)) ∨ 830 ≤ y) → N' y = N y) : iV N' w h n l k o r T := by
  have hr := iV_r H
  obtain ⟨H1, H2, H3, ⟨h15, h16, h17, h18, h19⟩, ⟨hn, hl, hk, ho⟩, ⟨la, lb, hL⟩, h5, h6, hLo, hH, hY, hO, ⟨h7, hT7⟩, hR, hC⟩ := H
  refine ⟨hT, mP_e H2 hn (fun y hy => e y (by omega)) (fun y hy => e y (by omega)), fun p hp => ?_, ⟨(e 15 (by omega)).trans h15, (e 16 (by omega)).trans h16, (e 17 (by omega)).trans h17, (e 18 (by omega)).trans h18, (e 19 (by omega)).trans h19⟩, ⟨hn, hl, hk, ho⟩, ⟨la, lb, (e 2 (by omega)).trans hL.1, (e 3 (by omega)).trans hL.2.1, hL.2.2⟩, by rw [e 5 (by omega)]; exact h5, by rw [e 6 (by omega)]; exact h6, fun i hi => by rw [e _ (by omega)]; exact hLo i hi, fun i hi => by rw [e _ (by omega)]; exact hH i hi, fun i hi => by rw [e _ (by omega)]; exact hY i hi, fun i hi => by rw [e _ (by omega), e _ (by omega)]; exact hO i hi, ⟨(e 7 (by omega)).trans h7, hT7⟩, fun i hi => by rw [e _ (by omega), e _ (by omega), e _ (by omega)]; exact hR i hi, fun j => by rw [rcnt_c _ (fun i hi => e _ (by omega))]; exact hC j⟩
  obtain ⟨k', k1, k2⟩ := H3 p hp
  exact ⟨k', (e _ (by omega)).trans k1, mo_T_eq (fun x hx => e x (by omega)) k2⟩
/-- a call that changes numbers of the row alone -/
theorem St_row {I J' : mm_I} {a : Int32} {w h n l k o r T : Nat} (H : RC I) (hS : siR I (I 201) w h n l k o r T) (hV : iV (J' 201) w h n l k o r T) (hN : ∀ y, (630 ≤ y ∧ y < 830 ∧ 6 ≤ (y - 630) % 40) ∨ 1226 ≤ y → J' 201 y = I 201 y) (hJ : outJ J' I) : St I (a, J') a (cN (w * h) n l k o r I (J' 201)) := by
  have hz := iV_z hS.1
  obtain ⟨s1, s2, s3⟩ := st_n (M := I) (N := I 201) (N' := J' 201) hz hS.2.2 hN
  exact ⟨fun b hb => cN_hi hz.2.1 (by omega), rfl, RC_now H (fun b hb => cN_oa hz.2.1 (by omega)) hJ ⟨hV, s1, s2⟩⟩
theorem St_id {I : mm_I} {a : Int32} (H : RC I) : St I (a, I) a I := ⟨fun _ _ => rfl, rfl, H⟩
