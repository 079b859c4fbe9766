/-! Calls of the class, as the reference would do them: ground -/
theorem lgs_at {J : mm_I} {w h : Nat} : ∀ k, k ≤ 80 → ∀ c, c < k → op_lgs J w h k 201 (30 + c) = (if c = 0 then 4 else 0) ∧ op_lgs J w h k 201 (110 + c) = (if c = 0 then 0 else (if c < w * h then 20 else 0)) ∧ op_lgs J w h k 201 (190 + c) = 0 ∧ op_lgs J w h k 201 (270 + 4 * c + 3) = -1 := by
  intro k
  induction k with
  | zero => intro _ c hc; exact absurd hc (Nat.not_lt_zero _)
  | succ k ih =>
    intro hk c hc
    have e : op_lgs J w h (k + 1) 201 = upd (upd (upd (upd (op_lgs J w h k 201) (30 + k) (if k = 0 then 4 else 0)) (110 + k) (if k = 0 then 0 else (if k < w * h then 20 else 0))) (190 + k) 0) (270 + 4 * k + 3) (-1) := by
      show mm_up (mm_up (mm_up (mm_up (op_lgs J w h k) 201 (30 + k) (if (k) = 0 then 4 else 0)) 201 (110 + k) (if (k) = 0 then 0 else (if (k) < (w * h) then 20 else 0))) 201 (190 + k) 0) 201 ((270 + (4 * k)) + 3) (-1) 201 = _
      rw [up_201, up_201, up_201, up_201]
    rw [e]
    by_cases z : c = k
    · subst z
      refine ⟨?_, ?_, ?_, upd_y⟩
      · rw [upd_n (by omega), upd_n (by omega), upd_n (by omega), upd_y]
      · rw [upd_n (by omega), upd_n (by omega), upd_y]
      · rw [upd_n (by omega), upd_y]
    · obtain ⟨e1, e2, e3, e4⟩ := ih (by omega) c (by omega)
      refine ⟨?_, ?_, ?_, ?_⟩
      · rw [upd_n (by omega), upd_n (by omega), upd_n (by omega), upd_n (by omega)]; exact e1
      · rw [upd_n (by omega), upd_n (by omega), upd_n (by omega), upd_n (by omega)]; exact e2
      · rw [upd_n (by omega), upd_n (by omega), upd_n (by omega), upd_n (by omega)]; exact e3
      · rw [upd_n (by omega), upd_n (by omega), upd_n (by omega), upd_n (by omega)]; exact e4
theorem lg_row {J : mm_I} {w h : Nat} : op_lg J w h 201 = upd (upd (upd (upd (upd (upd (upd (upd (op_lgs (mm_up (mm_up J 201 0 (nI w)) 201 1 (nI h)) w h 80 201) 16 0) 17 0) 18 0) 10 0) 11 0) 12 0) 13 0) 14 0 := by
  unfold op_lg
  rw [up_201, up_201, up_201, up_201, up_201, up_201, up_201, up_201]
theorem lg_z {J : mm_I} {w h y : Nat} (hy : (10 ≤ y ∧ y ≤ 14) ∨ (16 ≤ y ∧ y ≤ 18)) : op_lg J w h 201 y = 0 := by
  rw [lg_row]
  rcases show y = 10 ∨ y = 11 ∨ y = 12 ∨ y = 13 ∨ y = 14 ∨ y = 16 ∨ y = 17 ∨ y = 18 by omega with z | z | z | z | z | z | z | z <;> subst z
  · rw [upd_n (by omega), upd_n (by omega), upd_n (by omega), upd_n (by omega), upd_y]
  · rw [upd_n (by omega), upd_n (by omega), upd_n (by omega), upd_y]
  · rw [upd_n (by omega), upd_n (by omega), upd_y]
  · rw [upd_n (by omega), upd_y]
  · exact upd_y
  · rw [upd_n (by omega), upd_n (by omega), upd_n (by omega), upd_n (by omega), upd_n (by omega), upd_n (by omega), upd_n (by omega), upd_y]
  · rw [upd_n (by omega), upd_n (by omega), upd_n (by omega), upd_n (by omega), upd_n (by omega), upd_n (by omega), upd_y]
  · rw [upd_n (by omega), upd_n (by omega), upd_n (by omega), upd_n (by omega), upd_n (by omega), upd_y]
theorem lg_s {J : mm_I} {w h y : Nat} (hy : ¬ ((10 ≤ y ∧ y ≤ 14) ∨ (16 ≤ y ∧ y ≤ 18))) : op_lg J w h 201 y = op_lgs (mm_up (mm_up J 201 0 (nI w)) 201 1 (nI h)) w h 80 201 y := by
  rw [lg_row, upd_n (by omega), upd_n (by omega), upd_n (by omega), upd_n (by omega), upd_n (by omega), upd_n (by omega), upd_n (by omega), upd_n (by omega)]
theorem lg_o {J : mm_I} {w h y : Nat} (hy : (2 ≤ y ∧ y < 10) ∨ y = 15 ∨ (19 ≤ y ∧ y < 30) ∨ 590 ≤ y) : op_lg J w h 201 y = J 201 y := by
  rw [lg_s (by omega), op_lgs_hi _ _ _ 80 201 y (by omega) (by omega), up_201, upd_n (by omega), up_201, upd_n (by omega)]
theorem lgs_a {J : mm_I} {w h a : Nat} (ha : a ≠ 201) : op_lgs J w h 80 a = J a := funext fun k => op_lgs_hi J w h 80 a k (Or.inl ha) (by omega)
theorem lg_a {J : mm_I} {w h a : Nat} (ha : a ≠ 201) : op_lg J w h a = J a := by
  unfold op_lg
  rw [mm_up_a ha, mm_up_a ha, mm_up_a ha, mm_up_a ha, mm_up_a ha, mm_up_a ha, mm_up_a ha, mm_up_a ha, lgs_a ha, mm_up_a ha, mm_up_a ha]
theorem iV_ground {I : mm_I} {w h n l k o r T w' h' : Nat} (hV : iV (I 201) w h n l k o r T) (hw : 2 ≤ w' ∧ w' ≤ 10) (hh : 2 ≤ h' ∧ h' ≤ 8) : iV (op_lg I w' h' 201) w' h' 0 l k 0 0 T := by
  have hW := op_lg_W I w' h' hw hh
  have hcc := mo_W_c hW
  obtain ⟨⟨t1, t2, t3, t4, ⟨b, b1, b2⟩, ⟨v, v1, v2⟩⟩, H2, H3, ⟨h15, h16, h17, h18, h19⟩, ⟨hn, hl8, hk, ho⟩, ⟨la, lb, hL⟩, h5, h6, hLo, hH, hY, hO, ⟨h7, hT7⟩, hR, hC⟩ := hV
  refine ⟨⟨hW, fun i hi => absurd hi (Nat.not_lt_zero _), fun i j h1 h2 => absurd h2 (Nat.not_lt_zero _), fun x hx => ?_, ⟨b, b1, (lg_o (by omega)).trans b2⟩, ⟨0, by decide, lg_z (by omega)⟩⟩, fun i hi => absurd hi (Nat.not_lt_zero _), fun p hp => ?_, ⟨(lg_o (by omega)).trans h15, lg_z (by omega), lg_z (by omega), lg_z (by omega), (lg_o (by omega)).trans h19⟩, ⟨by decide, hl8, hk, by decide⟩, ⟨la, lb, (lg_o (by omega)).trans hL.1, (lg_o (by omega)).trans hL.2.1, hL.2.2⟩, by rw [lg_o (by omega)]; exact h5, by rw [lg_o (by omega)]; exact h6, fun i hi => by rw [lg_o (by omega)]; exact hLo i hi, fun i hi => by rw [lg_o (by omega)]; exact hH i hi, fun i hi => by rw [lg_o (by omega)]; exact hY i hi, fun i hi => absurd hi (Nat.not_lt_zero _), ⟨(lg_o (by omega)).trans h7, hT7⟩, fun i hi => absurd hi (Nat.not_lt_zero _), fun j => Nat.zero_le _⟩
  · have e := (lgs_at (J := mm_up (mm_up I 201 0 (nI w')) 201 1 (nI h')) (w := w') (h := h') 80 (by omega) x (by omega)).1
    rw [lg_s (by omega), e]
    by_cases z : x = 0
    · rw [if_pos z]; exact ⟨4, by decide, rfl, by simp [z]⟩
    · rw [if_neg z]; exact ⟨0, by decide, rfl, by simp [z]⟩
  · obtain ⟨k', k1, k2⟩ := H3 p hp
    exact ⟨k', (lg_o (by omega)).trans k1, mo_T_eq (fun x hx => lg_o (by omega)) k2⟩
theorem rn_o {I : mm_I} {w h b : Nat} (hb : ¬ ((1 ≤ b ∧ b ≤ 12) ∨ b = 82 ∨ b = 84)) : rnM I w h b = I b := by
  unfold rnM gbM flM
  rw [mm_up_a (by omega), mm_up_a (by omega), mm_up_a (by omega), mm_up_a (by omega), mm_up_a (by omega), rw_fl_na (by omega), mm_up_a (by omega), rw_fl_na (by omega), mm_up_a (by omega), rw_fl_na (by omega), mm_up_a (by omega), mm_up_a (by omega), rw_fl_na (by omega), mm_up_a (by omega), mm_up_a (by omega), rw_fl_na (by omega), mm_up_a (by omega), mm_up_a (by omega), mm_up_a (by omega)]
theorem rn_v {I : mm_I} {w h : Nat} (hc : 0 < w * h) : (rnM I w h 2 0 = nI w ∧ rnM I w h 2 1 = nI h ∧ rnM I w h 2 7 = 0 ∧ rnM I w h 2 8 = 0) ∧ (rnM I w h 1 4 = 0 ∧ rnM I w h 82 1 = 0 ∧ rnM I w h 84 1 = 0) ∧ (∀ i, i < w * h → rnM I w h 4 i = (if i = 0 then 4 else 0)) ∧ (∀ i, i < w * h → rnM I w h 6 i = (if i = 0 then 0 else 20)) ∧ (∀ i, i < w * h → rnM I w h 8 i = 0) ∧ (∀ i, i < 4 * (w * h) → rnM I w h 10 i = -1) ∧ (∀ i, i < 3 → rnM I w h 12 i = 0) := by
  refine ⟨⟨?_, ?_, ?_, ?_⟩, ⟨?_, ?_, ?_⟩, fun i hi => ?_, fun i hi => ?_, fun i hi => ?_, fun i hi => ?_, fun i hi => ?_⟩
  all_goals simp [rnM, gbM, flM, rw_fl, mm_up]
  all_goals first | done | omega | (intro z; omega) | (split <;> first | rfl | omega | (simp_all; done))
set_option maxHeartbeats 400000 in
theorem cl_ground {g : mm_G} {d : Nat} {I : mm_I} {w h n l k o r T : Nat} (H : RC I) (hS : siR I (I 201) w h n l k o r T) {a b : Int32} (hd : 160 ≤ d) : mm_Di g zX11_ground d [.ref 0, .int a, .int b] sh_S I (St I (op_ground I a b)) := by
  have hz := iV_z hS.1
  obtain ⟨hz1, hz2, hz3, hz4, hz5, hz6⟩ := id hz
  by_cases c1 : ¬ sp_wi a 2 10 ∨ ¬ sp_wi b 2 8
  · have q := cb_groundB (g := g) (d := d) (I := I) c1 (by omega)
    have e : op_ground I a b = (-1000000001, I) := by unfold op_ground; rw [if_pos c1]
    rw [e]; exact mm_Ci_Di q (St_id H)
  have a1 : sp_wi a 2 10 := Decidable.not_not.mp (fun z => c1 (Or.inl z))
  have a2 : sp_wi b 2 8 := Decidable.not_not.mp (fun z => c1 (Or.inr z))
  obtain ⟨w', hw, rfl⟩ := sp_wi_n 2 10 (by decide) (by decide) a1
  obtain ⟨h', hh, rfl⟩ := sp_wi_n 2 8 (by decide) (by decide) a2
  have q := cb_ground (g := g) (d := d) (I := I) hw hh (by omega)
  have e : op_ground I (nI w') (nI h') = (nI (w' * h'), op_lg I w' h') := by unfold op_ground; rw [if_neg c1, vv_nI (by omega), vv_nI (by omega)]
  rw [e]
  have hV := iV_ground hS.1 hw hh
  have hcc := mo_W_c hV.1.1
  obtain ⟨⟨m0, m1, m7, m8⟩, ⟨n1, n82, n84⟩, v4, v6, v8, v10, v12⟩ := rn_v (I := I) (w := w') (h := h') (by omega)
  have hM : ∀ a, ¬ ((1 ≤ a ∧ a ≤ 12) ∨ a = 82 ∨ a = 84) → rnM I w' h' a = I a := fun a ha => rn_o ha
  have hN : ∀ y, (2 ≤ y ∧ y < 10) ∨ y = 15 ∨ (19 ≤ y ∧ y < 30) ∨ 590 ≤ y → op_lg I w' h' 201 y = I 201 y := fun y hy => lg_o hy
  have hat : ∀ c, c < w' * h' → _ := fun c hc => lgs_at (J := mm_up (mm_up I 201 0 (nI w')) 201 1 (nI h')) (w := w') (h := h') 80 (by omega) c (by omega)
  have Hs := hS.2.1
  refine mm_Ci_Di q ⟨fun b hb => hM b (by omega), rfl, RC_now (w := w') (h := h') (n := 0) (l := l) (k := k) (o := 0) (r := 0) (T := T) H (fun b hb => hM b (by omega)) (outJ_a (fun a h1 h2 => lg_a h2)) ?_⟩
  show siR _ (op_lg I w' h' 201) _ _ _ _ _ _ _ _
  refine ⟨hV, ?_, fun p hp => ?_⟩
  · refine sS.mk ?_ ?_ ?_ ?_ (fun i hi => ?_) (fun i hi => ?_) (fun i hi => ?_) (fun y hy => ?_) (fun y j hy hj hh => ?_) (fun i hi => ?_) ?_ (fun i hi => ?_) ?_ ?_ (fun i hi => ?_) (fun i hi => ?_) (fun i hi => ?_) (fun i hi => ?_) (fun i hi => ?_) (fun i hi => ?_) (fun m i hm hi => absurd hm (Nat.not_lt_zero _)) (fun i hi => absurd hi (Nat.not_lt_zero _)) (fun i hi => absurd hi (Nat.not_lt_zero _)) (fun a ha => ?_) (fun a ha => ?_) n82 n84 n1
    · exact m0.trans hV.1.1.1.symm
    · exact m1.trans hV.1.1.2.1.symm
    · exact m7.trans (lg_z (by omega)).symm
    · exact m8.trans (lg_z (by omega)).symm
    · rw [v4 i hi]; exact ((lg_s (by omega)).trans (hat i hi).1).symm
    · rw [v6 i hi, lg_s (by omega), (hat i hi).2.1]
      by_cases z : i = 0
      · rw [if_pos z, if_pos z]
      · rw [if_neg z, if_neg z, if_pos hi]
    · rw [v8 i hi]; exact ((lg_s (by omega)).trans (hat i hi).2.2.1).symm
    · rw [v10 _ (by omega)]; exact ((lg_s (by omega)).trans (hat y hy).2.2.2).symm
    · rw [lg_s (by omega), (hat y hy).2.2.2] at hh; exact absurd hh (by decide)
    · rw [v12 i hi]; exact (lg_z (by omega)).symm
    · rw [hM 17 (by omega), hN _ (by omega)]; exact Hs.p0
    · rw [hM 17 (by omega), hN _ (by omega)]; exact Hs.p1 i hi
    · rw [hM 17 (by omega), hN _ (by omega)]; exact Hs.p6
    · rw [hM 17 (by omega), hN _ (by omega)]; exact Hs.p7
    · rw [hM 19 (by omega), hN _ (by omega)]; exact Hs.l0 i hi
    · rw [hM 21 (by omega), hN _ (by omega)]; exact Hs.l1 i hi
    · rw [hM 24 (by omega), hN _ (by omega)]; exact Hs.k0 i hi
    · rw [hM 26 (by omega), hN _ (by omega)]; exact Hs.k1 i hi
    · rw [hM 28 (by omega), hN _ (by omega)]; exact Hs.k2 i hi
    · rw [hM 30 (by omega), hN _ (by omega)]; exact Hs.k3 i hi
    · rw [hM a (by omega)]; exact Hs.cl a ha
    · rw [hM a (by omega)]; exact Hs.ck a ha
  · exact pgR_any (hS.2.2 p hp) hz2 hp (fun b h1 h2 => hM b (by omega)) (fun y hy => hN y (by omega)) (fun i hi => absurd hi (Nat.not_lt_zero _))
