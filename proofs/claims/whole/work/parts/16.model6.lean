/-! THE REFERENCE: ways over the ground -/
def sp_be (w h c : Nat) : Nat → Int32
  | 0 => if c % w + 1 < w then nI (c + 1) else -1
  | 1 => if 0 < c % w then nI (c - 1) else -1
  | 2 => if c / w + 1 < h then nI (c + w) else -1
  | _ => if 0 < c / w then nI (c - w) else -1
theorem sp_dm (w c : Nat) : c / w * w + c % w = c := by rw [Nat.mul_comm]; exact Nat.div_add_mod c w
theorem sp_dl {w h c : Nat} (hw : 0 < w) (hc : c < w * h) : c / w < h := Nat.div_lt_of_lt_mul hc
/-- a neighbour is a place of the ground -/
theorem sp_be_in {w h c way : Nat} (hw : 0 < w) (hc : c < w * h) : sp_be w h c way = -1 ∨ ∃ k, k < w * h ∧ sp_be w h c way = nI k := by
  have hdm := sp_dm w c
  have hdl := sp_dl hw hc
  have hml := Nat.mod_lt c hw
  have key : ∀ a, a + 1 < h → (a + 1) * w + c % w < w * h := by
    intro a ha
    have h1 : (a + 1 + 1) * w ≤ h * w := Nat.mul_le_mul_right w (by omega)
    rw [Nat.mul_comm w h]
    rw [Nat.add_mul, Nat.one_mul] at h1
    omega
  match way with
  | 0 =>
    unfold sp_be
    by_cases hh : c % w + 1 < w
    · rw [if_pos hh]
      refine Or.inr ⟨c + 1, ?_, rfl⟩
      have h1 : (c / w + 1) * w ≤ h * w := Nat.mul_le_mul_right w hdl
      rw [Nat.add_mul, Nat.one_mul, Nat.mul_comm h w] at h1
      omega
    · rw [if_neg hh]; exact Or.inl rfl
  | 1 =>
    unfold sp_be
    by_cases hh : 0 < c % w
    · rw [if_pos hh]; exact Or.inr ⟨c - 1, by omega, rfl⟩
    · rw [if_neg hh]; exact Or.inl rfl
  | 2 =>
    unfold sp_be
    by_cases hh : c / w + 1 < h
    · rw [if_pos hh]
      refine Or.inr ⟨c + w, ?_, rfl⟩
      have := key (c / w) hh
      rw [Nat.add_mul, Nat.one_mul] at this
      omega
    · rw [if_neg hh]; exact Or.inl rfl
  | n + 3 =>
    unfold sp_be
    by_cases hh : 0 < c / w
    · rw [if_pos hh]; exact Or.inr ⟨c - w, by omega, rfl⟩
    · rw [if_neg hh]; exact Or.inl rfl
theorem sp_wi_nI {a b : Nat} (ha : a < 2 ^ 31) (hb : b < 2 ^ 31) : sp_wi (nI a) 0 (nI b) ↔ a ≤ b := ⟨fun h => (nI_leI ha hb).mp h.2, fun h => ⟨nI_pos' ha, (nI_leI ha hb).mpr h⟩⟩
theorem sp_be_0 {w h c : Nat} : sp_be w h c 0 = if c % w + 1 < w then nI (c + 1) else -1 := rfl
theorem sp_be_1 {w h c : Nat} : sp_be w h c 1 = if 0 < c % w then nI (c - 1) else -1 := rfl
theorem sp_be_2 {w h c : Nat} : sp_be w h c 2 = if c / w + 1 < h then nI (c + w) else -1 := rfl
theorem sp_be_3 {w h c : Nat} : sp_be w h c 3 = if 0 < c / w then nI (c - w) else -1 := rfl
theorem cm_withinN {g : mm_G} {S : mm_Sh} {I : mm_I} {d a b : Nat} (ha : a < 2 ^ 31) (hb : b < 2 ^ 31) : mm_Ci g zX12_within d [.int (nI a), .int 0, .int (nI b)] S I (if a ≤ b then 1 else 0) I := by
  have h := cm_within (g := g) (S := S) (I := I) (d := d) (v := nI a) (a := 0) (b := nI b)
  rw [mm_iff (sp_wi_nI ha hb)] at h
  exact h
set_option maxRecDepth 100000 in
set_option maxHeartbeats 4000000 in
theorem cm_beside0 {g : mm_G} {I : mm_I} {d : Nat} {w h : Nat} (hW : mo_W (I 201) w h) {c : Nat} (hcc : c < w * h) (hd : 1 ≤ d) : mm_Ci g zX12_beside d [.ref 200, .int (nI c), .int 0] sh_S I (sp_be w h c 0) I := by
  have hc := mo_W_c hW
  obtain ⟨-, -, hw1, hw2, hh1, hh2⟩ := id hW
  have hdm := sp_dm w c
  have hdl := sp_dl (by omega) hcc
  have hml := Nat.mod_lt c (show 0 < w by omega)
  refine mm_Ci_of (fun Q hq => ?_)
  refine mm_begin (ls := [(0, .ref 200), (1, .int (nI (c))), (2, .int (0))]) (Nat.le_of_ble_eq_true rfl) rfl rfl ?_
  refine mm_iload_n 1 dX12_beside_0 rfl rfl ?_
  refine mm_aload_n 0 dX12_beside_1 rfl rfl ?_
  refine mm_getr (b := 201) dX12_beside_2 rfl fk_X12_9 rfl so_200 sr_200_0 ?_
  refine mm_iconst (v := 0) dX12_beside_5 rfl ?_
  refine mm_ialdN (0) dX12_beside_6 sa_201 (by omega) (by omega) ?_
  refine mm_top (v := nI (w)) hW.1 ?_
  refine mm_iremN (c) (w) dX12_beside_7 (by omega) (by omega) (by omega) ?_
  refine mm_iload_n 2 dX12_beside_8 rfl rfl ?_
  refine mm_if_ne (tgt := 16) dX12_beside_9 (by decide) (fun q => absurd q (by decide)) (fun _ => ?_)
  refine mm_iconst (v := 1) dX12_beside_12 rfl ?_
  refine mm_goto (tgt := 26) dX12_beside_13 (by decide) ?_
  refine mm_iaddN ((c) % (w)) (1) dX12_beside_26 ?_
  refine mm_istore_n (ls' := [(3, .int (nI (((c) % (w)) + 1))), (0, .ref 200), (1, .int (nI (c))), (2, .int (0))]) dX12_beside_27 rfl (by decide) rfl ?_
  refine mm_iload_n 2 dX12_beside_28 rfl rfl ?_
  refine mm_aload_n 1 dX12_beside_29 rfl rfl ?_
  refine mm_getr (b := 201) dX12_beside_30 rfl fk_X12_9 rfl so_200 sr_200_0 ?_
  refine mm_iconst (v := 0) dX12_beside_33 rfl ?_
  refine mm_ialdN (0) dX12_beside_34 sa_201 (by omega) (by omega) ?_
  refine mm_top (v := nI (w)) hW.1 ?_
  refine mm_idivN (c) (w) dX12_beside_35 (by omega) (by omega) (by omega) ?_
  refine mm_at (pc' := 36) rfl ?_
  refine mm_iload_n 3 dX12_beside_36 rfl rfl ?_
  refine mm_iconst (v := 2) dX12_beside_37 rfl ?_
  refine mm_icmp_ne (tgt := 45) dX12_beside_38 (by decide) (fun _ => ?_) (fun q => absurd q (by decide))
  refine mm_iload_n 3 dX12_beside_45 rfl rfl ?_
  refine mm_iconst (v := 3) dX12_beside_46 rfl ?_
  refine mm_icmp_ne (tgt := 54) dX12_beside_47 (by decide) (fun _ => ?_) (fun q => absurd q (by decide))
  refine mm_iconst (v := 0) dX12_beside_54 rfl ?_
  refine mm_iaddN ((c) / (w)) (0) dX12_beside_55 ?_
  refine mm_istore (ls' := [(4, .int (nI (((c) / (w)) + 0))), (3, .int (nI (((c) % (w)) + 1))), (0, .ref 200), (1, .int (nI (c))), (2, .int (0))]) dX12_beside_56 (by decide) rfl ?_
  refine mm_iload_n 1 dX12_beside_58 rfl rfl ?_
  refine mm_iconst (v := 0) dX12_beside_59 rfl ?_
  refine mm_aload_n 2 dX12_beside_60 rfl rfl ?_
  refine mm_getr (b := 201) dX12_beside_61 rfl fk_X12_9 rfl so_200 sr_200_0 ?_
  refine mm_iconst (v := 0) dX12_beside_64 rfl ?_
  refine mm_at (pc' := 65) rfl ?_
  refine mm_ialdN (0) dX12_beside_65 sa_201 (by omega) (by omega) ?_
  refine mm_top (v := nI (w)) hW.1 ?_
  refine mm_iconst (v := 1) dX12_beside_66 rfl ?_
  refine mm_isubN (w) (1) dX12_beside_67 (by omega) ?_
  refine mm_cS3i (dz := d - 1) dX12_beside_68 rfl mzX12_within ml_X12_82 imX12_within (by omega) (cm_withinN (a := ((c) % (w)) + 1) (b := w - 1) (by omega) (by omega)) (Nat.le_of_ble_eq_true rfl) ⟨Nat.le_refl _, Nat.le_refl _⟩ ?_
  refine mm_if_eqB (tgt := 105) dX12_beside_71 (by decide) (fun c71 => ?_) (fun c71 => ?_)
  · refine mm_iconst (v := -1) dX12_beside_105 rfl ?_
    refine mm_iret dX12_beside_106 rfl ⟨Nat.le_refl _, Nat.le_refl _⟩ ?_
    exact mm_li (by rw [sp_be_0]; first | (rw [if_pos (by omega)]; congr 1; first | omega | (simp only [Nat.add_zero]; omega) | (simp only [Nat.add_zero]; rw [Nat.add_mul, Nat.one_mul]; omega) | (simp only [Nat.add_zero]; rw [Nat.sub_mul, Nat.one_mul]; have hlw : w ≤ c / w * w := Nat.le_mul_of_pos_left w hz; omega)) | rw [if_neg (by omega)] | (exfalso; omega)) rfl hq
  · refine mm_iload 0 dX12_beside_74 rfl ?_
    refine mm_iconst (v := 0) dX12_beside_76 rfl ?_
    refine mm_aload_n 2 dX12_beside_77 rfl rfl ?_
    refine mm_getr (b := 201) dX12_beside_78 rfl fk_X12_9 rfl so_200 sr_200_0 ?_
    refine mm_iconst (v := 1) dX12_beside_81 rfl ?_
    refine mm_ialdN (1) dX12_beside_82 sa_201 (by omega) (by omega) ?_
    refine mm_top (v := nI (h)) hW.2.1 ?_
    refine mm_iconst (v := 1) dX12_beside_83 rfl ?_
    refine mm_at (pc' := 84) rfl ?_
    refine mm_isubN (h) (1) dX12_beside_84 (by omega) ?_
    refine mm_cS3i (dz := d - 1) dX12_beside_85 rfl mzX12_within ml_X12_82 imX12_within (by omega) (cm_withinN (a := ((c) / (w)) + 0) (b := h - 1) (by omega) (by omega)) (Nat.le_of_ble_eq_true rfl) ⟨Nat.le_refl _, Nat.le_refl _⟩ ?_
    refine mm_if_eqB (tgt := 105) dX12_beside_88 (by decide) (fun c88 => ?_) (fun c88 => ?_)
    · refine mm_iconst (v := -1) dX12_beside_105 rfl ?_
      refine mm_iret dX12_beside_106 rfl ⟨Nat.le_refl _, Nat.le_refl _⟩ ?_
      exact mm_li (by rw [sp_be_0]; first | (rw [if_pos (by omega)]; congr 1; first | omega | (simp only [Nat.add_zero]; omega) | (simp only [Nat.add_zero]; rw [Nat.add_mul, Nat.one_mul]; omega) | (simp only [Nat.add_zero]; rw [Nat.sub_mul, Nat.one_mul]; have hlw : w ≤ c / w * w := Nat.le_mul_of_pos_left w hz; omega)) | rw [if_neg (by omega)] | (exfalso; omega)) rfl hq
    · refine mm_iload 0 dX12_beside_91 rfl ?_
      refine mm_aload_n 2 dX12_beside_93 rfl rfl ?_
      refine mm_getr (b := 201) dX12_beside_94 rfl fk_X12_9 rfl so_200 sr_200_0 ?_
      refine mm_iconst (v := 0) dX12_beside_97 rfl ?_
      refine mm_ialdN (0) dX12_beside_98 sa_201 (by omega) (by omega) ?_
      refine mm_top (v := nI (w)) hW.1 ?_
      refine mm_imulN (((c) / (w)) + 0) (w) dX12_beside_99 ?_
      refine mm_iload_n 1 dX12_beside_100 rfl rfl ?_
      refine mm_at (pc' := 101) rfl ?_
      refine mm_iaddN ((((c) / (w)) + 0) * w) (((c) % (w)) + 1) dX12_beside_101 ?_
      refine mm_goto (tgt := 106) dX12_beside_102 (by decide) ?_
      refine mm_iret dX12_beside_106 rfl ⟨Nat.le_refl _, Nat.le_refl _⟩ ?_
      exact mm_li (by rw [sp_be_0]; first | (rw [if_pos (by omega)]; congr 1; first | omega | (simp only [Nat.add_zero]; omega) | (simp only [Nat.add_zero]; rw [Nat.add_mul, Nat.one_mul]; omega) | (simp only [Nat.add_zero]; rw [Nat.sub_mul, Nat.one_mul]; have hlw : w ≤ c / w * w := Nat.le_mul_of_pos_left w hz; omega)) | rw [if_neg (by omega)] | (exfalso; omega)) rfl hq
set_option maxRecDepth 100000 in
set_option maxHeartbeats 4000000 in
theorem cm_beside1a {g : mm_G} {I : mm_I} {d : Nat} {w h : Nat} (hW : mo_W (I 201) w h) {c : Nat} (hcc : c < w * h) (hz : c % w = 0) (hd : 1 ≤ d) : mm_Ci g zX12_beside d [.ref 200, .int (nI c), .int 1] sh_S I (sp_be w h c 1) I := by
  have hc := mo_W_c hW
  obtain ⟨-, -, hw1, hw2, hh1, hh2⟩ := id hW
  have hdm := sp_dm w c
  have hdl := sp_dl (by omega) hcc
  have hml := Nat.mod_lt c (show 0 < w by omega)
  refine mm_Ci_of (fun Q hq => ?_)
  refine mm_begin (ls := [(0, .ref 200), (1, .int (nI (c))), (2, .int (1))]) (Nat.le_of_ble_eq_true rfl) rfl rfl ?_
  refine mm_iload_n 1 dX12_beside_0 rfl rfl ?_
  refine mm_aload_n 0 dX12_beside_1 rfl rfl ?_
  refine mm_getr (b := 201) dX12_beside_2 rfl fk_X12_9 rfl so_200 sr_200_0 ?_
  refine mm_iconst (v := 0) dX12_beside_5 rfl ?_
  refine mm_ialdN (0) dX12_beside_6 sa_201 (by omega) (by omega) ?_
  refine mm_top (v := nI (w)) hW.1 ?_
  refine mm_iremN (c) (w) dX12_beside_7 (by omega) (by omega) (by omega) ?_
  refine mm_iload_n 2 dX12_beside_8 rfl rfl ?_
  refine mm_if_ne (tgt := 16) dX12_beside_9 (by decide) (fun _ => ?_) (fun q => absurd q (by decide))
  refine mm_iload_n 2 dX12_beside_16 rfl rfl ?_
  refine mm_iconst (v := 1) dX12_beside_17 rfl ?_
  refine mm_icmp_ne (tgt := 25) dX12_beside_18 (by decide) (fun q => absurd q (by decide)) (fun _ => ?_)
  refine mm_iconst (v := -1) dX12_beside_21 rfl ?_
  refine mm_goto (tgt := 26) dX12_beside_22 (by decide) ?_
  refine mm_iadd dX12_beside_26 ?_
  refine mm_top (v := -1) (by rw [hz]; rfl) ?_
  refine mm_istore_n (ls' := [(3, .int (-1)), (0, .ref 200), (1, .int (nI (c))), (2, .int (1))]) dX12_beside_27 rfl (by decide) rfl ?_
  refine mm_iload_n 2 dX12_beside_28 rfl rfl ?_
  refine mm_aload_n 1 dX12_beside_29 rfl rfl ?_
  refine mm_getr (b := 201) dX12_beside_30 rfl fk_X12_9 rfl so_200 sr_200_0 ?_
  refine mm_iconst (v := 0) dX12_beside_33 rfl ?_
  refine mm_ialdN (0) dX12_beside_34 sa_201 (by omega) (by omega) ?_
  refine mm_top (v := nI (w)) hW.1 ?_
  refine mm_idivN (c) (w) dX12_beside_35 (by omega) (by omega) (by omega) ?_
  refine mm_at (pc' := 36) rfl ?_
  refine mm_iload_n 3 dX12_beside_36 rfl rfl ?_
  refine mm_iconst (v := 2) dX12_beside_37 rfl ?_
  refine mm_icmp_ne (tgt := 45) dX12_beside_38 (by decide) (fun _ => ?_) (fun q => absurd q (by decide))
  refine mm_iload_n 3 dX12_beside_45 rfl rfl ?_
  refine mm_iconst (v := 3) dX12_beside_46 rfl ?_
  refine mm_icmp_ne (tgt := 54) dX12_beside_47 (by decide) (fun _ => ?_) (fun q => absurd q (by decide))
  refine mm_iconst (v := 0) dX12_beside_54 rfl ?_
  refine mm_iaddN ((c) / (w)) (0) dX12_beside_55 ?_
  refine mm_istore (ls' := [(4, .int (nI (((c) / (w)) + 0))), (3, .int (-1)), (0, .ref 200), (1, .int (nI (c))), (2, .int (1))]) dX12_beside_56 (by decide) rfl ?_
  refine mm_iload_n 1 dX12_beside_58 rfl rfl ?_
  refine mm_iconst (v := 0) dX12_beside_59 rfl ?_
  refine mm_aload_n 2 dX12_beside_60 rfl rfl ?_
  refine mm_getr (b := 201) dX12_beside_61 rfl fk_X12_9 rfl so_200 sr_200_0 ?_
  refine mm_iconst (v := 0) dX12_beside_64 rfl ?_
  refine mm_at (pc' := 65) rfl ?_
  refine mm_ialdN (0) dX12_beside_65 sa_201 (by omega) (by omega) ?_
  refine mm_top (v := nI (w)) hW.1 ?_
  refine mm_iconst (v := 1) dX12_beside_66 rfl ?_
  refine mm_isubN (w) (1) dX12_beside_67 (by omega) ?_
  refine mm_cS3i (dz := d - 1) dX12_beside_68 rfl mzX12_within ml_X12_82 imX12_within (by omega) cm_within (Nat.le_of_ble_eq_true rfl) ⟨Nat.le_refl _, Nat.le_refl _⟩ ?_
  refine mm_if_eqB (tgt := 105) dX12_beside_71 (by decide) (fun c71 => ?_) (fun c71 => ?_)
  · refine mm_iconst (v := -1) dX12_beside_105 rfl ?_
    refine mm_iret dX12_beside_106 rfl ⟨Nat.le_refl _, Nat.le_refl _⟩ ?_
    exact mm_li (by rw [sp_be_1]; first | (rw [if_pos (by omega)]; congr 1; first | omega | (simp only [Nat.add_zero]; omega) | (simp only [Nat.add_zero]; rw [Nat.add_mul, Nat.one_mul]; omega) | (simp only [Nat.add_zero]; rw [Nat.sub_mul, Nat.one_mul]; have hlw : w ≤ c / w * w := Nat.le_mul_of_pos_left w hz; omega)) | rw [if_neg (by omega)] | (exfalso; omega)) rfl hq
  · exact absurd c71.1 (by decide)
set_option maxRecDepth 100000 in
set_option maxHeartbeats 4000000 in
theorem cm_beside1b {g : mm_G} {I : mm_I} {d : Nat} {w h : Nat} (hW : mo_W (I 201) w h) {c : Nat} (hcc : c < w * h) (hz : 0 < c % w) (hd : 1 ≤ d) : mm_Ci g zX12_beside d [.ref 200, .int (nI c), .int 1] sh_S I (sp_be w h c 1) I := by
  have hc := mo_W_c hW
  obtain ⟨-, -, hw1, hw2, hh1, hh2⟩ := id hW
  have hdm := sp_dm w c
  have hdl := sp_dl (by omega) hcc
  have hml := Nat.mod_lt c (show 0 < w by omega)
  refine mm_Ci_of (fun Q hq => ?_)
  refine mm_begin (ls := [(0, .ref 200), (1, .int (nI (c))), (2, .int (1))]) (Nat.le_of_ble_eq_true rfl) rfl rfl ?_
  refine mm_iload_n 1 dX12_beside_0 rfl rfl ?_
  refine mm_aload_n 0 dX12_beside_1 rfl rfl ?_
  refine mm_getr (b := 201) dX12_beside_2 rfl fk_X12_9 rfl so_200 sr_200_0 ?_
  refine mm_iconst (v := 0) dX12_beside_5 rfl ?_
  refine mm_ialdN (0) dX12_beside_6 sa_201 (by omega) (by omega) ?_
  refine mm_top (v := nI (w)) hW.1 ?_
  refine mm_iremN (c) (w) dX12_beside_7 (by omega) (by omega) (by omega) ?_
  refine mm_iload_n 2 dX12_beside_8 rfl rfl ?_
  refine mm_if_ne (tgt := 16) dX12_beside_9 (by decide) (fun _ => ?_) (fun q => absurd q (by decide))
  refine mm_iload_n 2 dX12_beside_16 rfl rfl ?_
  refine mm_iconst (v := 1) dX12_beside_17 rfl ?_
  refine mm_icmp_ne (tgt := 25) dX12_beside_18 (by decide) (fun q => absurd q (by decide)) (fun _ => ?_)
  refine mm_iconst (v := -1) dX12_beside_21 rfl ?_
  refine mm_goto (tgt := 26) dX12_beside_22 (by decide) ?_
  refine mm_iadd dX12_beside_26 ?_
  refine mm_top (v := nI (c % w - 1)) (sb_m1 hz) ?_
  refine mm_istore_n (ls' := [(3, .int (nI (c % w - 1))), (0, .ref 200), (1, .int (nI (c))), (2, .int (1))]) dX12_beside_27 rfl (by decide) rfl ?_
  refine mm_iload_n 2 dX12_beside_28 rfl rfl ?_
  refine mm_aload_n 1 dX12_beside_29 rfl rfl ?_
  refine mm_getr (b := 201) dX12_beside_30 rfl fk_X12_9 rfl so_200 sr_200_0 ?_
  refine mm_iconst (v := 0) dX12_beside_33 rfl ?_
  refine mm_ialdN (0) dX12_beside_34 sa_201 (by omega) (by omega) ?_
  refine mm_top (v := nI (w)) hW.1 ?_
  refine mm_idivN (c) (w) dX12_beside_35 (by omega) (by omega) (by omega) ?_
  refine mm_at (pc' := 36) rfl ?_
  refine mm_iload_n 3 dX12_beside_36 rfl rfl ?_
  refine mm_iconst (v := 2) dX12_beside_37 rfl ?_
  refine mm_icmp_ne (tgt := 45) dX12_beside_38 (by decide) (fun _ => ?_) (fun q => absurd q (by decide))
  refine mm_iload_n 3 dX12_beside_45 rfl rfl ?_
  refine mm_iconst (v := 3) dX12_beside_46 rfl ?_
  refine mm_icmp_ne (tgt := 54) dX12_beside_47 (by decide) (fun _ => ?_) (fun q => absurd q (by decide))
  refine mm_iconst (v := 0) dX12_beside_54 rfl ?_
  refine mm_iaddN ((c) / (w)) (0) dX12_beside_55 ?_
  refine mm_istore (ls' := [(4, .int (nI (((c) / (w)) + 0))), (3, .int (nI (c % w - 1))), (0, .ref 200), (1, .int (nI (c))), (2, .int (1))]) dX12_beside_56 (by decide) rfl ?_
  refine mm_iload_n 1 dX12_beside_58 rfl rfl ?_
  refine mm_iconst (v := 0) dX12_beside_59 rfl ?_
  refine mm_aload_n 2 dX12_beside_60 rfl rfl ?_
  refine mm_getr (b := 201) dX12_beside_61 rfl fk_X12_9 rfl so_200 sr_200_0 ?_
  refine mm_iconst (v := 0) dX12_beside_64 rfl ?_
  refine mm_at (pc' := 65) rfl ?_
  refine mm_ialdN (0) dX12_beside_65 sa_201 (by omega) (by omega) ?_
  refine mm_top (v := nI (w)) hW.1 ?_
  refine mm_iconst (v := 1) dX12_beside_66 rfl ?_
  refine mm_isubN (w) (1) dX12_beside_67 (by omega) ?_
  refine mm_cS3i (dz := d - 1) dX12_beside_68 rfl mzX12_within ml_X12_82 imX12_within (by omega) (cm_withinN (a := c % w - 1) (b := w - 1) (by omega) (by omega)) (Nat.le_of_ble_eq_true rfl) ⟨Nat.le_refl _, Nat.le_refl _⟩ ?_
  refine mm_if_eqB (tgt := 105) dX12_beside_71 (by decide) (fun c71 => ?_) (fun c71 => ?_)
  · refine mm_iconst (v := -1) dX12_beside_105 rfl ?_
    refine mm_iret dX12_beside_106 rfl ⟨Nat.le_refl _, Nat.le_refl _⟩ ?_
    exact mm_li (by rw [sp_be_1]; first | (rw [if_pos (by omega)]; congr 1; first | omega | (simp only [Nat.add_zero]; omega) | (simp only [Nat.add_zero]; rw [Nat.add_mul, Nat.one_mul]; omega) | (simp only [Nat.add_zero]; rw [Nat.sub_mul, Nat.one_mul]; have hlw : w ≤ c / w * w := Nat.le_mul_of_pos_left w hz; omega)) | rw [if_neg (by omega)] | (exfalso; omega)) rfl hq
  · refine mm_iload 0 dX12_beside_74 rfl ?_
    refine mm_iconst (v := 0) dX12_beside_76 rfl ?_
    refine mm_aload_n 2 dX12_beside_77 rfl rfl ?_
    refine mm_getr (b := 201) dX12_beside_78 rfl fk_X12_9 rfl so_200 sr_200_0 ?_
    refine mm_iconst (v := 1) dX12_beside_81 rfl ?_
    refine mm_ialdN (1) dX12_beside_82 sa_201 (by omega) (by omega) ?_
    refine mm_top (v := nI (h)) hW.2.1 ?_
    refine mm_iconst (v := 1) dX12_beside_83 rfl ?_
    refine mm_at (pc' := 84) rfl ?_
    refine mm_isubN (h) (1) dX12_beside_84 (by omega) ?_
    refine mm_cS3i (dz := d - 1) dX12_beside_85 rfl mzX12_within ml_X12_82 imX12_within (by omega) (cm_withinN (a := ((c) / (w)) + 0) (b := h - 1) (by omega) (by omega)) (Nat.le_of_ble_eq_true rfl) ⟨Nat.le_refl _, Nat.le_refl _⟩ ?_
    refine mm_if_eqB (tgt := 105) dX12_beside_88 (by decide) (fun c88 => ?_) (fun c88 => ?_)
    · refine mm_iconst (v := -1) dX12_beside_105 rfl ?_
      refine mm_iret dX12_beside_106 rfl ⟨Nat.le_refl _, Nat.le_refl _⟩ ?_
      exact mm_li (by rw [sp_be_1]; first | (rw [if_pos (by omega)]; congr 1; first | omega | (simp only [Nat.add_zero]; omega) | (simp only [Nat.add_zero]; rw [Nat.add_mul, Nat.one_mul]; omega) | (simp only [Nat.add_zero]; rw [Nat.sub_mul, Nat.one_mul]; have hlw : w ≤ c / w * w := Nat.le_mul_of_pos_left w hz; omega)) | rw [if_neg (by omega)] | (exfalso; omega)) rfl hq
    · refine mm_iload 0 dX12_beside_91 rfl ?_
      refine mm_aload_n 2 dX12_beside_93 rfl rfl ?_
      refine mm_getr (b := 201) dX12_beside_94 rfl fk_X12_9 rfl so_200 sr_200_0 ?_
      refine mm_iconst (v := 0) dX12_beside_97 rfl ?_
      refine mm_ialdN (0) dX12_beside_98 sa_201 (by omega) (by omega) ?_
      refine mm_top (v := nI (w)) hW.1 ?_
      refine mm_imulN (((c) / (w)) + 0) (w) dX12_beside_99 ?_
      refine mm_iload_n 1 dX12_beside_100 rfl rfl ?_
      refine mm_at (pc' := 101) rfl ?_
      refine mm_iaddN ((((c) / (w)) + 0) * w) (c % w - 1) dX12_beside_101 ?_
      refine mm_goto (tgt := 106) dX12_beside_102 (by decide) ?_
      refine mm_iret dX12_beside_106 rfl ⟨Nat.le_refl _, Nat.le_refl _⟩ ?_
      exact mm_li (by rw [sp_be_1]; first | (rw [if_pos (by omega)]; congr 1; first | omega | (simp only [Nat.add_zero]; omega) | (simp only [Nat.add_zero]; rw [Nat.add_mul, Nat.one_mul]; omega) | (simp only [Nat.add_zero]; rw [Nat.sub_mul, Nat.one_mul]; have hlw : w ≤ c / w * w := Nat.le_mul_of_pos_left w hz; omega)) | rw [if_neg (by omega)] | (exfalso; omega)) rfl hq
set_option maxRecDepth 100000 in
set_option maxHeartbeats 4000000 in
theorem cm_beside2 {g : mm_G} {I : mm_I} {d : Nat} {w h : Nat} (hW : mo_W (I 201) w h) {c : Nat} (hcc : c < w * h) (hd : 1 ≤ d) : mm_Ci g zX12_beside d [.ref 200, .int (nI c), .int 2] sh_S I (sp_be w h c 2) I := by
  have hc := mo_W_c hW
  obtain ⟨-, -, hw1, hw2, hh1, hh2⟩ := id hW
  have hdm := sp_dm w c
  have hdl := sp_dl (by omega) hcc
  have hml := Nat.mod_lt c (show 0 < w by omega)
  refine mm_Ci_of (fun Q hq => ?_)
  refine mm_begin (ls := [(0, .ref 200), (1, .int (nI (c))), (2, .int (2))]) (Nat.le_of_ble_eq_true rfl) rfl rfl ?_
  refine mm_iload_n 1 dX12_beside_0 rfl rfl ?_
  refine mm_aload_n 0 dX12_beside_1 rfl rfl ?_
  refine mm_getr (b := 201) dX12_beside_2 rfl fk_X12_9 rfl so_200 sr_200_0 ?_
  refine mm_iconst (v := 0) dX12_beside_5 rfl ?_
  refine mm_ialdN (0) dX12_beside_6 sa_201 (by omega) (by omega) ?_
  refine mm_top (v := nI (w)) hW.1 ?_
  refine mm_iremN (c) (w) dX12_beside_7 (by omega) (by omega) (by omega) ?_
  refine mm_iload_n 2 dX12_beside_8 rfl rfl ?_
  refine mm_if_ne (tgt := 16) dX12_beside_9 (by decide) (fun _ => ?_) (fun q => absurd q (by decide))
  refine mm_iload_n 2 dX12_beside_16 rfl rfl ?_
  refine mm_iconst (v := 1) dX12_beside_17 rfl ?_
  refine mm_icmp_ne (tgt := 25) dX12_beside_18 (by decide) (fun _ => ?_) (fun q => absurd q (by decide))
  refine mm_iconst (v := 0) dX12_beside_25 rfl ?_
  refine mm_iaddN ((c) % (w)) (0) dX12_beside_26 ?_
  refine mm_istore_n (ls' := [(3, .int (nI (((c) % (w)) + 0))), (0, .ref 200), (1, .int (nI (c))), (2, .int (2))]) dX12_beside_27 rfl (by decide) rfl ?_
  refine mm_iload_n 2 dX12_beside_28 rfl rfl ?_
  refine mm_aload_n 1 dX12_beside_29 rfl rfl ?_
  refine mm_getr (b := 201) dX12_beside_30 rfl fk_X12_9 rfl so_200 sr_200_0 ?_
  refine mm_iconst (v := 0) dX12_beside_33 rfl ?_
  refine mm_ialdN (0) dX12_beside_34 sa_201 (by omega) (by omega) ?_
  refine mm_at (pc' := 35) rfl ?_
  refine mm_top (v := nI (w)) hW.1 ?_
  refine mm_idivN (c) (w) dX12_beside_35 (by omega) (by omega) (by omega) ?_
  refine mm_iload_n 3 dX12_beside_36 rfl rfl ?_
  refine mm_iconst (v := 2) dX12_beside_37 rfl ?_
  refine mm_icmp_ne (tgt := 45) dX12_beside_38 (by decide) (fun q => absurd q (by decide)) (fun _ => ?_)
  refine mm_iconst (v := 1) dX12_beside_41 rfl ?_
  refine mm_goto (tgt := 55) dX12_beside_42 (by decide) ?_
  refine mm_iaddN ((c) / (w)) (1) dX12_beside_55 ?_
  refine mm_istore (ls' := [(4, .int (nI (((c) / (w)) + 1))), (3, .int (nI (((c) % (w)) + 0))), (0, .ref 200), (1, .int (nI (c))), (2, .int (2))]) dX12_beside_56 (by decide) rfl ?_
  refine mm_iload_n 1 dX12_beside_58 rfl rfl ?_
  refine mm_iconst (v := 0) dX12_beside_59 rfl ?_
  refine mm_aload_n 2 dX12_beside_60 rfl rfl ?_
  refine mm_getr (b := 201) dX12_beside_61 rfl fk_X12_9 rfl so_200 sr_200_0 ?_
  refine mm_iconst (v := 0) dX12_beside_64 rfl ?_
  refine mm_ialdN (0) dX12_beside_65 sa_201 (by omega) (by omega) ?_
  refine mm_at (pc' := 66) rfl ?_
  refine mm_top (v := nI (w)) hW.1 ?_
  refine mm_iconst (v := 1) dX12_beside_66 rfl ?_
  refine mm_isubN (w) (1) dX12_beside_67 (by omega) ?_
  refine mm_cS3i (dz := d - 1) dX12_beside_68 rfl mzX12_within ml_X12_82 imX12_within (by omega) (cm_withinN (a := ((c) % (w)) + 0) (b := w - 1) (by omega) (by omega)) (Nat.le_of_ble_eq_true rfl) ⟨Nat.le_refl _, Nat.le_refl _⟩ ?_
  refine mm_if_eqB (tgt := 105) dX12_beside_71 (by decide) (fun c71 => ?_) (fun c71 => ?_)
  · refine mm_iconst (v := -1) dX12_beside_105 rfl ?_
    refine mm_iret dX12_beside_106 rfl ⟨Nat.le_refl _, Nat.le_refl _⟩ ?_
    exact mm_li (by rw [sp_be_2]; first | (rw [if_pos (by omega)]; congr 1; first | omega | (simp only [Nat.add_zero]; omega) | (simp only [Nat.add_zero]; rw [Nat.add_mul, Nat.one_mul]; omega) | (simp only [Nat.add_zero]; rw [Nat.sub_mul, Nat.one_mul]; have hlw : w ≤ c / w * w := Nat.le_mul_of_pos_left w hz; omega)) | rw [if_neg (by omega)] | (exfalso; omega)) rfl hq
  · refine mm_iload 0 dX12_beside_74 rfl ?_
    refine mm_iconst (v := 0) dX12_beside_76 rfl ?_
    refine mm_aload_n 2 dX12_beside_77 rfl rfl ?_
    refine mm_getr (b := 201) dX12_beside_78 rfl fk_X12_9 rfl so_200 sr_200_0 ?_
    refine mm_iconst (v := 1) dX12_beside_81 rfl ?_
    refine mm_ialdN (1) dX12_beside_82 sa_201 (by omega) (by omega) ?_
    refine mm_top (v := nI (h)) hW.2.1 ?_
    refine mm_iconst (v := 1) dX12_beside_83 rfl ?_
    refine mm_at (pc' := 84) rfl ?_
    refine mm_isubN (h) (1) dX12_beside_84 (by omega) ?_
    refine mm_cS3i (dz := d - 1) dX12_beside_85 rfl mzX12_within ml_X12_82 imX12_within (by omega) (cm_withinN (a := ((c) / (w)) + 1) (b := h - 1) (by omega) (by omega)) (Nat.le_of_ble_eq_true rfl) ⟨Nat.le_refl _, Nat.le_refl _⟩ ?_
    refine mm_if_eqB (tgt := 105) dX12_beside_88 (by decide) (fun c88 => ?_) (fun c88 => ?_)
    · refine mm_iconst (v := -1) dX12_beside_105 rfl ?_
      refine mm_iret dX12_beside_106 rfl ⟨Nat.le_refl _, Nat.le_refl _⟩ ?_
      exact mm_li (by rw [sp_be_2]; first | (rw [if_pos (by omega)]; congr 1; first | omega | (simp only [Nat.add_zero]; omega) | (simp only [Nat.add_zero]; rw [Nat.add_mul, Nat.one_mul]; omega) | (simp only [Nat.add_zero]; rw [Nat.sub_mul, Nat.one_mul]; have hlw : w ≤ c / w * w := Nat.le_mul_of_pos_left w hz; omega)) | rw [if_neg (by omega)] | (exfalso; omega)) rfl hq
    · refine mm_iload 0 dX12_beside_91 rfl ?_
      refine mm_aload_n 2 dX12_beside_93 rfl rfl ?_
      refine mm_getr (b := 201) dX12_beside_94 rfl fk_X12_9 rfl so_200 sr_200_0 ?_
      refine mm_iconst (v := 0) dX12_beside_97 rfl ?_
      refine mm_ialdN (0) dX12_beside_98 sa_201 (by omega) (by omega) ?_
      refine mm_top (v := nI (w)) hW.1 ?_
      refine mm_imulN (((c) / (w)) + 1) (w) dX12_beside_99 ?_
      refine mm_iload_n 1 dX12_beside_100 rfl rfl ?_
      refine mm_at (pc' := 101) rfl ?_
      refine mm_iaddN ((((c) / (w)) + 1) * w) (((c) % (w)) + 0) dX12_beside_101 ?_
      refine mm_goto (tgt := 106) dX12_beside_102 (by decide) ?_
      refine mm_iret dX12_beside_106 rfl ⟨Nat.le_refl _, Nat.le_refl _⟩ ?_
      exact mm_li (by rw [sp_be_2]; first | (rw [if_pos (by omega)]; congr 1; first | omega | (simp only [Nat.add_zero]; omega) | (simp only [Nat.add_zero]; rw [Nat.add_mul, Nat.one_mul]; omega) | (simp only [Nat.add_zero]; rw [Nat.sub_mul, Nat.one_mul]; have hlw : w ≤ c / w * w := Nat.le_mul_of_pos_left w hz; omega)) | rw [if_neg (by omega)] | (exfalso; omega)) rfl hq
set_option maxRecDepth 100000 in
set_option maxHeartbeats 4000000 in
theorem cm_beside3a {g : mm_G} {I : mm_I} {d : Nat} {w h : Nat} (hW : mo_W (I 201) w h) {c : Nat} (hcc : c < w * h) (hz : c / w = 0) (hd : 1 ≤ d) : mm_Ci g zX12_beside d [.ref 200, .int (nI c), .int 3] sh_S I (sp_be w h c 3) I := by
  have hc := mo_W_c hW
  obtain ⟨-, -, hw1, hw2, hh1, hh2⟩ := id hW
  have hdm := sp_dm w c
  have hdl := sp_dl (by omega) hcc
  have hml := Nat.mod_lt c (show 0 < w by omega)
  refine mm_Ci_of (fun Q hq => ?_)
  refine mm_begin (ls := [(0, .ref 200), (1, .int (nI (c))), (2, .int (3))]) (Nat.le_of_ble_eq_true rfl) rfl rfl ?_
  refine mm_iload_n 1 dX12_beside_0 rfl rfl ?_
  refine mm_aload_n 0 dX12_beside_1 rfl rfl ?_
  refine mm_getr (b := 201) dX12_beside_2 rfl fk_X12_9 rfl so_200 sr_200_0 ?_
  refine mm_iconst (v := 0) dX12_beside_5 rfl ?_
  refine mm_ialdN (0) dX12_beside_6 sa_201 (by omega) (by omega) ?_
  refine mm_top (v := nI (w)) hW.1 ?_
  refine mm_iremN (c) (w) dX12_beside_7 (by omega) (by omega) (by omega) ?_
  refine mm_iload_n 2 dX12_beside_8 rfl rfl ?_
  refine mm_if_ne (tgt := 16) dX12_beside_9 (by decide) (fun _ => ?_) (fun q => absurd q (by decide))
  refine mm_iload_n 2 dX12_beside_16 rfl rfl ?_
  refine mm_iconst (v := 1) dX12_beside_17 rfl ?_
  refine mm_icmp_ne (tgt := 25) dX12_beside_18 (by decide) (fun _ => ?_) (fun q => absurd q (by decide))
  refine mm_iconst (v := 0) dX12_beside_25 rfl ?_
  refine mm_iaddN ((c) % (w)) (0) dX12_beside_26 ?_
  refine mm_istore_n (ls' := [(3, .int (nI (((c) % (w)) + 0))), (0, .ref 200), (1, .int (nI (c))), (2, .int (3))]) dX12_beside_27 rfl (by decide) rfl ?_
  refine mm_iload_n 2 dX12_beside_28 rfl rfl ?_
  refine mm_aload_n 1 dX12_beside_29 rfl rfl ?_
  refine mm_getr (b := 201) dX12_beside_30 rfl fk_X12_9 rfl so_200 sr_200_0 ?_
  refine mm_iconst (v := 0) dX12_beside_33 rfl ?_
  refine mm_ialdN (0) dX12_beside_34 sa_201 (by omega) (by omega) ?_
  refine mm_at (pc' := 35) rfl ?_
  refine mm_top (v := nI (w)) hW.1 ?_
  refine mm_idivN (c) (w) dX12_beside_35 (by omega) (by omega) (by omega) ?_
  refine mm_iload_n 3 dX12_beside_36 rfl rfl ?_
  refine mm_iconst (v := 2) dX12_beside_37 rfl ?_
  refine mm_icmp_ne (tgt := 45) dX12_beside_38 (by decide) (fun _ => ?_) (fun q => absurd q (by decide))
  refine mm_iload_n 3 dX12_beside_45 rfl rfl ?_
  refine mm_iconst (v := 3) dX12_beside_46 rfl ?_
  refine mm_icmp_ne (tgt := 54) dX12_beside_47 (by decide) (fun q => absurd q (by decide)) (fun _ => ?_)
  refine mm_iconst (v := -1) dX12_beside_50 rfl ?_
  refine mm_goto (tgt := 55) dX12_beside_51 (by decide) ?_
  refine mm_iadd dX12_beside_55 ?_
  refine mm_top (v := -1) (by rw [hz]; rfl) ?_
  refine mm_istore (ls' := [(4, .int (-1)), (3, .int (nI (((c) % (w)) + 0))), (0, .ref 200), (1, .int (nI (c))), (2, .int (3))]) dX12_beside_56 (by decide) rfl ?_
  refine mm_iload_n 1 dX12_beside_58 rfl rfl ?_
  refine mm_iconst (v := 0) dX12_beside_59 rfl ?_
  refine mm_aload_n 2 dX12_beside_60 rfl rfl ?_
  refine mm_getr (b := 201) dX12_beside_61 rfl fk_X12_9 rfl so_200 sr_200_0 ?_
  refine mm_iconst (v := 0) dX12_beside_64 rfl ?_
  refine mm_ialdN (0) dX12_beside_65 sa_201 (by omega) (by omega) ?_
  refine mm_at (pc' := 66) rfl ?_
  refine mm_top (v := nI (w)) hW.1 ?_
  refine mm_iconst (v := 1) dX12_beside_66 rfl ?_
  refine mm_isubN (w) (1) dX12_beside_67 (by omega) ?_
  refine mm_cS3i (dz := d - 1) dX12_beside_68 rfl mzX12_within ml_X12_82 imX12_within (by omega) (cm_withinN (a := ((c) % (w)) + 0) (b := w - 1) (by omega) (by omega)) (Nat.le_of_ble_eq_true rfl) ⟨Nat.le_refl _, Nat.le_refl _⟩ ?_
  refine mm_if_eqB (tgt := 105) dX12_beside_71 (by decide) (fun c71 => ?_) (fun c71 => ?_)
  · refine mm_iconst (v := -1) dX12_beside_105 rfl ?_
    refine mm_iret dX12_beside_106 rfl ⟨Nat.le_refl _, Nat.le_refl _⟩ ?_
    exact mm_li (by rw [sp_be_3]; first | (rw [if_pos (by omega)]; congr 1; first | omega | (simp only [Nat.add_zero]; omega) | (simp only [Nat.add_zero]; rw [Nat.add_mul, Nat.one_mul]; omega) | (simp only [Nat.add_zero]; rw [Nat.sub_mul, Nat.one_mul]; have hlw : w ≤ c / w * w := Nat.le_mul_of_pos_left w hz; omega)) | rw [if_neg (by omega)] | (exfalso; omega)) rfl hq
  · refine mm_iload 0 dX12_beside_74 rfl ?_
    refine mm_iconst (v := 0) dX12_beside_76 rfl ?_
    refine mm_aload_n 2 dX12_beside_77 rfl rfl ?_
    refine mm_getr (b := 201) dX12_beside_78 rfl fk_X12_9 rfl so_200 sr_200_0 ?_
    refine mm_iconst (v := 1) dX12_beside_81 rfl ?_
    refine mm_ialdN (1) dX12_beside_82 sa_201 (by omega) (by omega) ?_
    refine mm_top (v := nI (h)) hW.2.1 ?_
    refine mm_iconst (v := 1) dX12_beside_83 rfl ?_
    refine mm_at (pc' := 84) rfl ?_
    refine mm_isubN (h) (1) dX12_beside_84 (by omega) ?_
    refine mm_cS3i (dz := d - 1) dX12_beside_85 rfl mzX12_within ml_X12_82 imX12_within (by omega) cm_within (Nat.le_of_ble_eq_true rfl) ⟨Nat.le_refl _, Nat.le_refl _⟩ ?_
    refine mm_if_eqB (tgt := 105) dX12_beside_88 (by decide) (fun c88 => ?_) (fun c88 => ?_)
    · refine mm_iconst (v := -1) dX12_beside_105 rfl ?_
      refine mm_iret dX12_beside_106 rfl ⟨Nat.le_refl _, Nat.le_refl _⟩ ?_
      exact mm_li (by rw [sp_be_3]; first | (rw [if_pos (by omega)]; congr 1; first | omega | (simp only [Nat.add_zero]; omega) | (simp only [Nat.add_zero]; rw [Nat.add_mul, Nat.one_mul]; omega) | (simp only [Nat.add_zero]; rw [Nat.sub_mul, Nat.one_mul]; have hlw : w ≤ c / w * w := Nat.le_mul_of_pos_left w hz; omega)) | rw [if_neg (by omega)] | (exfalso; omega)) rfl hq
    · exact absurd c88.1 (by decide)
set_option maxRecDepth 100000 in
set_option maxHeartbeats 4000000 in
theorem cm_beside3b {g : mm_G} {I : mm_I} {d : Nat} {w h : Nat} (hW : mo_W (I 201) w h) {c : Nat} (hcc : c < w * h) (hz : 0 < c / w) (hd : 1 ≤ d) : mm_Ci g zX12_beside d [.ref 200, .int (nI c), .int 3] sh_S I (sp_be w h c 3) I := by
  have hc := mo_W_c hW
  obtain ⟨-, -, hw1, hw2, hh1, hh2⟩ := id hW
  have hdm := sp_dm w c
  have hdl := sp_dl (by omega) hcc
  have hml := Nat.mod_lt c (show 0 < w by omega)
  refine mm_Ci_of (fun Q hq => ?_)
  refine mm_begin (ls := [(0, .ref 200), (1, .int (nI (c))), (2, .int (3))]) (Nat.le_of_ble_eq_true rfl) rfl rfl ?_
  refine mm_iload_n 1 dX12_beside_0 rfl rfl ?_
  refine mm_aload_n 0 dX12_beside_1 rfl rfl ?_
  refine mm_getr (b := 201) dX12_beside_2 rfl fk_X12_9 rfl so_200 sr_200_0 ?_
  refine mm_iconst (v := 0) dX12_beside_5 rfl ?_
  refine mm_ialdN (0) dX12_beside_6 sa_201 (by omega) (by omega) ?_
  refine mm_top (v := nI (w)) hW.1 ?_
  refine mm_iremN (c) (w) dX12_beside_7 (by omega) (by omega) (by omega) ?_
  refine mm_iload_n 2 dX12_beside_8 rfl rfl ?_
  refine mm_if_ne (tgt := 16) dX12_beside_9 (by decide) (fun _ => ?_) (fun q => absurd q (by decide))
  refine mm_iload_n 2 dX12_beside_16 rfl rfl ?_
  refine mm_iconst (v := 1) dX12_beside_17 rfl ?_
  refine mm_icmp_ne (tgt := 25) dX12_beside_18 (by decide) (fun _ => ?_) (fun q => absurd q (by decide))
  refine mm_iconst (v := 0) dX12_beside_25 rfl ?_
  refine mm_iaddN ((c) % (w)) (0) dX12_beside_26 ?_
  refine mm_istore_n (ls' := [(3, .int (nI (((c) % (w)) + 0))), (0, .ref 200), (1, .int (nI (c))), (2, .int (3))]) dX12_beside_27 rfl (by decide) rfl ?_
  refine mm_iload_n 2 dX12_beside_28 rfl rfl ?_
  refine mm_aload_n 1 dX12_beside_29 rfl rfl ?_
  refine mm_getr (b := 201) dX12_beside_30 rfl fk_X12_9 rfl so_200 sr_200_0 ?_
  refine mm_iconst (v := 0) dX12_beside_33 rfl ?_
  refine mm_ialdN (0) dX12_beside_34 sa_201 (by omega) (by omega) ?_
  refine mm_at (pc' := 35) rfl ?_
  refine mm_top (v := nI (w)) hW.1 ?_
  refine mm_idivN (c) (w) dX12_beside_35 (by omega) (by omega) (by omega) ?_
  refine mm_iload_n 3 dX12_beside_36 rfl rfl ?_
  refine mm_iconst (v := 2) dX12_beside_37 rfl ?_
  refine mm_icmp_ne (tgt := 45) dX12_beside_38 (by decide) (fun _ => ?_) (fun q => absurd q (by decide))
  refine mm_iload_n 3 dX12_beside_45 rfl rfl ?_
  refine mm_iconst (v := 3) dX12_beside_46 rfl ?_
  refine mm_icmp_ne (tgt := 54) dX12_beside_47 (by decide) (fun q => absurd q (by decide)) (fun _ => ?_)
  refine mm_iconst (v := -1) dX12_beside_50 rfl ?_
  refine mm_goto (tgt := 55) dX12_beside_51 (by decide) ?_
  refine mm_iadd dX12_beside_55 ?_
  refine mm_top (v := nI (c / w - 1)) (sb_m1 hz) ?_
  refine mm_istore (ls' := [(4, .int (nI (c / w - 1))), (3, .int (nI (((c) % (w)) + 0))), (0, .ref 200), (1, .int (nI (c))), (2, .int (3))]) dX12_beside_56 (by decide) rfl ?_
  refine mm_iload_n 1 dX12_beside_58 rfl rfl ?_
  refine mm_iconst (v := 0) dX12_beside_59 rfl ?_
  refine mm_aload_n 2 dX12_beside_60 rfl rfl ?_
  refine mm_getr (b := 201) dX12_beside_61 rfl fk_X12_9 rfl so_200 sr_200_0 ?_
  refine mm_iconst (v := 0) dX12_beside_64 rfl ?_
  refine mm_ialdN (0) dX12_beside_65 sa_201 (by omega) (by omega) ?_
  refine mm_at (pc' := 66) rfl ?_
  refine mm_top (v := nI (w)) hW.1 ?_
  refine mm_iconst (v := 1) dX12_beside_66 rfl ?_
  refine mm_isubN (w) (1) dX12_beside_67 (by omega) ?_
  refine mm_cS3i (dz := d - 1) dX12_beside_68 rfl mzX12_within ml_X12_82 imX12_within (by omega) (cm_withinN (a := ((c) % (w)) + 0) (b := w - 1) (by omega) (by omega)) (Nat.le_of_ble_eq_true rfl) ⟨Nat.le_refl _, Nat.le_refl _⟩ ?_
  refine mm_if_eqB (tgt := 105) dX12_beside_71 (by decide) (fun c71 => ?_) (fun c71 => ?_)
  · refine mm_iconst (v := -1) dX12_beside_105 rfl ?_
    refine mm_iret dX12_beside_106 rfl ⟨Nat.le_refl _, Nat.le_refl _⟩ ?_
    exact mm_li (by rw [sp_be_3]; first | (rw [if_pos (by omega)]; congr 1; first | omega | (simp only [Nat.add_zero]; omega) | (simp only [Nat.add_zero]; rw [Nat.add_mul, Nat.one_mul]; omega) | (simp only [Nat.add_zero]; rw [Nat.sub_mul, Nat.one_mul]; have hlw : w ≤ c / w * w := Nat.le_mul_of_pos_left w hz; omega)) | rw [if_neg (by omega)] | (exfalso; omega)) rfl hq
  · refine mm_iload 0 dX12_beside_74 rfl ?_
    refine mm_iconst (v := 0) dX12_beside_76 rfl ?_
    refine mm_aload_n 2 dX12_beside_77 rfl rfl ?_
    refine mm_getr (b := 201) dX12_beside_78 rfl fk_X12_9 rfl so_200 sr_200_0 ?_
    refine mm_iconst (v := 1) dX12_beside_81 rfl ?_
    refine mm_ialdN (1) dX12_beside_82 sa_201 (by omega) (by omega) ?_
    refine mm_top (v := nI (h)) hW.2.1 ?_
    refine mm_iconst (v := 1) dX12_beside_83 rfl ?_
    refine mm_at (pc' := 84) rfl ?_
    refine mm_isubN (h) (1) dX12_beside_84 (by omega) ?_
    refine mm_cS3i (dz := d - 1) dX12_beside_85 rfl mzX12_within ml_X12_82 imX12_within (by omega) (cm_withinN (a := c / w - 1) (b := h - 1) (by omega) (by omega)) (Nat.le_of_ble_eq_true rfl) ⟨Nat.le_refl _, Nat.le_refl _⟩ ?_
    refine mm_if_eqB (tgt := 105) dX12_beside_88 (by decide) (fun c88 => ?_) (fun c88 => ?_)
    · refine mm_iconst (v := -1) dX12_beside_105 rfl ?_
      refine mm_iret dX12_beside_106 rfl ⟨Nat.le_refl _, Nat.le_refl _⟩ ?_
      exact mm_li (by rw [sp_be_3]; first | (rw [if_pos (by omega)]; congr 1; first | omega | (simp only [Nat.add_zero]; omega) | (simp only [Nat.add_zero]; rw [Nat.add_mul, Nat.one_mul]; omega) | (simp only [Nat.add_zero]; rw [Nat.sub_mul, Nat.one_mul]; have hlw : w ≤ c / w * w := Nat.le_mul_of_pos_left w hz; omega)) | rw [if_neg (by omega)] | (exfalso; omega)) rfl hq
    · refine mm_iload 0 dX12_beside_91 rfl ?_
      refine mm_aload_n 2 dX12_beside_93 rfl rfl ?_
      refine mm_getr (b := 201) dX12_beside_94 rfl fk_X12_9 rfl so_200 sr_200_0 ?_
      refine mm_iconst (v := 0) dX12_beside_97 rfl ?_
      refine mm_ialdN (0) dX12_beside_98 sa_201 (by omega) (by omega) ?_
      refine mm_top (v := nI (w)) hW.1 ?_
      refine mm_imulN (c / w - 1) (w) dX12_beside_99 ?_
      refine mm_iload_n 1 dX12_beside_100 rfl rfl ?_
      refine mm_at (pc' := 101) rfl ?_
      refine mm_iaddN ((c / w - 1) * w) (((c) % (w)) + 0) dX12_beside_101 ?_
      refine mm_goto (tgt := 106) dX12_beside_102 (by decide) ?_
      refine mm_iret dX12_beside_106 rfl ⟨Nat.le_refl _, Nat.le_refl _⟩ ?_
      exact mm_li (by rw [sp_be_3]; first | (rw [if_pos (by omega)]; congr 1; first | omega | (simp only [Nat.add_zero]; omega) | (simp only [Nat.add_zero]; rw [Nat.add_mul, Nat.one_mul]; omega) | (simp only [Nat.add_zero]; rw [Nat.sub_mul, Nat.one_mul]; have hlw : w ≤ c / w * w := Nat.le_mul_of_pos_left w hz; omega)) | rw [if_neg (by omega)] | (exfalso; omega)) rfl hq
theorem cm_beside {g : mm_G} {I : mm_I} {d : Nat} {w h : Nat} (hW : mo_W (I 201) w h) {c : Nat} (hcc : c < w * h) (hd : 1 ≤ d) {y : Nat} (hy : y < 4) : mm_Ci g zX12_beside d [.ref 200, .int (nI c), .int (nI y)] sh_S I (sp_be w h c y) I := by
  rcases (show y = 0 ∨ y = 1 ∨ y = 2 ∨ y = 3 by omega) with rfl | rfl | rfl | rfl
  · exact cm_beside0 hW hcc hd
  · rcases Nat.eq_zero_or_pos (c % w) with q | q
    · exact cm_beside1a hW hcc q hd
    · exact cm_beside1b hW hcc q hd
  · exact cm_beside2 hW hcc hd
  · rcases Nat.eq_zero_or_pos (c / w) with q | q
    · exact cm_beside3a hW hcc q hd
    · exact cm_beside3b hW hcc q hd
