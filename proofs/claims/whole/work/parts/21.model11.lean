theorem hp_n_le {N : Nat → Int32} {up : Int32} {bm : Nat} {best : Nat → Int32} {x : hp_S} (h : x.2.2.1 ≤ bm) : (hp_n N up bm best x).2.2.1 ≤ bm := by
  obtain ⟨b, p, a, lf⟩ := x
  replace h : a ≤ bm := h
  by_cases e : a < bm
  · unfold hp_n
    split
    · exact h
    · exact e
  · rw [hp_n_a e]; exact h
theorem hp_r_a {N W : Nat → Int32} {up : Int32} {many bm : Nat} {best : Nat → Int32} : ∀ t, (hp_r N W up many bm best t).1.2.2.1 ≤ bm := by
  intro t
  induction t with
  | zero => exact Nat.zero_le _
  | succ t ih => exact hp_n_le ih
set_option maxRecDepth 100000 in
set_option maxHeartbeats 600000 in
theorem lm_hp {g : mm_G} {I : mm_I} {d : Nat} {Q : Option Value → mm_Sh → mm_I → Prop} {l : Nat} (hl : I 201 15 = nI l) (hl8 : l ≤ 8) {n many bm : Nat} {best : Nat → Int32} (hbm : I 200 26 = nI bm) (hb6 : bm ≤ 6) (hB : ∀ i, i < bm → ∃ w, w < 6 ∧ I 212 i = nI w ∧ best i = nI w) (hm100 : many ≤ 100) (hn : n ≤ 24) (hd : 1 ≤ d) (hq : Q none sh_S (hd_m I (hp_r (I 201) (I 204) (sp_pb (I 201) 0 l) many bm best n).2)) : ∀ (m : Nat) (i : Nat), (i ≤ n) → n - i < m → mm_Ex g zX12_holdPlan d (0, 0) (0, 0) sh_S (hd_m I (hp_r (I 201) (I 204) (sp_pb (I 201) 0 l) many bm best i).2) 49 [(7, .int (nI (i))), (3, .int ((hp_r (I 201) (I 204) (sp_pb (I 201) 0 l) many bm best i).1.1)), (4, .int ((hp_r (I 201) (I 204) (sp_pb (I 201) 0 l) many bm best i).1.2.1)), (5, .int (nI ((hp_r (I 201) (I 204) (sp_pb (I 201) 0 l) many bm best i).1.2.2.1))), (6, .int ((hp_r (I 201) (I 204) (sp_pb (I 201) 0 l) many bm best i).1.2.2.2)), (0, .ref 200), (1, .int (nI (n))), (2, .int (nI (many)))] [] Q := by
  intro m
  induction m with
  | zero => intro i hi hmz; exact absurd hmz (Nat.not_lt_zero _)
  | succ m ih =>
    intro i hi hmz
    have hsl := hp_r_le (N := I 201) (W := I 204) (up := (sp_pb (I 201) 0 l)) (many := many) (bm := bm) (best := best) i
    have hal := hp_r_a (N := I 201) (W := I 204) (up := (sp_pb (I 201) 0 l)) (many := many) (bm := bm) (best := best) i
    have step : hp_r (I 201) (I 204) (sp_pb (I 201) 0 l) many bm best (i + 1) = (hp_n (I 201) (sp_pb (I 201) 0 l) bm best (hp_r (I 201) (I 204) (sp_pb (I 201) 0 l) many bm best i).1, hd_f (I 204) many (hd_f (I 204) many (hp_r (I 201) (I 204) (sp_pb (I 201) 0 l) many bm best i).2 (hp_w bm best (hp_r (I 201) (I 204) (sp_pb (I 201) 0 l) many bm best i).1.2.2.1)) (hp_b (I 201) (sp_pb (I 201) 0 l) (hp_w bm best (hp_r (I 201) (I 204) (sp_pb (I 201) 0 l) many bm best i).1.2.2.1) (hp_r (I 201) (I 204) (sp_pb (I 201) 0 l) many bm best i).1.1 (hp_r (I 201) (I 204) (sp_pb (I 201) 0 l) many bm best i).1.2.1)) := rfl
    by_cases hin : i = n
    · subst hin
      refine mm_iload 0 dX12_holdPlan_49 rfl ?_
      refine mm_iload_n 6 dX12_holdPlan_51 rfl rfl ?_
      refine mm_icmp_geN i i (tgt := 197) dX12_holdPlan_52 (by decide) (by omega) (by omega) (fun _ => ?_) (fun q => absurd q (by omega))
      exact mm_vret dX12_holdPlan_197 rfl ⟨Nat.le_refl _, Nat.le_refl _⟩ hq
    generalize hX : (hp_r (I 201) (I 204) (sp_pb (I 201) 0 l) many bm best i) = X at step hsl hal ⊢
    obtain ⟨⟨b, p, a, lf⟩, sy⟩ := X
    replace hsl : sy.1 ≤ many := hsl
    replace hal : a ≤ bm := hal
    replace step : hp_r (I 201) (I 204) (sp_pb (I 201) 0 l) many bm best (i + 1) = (hp_n (I 201) (sp_pb (I 201) 0 l) bm best (b, p, a, lf), hd_f (I 204) many (hd_f (I 204) many sy (hp_w bm best a)) (hp_b (I 201) (sp_pb (I 201) 0 l) (hp_w bm best a) b p)) := step
    show mm_Ex g zX12_holdPlan d (0, 0) (0, 0) sh_S (hd_m I sy) 49 [(7, .int (nI (i))), (3, .int (b)), (4, .int (p)), (5, .int (nI (a))), (6, .int (lf)), (0, .ref 200), (1, .int (nI (n))), (2, .int (nI (many)))] [] Q
    refine mm_iload 0 dX12_holdPlan_49 rfl ?_
    refine mm_iload_n 6 dX12_holdPlan_51 rfl rfl ?_
    refine mm_icmp_geN (i) (n) (tgt := 197) dX12_holdPlan_52 (by decide) (by omega) (by omega) (fun c52 => ?_) (fun c52 => ?_)
    · exact absurd c52 (by omega)
    · refine mm_iload 3 dX12_holdPlan_55 rfl ?_
      refine mm_aload_n 5 dX12_holdPlan_57 rfl rfl ?_
      refine mm_geti dX12_holdPlan_58 rfl fk_X12_353 rfl so_200 ?_
      refine mm_top (v := nI (bm)) ((hd_m_n (fun _ => ⟨by decide, by decide⟩)).trans hbm) ?_
      refine mm_icmp_geN (a) (bm) (tgt := 74) dX12_holdPlan_61 (by decide) (by omega) (by omega) (fun c61 => ?_) (fun c61 => ?_)
      · refine mm_iconst (v := -1) dX12_holdPlan_74 rfl ?_
        refine mm_istore (ls' := [(8, .int (-1)), (7, .int (nI (i))), (3, .int (b)), (4, .int (p)), (5, .int (nI (a))), (6, .int (lf)), (0, .ref 200), (1, .int (nI (n))), (2, .int (nI (many)))]) dX12_holdPlan_75 (by decide) rfl ?_
        refine mm_sipush (v := 9999) dX12_holdPlan_77 rfl ?_
        refine mm_iload_n 2 dX12_holdPlan_80 rfl rfl ?_
        refine mm_iload 3 dX12_holdPlan_81 rfl ?_
        refine mm_iadd dX12_holdPlan_83 ?_
        refine mm_min dX12_holdPlan_84 rfl ml_X12_106 jm_min (by omega) (Nat.le_of_ble_eq_true rfl) ⟨Nat.le_refl _, Nat.le_refl _⟩ ?_
        refine mm_aload_n 6 dX12_holdPlan_87 rfl rfl ?_
        refine mm_at (pc' := 88) rfl ?_
        refine mm_iconst (v := 0) dX12_holdPlan_88 rfl ?_
        refine mm_cV1i (dz := d - 1) dX12_holdPlan_89 rfl mzX12_powerBut ml_X12_332 imX12_powerBut (by omega) so_200 ⟨rfl, rfl⟩ (cm_powerButM hl hl8) (Nat.le_of_ble_eq_true rfl) ⟨Nat.le_refl _, Nat.le_refl _⟩ ?_
        refine mm_isub dX12_holdPlan_92 ?_
        refine mm_iload 0 dX12_holdPlan_93 rfl ?_
        refine mm_if_ge (tgt := 102) dX12_holdPlan_95 (by decide) (fun q => absurd q (by decide)) (fun _ => ?_)
        refine mm_iconst (v := 0) dX12_holdPlan_98 rfl ?_
        refine mm_goto (tgt := 113) dX12_holdPlan_99 (by decide) ?_
        refine mm_isub dX12_holdPlan_113 ?_
        refine mm_istore_n (ls' := [(3, .int (((if b + p < 9999 then b + p else 9999) - (sp_pb (I 201) 0 l)) - 0)), (8, .int (-1)), (7, .int (nI (i))), (4, .int (p)), (5, .int (nI (a))), (6, .int (lf)), (0, .ref 200), (1, .int (nI (n))), (2, .int (nI (many)))]) dX12_holdPlan_114 rfl (by decide) rfl ?_
        refine mm_aload_n 6 dX12_holdPlan_115 rfl rfl ?_
        refine mm_iload 1 dX12_holdPlan_116 rfl ?_
        refine mm_iload_n 8 dX12_holdPlan_118 rfl rfl ?_
        refine mm_cV2v (dz := d - 1) dX12_holdPlan_119 rfl mzX12_hold ml_X12_379 imX12_hold (by omega) so_200 ⟨rfl, rfl⟩ (cm_holdM (by first | exact hsl | exact hd_f_le hsl) hm100) (Nat.le_of_ble_eq_true rfl) ⟨Nat.le_refl _, Nat.le_refl _⟩ ?_
        refine mm_aload_n 6 dX12_holdPlan_122 rfl rfl ?_
        refine mm_iload_n 0 dX12_holdPlan_123 rfl rfl ?_
        refine mm_at (pc' := 124) rfl ?_
        refine mm_iload_n 8 dX12_holdPlan_124 rfl rfl ?_
        refine mm_cV2v (dz := d - 1) dX12_holdPlan_125 rfl mzX12_hold ml_X12_379 imX12_hold (by omega) so_200 ⟨rfl, rfl⟩ (cm_holdM (by first | exact hsl | exact hd_f_le hsl) hm100) (Nat.le_of_ble_eq_true rfl) ⟨Nat.le_refl _, Nat.le_refl _⟩ ?_
        refine mm_iinc (v := lf + (-1)) (ls' := [(6, .int (lf + (-1))), (3, .int (((if b + p < 9999 then b + p else 9999) - (sp_pb (I 201) 0 l)) - 0)), (8, .int (-1)), (7, .int (nI (i))), (4, .int (p)), (5, .int (nI (a))), (0, .ref 200), (1, .int (nI (n))), (2, .int (nI (many)))]) 5 dX12_holdPlan_128 rfl rfl (by decide) rfl ?_
        refine mm_iload 2 dX12_holdPlan_131 rfl ?_
        refine mm_if_lt (tgt := 191) dX12_holdPlan_133 (by decide) (fun _ => ?_) (fun q => absurd (by decide) q)
        refine mm_iincN (ls' := [(7, .int (nI (i + 1))), (6, .int (lf + (-1))), (3, .int (((if b + p < 9999 then b + p else 9999) - (sp_pb (I 201) 0 l)) - 0)), (8, .int (-1)), (4, .int (p)), (5, .int (nI (a))), (0, .ref 200), (1, .int (nI (n))), (2, .int (nI (many)))]) 3 (i) 1 dX12_holdPlan_191 rfl rfl (by decide) rfl ?_
        refine mm_goto (tgt := 49) dX12_holdPlan_194 (by decide) ?_
        rw [hp_n_a (show ¬ a < bm by omega), hp_w_a (show ¬ a < bm by omega), hp_b_a] at step
        have hh := ih (i + 1) (by omega) (by omega)
        rw [step] at hh
        exact mm_sub [0, 2, 4, 5, 1, 6, 7, 8] rfl hh
      · obtain ⟨wv, hwv, ewv, fwv⟩ := hB (a) (by omega)
        refine mm_aload_n 5 dX12_holdPlan_64 rfl rfl ?_
        refine mm_getr (b := 212) dX12_holdPlan_65 rfl fk_X12_68 rfl so_200 sr_200_25 ?_
        refine mm_iload 3 dX12_holdPlan_68 rfl ?_
        refine mm_ialdN (a) dX12_holdPlan_70 sa_212 (by omega) (by omega) ?_
        refine mm_top (v := nI (wv)) ((hd_m_n (fun q => absurd q (by decide))).trans ewv) ?_
        refine mm_goto (tgt := 75) dX12_holdPlan_71 (by decide) ?_
        refine mm_istore (ls' := [(8, .int (nI (wv))), (7, .int (nI (i))), (3, .int (b)), (4, .int (p)), (5, .int (nI (a))), (6, .int (lf)), (0, .ref 200), (1, .int (nI (n))), (2, .int (nI (many)))]) dX12_holdPlan_75 (by decide) rfl ?_
        refine mm_sipush (v := 9999) dX12_holdPlan_77 rfl ?_
        refine mm_iload_n 2 dX12_holdPlan_80 rfl rfl ?_
        refine mm_iload 3 dX12_holdPlan_81 rfl ?_
        refine mm_iadd dX12_holdPlan_83 ?_
        refine mm_min dX12_holdPlan_84 rfl ml_X12_106 jm_min (by omega) (Nat.le_of_ble_eq_true rfl) ⟨Nat.le_refl _, Nat.le_refl _⟩ ?_
        refine mm_aload_n 6 dX12_holdPlan_87 rfl rfl ?_
        refine mm_iconst (v := 0) dX12_holdPlan_88 rfl ?_
        refine mm_at (pc' := 89) rfl ?_
        refine mm_cV1i (dz := d - 1) dX12_holdPlan_89 rfl mzX12_powerBut ml_X12_332 imX12_powerBut (by omega) so_200 ⟨rfl, rfl⟩ (cm_powerButM hl hl8) (Nat.le_of_ble_eq_true rfl) ⟨Nat.le_refl _, Nat.le_refl _⟩ ?_
        refine mm_isub dX12_holdPlan_92 ?_
        refine mm_iload 0 dX12_holdPlan_93 rfl ?_
        refine mm_if_geN (wv) (tgt := 102) dX12_holdPlan_95 (by decide) (by omega) ?_
        refine mm_aload_n 6 dX12_holdPlan_102 rfl rfl ?_
        refine mm_getr (b := 201) dX12_holdPlan_103 rfl fk_X12_9 rfl so_200 sr_200_0 ?_
        refine mm_sipush (v := 612) dX12_holdPlan_106 rfl ?_
        refine mm_iload 0 dX12_holdPlan_109 rfl ?_
        refine mm_iaddN (612) (wv) dX12_holdPlan_111 ?_
        refine mm_ialdN (612 + wv) dX12_holdPlan_112 sa_201 (by omega) (by omega) ?_
        refine mm_top (v := I 201 (612 + wv)) (hd_m_n (fun q => absurd q (by decide))) ?_
        refine mm_isub dX12_holdPlan_113 ?_
        refine mm_istore_n (ls' := [(3, .int (((if b + p < 9999 then b + p else 9999) - (sp_pb (I 201) 0 l)) - (I 201 (612 + wv)))), (8, .int (nI (wv))), (7, .int (nI (i))), (4, .int (p)), (5, .int (nI (a))), (6, .int (lf)), (0, .ref 200), (1, .int (nI (n))), (2, .int (nI (many)))]) dX12_holdPlan_114 rfl (by decide) rfl ?_
        refine mm_at (pc' := 115) rfl ?_
        refine mm_aload_n 6 dX12_holdPlan_115 rfl rfl ?_
        refine mm_iload 1 dX12_holdPlan_116 rfl ?_
        refine mm_iload_n 8 dX12_holdPlan_118 rfl rfl ?_
        refine mm_cV2v (dz := d - 1) dX12_holdPlan_119 rfl mzX12_hold ml_X12_379 imX12_hold (by omega) so_200 ⟨rfl, rfl⟩ (cm_holdM (by first | exact hsl | exact hd_f_le hsl) hm100) (Nat.le_of_ble_eq_true rfl) ⟨Nat.le_refl _, Nat.le_refl _⟩ ?_
        refine mm_aload_n 6 dX12_holdPlan_122 rfl rfl ?_
        refine mm_iload_n 0 dX12_holdPlan_123 rfl rfl ?_
        refine mm_iload_n 8 dX12_holdPlan_124 rfl rfl ?_
        refine mm_cV2v (dz := d - 1) dX12_holdPlan_125 rfl mzX12_hold ml_X12_379 imX12_hold (by omega) so_200 ⟨rfl, rfl⟩ (cm_holdM (by first | exact hsl | exact hd_f_le hsl) hm100) (Nat.le_of_ble_eq_true rfl) ⟨Nat.le_refl _, Nat.le_refl _⟩ ?_
        refine mm_at (pc' := 128) rfl ?_
        refine mm_iinc (v := lf + (-1)) (ls' := [(6, .int (lf + (-1))), (3, .int (((if b + p < 9999 then b + p else 9999) - (sp_pb (I 201) 0 l)) - (I 201 (612 + wv)))), (8, .int (nI (wv))), (7, .int (nI (i))), (4, .int (p)), (5, .int (nI (a))), (0, .ref 200), (1, .int (nI (n))), (2, .int (nI (many)))]) 5 dX12_holdPlan_128 rfl rfl (by decide) rfl ?_
        refine mm_iload 2 dX12_holdPlan_131 rfl ?_
        refine mm_if_ltN (wv) (tgt := 191) dX12_holdPlan_133 (by decide) (by omega) ?_
        refine mm_iload 0 dX12_holdPlan_136 rfl ?_
        refine mm_if_ne (tgt := 191) dX12_holdPlan_138 (by decide) (fun c138 => ?_) (fun c138 => ?_)
        · refine mm_iincN (ls' := [(7, .int (nI (i + 1))), (6, .int (lf + (-1))), (3, .int (((if b + p < 9999 then b + p else 9999) - (sp_pb (I 201) 0 l)) - (I 201 (612 + wv)))), (8, .int (nI (wv))), (4, .int (p)), (5, .int (nI (a))), (0, .ref 200), (1, .int (nI (n))), (2, .int (nI (many)))]) 3 (i) 1 dX12_holdPlan_191 rfl rfl (by decide) rfl ?_
          refine mm_goto (tgt := 49) dX12_holdPlan_194 (by decide) ?_
          rw [hp_n_b (show a < bm by omega) fwv c138, hp_w_b (show a < bm by omega) fwv, hp_b_b hwv] at step
          have hh := ih (i + 1) (by omega) (by omega)
          rw [step] at hh
          exact mm_sub [0, 2, 4, 5, 1, 6, 7, 8] rfl hh
        · refine mm_iload 4 dX12_holdPlan_141 rfl ?_
          refine mm_aload_n 6 dX12_holdPlan_143 rfl rfl ?_
          refine mm_getr (b := 201) dX12_holdPlan_144 rfl fk_X12_9 rfl so_200 sr_200_0 ?_
          refine mm_sipush (v := 618) dX12_holdPlan_147 rfl ?_
          refine mm_iload 2 dX12_holdPlan_150 rfl ?_
          refine mm_iaddN (618) (wv) dX12_holdPlan_152 ?_
          refine mm_ialdN (618 + wv) dX12_holdPlan_153 sa_201 (by omega) (by omega) ?_
          refine mm_at (pc' := 154) rfl ?_
          refine mm_top (v := I 201 (618 + wv)) (hd_m_n (fun q => absurd q (by decide))) ?_
          refine mm_iadd dX12_holdPlan_154 ?_
          refine mm_istore (ls' := [(4, .int (p + (I 201 (618 + wv)))), (6, .int (lf + (-1))), (3, .int (((if b + p < 9999 then b + p else 9999) - (sp_pb (I 201) 0 l)) - (I 201 (612 + wv)))), (8, .int (nI (wv))), (7, .int (nI (i))), (5, .int (nI (a))), (0, .ref 200), (1, .int (nI (n))), (2, .int (nI (many)))]) dX12_holdPlan_155 (by decide) rfl ?_
          refine mm_iincN (ls' := [(5, .int (nI (a + 1))), (4, .int (p + (I 201 (618 + wv)))), (6, .int (lf + (-1))), (3, .int (((if b + p < 9999 then b + p else 9999) - (sp_pb (I 201) 0 l)) - (I 201 (612 + wv)))), (8, .int (nI (wv))), (7, .int (nI (i))), (0, .ref 200), (1, .int (nI (n))), (2, .int (nI (many)))]) 5 (a) 1 dX12_holdPlan_157 rfl rfl (by decide) rfl ?_
          refine mm_iload 0 dX12_holdPlan_160 rfl ?_
          refine mm_aload_n 6 dX12_holdPlan_162 rfl rfl ?_
          refine mm_geti dX12_holdPlan_163 rfl fk_X12_353 rfl so_200 ?_
          refine mm_top (v := nI (bm)) ((hd_m_n (fun _ => ⟨by decide, by decide⟩)).trans hbm) ?_
          refine mm_icmp_geN (a + 1) (bm) (tgt := 188) dX12_holdPlan_166 (by decide) (by omega) (by omega) (fun c166 => ?_) (fun c166 => ?_)
          · refine mm_iconst (v := 0) dX12_holdPlan_188 rfl ?_
            refine mm_istore (ls' := [(6, .int (0)), (5, .int (nI (a + 1))), (4, .int (p + (I 201 (618 + wv)))), (3, .int (((if b + p < 9999 then b + p else 9999) - (sp_pb (I 201) 0 l)) - (I 201 (612 + wv)))), (8, .int (nI (wv))), (7, .int (nI (i))), (0, .ref 200), (1, .int (nI (n))), (2, .int (nI (many)))]) dX12_holdPlan_189 (by decide) rfl ?_
            refine mm_iincN (ls' := [(7, .int (nI (i + 1))), (6, .int (0)), (5, .int (nI (a + 1))), (4, .int (p + (I 201 (618 + wv)))), (3, .int (((if b + p < 9999 then b + p else 9999) - (sp_pb (I 201) 0 l)) - (I 201 (612 + wv)))), (8, .int (nI (wv))), (0, .ref 200), (1, .int (nI (n))), (2, .int (nI (many)))]) 5 (i) 1 dX12_holdPlan_191 rfl rfl (by decide) rfl ?_
            refine mm_goto (tgt := 49) dX12_holdPlan_194 (by decide) ?_
            rw [hp_n_c (show a < bm by omega) fwv hwv c138, hp_w_b (show a < bm by omega) fwv, hp_b_b hwv, if_neg (show ¬ a + 1 < bm by omega)] at step
            have hh := ih (i + 1) (by omega) (by omega)
            rw [step] at hh
            exact mm_sub [0, 4, 3, 2, 1, 6, 7, 8] rfl hh
          · obtain ⟨wx, hwx, ewx, fwx⟩ := hB (a + 1) (by omega)
            refine mm_aload_n 6 dX12_holdPlan_169 rfl rfl ?_
            refine mm_getr (b := 201) dX12_holdPlan_170 rfl fk_X12_9 rfl so_200 sr_200_0 ?_
            refine mm_sipush (v := 606) dX12_holdPlan_173 rfl ?_
            refine mm_aload_n 6 dX12_holdPlan_176 rfl rfl ?_
            refine mm_getr (b := 212) dX12_holdPlan_177 rfl fk_X12_68 rfl so_200 sr_200_25 ?_
            refine mm_iload 0 dX12_holdPlan_180 rfl ?_
            refine mm_ialdN (a + 1) dX12_holdPlan_182 sa_212 (by omega) (by omega) ?_
            refine mm_at (pc' := 183) rfl ?_
            refine mm_top (v := nI (wx)) ((hd_m_n (fun q => absurd q (by decide))).trans ewx) ?_
            refine mm_iaddN (606) (wx) dX12_holdPlan_183 ?_
            refine mm_ialdN (606 + wx) dX12_holdPlan_184 sa_201 (by omega) (by omega) ?_
            refine mm_top (v := I 201 (606 + wx)) (hd_m_n (fun q => absurd q (by decide))) ?_
            refine mm_goto (tgt := 189) dX12_holdPlan_185 (by decide) ?_
            refine mm_istore (ls' := [(6, .int (I 201 (606 + wx))), (5, .int (nI (a + 1))), (4, .int (p + (I 201 (618 + wv)))), (3, .int (((if b + p < 9999 then b + p else 9999) - (sp_pb (I 201) 0 l)) - (I 201 (612 + wv)))), (8, .int (nI (wv))), (7, .int (nI (i))), (0, .ref 200), (1, .int (nI (n))), (2, .int (nI (many)))]) dX12_holdPlan_189 (by decide) rfl ?_
            refine mm_iincN (ls' := [(7, .int (nI (i + 1))), (6, .int (I 201 (606 + wx))), (5, .int (nI (a + 1))), (4, .int (p + (I 201 (618 + wv)))), (3, .int (((if b + p < 9999 then b + p else 9999) - (sp_pb (I 201) 0 l)) - (I 201 (612 + wv)))), (8, .int (nI (wv))), (0, .ref 200), (1, .int (nI (n))), (2, .int (nI (many)))]) 5 (i) 1 dX12_holdPlan_191 rfl rfl (by decide) rfl ?_
            refine mm_goto (tgt := 49) dX12_holdPlan_194 (by decide) ?_
            rw [hp_n_c (show a < bm by omega) fwv hwv c138, hp_w_b (show a < bm by omega) fwv, hp_b_b hwv, if_pos (show a + 1 < bm by omega), fwx, vv_nI (show wx < 2 ^ 31 by omega)] at step
            have hh := ih (i + 1) (by omega) (by omega)
            rw [step] at hh
            exact mm_sub [0, 4, 3, 2, 1, 6, 7, 8] rfl hh
set_option maxRecDepth 100000 in
set_option maxHeartbeats 600000 in
theorem cm_holdPlan {g : mm_G} {I : mm_I} {d : Nat} {l : Nat} (hl : I 201 15 = nI l) (hl8 : l ≤ 8) {n many bm : Nat} {best : Nat → Int32} (hbm : I 200 26 = nI bm) (hb6 : bm ≤ 6) (hB : ∀ i, i < bm → ∃ w, w < 6 ∧ I 212 i = nI w ∧ best i = nI w) (hm100 : many ≤ 100) (hn : n ≤ 24) (h28 : I 200 28 = nI (0, false).1) (h29 : I 200 29 = if (0, false).2 = true then 1 else 0) (hd : 1 ≤ d) : mm_Cv g zX12_holdPlan d [.ref 200, .int (nI n), .int (nI many)] sh_S I (hd_m I (hp_r (I 201) (I 204) (sp_pb (I 201) 0 l) many bm best n).2) := by
  refine mm_Cv_of (fun Q hq => ?_)
  refine mm_begin (ls := [(0, .ref 200), (1, .int (nI (n))), (2, .int (nI (many)))]) (Nat.le_of_ble_eq_true rfl) rfl rfl ?_
  refine mm_aload_n 0 dX12_holdPlan_0 rfl rfl ?_
  refine mm_getr (b := 201) dX12_holdPlan_1 rfl fk_X12_9 rfl so_200 sr_200_0 ?_
  refine mm_iconst (v := 4) dX12_holdPlan_4 rfl ?_
  refine mm_ialdN (4) dX12_holdPlan_5 sa_201 (by omega) (by omega) ?_
  refine mm_istore_n (ls' := [(3, .int (I 201 4)), (0, .ref 200), (1, .int (nI (n))), (2, .int (nI (many)))]) dX12_holdPlan_6 rfl (by decide) rfl ?_
  refine mm_aload_n 1 dX12_holdPlan_7 rfl rfl ?_
  refine mm_getr (b := 201) dX12_holdPlan_8 rfl fk_X12_9 rfl so_200 sr_200_0 ?_
  refine mm_iconst (v := 5) dX12_holdPlan_11 rfl ?_
  refine mm_at (pc' := 12) rfl ?_
  refine mm_ialdN (5) dX12_holdPlan_12 sa_201 (by omega) (by omega) ?_
  refine mm_istore (ls' := [(4, .int (I 201 5)), (3, .int (I 201 4)), (0, .ref 200), (1, .int (nI (n))), (2, .int (nI (many)))]) dX12_holdPlan_13 (by decide) rfl ?_
  refine mm_iconst (v := 0) dX12_holdPlan_15 rfl ?_
  refine mm_istore (ls' := [(5, .int (0)), (4, .int (I 201 5)), (3, .int (I 201 4)), (0, .ref 200), (1, .int (nI (n))), (2, .int (nI (many)))]) dX12_holdPlan_16 (by decide) rfl ?_
  refine mm_aload_n 3 dX12_holdPlan_18 rfl rfl ?_
  refine mm_geti dX12_holdPlan_19 rfl fk_X12_353 rfl so_200 ?_
  refine mm_top (v := nI (bm)) hbm ?_
  refine mm_if_leN (bm) (tgt := 43) dX12_holdPlan_22 (by decide) (by omega) (fun c22 => ?_) (fun c22 => ?_)
  · refine mm_iconst (v := 0) dX12_holdPlan_43 rfl ?_
    refine mm_istore (ls' := [(6, .int (0)), (5, .int (0)), (4, .int (I 201 5)), (3, .int (I 201 4)), (0, .ref 200), (1, .int (nI (n))), (2, .int (nI (many)))]) dX12_holdPlan_44 (by decide) rfl ?_
    refine mm_iconst (v := 0) dX12_holdPlan_46 rfl ?_
    refine mm_istore (ls' := [(7, .int (0)), (6, .int (0)), (5, .int (0)), (4, .int (I 201 5)), (3, .int (I 201 4)), (0, .ref 200), (1, .int (nI (n))), (2, .int (nI (many)))]) dX12_holdPlan_47 (by decide) rfl ?_
    have e6 : (hp_r (I 201) (I 204) (sp_pb (I 201) 0 l) many bm best 0).1.2.2.2 = 0 := by
      show (if 0 < bm then I 201 (606 + vv (best 0)) else 0) = _
      rw [if_neg (show ¬ 0 < bm by omega)]
    have hh := lm_hp (g := g) hl hl8 hbm hb6 hB hm100 hn hd hq (n + 1) 0 (Nat.zero_le _) (by omega)
    rw [e6] at hh
    replace hh : mm_Ex g zX12_holdPlan d (0, 0) (0, 0) sh_S (hd_m I (0, false)) 49 [(7, .int (nI 0)), (3, .int (I 201 4)), (4, .int (I 201 5)), (5, .int (nI 0)), (6, .int (0)), (0, .ref 200), (1, .int (nI n)), (2, .int (nI many))] [] Q := hh
    rw [hd_m_s h28 h29] at hh
    exact mm_sub [0, 4, 3, 2, 1, 5, 6, 7] rfl hh
  · obtain ⟨w0, hw0, ew0, fw0⟩ := hB 0 (by omega)
    refine mm_aload_n 3 dX12_holdPlan_25 rfl rfl ?_
    refine mm_getr (b := 201) dX12_holdPlan_26 rfl fk_X12_9 rfl so_200 sr_200_0 ?_
    refine mm_sipush (v := 606) dX12_holdPlan_29 rfl ?_
    refine mm_aload_n 3 dX12_holdPlan_32 rfl rfl ?_
    refine mm_getr (b := 212) dX12_holdPlan_33 rfl fk_X12_68 rfl so_200 sr_200_25 ?_
    refine mm_iconst (v := 0) dX12_holdPlan_36 rfl ?_
    refine mm_ialdN (0) dX12_holdPlan_37 sa_212 (by omega) (by omega) ?_
    refine mm_at (pc' := 38) rfl ?_
    refine mm_top (v := nI (w0)) ew0 ?_
    refine mm_iaddN (606) (w0) dX12_holdPlan_38 ?_
    refine mm_ialdN (606 + w0) dX12_holdPlan_39 sa_201 (by omega) (by omega) ?_
    refine mm_goto (tgt := 44) dX12_holdPlan_40 (by decide) ?_
    refine mm_istore (ls' := [(6, .int (I 201 (606 + w0))), (5, .int (0)), (4, .int (I 201 5)), (3, .int (I 201 4)), (0, .ref 200), (1, .int (nI (n))), (2, .int (nI (many)))]) dX12_holdPlan_44 (by decide) rfl ?_
    refine mm_iconst (v := 0) dX12_holdPlan_46 rfl ?_
    refine mm_istore (ls' := [(7, .int (0)), (6, .int (I 201 (606 + w0))), (5, .int (0)), (4, .int (I 201 5)), (3, .int (I 201 4)), (0, .ref 200), (1, .int (nI (n))), (2, .int (nI (many)))]) dX12_holdPlan_47 (by decide) rfl ?_
    have e6 : (hp_r (I 201) (I 204) (sp_pb (I 201) 0 l) many bm best 0).1.2.2.2 = I 201 (606 + w0) := by
      show (if 0 < bm then I 201 (606 + vv (best 0)) else 0) = _
      rw [if_pos (show 0 < bm by omega), fw0, vv_nI (show w0 < 2 ^ 31 by omega)]
    have hh := lm_hp (g := g) hl hl8 hbm hb6 hB hm100 hn hd hq (n + 1) 0 (Nat.zero_le _) (by omega)
    rw [e6] at hh
    replace hh : mm_Ex g zX12_holdPlan d (0, 0) (0, 0) sh_S (hd_m I (0, false)) 49 [(7, .int (nI 0)), (3, .int (I 201 4)), (4, .int (I 201 5)), (5, .int (nI 0)), (6, .int (I 201 (606 + w0))), (0, .ref 200), (1, .int (nI n)), (2, .int (nI many))] [] Q := hh
    rw [hd_m_s h28 h29] at hh
    exact mm_sub [0, 4, 3, 2, 1, 5, 6, 7] rfl hh
theorem ck_n {I : mm_I} {a : Nat} (h : a ≠ 200) : (mm_up (mm_up (mm_up I 200 5 0) 200 28 0) 200 29 0) a = I a := by rw [mm_up_a h, mm_up_a h, mm_up_a h]
/-- what a check leaves as it was -/
def ck_F (I J : mm_I) : Prop := ∀ a i, a ≠ 211 → a ≠ 212 → (a = 200 → i ≠ 21 ∧ i ≠ 22 ∧ i ≠ 23 ∧ i ≠ 26 ∧ i ≠ 27 ∧ i ≠ 28 ∧ i ≠ 29) → J a i = I a i
theorem ck_F_H {I J : mm_I} (h : sk_H I J) : ck_F I J := fun a i h1 h2 h3 => h a i h1 h2 (fun q => ⟨(h3 q).1, (h3 q).2.1, (h3 q).2.2.1, (h3 q).2.2.2.1, (h3 q).2.2.2.2.1⟩)
theorem ck_F_r (I : mm_I) : ck_F I I := ck_F_H (sk_H_r I)
theorem ck_F_t {I J K : mm_I} (h : ck_F I J) (h2 : ck_F J K) : ck_F I K := fun a i h1 h3 h4 => (h2 a i h1 h3 h4).trans (h a i h1 h3 h4)
theorem ck_F_d {I : mm_I} {s : Nat × Bool} : ck_F I (hd_m I s) := fun a i _ _ h3 => hd_m_n (fun q => ⟨(h3 q).2.2.2.2.2.1, (h3 q).2.2.2.2.2.2⟩)
theorem hd_0 {I : mm_I} : hd_m (mm_up I 200 5 0) (0, false) = mm_up (mm_up (mm_up I 200 5 0) 200 28 0) 200 29 0 := by
  funext a i
  by_cases e : a = 200
  · subst e
    by_cases e2 : i = 28
    · subst e2; rw [hd_m_28, mm_up_ni (by decide), mm_up_at]; rfl
    · by_cases e3 : i = 29
      · subst e3; rw [hd_m_29, mm_up_at]; rfl
      · rw [hd_m_n (fun _ => ⟨e2, e3⟩), mm_up_ni e3, mm_up_ni e2]
  · rw [hd_m_n (fun q => absurd q e), mm_up_ne e, mm_up_ne e, mm_up_ne e, mm_up_ne e]
theorem cm_findCutN {g : mm_G} {I : mm_I} {d l : Nat} {N : Nat → Int32} (hN : I 201 = N) (hl : N 15 = nI l) (hl8 : l ≤ 8) {n : Int32} (hd : 1 ≤ d) : mm_Ci g zX12_findCut d [.ref 200, .int n] sh_S I (sp_fc N l n (2 ^ l)) I := by subst hN; exact cm_findCut hl hl8 hd
theorem cm_powerButN {g : mm_G} {I : mm_I} {d l : Nat} {N : Nat → Int32} (hN : I 201 = N) (hl : N 15 = nI l) (hl8 : l ≤ 8) {n : Int32} : mm_Ci g zX12_powerBut d [.ref 200, .int n] sh_S I (sp_pb N n l) I := by subst hN; exact cm_powerBut hl hl8
theorem cm_holdPlanN {g : mm_G} {I : mm_I} {d l : Nat} {N W : Nat → Int32} (hN : I 201 = N) (hW : I 204 = W) (hl : N 15 = nI l) (hl8 : l ≤ 8) {n many bm : Nat} {best : Nat → Int32} (hbm : I 200 26 = nI bm) (hb6 : bm ≤ 6) (hB : ∀ i, i < bm → ∃ w, w < 6 ∧ I 212 i = nI w ∧ best i = nI w) (hm100 : many ≤ 100) (hn : n ≤ 24) (h28 : I 200 28 = 0) (h29 : I 200 29 = 0) (hd : 1 ≤ d) : mm_Cv g zX12_holdPlan d [.ref 200, .int (nI n), .int (nI many)] sh_S I (hd_m I (hp_r N W (sp_pb N 0 l) many bm best n).2) := by
  subst hN hW
  exact cm_holdPlan hl hl8 hbm hb6 hB hm100 hn h28 h29 hd
set_option maxRecDepth 100000 in
set_option maxHeartbeats 600000 in
theorem lm_nt {g : mm_G} {I : mm_I} {d : Nat} {Q : Option Value → mm_Sh → mm_I → Prop} {n many : Nat} {x each : Int32} (hm100 : many ≤ 100) (hn : n ≤ 24) (hd : 1 ≤ d) (hq : Q (some (.int (ck_a (nt_r (I 201) (I 204) many each n) many))) sh_S (hd_m I (nt_r (I 201) (I 204) many each n))) : ∀ (m : Nat) (i : Nat), (i ≤ n) → n - i < m → mm_Ex g zX12_check d (0, 0) (0, 0) sh_S (hd_m I (nt_r (I 201) (I 204) many each i)) 87 [(5, .int (nI (i + 1))), (4, .int (each)), (3, .int (nI (many))), (0, .ref 200), (1, .int (x)), (2, .int (nI (n)))] [] Q := by
  intro m
  induction m with
  | zero => intro i hi hmz; exact absurd hmz (Nat.not_lt_zero _)
  | succ m ih =>
    intro i hi hmz
    have hsl := nt_r_le (N := I 201) (W := I 204) (many := many) (each := each) i
    refine mm_iload 0 dX12_check_87 rfl ?_
    refine mm_iload_n 5 dX12_check_89 rfl rfl ?_
    refine mm_icmp_gtN (i + 1) (n) (tgt := 116) dX12_check_90 (by decide) (by omega) (by omega) (fun c90 => ?_) (fun c90 => ?_)
    · have e : n = i := by omega
      rw [e] at hq
      refine mm_aload_n 3 dX12_check_116 rfl rfl ?_
      refine mm_geti dX12_check_117 rfl fk_X12_373 rfl so_200 ?_
      refine mm_top (v := if (nt_r (I 201) (I 204) many each i).2 = true then 1 else 0) hd_m_29 ?_
      refine mm_if_neB (tgt := 131) dX12_check_120 (by decide) (fun c120 => ?_) (fun c120 => ?_)
      · refine mm_iconst (v := 1) dX12_check_131 rfl ?_
        refine mm_aload_n 3 dX12_check_132 rfl rfl ?_
        refine mm_geti dX12_check_133 rfl fk_X12_376 rfl so_200 ?_
        refine mm_top (v := nI ((nt_r (I 201) (I 204) many each i).1)) hd_m_28 ?_
        refine mm_iaddN (1) ((nt_r (I 201) (I 204) many each i).1) dX12_check_136 ?_
        refine mm_goto (tgt := 141) dX12_check_137 (by decide) ?_
        refine mm_iret dX12_check_141 rfl ⟨Nat.le_refl _, Nat.le_refl _⟩ ?_
        exact mm_l1 (by unfold ck_a; first | rw [if_pos (Or.inl c120)] | rw [if_pos (Or.inr (by omega))] | rw [if_neg (by intro q; rcases q with q | q; exact c120 q; omega)]) hq
      · refine mm_aload_n 3 dX12_check_123 rfl rfl ?_
        refine mm_geti dX12_check_124 rfl fk_X12_376 rfl so_200 ?_
        refine mm_top (v := nI ((nt_r (I 201) (I 204) many each i).1)) hd_m_28 ?_
        refine mm_iload_n 2 dX12_check_127 rfl rfl ?_
        refine mm_icmp_geN ((nt_r (I 201) (I 204) many each i).1) (many) (tgt := 140) dX12_check_128 (by decide) (by omega) (by omega) (fun c128 => ?_) (fun c128 => ?_)
        · refine mm_iconst (v := 0) dX12_check_140 rfl ?_
          refine mm_iret dX12_check_141 rfl ⟨Nat.le_refl _, Nat.le_refl _⟩ ?_
          exact mm_l1 (by unfold ck_a; first | rw [if_pos (Or.inl c120)] | rw [if_pos (Or.inr (by omega))] | rw [if_neg (by intro q; rcases q with q | q; exact c120 q; omega)]) hq
        · refine mm_iconst (v := 1) dX12_check_131 rfl ?_
          refine mm_aload_n 3 dX12_check_132 rfl rfl ?_
          refine mm_geti dX12_check_133 rfl fk_X12_376 rfl so_200 ?_
          refine mm_top (v := nI ((nt_r (I 201) (I 204) many each i).1)) hd_m_28 ?_
          refine mm_iaddN (1) ((nt_r (I 201) (I 204) many each i).1) dX12_check_136 ?_
          refine mm_goto (tgt := 141) dX12_check_137 (by decide) ?_
          refine mm_iret dX12_check_141 rfl ⟨Nat.le_refl _, Nat.le_refl _⟩ ?_
          exact mm_l1 (by unfold ck_a; first | rw [if_pos (Or.inl c120)] | rw [if_pos (Or.inr (by omega))] | rw [if_neg (by intro q; rcases q with q | q; exact c120 q; omega)]) hq
    · refine mm_aload_n 3 dX12_check_93 rfl rfl ?_
      refine mm_aload_n 3 dX12_check_94 rfl rfl ?_
      refine mm_getr (b := 201) dX12_check_95 rfl fk_X12_9 rfl so_200 sr_200_0 ?_
      refine mm_iconst (v := 4) dX12_check_98 rfl ?_
      refine mm_ialdN (4) dX12_check_99 sa_201 (by omega) (by omega) ?_
      refine mm_top (v := I 201 4) (hd_m_n (fun q => absurd q (by decide))) ?_
      refine mm_iload 1 dX12_check_100 rfl ?_
      refine mm_iload 0 dX12_check_102 rfl ?_
      refine mm_at (pc' := 104) rfl ?_
      refine mm_imul dX12_check_104 ?_
      refine mm_isub dX12_check_105 ?_
      refine mm_iload_n 2 dX12_check_106 rfl rfl ?_
      refine mm_cV2v (dz := d - 1) dX12_check_107 rfl mzX12_hold ml_X12_379 imX12_hold (by omega) so_200 ⟨rfl, rfl⟩ (cm_holdM (by first | exact hsl | exact hd_f_le hsl) hm100) (Nat.le_of_ble_eq_true rfl) ⟨Nat.le_refl _, Nat.le_refl _⟩ ?_
      refine mm_iincN (ls' := [(5, .int (nI (i + 1 + 1))), (4, .int (each)), (3, .int (nI (many))), (0, .ref 200), (1, .int (x)), (2, .int (nI (n)))]) 0 (i + 1) 1 dX12_check_110 rfl rfl (by decide) rfl ?_
      refine mm_goto (tgt := 87) dX12_check_113 (by decide) ?_
      exact mm_sub [0, 1, 2, 3, 4, 5] rfl (ih (i + 1) (by omega) (by omega))
set_option maxRecDepth 100000 in
set_option maxHeartbeats 600000 in
theorem cm_check {g : mm_G} {I : mm_I} {d : Nat} {Q : Option Value → mm_Sh → mm_I → Prop} {l : Nat} (hl : I 201 15 = nI l) (hl8 : l ≤ 8) {k : Nat} (hk : I 201 19 = nI k) (hk6 : k ≤ 6) {t : Nat} (ht : I 200 5 = nI t) (ht1 : t ≤ 100) {x n0 : Int32} (hd : 12 ≤ d) (hq : ∀ r J, r = op_check l k t I x n0 → ck_F (mm_up I 200 5 0) J → Q (some (.int r)) sh_S J) : mm_Ct g zX12_check d (0, 0) [.ref 200, .int x, .int n0] sh_S I Q := by
  refine mm_begin (ls := [(0, .ref 200), (1, .int (x)), (2, .int (n0))]) (Nat.le_of_ble_eq_true rfl) rfl rfl ?_
  refine mm_aload_n 0 dX12_check_0 rfl rfl ?_
  refine mm_geti dX12_check_1 rfl fk_X12_370 rfl so_200 ?_
  refine mm_top (v := nI (t)) ht ?_
  refine mm_istore_n (ls' := [(3, .int (nI (t))), (0, .ref 200), (1, .int (x)), (2, .int (n0))]) dX12_check_4 rfl (by decide) rfl ?_
  refine mm_aload_n 1 dX12_check_5 rfl rfl ?_
  refine mm_iconst (v := 0) dX12_check_6 rfl ?_
  refine mm_puti dX12_check_7 rfl fk_X12_370 rfl fv_12_5 so_200 ?_
  refine mm_iload_n 2 dX12_check_10 rfl rfl ?_
  refine mm_iconst (v := 0) dX12_check_11 rfl ?_
  refine mm_at (pc' := 12) rfl ?_
  refine mm_iconst (v := 1) dX12_check_12 rfl ?_
  refine mm_cS3i (dz := d - 1) dX12_check_13 rfl mzX12_within ml_X12_82 imX12_within (by omega) cm_within (Nat.le_of_ble_eq_true rfl) ⟨Nat.le_refl _, Nat.le_refl _⟩ ?_
  refine mm_if_eqB (tgt := 29) dX12_check_16 (by decide) (fun c16 => ?_) (fun c16 => ?_)
  · refine mm_ldc dX12_check_29 rfl kc_X12_86 ?_
    refine mm_iret dX12_check_31 rfl ⟨Nat.le_refl _, Nat.le_refl _⟩ ?_
    exact hq _ _ (by unfold op_check; rw [if_pos (by first | exact Or.inl c16 | exact Or.inr (c26))]) (ck_F_r _)
  · refine mm_iload_n 3 dX12_check_19 rfl rfl ?_
    refine mm_iconst (v := 1) dX12_check_20 rfl ?_
    refine mm_bipush (v := 24) dX12_check_21 rfl ?_
    refine mm_cS3i (dz := d - 1) dX12_check_23 rfl mzX12_within ml_X12_82 imX12_within (by omega) cm_within (Nat.le_of_ble_eq_true rfl) ⟨Nat.le_refl _, Nat.le_refl _⟩ ?_
    refine mm_if_neB (tgt := 32) dX12_check_26 (by decide) (fun c26 => ?_) (fun c26 => ?_)
    · obtain ⟨n, hkn, rfl⟩ := sp_wi_n 1 24 (by decide) (by decide) c26
      refine mm_aload_n 1 dX12_check_32 rfl rfl ?_
      refine mm_iconst (v := 0) dX12_check_33 rfl ?_
      refine mm_puti dX12_check_34 rfl fk_X12_376 rfl fv_12_28 so_200 ?_
      refine mm_aload_n 1 dX12_check_37 rfl rfl ?_
      refine mm_iconst (v := 0) dX12_check_38 rfl ?_
      refine mm_putz dX12_check_39 rfl fk_X12_373 rfl fv_12_29 (by decide) so_200 ?_
      refine mm_iload_n 2 dX12_check_42 rfl rfl ?_
      refine mm_if_ne (tgt := 73) dX12_check_43 (by decide) (fun c43 => ?_) (fun c43 => ?_)
      · refine mm_aload_n 1 dX12_check_73 rfl rfl ?_
        refine mm_aload_n 1 dX12_check_74 rfl rfl ?_
        refine mm_iload_n 3 dX12_check_75 rfl rfl ?_
        refine mm_cV1i (dz := d - 1) dX12_check_76 rfl mzX12_findCut ml_X12_341 imX12_findCut (by omega) so_200 ⟨rfl, rfl⟩ (cm_findCutN (ck_n (by decide)) hl hl8 (by omega)) (Nat.le_of_ble_eq_true rfl) ⟨Nat.le_refl _, Nat.le_refl _⟩ ?_
        refine mm_cV1i (dz := d - 1) dX12_check_79 rfl mzX12_powerBut ml_X12_332 imX12_powerBut (by omega) so_200 ⟨rfl, rfl⟩ (cm_powerButN (ck_n (by decide)) hl hl8) (Nat.le_of_ble_eq_true rfl) ⟨Nat.le_refl _, Nat.le_refl _⟩ ?_
        refine mm_istore (ls' := [(4, .int (sp_pb (I 201) (sp_fc (I 201) l (nI n) (2 ^ l)) l)), (3, .int (nI (t))), (0, .ref 200), (1, .int (x)), (2, .int (nI (n)))]) dX12_check_82 (by decide) rfl ?_
        refine mm_iconst (v := 1) dX12_check_84 rfl ?_
        refine mm_istore (ls' := [(5, .int (1)), (4, .int (sp_pb (I 201) (sp_fc (I 201) l (nI n) (2 ^ l)) l)), (3, .int (nI (t))), (0, .ref 200), (1, .int (x)), (2, .int (nI (n)))]) dX12_check_85 (by decide) rfl ?_
        refine mm_at (pc' := 87) rfl ?_
        refine mm_sub [0, 1, 2, 3, 4, 5] rfl ?_
        have e1 := ck_n (I := I) (a := 201) (by decide)
        have e2 : (mm_up I 200 5 0) 201 = I 201 := mm_up_a (by decide)
        have e3 : (mm_up I 200 5 0) 204 = I 204 := mm_up_a (by decide)
        have hh := lm_nt (g := g) (d := d) (I := mm_up I 200 5 0) (Q := Q) (n := n) (many := t) (x := x) (each := sp_pb (I 201) (sp_fc (I 201) l (nI n) (2 ^ l)) l) ht1 (by omega) (by omega) (hq _ _ (by unfold op_check; rw [if_neg (by intro q; rcases q with q | q; exact q c16; exact q c26), if_neg c43, vv_nI (by omega), e2, e3]) ck_F_d) (n + 1) 0 (Nat.zero_le _) (by omega)
        replace hh : mm_Ex g zX12_check d (0, 0) (0, 0) sh_S (hd_m (mm_up I 200 5 0) (0, false)) 87 [(5, .int (nI 1)), (4, .int (sp_pb (I 201) (sp_fc (I 201) l (nI n) (2 ^ l)) l)), (3, .int (nI t)), (0, .ref 200), (1, .int x), (2, .int (nI n))] [] Q := hh
        rw [hd_0] at hh
        exact hh
      · refine mm_aload_n 1 dX12_check_46 rfl rfl ?_
        refine mm_iload_n 3 dX12_check_47 rfl rfl ?_
        refine mm_sipush (v := 20000) dX12_check_48 rfl ?_
        refine mm_dV2i (dz := d - 1) dX12_check_51 rfl mzX12_findPlan ml_X12_367 imX12_findPlan (by omega) so_200 ⟨rfl, rfl⟩ (cm_findPlanD (I := mm_up (mm_up (mm_up I 200 5 0) 200 28 0) 200 29 0) (by rw [ck_n (by decide)]; exact hl) hl8 (by rw [ck_n (by decide)]; exact hk) hk6 (by omega)) (Nat.le_of_ble_eq_true rfl) ⟨Nat.le_refl _, Nat.le_refl _⟩ (fun y2 J2 hJ2 => ?_)
        obtain ⟨hfy, hfE, hfH⟩ := hJ2.2 ⟨c26, by decide⟩
        rw [ck_n (by decide)] at hfy hfE
        have hF2 : ck_F (mm_up I 200 5 0) J2 := ck_F_t (hd_0 (I := I) ▸ ck_F_d) (ck_F_H hfH)
        refine mm_istore (ls' := [(4, .int (y2)), (3, .int (nI (t))), (0, .ref 200), (1, .int (x)), (2, .int (nI (n)))]) dX12_check_54 (by decide) rfl ?_
        refine mm_iload 0 dX12_check_56 rfl ?_
        refine mm_if_eq (tgt := 64) dX12_check_58 (by decide) (fun c58 => ?_) (fun c58 => ?_)
        · refine mm_aload_n 2 dX12_check_64 rfl rfl ?_
          refine mm_iload_n 4 dX12_check_65 rfl rfl ?_
          refine mm_iload_n 1 dX12_check_66 rfl rfl ?_
          have hV := fp_V (N := I 201) (l := l) (k := k) (n := nI n) (tries := 20000) hk6
          have hJ1 : J2 201 = I 201 := by funext j; rw [hfH 201 j (by decide) (by decide) (fun q => absurd q (by decide)), ck_n (by decide)]
          have hJ4 : J2 204 = I 204 := by funext j; rw [hfH 204 j (by decide) (by decide) (fun q => absurd q (by decide)), ck_n (by decide)]
          have h28 : J2 200 28 = 0 := by rw [hfH 200 28 (by decide) (by decide) (fun _ => ⟨by decide, by decide, by decide, by decide, by decide⟩), mm_up_ni (by decide), mm_up_at]
          have h29 : J2 200 29 = 0 := by rw [hfH 200 29 (by decide) (by decide) (fun _ => ⟨by decide, by decide, by decide, by decide, by decide⟩), mm_up_at]
          have hsl : (hp_r (I 201) (I 204) (sp_pb (I 201) 0 l) t (fp_s (I 201) l k (nI n) 20000).2.2.2.1 (fp_s (I 201) l k (nI n) 20000).2.2.2.2 n).2.1 ≤ t := hp_r_le n
          refine mm_cV2v (dz := d - 1) dX12_check_67 rfl mzX12_holdPlan ml_X12_382 imX12_holdPlan (by omega) so_200 ⟨rfl, rfl⟩ (cm_holdPlanN hJ1 hJ4 hl hl8 hfE.2.2.2.2.1 hfE.2.2.2.2.2.1 (fun i hi => by obtain ⟨q, h1, h2⟩ := hV i hi; exact ⟨q, h1, (hfE.2.2.2.2.2.2.1 i hi).trans h2, h2⟩) ht1 (by omega) h28 h29 (by omega)) (Nat.le_of_ble_eq_true rfl) ⟨Nat.le_refl _, Nat.le_refl _⟩ ?_
          refine mm_goto (tgt := 116) dX12_check_70 (by decide) ?_
          refine mm_aload_n 2 dX12_check_116 rfl rfl ?_
          refine mm_geti dX12_check_117 rfl fk_X12_373 rfl so_200 ?_
          refine mm_top (v := if (hp_r (I 201) (I 204) (sp_pb (I 201) 0 l) t (fp_s (I 201) l k (nI n) 20000).2.2.2.1 (fp_s (I 201) l k (nI n) 20000).2.2.2.2 n).2.2 = true then 1 else 0) hd_m_29 ?_
          refine mm_if_neB (tgt := 131) dX12_check_120 (by decide) (fun c120 => ?_) (fun c120 => ?_)
          · refine mm_iconst (v := 1) dX12_check_131 rfl ?_
            refine mm_aload_n 2 dX12_check_132 rfl rfl ?_
            refine mm_geti dX12_check_133 rfl fk_X12_376 rfl so_200 ?_
            refine mm_top (v := nI ((hp_r (I 201) (I 204) (sp_pb (I 201) 0 l) t (fp_s (I 201) l k (nI n) 20000).2.2.2.1 (fp_s (I 201) l k (nI n) 20000).2.2.2.2 n).2.1)) hd_m_28 ?_
            refine mm_iaddN (1) ((hp_r (I 201) (I 204) (sp_pb (I 201) 0 l) t (fp_s (I 201) l k (nI n) 20000).2.2.2.1 (fp_s (I 201) l k (nI n) 20000).2.2.2.2 n).2.1) dX12_check_136 ?_
            refine mm_goto (tgt := 141) dX12_check_137 (by decide) ?_
            refine mm_iret dX12_check_141 rfl ⟨Nat.le_refl _, Nat.le_refl _⟩ ?_
            exact hq _ _ (by unfold op_check; rw [if_neg (by intro q; rcases q with q | q; exact q c16; exact q c26), if_pos c43, ← hfy, if_pos c58, vv_nI (by omega)]; unfold ck_a; first | rw [if_pos (Or.inl c120)] | rw [if_pos (Or.inr (by omega))] | rw [if_neg (by intro q; rcases q with q | q; exact c120 q; omega)]) (ck_F_t hF2 ck_F_d)
          · refine mm_aload_n 2 dX12_check_123 rfl rfl ?_
            refine mm_geti dX12_check_124 rfl fk_X12_376 rfl so_200 ?_
            refine mm_top (v := nI ((hp_r (I 201) (I 204) (sp_pb (I 201) 0 l) t (fp_s (I 201) l k (nI n) 20000).2.2.2.1 (fp_s (I 201) l k (nI n) 20000).2.2.2.2 n).2.1)) hd_m_28 ?_
            refine mm_iload_n 1 dX12_check_127 rfl rfl ?_
            refine mm_icmp_geN ((hp_r (I 201) (I 204) (sp_pb (I 201) 0 l) t (fp_s (I 201) l k (nI n) 20000).2.2.2.1 (fp_s (I 201) l k (nI n) 20000).2.2.2.2 n).2.1) (t) (tgt := 140) dX12_check_128 (by decide) (by omega) (by omega) (fun c128 => ?_) (fun c128 => ?_)
            · refine mm_iconst (v := 0) dX12_check_140 rfl ?_
              refine mm_iret dX12_check_141 rfl ⟨Nat.le_refl _, Nat.le_refl _⟩ ?_
              exact hq _ _ (by unfold op_check; rw [if_neg (by intro q; rcases q with q | q; exact q c16; exact q c26), if_pos c43, ← hfy, if_pos c58, vv_nI (by omega)]; unfold ck_a; first | rw [if_pos (Or.inl c120)] | rw [if_pos (Or.inr (by omega))] | rw [if_neg (by intro q; rcases q with q | q; exact c120 q; omega)]) (ck_F_t hF2 ck_F_d)
            · refine mm_iconst (v := 1) dX12_check_131 rfl ?_
              refine mm_aload_n 2 dX12_check_132 rfl rfl ?_
              refine mm_geti dX12_check_133 rfl fk_X12_376 rfl so_200 ?_
              refine mm_top (v := nI ((hp_r (I 201) (I 204) (sp_pb (I 201) 0 l) t (fp_s (I 201) l k (nI n) 20000).2.2.2.1 (fp_s (I 201) l k (nI n) 20000).2.2.2.2 n).2.1)) hd_m_28 ?_
              refine mm_iaddN (1) ((hp_r (I 201) (I 204) (sp_pb (I 201) 0 l) t (fp_s (I 201) l k (nI n) 20000).2.2.2.1 (fp_s (I 201) l k (nI n) 20000).2.2.2.2 n).2.1) dX12_check_136 ?_
              refine mm_goto (tgt := 141) dX12_check_137 (by decide) ?_
              refine mm_iret dX12_check_141 rfl ⟨Nat.le_refl _, Nat.le_refl _⟩ ?_
              exact hq _ _ (by unfold op_check; rw [if_neg (by intro q; rcases q with q | q; exact q c16; exact q c26), if_pos c43, ← hfy, if_pos c58, vv_nI (by omega)]; unfold ck_a; first | rw [if_pos (Or.inl c120)] | rw [if_pos (Or.inr (by omega))] | rw [if_neg (by intro q; rcases q with q | q; exact c120 q; omega)]) (ck_F_t hF2 ck_F_d)
        · refine mm_iload 0 dX12_check_61 rfl ?_
          refine mm_iret dX12_check_63 rfl ⟨Nat.le_refl _, Nat.le_refl _⟩ ?_
          exact hq _ _ (by unfold op_check; rw [if_neg (by intro q; rcases q with q | q; exact q c16; exact q c26), if_pos c43, ← hfy, if_neg c58]) hF2
    · refine mm_ldc dX12_check_29 rfl kc_X12_86 ?_
      refine mm_iret dX12_check_31 rfl ⟨Nat.le_refl _, Nat.le_refl _⟩ ?_
      exact hq _ _ (by unfold op_check; rw [if_pos (by first | exact Or.inl c16 | exact Or.inr (c26))]) (ck_F_r _)
