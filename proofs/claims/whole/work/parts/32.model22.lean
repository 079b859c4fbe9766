/-! THE REFERENCE: a machine goes -/
set_option maxRecDepth 100000 in
set_option maxHeartbeats 600000 in
theorem lm_gs {g : mm_G} {I : mm_I} {d : Nat} {Q : Option Value → mm_Sh → mm_I → Prop} {w h : Nat} (hW : mo_W (I 201) w h) {m c : Nat} (hmm : m < 5) (hc1 : I 201 (630 + 40 * m + 1) = nI c) (hcw : c < w * h) {s0 : bf_S} {gl gx gy : Int32} {p s : Nat} (hd : 2 ≤ d) (hx : mm_Ex g zX12_goes d (0, 0) (0, 0) sh_S (bf_m I s0) 184 [(10, .int (nI (4))), (9, .int (gs_b s0.1 w h c 4)), (8, .int (gl)), (7, .int (1)), (6, .int (nI (c))), (5, .int (gy)), (4, .int (gx)), (0, .ref 200), (1, .int (nI (m))), (2, .int (nI (p))), (3, .int (nI (s)))] [] Q) : ∀ (mf : Nat) (i : Nat), i ≤ 4 → 4 - i < mf → mm_Ex g zX12_goes d (0, 0) (0, 0) sh_S (bf_m I s0) 104 [(10, .int (nI (i))), (9, .int (gs_b s0.1 w h c i)), (8, .int (gl)), (7, .int (1)), (6, .int (nI (c))), (5, .int (gy)), (4, .int (gx)), (0, .ref 200), (1, .int (nI (m))), (2, .int (nI (p))), (3, .int (nI (s)))] [] Q := by
  have hc := mo_W_c hW
  obtain ⟨-, -, hw1, hw2, hh1, hh2⟩ := id hW
  intro mf
  induction mf with
  | zero => intro i hi hmz; exact absurd hmz (Nat.not_lt_zero _)
  | succ mf ih =>
    intro i hi hmz
    rcases gs_in (f := s0.1) (w := w) (h := h) (c := c) (by omega) hcw i with ew | ⟨b, hb, ew⟩ <;> rcases sp_be_in (w := w) (h := h) (c := c) (way := i) (by omega) hcw with eb | ⟨k, hk, eb⟩ <;> rw [ew]
    · refine mm_iload 0 dX12_goes_104 rfl ?_
      refine mm_iconst (v := 4) dX12_goes_106 rfl ?_
      refine mm_icmp_geN (i) (4) (tgt := 184) dX12_goes_107 (by decide) (by omega) (by omega) (fun c107 => ?_) (fun c107 => ?_)
      · have e : i = 4 := by omega
        subst e
        rw [ew] at hx
        exact hx
      · refine mm_aload_n 7 dX12_goes_110 rfl rfl ?_
        refine mm_iload 4 dX12_goes_111 rfl ?_
        refine mm_iload 0 dX12_goes_113 rfl ?_
        refine mm_cV2i (dz := d - 1) dX12_goes_115 rfl mzX12_beside ml_X12_111 imX12_beside (by omega) so_200 ⟨rfl, rfl⟩ (cm_beside (show mo_W ((bf_m I s0) 201) w h from by rw [bf_m_a (by decide) (by decide)]; exact hW) hcw (by omega) (by omega)) (Nat.le_of_ble_eq_true rfl) ⟨Nat.le_refl _, Nat.le_refl _⟩ ?_
        refine mm_top (v := -1) eb ?_
        refine mm_istore (ls' := [(11, .int (-1)), (10, .int (nI (i))), (9, .int (-1)), (8, .int (gl)), (7, .int (1)), (6, .int (nI (c))), (5, .int (gy)), (4, .int (gx)), (0, .ref 200), (1, .int (nI (m))), (2, .int (nI (p))), (3, .int (nI (s)))]) dX12_goes_118 (by decide) rfl ?_
        refine mm_iload 0 dX12_goes_120 rfl ?_
        refine mm_if_lt (tgt := 139) dX12_goes_122 (by decide) (fun _ => ?_) (fun q => absurd (by decide) q)
        refine mm_iconst (v := 0) dX12_goes_139 rfl ?_
        refine mm_istore (ls' := [(12, .int (0)), (11, .int (-1)), (10, .int (nI (i))), (9, .int (-1)), (8, .int (gl)), (7, .int (1)), (6, .int (nI (c))), (5, .int (gy)), (4, .int (gx)), (0, .ref 200), (1, .int (nI (m))), (2, .int (nI (p))), (3, .int (nI (s)))]) dX12_goes_140 (by decide) rfl ?_
        refine mm_iload 0 dX12_goes_142 rfl ?_
        refine mm_if_eq (tgt := 174) dX12_goes_144 (by decide) (fun _ => ?_) (fun q => absurd (by decide) q)
        refine mm_iload 3 dX12_goes_174 rfl ?_
        refine mm_istore (ls' := [(9, .int (-1)), (12, .int (0)), (11, .int (-1)), (10, .int (nI (i))), (8, .int (gl)), (7, .int (1)), (6, .int (nI (c))), (5, .int (gy)), (4, .int (gx)), (0, .ref 200), (1, .int (nI (m))), (2, .int (nI (p))), (3, .int (nI (s)))]) dX12_goes_176 (by decide) rfl ?_
        refine mm_iincN (ls' := [(10, .int (nI (i + 1))), (9, .int (-1)), (12, .int (0)), (11, .int (-1)), (8, .int (gl)), (7, .int (1)), (6, .int (nI (c))), (5, .int (gy)), (4, .int (gx)), (0, .ref 200), (1, .int (nI (m))), (2, .int (nI (p))), (3, .int (nI (s)))]) 3 (i) 1 dX12_goes_178 rfl rfl (by decide) rfl ?_
        refine mm_goto (tgt := 104) dX12_goes_181 (by decide) ?_
        have hh := ih (i + 1) (by omega) (by omega)
        have e : gs_b s0.1 w h c (i + 1) = (-1) := by
          unfold gs_b
          rw [eb, ew]
          rw [if_neg (by rintro ⟨q, -⟩; revert q; decide)]
        rw [e] at hh
        exact mm_sub [0, 1, 4, 5, 6, 7, 8, 9, 10, 11, 12] rfl hh
    · refine mm_iload 0 dX12_goes_104 rfl ?_
      refine mm_iconst (v := 4) dX12_goes_106 rfl ?_
      refine mm_icmp_geN (i) (4) (tgt := 184) dX12_goes_107 (by decide) (by omega) (by omega) (fun c107 => ?_) (fun c107 => ?_)
      · have e : i = 4 := by omega
        subst e
        rw [ew] at hx
        exact hx
      · refine mm_aload_n 7 dX12_goes_110 rfl rfl ?_
        refine mm_iload 4 dX12_goes_111 rfl ?_
        refine mm_iload 0 dX12_goes_113 rfl ?_
        refine mm_cV2i (dz := d - 1) dX12_goes_115 rfl mzX12_beside ml_X12_111 imX12_beside (by omega) so_200 ⟨rfl, rfl⟩ (cm_beside (show mo_W ((bf_m I s0) 201) w h from by rw [bf_m_a (by decide) (by decide)]; exact hW) hcw (by omega) (by omega)) (Nat.le_of_ble_eq_true rfl) ⟨Nat.le_refl _, Nat.le_refl _⟩ ?_
        refine mm_top (v := nI (k)) eb ?_
        refine mm_istore (ls' := [(11, .int (nI (k))), (10, .int (nI (i))), (9, .int (-1)), (8, .int (gl)), (7, .int (1)), (6, .int (nI (c))), (5, .int (gy)), (4, .int (gx)), (0, .ref 200), (1, .int (nI (m))), (2, .int (nI (p))), (3, .int (nI (s)))]) dX12_goes_118 (by decide) rfl ?_
        refine mm_iload 0 dX12_goes_120 rfl ?_
        refine mm_if_ltN (k) (tgt := 139) dX12_goes_122 (by decide) (by omega) ?_
        refine mm_at (pc' := 125) rfl ?_
        refine mm_aload_n 8 dX12_goes_125 rfl rfl ?_
        refine mm_getr (b := 207) dX12_goes_126 rfl fk_X12_28 rfl so_200 sr_200_9 ?_
        refine mm_iload 0 dX12_goes_129 rfl ?_
        refine mm_ialdN (k) dX12_goes_131 sa_207 (by omega) (by omega) ?_
        refine mm_top (v := s0.1 k) rfl ?_
        refine mm_if_lt (tgt := 139) dX12_goes_132 (by decide) (fun c132 => ?_) (fun c132 => ?_)
        · refine mm_iconst (v := 0) dX12_goes_139 rfl ?_
          refine mm_istore (ls' := [(12, .int (0)), (11, .int (nI (k))), (10, .int (nI (i))), (9, .int (-1)), (8, .int (gl)), (7, .int (1)), (6, .int (nI (c))), (5, .int (gy)), (4, .int (gx)), (0, .ref 200), (1, .int (nI (m))), (2, .int (nI (p))), (3, .int (nI (s)))]) dX12_goes_140 (by decide) rfl ?_
          refine mm_iload 0 dX12_goes_142 rfl ?_
          refine mm_if_eq (tgt := 174) dX12_goes_144 (by decide) (fun _ => ?_) (fun q => absurd (by decide) q)
          refine mm_iload 3 dX12_goes_174 rfl ?_
          refine mm_istore (ls' := [(9, .int (-1)), (12, .int (0)), (11, .int (nI (k))), (10, .int (nI (i))), (8, .int (gl)), (7, .int (1)), (6, .int (nI (c))), (5, .int (gy)), (4, .int (gx)), (0, .ref 200), (1, .int (nI (m))), (2, .int (nI (p))), (3, .int (nI (s)))]) dX12_goes_176 (by decide) rfl ?_
          refine mm_iincN (ls' := [(10, .int (nI (i + 1))), (9, .int (-1)), (12, .int (0)), (11, .int (nI (k))), (8, .int (gl)), (7, .int (1)), (6, .int (nI (c))), (5, .int (gy)), (4, .int (gx)), (0, .ref 200), (1, .int (nI (m))), (2, .int (nI (p))), (3, .int (nI (s)))]) 3 (i) 1 dX12_goes_178 rfl rfl (by decide) rfl ?_
          refine mm_goto (tgt := 104) dX12_goes_181 (by decide) ?_
          have hh := ih (i + 1) (by omega) (by omega)
          have e : gs_b s0.1 w h c (i + 1) = (-1) := by
            unfold gs_b
            rw [eb, ew]
            rw [vv_nI (by omega), if_neg (by rintro ⟨-, q, -⟩; exact absurd c132 (Int32.not_lt.mpr q))]
          rw [e] at hh
          exact mm_sub [0, 1, 4, 5, 6, 7, 8, 9, 10, 11, 12] rfl hh
        · refine mm_iconst (v := 1) dX12_goes_135 rfl ?_
          refine mm_goto (tgt := 140) dX12_goes_136 (by decide) ?_
          refine mm_istore (ls' := [(12, .int (1)), (11, .int (nI (k))), (10, .int (nI (i))), (9, .int (-1)), (8, .int (gl)), (7, .int (1)), (6, .int (nI (c))), (5, .int (gy)), (4, .int (gx)), (0, .ref 200), (1, .int (nI (m))), (2, .int (nI (p))), (3, .int (nI (s)))]) dX12_goes_140 (by decide) rfl ?_
          refine mm_iload 0 dX12_goes_142 rfl ?_
          refine mm_if_eq (tgt := 174) dX12_goes_144 (by decide) (fun q => absurd q (by decide)) (fun _ => ?_)
          refine mm_iload 3 dX12_goes_147 rfl ?_
          refine mm_if_lt (tgt := 169) dX12_goes_149 (by decide) (fun _ => ?_) (fun q => absurd (by decide) q)
          refine mm_iload 1 dX12_goes_169 rfl ?_
          refine mm_goto (tgt := 176) dX12_goes_171 (by decide) ?_
          refine mm_istore (ls' := [(9, .int (nI (k))), (12, .int (1)), (11, .int (nI (k))), (10, .int (nI (i))), (8, .int (gl)), (7, .int (1)), (6, .int (nI (c))), (5, .int (gy)), (4, .int (gx)), (0, .ref 200), (1, .int (nI (m))), (2, .int (nI (p))), (3, .int (nI (s)))]) dX12_goes_176 (by decide) rfl ?_
          refine mm_iincN (ls' := [(10, .int (nI (i + 1))), (9, .int (nI (k))), (12, .int (1)), (11, .int (nI (k))), (8, .int (gl)), (7, .int (1)), (6, .int (nI (c))), (5, .int (gy)), (4, .int (gx)), (0, .ref 200), (1, .int (nI (m))), (2, .int (nI (p))), (3, .int (nI (s)))]) 3 (i) 1 dX12_goes_178 rfl rfl (by decide) rfl ?_
          refine mm_goto (tgt := 104) dX12_goes_181 (by decide) ?_
          have hh := ih (i + 1) (by omega) (by omega)
          have e : gs_b s0.1 w h c (i + 1) = (nI (k)) := by
            unfold gs_b
            rw [eb, ew]
            rw [vv_nI (by omega), if_pos (show 0 ≤ nI k ∧ 0 ≤ s0.1 k ∧ ((-1 : Int32) < 0 ∨ s0.1 k < s0.1 (vv (-1))) from ⟨nI_pos' (by omega), Int32.not_lt.mp c132, Or.inl (by decide)⟩)]
          rw [e] at hh
          exact mm_sub [0, 1, 4, 5, 6, 7, 8, 9, 10, 11, 12] rfl hh
    · refine mm_iload 0 dX12_goes_104 rfl ?_
      refine mm_iconst (v := 4) dX12_goes_106 rfl ?_
      refine mm_icmp_geN (i) (4) (tgt := 184) dX12_goes_107 (by decide) (by omega) (by omega) (fun c107 => ?_) (fun c107 => ?_)
      · have e : i = 4 := by omega
        subst e
        rw [ew] at hx
        exact hx
      · refine mm_aload_n 7 dX12_goes_110 rfl rfl ?_
        refine mm_iload 4 dX12_goes_111 rfl ?_
        refine mm_iload 0 dX12_goes_113 rfl ?_
        refine mm_cV2i (dz := d - 1) dX12_goes_115 rfl mzX12_beside ml_X12_111 imX12_beside (by omega) so_200 ⟨rfl, rfl⟩ (cm_beside (show mo_W ((bf_m I s0) 201) w h from by rw [bf_m_a (by decide) (by decide)]; exact hW) hcw (by omega) (by omega)) (Nat.le_of_ble_eq_true rfl) ⟨Nat.le_refl _, Nat.le_refl _⟩ ?_
        refine mm_top (v := -1) eb ?_
        refine mm_istore (ls' := [(11, .int (-1)), (10, .int (nI (i))), (9, .int (nI (b))), (8, .int (gl)), (7, .int (1)), (6, .int (nI (c))), (5, .int (gy)), (4, .int (gx)), (0, .ref 200), (1, .int (nI (m))), (2, .int (nI (p))), (3, .int (nI (s)))]) dX12_goes_118 (by decide) rfl ?_
        refine mm_iload 0 dX12_goes_120 rfl ?_
        refine mm_if_lt (tgt := 139) dX12_goes_122 (by decide) (fun _ => ?_) (fun q => absurd (by decide) q)
        refine mm_iconst (v := 0) dX12_goes_139 rfl ?_
        refine mm_istore (ls' := [(12, .int (0)), (11, .int (-1)), (10, .int (nI (i))), (9, .int (nI (b))), (8, .int (gl)), (7, .int (1)), (6, .int (nI (c))), (5, .int (gy)), (4, .int (gx)), (0, .ref 200), (1, .int (nI (m))), (2, .int (nI (p))), (3, .int (nI (s)))]) dX12_goes_140 (by decide) rfl ?_
        refine mm_iload 0 dX12_goes_142 rfl ?_
        refine mm_if_eq (tgt := 174) dX12_goes_144 (by decide) (fun _ => ?_) (fun q => absurd (by decide) q)
        refine mm_iload 3 dX12_goes_174 rfl ?_
        refine mm_istore (ls' := [(9, .int (nI (b))), (12, .int (0)), (11, .int (-1)), (10, .int (nI (i))), (8, .int (gl)), (7, .int (1)), (6, .int (nI (c))), (5, .int (gy)), (4, .int (gx)), (0, .ref 200), (1, .int (nI (m))), (2, .int (nI (p))), (3, .int (nI (s)))]) dX12_goes_176 (by decide) rfl ?_
        refine mm_iincN (ls' := [(10, .int (nI (i + 1))), (9, .int (nI (b))), (12, .int (0)), (11, .int (-1)), (8, .int (gl)), (7, .int (1)), (6, .int (nI (c))), (5, .int (gy)), (4, .int (gx)), (0, .ref 200), (1, .int (nI (m))), (2, .int (nI (p))), (3, .int (nI (s)))]) 3 (i) 1 dX12_goes_178 rfl rfl (by decide) rfl ?_
        refine mm_goto (tgt := 104) dX12_goes_181 (by decide) ?_
        have hh := ih (i + 1) (by omega) (by omega)
        have e : gs_b s0.1 w h c (i + 1) = (nI (b)) := by
          unfold gs_b
          rw [eb, ew]
          rw [if_neg (by rintro ⟨q, -⟩; revert q; decide)]
        rw [e] at hh
        exact mm_sub [0, 1, 4, 5, 6, 7, 8, 9, 10, 11, 12] rfl hh
    · refine mm_iload 0 dX12_goes_104 rfl ?_
      refine mm_iconst (v := 4) dX12_goes_106 rfl ?_
      refine mm_icmp_geN (i) (4) (tgt := 184) dX12_goes_107 (by decide) (by omega) (by omega) (fun c107 => ?_) (fun c107 => ?_)
      · have e : i = 4 := by omega
        subst e
        rw [ew] at hx
        exact hx
      · refine mm_aload_n 7 dX12_goes_110 rfl rfl ?_
        refine mm_iload 4 dX12_goes_111 rfl ?_
        refine mm_iload 0 dX12_goes_113 rfl ?_
        refine mm_cV2i (dz := d - 1) dX12_goes_115 rfl mzX12_beside ml_X12_111 imX12_beside (by omega) so_200 ⟨rfl, rfl⟩ (cm_beside (show mo_W ((bf_m I s0) 201) w h from by rw [bf_m_a (by decide) (by decide)]; exact hW) hcw (by omega) (by omega)) (Nat.le_of_ble_eq_true rfl) ⟨Nat.le_refl _, Nat.le_refl _⟩ ?_
        refine mm_top (v := nI (k)) eb ?_
        refine mm_istore (ls' := [(11, .int (nI (k))), (10, .int (nI (i))), (9, .int (nI (b))), (8, .int (gl)), (7, .int (1)), (6, .int (nI (c))), (5, .int (gy)), (4, .int (gx)), (0, .ref 200), (1, .int (nI (m))), (2, .int (nI (p))), (3, .int (nI (s)))]) dX12_goes_118 (by decide) rfl ?_
        refine mm_iload 0 dX12_goes_120 rfl ?_
        refine mm_if_ltN (k) (tgt := 139) dX12_goes_122 (by decide) (by omega) ?_
        refine mm_at (pc' := 125) rfl ?_
        refine mm_aload_n 8 dX12_goes_125 rfl rfl ?_
        refine mm_getr (b := 207) dX12_goes_126 rfl fk_X12_28 rfl so_200 sr_200_9 ?_
        refine mm_iload 0 dX12_goes_129 rfl ?_
        refine mm_ialdN (k) dX12_goes_131 sa_207 (by omega) (by omega) ?_
        refine mm_top (v := s0.1 k) rfl ?_
        refine mm_if_lt (tgt := 139) dX12_goes_132 (by decide) (fun c132 => ?_) (fun c132 => ?_)
        · refine mm_iconst (v := 0) dX12_goes_139 rfl ?_
          refine mm_istore (ls' := [(12, .int (0)), (11, .int (nI (k))), (10, .int (nI (i))), (9, .int (nI (b))), (8, .int (gl)), (7, .int (1)), (6, .int (nI (c))), (5, .int (gy)), (4, .int (gx)), (0, .ref 200), (1, .int (nI (m))), (2, .int (nI (p))), (3, .int (nI (s)))]) dX12_goes_140 (by decide) rfl ?_
          refine mm_iload 0 dX12_goes_142 rfl ?_
          refine mm_if_eq (tgt := 174) dX12_goes_144 (by decide) (fun _ => ?_) (fun q => absurd (by decide) q)
          refine mm_iload 3 dX12_goes_174 rfl ?_
          refine mm_istore (ls' := [(9, .int (nI (b))), (12, .int (0)), (11, .int (nI (k))), (10, .int (nI (i))), (8, .int (gl)), (7, .int (1)), (6, .int (nI (c))), (5, .int (gy)), (4, .int (gx)), (0, .ref 200), (1, .int (nI (m))), (2, .int (nI (p))), (3, .int (nI (s)))]) dX12_goes_176 (by decide) rfl ?_
          refine mm_iincN (ls' := [(10, .int (nI (i + 1))), (9, .int (nI (b))), (12, .int (0)), (11, .int (nI (k))), (8, .int (gl)), (7, .int (1)), (6, .int (nI (c))), (5, .int (gy)), (4, .int (gx)), (0, .ref 200), (1, .int (nI (m))), (2, .int (nI (p))), (3, .int (nI (s)))]) 3 (i) 1 dX12_goes_178 rfl rfl (by decide) rfl ?_
          refine mm_goto (tgt := 104) dX12_goes_181 (by decide) ?_
          have hh := ih (i + 1) (by omega) (by omega)
          have e : gs_b s0.1 w h c (i + 1) = (nI (b)) := by
            unfold gs_b
            rw [eb, ew]
            rw [vv_nI (by omega), if_neg (by rintro ⟨-, q, -⟩; exact absurd c132 (Int32.not_lt.mpr q))]
          rw [e] at hh
          exact mm_sub [0, 1, 4, 5, 6, 7, 8, 9, 10, 11, 12] rfl hh
        · refine mm_iconst (v := 1) dX12_goes_135 rfl ?_
          refine mm_goto (tgt := 140) dX12_goes_136 (by decide) ?_
          refine mm_istore (ls' := [(12, .int (1)), (11, .int (nI (k))), (10, .int (nI (i))), (9, .int (nI (b))), (8, .int (gl)), (7, .int (1)), (6, .int (nI (c))), (5, .int (gy)), (4, .int (gx)), (0, .ref 200), (1, .int (nI (m))), (2, .int (nI (p))), (3, .int (nI (s)))]) dX12_goes_140 (by decide) rfl ?_
          refine mm_iload 0 dX12_goes_142 rfl ?_
          refine mm_if_eq (tgt := 174) dX12_goes_144 (by decide) (fun q => absurd q (by decide)) (fun _ => ?_)
          refine mm_iload 3 dX12_goes_147 rfl ?_
          refine mm_if_ltN (b) (tgt := 169) dX12_goes_149 (by decide) (by omega) ?_
          refine mm_aload_n 9 dX12_goes_152 rfl rfl ?_
          refine mm_getr (b := 207) dX12_goes_153 rfl fk_X12_28 rfl so_200 sr_200_9 ?_
          refine mm_iload 1 dX12_goes_156 rfl ?_
          refine mm_ialdN (k) dX12_goes_158 sa_207 (by omega) (by omega) ?_
          refine mm_top (v := s0.1 k) rfl ?_
          refine mm_aload_n 9 dX12_goes_159 rfl rfl ?_
          refine mm_getr (b := 207) dX12_goes_160 rfl fk_X12_28 rfl so_200 sr_200_9 ?_
          refine mm_at (pc' := 163) rfl ?_
          refine mm_iload 3 dX12_goes_163 rfl ?_
          refine mm_ialdN (b) dX12_goes_165 sa_207 (by omega) (by omega) ?_
          refine mm_top (v := s0.1 b) rfl ?_
          refine mm_icmp_ge (tgt := 174) dX12_goes_166 (by decide) (fun c166 => ?_) (fun c166 => ?_)
          · refine mm_iload 3 dX12_goes_174 rfl ?_
            refine mm_istore (ls' := [(9, .int (nI (b))), (12, .int (1)), (11, .int (nI (k))), (10, .int (nI (i))), (8, .int (gl)), (7, .int (1)), (6, .int (nI (c))), (5, .int (gy)), (4, .int (gx)), (0, .ref 200), (1, .int (nI (m))), (2, .int (nI (p))), (3, .int (nI (s)))]) dX12_goes_176 (by decide) rfl ?_
            refine mm_iincN (ls' := [(10, .int (nI (i + 1))), (9, .int (nI (b))), (12, .int (1)), (11, .int (nI (k))), (8, .int (gl)), (7, .int (1)), (6, .int (nI (c))), (5, .int (gy)), (4, .int (gx)), (0, .ref 200), (1, .int (nI (m))), (2, .int (nI (p))), (3, .int (nI (s)))]) 3 (i) 1 dX12_goes_178 rfl rfl (by decide) rfl ?_
            refine mm_goto (tgt := 104) dX12_goes_181 (by decide) ?_
            have hh := ih (i + 1) (by omega) (by omega)
            have e : gs_b s0.1 w h c (i + 1) = (nI (b)) := by
              unfold gs_b
              rw [eb, ew]
              rw [vv_nI (by omega), vv_nI (by omega), if_neg (show ¬ (0 ≤ nI k ∧ 0 ≤ s0.1 k ∧ (nI b < 0 ∨ s0.1 k < s0.1 b)) from by rintro ⟨-, q, q2 | q2⟩; exact nI_pos (by omega) q2; exact absurd q2 (Int32.not_lt.mpr c166))]
            rw [e] at hh
            exact mm_sub [0, 1, 4, 5, 6, 7, 8, 9, 10, 11, 12] rfl hh
          · refine mm_iload 1 dX12_goes_169 rfl ?_
            refine mm_goto (tgt := 176) dX12_goes_171 (by decide) ?_
            refine mm_istore (ls' := [(9, .int (nI (k))), (12, .int (1)), (11, .int (nI (k))), (10, .int (nI (i))), (8, .int (gl)), (7, .int (1)), (6, .int (nI (c))), (5, .int (gy)), (4, .int (gx)), (0, .ref 200), (1, .int (nI (m))), (2, .int (nI (p))), (3, .int (nI (s)))]) dX12_goes_176 (by decide) rfl ?_
            refine mm_iincN (ls' := [(10, .int (nI (i + 1))), (9, .int (nI (k))), (12, .int (1)), (11, .int (nI (k))), (8, .int (gl)), (7, .int (1)), (6, .int (nI (c))), (5, .int (gy)), (4, .int (gx)), (0, .ref 200), (1, .int (nI (m))), (2, .int (nI (p))), (3, .int (nI (s)))]) 3 (i) 1 dX12_goes_178 rfl rfl (by decide) rfl ?_
            refine mm_goto (tgt := 104) dX12_goes_181 (by decide) ?_
            have hh := ih (i + 1) (by omega) (by omega)
            have e : gs_b s0.1 w h c (i + 1) = (nI (k)) := by
              unfold gs_b
              rw [eb, ew]
              rw [vv_nI (by omega), vv_nI (by omega), if_pos (show 0 ≤ nI k ∧ 0 ≤ s0.1 k ∧ (nI b < 0 ∨ s0.1 k < s0.1 b) from ⟨nI_pos' (by omega), Int32.not_lt.mp c132, Or.inr (Int32.not_le.mp c166)⟩)]
            rw [e] at hh
            exact mm_sub [0, 1, 4, 5, 6, 7, 8, 9, 10, 11, 12] rfl hh
set_option maxRecDepth 100000 in
set_option maxHeartbeats 600000 in
theorem lm_gt {g : mm_G} {I : mm_I} {d : Nat} {Q : Option Value → mm_Sh → mm_I → Prop} {w h : Nat} (hW : mo_W (I 201) w h) {n : Nat} (hm : I 201 16 = nI n) (hm5 : n ≤ 5) {p k : Nat} (hp : p < 6) (hT : mo_T (I 201) p k) {s : Nat} (hs : s < k) {m c : Nat} (hmm : m < 5) {s0 : bf_S} {gl gx gy x : Int32} (hxi : x = -1 ∨ ∃ b, b < 80 ∧ x = nI b) (hd : 2 ≤ d) (hq : Q (some (.int 1)) sh_S (op_gs I (bf_m I s0) n m p s x)) : mm_Ex g zX12_goes d (0, 0) (0, 0) sh_S (bf_m I s0) 184 [(10, .int (nI (4))), (9, .int (x)), (8, .int (gl)), (7, .int (1)), (6, .int (nI (c))), (5, .int (gy)), (4, .int (gx)), (0, .ref 200), (1, .int (nI (m))), (2, .int (nI (p))), (3, .int (nI (s)))] [] Q := by
  have h32 := hT.1
  rcases hxi with e | ⟨b, hb, e⟩
  · subst e
    rw [op_gs, if_pos (by decide)] at hq
    refine mm_iload 1 dX12_goes_184 rfl ?_
    refine mm_if_ge (tgt := 208) dX12_goes_186 (by decide) (fun q => absurd q (by decide)) (fun _ => ?_)
    refine mm_aload_n 7 dX12_goes_189 rfl rfl ?_
    refine mm_getr (b := 201) dX12_goes_190 rfl fk_X12_9 rfl so_200 sr_200_0 ?_
    refine mm_iload_n 8 dX12_goes_193 rfl rfl ?_
    refine mm_bipush (v := 7) dX12_goes_194 rfl ?_
    refine mm_cS2i (dz := d - 1) dX12_goes_196 rfl mzX12_of ml_X12_87 imX12_of (by omega) (cm_of (m) (7)) (Nat.le_of_ble_eq_true rfl) ⟨Nat.le_refl _, Nat.le_refl _⟩ ?_
    refine mm_aload_n 7 dX12_goes_199 rfl rfl ?_
    refine mm_iload_n 9 dX12_goes_200 rfl rfl ?_
    refine mm_iload_n 10 dX12_goes_201 rfl rfl ?_
    refine mm_at (pc' := 202) rfl ?_
    refine mm_cV2i (dz := d - 1) dX12_goes_202 rfl mzX12_behind ml_X12_273 imX12_behind (by omega) so_200 ⟨rfl, rfl⟩ (cm_behindN (N := I 201) (fun x hx => bf_m_n (by decide) (by decide)) hp hT (by omega) (by omega)) (Nat.le_of_ble_eq_true rfl) ⟨Nat.le_refl _, Nat.le_refl _⟩ ?_
    refine mm_iastN (630 + 40 * m + 7) dX12_goes_205 sa_201 (by omega) (by omega) ?_
    refine mm_iconst (v := 1) dX12_goes_206 rfl ?_
    refine mm_zret dX12_goes_207 rfl (by decide) ⟨Nat.le_refl _, Nat.le_refl _⟩ ?_
    exact hq
  · subst e
    rw [op_gs, if_neg (nI_pos (by omega)), vv_nI (by omega)] at hq
    refine mm_iload 1 dX12_goes_184 rfl ?_
    refine mm_if_geN (b) (tgt := 208) dX12_goes_186 (by decide) (by omega) ?_
    refine mm_aload_n 7 dX12_goes_208 rfl rfl ?_
    refine mm_iload 1 dX12_goes_209 rfl ?_
    refine mm_iconst (v := 3) dX12_goes_211 rfl ?_
    refine mm_cV2i (dz := d - 1) dX12_goes_212 rfl mzX12_isOfKind ml_X12_101 imX12_isOfKind (by omega) so_200 ⟨rfl, rfl⟩ (show mm_Ci g zX12_isOfKind (d - 1) [.ref 200, .int (nI b), .int 3] sh_S (bf_m I s0) (if sp_kd (I 201 (30 + b)) 3 then 1 else 0) (bf_m I s0) from cm_isOfKind (by omega)) (Nat.le_of_ble_eq_true rfl) ⟨Nat.le_refl _, Nat.le_refl _⟩ ?_
    have K215 : mm_Ex g zX12_goes d (0, 0) (0, 0) sh_S (bf_m I s0) 223 [(10, .int (nI (4))), (9, .int (nI (b))), (8, .int (gl)), (7, .int (1)), (6, .int (nI (c))), (5, .int (gy)), (4, .int (gx)), (0, .ref 200), (1, .int (nI (m))), (2, .int (nI (p))), (3, .int (nI (s)))] [.int (if sp_kd (I 201 (30 + b)) 3 then 1 else 2)] Q := by
      refine mm_istore (ls' := [(10, .int (if sp_kd (I 201 (30 + b)) 3 then 1 else 2)), (9, .int (nI (b))), (8, .int (gl)), (7, .int (1)), (6, .int (nI (c))), (5, .int (gy)), (4, .int (gx)), (0, .ref 200), (1, .int (nI (m))), (2, .int (nI (p))), (3, .int (nI (s)))]) dX12_goes_223 (by decide) rfl ?_
      refine mm_aload_n 7 dX12_goes_225 rfl rfl ?_
      refine mm_iload 1 dX12_goes_226 rfl ?_
      refine mm_cV1i (dz := d - 1) dX12_goes_228 rfl mzX12_machineOn ml_X12_95 imX12_machineOn (by omega) so_200 ⟨rfl, rfl⟩ (cm_machineOn (show (bf_m I s0) 201 16 = nI n from by rw [bf_m_a (by decide) (by decide)]; exact hm) hm5 (by omega)) (Nat.le_of_ble_eq_true rfl) ⟨Nat.le_refl _, Nat.le_refl _⟩ ?_
      refine mm_if_ge (tgt := 272) dX12_goes_231 (by decide) (fun c231 => ?_) (fun c231 => ?_)
      · refine mm_iconst (v := 1) dX12_goes_272 rfl ?_
        refine mm_zret dX12_goes_273 rfl (by decide) ⟨Nat.le_refl _, Nat.le_refl _⟩ ?_
        first | (rw [if_pos ⟨Int32.not_le.mp c231, Int32.not_lt.mp c246⟩] at hq; exact hq) | (rw [if_neg (by rintro ⟨q1, q2⟩; first | exact absurd q1 (Int32.not_lt.mpr c231) | exact absurd q2 (Int32.not_le.mpr c246))] at hq; exact hq)
      · refine mm_aload_n 7 dX12_goes_234 rfl rfl ?_
        refine mm_getr (b := 201) dX12_goes_235 rfl fk_X12_9 rfl so_200 sr_200_0 ?_
        refine mm_iload_n 8 dX12_goes_238 rfl rfl ?_
        refine mm_iconst (v := 2) dX12_goes_239 rfl ?_
        refine mm_cS2i (dz := d - 1) dX12_goes_240 rfl mzX12_of ml_X12_87 imX12_of (by omega) (cm_of (m) (2)) (Nat.le_of_ble_eq_true rfl) ⟨Nat.le_refl _, Nat.le_refl _⟩ ?_
        refine mm_ialdN (630 + 40 * m + 2) dX12_goes_243 sa_201 (by omega) (by omega) ?_
        refine mm_top (v := I 201 (630 + 40 * m + 2)) (bf_m_n (by decide) (by decide)) ?_
        refine mm_iload 0 dX12_goes_244 rfl ?_
        refine mm_at (pc' := 246) rfl ?_
        refine mm_icmp_lt (tgt := 272) dX12_goes_246 (by decide) (fun c246 => ?_) (fun c246 => ?_)
        · refine mm_iconst (v := 1) dX12_goes_272 rfl ?_
          refine mm_zret dX12_goes_273 rfl (by decide) ⟨Nat.le_refl _, Nat.le_refl _⟩ ?_
          first | (rw [if_pos ⟨Int32.not_le.mp c231, Int32.not_lt.mp c246⟩] at hq; exact hq) | (rw [if_neg (by rintro ⟨q1, q2⟩; first | exact absurd q1 (Int32.not_lt.mpr c231) | exact absurd q2 (Int32.not_le.mpr c246))] at hq; exact hq)
        · refine mm_aload_n 7 dX12_goes_249 rfl rfl ?_
          refine mm_getr (b := 201) dX12_goes_250 rfl fk_X12_9 rfl so_200 sr_200_0 ?_
          refine mm_iload_n 8 dX12_goes_253 rfl rfl ?_
          refine mm_iconst (v := 1) dX12_goes_254 rfl ?_
          refine mm_cS2i (dz := d - 1) dX12_goes_255 rfl mzX12_of ml_X12_87 imX12_of (by omega) (cm_of (m) (1)) (Nat.le_of_ble_eq_true rfl) ⟨Nat.le_refl _, Nat.le_refl _⟩ ?_
          refine mm_iload 1 dX12_goes_258 rfl ?_
          refine mm_iastN (630 + 40 * m + 1) dX12_goes_260 sa_201 (by omega) (by omega) ?_
          refine mm_at (pc' := 261) rfl ?_
          refine mm_aload_n 7 dX12_goes_261 rfl rfl ?_
          refine mm_iload_n 8 dX12_goes_262 rfl rfl ?_
          refine mm_iload 0 dX12_goes_263 rfl ?_
          refine mm_iload 0 dX12_goes_265 rfl ?_
          refine mm_iconst (v := 1) dX12_goes_267 rfl ?_
          refine mm_isub dX12_goes_268 ?_
          refine mm_cV3v (dz := d - 1) dX12_goes_269 rfl mzX12_costs ml_X12_298 imX12_costs (by omega) so_200 ⟨rfl, rfl⟩ (cm_costs (by omega) (by omega)) (Nat.le_of_ble_eq_true rfl) ⟨Nat.le_refl _, Nat.le_refl _⟩ ?_
          refine mm_iconst (v := 1) dX12_goes_272 rfl ?_
          refine mm_at (pc' := 273) rfl ?_
          refine mm_zret dX12_goes_273 rfl (by decide) ⟨Nat.le_refl _, Nat.le_refl _⟩ ?_
          first | (rw [if_pos ⟨Int32.not_le.mp c231, Int32.not_lt.mp c246⟩] at hq; exact hq) | (rw [if_neg (by rintro ⟨q1, q2⟩; first | exact absurd q1 (Int32.not_lt.mpr c231) | exact absurd q2 (Int32.not_le.mpr c246))] at hq; exact hq)
    refine mm_if_eqB (tgt := 222) dX12_goes_215 (by decide) (fun c215 => ?_) (fun c215 => ?_)
    · refine mm_iconst (v := 2) dX12_goes_222 rfl ?_
      exact mm_top (by rw [if_neg c215]) K215
    · refine mm_iconst (v := 1) dX12_goes_218 rfl ?_
      refine mm_goto (tgt := 223) dX12_goes_219 (by decide) ?_
      exact mm_top (by rw [if_pos c215]) K215
set_option maxRecDepth 100000 in
set_option maxHeartbeats 600000 in
theorem cm_goesT {g : mm_G} {I : mm_I} {d : Nat} {w h : Nat} (hW : mo_W (I 201) w h) {p k : Nat} (hp : p < 6) (hT : mo_T (I 201) p k) {s : Nat} (hs : s < k) {m c : Nat} (hmm : m < 5) (hc1 : I 201 (630 + 40 * m + 1) = nI c) (hcw : c < w * h) {x y : Nat} (hx9 : x ≤ 9999) (hy9 : y ≤ 9999) (ex : sf (I 201) p s 1 = nI x) (ey : sf (I 201) p s 2 = nI y) (hxy : x < w ∧ y < h) (hth : y * w + x = c) (hd : 2 ≤ d) : mm_Ci g zX12_goes d [.ref 200, .int (nI m), .int (nI p), .int (nI s)] sh_S I 0 I := by
  have hc := mo_W_c hW
  obtain ⟨-, -, hw1, hw2, hh1, hh2⟩ := id hW
  have h32 := hT.1
  refine mm_Ci_of (fun Q hq => ?_)
  refine mm_begin (ls := [(0, .ref 200), (1, .int (nI (m))), (2, .int (nI (p))), (3, .int (nI (s)))]) (Nat.le_of_ble_eq_true rfl) rfl rfl ?_
  refine mm_aload_n 0 dX12_goes_0 rfl rfl ?_
  refine mm_iload_n 2 dX12_goes_1 rfl rfl ?_
  refine mm_iload_n 3 dX12_goes_2 rfl rfl ?_
  refine mm_iconst (v := 1) dX12_goes_3 rfl ?_
  refine mm_cV3i (dz := d - 1) dX12_goes_4 rfl mzX12_ofStep ml_X12_263 imX12_ofStep (by omega) so_200 ⟨rfl, rfl⟩ (cm_ofStep (s := s) (f := 1) (by omega) (by omega) (by decide)) (Nat.le_of_ble_eq_true rfl) ⟨Nat.le_refl _, Nat.le_refl _⟩ ?_
  refine mm_top (v := nI (x)) ex ?_
  refine mm_istore (ls' := [(4, .int (nI (x))), (0, .ref 200), (1, .int (nI (m))), (2, .int (nI (p))), (3, .int (nI (s)))]) dX12_goes_7 (by decide) rfl ?_
  refine mm_aload_n 1 dX12_goes_9 rfl rfl ?_
  refine mm_iload_n 3 dX12_goes_10 rfl rfl ?_
  refine mm_at (pc' := 11) rfl ?_
  refine mm_iload_n 4 dX12_goes_11 rfl rfl ?_
  refine mm_iconst (v := 2) dX12_goes_12 rfl ?_
  refine mm_cV3i (dz := d - 1) dX12_goes_13 rfl mzX12_ofStep ml_X12_263 imX12_ofStep (by omega) so_200 ⟨rfl, rfl⟩ (cm_ofStep (s := s) (f := 2) (by omega) (by omega) (by decide)) (Nat.le_of_ble_eq_true rfl) ⟨Nat.le_refl _, Nat.le_refl _⟩ ?_
  refine mm_top (v := nI (y)) ey ?_
  refine mm_istore (ls' := [(5, .int (nI (y))), (4, .int (nI (x))), (0, .ref 200), (1, .int (nI (m))), (2, .int (nI (p))), (3, .int (nI (s)))]) dX12_goes_16 (by decide) rfl ?_
  refine mm_aload_n 2 dX12_goes_18 rfl rfl ?_
  refine mm_getr (b := 201) dX12_goes_19 rfl fk_X12_9 rfl so_200 sr_200_0 ?_
  refine mm_iload_n 3 dX12_goes_22 rfl rfl ?_
  refine mm_iconst (v := 1) dX12_goes_23 rfl ?_
  refine mm_at (pc' := 24) rfl ?_
  refine mm_cS2i (dz := d - 1) dX12_goes_24 rfl mzX12_of ml_X12_87 imX12_of (by omega) (cm_of (m) (1)) (Nat.le_of_ble_eq_true rfl) ⟨Nat.le_refl _, Nat.le_refl _⟩ ?_
  refine mm_ialdN (630 + 40 * m + 1) dX12_goes_27 sa_201 (by omega) (by omega) ?_
  refine mm_top (v := nI (c)) hc1 ?_
  refine mm_istore (ls' := [(6, .int (nI (c))), (5, .int (nI (y))), (4, .int (nI (x))), (0, .ref 200), (1, .int (nI (m))), (2, .int (nI (p))), (3, .int (nI (s)))]) dX12_goes_28 (by decide) rfl ?_
  refine mm_iload 2 dX12_goes_30 rfl ?_
  refine mm_aload_n 3 dX12_goes_32 rfl rfl ?_
  refine mm_getr (b := 201) dX12_goes_33 rfl fk_X12_9 rfl so_200 sr_200_0 ?_
  refine mm_iconst (v := 0) dX12_goes_36 rfl ?_
  refine mm_ialdN (0) dX12_goes_37 sa_201 (by omega) (by omega) ?_
  refine mm_at (pc' := 38) rfl ?_
  refine mm_top (v := nI (w)) hW.1 ?_
  refine mm_icmp_geN (x) (w) (tgt := 56) dX12_goes_38 (by decide) (by omega) (by omega) (fun c38 => ?_) (fun c38 => ?_)
  · omega
  · refine mm_iload 1 dX12_goes_41 rfl ?_
    refine mm_aload_n 3 dX12_goes_43 rfl rfl ?_
    refine mm_getr (b := 201) dX12_goes_44 rfl fk_X12_9 rfl so_200 sr_200_0 ?_
    refine mm_iconst (v := 1) dX12_goes_47 rfl ?_
    refine mm_ialdN (1) dX12_goes_48 sa_201 (by omega) (by omega) ?_
    refine mm_top (v := nI (h)) hW.2.1 ?_
    refine mm_icmp_geN (y) (h) (tgt := 56) dX12_goes_49 (by decide) (by omega) (by omega) (fun c49 => ?_) (fun c49 => ?_)
    · omega
    · refine mm_iconst (v := 1) dX12_goes_52 rfl ?_
      refine mm_goto (tgt := 57) dX12_goes_53 (by decide) ?_
      refine mm_istore (ls' := [(7, .int (1)), (6, .int (nI (c))), (5, .int (nI (y))), (4, .int (nI (x))), (0, .ref 200), (1, .int (nI (m))), (2, .int (nI (p))), (3, .int (nI (s)))]) dX12_goes_57 (by decide) rfl ?_
      refine mm_iload 2 dX12_goes_59 rfl ?_
      refine mm_aload_n 4 dX12_goes_61 rfl rfl ?_
      refine mm_getr (b := 201) dX12_goes_62 rfl fk_X12_9 rfl so_200 sr_200_0 ?_
      refine mm_iconst (v := 0) dX12_goes_65 rfl ?_
      refine mm_ialdN (0) dX12_goes_66 sa_201 (by omega) (by omega) ?_
      refine mm_top (v := nI (w)) hW.1 ?_
      refine mm_imulN (y) (w) dX12_goes_67 ?_
      refine mm_iload 3 dX12_goes_68 rfl ?_
      refine mm_at (pc' := 70) rfl ?_
      refine mm_iaddN (y * w) (x) dX12_goes_70 ?_
      refine mm_istore (ls' := [(8, .int (nI ((y * w) + x))), (7, .int (1)), (6, .int (nI (c))), (5, .int (nI (y))), (4, .int (nI (x))), (0, .ref 200), (1, .int (nI (m))), (2, .int (nI (p))), (3, .int (nI (s)))]) dX12_goes_71 (by decide) rfl ?_
      refine mm_iload 1 dX12_goes_73 rfl ?_
      refine mm_if_eq (tgt := 87) dX12_goes_75 (by decide) (fun q => absurd q (by decide)) (fun _ => ?_)
      refine mm_iload 0 dX12_goes_78 rfl ?_
      refine mm_iload 2 dX12_goes_80 rfl ?_
      refine mm_icmp_neN ((y * w) + x) (c) (tgt := 87) dX12_goes_82 (by decide) (by omega) (by omega) (fun c82 => ?_) (fun c82 => ?_)
      · omega
      · refine mm_iconst (v := 0) dX12_goes_85 rfl ?_
        refine mm_zret dX12_goes_86 rfl (by decide) ⟨Nat.le_refl _, Nat.le_refl _⟩ ?_
        exact hq
set_option maxRecDepth 100000 in
set_option maxHeartbeats 600000 in
theorem cm_goesI {g : mm_G} {I : mm_I} {d : Nat} {w h : Nat} (hW : mo_W (I 201) w h) {n : Nat} (hm : I 201 16 = nI n) (hm5 : n ≤ 5) {p k : Nat} (hp : p < 6) (hT : mo_T (I 201) p k) {s : Nat} (hs : s < k) {m c : Nat} (hmm : m < 5) (hc1 : I 201 (630 + 40 * m + 1) = nI c) (hcw : c < w * h) {x y : Nat} (hx9 : x ≤ 9999) (hy9 : y ≤ 9999) (ex : sf (I 201) p s 1 = nI x) (ey : sf (I 201) p s 2 = nI y) (hxy : x < w ∧ y < h) (hth : ¬ y * w + x = c) (hd : 3 ≤ d) : mm_Ci g zX12_goes d [.ref 200, .int (nI m), .int (nI p), .int (nI s)] sh_S I 1 (op_goes I w h n m p s c) := by
  have hc := mo_W_c hW
  obtain ⟨-, -, hw1, hw2, hh1, hh2⟩ := id hW
  have h32 := hT.1
  have hg := sp_goal hxy.1 hxy.2
  rw [show op_goes I w h n m p s c = op_gs I (bf_m I (bf_r I w h (y * w + x))) n m p s (gs_b (bf_r I w h (y * w + x)).1 w h c 4) by unfold op_goes; rw [if_pos (by rw [ex, ey, hW.1, hW.2.1]; exact ⟨nI_lt hxy.1 (by omega), nI_lt hxy.2 (by omega)⟩), ex, ey, vv_nI (by omega), vv_nI (by omega)]]
  refine mm_Ci_of (fun Q hq => ?_)
  refine mm_begin (ls := [(0, .ref 200), (1, .int (nI (m))), (2, .int (nI (p))), (3, .int (nI (s)))]) (Nat.le_of_ble_eq_true rfl) rfl rfl ?_
  refine mm_aload_n 0 dX12_goes_0 rfl rfl ?_
  refine mm_iload_n 2 dX12_goes_1 rfl rfl ?_
  refine mm_iload_n 3 dX12_goes_2 rfl rfl ?_
  refine mm_iconst (v := 1) dX12_goes_3 rfl ?_
  refine mm_cV3i (dz := d - 1) dX12_goes_4 rfl mzX12_ofStep ml_X12_263 imX12_ofStep (by omega) so_200 ⟨rfl, rfl⟩ (cm_ofStep (s := s) (f := 1) (by omega) (by omega) (by decide)) (Nat.le_of_ble_eq_true rfl) ⟨Nat.le_refl _, Nat.le_refl _⟩ ?_
  refine mm_top (v := nI (x)) ex ?_
  refine mm_istore (ls' := [(4, .int (nI (x))), (0, .ref 200), (1, .int (nI (m))), (2, .int (nI (p))), (3, .int (nI (s)))]) dX12_goes_7 (by decide) rfl ?_
  refine mm_aload_n 1 dX12_goes_9 rfl rfl ?_
  refine mm_iload_n 3 dX12_goes_10 rfl rfl ?_
  refine mm_at (pc' := 11) rfl ?_
  refine mm_iload_n 4 dX12_goes_11 rfl rfl ?_
  refine mm_iconst (v := 2) dX12_goes_12 rfl ?_
  refine mm_cV3i (dz := d - 1) dX12_goes_13 rfl mzX12_ofStep ml_X12_263 imX12_ofStep (by omega) so_200 ⟨rfl, rfl⟩ (cm_ofStep (s := s) (f := 2) (by omega) (by omega) (by decide)) (Nat.le_of_ble_eq_true rfl) ⟨Nat.le_refl _, Nat.le_refl _⟩ ?_
  refine mm_top (v := nI (y)) ey ?_
  refine mm_istore (ls' := [(5, .int (nI (y))), (4, .int (nI (x))), (0, .ref 200), (1, .int (nI (m))), (2, .int (nI (p))), (3, .int (nI (s)))]) dX12_goes_16 (by decide) rfl ?_
  refine mm_aload_n 2 dX12_goes_18 rfl rfl ?_
  refine mm_getr (b := 201) dX12_goes_19 rfl fk_X12_9 rfl so_200 sr_200_0 ?_
  refine mm_iload_n 3 dX12_goes_22 rfl rfl ?_
  refine mm_iconst (v := 1) dX12_goes_23 rfl ?_
  refine mm_at (pc' := 24) rfl ?_
  refine mm_cS2i (dz := d - 1) dX12_goes_24 rfl mzX12_of ml_X12_87 imX12_of (by omega) (cm_of (m) (1)) (Nat.le_of_ble_eq_true rfl) ⟨Nat.le_refl _, Nat.le_refl _⟩ ?_
  refine mm_ialdN (630 + 40 * m + 1) dX12_goes_27 sa_201 (by omega) (by omega) ?_
  refine mm_top (v := nI (c)) hc1 ?_
  refine mm_istore (ls' := [(6, .int (nI (c))), (5, .int (nI (y))), (4, .int (nI (x))), (0, .ref 200), (1, .int (nI (m))), (2, .int (nI (p))), (3, .int (nI (s)))]) dX12_goes_28 (by decide) rfl ?_
  refine mm_iload 2 dX12_goes_30 rfl ?_
  refine mm_aload_n 3 dX12_goes_32 rfl rfl ?_
  refine mm_getr (b := 201) dX12_goes_33 rfl fk_X12_9 rfl so_200 sr_200_0 ?_
  refine mm_iconst (v := 0) dX12_goes_36 rfl ?_
  refine mm_ialdN (0) dX12_goes_37 sa_201 (by omega) (by omega) ?_
  refine mm_at (pc' := 38) rfl ?_
  refine mm_top (v := nI (w)) hW.1 ?_
  refine mm_icmp_geN (x) (w) (tgt := 56) dX12_goes_38 (by decide) (by omega) (by omega) (fun c38 => ?_) (fun c38 => ?_)
  · omega
  · refine mm_iload 1 dX12_goes_41 rfl ?_
    refine mm_aload_n 3 dX12_goes_43 rfl rfl ?_
    refine mm_getr (b := 201) dX12_goes_44 rfl fk_X12_9 rfl so_200 sr_200_0 ?_
    refine mm_iconst (v := 1) dX12_goes_47 rfl ?_
    refine mm_ialdN (1) dX12_goes_48 sa_201 (by omega) (by omega) ?_
    refine mm_top (v := nI (h)) hW.2.1 ?_
    refine mm_icmp_geN (y) (h) (tgt := 56) dX12_goes_49 (by decide) (by omega) (by omega) (fun c49 => ?_) (fun c49 => ?_)
    · omega
    · refine mm_iconst (v := 1) dX12_goes_52 rfl ?_
      refine mm_goto (tgt := 57) dX12_goes_53 (by decide) ?_
      refine mm_istore (ls' := [(7, .int (1)), (6, .int (nI (c))), (5, .int (nI (y))), (4, .int (nI (x))), (0, .ref 200), (1, .int (nI (m))), (2, .int (nI (p))), (3, .int (nI (s)))]) dX12_goes_57 (by decide) rfl ?_
      refine mm_iload 2 dX12_goes_59 rfl ?_
      refine mm_aload_n 4 dX12_goes_61 rfl rfl ?_
      refine mm_getr (b := 201) dX12_goes_62 rfl fk_X12_9 rfl so_200 sr_200_0 ?_
      refine mm_iconst (v := 0) dX12_goes_65 rfl ?_
      refine mm_ialdN (0) dX12_goes_66 sa_201 (by omega) (by omega) ?_
      refine mm_top (v := nI (w)) hW.1 ?_
      refine mm_imulN (y) (w) dX12_goes_67 ?_
      refine mm_iload 3 dX12_goes_68 rfl ?_
      refine mm_at (pc' := 70) rfl ?_
      refine mm_iaddN (y * w) (x) dX12_goes_70 ?_
      refine mm_istore (ls' := [(8, .int (nI ((y * w) + x))), (7, .int (1)), (6, .int (nI (c))), (5, .int (nI (y))), (4, .int (nI (x))), (0, .ref 200), (1, .int (nI (m))), (2, .int (nI (p))), (3, .int (nI (s)))]) dX12_goes_71 (by decide) rfl ?_
      refine mm_iload 1 dX12_goes_73 rfl ?_
      refine mm_if_eq (tgt := 87) dX12_goes_75 (by decide) (fun q => absurd q (by decide)) (fun _ => ?_)
      refine mm_iload 0 dX12_goes_78 rfl ?_
      refine mm_iload 2 dX12_goes_80 rfl ?_
      refine mm_icmp_neN ((y * w) + x) (c) (tgt := 87) dX12_goes_82 (by decide) (by omega) (by omega) (fun c82 => ?_) (fun c82 => ?_)
      · refine mm_iconst (v := -1) dX12_goes_87 rfl ?_
        refine mm_istore (ls' := [(9, .int (-1)), (8, .int (nI ((y * w) + x))), (7, .int (1)), (6, .int (nI (c))), (5, .int (nI (y))), (4, .int (nI (x))), (0, .ref 200), (1, .int (nI (m))), (2, .int (nI (p))), (3, .int (nI (s)))]) dX12_goes_88 (by decide) rfl ?_
        refine mm_iload 2 dX12_goes_90 rfl ?_
        refine mm_if_eq (tgt := 184) dX12_goes_92 (by decide) (fun q => absurd q (by decide)) (fun _ => ?_)
        refine mm_aload_n 6 dX12_goes_95 rfl rfl ?_
        refine mm_iload 1 dX12_goes_96 rfl ?_
        refine mm_cV1v (dz := d - 1) dX12_goes_98 rfl mzX12_findFar ml_X12_114 imX12_findFar (by omega) so_200 ⟨rfl, rfl⟩ (cm_findFar hW (by omega) (by omega)) (Nat.le_of_ble_eq_true rfl) ⟨Nat.le_refl _, Nat.le_refl _⟩ ?_
        refine mm_iconst (v := 0) dX12_goes_101 rfl ?_
        refine mm_istore (ls' := [(10, .int (0)), (9, .int (-1)), (8, .int (nI ((y * w) + x))), (7, .int (1)), (6, .int (nI (c))), (5, .int (nI (y))), (4, .int (nI (x))), (0, .ref 200), (1, .int (nI (m))), (2, .int (nI (p))), (3, .int (nI (s)))]) dX12_goes_102 (by decide) rfl ?_
        refine mm_sub [0, 1, 2, 3, 4, 5, 6, 7, 8, 9, 10] rfl (lm_gs (gl := nI (y * w + x)) (gx := nI x) (gy := nI y) hW hmm hc1 hcw (by omega) ?_ 5 0 (by omega) (by omega))
        exact lm_gt (c := c) hW hm hm5 hp hT hs hmm ((gs_in (by omega) hcw 4).imp id (fun ⟨b, hb, e⟩ => ⟨b, by omega, e⟩)) (by omega) hq
      · omega
set_option maxRecDepth 100000 in
set_option maxHeartbeats 600000 in
theorem cm_goesO {g : mm_G} {I : mm_I} {d : Nat} {w h : Nat} (hW : mo_W (I 201) w h) {p k : Nat} (hp : p < 6) (hT : mo_T (I 201) p k) {s : Nat} (hs : s < k) {m c : Nat} (hmm : m < 5) (hc1 : I 201 (630 + 40 * m + 1) = nI c) (hcw : c < w * h) {x y : Nat} (hx9 : x ≤ 9999) (hy9 : y ≤ 9999) (ex : sf (I 201) p s 1 = nI x) (ey : sf (I 201) p s 2 = nI y) {n : Nat} (hxy : ¬ (x < w ∧ y < h)) (hd : 2 ≤ d) : mm_Ci g zX12_goes d [.ref 200, .int (nI m), .int (nI p), .int (nI s)] sh_S I 1 (op_goes I w h n m p s c) := by
  have hc := mo_W_c hW
  obtain ⟨-, -, hw1, hw2, hh1, hh2⟩ := id hW
  have h32 := hT.1
  rw [show op_goes I w h n m p s c = mm_up I 201 (630 + 40 * m + 7) (bh (I 201) p 32 s) by unfold op_goes; rw [if_neg (by rw [ex, ey, hW.1, hW.2.1]; rintro ⟨q1, q2⟩; exact hxy ⟨(nI_ltI (by omega) (by omega)).mp q1, (nI_ltI (by omega) (by omega)).mp q2⟩)]]
  refine mm_Ci_of (fun Q hq => ?_)
  refine mm_begin (ls := [(0, .ref 200), (1, .int (nI (m))), (2, .int (nI (p))), (3, .int (nI (s)))]) (Nat.le_of_ble_eq_true rfl) rfl rfl ?_
  refine mm_aload_n 0 dX12_goes_0 rfl rfl ?_
  refine mm_iload_n 2 dX12_goes_1 rfl rfl ?_
  refine mm_iload_n 3 dX12_goes_2 rfl rfl ?_
  refine mm_iconst (v := 1) dX12_goes_3 rfl ?_
  refine mm_cV3i (dz := d - 1) dX12_goes_4 rfl mzX12_ofStep ml_X12_263 imX12_ofStep (by omega) so_200 ⟨rfl, rfl⟩ (cm_ofStep (s := s) (f := 1) (by omega) (by omega) (by decide)) (Nat.le_of_ble_eq_true rfl) ⟨Nat.le_refl _, Nat.le_refl _⟩ ?_
  refine mm_top (v := nI (x)) ex ?_
  refine mm_istore (ls' := [(4, .int (nI (x))), (0, .ref 200), (1, .int (nI (m))), (2, .int (nI (p))), (3, .int (nI (s)))]) dX12_goes_7 (by decide) rfl ?_
  refine mm_aload_n 1 dX12_goes_9 rfl rfl ?_
  refine mm_iload_n 3 dX12_goes_10 rfl rfl ?_
  refine mm_at (pc' := 11) rfl ?_
  refine mm_iload_n 4 dX12_goes_11 rfl rfl ?_
  refine mm_iconst (v := 2) dX12_goes_12 rfl ?_
  refine mm_cV3i (dz := d - 1) dX12_goes_13 rfl mzX12_ofStep ml_X12_263 imX12_ofStep (by omega) so_200 ⟨rfl, rfl⟩ (cm_ofStep (s := s) (f := 2) (by omega) (by omega) (by decide)) (Nat.le_of_ble_eq_true rfl) ⟨Nat.le_refl _, Nat.le_refl _⟩ ?_
  refine mm_top (v := nI (y)) ey ?_
  refine mm_istore (ls' := [(5, .int (nI (y))), (4, .int (nI (x))), (0, .ref 200), (1, .int (nI (m))), (2, .int (nI (p))), (3, .int (nI (s)))]) dX12_goes_16 (by decide) rfl ?_
  refine mm_aload_n 2 dX12_goes_18 rfl rfl ?_
  refine mm_getr (b := 201) dX12_goes_19 rfl fk_X12_9 rfl so_200 sr_200_0 ?_
  refine mm_iload_n 3 dX12_goes_22 rfl rfl ?_
  refine mm_iconst (v := 1) dX12_goes_23 rfl ?_
  refine mm_at (pc' := 24) rfl ?_
  refine mm_cS2i (dz := d - 1) dX12_goes_24 rfl mzX12_of ml_X12_87 imX12_of (by omega) (cm_of (m) (1)) (Nat.le_of_ble_eq_true rfl) ⟨Nat.le_refl _, Nat.le_refl _⟩ ?_
  refine mm_ialdN (630 + 40 * m + 1) dX12_goes_27 sa_201 (by omega) (by omega) ?_
  refine mm_top (v := nI (c)) hc1 ?_
  refine mm_istore (ls' := [(6, .int (nI (c))), (5, .int (nI (y))), (4, .int (nI (x))), (0, .ref 200), (1, .int (nI (m))), (2, .int (nI (p))), (3, .int (nI (s)))]) dX12_goes_28 (by decide) rfl ?_
  refine mm_iload 2 dX12_goes_30 rfl ?_
  refine mm_aload_n 3 dX12_goes_32 rfl rfl ?_
  refine mm_getr (b := 201) dX12_goes_33 rfl fk_X12_9 rfl so_200 sr_200_0 ?_
  refine mm_iconst (v := 0) dX12_goes_36 rfl ?_
  refine mm_ialdN (0) dX12_goes_37 sa_201 (by omega) (by omega) ?_
  refine mm_at (pc' := 38) rfl ?_
  refine mm_top (v := nI (w)) hW.1 ?_
  refine mm_icmp_geN (x) (w) (tgt := 56) dX12_goes_38 (by decide) (by omega) (by omega) (fun c38 => ?_) (fun c38 => ?_)
  · refine mm_iconst (v := 0) dX12_goes_56 rfl ?_
    refine mm_istore (ls' := [(7, .int (0)), (6, .int (nI (c))), (5, .int (nI (y))), (4, .int (nI (x))), (0, .ref 200), (1, .int (nI (m))), (2, .int (nI (p))), (3, .int (nI (s)))]) dX12_goes_57 (by decide) rfl ?_
    refine mm_iload 2 dX12_goes_59 rfl ?_
    refine mm_aload_n 4 dX12_goes_61 rfl rfl ?_
    refine mm_getr (b := 201) dX12_goes_62 rfl fk_X12_9 rfl so_200 sr_200_0 ?_
    refine mm_iconst (v := 0) dX12_goes_65 rfl ?_
    refine mm_ialdN (0) dX12_goes_66 sa_201 (by omega) (by omega) ?_
    refine mm_top (v := nI (w)) hW.1 ?_
    refine mm_imulN (y) (w) dX12_goes_67 ?_
    refine mm_at (pc' := 68) rfl ?_
    refine mm_iload 3 dX12_goes_68 rfl ?_
    refine mm_iaddN (y * w) (x) dX12_goes_70 ?_
    refine mm_istore (ls' := [(8, .int (nI ((y * w) + x))), (7, .int (0)), (6, .int (nI (c))), (5, .int (nI (y))), (4, .int (nI (x))), (0, .ref 200), (1, .int (nI (m))), (2, .int (nI (p))), (3, .int (nI (s)))]) dX12_goes_71 (by decide) rfl ?_
    refine mm_iload 1 dX12_goes_73 rfl ?_
    refine mm_if_eq (tgt := 87) dX12_goes_75 (by decide) (fun _ => ?_) (fun q => absurd (by decide) q)
    refine mm_iconst (v := -1) dX12_goes_87 rfl ?_
    refine mm_istore (ls' := [(9, .int (-1)), (8, .int (nI ((y * w) + x))), (7, .int (0)), (6, .int (nI (c))), (5, .int (nI (y))), (4, .int (nI (x))), (0, .ref 200), (1, .int (nI (m))), (2, .int (nI (p))), (3, .int (nI (s)))]) dX12_goes_88 (by decide) rfl ?_
    refine mm_iload 2 dX12_goes_90 rfl ?_
    refine mm_if_eq (tgt := 184) dX12_goes_92 (by decide) (fun _ => ?_) (fun q => absurd (by decide) q)
    refine mm_iload 0 dX12_goes_184 rfl ?_
    refine mm_if_ge (tgt := 208) dX12_goes_186 (by decide) (fun q => absurd q (by decide)) (fun _ => ?_)
    refine mm_aload_n 6 dX12_goes_189 rfl rfl ?_
    refine mm_getr (b := 201) dX12_goes_190 rfl fk_X12_9 rfl so_200 sr_200_0 ?_
    refine mm_iload_n 7 dX12_goes_193 rfl rfl ?_
    refine mm_bipush (v := 7) dX12_goes_194 rfl ?_
    refine mm_cS2i (dz := d - 1) dX12_goes_196 rfl mzX12_of ml_X12_87 imX12_of (by omega) (cm_of (m) (7)) (Nat.le_of_ble_eq_true rfl) ⟨Nat.le_refl _, Nat.le_refl _⟩ ?_
    refine mm_aload_n 6 dX12_goes_199 rfl rfl ?_
    refine mm_iload_n 8 dX12_goes_200 rfl rfl ?_
    refine mm_iload_n 9 dX12_goes_201 rfl rfl ?_
    refine mm_at (pc' := 202) rfl ?_
    refine mm_cV2i (dz := d - 1) dX12_goes_202 rfl mzX12_behind ml_X12_273 imX12_behind (by omega) so_200 ⟨rfl, rfl⟩ (cm_behindN (N := I 201) (fun _ _ => rfl) hp hT (by omega) (by omega)) (Nat.le_of_ble_eq_true rfl) ⟨Nat.le_refl _, Nat.le_refl _⟩ ?_
    refine mm_iastN (630 + 40 * m + 7) dX12_goes_205 sa_201 (by omega) (by omega) ?_
    refine mm_iconst (v := 1) dX12_goes_206 rfl ?_
    refine mm_zret dX12_goes_207 rfl (by decide) ⟨Nat.le_refl _, Nat.le_refl _⟩ ?_
    exact hq
  · refine mm_iload 1 dX12_goes_41 rfl ?_
    refine mm_aload_n 3 dX12_goes_43 rfl rfl ?_
    refine mm_getr (b := 201) dX12_goes_44 rfl fk_X12_9 rfl so_200 sr_200_0 ?_
    refine mm_iconst (v := 1) dX12_goes_47 rfl ?_
    refine mm_ialdN (1) dX12_goes_48 sa_201 (by omega) (by omega) ?_
    refine mm_top (v := nI (h)) hW.2.1 ?_
    refine mm_icmp_geN (y) (h) (tgt := 56) dX12_goes_49 (by decide) (by omega) (by omega) (fun c49 => ?_) (fun c49 => ?_)
    · refine mm_iconst (v := 0) dX12_goes_56 rfl ?_
      refine mm_istore (ls' := [(7, .int (0)), (6, .int (nI (c))), (5, .int (nI (y))), (4, .int (nI (x))), (0, .ref 200), (1, .int (nI (m))), (2, .int (nI (p))), (3, .int (nI (s)))]) dX12_goes_57 (by decide) rfl ?_
      refine mm_iload 2 dX12_goes_59 rfl ?_
      refine mm_aload_n 4 dX12_goes_61 rfl rfl ?_
      refine mm_getr (b := 201) dX12_goes_62 rfl fk_X12_9 rfl so_200 sr_200_0 ?_
      refine mm_iconst (v := 0) dX12_goes_65 rfl ?_
      refine mm_ialdN (0) dX12_goes_66 sa_201 (by omega) (by omega) ?_
      refine mm_top (v := nI (w)) hW.1 ?_
      refine mm_imulN (y) (w) dX12_goes_67 ?_
      refine mm_at (pc' := 68) rfl ?_
      refine mm_iload 3 dX12_goes_68 rfl ?_
      refine mm_iaddN (y * w) (x) dX12_goes_70 ?_
      refine mm_istore (ls' := [(8, .int (nI ((y * w) + x))), (7, .int (0)), (6, .int (nI (c))), (5, .int (nI (y))), (4, .int (nI (x))), (0, .ref 200), (1, .int (nI (m))), (2, .int (nI (p))), (3, .int (nI (s)))]) dX12_goes_71 (by decide) rfl ?_
      refine mm_iload 1 dX12_goes_73 rfl ?_
      refine mm_if_eq (tgt := 87) dX12_goes_75 (by decide) (fun _ => ?_) (fun q => absurd (by decide) q)
      refine mm_iconst (v := -1) dX12_goes_87 rfl ?_
      refine mm_istore (ls' := [(9, .int (-1)), (8, .int (nI ((y * w) + x))), (7, .int (0)), (6, .int (nI (c))), (5, .int (nI (y))), (4, .int (nI (x))), (0, .ref 200), (1, .int (nI (m))), (2, .int (nI (p))), (3, .int (nI (s)))]) dX12_goes_88 (by decide) rfl ?_
      refine mm_iload 2 dX12_goes_90 rfl ?_
      refine mm_if_eq (tgt := 184) dX12_goes_92 (by decide) (fun _ => ?_) (fun q => absurd (by decide) q)
      refine mm_iload 0 dX12_goes_184 rfl ?_
      refine mm_if_ge (tgt := 208) dX12_goes_186 (by decide) (fun q => absurd q (by decide)) (fun _ => ?_)
      refine mm_aload_n 6 dX12_goes_189 rfl rfl ?_
      refine mm_getr (b := 201) dX12_goes_190 rfl fk_X12_9 rfl so_200 sr_200_0 ?_
      refine mm_iload_n 7 dX12_goes_193 rfl rfl ?_
      refine mm_bipush (v := 7) dX12_goes_194 rfl ?_
      refine mm_cS2i (dz := d - 1) dX12_goes_196 rfl mzX12_of ml_X12_87 imX12_of (by omega) (cm_of (m) (7)) (Nat.le_of_ble_eq_true rfl) ⟨Nat.le_refl _, Nat.le_refl _⟩ ?_
      refine mm_aload_n 6 dX12_goes_199 rfl rfl ?_
      refine mm_iload_n 8 dX12_goes_200 rfl rfl ?_
      refine mm_iload_n 9 dX12_goes_201 rfl rfl ?_
      refine mm_at (pc' := 202) rfl ?_
      refine mm_cV2i (dz := d - 1) dX12_goes_202 rfl mzX12_behind ml_X12_273 imX12_behind (by omega) so_200 ⟨rfl, rfl⟩ (cm_behindN (N := I 201) (fun _ _ => rfl) hp hT (by omega) (by omega)) (Nat.le_of_ble_eq_true rfl) ⟨Nat.le_refl _, Nat.le_refl _⟩ ?_
      refine mm_iastN (630 + 40 * m + 7) dX12_goes_205 sa_201 (by omega) (by omega) ?_
      refine mm_iconst (v := 1) dX12_goes_206 rfl ?_
      refine mm_zret dX12_goes_207 rfl (by decide) ⟨Nat.le_refl _, Nat.le_refl _⟩ ?_
      exact hq
    · omega
