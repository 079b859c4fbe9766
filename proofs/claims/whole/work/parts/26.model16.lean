/-! THE REFERENCE: mending -/
abbrev sp_max (a b : Int32) : Int32 := if a < b then b else a
def md_o (N : Nat → Int32) (x b : Int32) : Nat → Int32
  | 0 => b
  | o + 1 => if (0 ≤ x ∧ x = N (630 + 40 * o + 1)) ∧ 0 < N (630 + 40 * o + 3) ∧ (md_o N x b o < 0 ∨ N (630 + 40 * vv (md_o N x b o) + 3) < N (630 + 40 * o + 3)) then nI o else md_o N x b o
def md_w (N : Nat → Int32) (w h c n : Nat) : Nat → Int32
  | 0 => -1
  | y + 1 => md_o N (sp_be w h c y) (md_w N w h c n y) n
def md_in (b : Int32) : Prop := b = -1 ∨ ∃ q, q < 5 ∧ b = nI q
theorem md_o_in {N : Nat → Int32} {x b : Int32} (hb : md_in b) : ∀ o, o ≤ 5 → md_in (md_o N x b o) := by
  intro o
  induction o with
  | zero => intro _; exact hb
  | succ o ih =>
    intro ho
    unfold md_o
    by_cases c : (0 ≤ x ∧ x = N (630 + 40 * o + 1)) ∧ 0 < N (630 + 40 * o + 3) ∧ (md_o N x b o < 0 ∨ N (630 + 40 * vv (md_o N x b o) + 3) < N (630 + 40 * o + 3))
    · rw [if_pos c]; right; exact ⟨o, by omega, rfl⟩
    · rw [if_neg c]; exact ih (by omega)
theorem md_w_in {N : Nat → Int32} {w h c n : Nat} (hn : n ≤ 5) : ∀ y, md_in (md_w N w h c n y) := by
  intro y
  induction y with
  | zero => left; rfl
  | succ y ih => exact md_o_in ih n hn
abbrev md_no (N : Nat → Int32) (m : Nat) : Prop := ¬ N (630 + 40 * m + 0) = 3 ∨ N (630 + 40 * m + 2) < 4 ∨ N 12 = 0
def op_md (J : mm_I) (m q : Nat) : mm_I := op_costs (mm_up (mm_up J 201 (630 + 40 * q + 3) (sp_max 0 (J 201 (630 + 40 * q + 3) - 30))) 201 12 (J 201 12 - 1)) m 4 0
def op_mends (J : mm_I) (w h n m c : Nat) : mm_I := if md_no (J 201) m then J else if md_w (J 201) w h c n 4 < 0 then J else op_md J m (vv (md_w (J 201) w h c n 4))
set_option maxRecDepth 100000 in
set_option maxHeartbeats 600000 in
theorem lm_mdi {g : mm_G} {I : mm_I} {d : Nat} {Q : Option Value → mm_Sh → mm_I → Prop} {n : Nat} (hm : I 201 16 = nI n) (hm5 : n ≤ 5) {y m : Nat} {x b : Int32} (hb : md_in b) (hd : 1 ≤ d) (hx : mm_Ex g zX12_mends d (0, 0) (0, 0) sh_S I 163 [(5, .int (nI n)), (4, .int x), (3, .int (nI y)), (2, .int (md_o (I 201) x b n)), (0, .ref 200), (1, .int (nI m))] [] Q) : ∀ (mf : Nat) (i : Nat), (i ≤ n) → n - i < mf → mm_Ex g zX12_mends d (0, 0) (0, 0) sh_S I 68 [(5, .int (nI i)), (4, .int x), (3, .int (nI y)), (2, .int (md_o (I 201) x b i)), (0, .ref 200), (1, .int (nI m))] [] Q := by
  intro mf
  induction mf with
  | zero => intro i hi hmz; exact absurd hmz (Nat.not_lt_zero _)
  | succ mf ih =>
    intro i hi hmz
    rcases md_o_in (N := I 201) (x := x) hb i (by omega) with ew | ⟨q0, hq0, ew⟩
    · rw [ew]
      refine mm_iload 0 dX12_mends_68 rfl ?_
      refine mm_aload_n 4 dX12_mends_70 rfl rfl ?_
      refine mm_getr (b := 201) dX12_mends_71 rfl fk_X12_9 rfl so_200 sr_200_0 ?_
      refine mm_bipush (v := 16) dX12_mends_74 rfl ?_
      refine mm_ialdN (16) dX12_mends_76 sa_201 (by omega) (by omega) ?_
      refine mm_top (v := nI (n)) hm ?_
      refine mm_icmp_geN (i) (n) (tgt := 163) dX12_mends_77 (by decide) (by omega) (by omega) (fun c77 => ?_) (fun c77 => ?_)
      · have e : i = n := by omega
        subst e
        rw [ew] at hx
        exact hx
      · refine mm_iload 1 dX12_mends_80 rfl ?_
        refine mm_if_lt (tgt := 105) dX12_mends_82 (by decide) (fun c82 => ?_) (fun c82 => ?_)
        · refine mm_iconst (v := 0) dX12_mends_105 rfl ?_
          refine mm_istore (ls' := [(6, .int (0)), (5, .int (nI (i))), (4, .int (x)), (3, .int (nI (y))), (2, .int (-1)), (0, .ref 200), (1, .int (nI (m)))]) dX12_mends_106 (by decide) rfl ?_
          refine mm_aload_n 5 dX12_mends_108 rfl rfl ?_
          refine mm_getr (b := 201) dX12_mends_109 rfl fk_X12_9 rfl so_200 sr_200_0 ?_
          refine mm_iload 1 dX12_mends_112 rfl ?_
          refine mm_iconst (v := 3) dX12_mends_114 rfl ?_
          refine mm_cS2i (dz := d - 1) dX12_mends_115 rfl mzX12_of ml_X12_87 imX12_of (by omega) (cm_of (i) (3)) (Nat.le_of_ble_eq_true rfl) ⟨Nat.le_refl _, Nat.le_refl _⟩ ?_
          refine mm_ialdN (630 + 40 * i + 3) dX12_mends_118 sa_201 (by omega) (by omega) ?_
          refine mm_at (pc' := 119) rfl ?_
          refine mm_istore (ls' := [(7, .int (I 201 (630 + 40 * i + 3))), (6, .int (0)), (5, .int (nI (i))), (4, .int (x)), (3, .int (nI (y))), (2, .int (-1)), (0, .ref 200), (1, .int (nI (m)))]) dX12_mends_119 (by decide) rfl ?_
          refine mm_iload 1 dX12_mends_121 rfl ?_
          refine mm_if_eq (tgt := 155) dX12_mends_123 (by decide) (fun _ => ?_) (fun q => absurd (by decide) q)
          refine mm_iload_n 5 dX12_mends_155 rfl rfl ?_
          refine mm_istore_n (ls' := [(2, .int (-1)), (7, .int (I 201 (630 + 40 * i + 3))), (6, .int (0)), (5, .int (nI (i))), (4, .int (x)), (3, .int (nI (y))), (0, .ref 200), (1, .int (nI (m)))]) dX12_mends_156 rfl (by decide) rfl ?_
          refine mm_iincN (ls' := [(5, .int (nI (i + 1))), (2, .int (-1)), (7, .int (I 201 (630 + 40 * i + 3))), (6, .int (0)), (4, .int (x)), (3, .int (nI (y))), (0, .ref 200), (1, .int (nI (m)))]) 3 (i) 1 dX12_mends_157 rfl rfl (by decide) rfl ?_
          refine mm_goto (tgt := 68) dX12_mends_160 (by decide) ?_
          have hh := ih (i + 1) (by omega) (by omega)
          first | (rw [md_o, if_pos (by rw [ew]; exact ⟨⟨Int32.not_lt.mp c82, c98⟩, Int32.not_le.mp c128, Or.inl (by decide)⟩)] at hh; exact mm_sub [0, 4, 5, 1, 6, 7] rfl hh) | (rw [md_o, if_neg (fun q => absurd c82 (Int32.not_lt.mpr q.1.1)), ew] at hh; exact mm_sub [0, 4, 5, 1, 6, 7] rfl hh) | (rw [md_o, if_neg (fun q => c98 q.1.2), ew] at hh; exact mm_sub [0, 4, 5, 1, 6, 7] rfl hh) | (rw [md_o, if_neg (fun q => absurd q.2.1 (Int32.not_lt.mpr c128)), ew] at hh; exact mm_sub [0, 4, 5, 1, 6, 7] rfl hh) | (rw [md_o, if_pos (by rw [ew, vv_nI (by omega)]; exact ⟨⟨Int32.not_lt.mp c82, c98⟩, Int32.not_le.mp c128, Or.inr (Int32.not_le.mp c147)⟩)] at hh; exact mm_sub [0, 4, 5, 1, 6, 7] rfl hh) | (rw [md_o, if_neg (by rw [ew, vv_nI (by omega)]; rintro ⟨-, -, q2 | q2⟩; exact nI_pos (by omega) q2; exact absurd q2 (Int32.not_lt.mpr c147)), ew] at hh; exact mm_sub [0, 4, 5, 1, 6, 7] rfl hh)
        · refine mm_iload 1 dX12_mends_85 rfl ?_
          refine mm_aload_n 4 dX12_mends_87 rfl rfl ?_
          refine mm_getr (b := 201) dX12_mends_88 rfl fk_X12_9 rfl so_200 sr_200_0 ?_
          refine mm_iload 0 dX12_mends_91 rfl ?_
          refine mm_iconst (v := 1) dX12_mends_93 rfl ?_
          refine mm_cS2i (dz := d - 1) dX12_mends_94 rfl mzX12_of ml_X12_87 imX12_of (by omega) (cm_of (i) (1)) (Nat.le_of_ble_eq_true rfl) ⟨Nat.le_refl _, Nat.le_refl _⟩ ?_
          refine mm_ialdN (630 + 40 * i + 1) dX12_mends_97 sa_201 (by omega) (by omega) ?_
          refine mm_at (pc' := 98) rfl ?_
          refine mm_icmp_ne (tgt := 105) dX12_mends_98 (by decide) (fun c98 => ?_) (fun c98 => ?_)
          · refine mm_iconst (v := 0) dX12_mends_105 rfl ?_
            refine mm_istore (ls' := [(6, .int (0)), (5, .int (nI (i))), (4, .int (x)), (3, .int (nI (y))), (2, .int (-1)), (0, .ref 200), (1, .int (nI (m)))]) dX12_mends_106 (by decide) rfl ?_
            refine mm_aload_n 5 dX12_mends_108 rfl rfl ?_
            refine mm_getr (b := 201) dX12_mends_109 rfl fk_X12_9 rfl so_200 sr_200_0 ?_
            refine mm_iload 1 dX12_mends_112 rfl ?_
            refine mm_iconst (v := 3) dX12_mends_114 rfl ?_
            refine mm_cS2i (dz := d - 1) dX12_mends_115 rfl mzX12_of ml_X12_87 imX12_of (by omega) (cm_of (i) (3)) (Nat.le_of_ble_eq_true rfl) ⟨Nat.le_refl _, Nat.le_refl _⟩ ?_
            refine mm_ialdN (630 + 40 * i + 3) dX12_mends_118 sa_201 (by omega) (by omega) ?_
            refine mm_at (pc' := 119) rfl ?_
            refine mm_istore (ls' := [(7, .int (I 201 (630 + 40 * i + 3))), (6, .int (0)), (5, .int (nI (i))), (4, .int (x)), (3, .int (nI (y))), (2, .int (-1)), (0, .ref 200), (1, .int (nI (m)))]) dX12_mends_119 (by decide) rfl ?_
            refine mm_iload 1 dX12_mends_121 rfl ?_
            refine mm_if_eq (tgt := 155) dX12_mends_123 (by decide) (fun _ => ?_) (fun q => absurd (by decide) q)
            refine mm_iload_n 5 dX12_mends_155 rfl rfl ?_
            refine mm_istore_n (ls' := [(2, .int (-1)), (7, .int (I 201 (630 + 40 * i + 3))), (6, .int (0)), (5, .int (nI (i))), (4, .int (x)), (3, .int (nI (y))), (0, .ref 200), (1, .int (nI (m)))]) dX12_mends_156 rfl (by decide) rfl ?_
            refine mm_iincN (ls' := [(5, .int (nI (i + 1))), (2, .int (-1)), (7, .int (I 201 (630 + 40 * i + 3))), (6, .int (0)), (4, .int (x)), (3, .int (nI (y))), (0, .ref 200), (1, .int (nI (m)))]) 3 (i) 1 dX12_mends_157 rfl rfl (by decide) rfl ?_
            refine mm_goto (tgt := 68) dX12_mends_160 (by decide) ?_
            have hh := ih (i + 1) (by omega) (by omega)
            first | (rw [md_o, if_pos (by rw [ew]; exact ⟨⟨Int32.not_lt.mp c82, c98⟩, Int32.not_le.mp c128, Or.inl (by decide)⟩)] at hh; exact mm_sub [0, 4, 5, 1, 6, 7] rfl hh) | (rw [md_o, if_neg (fun q => absurd c82 (Int32.not_lt.mpr q.1.1)), ew] at hh; exact mm_sub [0, 4, 5, 1, 6, 7] rfl hh) | (rw [md_o, if_neg (fun q => c98 q.1.2), ew] at hh; exact mm_sub [0, 4, 5, 1, 6, 7] rfl hh) | (rw [md_o, if_neg (fun q => absurd q.2.1 (Int32.not_lt.mpr c128)), ew] at hh; exact mm_sub [0, 4, 5, 1, 6, 7] rfl hh) | (rw [md_o, if_pos (by rw [ew, vv_nI (by omega)]; exact ⟨⟨Int32.not_lt.mp c82, c98⟩, Int32.not_le.mp c128, Or.inr (Int32.not_le.mp c147)⟩)] at hh; exact mm_sub [0, 4, 5, 1, 6, 7] rfl hh) | (rw [md_o, if_neg (by rw [ew, vv_nI (by omega)]; rintro ⟨-, -, q2 | q2⟩; exact nI_pos (by omega) q2; exact absurd q2 (Int32.not_lt.mpr c147)), ew] at hh; exact mm_sub [0, 4, 5, 1, 6, 7] rfl hh)
          · refine mm_iconst (v := 1) dX12_mends_101 rfl ?_
            refine mm_goto (tgt := 106) dX12_mends_102 (by decide) ?_
            refine mm_istore (ls' := [(6, .int (1)), (5, .int (nI (i))), (4, .int (x)), (3, .int (nI (y))), (2, .int (-1)), (0, .ref 200), (1, .int (nI (m)))]) dX12_mends_106 (by decide) rfl ?_
            refine mm_aload_n 5 dX12_mends_108 rfl rfl ?_
            refine mm_getr (b := 201) dX12_mends_109 rfl fk_X12_9 rfl so_200 sr_200_0 ?_
            refine mm_iload 1 dX12_mends_112 rfl ?_
            refine mm_iconst (v := 3) dX12_mends_114 rfl ?_
            refine mm_cS2i (dz := d - 1) dX12_mends_115 rfl mzX12_of ml_X12_87 imX12_of (by omega) (cm_of (i) (3)) (Nat.le_of_ble_eq_true rfl) ⟨Nat.le_refl _, Nat.le_refl _⟩ ?_
            refine mm_ialdN (630 + 40 * i + 3) dX12_mends_118 sa_201 (by omega) (by omega) ?_
            refine mm_istore (ls' := [(7, .int (I 201 (630 + 40 * i + 3))), (6, .int (1)), (5, .int (nI (i))), (4, .int (x)), (3, .int (nI (y))), (2, .int (-1)), (0, .ref 200), (1, .int (nI (m)))]) dX12_mends_119 (by decide) rfl ?_
            refine mm_at (pc' := 121) rfl ?_
            refine mm_iload 1 dX12_mends_121 rfl ?_
            refine mm_if_eq (tgt := 155) dX12_mends_123 (by decide) (fun q => absurd q (by decide)) (fun _ => ?_)
            refine mm_iload 0 dX12_mends_126 rfl ?_
            refine mm_if_le (tgt := 155) dX12_mends_128 (by decide) (fun c128 => ?_) (fun c128 => ?_)
            · refine mm_iload_n 5 dX12_mends_155 rfl rfl ?_
              refine mm_istore_n (ls' := [(2, .int (-1)), (7, .int (I 201 (630 + 40 * i + 3))), (6, .int (1)), (5, .int (nI (i))), (4, .int (x)), (3, .int (nI (y))), (0, .ref 200), (1, .int (nI (m)))]) dX12_mends_156 rfl (by decide) rfl ?_
              refine mm_iincN (ls' := [(5, .int (nI (i + 1))), (2, .int (-1)), (7, .int (I 201 (630 + 40 * i + 3))), (6, .int (1)), (4, .int (x)), (3, .int (nI (y))), (0, .ref 200), (1, .int (nI (m)))]) 3 (i) 1 dX12_mends_157 rfl rfl (by decide) rfl ?_
              refine mm_goto (tgt := 68) dX12_mends_160 (by decide) ?_
              have hh := ih (i + 1) (by omega) (by omega)
              first | (rw [md_o, if_pos (by rw [ew]; exact ⟨⟨Int32.not_lt.mp c82, c98⟩, Int32.not_le.mp c128, Or.inl (by decide)⟩)] at hh; exact mm_sub [0, 4, 5, 1, 6, 7] rfl hh) | (rw [md_o, if_neg (fun q => absurd c82 (Int32.not_lt.mpr q.1.1)), ew] at hh; exact mm_sub [0, 4, 5, 1, 6, 7] rfl hh) | (rw [md_o, if_neg (fun q => c98 q.1.2), ew] at hh; exact mm_sub [0, 4, 5, 1, 6, 7] rfl hh) | (rw [md_o, if_neg (fun q => absurd q.2.1 (Int32.not_lt.mpr c128)), ew] at hh; exact mm_sub [0, 4, 5, 1, 6, 7] rfl hh) | (rw [md_o, if_pos (by rw [ew, vv_nI (by omega)]; exact ⟨⟨Int32.not_lt.mp c82, c98⟩, Int32.not_le.mp c128, Or.inr (Int32.not_le.mp c147)⟩)] at hh; exact mm_sub [0, 4, 5, 1, 6, 7] rfl hh) | (rw [md_o, if_neg (by rw [ew, vv_nI (by omega)]; rintro ⟨-, -, q2 | q2⟩; exact nI_pos (by omega) q2; exact absurd q2 (Int32.not_lt.mpr c147)), ew] at hh; exact mm_sub [0, 4, 5, 1, 6, 7] rfl hh)
            · refine mm_iload_n 5 dX12_mends_131 rfl rfl ?_
              refine mm_if_lt (tgt := 150) dX12_mends_132 (by decide) (fun _ => ?_) (fun q => absurd (by decide) q)
              refine mm_iload 2 dX12_mends_150 rfl ?_
              refine mm_goto (tgt := 156) dX12_mends_152 (by decide) ?_
              refine mm_istore_n (ls' := [(2, .int (nI (i))), (7, .int (I 201 (630 + 40 * i + 3))), (6, .int (1)), (5, .int (nI (i))), (4, .int (x)), (3, .int (nI (y))), (0, .ref 200), (1, .int (nI (m)))]) dX12_mends_156 rfl (by decide) rfl ?_
              refine mm_iincN (ls' := [(5, .int (nI (i + 1))), (2, .int (nI (i))), (7, .int (I 201 (630 + 40 * i + 3))), (6, .int (1)), (4, .int (x)), (3, .int (nI (y))), (0, .ref 200), (1, .int (nI (m)))]) 3 (i) 1 dX12_mends_157 rfl rfl (by decide) rfl ?_
              refine mm_goto (tgt := 68) dX12_mends_160 (by decide) ?_
              have hh := ih (i + 1) (by omega) (by omega)
              first | (rw [md_o, if_pos (by rw [ew]; exact ⟨⟨Int32.not_lt.mp c82, c98⟩, Int32.not_le.mp c128, Or.inl (by decide)⟩)] at hh; exact mm_sub [0, 4, 5, 1, 6, 7] rfl hh) | (rw [md_o, if_neg (fun q => absurd c82 (Int32.not_lt.mpr q.1.1)), ew] at hh; exact mm_sub [0, 4, 5, 1, 6, 7] rfl hh) | (rw [md_o, if_neg (fun q => c98 q.1.2), ew] at hh; exact mm_sub [0, 4, 5, 1, 6, 7] rfl hh) | (rw [md_o, if_neg (fun q => absurd q.2.1 (Int32.not_lt.mpr c128)), ew] at hh; exact mm_sub [0, 4, 5, 1, 6, 7] rfl hh) | (rw [md_o, if_pos (by rw [ew, vv_nI (by omega)]; exact ⟨⟨Int32.not_lt.mp c82, c98⟩, Int32.not_le.mp c128, Or.inr (Int32.not_le.mp c147)⟩)] at hh; exact mm_sub [0, 4, 5, 1, 6, 7] rfl hh) | (rw [md_o, if_neg (by rw [ew, vv_nI (by omega)]; rintro ⟨-, -, q2 | q2⟩; exact nI_pos (by omega) q2; exact absurd q2 (Int32.not_lt.mpr c147)), ew] at hh; exact mm_sub [0, 4, 5, 1, 6, 7] rfl hh)
    · rw [ew]
      refine mm_iload 0 dX12_mends_68 rfl ?_
      refine mm_aload_n 4 dX12_mends_70 rfl rfl ?_
      refine mm_getr (b := 201) dX12_mends_71 rfl fk_X12_9 rfl so_200 sr_200_0 ?_
      refine mm_bipush (v := 16) dX12_mends_74 rfl ?_
      refine mm_ialdN (16) dX12_mends_76 sa_201 (by omega) (by omega) ?_
      refine mm_top (v := nI (n)) hm ?_
      refine mm_icmp_geN (i) (n) (tgt := 163) dX12_mends_77 (by decide) (by omega) (by omega) (fun c77 => ?_) (fun c77 => ?_)
      · have e : i = n := by omega
        subst e
        rw [ew] at hx
        exact hx
      · refine mm_iload 1 dX12_mends_80 rfl ?_
        refine mm_if_lt (tgt := 105) dX12_mends_82 (by decide) (fun c82 => ?_) (fun c82 => ?_)
        · refine mm_iconst (v := 0) dX12_mends_105 rfl ?_
          refine mm_istore (ls' := [(6, .int (0)), (5, .int (nI (i))), (4, .int (x)), (3, .int (nI (y))), (2, .int (nI (q0))), (0, .ref 200), (1, .int (nI (m)))]) dX12_mends_106 (by decide) rfl ?_
          refine mm_aload_n 5 dX12_mends_108 rfl rfl ?_
          refine mm_getr (b := 201) dX12_mends_109 rfl fk_X12_9 rfl so_200 sr_200_0 ?_
          refine mm_iload 1 dX12_mends_112 rfl ?_
          refine mm_iconst (v := 3) dX12_mends_114 rfl ?_
          refine mm_cS2i (dz := d - 1) dX12_mends_115 rfl mzX12_of ml_X12_87 imX12_of (by omega) (cm_of (i) (3)) (Nat.le_of_ble_eq_true rfl) ⟨Nat.le_refl _, Nat.le_refl _⟩ ?_
          refine mm_ialdN (630 + 40 * i + 3) dX12_mends_118 sa_201 (by omega) (by omega) ?_
          refine mm_at (pc' := 119) rfl ?_
          refine mm_istore (ls' := [(7, .int (I 201 (630 + 40 * i + 3))), (6, .int (0)), (5, .int (nI (i))), (4, .int (x)), (3, .int (nI (y))), (2, .int (nI (q0))), (0, .ref 200), (1, .int (nI (m)))]) dX12_mends_119 (by decide) rfl ?_
          refine mm_iload 1 dX12_mends_121 rfl ?_
          refine mm_if_eq (tgt := 155) dX12_mends_123 (by decide) (fun _ => ?_) (fun q => absurd (by decide) q)
          refine mm_iload_n 5 dX12_mends_155 rfl rfl ?_
          refine mm_istore_n (ls' := [(2, .int (nI (q0))), (7, .int (I 201 (630 + 40 * i + 3))), (6, .int (0)), (5, .int (nI (i))), (4, .int (x)), (3, .int (nI (y))), (0, .ref 200), (1, .int (nI (m)))]) dX12_mends_156 rfl (by decide) rfl ?_
          refine mm_iincN (ls' := [(5, .int (nI (i + 1))), (2, .int (nI (q0))), (7, .int (I 201 (630 + 40 * i + 3))), (6, .int (0)), (4, .int (x)), (3, .int (nI (y))), (0, .ref 200), (1, .int (nI (m)))]) 3 (i) 1 dX12_mends_157 rfl rfl (by decide) rfl ?_
          refine mm_goto (tgt := 68) dX12_mends_160 (by decide) ?_
          have hh := ih (i + 1) (by omega) (by omega)
          first | (rw [md_o, if_pos (by rw [ew]; exact ⟨⟨Int32.not_lt.mp c82, c98⟩, Int32.not_le.mp c128, Or.inl (by decide)⟩)] at hh; exact mm_sub [0, 4, 5, 1, 6, 7] rfl hh) | (rw [md_o, if_neg (fun q => absurd c82 (Int32.not_lt.mpr q.1.1)), ew] at hh; exact mm_sub [0, 4, 5, 1, 6, 7] rfl hh) | (rw [md_o, if_neg (fun q => c98 q.1.2), ew] at hh; exact mm_sub [0, 4, 5, 1, 6, 7] rfl hh) | (rw [md_o, if_neg (fun q => absurd q.2.1 (Int32.not_lt.mpr c128)), ew] at hh; exact mm_sub [0, 4, 5, 1, 6, 7] rfl hh) | (rw [md_o, if_pos (by rw [ew, vv_nI (by omega)]; exact ⟨⟨Int32.not_lt.mp c82, c98⟩, Int32.not_le.mp c128, Or.inr (Int32.not_le.mp c147)⟩)] at hh; exact mm_sub [0, 4, 5, 1, 6, 7] rfl hh) | (rw [md_o, if_neg (by rw [ew, vv_nI (by omega)]; rintro ⟨-, -, q2 | q2⟩; exact nI_pos (by omega) q2; exact absurd q2 (Int32.not_lt.mpr c147)), ew] at hh; exact mm_sub [0, 4, 5, 1, 6, 7] rfl hh)
        · refine mm_iload 1 dX12_mends_85 rfl ?_
          refine mm_aload_n 4 dX12_mends_87 rfl rfl ?_
          refine mm_getr (b := 201) dX12_mends_88 rfl fk_X12_9 rfl so_200 sr_200_0 ?_
          refine mm_iload 0 dX12_mends_91 rfl ?_
          refine mm_iconst (v := 1) dX12_mends_93 rfl ?_
          refine mm_cS2i (dz := d - 1) dX12_mends_94 rfl mzX12_of ml_X12_87 imX12_of (by omega) (cm_of (i) (1)) (Nat.le_of_ble_eq_true rfl) ⟨Nat.le_refl _, Nat.le_refl _⟩ ?_
          refine mm_ialdN (630 + 40 * i + 1) dX12_mends_97 sa_201 (by omega) (by omega) ?_
          refine mm_at (pc' := 98) rfl ?_
          refine mm_icmp_ne (tgt := 105) dX12_mends_98 (by decide) (fun c98 => ?_) (fun c98 => ?_)
          · refine mm_iconst (v := 0) dX12_mends_105 rfl ?_
            refine mm_istore (ls' := [(6, .int (0)), (5, .int (nI (i))), (4, .int (x)), (3, .int (nI (y))), (2, .int (nI (q0))), (0, .ref 200), (1, .int (nI (m)))]) dX12_mends_106 (by decide) rfl ?_
            refine mm_aload_n 5 dX12_mends_108 rfl rfl ?_
            refine mm_getr (b := 201) dX12_mends_109 rfl fk_X12_9 rfl so_200 sr_200_0 ?_
            refine mm_iload 1 dX12_mends_112 rfl ?_
            refine mm_iconst (v := 3) dX12_mends_114 rfl ?_
            refine mm_cS2i (dz := d - 1) dX12_mends_115 rfl mzX12_of ml_X12_87 imX12_of (by omega) (cm_of (i) (3)) (Nat.le_of_ble_eq_true rfl) ⟨Nat.le_refl _, Nat.le_refl _⟩ ?_
            refine mm_ialdN (630 + 40 * i + 3) dX12_mends_118 sa_201 (by omega) (by omega) ?_
            refine mm_at (pc' := 119) rfl ?_
            refine mm_istore (ls' := [(7, .int (I 201 (630 + 40 * i + 3))), (6, .int (0)), (5, .int (nI (i))), (4, .int (x)), (3, .int (nI (y))), (2, .int (nI (q0))), (0, .ref 200), (1, .int (nI (m)))]) dX12_mends_119 (by decide) rfl ?_
            refine mm_iload 1 dX12_mends_121 rfl ?_
            refine mm_if_eq (tgt := 155) dX12_mends_123 (by decide) (fun _ => ?_) (fun q => absurd (by decide) q)
            refine mm_iload_n 5 dX12_mends_155 rfl rfl ?_
            refine mm_istore_n (ls' := [(2, .int (nI (q0))), (7, .int (I 201 (630 + 40 * i + 3))), (6, .int (0)), (5, .int (nI (i))), (4, .int (x)), (3, .int (nI (y))), (0, .ref 200), (1, .int (nI (m)))]) dX12_mends_156 rfl (by decide) rfl ?_
            refine mm_iincN (ls' := [(5, .int (nI (i + 1))), (2, .int (nI (q0))), (7, .int (I 201 (630 + 40 * i + 3))), (6, .int (0)), (4, .int (x)), (3, .int (nI (y))), (0, .ref 200), (1, .int (nI (m)))]) 3 (i) 1 dX12_mends_157 rfl rfl (by decide) rfl ?_
            refine mm_goto (tgt := 68) dX12_mends_160 (by decide) ?_
            have hh := ih (i + 1) (by omega) (by omega)
            first | (rw [md_o, if_pos (by rw [ew]; exact ⟨⟨Int32.not_lt.mp c82, c98⟩, Int32.not_le.mp c128, Or.inl (by decide)⟩)] at hh; exact mm_sub [0, 4, 5, 1, 6, 7] rfl hh) | (rw [md_o, if_neg (fun q => absurd c82 (Int32.not_lt.mpr q.1.1)), ew] at hh; exact mm_sub [0, 4, 5, 1, 6, 7] rfl hh) | (rw [md_o, if_neg (fun q => c98 q.1.2), ew] at hh; exact mm_sub [0, 4, 5, 1, 6, 7] rfl hh) | (rw [md_o, if_neg (fun q => absurd q.2.1 (Int32.not_lt.mpr c128)), ew] at hh; exact mm_sub [0, 4, 5, 1, 6, 7] rfl hh) | (rw [md_o, if_pos (by rw [ew, vv_nI (by omega)]; exact ⟨⟨Int32.not_lt.mp c82, c98⟩, Int32.not_le.mp c128, Or.inr (Int32.not_le.mp c147)⟩)] at hh; exact mm_sub [0, 4, 5, 1, 6, 7] rfl hh) | (rw [md_o, if_neg (by rw [ew, vv_nI (by omega)]; rintro ⟨-, -, q2 | q2⟩; exact nI_pos (by omega) q2; exact absurd q2 (Int32.not_lt.mpr c147)), ew] at hh; exact mm_sub [0, 4, 5, 1, 6, 7] rfl hh)
          · refine mm_iconst (v := 1) dX12_mends_101 rfl ?_
            refine mm_goto (tgt := 106) dX12_mends_102 (by decide) ?_
            refine mm_istore (ls' := [(6, .int (1)), (5, .int (nI (i))), (4, .int (x)), (3, .int (nI (y))), (2, .int (nI (q0))), (0, .ref 200), (1, .int (nI (m)))]) dX12_mends_106 (by decide) rfl ?_
            refine mm_aload_n 5 dX12_mends_108 rfl rfl ?_
            refine mm_getr (b := 201) dX12_mends_109 rfl fk_X12_9 rfl so_200 sr_200_0 ?_
            refine mm_iload 1 dX12_mends_112 rfl ?_
            refine mm_iconst (v := 3) dX12_mends_114 rfl ?_
            refine mm_cS2i (dz := d - 1) dX12_mends_115 rfl mzX12_of ml_X12_87 imX12_of (by omega) (cm_of (i) (3)) (Nat.le_of_ble_eq_true rfl) ⟨Nat.le_refl _, Nat.le_refl _⟩ ?_
            refine mm_ialdN (630 + 40 * i + 3) dX12_mends_118 sa_201 (by omega) (by omega) ?_
            refine mm_istore (ls' := [(7, .int (I 201 (630 + 40 * i + 3))), (6, .int (1)), (5, .int (nI (i))), (4, .int (x)), (3, .int (nI (y))), (2, .int (nI (q0))), (0, .ref 200), (1, .int (nI (m)))]) dX12_mends_119 (by decide) rfl ?_
            refine mm_at (pc' := 121) rfl ?_
            refine mm_iload 1 dX12_mends_121 rfl ?_
            refine mm_if_eq (tgt := 155) dX12_mends_123 (by decide) (fun q => absurd q (by decide)) (fun _ => ?_)
            refine mm_iload 0 dX12_mends_126 rfl ?_
            refine mm_if_le (tgt := 155) dX12_mends_128 (by decide) (fun c128 => ?_) (fun c128 => ?_)
            · refine mm_iload_n 5 dX12_mends_155 rfl rfl ?_
              refine mm_istore_n (ls' := [(2, .int (nI (q0))), (7, .int (I 201 (630 + 40 * i + 3))), (6, .int (1)), (5, .int (nI (i))), (4, .int (x)), (3, .int (nI (y))), (0, .ref 200), (1, .int (nI (m)))]) dX12_mends_156 rfl (by decide) rfl ?_
              refine mm_iincN (ls' := [(5, .int (nI (i + 1))), (2, .int (nI (q0))), (7, .int (I 201 (630 + 40 * i + 3))), (6, .int (1)), (4, .int (x)), (3, .int (nI (y))), (0, .ref 200), (1, .int (nI (m)))]) 3 (i) 1 dX12_mends_157 rfl rfl (by decide) rfl ?_
              refine mm_goto (tgt := 68) dX12_mends_160 (by decide) ?_
              have hh := ih (i + 1) (by omega) (by omega)
              first | (rw [md_o, if_pos (by rw [ew]; exact ⟨⟨Int32.not_lt.mp c82, c98⟩, Int32.not_le.mp c128, Or.inl (by decide)⟩)] at hh; exact mm_sub [0, 4, 5, 1, 6, 7] rfl hh) | (rw [md_o, if_neg (fun q => absurd c82 (Int32.not_lt.mpr q.1.1)), ew] at hh; exact mm_sub [0, 4, 5, 1, 6, 7] rfl hh) | (rw [md_o, if_neg (fun q => c98 q.1.2), ew] at hh; exact mm_sub [0, 4, 5, 1, 6, 7] rfl hh) | (rw [md_o, if_neg (fun q => absurd q.2.1 (Int32.not_lt.mpr c128)), ew] at hh; exact mm_sub [0, 4, 5, 1, 6, 7] rfl hh) | (rw [md_o, if_pos (by rw [ew, vv_nI (by omega)]; exact ⟨⟨Int32.not_lt.mp c82, c98⟩, Int32.not_le.mp c128, Or.inr (Int32.not_le.mp c147)⟩)] at hh; exact mm_sub [0, 4, 5, 1, 6, 7] rfl hh) | (rw [md_o, if_neg (by rw [ew, vv_nI (by omega)]; rintro ⟨-, -, q2 | q2⟩; exact nI_pos (by omega) q2; exact absurd q2 (Int32.not_lt.mpr c147)), ew] at hh; exact mm_sub [0, 4, 5, 1, 6, 7] rfl hh)
            · refine mm_iload_n 5 dX12_mends_131 rfl rfl ?_
              refine mm_if_ltN (q0) (tgt := 150) dX12_mends_132 (by decide) (by omega) ?_
              refine mm_iload 0 dX12_mends_135 rfl ?_
              refine mm_aload_n 6 dX12_mends_137 rfl rfl ?_
              refine mm_getr (b := 201) dX12_mends_138 rfl fk_X12_9 rfl so_200 sr_200_0 ?_
              refine mm_iload_n 5 dX12_mends_141 rfl rfl ?_
              refine mm_iconst (v := 3) dX12_mends_142 rfl ?_
              refine mm_at (pc' := 143) rfl ?_
              refine mm_cS2i (dz := d - 1) dX12_mends_143 rfl mzX12_of ml_X12_87 imX12_of (by omega) (cm_of (q0) (3)) (Nat.le_of_ble_eq_true rfl) ⟨Nat.le_refl _, Nat.le_refl _⟩ ?_
              refine mm_ialdN (630 + 40 * q0 + 3) dX12_mends_146 sa_201 (by omega) (by omega) ?_
              refine mm_icmp_le (tgt := 155) dX12_mends_147 (by decide) (fun c147 => ?_) (fun c147 => ?_)
              · refine mm_iload_n 5 dX12_mends_155 rfl rfl ?_
                refine mm_istore_n (ls' := [(2, .int (nI (q0))), (7, .int (I 201 (630 + 40 * i + 3))), (6, .int (1)), (5, .int (nI (i))), (4, .int (x)), (3, .int (nI (y))), (0, .ref 200), (1, .int (nI (m)))]) dX12_mends_156 rfl (by decide) rfl ?_
                refine mm_iincN (ls' := [(5, .int (nI (i + 1))), (2, .int (nI (q0))), (7, .int (I 201 (630 + 40 * i + 3))), (6, .int (1)), (4, .int (x)), (3, .int (nI (y))), (0, .ref 200), (1, .int (nI (m)))]) 3 (i) 1 dX12_mends_157 rfl rfl (by decide) rfl ?_
                refine mm_goto (tgt := 68) dX12_mends_160 (by decide) ?_
                have hh := ih (i + 1) (by omega) (by omega)
                first | (rw [md_o, if_pos (by rw [ew]; exact ⟨⟨Int32.not_lt.mp c82, c98⟩, Int32.not_le.mp c128, Or.inl (by decide)⟩)] at hh; exact mm_sub [0, 4, 5, 1, 6, 7] rfl hh) | (rw [md_o, if_neg (fun q => absurd c82 (Int32.not_lt.mpr q.1.1)), ew] at hh; exact mm_sub [0, 4, 5, 1, 6, 7] rfl hh) | (rw [md_o, if_neg (fun q => c98 q.1.2), ew] at hh; exact mm_sub [0, 4, 5, 1, 6, 7] rfl hh) | (rw [md_o, if_neg (fun q => absurd q.2.1 (Int32.not_lt.mpr c128)), ew] at hh; exact mm_sub [0, 4, 5, 1, 6, 7] rfl hh) | (rw [md_o, if_pos (by rw [ew, vv_nI (by omega)]; exact ⟨⟨Int32.not_lt.mp c82, c98⟩, Int32.not_le.mp c128, Or.inr (Int32.not_le.mp c147)⟩)] at hh; exact mm_sub [0, 4, 5, 1, 6, 7] rfl hh) | (rw [md_o, if_neg (by rw [ew, vv_nI (by omega)]; rintro ⟨-, -, q2 | q2⟩; exact nI_pos (by omega) q2; exact absurd q2 (Int32.not_lt.mpr c147)), ew] at hh; exact mm_sub [0, 4, 5, 1, 6, 7] rfl hh)
              · refine mm_iload 2 dX12_mends_150 rfl ?_
                refine mm_goto (tgt := 156) dX12_mends_152 (by decide) ?_
                refine mm_istore_n (ls' := [(2, .int (nI (i))), (7, .int (I 201 (630 + 40 * i + 3))), (6, .int (1)), (5, .int (nI (i))), (4, .int (x)), (3, .int (nI (y))), (0, .ref 200), (1, .int (nI (m)))]) dX12_mends_156 rfl (by decide) rfl ?_
                refine mm_iincN (ls' := [(5, .int (nI (i + 1))), (2, .int (nI (i))), (7, .int (I 201 (630 + 40 * i + 3))), (6, .int (1)), (4, .int (x)), (3, .int (nI (y))), (0, .ref 200), (1, .int (nI (m)))]) 3 (i) 1 dX12_mends_157 rfl rfl (by decide) rfl ?_
                refine mm_goto (tgt := 68) dX12_mends_160 (by decide) ?_
                have hh := ih (i + 1) (by omega) (by omega)
                first | (rw [md_o, if_pos (by rw [ew]; exact ⟨⟨Int32.not_lt.mp c82, c98⟩, Int32.not_le.mp c128, Or.inl (by decide)⟩)] at hh; exact mm_sub [0, 4, 5, 1, 6, 7] rfl hh) | (rw [md_o, if_neg (fun q => absurd c82 (Int32.not_lt.mpr q.1.1)), ew] at hh; exact mm_sub [0, 4, 5, 1, 6, 7] rfl hh) | (rw [md_o, if_neg (fun q => c98 q.1.2), ew] at hh; exact mm_sub [0, 4, 5, 1, 6, 7] rfl hh) | (rw [md_o, if_neg (fun q => absurd q.2.1 (Int32.not_lt.mpr c128)), ew] at hh; exact mm_sub [0, 4, 5, 1, 6, 7] rfl hh) | (rw [md_o, if_pos (by rw [ew, vv_nI (by omega)]; exact ⟨⟨Int32.not_lt.mp c82, c98⟩, Int32.not_le.mp c128, Or.inr (Int32.not_le.mp c147)⟩)] at hh; exact mm_sub [0, 4, 5, 1, 6, 7] rfl hh) | (rw [md_o, if_neg (by rw [ew, vv_nI (by omega)]; rintro ⟨-, -, q2 | q2⟩; exact nI_pos (by omega) q2; exact absurd q2 (Int32.not_lt.mpr c147)), ew] at hh; exact mm_sub [0, 4, 5, 1, 6, 7] rfl hh)
set_option maxRecDepth 100000 in
set_option maxHeartbeats 600000 in
theorem lm_mdo {g : mm_G} {I : mm_I} {d : Nat} {Q : Option Value → mm_Sh → mm_I → Prop} {w h : Nat} (hW : mo_W (I 201) w h) {n : Nat} (hm : I 201 16 = nI n) (hm5 : n ≤ 5) {m c : Nat} (hmm : m < 5) (hc1 : I 201 (630 + 40 * m + 1) = nI c) (hcl : c < w * h) (hd : 2 ≤ d) (hx : mm_Ex g zX12_mends d (0, 0) (0, 0) sh_S I 169 [(3, .int (nI 4)), (2, .int (md_w (I 201) w h c n 4)), (0, .ref 200), (1, .int (nI m))] [] Q) : ∀ (mf : Nat) (y : Nat), (y ≤ 4) → 4 - y < mf → mm_Ex g zX12_mends d (0, 0) (0, 0) sh_S (I) 43 [(3, .int (nI (y))), (2, .int (md_w (I 201) w h c n y)), (0, .ref 200), (1, .int (nI (m)))] [] Q := by
  have hc := mo_W_c hW
  obtain ⟨-, -, hw1, hw2, hh1, hh2⟩ := id hW
  intro mf
  induction mf with
  | zero => intro y hy hmz; exact absurd hmz (Nat.not_lt_zero _)
  | succ mf ih =>
    intro y hy hmz
    refine mm_iload_n 0 dX12_mends_43 rfl rfl ?_
    refine mm_iconst (v := 4) dX12_mends_44 rfl ?_
    refine mm_icmp_geN (y) (4) (tgt := 169) dX12_mends_45 (by decide) (by omega) (by omega) (fun c45 => ?_) (fun c45 => ?_)
    · have e : y = 4 := by omega
      subst e
      exact hx
    · refine mm_aload_n 2 dX12_mends_48 rfl rfl ?_
      refine mm_aload_n 2 dX12_mends_49 rfl rfl ?_
      refine mm_getr (b := 201) dX12_mends_50 rfl fk_X12_9 rfl so_200 sr_200_0 ?_
      refine mm_iload_n 3 dX12_mends_53 rfl rfl ?_
      refine mm_iconst (v := 1) dX12_mends_54 rfl ?_
      refine mm_cS2i (dz := d - 1) dX12_mends_55 rfl mzX12_of ml_X12_87 imX12_of (by omega) (cm_of (m) (1)) (Nat.le_of_ble_eq_true rfl) ⟨Nat.le_refl _, Nat.le_refl _⟩ ?_
      refine mm_ialdN (630 + 40 * m + 1) dX12_mends_58 sa_201 (by omega) (by omega) ?_
      refine mm_at (pc' := 59) rfl ?_
      refine mm_top (v := nI (c)) hc1 ?_
      refine mm_iload_n 0 dX12_mends_59 rfl rfl ?_
      refine mm_cV2i (dz := d - 1) dX12_mends_60 rfl mzX12_beside ml_X12_111 imX12_beside (by omega) so_200 ⟨rfl, rfl⟩ (cm_beside hW hcl (by omega) (by omega)) (Nat.le_of_ble_eq_true rfl) ⟨Nat.le_refl _, Nat.le_refl _⟩ ?_
      refine mm_istore (ls' := [(4, .int (sp_be w h c y)), (3, .int (nI (y))), (2, .int (md_w (I 201) w h c n y)), (0, .ref 200), (1, .int (nI (m)))]) dX12_mends_63 (by decide) rfl ?_
      refine mm_iconst (v := 0) dX12_mends_65 rfl ?_
      refine mm_istore (ls' := [(5, .int (0)), (4, .int (sp_be w h c y)), (3, .int (nI (y))), (2, .int (md_w (I 201) w h c n y)), (0, .ref 200), (1, .int (nI (m)))]) dX12_mends_66 (by decide) rfl ?_
      refine lm_mdi (b := md_w (I 201) w h c n y) hm hm5 (md_w_in hm5 y) (by omega) ?_ (n + 1) 0 (Nat.zero_le _) (by omega)
      refine mm_iincN (ls' := [(3, .int (nI (y + 1))), (5, .int (nI (n))), (4, .int (sp_be w h c y)), (2, .int (md_o (I 201) (sp_be w h c y) (md_w (I 201) w h c n y) n)), (0, .ref 200), (1, .int (nI (m)))]) 2 (y) 1 dX12_mends_163 rfl rfl (by decide) rfl ?_
      refine mm_goto (tgt := 43) dX12_mends_166 (by decide) ?_
      exact mm_sub [0, 3, 4, 5] rfl (ih (y + 1) (by omega) (by omega))
set_option maxRecDepth 100000 in
set_option maxHeartbeats 600000 in
theorem cm_mends {g : mm_G} {I : mm_I} {d : Nat} {w h : Nat} (hW : mo_W (I 201) w h) {n : Nat} (hm : I 201 16 = nI n) (hm5 : n ≤ 5) {m c : Nat} (hmm : m < 5) (hc1 : I 201 (630 + 40 * m + 1) = nI c) (hcl : c < w * h) (hd : 2 ≤ d) : mm_Cv g zX12_mends d [.ref 200, .int (nI m)] sh_S I (op_mends I w h n m c) := by
  have hc := mo_W_c hW
  obtain ⟨-, -, hw1, hw2, hh1, hh2⟩ := id hW
  refine mm_Cv_of (fun Q hq => ?_)
  refine mm_begin (ls := [(0, .ref 200), (1, .int (nI (m)))]) (Nat.le_of_ble_eq_true rfl) rfl rfl ?_
  refine mm_aload_n 0 dX12_mends_0 rfl rfl ?_
  refine mm_getr (b := 201) dX12_mends_1 rfl fk_X12_9 rfl so_200 sr_200_0 ?_
  refine mm_iload_n 1 dX12_mends_4 rfl rfl ?_
  refine mm_iconst (v := 0) dX12_mends_5 rfl ?_
  refine mm_cS2i (dz := d - 1) dX12_mends_6 rfl mzX12_of ml_X12_87 imX12_of (by omega) (cm_of (m) (0)) (Nat.le_of_ble_eq_true rfl) ⟨Nat.le_refl _, Nat.le_refl _⟩ ?_
  refine mm_ialdN (630 + 40 * m + 0) dX12_mends_9 sa_201 (by omega) (by omega) ?_
  refine mm_iconst (v := 3) dX12_mends_10 rfl ?_
  refine mm_icmp_ne (tgt := 38) dX12_mends_11 (by decide) (fun c11 => ?_) (fun c11 => ?_)
  · refine mm_vret dX12_mends_38 rfl ⟨Nat.le_refl _, Nat.le_refl _⟩ ?_
    exact mm_lv (by unfold op_mends; rw [if_pos (by first | exact Or.inl c11 | exact Or.inr (Or.inl c25) | exact Or.inr (Or.inr (c35)))]) hq
  · refine mm_aload_n 0 dX12_mends_14 rfl rfl ?_
    refine mm_getr (b := 201) dX12_mends_15 rfl fk_X12_9 rfl so_200 sr_200_0 ?_
    refine mm_iload_n 1 dX12_mends_18 rfl rfl ?_
    refine mm_iconst (v := 2) dX12_mends_19 rfl ?_
    refine mm_cS2i (dz := d - 1) dX12_mends_20 rfl mzX12_of ml_X12_87 imX12_of (by omega) (cm_of (m) (2)) (Nat.le_of_ble_eq_true rfl) ⟨Nat.le_refl _, Nat.le_refl _⟩ ?_
    refine mm_ialdN (630 + 40 * m + 2) dX12_mends_23 sa_201 (by omega) (by omega) ?_
    refine mm_iconst (v := 4) dX12_mends_24 rfl ?_
    refine mm_at (pc' := 25) rfl ?_
    refine mm_icmp_lt (tgt := 38) dX12_mends_25 (by decide) (fun c25 => ?_) (fun c25 => ?_)
    · refine mm_vret dX12_mends_38 rfl ⟨Nat.le_refl _, Nat.le_refl _⟩ ?_
      exact mm_lv (by unfold op_mends; rw [if_pos (by first | exact Or.inl c11 | exact Or.inr (Or.inl c25) | exact Or.inr (Or.inr (c35)))]) hq
    · refine mm_aload_n 0 dX12_mends_28 rfl rfl ?_
      refine mm_getr (b := 201) dX12_mends_29 rfl fk_X12_9 rfl so_200 sr_200_0 ?_
      refine mm_bipush (v := 12) dX12_mends_32 rfl ?_
      refine mm_ialdN (12) dX12_mends_34 sa_201 (by omega) (by omega) ?_
      refine mm_if_ne (tgt := 39) dX12_mends_35 (by decide) (fun c35 => ?_) (fun c35 => ?_)
      · refine mm_iconst (v := -1) dX12_mends_39 rfl ?_
        refine mm_istore_n (ls' := [(2, .int (-1)), (0, .ref 200), (1, .int (nI (m)))]) dX12_mends_40 rfl (by decide) rfl ?_
        refine mm_iconst (v := 0) dX12_mends_41 rfl ?_
        refine mm_istore_n (ls' := [(3, .int (0)), (2, .int (-1)), (0, .ref 200), (1, .int (nI (m)))]) dX12_mends_42 rfl (by decide) rfl ?_
        unfold op_mends at hq
        rw [if_neg (by intro q; rcases q with q | q | q; exact absurd q (show ¬ ¬ I 201 (630 + 40 * m + 0) = 3 from fun z => z c11); exact absurd q c25; exact absurd q c35)] at hq
        refine mm_sub [0, 1, 2, 3] rfl (lm_mdo hW hm hm5 hmm hc1 hcl hd ?_ 5 0 (by omega) (by omega))
        rcases md_w_in (N := I 201) (w := w) (h := h) (c := c) hm5 4 with ew | ⟨q0, hq0, ew⟩
        · rw [ew]
          refine mm_iload_n 1 dX12_mends_169 rfl rfl ?_
          refine mm_if_lt (tgt := 218) dX12_mends_170 (by decide) (fun _ => ?_) (fun q => absurd (by decide) q)
          refine mm_vret dX12_mends_218 rfl ⟨Nat.le_refl _, Nat.le_refl _⟩ ?_
          rw [if_pos (by rw [ew]; decide)] at hq
          exact hq
        · rw [ew]
          refine mm_iload_n 1 dX12_mends_169 rfl rfl ?_
          refine mm_if_ltN (q0) (tgt := 218) dX12_mends_170 (by decide) (by omega) ?_
          refine mm_aload_n 2 dX12_mends_173 rfl rfl ?_
          refine mm_getr (b := 201) dX12_mends_174 rfl fk_X12_9 rfl so_200 sr_200_0 ?_
          refine mm_iload_n 1 dX12_mends_177 rfl rfl ?_
          refine mm_iconst (v := 3) dX12_mends_178 rfl ?_
          refine mm_cS2i (dz := d - 1) dX12_mends_179 rfl mzX12_of ml_X12_87 imX12_of (by omega) (cm_of (q0) (3)) (Nat.le_of_ble_eq_true rfl) ⟨Nat.le_refl _, Nat.le_refl _⟩ ?_
          refine mm_iconst (v := 0) dX12_mends_182 rfl ?_
          refine mm_at (pc' := 183) rfl ?_
          refine mm_aload_n 2 dX12_mends_183 rfl rfl ?_
          refine mm_getr (b := 201) dX12_mends_184 rfl fk_X12_9 rfl so_200 sr_200_0 ?_
          refine mm_iload_n 1 dX12_mends_187 rfl rfl ?_
          refine mm_iconst (v := 3) dX12_mends_188 rfl ?_
          refine mm_cS2i (dz := d - 1) dX12_mends_189 rfl mzX12_of ml_X12_87 imX12_of (by omega) (cm_of (q0) (3)) (Nat.le_of_ble_eq_true rfl) ⟨Nat.le_refl _, Nat.le_refl _⟩ ?_
          refine mm_ialdN (630 + 40 * q0 + 3) dX12_mends_192 sa_201 (by omega) (by omega) ?_
          refine mm_bipush (v := 30) dX12_mends_193 rfl ?_
          refine mm_isub dX12_mends_195 ?_
          refine mm_at (pc' := 196) rfl ?_
          refine mm_max dX12_mends_196 rfl ml_X12_302 jm_max (by omega) (Nat.le_of_ble_eq_true rfl) ⟨Nat.le_refl _, Nat.le_refl _⟩ ?_
          refine mm_iastN (630 + 40 * q0 + 3) dX12_mends_199 sa_201 (by omega) (by omega) ?_
          refine mm_aload_n 2 dX12_mends_200 rfl rfl ?_
          refine mm_getr (b := 201) dX12_mends_201 rfl fk_X12_9 rfl so_200 sr_200_0 ?_
          refine mm_bipush (v := 12) dX12_mends_204 rfl ?_
          refine mm_dup2 dX12_mends_206 rfl rfl ?_
          refine mm_ialdN (12) dX12_mends_207 sa_201 (by omega) (by omega) ?_
          refine mm_top (v := I 201 12) (by rw [mm_up_ni (by omega)]) ?_
          refine mm_iconst (v := 1) dX12_mends_208 rfl ?_
          refine mm_at (pc' := 209) rfl ?_
          refine mm_isub dX12_mends_209 ?_
          refine mm_iastN (12) dX12_mends_210 sa_201 (by omega) (by omega) ?_
          refine mm_aload_n 2 dX12_mends_211 rfl rfl ?_
          refine mm_iload_n 3 dX12_mends_212 rfl rfl ?_
          refine mm_iconst (v := 4) dX12_mends_213 rfl ?_
          refine mm_iconst (v := 0) dX12_mends_214 rfl ?_
          refine mm_cV3v (dz := d - 1) dX12_mends_215 rfl mzX12_costs ml_X12_298 imX12_costs (by omega) so_200 ⟨rfl, rfl⟩ (cm_costs (by omega) (by omega)) (Nat.le_of_ble_eq_true rfl) ⟨Nat.le_refl _, Nat.le_refl _⟩ ?_
          refine mm_vret dX12_mends_218 rfl ⟨Nat.le_refl _, Nat.le_refl _⟩ ?_
          rw [ew, if_neg (nI_pos (by omega)), vv_nI (by omega)] at hq
          exact hq
      · refine mm_vret dX12_mends_38 rfl ⟨Nat.le_refl _, Nat.le_refl _⟩ ?_
        exact mm_lv (by unfold op_mends; rw [if_pos (by first | exact Or.inl c11 | exact Or.inr (Or.inl c25) | exact Or.inr (Or.inr (c35)))]) hq
