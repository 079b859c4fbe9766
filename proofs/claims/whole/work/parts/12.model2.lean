/-! THE REFERENCE: calls on ground, base, machines -/
def op_lgs (J : mm_I) (w h : Nat) : Nat → mm_I
  | 0 => J
  | c + 1 => mm_up (mm_up (mm_up (mm_up (op_lgs J w h c) 201 (30 + c) (if (c) = 0 then 4 else 0)) 201 (110 + c) (if (c) = 0 then 0 else (if (c) < (w * h) then 20 else 0))) 201 (190 + c) 0) 201 ((270 + (4 * c)) + 3) (-1)
def op_lg (J : mm_I) (w h : Nat) : mm_I :=
  mm_up (mm_up (mm_up (mm_up (mm_up (mm_up (mm_up (mm_up (op_lgs (mm_up (mm_up J 201 0 (nI w)) 201 1 (nI h)) w h 80) 201 16 0) 201 17 0) 201 18 0) 201 10 0) 201 11 0) 201 12 0) 201 13 0) 201 14 0
theorem op_lgs_hi (J : mm_I) (w h : Nat) : ∀ c a k, (a ≠ 201 ∨ k < 30 ∨ 590 ≤ k) → c ≤ 80 → op_lgs J w h c a k = J a k := by
  intro c
  induction c with
  | zero => intro a k _ _; rfl
  | succ c ih =>
    intro a k hk hc
    unfold op_lgs mm_up
    by_cases ha : a = 201
    · subst ha
      rw [if_pos rfl, if_neg (by omega), if_pos rfl, if_neg (by omega), if_pos rfl, if_neg (by omega), if_pos rfl, if_neg (by omega)]
      exact ih 201 k hk (by omega)
    · simp only [if_neg ha]
      exact ih a k hk (by omega)
theorem op_lg_W (J : mm_I) (w h : Nat) (h1 : 2 ≤ w ∧ w ≤ 10) (h2 : 2 ≤ h ∧ h ≤ 8) : mo_W (op_lg J w h 201) w h := by
  refine ⟨?_, ?_, h1.1, h1.2, h2.1, h2.2⟩
  · unfold op_lg
    simp only [mm_up_ni (show (0 : Nat) ≠ 14 by decide), mm_up_ni (show (0 : Nat) ≠ 13 by decide), mm_up_ni (show (0 : Nat) ≠ 12 by decide), mm_up_ni (show (0 : Nat) ≠ 11 by decide), mm_up_ni (show (0 : Nat) ≠ 10 by decide), mm_up_ni (show (0 : Nat) ≠ 18 by decide), mm_up_ni (show (0 : Nat) ≠ 17 by decide), mm_up_ni (show (0 : Nat) ≠ 16 by decide)]
    rw [op_lgs_hi _ _ _ 80 201 0 (by omega) (by omega), mm_up_ni (by decide), mm_up_at]
  · unfold op_lg
    simp only [mm_up_ni (show (1 : Nat) ≠ 14 by decide), mm_up_ni (show (1 : Nat) ≠ 13 by decide), mm_up_ni (show (1 : Nat) ≠ 12 by decide), mm_up_ni (show (1 : Nat) ≠ 11 by decide), mm_up_ni (show (1 : Nat) ≠ 10 by decide), mm_up_ni (show (1 : Nat) ≠ 18 by decide), mm_up_ni (show (1 : Nat) ≠ 17 by decide), mm_up_ni (show (1 : Nat) ≠ 16 by decide)]
    rw [op_lgs_hi _ _ _ 80 201 1 (by omega) (by omega), mm_up_at]
def op_ground (J : mm_I) (a b : Int32) : Int32 × mm_I := if ¬ sp_wi a 2 10 ∨ ¬ sp_wi b 2 8 then ((-1000000001), J) else (nI (vv a * vv b), op_lg J (vv a) (vv b))
def op_cell (w h n : Nat) (J : mm_I) (c k : Int32) : Int32 × mm_I := if ¬ sp_isC w h c ∨ c = 0 ∨ ¬ sp_wi k 0 3 then ((-1000000001), J) else if k = 1 ∧ 0 ≤ sp_mo (J 201) c n then ((-1000000002), J) else (J 201 (30 + vv c), mm_up J 201 (30 + vv c) k)
def op_put (w h : Nat) (J : mm_I) (c k v : Int32) : Int32 × mm_I := if ¬ sp_isC w h c ∨ ¬ sp_wi k 0 1 ∨ ¬ sp_wi v 0 999 then ((-1000000001), J) else if k = 0 then (J 201 (110 + vv c), mm_up J 201 (110 + vv c) v) else (J 201 (190 + vv c), mm_up J 201 (190 + vv c) v)
def op_told (w h n : Nat) (J : mm_I) (c k : Int32) : Int32 := if ¬ sp_isC w h c ∨ ¬ sp_wi k 0 3 then (-1000000001) else if k = 0 then J 201 (30 + vv c) else if k = 1 then J 201 (110 + vv c) else if k = 2 then J 201 (190 + vv c) else if 0 ≤ sp_mo (J 201) c n then sp_mo (J 201) c n else (-1000000005)
def op_isOf (w h : Nat) (J : mm_I) (c k : Int32) : Int32 := if ¬ sp_isC w h c ∨ ¬ sp_wi k 0 4 then (-1000000001) else if sp_kd (J 201 (30 + vv c)) k then 1 else 0
def op_map (w h : Nat) (J : mm_I) (c k : Int32) : Int32 := if ¬ sp_isC w h c ∨ ¬ sp_wi k 0 3 then (-1000000001) else if J 201 (270 + 4 * vv c + 3) < 0 then (-1000000005) else J 201 (270 + 4 * vv c + vv k)
def op_store (J : mm_I) (k v : Int32) : Int32 × mm_I := if ¬ sp_wi k 0 2 ∨ ¬ sp_wi v 0 9999 then ((-1000000001), J) else (J 201 (10 + vv k), mm_up J 201 (10 + vv k) v)
abbrev sp_rule (k v : Int32) : Prop := (k = 0 ∧ sp_wi v 1 24) ∨ (k = 1 ∧ sp_wi v 0 24) ∨ (k = 2 ∧ sp_wi v 0 9999) ∨ (k = 3 ∧ sp_wi v 0 99) ∨ (k = 4 ∧ sp_wi v 0 9)
def op_rule (J : mm_I) (k v : Int32) : Int32 × mm_I := if ¬ sp_rule k v then ((-1000000001), J) else (J 201 (2 + vv k), mm_up J 201 (2 + vv k) v)
def op_load (l : Nat) (J : mm_I) (p v : Int32) : Int32 × mm_I := if ¬ sp_wi p 1 50 ∨ ¬ sp_wi v 1 99 then ((-1000000001), J) else if l = 8 then ((-1000000003), J) else (nI l, mm_up (mm_up (mm_up J 201 (590 + l) p) 201 (598 + l) v) 201 15 (nI (l + 1)))
/-- the tick's place in its cycle -/
def sp_rest (N : Nat → Int32) : Int32 := N 7 - N 7 / (N 2 + N 3) * (N 2 + N 3)
abbrev sp_light (N : Nat → Int32) : Prop := sp_rest N < N 2
def op_base (J : mm_I) (k : Int32) : Int32 := if k = 0 then J 201 7 else if k = 1 then (if sp_light (J 201) then 1 else 0) else if k = 2 then J 201 4 else if k = 3 then J 201 5 else if k = 4 then J 201 8 else if k = 5 then J 201 9 else if k = 6 then J 201 10 else if k = 7 then J 201 11 else if k = 8 then J 201 12 else (-1000000001)
def op_machine (w h n : Nat) (J : mm_I) (k c : Int32) : Int32 × mm_I := if ¬ sp_wi k 0 3 ∨ ¬ sp_isC w h c then ((-1000000001), J) else if J 201 (30 + vv c) = 1 ∨ 0 ≤ sp_mo (J 201) c n then ((-1000000002), J) else if n = 5 then ((-1000000003), J) else
  (nI n, mm_up (mm_up (mm_up (mm_up (mm_up (mm_up (mm_up (mm_up J 201 (630 + 40 * n + 0) k) 201 (630 + 40 * n + 1) c) 201 (630 + 40 * n + 2) 50) 201 (630 + 40 * n + 3) 0) 201 (630 + 40 * n + 4) 0) 201 (630 + 40 * n + 5) 0) 201 (630 + 40 * n + 6) (-1)) 201 16 (nI (n + 1)))
def op_is (n : Nat) (J : mm_I) (m k : Int32) : Int32 := if ¬ sp_isM n m ∨ ¬ sp_wi k 0 3 then (-1000000001) else if sp_mk (J 201 (630 + 40 * vv m + 0)) k then 1 else 0
def op_tune (n : Nat) (J : mm_I) (m k v : Int32) : Int32 × mm_I := if ¬ sp_isM n m ∨ ¬ sp_wi k 0 1 ∨ ¬ sp_wi v 0 100 then ((-1000000001), J) else (J 201 (630 + 40 * vv m + (2 + vv k)), mm_up J 201 (630 + 40 * vv m + (2 + vv k)) v)
def op_has (n : Nat) (J : mm_I) (m k : Int32) : Int32 := if ¬ sp_isM n m then (-1000000001) else if sp_wi k 0 4 then J 201 (630 + 40 * vv m + vv k) else if k = 5 then (if J 201 (630 + 40 * vv m + 4) = 0 then (-1000000005) else J 201 (630 + 40 * vv m + 5)) else if k = 6 then (if J 201 (630 + 40 * vv m + 6) < 0 then (-1000000005) else J 201 (630 + 40 * vv m + 6)) else if k = 7 then (if J 201 (630 + 40 * vv m + 3) = 100 then 1 else 0) else (-1000000001)
set_option maxRecDepth 100000 in
set_option maxHeartbeats 4000000 in
theorem lm_layGround {g : mm_G} {d : Nat} {I : mm_I} {w h : Nat} (hc : w * h ≤ 80) {Q : Option Value → mm_Sh → mm_I → Prop} (hq : Q none sh_S (mm_up (mm_up (mm_up (mm_up (mm_up (mm_up (mm_up (mm_up (op_lgs I w h 80) 201 16 0) 201 17 0) 201 18 0) 201 10 0) 201 11 0) 201 12 0) 201 13 0) 201 14 0)) : ∀ (m : Nat) (i : Nat), (i ≤ 80) → 80 - i < m → mm_Ex g zX12_layGround d (0, 0) (0, 0) sh_S (op_lgs I w h i) 16 [(3, .int (nI (i))), (0, .ref 200), (1, .int (nI (w))), (2, .int (nI (h)))] [] Q := by
  intro m
  induction m with
  | zero => intro i hi hmz; exact absurd hmz (Nat.not_lt_zero _)
  | succ m ih =>
    intro i hi hmz
    refine mm_iload_n 0 dX12_layGround_16 rfl rfl ?_
    refine mm_bipush (v := 80) dX12_layGround_17 rfl ?_
    refine mm_icmp_geN (i) (80) (tgt := 98) dX12_layGround_19 (by decide) (by omega) (by omega) (fun c19 => ?_) (fun c19 => ?_)
    · have e : i = 80 := by omega
      subst e
      refine mm_aload_n 1 dX12_layGround_98 rfl rfl ?_
      refine mm_getr (b := 201) dX12_layGround_99 rfl fk_X12_9 rfl so_200 sr_200_0 ?_
      refine mm_bipush (v := 16) dX12_layGround_102 rfl ?_
      refine mm_iconst (v := 0) dX12_layGround_104 rfl ?_
      refine mm_iastN (16) dX12_layGround_105 sa_201 (by omega) (by omega) ?_
      refine mm_aload_n 1 dX12_layGround_106 rfl rfl ?_
      refine mm_getr (b := 201) dX12_layGround_107 rfl fk_X12_9 rfl so_200 sr_200_0 ?_
      refine mm_bipush (v := 17) dX12_layGround_110 rfl ?_
      refine mm_at (pc' := 112) rfl ?_
      refine mm_iconst (v := 0) dX12_layGround_112 rfl ?_
      refine mm_iastN (17) dX12_layGround_113 sa_201 (by omega) (by omega) ?_
      refine mm_aload_n 1 dX12_layGround_114 rfl rfl ?_
      refine mm_getr (b := 201) dX12_layGround_115 rfl fk_X12_9 rfl so_200 sr_200_0 ?_
      refine mm_bipush (v := 18) dX12_layGround_118 rfl ?_
      refine mm_iconst (v := 0) dX12_layGround_120 rfl ?_
      refine mm_iastN (18) dX12_layGround_121 sa_201 (by omega) (by omega) ?_
      refine mm_aload_n 1 dX12_layGround_122 rfl rfl ?_
      refine mm_at (pc' := 123) rfl ?_
      refine mm_getr (b := 201) dX12_layGround_123 rfl fk_X12_9 rfl so_200 sr_200_0 ?_
      refine mm_bipush (v := 10) dX12_layGround_126 rfl ?_
      refine mm_iconst (v := 0) dX12_layGround_128 rfl ?_
      refine mm_iastN (10) dX12_layGround_129 sa_201 (by omega) (by omega) ?_
      refine mm_aload_n 1 dX12_layGround_130 rfl rfl ?_
      refine mm_getr (b := 201) dX12_layGround_131 rfl fk_X12_9 rfl so_200 sr_200_0 ?_
      refine mm_bipush (v := 11) dX12_layGround_134 rfl ?_
      refine mm_iconst (v := 0) dX12_layGround_136 rfl ?_
      refine mm_at (pc' := 137) rfl ?_
      refine mm_iastN (11) dX12_layGround_137 sa_201 (by omega) (by omega) ?_
      refine mm_aload_n 1 dX12_layGround_138 rfl rfl ?_
      refine mm_getr (b := 201) dX12_layGround_139 rfl fk_X12_9 rfl so_200 sr_200_0 ?_
      refine mm_bipush (v := 12) dX12_layGround_142 rfl ?_
      refine mm_iconst (v := 0) dX12_layGround_144 rfl ?_
      refine mm_iastN (12) dX12_layGround_145 sa_201 (by omega) (by omega) ?_
      refine mm_aload_n 1 dX12_layGround_146 rfl rfl ?_
      refine mm_getr (b := 201) dX12_layGround_147 rfl fk_X12_9 rfl so_200 sr_200_0 ?_
      refine mm_at (pc' := 150) rfl ?_
      refine mm_bipush (v := 13) dX12_layGround_150 rfl ?_
      refine mm_iconst (v := 0) dX12_layGround_152 rfl ?_
      refine mm_iastN (13) dX12_layGround_153 sa_201 (by omega) (by omega) ?_
      refine mm_aload_n 1 dX12_layGround_154 rfl rfl ?_
      refine mm_getr (b := 201) dX12_layGround_155 rfl fk_X12_9 rfl so_200 sr_200_0 ?_
      refine mm_bipush (v := 14) dX12_layGround_158 rfl ?_
      refine mm_iconst (v := 0) dX12_layGround_160 rfl ?_
      refine mm_iastN (14) dX12_layGround_161 sa_201 (by omega) (by omega) ?_
      refine mm_at (pc' := 162) rfl ?_
      refine mm_vret dX12_layGround_162 rfl ⟨Nat.le_refl _, Nat.le_refl _⟩ ?_
      exact hq
    · refine mm_aload_n 1 dX12_layGround_22 rfl rfl ?_
      refine mm_getr (b := 201) dX12_layGround_23 rfl fk_X12_9 rfl so_200 sr_200_0 ?_
      refine mm_bipush (v := 30) dX12_layGround_26 rfl ?_
      refine mm_iload_n 0 dX12_layGround_28 rfl rfl ?_
      refine mm_iaddN (30) (i) dX12_layGround_29 ?_
      refine mm_iload_n 0 dX12_layGround_30 rfl rfl ?_
      have K31 : mm_Ex g zX12_layGround d (0, 0) (0, 0) sh_S (op_lgs I w h i) 39 [(3, .int (nI (i))), (0, .ref 200), (1, .int (nI (w))), (2, .int (nI (h)))] [.int (if (i) = 0 then 4 else 0), .int (nI (30 + i)), .ref 201] Q := by
        refine mm_iastN (30 + i) dX12_layGround_39 sa_201 (by omega) (by omega) ?_
        refine mm_aload_n 1 dX12_layGround_40 rfl rfl ?_
        refine mm_getr (b := 201) dX12_layGround_41 rfl fk_X12_9 rfl so_200 sr_200_0 ?_
        refine mm_bipush (v := 110) dX12_layGround_44 rfl ?_
        refine mm_iload_n 0 dX12_layGround_46 rfl rfl ?_
        refine mm_iaddN (110) (i) dX12_layGround_47 ?_
        refine mm_iload_n 0 dX12_layGround_48 rfl rfl ?_
        have K49 : mm_Ex g zX12_layGround d (0, 0) (0, 0) sh_S (mm_up (op_lgs I w h i) 201 (30 + i) (if (i) = 0 then 4 else 0)) 65 [(3, .int (nI (i))), (0, .ref 200), (1, .int (nI (w))), (2, .int (nI (h)))] [.int (if (i) = 0 then 0 else (if (i) < (w * h) then 20 else 0)), .int (nI (110 + i)), .ref 201] Q := by
          refine mm_iastN (110 + i) dX12_layGround_65 sa_201 (by omega) (by omega) ?_
          refine mm_aload_n 1 dX12_layGround_66 rfl rfl ?_
          refine mm_getr (b := 201) dX12_layGround_67 rfl fk_X12_9 rfl so_200 sr_200_0 ?_
          refine mm_sipush (v := 190) dX12_layGround_70 rfl ?_
          refine mm_iload_n 0 dX12_layGround_73 rfl rfl ?_
          refine mm_iaddN (190) (i) dX12_layGround_74 ?_
          refine mm_iconst (v := 0) dX12_layGround_75 rfl ?_
          refine mm_iastN (190 + i) dX12_layGround_76 sa_201 (by omega) (by omega) ?_
          refine mm_at (pc' := 77) rfl ?_
          refine mm_aload_n 1 dX12_layGround_77 rfl rfl ?_
          refine mm_getr (b := 201) dX12_layGround_78 rfl fk_X12_9 rfl so_200 sr_200_0 ?_
          refine mm_sipush (v := 270) dX12_layGround_81 rfl ?_
          refine mm_iconst (v := 4) dX12_layGround_84 rfl ?_
          refine mm_iload_n 0 dX12_layGround_85 rfl rfl ?_
          refine mm_imulN (4) (i) dX12_layGround_86 ?_
          refine mm_iaddN (270) (4 * i) dX12_layGround_87 ?_
          refine mm_iconst (v := 3) dX12_layGround_88 rfl ?_
          refine mm_at (pc' := 89) rfl ?_
          refine mm_iaddN (270 + (4 * i)) (3) dX12_layGround_89 ?_
          refine mm_iconst (v := -1) dX12_layGround_90 rfl ?_
          refine mm_iastN ((270 + (4 * i)) + 3) dX12_layGround_91 sa_201 (by omega) (by omega) ?_
          refine mm_iincN (ls' := [(3, .int (nI (i + 1))), (0, .ref 200), (1, .int (nI (w))), (2, .int (nI (h)))]) 0 (i) 1 dX12_layGround_92 rfl rfl (by decide) rfl ?_
          refine mm_goto (tgt := 16) dX12_layGround_95 (by decide) ?_
          exact mm_sub [0, 1, 2, 3] rfl (ih (i + 1) (by omega) (by omega))
        refine mm_if_eqN (i) (tgt := 59) dX12_layGround_49 (by decide) (by omega) (fun c49 => ?_) (fun c49 => ?_)
        · refine mm_iconst (v := 0) dX12_layGround_59 rfl ?_
          refine mm_goto (tgt := 65) dX12_layGround_60 (by decide) ?_
          exact mm_top (by rw [if_pos (by omega)]) K49
        · refine mm_iload_n 0 dX12_layGround_52 rfl rfl ?_
          refine mm_iload_n 2 dX12_layGround_53 rfl rfl ?_
          refine mm_iload_n 3 dX12_layGround_54 rfl rfl ?_
          refine mm_imulN (w) (h) dX12_layGround_55 ?_
          refine mm_icmp_ltN (i) (w * h) (tgt := 63) dX12_layGround_56 (by decide) (by omega) (by omega) (fun c56 => ?_) (fun c56 => ?_)
          · refine mm_bipush (v := 20) dX12_layGround_63 rfl ?_
            exact mm_top (by rw [if_neg (by omega), if_pos (by omega)]) K49
          · refine mm_iconst (v := 0) dX12_layGround_59 rfl ?_
            refine mm_goto (tgt := 65) dX12_layGround_60 (by decide) ?_
            exact mm_top (by rw [if_neg (by omega), if_neg (by omega)]) K49
      refine mm_if_neN (i) (tgt := 38) dX12_layGround_31 (by decide) (by omega) (fun c31 => ?_) (fun c31 => ?_)
      · refine mm_iconst (v := 0) dX12_layGround_38 rfl ?_
        exact mm_top (by rw [if_neg (by omega)]) K31
      · refine mm_iconst (v := 4) dX12_layGround_34 rfl ?_
        refine mm_goto (tgt := 39) dX12_layGround_35 (by decide) ?_
        exact mm_top (by rw [if_pos (by omega)]) K31
set_option maxRecDepth 100000 in
set_option maxHeartbeats 4000000 in
theorem cm_layGround {g : mm_G} {I : mm_I} {d : Nat} {w h : Nat} (hc : w * h ≤ 80) : mm_Cv g zX12_layGround d [.ref 200, .int (nI w), .int (nI h)] sh_S I (op_lg I w h) := by
  refine mm_Cv_of (fun Q hq => ?_)
  refine mm_begin (ls := [(0, .ref 200), (1, .int (nI (w))), (2, .int (nI (h)))]) (Nat.le_of_ble_eq_true rfl) rfl rfl ?_
  refine mm_aload_n 0 dX12_layGround_0 rfl rfl ?_
  refine mm_getr (b := 201) dX12_layGround_1 rfl fk_X12_9 rfl so_200 sr_200_0 ?_
  refine mm_iconst (v := 0) dX12_layGround_4 rfl ?_
  refine mm_iload_n 1 dX12_layGround_5 rfl rfl ?_
  refine mm_iastN (0) dX12_layGround_6 sa_201 (by omega) (by omega) ?_
  refine mm_aload_n 0 dX12_layGround_7 rfl rfl ?_
  refine mm_getr (b := 201) dX12_layGround_8 rfl fk_X12_9 rfl so_200 sr_200_0 ?_
  refine mm_iconst (v := 1) dX12_layGround_11 rfl ?_
  refine mm_at (pc' := 12) rfl ?_
  refine mm_iload_n 2 dX12_layGround_12 rfl rfl ?_
  refine mm_iastN (1) dX12_layGround_13 sa_201 (by omega) (by omega) ?_
  refine mm_iconst (v := 0) dX12_layGround_14 rfl ?_
  refine mm_istore_n (ls' := [(3, .int (0)), (0, .ref 200), (1, .int (nI (w))), (2, .int (nI (h)))]) dX12_layGround_15 rfl (by decide) rfl ?_
  exact lm_layGround hc hq 81 0 (by omega) (by omega)
