/-! THE REFERENCE: where an if, while, repeat goes on -/
theorem in_ft {N : Nat → Int32} {p s : Nat} {b : Bool} (hb : b = true) (h : ¬ sf N p s 4 < 0) : in_f N p s b = sf N p s 4 := by subst hb; unfold in_f; rw [if_pos rfl, if_neg h]
theorem in_fb {N : Nat → Int32} {p s : Nat} {b : Bool} (hb : b = true) (h : sf N p s 4 < 0) : in_f N p s b = bh N p 32 s := by subst hb; unfold in_f; rw [if_pos rfl, if_pos h]
theorem in_fe {N : Nat → Int32} {p s : Nat} {b : Bool} (hb : b = false) (h : ¬ sf N p s 5 < 0) : in_f N p s b = sf N p s 5 := by subst hb; unfold in_f; rw [if_neg (show ¬ (false = true) by decide), if_neg h]
theorem in_fc {N : Nat → Int32} {p s : Nat} {b : Bool} (hb : b = false) (h : sf N p s 5 < 0) : in_f N p s b = bh N p 32 s := by subst hb; unfold in_f; rw [if_neg (show ¬ (false = true) by decide), if_pos h]
set_option maxRecDepth 100000 in
set_option maxHeartbeats 600000 in
theorem cm_innerR {g : mm_G} {I : mm_I} {d : Nat} {p k : Nat} (hp : p < 6) (hT : mo_T (I 201) p k) {s : Nat} (hs : s < k) {w m c : Nat} (hmm : m < 5) (h0 : sf (I 201) p s 0 = 10) (hd : 2 ≤ d) : mm_Ci g zX12_inner d [.ref 200, .int (nI m), .int (nI p), .int (nI s), .int 10] sh_S I (op_in I w m p s c).1 (op_in I w m p s c).2 := by
  have h32 := hT.1
  rw [show op_in I w m p s c = (in_f (I 201) p s (decide (0 < sp_lf (I 201) m p s)), mm_up I 201 (630 + 40 * m + (8 + s)) (sp_lf (I 201) m p s - 1)) by unfold op_in; rw [if_pos h0]]
  refine mm_Ci_of (fun Q hq => ?_)
  refine mm_begin (ls := [(0, .ref 200), (1, .int (nI (m))), (2, .int (nI (p))), (3, .int (nI (s))), (4, .int (10))]) (Nat.le_of_ble_eq_true rfl) rfl rfl ?_
  refine mm_iload 4 dX12_inner_0 rfl ?_
  refine mm_bipush (v := 10) dX12_inner_2 rfl ?_
  refine mm_icmp_ne (tgt := 73) dX12_inner_4 (by decide) (fun q => absurd q (by decide)) (fun _ => ?_)
  refine mm_aload_n 0 dX12_inner_7 rfl rfl ?_
  refine mm_getr (b := 201) dX12_inner_8 rfl fk_X12_9 rfl so_200 sr_200_0 ?_
  refine mm_iload_n 1 dX12_inner_11 rfl rfl ?_
  refine mm_bipush (v := 8) dX12_inner_12 rfl ?_
  refine mm_iload_n 3 dX12_inner_14 rfl rfl ?_
  refine mm_iaddN (8) (s) dX12_inner_15 ?_
  refine mm_cS2i (dz := d - 1) dX12_inner_16 rfl mzX12_of ml_X12_87 imX12_of (by omega) (cm_of (m) (8 + s)) (Nat.le_of_ble_eq_true rfl) ⟨Nat.le_refl _, Nat.le_refl _⟩ ?_
  refine mm_ialdN (630 + 40 * m + (8 + s)) dX12_inner_19 sa_201 (by omega) (by omega) ?_
  refine mm_at (pc' := 20) rfl ?_
  refine mm_istore (ls' := [(6, .int (I 201 (630 + 40 * m + (8 + s)))), (0, .ref 200), (1, .int (nI (m))), (2, .int (nI (p))), (3, .int (nI (s))), (4, .int (10))]) dX12_inner_20 (by decide) rfl ?_
  refine mm_iload 0 dX12_inner_22 rfl ?_
  have K24 : mm_Ex g zX12_inner d (0, 0) (0, 0) sh_S (I) 39 [(6, .int (I 201 (630 + 40 * m + (8 + s)))), (0, .ref 200), (1, .int (nI (m))), (2, .int (nI (p))), (3, .int (nI (s))), (4, .int (10))] [.int (if 0 ≤ (I 201 (630 + 40 * m + (8 + s))) then (I 201 (630 + 40 * m + (8 + s))) else (I 201 (1226 + 418 * p + 1 + 8 * s + 1)))] Q := by
    refine mm_istore (ls' := [(6, .int (if 0 ≤ (I 201 (630 + 40 * m + (8 + s))) then (I 201 (630 + 40 * m + (8 + s))) else (I 201 (1226 + 418 * p + 1 + 8 * s + 1)))), (0, .ref 200), (1, .int (nI (m))), (2, .int (nI (p))), (3, .int (nI (s))), (4, .int (10))]) dX12_inner_39 (by decide) rfl ?_
    refine mm_iload 0 dX12_inner_41 rfl ?_
    have K43 : mm_Ex g zX12_inner d (0, 0) (0, 0) sh_S (I) 51 [(6, .int (if 0 ≤ (I 201 (630 + 40 * m + (8 + s))) then (I 201 (630 + 40 * m + (8 + s))) else (I 201 (1226 + 418 * p + 1 + 8 * s + 1)))), (0, .ref 200), (1, .int (nI (m))), (2, .int (nI (p))), (3, .int (nI (s))), (4, .int (10))] [.int (if ¬ ((if 0 ≤ (I 201 (630 + 40 * m + (8 + s))) then (I 201 (630 + 40 * m + (8 + s))) else (I 201 (1226 + 418 * p + 1 + 8 * s + 1))) ≤ 0) then 1 else 0)] Q := by
      refine mm_istore (ls' := [(5, .int (if ¬ ((if 0 ≤ (I 201 (630 + 40 * m + (8 + s))) then (I 201 (630 + 40 * m + (8 + s))) else (I 201 (1226 + 418 * p + 1 + 8 * s + 1))) ≤ 0) then 1 else 0)), (6, .int (if 0 ≤ (I 201 (630 + 40 * m + (8 + s))) then (I 201 (630 + 40 * m + (8 + s))) else (I 201 (1226 + 418 * p + 1 + 8 * s + 1)))), (0, .ref 200), (1, .int (nI (m))), (2, .int (nI (p))), (3, .int (nI (s))), (4, .int (10))]) dX12_inner_51 (by decide) rfl ?_
      refine mm_aload_n 2 dX12_inner_53 rfl rfl ?_
      refine mm_getr (b := 201) dX12_inner_54 rfl fk_X12_9 rfl so_200 sr_200_0 ?_
      refine mm_iload_n 3 dX12_inner_57 rfl rfl ?_
      refine mm_bipush (v := 8) dX12_inner_58 rfl ?_
      refine mm_iload_n 5 dX12_inner_60 rfl rfl ?_
      refine mm_iaddN (8) (s) dX12_inner_61 ?_
      refine mm_cS2i (dz := d - 1) dX12_inner_62 rfl mzX12_of ml_X12_87 imX12_of (by omega) (cm_of (m) (8 + s)) (Nat.le_of_ble_eq_true rfl) ⟨Nat.le_refl _, Nat.le_refl _⟩ ?_
      refine mm_at (pc' := 65) rfl ?_
      refine mm_iload 1 dX12_inner_65 rfl ?_
      refine mm_iconst (v := 1) dX12_inner_67 rfl ?_
      refine mm_isub dX12_inner_68 ?_
      refine mm_iastN (630 + 40 * m + (8 + s)) dX12_inner_69 sa_201 (by omega) (by omega) ?_
      refine mm_goto (tgt := 96) dX12_inner_70 (by decide) ?_
      refine mm_iload 0 dX12_inner_96 rfl ?_
      refine mm_if_eqB (tgt := 111) dX12_inner_98 (by decide) (fun c98 => ?_) (fun c98 => ?_)
      · refine mm_aload_n 2 dX12_inner_111 rfl rfl ?_
        refine mm_iload_n 4 dX12_inner_112 rfl rfl ?_
        refine mm_iload_n 5 dX12_inner_113 rfl rfl ?_
        refine mm_iconst (v := 5) dX12_inner_114 rfl ?_
        refine mm_cV3i (dz := d - 1) dX12_inner_115 rfl mzX12_ofStep ml_X12_263 imX12_ofStep (by omega) so_200 ⟨rfl, rfl⟩ (cm_ofStep (s := s) (f := 5) (by omega) (by omega) (by decide)) (Nat.le_of_ble_eq_true rfl) ⟨Nat.le_refl _, Nat.le_refl _⟩ ?_
        refine mm_top (v := I 201 (1226 + 418 * p + 1 + 8 * s + 5)) (by rw [mm_up_ni (by omega)]) ?_
        refine mm_istore (ls' := [(6, .int (I 201 (1226 + 418 * p + 1 + 8 * s + 5))), (5, .int (if ¬ ((if 0 ≤ (I 201 (630 + 40 * m + (8 + s))) then (I 201 (630 + 40 * m + (8 + s))) else (I 201 (1226 + 418 * p + 1 + 8 * s + 1))) ≤ 0) then 1 else 0)), (0, .ref 200), (1, .int (nI (m))), (2, .int (nI (p))), (3, .int (nI (s))), (4, .int (10))]) dX12_inner_118 (by decide) rfl ?_
        refine mm_iload 0 dX12_inner_120 rfl ?_
        refine mm_if_lt (tgt := 130) dX12_inner_122 (by decide) (fun c122 => ?_) (fun c122 => ?_)
        · refine mm_aload_n 2 dX12_inner_130 rfl rfl ?_
          refine mm_iload_n 4 dX12_inner_131 rfl rfl ?_
          refine mm_iload_n 5 dX12_inner_132 rfl rfl ?_
          refine mm_cV2i (dz := d - 1) dX12_inner_133 rfl mzX12_behind ml_X12_273 imX12_behind (by omega) so_200 ⟨rfl, rfl⟩ (cm_behindN (N := I 201) (fun x hx => mm_up_ni (by omega)) hp hT (by omega) (by omega)) (Nat.le_of_ble_eq_true rfl) ⟨Nat.le_refl _, Nat.le_refl _⟩ ?_
          refine mm_iret dX12_inner_136 rfl ⟨Nat.le_refl _, Nat.le_refl _⟩ ?_
          rw [in_fc (N := I 201) (b := decide (0 < sp_lf (I 201) m p s)) (decide_eq_false (fun q => c98 (Int32.not_le.mpr q))) c122] at hq
          exact hq
        · refine mm_iload 0 dX12_inner_125 rfl ?_
          refine mm_goto (tgt := 136) dX12_inner_127 (by decide) ?_
          refine mm_iret dX12_inner_136 rfl ⟨Nat.le_refl _, Nat.le_refl _⟩ ?_
          rw [in_fe (N := I 201) (b := decide (0 < sp_lf (I 201) m p s)) (decide_eq_false (fun q => c98 (Int32.not_le.mpr q))) c122] at hq
          exact hq
      · refine mm_aload_n 2 dX12_inner_101 rfl rfl ?_
        refine mm_iload_n 4 dX12_inner_102 rfl rfl ?_
        refine mm_iload_n 5 dX12_inner_103 rfl rfl ?_
        refine mm_iconst (v := 4) dX12_inner_104 rfl ?_
        refine mm_cV3i (dz := d - 1) dX12_inner_105 rfl mzX12_ofStep ml_X12_263 imX12_ofStep (by omega) so_200 ⟨rfl, rfl⟩ (cm_ofStep (s := s) (f := 4) (by omega) (by omega) (by decide)) (Nat.le_of_ble_eq_true rfl) ⟨Nat.le_refl _, Nat.le_refl _⟩ ?_
        refine mm_top (v := I 201 (1226 + 418 * p + 1 + 8 * s + 4)) (by rw [mm_up_ni (by omega)]) ?_
        refine mm_goto (tgt := 118) dX12_inner_108 (by decide) ?_
        refine mm_istore (ls' := [(6, .int (I 201 (1226 + 418 * p + 1 + 8 * s + 4))), (5, .int (if ¬ ((if 0 ≤ (I 201 (630 + 40 * m + (8 + s))) then (I 201 (630 + 40 * m + (8 + s))) else (I 201 (1226 + 418 * p + 1 + 8 * s + 1))) ≤ 0) then 1 else 0)), (0, .ref 200), (1, .int (nI (m))), (2, .int (nI (p))), (3, .int (nI (s))), (4, .int (10))]) dX12_inner_118 (by decide) rfl ?_
        refine mm_iload 0 dX12_inner_120 rfl ?_
        refine mm_if_lt (tgt := 130) dX12_inner_122 (by decide) (fun c122 => ?_) (fun c122 => ?_)
        · refine mm_aload_n 2 dX12_inner_130 rfl rfl ?_
          refine mm_iload_n 4 dX12_inner_131 rfl rfl ?_
          refine mm_iload_n 5 dX12_inner_132 rfl rfl ?_
          refine mm_cV2i (dz := d - 1) dX12_inner_133 rfl mzX12_behind ml_X12_273 imX12_behind (by omega) so_200 ⟨rfl, rfl⟩ (cm_behindN (N := I 201) (fun x hx => mm_up_ni (by omega)) hp hT (by omega) (by omega)) (Nat.le_of_ble_eq_true rfl) ⟨Nat.le_refl _, Nat.le_refl _⟩ ?_
          refine mm_iret dX12_inner_136 rfl ⟨Nat.le_refl _, Nat.le_refl _⟩ ?_
          rw [in_fb (N := I 201) (b := decide (0 < sp_lf (I 201) m p s)) (decide_eq_true (Int32.not_le.mp c98)) c122] at hq
          exact hq
        · refine mm_iload 0 dX12_inner_125 rfl ?_
          refine mm_goto (tgt := 136) dX12_inner_127 (by decide) ?_
          refine mm_iret dX12_inner_136 rfl ⟨Nat.le_refl _, Nat.le_refl _⟩ ?_
          rw [in_ft (N := I 201) (b := decide (0 < sp_lf (I 201) m p s)) (decide_eq_true (Int32.not_le.mp c98)) c122] at hq
          exact hq
    refine mm_if_le (tgt := 50) dX12_inner_43 (by decide) (fun c43 => ?_) (fun c43 => ?_)
    · refine mm_iconst (v := 0) dX12_inner_50 rfl ?_
      exact mm_top (by first | rfl | (simp [c43]; done) | (rw [if_pos (by simp_all)]; done) | (rw [if_neg (by simp_all)]; done) | (rw [if_pos (by omega)]; done) | (rw [if_neg (by omega)]; done)) K43
    · refine mm_iconst (v := 1) dX12_inner_46 rfl ?_
      refine mm_goto (tgt := 51) dX12_inner_47 (by decide) ?_
      exact mm_top (by first | rfl | (simp [c43]; done) | (rw [if_pos (by simp_all)]; done) | (rw [if_neg (by simp_all)]; done) | (rw [if_pos (by omega)]; done) | (rw [if_neg (by omega)]; done)) K43
  refine mm_if_ge (tgt := 37) dX12_inner_24 (by decide) (fun c24 => ?_) (fun c24 => ?_)
  · refine mm_iload 0 dX12_inner_37 rfl ?_
    exact mm_top (by rw [if_pos c24]) K24
  · refine mm_aload_n 1 dX12_inner_27 rfl rfl ?_
    refine mm_iload_n 3 dX12_inner_28 rfl rfl ?_
    refine mm_iload_n 4 dX12_inner_29 rfl rfl ?_
    refine mm_iconst (v := 1) dX12_inner_30 rfl ?_
    refine mm_cV3i (dz := d - 1) dX12_inner_31 rfl mzX12_ofStep ml_X12_263 imX12_ofStep (by omega) so_200 ⟨rfl, rfl⟩ (cm_ofStep (s := s) (f := 1) (by omega) (by omega) (by decide)) (Nat.le_of_ble_eq_true rfl) ⟨Nat.le_refl _, Nat.le_refl _⟩ ?_
    refine mm_goto (tgt := 39) dX12_inner_34 (by decide) ?_
    exact mm_top (by rw [if_neg c24]) K24
set_option maxRecDepth 100000 in
set_option maxHeartbeats 600000 in
theorem cm_innerE {g : mm_G} {I : mm_I} {d : Nat} {w h : Nat} (hW : mo_W (I 201) w h) {la lb : Nat} (h2 : I 201 2 = nI la) (h3 : I 201 3 = nI lb) (hla : 1 ≤ la ∧ la ≤ 24) (hlb : lb ≤ 24) {m c : Nat} (hmm : m < 5) (hc1 : I 201 (630 + 40 * m + 1) = nI c) (hcl : c < 80) {p k : Nat} (hp : p < 6) (hT : mo_T (I 201) p k) {s : Nat} (hs : s < k) {o e : Nat} (ho : 8 ≤ o ∧ o ≤ 9) (h0 : sf (I 201) p s 0 = nI o) (he : e < 160) (e3 : sf (I 201) p s 3 = nI e) (hX : mo_X (I 201) (1226 + 418 * p + 258 + e)) (hd : 4 ≤ d) : mm_Ci g zX12_inner d [.ref 200, .int (nI m), .int (nI p), .int (nI s), .int (nI o)] sh_S I (op_in I w m p s c).1 (op_in I w m p s c).2 := by
  have h32 := hT.1
  rw [show op_in I w m p s c = (in_f (I 201) p s (decide (¬ (sp_vo I w m c (1226 + 418 * p + 258 + e)).2 0 = 0)), vo_m I (sp_vo I w m c (1226 + 418 * p + 258 + e)).2) by unfold op_in; rw [if_neg (by rw [h0]; intro q; have := (nI_eq (by omega) (by omega)).mp (q.trans (show (10 : Int32) = nI 10 from rfl)); omega), e3, vv_nI (by omega)]]
  refine mm_Ci_of (fun Q hq => ?_)
  refine mm_begin (ls := [(0, .ref 200), (1, .int (nI (m))), (2, .int (nI (p))), (3, .int (nI (s))), (4, .int (nI (o)))]) (Nat.le_of_ble_eq_true rfl) rfl rfl ?_
  refine mm_iload 4 dX12_inner_0 rfl ?_
  refine mm_bipush (v := 10) dX12_inner_2 rfl ?_
  refine mm_icmp_neN (o) (10) (tgt := 73) dX12_inner_4 (by decide) (by omega) (by omega) (fun c4 => ?_) (fun c4 => ?_)
  · refine mm_aload_n 0 dX12_inner_73 rfl rfl ?_
    refine mm_iload_n 1 dX12_inner_74 rfl rfl ?_
    refine mm_iload_n 2 dX12_inner_75 rfl rfl ?_
    refine mm_aload_n 0 dX12_inner_76 rfl rfl ?_
    refine mm_iload_n 2 dX12_inner_77 rfl rfl ?_
    refine mm_iload_n 3 dX12_inner_78 rfl rfl ?_
    refine mm_iconst (v := 3) dX12_inner_79 rfl ?_
    refine mm_cV3i (dz := d - 1) dX12_inner_80 rfl mzX12_ofStep ml_X12_263 imX12_ofStep (by omega) so_200 ⟨rfl, rfl⟩ (cm_ofStep (s := s) (f := 3) (by omega) (by omega) (by decide)) (Nat.le_of_ble_eq_true rfl) ⟨Nat.le_refl _, Nat.le_refl _⟩ ?_
    refine mm_at (pc' := 83) rfl ?_
    refine mm_top (v := nI (e)) e3 ?_
    refine mm_cV3i (dz := d - 1) dX12_inner_83 rfl mzX12_valueOf ml_X12_270 imX12_valueOf (by omega) so_200 ⟨rfl, rfl⟩ (cm_valueOf hW h2 h3 hla hlb hmm hc1 hcl hp he hX (by omega)) (Nat.le_of_ble_eq_true rfl) ⟨Nat.le_refl _, Nat.le_refl _⟩ ?_
    have K86 : mm_Ex g zX12_inner d (0, 0) (0, 0) sh_S (vo_m I (sp_vo I w m c (1226 + 418 * p + 258 + e)).2) 94 [(0, .ref 200), (1, .int (nI (m))), (2, .int (nI (p))), (3, .int (nI (s))), (4, .int (nI (o)))] [.int (if ¬ (((sp_vo I w m c (1226 + 418 * p + 258 + e)).2 0) = 0) then 1 else 0)] Q := by
      refine mm_istore (ls' := [(5, .int (if ¬ (((sp_vo I w m c (1226 + 418 * p + 258 + e)).2 0) = 0) then 1 else 0)), (0, .ref 200), (1, .int (nI (m))), (2, .int (nI (p))), (3, .int (nI (s))), (4, .int (nI (o)))]) dX12_inner_94 (by decide) rfl ?_
      refine mm_iload 0 dX12_inner_96 rfl ?_
      refine mm_if_eqB (tgt := 111) dX12_inner_98 (by decide) (fun c98 => ?_) (fun c98 => ?_)
      · refine mm_aload_n 1 dX12_inner_111 rfl rfl ?_
        refine mm_iload_n 3 dX12_inner_112 rfl rfl ?_
        refine mm_iload_n 4 dX12_inner_113 rfl rfl ?_
        refine mm_iconst (v := 5) dX12_inner_114 rfl ?_
        refine mm_cV3i (dz := d - 1) dX12_inner_115 rfl mzX12_ofStep ml_X12_263 imX12_ofStep (by omega) so_200 ⟨rfl, rfl⟩ (cm_ofStep (s := s) (f := 5) (by omega) (by omega) (by decide)) (Nat.le_of_ble_eq_true rfl) ⟨Nat.le_refl _, Nat.le_refl _⟩ ?_
        refine mm_istore (ls' := [(6, .int ((vo_m I (sp_vo I w m c (1226 + 418 * p + 258 + e)).2) 201 (1226 + 418 * p + 1 + 8 * s + 5))), (5, .int (if ¬ (((sp_vo I w m c (1226 + 418 * p + 258 + e)).2 0) = 0) then 1 else 0)), (0, .ref 200), (1, .int (nI (m))), (2, .int (nI (p))), (3, .int (nI (s))), (4, .int (nI (o)))]) dX12_inner_118 (by decide) rfl ?_
        refine mm_iload 0 dX12_inner_120 rfl ?_
        refine mm_if_lt (tgt := 130) dX12_inner_122 (by decide) (fun c122 => ?_) (fun c122 => ?_)
        · refine mm_aload_n 2 dX12_inner_130 rfl rfl ?_
          refine mm_iload_n 4 dX12_inner_131 rfl rfl ?_
          refine mm_iload_n 5 dX12_inner_132 rfl rfl ?_
          refine mm_cV2i (dz := d - 1) dX12_inner_133 rfl mzX12_behind ml_X12_273 imX12_behind (by omega) so_200 ⟨rfl, rfl⟩ (cm_behindN (N := I 201) (fun x hx => vo_m_n (by decide)) hp hT (by omega) (by omega)) (Nat.le_of_ble_eq_true rfl) ⟨Nat.le_refl _, Nat.le_refl _⟩ ?_
          refine mm_iret dX12_inner_136 rfl ⟨Nat.le_refl _, Nat.le_refl _⟩ ?_
          rw [in_fc (N := I 201) (b := decide (¬ (sp_vo I w m c (1226 + 418 * p + 258 + e)).2 0 = 0)) (decide_eq_false c98) c122] at hq
          exact hq
        · refine mm_iload 0 dX12_inner_125 rfl ?_
          refine mm_goto (tgt := 136) dX12_inner_127 (by decide) ?_
          refine mm_iret dX12_inner_136 rfl ⟨Nat.le_refl _, Nat.le_refl _⟩ ?_
          rw [in_fe (N := I 201) (b := decide (¬ (sp_vo I w m c (1226 + 418 * p + 258 + e)).2 0 = 0)) (decide_eq_false c98) c122] at hq
          exact hq
      · refine mm_aload_n 1 dX12_inner_101 rfl rfl ?_
        refine mm_iload_n 3 dX12_inner_102 rfl rfl ?_
        refine mm_iload_n 4 dX12_inner_103 rfl rfl ?_
        refine mm_iconst (v := 4) dX12_inner_104 rfl ?_
        refine mm_cV3i (dz := d - 1) dX12_inner_105 rfl mzX12_ofStep ml_X12_263 imX12_ofStep (by omega) so_200 ⟨rfl, rfl⟩ (cm_ofStep (s := s) (f := 4) (by omega) (by omega) (by decide)) (Nat.le_of_ble_eq_true rfl) ⟨Nat.le_refl _, Nat.le_refl _⟩ ?_
        refine mm_goto (tgt := 118) dX12_inner_108 (by decide) ?_
        refine mm_istore (ls' := [(6, .int ((vo_m I (sp_vo I w m c (1226 + 418 * p + 258 + e)).2) 201 (1226 + 418 * p + 1 + 8 * s + 4))), (5, .int (if ¬ (((sp_vo I w m c (1226 + 418 * p + 258 + e)).2 0) = 0) then 1 else 0)), (0, .ref 200), (1, .int (nI (m))), (2, .int (nI (p))), (3, .int (nI (s))), (4, .int (nI (o)))]) dX12_inner_118 (by decide) rfl ?_
        refine mm_iload 0 dX12_inner_120 rfl ?_
        refine mm_if_lt (tgt := 130) dX12_inner_122 (by decide) (fun c122 => ?_) (fun c122 => ?_)
        · refine mm_aload_n 2 dX12_inner_130 rfl rfl ?_
          refine mm_iload_n 4 dX12_inner_131 rfl rfl ?_
          refine mm_iload_n 5 dX12_inner_132 rfl rfl ?_
          refine mm_cV2i (dz := d - 1) dX12_inner_133 rfl mzX12_behind ml_X12_273 imX12_behind (by omega) so_200 ⟨rfl, rfl⟩ (cm_behindN (N := I 201) (fun x hx => vo_m_n (by decide)) hp hT (by omega) (by omega)) (Nat.le_of_ble_eq_true rfl) ⟨Nat.le_refl _, Nat.le_refl _⟩ ?_
          refine mm_iret dX12_inner_136 rfl ⟨Nat.le_refl _, Nat.le_refl _⟩ ?_
          rw [in_fb (N := I 201) (b := decide (¬ (sp_vo I w m c (1226 + 418 * p + 258 + e)).2 0 = 0)) (decide_eq_true c98) c122] at hq
          exact hq
        · refine mm_iload 0 dX12_inner_125 rfl ?_
          refine mm_goto (tgt := 136) dX12_inner_127 (by decide) ?_
          refine mm_iret dX12_inner_136 rfl ⟨Nat.le_refl _, Nat.le_refl _⟩ ?_
          rw [in_ft (N := I 201) (b := decide (¬ (sp_vo I w m c (1226 + 418 * p + 258 + e)).2 0 = 0)) (decide_eq_true c98) c122] at hq
          exact hq
    refine mm_if_eq (tgt := 93) dX12_inner_86 (by decide) (fun c86 => ?_) (fun c86 => ?_)
    · refine mm_iconst (v := 0) dX12_inner_93 rfl ?_
      exact mm_top (by first | rfl | (simp [c86]; done) | (rw [if_pos (by simp_all)]; done) | (rw [if_neg (by simp_all)]; done) | (rw [if_pos (by omega)]; done) | (rw [if_neg (by omega)]; done)) K86
    · refine mm_iconst (v := 1) dX12_inner_89 rfl ?_
      refine mm_goto (tgt := 94) dX12_inner_90 (by decide) ?_
      exact mm_top (by first | rfl | (simp [c86]; done) | (rw [if_pos (by simp_all)]; done) | (rw [if_neg (by simp_all)]; done) | (rw [if_pos (by omega)]; done) | (rw [if_neg (by omega)]; done)) K86
  · exact absurd c4 (by omega)
/-- in order: all that a machine's program needs -/
def mo_G (N : Nat → Int32) (w h n la lb m c p k wh : Nat) : Prop := mo_W N w h ∧ (N 16 = nI n ∧ n ≤ 5) ∧ (N 2 = nI la ∧ N 3 = nI lb ∧ (1 ≤ la ∧ la ≤ 24) ∧ lb ≤ 24) ∧ m < 5 ∧ (N (630 + 40 * m + 1) = nI c ∧ c < w * h) ∧ (N (630 + 40 * m + 5) = nI wh ∧ wh ≤ 1) ∧ (N (630 + 40 * m + 6) = nI p ∧ p < 6) ∧ mo_T N p k
theorem mo_G_eq {N N' : Nat → Int32} {w h n la lb m c p k wh : Nat} (H : mo_G N w h n la lb m c p k wh) (e : ∀ x, x < 637 + 40 * m ∨ 670 + 40 * m ≤ x → N' x = N x) : mo_G N' w h n la lb m c p k wh := by
  obtain ⟨⟨a1, a2, a3⟩, ⟨b1, b2⟩, ⟨c1, c2, c3⟩, hm, ⟨d1, d2⟩, ⟨e1, e2⟩, ⟨f1, f2⟩, hT⟩ := H
  exact ⟨⟨(e _ (by omega)).trans a1, (e _ (by omega)).trans a2, a3⟩, ⟨(e _ (by omega)).trans b1, b2⟩, ⟨(e _ (by omega)).trans c1, (e _ (by omega)).trans c2, c3⟩, hm, ⟨(e _ (by omega)).trans d1, d2⟩, ⟨(e _ (by omega)).trans e1, e2⟩, ⟨(e _ (by omega)).trans f1, f2⟩, mo_T_eq (fun x hx => e x (by omega)) hT⟩
theorem sp_goal {w h x y : Nat} (hx : x < w) (hy : y < h) : y * w + x < w * h := by
  have h1 : (y + 1) * w ≤ h * w := Nat.mul_le_mul_right w hy
  rw [Nat.add_mul, Nat.one_mul] at h1
  rw [Nat.mul_comm w h]
  omega
/-- the best of the cells beside -/
def gs_b (f : Nat → Int32) (w h c : Nat) : Nat → Int32
  | 0 => -1
  | y + 1 => if 0 ≤ sp_be w h c y ∧ 0 ≤ f (vv (sp_be w h c y)) ∧ (gs_b f w h c y < 0 ∨ f (vv (sp_be w h c y)) < f (vv (gs_b f w h c y))) then sp_be w h c y else gs_b f w h c y
theorem gs_in {f : Nat → Int32} {w h c : Nat} (hw : 0 < w) (hc : c < w * h) : ∀ y, gs_b f w h c y = -1 ∨ ∃ k, k < w * h ∧ gs_b f w h c y = nI k := by
  intro y
  induction y with
  | zero => exact Or.inl rfl
  | succ y ih =>
    unfold gs_b
    split
    · exact sp_be_in hw hc
    · exact ih
abbrev go_th (N : Nat → Int32) (m p s : Nat) : Prop := sf N p s 1 < N 0 ∧ sf N p s 2 < N 1 ∧ sf N p s 2 * N 0 + sf N p s 1 = N (630 + 40 * m + 1)
def gs_c (N : Nat → Int32) (b : Nat) : Int32 := if sp_kd (N (30 + b)) 3 then 1 else 2
def op_gs (J K : mm_I) (n m p s : Nat) (b : Int32) : mm_I := if b < 0 then mm_up K 201 (630 + 40 * m + 7) (bh (J 201) p 32 s) else
  if sp_mo (J 201) b n < 0 ∧ gs_c (J 201) (vv b) ≤ J 201 (630 + 40 * m + 2) then op_costs (mm_up K 201 (630 + 40 * m + 1) b) m (gs_c (J 201) (vv b)) (gs_c (J 201) (vv b) - 1) else K
def op_goes (J : mm_I) (w h n m p s c : Nat) : mm_I := if sf (J 201) p s 1 < J 201 0 ∧ sf (J 201) p s 2 < J 201 1 then
  op_gs J (bf_m J (bf_r J w h (vv (sf (J 201) p s 2) * w + vv (sf (J 201) p s 1)))) n m p s (gs_b (bf_r J w h (vv (sf (J 201) p s 2) * w + vv (sf (J 201) p s 1))).1 w h c 4) else mm_up J 201 (630 + 40 * m + 7) (bh (J 201) p 32 s)
