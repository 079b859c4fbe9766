/-! THE REFERENCE: acts of a machine -/
def ac_k (J : mm_I) (m p s : Nat) : mm_I := mm_up J 201 (630 + 40 * m + 7) (bh (J 201) p 32 s)
def op_acts (J : mm_I) (w h n m p s c wh : Nat) : Nat → mm_I
  | 1 => op_scoops (ac_k J m p s) m c
  | 2 => op_drops (ac_k J m p s) m c wh
  | 3 => op_fuses (ac_k J m p s) m c
  | 4 => op_charges (ac_k J m p s) m c
  | 5 => op_mends (ac_k J m p s) w h n m c
  | _ => ac_k J m p s
theorem ac_n {J : mm_I} {m p s x : Nat} (h : x ≠ 630 + 40 * m + 7) : ac_k J m p s 201 x = J 201 x := by unfold ac_k; rw [mm_up_ni h]
theorem ac_W {J : mm_I} {w h m p s : Nat} (H : mo_W (J 201) w h) : mo_W (ac_k J m p s 201) w h := ⟨(ac_n (by omega)).trans H.1, (ac_n (by omega)).trans H.2.1, H.2.2⟩
set_option maxRecDepth 100000 in
set_option maxHeartbeats 600000 in
theorem cm_acts {g : mm_G} {I : mm_I} {d : Nat} {w h : Nat} (hW : mo_W (I 201) w h) {n : Nat} (hm : I 201 16 = nI n) (hm5 : n ≤ 5) {p k : Nat} (hp : p < 6) (hT : mo_T (I 201) p k) {s : Nat} (hs : s < k) {m c : Nat} (hmm : m < 5) (hc1 : I 201 (630 + 40 * m + 1) = nI c) (hcw : c < w * h) {wh : Nat} (hwh : I 201 (630 + 40 * m + 5) = nI wh) (hwh1 : wh ≤ 1) {o : Nat} (ho : 1 ≤ o ∧ o ≤ 6) (hd : 3 ≤ d) : mm_Ci g zX12_acts d [.ref 200, .int (nI m), .int (nI p), .int (nI s), .int (nI o)] sh_S I 1 (op_acts I w h n m p s c wh o) := by
  have hc := mo_W_c hW
  obtain ⟨-, -, hw1, hw2, hh1, hh2⟩ := id hW
  have h32 := hT.1
  refine mm_Ci_of (fun Q hq => ?_)
  refine mm_begin (ls := [(0, .ref 200), (1, .int (nI (m))), (2, .int (nI (p))), (3, .int (nI (s))), (4, .int (nI (o)))]) (Nat.le_of_ble_eq_true rfl) rfl rfl ?_
  refine mm_iload 4 dX12_acts_0 rfl ?_
  refine mm_if_neN (o) (tgt := 13) dX12_acts_2 (by decide) (by omega) (fun c2 => ?_) (fun c2 => ?_)
  · refine mm_aload_n 0 dX12_acts_13 rfl rfl ?_
    refine mm_getr (b := 201) dX12_acts_14 rfl fk_X12_9 rfl so_200 sr_200_0 ?_
    refine mm_iload_n 1 dX12_acts_17 rfl rfl ?_
    refine mm_bipush (v := 7) dX12_acts_18 rfl ?_
    refine mm_cS2i (dz := d - 1) dX12_acts_20 rfl mzX12_of ml_X12_87 imX12_of (by omega) (cm_of (m) (7)) (Nat.le_of_ble_eq_true rfl) ⟨Nat.le_refl _, Nat.le_refl _⟩ ?_
    refine mm_aload_n 0 dX12_acts_23 rfl rfl ?_
    refine mm_iload_n 2 dX12_acts_24 rfl rfl ?_
    refine mm_iload_n 3 dX12_acts_25 rfl rfl ?_
    refine mm_at (pc' := 26) rfl ?_
    refine mm_cV2i (dz := d - 1) dX12_acts_26 rfl mzX12_behind ml_X12_273 imX12_behind (by omega) so_200 ⟨rfl, rfl⟩ (cm_behindN (N := I 201) (fun _ _ => rfl) hp hT (by omega) (by omega)) (Nat.le_of_ble_eq_true rfl) ⟨Nat.le_refl _, Nat.le_refl _⟩ ?_
    refine mm_iastN (630 + 40 * m + 7) dX12_acts_29 sa_201 (by omega) (by omega) ?_
    show mm_Ex g zX12_acts d (0, 0) (0, 0) sh_S (ac_k I m p s) 30 [(0, .ref 200), (1, .int (nI (m))), (2, .int (nI (p))), (3, .int (nI (s))), (4, .int (nI (o)))] [] Q
    refine mm_iload 4 dX12_acts_30 rfl ?_
    by_cases e32_0 : (o) = 1
    · refine mm_tabIn (1) (tgt := 68) dX12_acts_32 (by rw [e32_0]; rfl) (by decide) (by decide) rfl (by decide) ?_
      subst e32_0
      refine mm_aload_n 0 dX12_acts_68 rfl rfl ?_
      refine mm_iload_n 1 dX12_acts_69 rfl rfl ?_
      refine mm_cV1v (dz := d - 1) dX12_acts_70 rfl mzX12_scoops ml_X12_283 imX12_scoops (by omega) so_200 ⟨rfl, rfl⟩ (cm_scoops hmm ((ac_n (J := I) (p := p) (s := s) (by omega)).trans hc1) (by omega) (by omega)) (Nat.le_of_ble_eq_true rfl) ⟨Nat.le_refl _, Nat.le_refl _⟩ ?_
      refine mm_goto (tgt := 108) dX12_acts_73 (by decide) ?_
      refine mm_iconst (v := 1) dX12_acts_108 rfl ?_
      refine mm_zret dX12_acts_109 rfl (by decide) ⟨Nat.le_refl _, Nat.le_refl _⟩ ?_
      exact hq
    by_cases e32_1 : (o) = 2
    · refine mm_tabIn (2) (tgt := 76) dX12_acts_32 (by rw [e32_1]; rfl) (by decide) (by decide) rfl (by decide) ?_
      subst e32_1
      refine mm_aload_n 0 dX12_acts_76 rfl rfl ?_
      refine mm_iload_n 1 dX12_acts_77 rfl rfl ?_
      refine mm_cV1v (dz := d - 1) dX12_acts_78 rfl mzX12_drops ml_X12_286 imX12_drops (by omega) so_200 ⟨rfl, rfl⟩ (cm_drops hmm ((ac_n (J := I) (p := p) (s := s) (by omega)).trans hc1) (by omega) ((ac_n (J := I) (p := p) (s := s) (by omega)).trans hwh) hwh1 (by omega)) (Nat.le_of_ble_eq_true rfl) ⟨Nat.le_refl _, Nat.le_refl _⟩ ?_
      refine mm_goto (tgt := 108) dX12_acts_81 (by decide) ?_
      refine mm_iconst (v := 1) dX12_acts_108 rfl ?_
      refine mm_zret dX12_acts_109 rfl (by decide) ⟨Nat.le_refl _, Nat.le_refl _⟩ ?_
      exact hq
    by_cases e32_2 : (o) = 3
    · refine mm_tabIn (3) (tgt := 84) dX12_acts_32 (by rw [e32_2]; rfl) (by decide) (by decide) rfl (by decide) ?_
      subst e32_2
      refine mm_aload_n 0 dX12_acts_84 rfl rfl ?_
      refine mm_iload_n 1 dX12_acts_85 rfl rfl ?_
      refine mm_cV1v (dz := d - 1) dX12_acts_86 rfl mzX12_fuses ml_X12_289 imX12_fuses (by omega) so_200 ⟨rfl, rfl⟩ (cm_fuses hmm ((ac_n (J := I) (p := p) (s := s) (by omega)).trans hc1) (by omega) (by omega)) (Nat.le_of_ble_eq_true rfl) ⟨Nat.le_refl _, Nat.le_refl _⟩ ?_
      refine mm_goto (tgt := 108) dX12_acts_89 (by decide) ?_
      refine mm_iconst (v := 1) dX12_acts_108 rfl ?_
      refine mm_zret dX12_acts_109 rfl (by decide) ⟨Nat.le_refl _, Nat.le_refl _⟩ ?_
      exact hq
    by_cases e32_3 : (o) = 4
    · refine mm_tabIn (4) (tgt := 92) dX12_acts_32 (by rw [e32_3]; rfl) (by decide) (by decide) rfl (by decide) ?_
      subst e32_3
      refine mm_aload_n 0 dX12_acts_92 rfl rfl ?_
      refine mm_iload_n 1 dX12_acts_93 rfl rfl ?_
      refine mm_cV1v (dz := d - 1) dX12_acts_94 rfl mzX12_charges ml_X12_292 imX12_charges (by omega) so_200 ⟨rfl, rfl⟩ (cm_charges hmm ((ac_n (J := I) (p := p) (s := s) (by omega)).trans hc1) (by omega) (by omega)) (Nat.le_of_ble_eq_true rfl) ⟨Nat.le_refl _, Nat.le_refl _⟩ ?_
      refine mm_goto (tgt := 108) dX12_acts_97 (by decide) ?_
      refine mm_iconst (v := 1) dX12_acts_108 rfl ?_
      refine mm_zret dX12_acts_109 rfl (by decide) ⟨Nat.le_refl _, Nat.le_refl _⟩ ?_
      exact hq
    by_cases e32_4 : (o) = 5
    · refine mm_tabIn (5) (tgt := 100) dX12_acts_32 (by rw [e32_4]; rfl) (by decide) (by decide) rfl (by decide) ?_
      subst e32_4
      refine mm_aload_n 0 dX12_acts_100 rfl rfl ?_
      refine mm_iload_n 1 dX12_acts_101 rfl rfl ?_
      refine mm_cV1v (dz := d - 1) dX12_acts_102 rfl mzX12_mends ml_X12_295 imX12_mends (by omega) so_200 ⟨rfl, rfl⟩ (cm_mends (ac_W (m := m) (p := p) (s := s) hW) ((ac_n (J := I) (p := p) (s := s) (by omega)).trans hm) hm5 hmm ((ac_n (J := I) (p := p) (s := s) (by omega)).trans hc1) hcw (by omega)) (Nat.le_of_ble_eq_true rfl) ⟨Nat.le_refl _, Nat.le_refl _⟩ ?_
      refine mm_goto (tgt := 108) dX12_acts_105 (by decide) ?_
      refine mm_iconst (v := 1) dX12_acts_108 rfl ?_
      refine mm_zret dX12_acts_109 rfl (by decide) ⟨Nat.le_refl _, Nat.le_refl _⟩ ?_
      exact hq
    refine mm_tabOut 1 5 (tgt := 108) dX12_acts_32 rfl (by decide) (fun k hk q => by have q := (nI_eq (by omega) (by omega)).mp q; omega) (by decide) ?_
    refine mm_iconst (v := 1) dX12_acts_108 rfl ?_
    refine mm_zret dX12_acts_109 rfl (by decide) ⟨Nat.le_refl _, Nat.le_refl _⟩ ?_
    have e : o = 6 := by omega
    subst e
    exact hq
  · omega
set_option maxRecDepth 100000 in
set_option maxHeartbeats 600000 in
theorem cm_actsT {g : mm_G} {I : mm_I} {d : Nat} {w h : Nat} (hW : mo_W (I 201) w h) {n : Nat} (hm : I 201 16 = nI n) (hm5 : n ≤ 5) {p k : Nat} (hp : p < 6) (hT : mo_T (I 201) p k) {s : Nat} (hs : s < k) {m c : Nat} (hmm : m < 5) (hc1 : I 201 (630 + 40 * m + 1) = nI c) (hcw : c < w * h) {x y : Nat} (hx9 : x ≤ 9999) (hy9 : y ≤ 9999) (ex : sf (I 201) p s 1 = nI x) (ey : sf (I 201) p s 2 = nI y) (hxy : x < w ∧ y < h) (hth : y * w + x = c) {o : Nat} (ho : o = 0) (hd : 3 ≤ d) : mm_Ci g zX12_acts d [.ref 200, .int (nI m), .int (nI p), .int (nI s), .int (nI o)] sh_S I 0 I := by
  refine mm_Ci_of (fun Q hq => ?_)
  refine mm_begin (ls := [(0, .ref 200), (1, .int (nI (m))), (2, .int (nI (p))), (3, .int (nI (s))), (4, .int (nI (o)))]) (Nat.le_of_ble_eq_true rfl) rfl rfl ?_
  refine mm_iload 4 dX12_acts_0 rfl ?_
  refine mm_if_neN (o) (tgt := 13) dX12_acts_2 (by decide) (by omega) (fun c2 => ?_) (fun c2 => ?_)
  · omega
  · refine mm_aload_n 0 dX12_acts_5 rfl rfl ?_
    refine mm_iload_n 1 dX12_acts_6 rfl rfl ?_
    refine mm_iload_n 2 dX12_acts_7 rfl rfl ?_
    refine mm_iload_n 3 dX12_acts_8 rfl rfl ?_
    refine mm_cV3i (dz := d - 1) dX12_acts_9 rfl mzX12_goes ml_X12_280 imX12_goes (by omega) so_200 ⟨rfl, rfl⟩ (cm_goesT hW hp hT hs hmm hc1 hcw hx9 hy9 ex ey hxy hth (by omega)) (Nat.le_of_ble_eq_true rfl) ⟨Nat.le_refl _, Nat.le_refl _⟩ ?_
    refine mm_zret dX12_acts_12 rfl (by decide) ⟨Nat.le_refl _, Nat.le_refl _⟩ ?_
    exact hq
set_option maxRecDepth 100000 in
set_option maxHeartbeats 600000 in
theorem cm_actsI {g : mm_G} {I : mm_I} {d : Nat} {w h : Nat} (hW : mo_W (I 201) w h) {n : Nat} (hm : I 201 16 = nI n) (hm5 : n ≤ 5) {p k : Nat} (hp : p < 6) (hT : mo_T (I 201) p k) {s : Nat} (hs : s < k) {m c : Nat} (hmm : m < 5) (hc1 : I 201 (630 + 40 * m + 1) = nI c) (hcw : c < w * h) {x y : Nat} (hx9 : x ≤ 9999) (hy9 : y ≤ 9999) (ex : sf (I 201) p s 1 = nI x) (ey : sf (I 201) p s 2 = nI y) (hxy : x < w ∧ y < h) (hth : ¬ y * w + x = c) {o : Nat} (ho : o = 0) (hd : 4 ≤ d) : mm_Ci g zX12_acts d [.ref 200, .int (nI m), .int (nI p), .int (nI s), .int (nI o)] sh_S I 1 (op_goes I w h n m p s c) := by
  refine mm_Ci_of (fun Q hq => ?_)
  refine mm_begin (ls := [(0, .ref 200), (1, .int (nI (m))), (2, .int (nI (p))), (3, .int (nI (s))), (4, .int (nI (o)))]) (Nat.le_of_ble_eq_true rfl) rfl rfl ?_
  refine mm_iload 4 dX12_acts_0 rfl ?_
  refine mm_if_neN (o) (tgt := 13) dX12_acts_2 (by decide) (by omega) (fun c2 => ?_) (fun c2 => ?_)
  · omega
  · refine mm_aload_n 0 dX12_acts_5 rfl rfl ?_
    refine mm_iload_n 1 dX12_acts_6 rfl rfl ?_
    refine mm_iload_n 2 dX12_acts_7 rfl rfl ?_
    refine mm_iload_n 3 dX12_acts_8 rfl rfl ?_
    refine mm_cV3i (dz := d - 1) dX12_acts_9 rfl mzX12_goes ml_X12_280 imX12_goes (by omega) so_200 ⟨rfl, rfl⟩ (cm_goesI hW hm hm5 hp hT hs hmm hc1 hcw hx9 hy9 ex ey hxy hth (by omega)) (Nat.le_of_ble_eq_true rfl) ⟨Nat.le_refl _, Nat.le_refl _⟩ ?_
    refine mm_zret dX12_acts_12 rfl (by decide) ⟨Nat.le_refl _, Nat.le_refl _⟩ ?_
    exact hq
set_option maxRecDepth 100000 in
set_option maxHeartbeats 600000 in
theorem cm_actsO {g : mm_G} {I : mm_I} {d : Nat} {w h : Nat} (hW : mo_W (I 201) w h) {n : Nat} (hm : I 201 16 = nI n) (hm5 : n ≤ 5) {p k : Nat} (hp : p < 6) (hT : mo_T (I 201) p k) {s : Nat} (hs : s < k) {m c : Nat} (hmm : m < 5) (hc1 : I 201 (630 + 40 * m + 1) = nI c) (hcw : c < w * h) {x y : Nat} (hx9 : x ≤ 9999) (hy9 : y ≤ 9999) (ex : sf (I 201) p s 1 = nI x) (ey : sf (I 201) p s 2 = nI y) (hxy : ¬ (x < w ∧ y < h)) {o : Nat} (ho : o = 0) (hd : 4 ≤ d) : mm_Ci g zX12_acts d [.ref 200, .int (nI m), .int (nI p), .int (nI s), .int (nI o)] sh_S I 1 (op_goes I w h n m p s c) := by
  refine mm_Ci_of (fun Q hq => ?_)
  refine mm_begin (ls := [(0, .ref 200), (1, .int (nI (m))), (2, .int (nI (p))), (3, .int (nI (s))), (4, .int (nI (o)))]) (Nat.le_of_ble_eq_true rfl) rfl rfl ?_
  refine mm_iload 4 dX12_acts_0 rfl ?_
  refine mm_if_neN (o) (tgt := 13) dX12_acts_2 (by decide) (by omega) (fun c2 => ?_) (fun c2 => ?_)
  · omega
  · refine mm_aload_n 0 dX12_acts_5 rfl rfl ?_
    refine mm_iload_n 1 dX12_acts_6 rfl rfl ?_
    refine mm_iload_n 2 dX12_acts_7 rfl rfl ?_
    refine mm_iload_n 3 dX12_acts_8 rfl rfl ?_
    refine mm_cV3i (dz := d - 1) dX12_acts_9 rfl mzX12_goes ml_X12_280 imX12_goes (by omega) so_200 ⟨rfl, rfl⟩ (cm_goesO hW hp hT hs hmm hc1 hcw hx9 hy9 ex ey (n := n) hxy (by omega)) (Nat.le_of_ble_eq_true rfl) ⟨Nat.le_refl _, Nat.le_refl _⟩ ?_
    refine mm_zret dX12_acts_12 rfl (by decide) ⟨Nat.le_refl _, Nat.le_refl _⟩ ?_
    exact hq
def op_gos (w h n m c wh p s o : Nat) (J : mm_I) (rec : mm_I → mm_I) : mm_I :=
  if o = 0 then (if go_th (J 201) m p s then rec (mm_up J 201 (630 + 40 * m + 7) (bh (J 201) p 32 s)) else op_goes J w h n m p s c)
  else if o < 7 then op_acts J w h n m p s c wh o
  else if o = 7 then (if (sp_vo J w m c (1226 + 418 * p + 258 + vv (sf (J 201) p s 3))).2 0 = 0 then vo_m J (sp_vo J w m c (1226 + 418 * p + 258 + vv (sf (J 201) p s 3))).2 else rec (mm_up (vo_m J (sp_vo J w m c (1226 + 418 * p + 258 + vv (sf (J 201) p s 3))).2) 201 (630 + 40 * m + 7) (bh (J 201) p 32 s)))
  else rec (mm_up (op_in J w m p s c).2 201 (630 + 40 * m + 7) (op_in J w m p s c).1)
/-- a machine goes through its program: so many steps at most -/
def op_go (w h n m c wh p : Nat) : Nat → mm_I → mm_I
  | 0, J => J
  | k + 1, J => if J 201 (630 + 40 * m + 7) < 0 then mm_up J 201 (630 + 40 * m + 6) (-1) else op_gos w h n m c wh p (vv (J 201 (630 + 40 * m + 7))) (vv (sf (J 201) p (vv (J 201 (630 + 40 * m + 7))) 0)) J (op_go w h n m c wh p k)
theorem op_in_ne {J : mm_I} {w m p s c x : Nat} (hs : s < 32) (hx : x < 637 + 40 * m ∨ 670 + 40 * m ≤ x) : (op_in J w m p s c).2 201 x = J 201 x := by
  unfold op_in
  split
  · show mm_up J 201 _ _ 201 x = _
    rw [mm_up_ni (by omega)]
  · rfl
theorem in_f_in {N : Nat → Int32} {p k s : Nat} {b : Bool} (hT : mo_T N p k) (hs : s < k) (h8 : 8 ≤ sf N p s 0) : mo_st k (in_f N p s b) := by
  have h32 := hT.1
  obtain ⟨-, -, -, -, -, q⟩ := hT.2 s hs
  obtain ⟨⟨x, hx, ex⟩, q5⟩ := q h8
  cases b with
  | true => rw [in_ft rfl (by rw [ex]; exact nI_pos (by omega)), ex]; exact Or.inr ⟨x, hx, rfl⟩
  | false =>
    by_cases c : sf N p s 5 < 0
    · rw [in_fc rfl c]; exact bh_in hT 32 s (by omega) hs
    · rw [in_fe rfl c]; exact q5
theorem op_in_in {J : mm_I} {w m p k s c : Nat} (hT : mo_T (J 201) p k) (hs : s < k) (h8 : 8 ≤ sf (J 201) p s 0) : mo_st k (op_in J w m p s c).1 := by
  unfold op_in
  split
  · exact in_f_in hT hs h8
  · exact in_f_in hT hs h8
set_option maxRecDepth 100000 in
set_option maxHeartbeats 600000 in
theorem lm_go {g : mm_G} {d : Nat} {Q : Option Value → mm_Sh → mm_I → Prop} {w h n la lb m c p k wh : Nat} (hd : 5 ≤ d) : ∀ (kf i : Nat) (I : mm_I), i + kf = 50 → mo_G (I 201) w h n la lb m c p k wh → mo_st k (I 201 (630 + 40 * m + 7)) → Q none sh_S (op_go w h n m c wh p kf I) → mm_Ex g zX12_goesOn d (0, 0) (0, 0) sh_S I 2 [(2, .int (nI i)), (0, .ref 200), (1, .int (nI m))] [] Q := by
  intro kf
  induction kf with
  | zero =>
    intro i I hi hG hat hq
    have hmm : m < 5 := hG.2.2.2.1
    refine mm_iload_n 0 dX12_goesOn_2 rfl rfl ?_
    refine mm_bipush (v := 50) dX12_goesOn_3 rfl ?_
    refine mm_icmp_geN (i) (50) (tgt := 153) dX12_goesOn_5 (by decide) (by omega) (by omega) (fun c5 => ?_) (fun c5 => ?_)
    · refine mm_vret dX12_goesOn_153 rfl ⟨Nat.le_refl _, Nat.le_refl _⟩ ?_
      exact hq
    · omega
  | succ kf ih =>
    intro i I hi hG hat hq
    obtain ⟨hW, ⟨hm, hm5⟩, ⟨h2, h3, hla, hlb⟩, hmm, ⟨hc1, hcw⟩, ⟨hwh, hwh1⟩, ⟨hpp, hp⟩, hT⟩ := id hG
    have hc := mo_W_c hW
    obtain ⟨-, -, hw1, hw2, hh1, hh2⟩ := id hW
    have hcl : c < 80 := by omega
    have h32 := hT.1
    rcases hat with e7 | ⟨s, hs, e7⟩
    · rw [op_go, if_pos (by rw [e7]; decide)] at hq
      refine mm_iload_n 0 dX12_goesOn_2 rfl rfl ?_
      refine mm_bipush (v := 50) dX12_goesOn_3 rfl ?_
      refine mm_icmp_geN (i) (50) (tgt := 153) dX12_goesOn_5 (by decide) (by omega) (by omega) (fun c5 => ?_) (fun c5 => ?_)
      · omega
      · refine mm_aload_n 1 dX12_goesOn_8 rfl rfl ?_
        refine mm_getr (b := 201) dX12_goesOn_9 rfl fk_X12_9 rfl so_200 sr_200_0 ?_
        refine mm_iload_n 2 dX12_goesOn_12 rfl rfl ?_
        refine mm_bipush (v := 6) dX12_goesOn_13 rfl ?_
        refine mm_cS2i (dz := d - 1) dX12_goesOn_15 rfl mzX12_of ml_X12_87 imX12_of (by omega) (cm_of (m) (6)) (Nat.le_of_ble_eq_true rfl) ⟨Nat.le_refl _, Nat.le_refl _⟩ ?_
        refine mm_ialdN (630 + 40 * m + 6) dX12_goesOn_18 sa_201 (by omega) (by omega) ?_
        refine mm_top (v := nI (p)) hpp ?_
        refine mm_istore_n (ls' := [(3, .int (nI (p))), (2, .int (nI (i))), (0, .ref 200), (1, .int (nI (m)))]) dX12_goesOn_19 rfl (by decide) rfl ?_
        refine mm_at (pc' := 20) rfl ?_
        refine mm_aload_n 2 dX12_goesOn_20 rfl rfl ?_
        refine mm_getr (b := 201) dX12_goesOn_21 rfl fk_X12_9 rfl so_200 sr_200_0 ?_
        refine mm_iload_n 3 dX12_goesOn_24 rfl rfl ?_
        refine mm_bipush (v := 7) dX12_goesOn_25 rfl ?_
        refine mm_cS2i (dz := d - 1) dX12_goesOn_27 rfl mzX12_of ml_X12_87 imX12_of (by omega) (cm_of (m) (7)) (Nat.le_of_ble_eq_true rfl) ⟨Nat.le_refl _, Nat.le_refl _⟩ ?_
        refine mm_ialdN (630 + 40 * m + 7) dX12_goesOn_30 sa_201 (by omega) (by omega) ?_
        refine mm_top (v := -1) e7 ?_
        refine mm_istore (ls' := [(4, .int (-1)), (3, .int (nI (p))), (2, .int (nI (i))), (0, .ref 200), (1, .int (nI (m)))]) dX12_goesOn_31 (by decide) rfl ?_
        refine mm_iload 0 dX12_goesOn_33 rfl ?_
        refine mm_at (pc' := 35) rfl ?_
        refine mm_if_ge (tgt := 51) dX12_goesOn_35 (by decide) (fun q => absurd q (by decide)) (fun _ => ?_)
        refine mm_aload_n 3 dX12_goesOn_38 rfl rfl ?_
        refine mm_getr (b := 201) dX12_goesOn_39 rfl fk_X12_9 rfl so_200 sr_200_0 ?_
        refine mm_iload_n 4 dX12_goesOn_42 rfl rfl ?_
        refine mm_bipush (v := 6) dX12_goesOn_43 rfl ?_
        refine mm_cS2i (dz := d - 1) dX12_goesOn_45 rfl mzX12_of ml_X12_87 imX12_of (by omega) (cm_of (m) (6)) (Nat.le_of_ble_eq_true rfl) ⟨Nat.le_refl _, Nat.le_refl _⟩ ?_
        refine mm_iconst (v := -1) dX12_goesOn_48 rfl ?_
        refine mm_iastN (630 + 40 * m + 6) dX12_goesOn_49 sa_201 (by omega) (by omega) ?_
        refine mm_vret dX12_goesOn_50 rfl ⟨Nat.le_refl _, Nat.le_refl _⟩ ?_
        exact hq
    · obtain ⟨⟨o, ho, e0⟩, -, -, q4, q5, q6⟩ := hT.2 s hs
      rw [op_go, if_neg (by rw [e7]; exact nI_pos (by omega)), e7, vv_nI (by omega), e0, vv_nI (by omega), op_gos] at hq
      have hbi := bh_in hT 32 s (by omega) hs
      by_cases ho0 : o = 0
      · obtain ⟨x, y, hx9, hy9, ex, ey⟩ := q4 (by rw [e0, ho0]; rfl)
        rw [if_pos ho0] at hq
        by_cases hxy : x < w ∧ y < h
        · by_cases hth : y * w + x = c
          · rw [if_pos (show go_th (I 201) m p s by refine ⟨?_, ?_, ?_⟩; rw [ex, hW.1]; exact nI_lt hxy.1 (by omega); rw [ey, hW.2.1]; exact nI_lt hxy.2 (by omega); rw [ex, ey, hW.1, hc1, pk_mul, nI_add, hth])] at hq
            refine mm_iload_n 0 dX12_goesOn_2 rfl rfl ?_
            refine mm_bipush (v := 50) dX12_goesOn_3 rfl ?_
            refine mm_icmp_geN (i) (50) (tgt := 153) dX12_goesOn_5 (by decide) (by omega) (by omega) (fun c5 => ?_) (fun c5 => ?_)
            · omega
            · refine mm_aload_n 1 dX12_goesOn_8 rfl rfl ?_
              refine mm_getr (b := 201) dX12_goesOn_9 rfl fk_X12_9 rfl so_200 sr_200_0 ?_
              refine mm_iload_n 2 dX12_goesOn_12 rfl rfl ?_
              refine mm_bipush (v := 6) dX12_goesOn_13 rfl ?_
              refine mm_cS2i (dz := d - 1) dX12_goesOn_15 rfl mzX12_of ml_X12_87 imX12_of (by omega) (cm_of (m) (6)) (Nat.le_of_ble_eq_true rfl) ⟨Nat.le_refl _, Nat.le_refl _⟩ ?_
              refine mm_ialdN (630 + 40 * m + 6) dX12_goesOn_18 sa_201 (by omega) (by omega) ?_
              refine mm_top (v := nI (p)) hpp ?_
              refine mm_istore_n (ls' := [(3, .int (nI (p))), (2, .int (nI (i))), (0, .ref 200), (1, .int (nI (m)))]) dX12_goesOn_19 rfl (by decide) rfl ?_
              refine mm_at (pc' := 20) rfl ?_
              refine mm_aload_n 2 dX12_goesOn_20 rfl rfl ?_
              refine mm_getr (b := 201) dX12_goesOn_21 rfl fk_X12_9 rfl so_200 sr_200_0 ?_
              refine mm_iload_n 3 dX12_goesOn_24 rfl rfl ?_
              refine mm_bipush (v := 7) dX12_goesOn_25 rfl ?_
              refine mm_cS2i (dz := d - 1) dX12_goesOn_27 rfl mzX12_of ml_X12_87 imX12_of (by omega) (cm_of (m) (7)) (Nat.le_of_ble_eq_true rfl) ⟨Nat.le_refl _, Nat.le_refl _⟩ ?_
              refine mm_ialdN (630 + 40 * m + 7) dX12_goesOn_30 sa_201 (by omega) (by omega) ?_
              refine mm_top (v := nI (s)) e7 ?_
              refine mm_istore (ls' := [(4, .int (nI (s))), (3, .int (nI (p))), (2, .int (nI (i))), (0, .ref 200), (1, .int (nI (m)))]) dX12_goesOn_31 (by decide) rfl ?_
              refine mm_iload 0 dX12_goesOn_33 rfl ?_
              refine mm_at (pc' := 35) rfl ?_
              refine mm_if_geN (s) (tgt := 51) dX12_goesOn_35 (by decide) (by omega) ?_
              refine mm_aload_n 3 dX12_goesOn_51 rfl rfl ?_
              refine mm_iload_n 1 dX12_goesOn_52 rfl rfl ?_
              refine mm_iload 0 dX12_goesOn_53 rfl ?_
              refine mm_iconst (v := 0) dX12_goesOn_55 rfl ?_
              refine mm_cV3i (dz := d - 1) dX12_goesOn_56 rfl mzX12_ofStep ml_X12_263 imX12_ofStep (by omega) so_200 ⟨rfl, rfl⟩ (cm_ofStep (s := s) (f := 0) (by omega) (by omega) (by decide)) (Nat.le_of_ble_eq_true rfl) ⟨Nat.le_refl _, Nat.le_refl _⟩ ?_
              refine mm_top (v := nI (o)) e0 ?_
              refine mm_istore (ls' := [(5, .int (nI (o))), (4, .int (nI (s))), (3, .int (nI (p))), (2, .int (nI (i))), (0, .ref 200), (1, .int (nI (m)))]) dX12_goesOn_59 (by decide) rfl ?_
              refine mm_iload 0 dX12_goesOn_61 rfl ?_
              refine mm_bipush (v := 7) dX12_goesOn_63 rfl ?_
              refine mm_at (pc' := 65) rfl ?_
              refine mm_icmp_geN (o) (7) (tgt := 84) dX12_goesOn_65 (by decide) (by omega) (by omega) (fun c65 => ?_) (fun c65 => ?_)
              · omega
              · refine mm_aload_n 4 dX12_goesOn_68 rfl rfl ?_
                refine mm_iload_n 5 dX12_goesOn_69 rfl rfl ?_
                refine mm_iload_n 2 dX12_goesOn_70 rfl rfl ?_
                refine mm_iload 1 dX12_goesOn_71 rfl ?_
                refine mm_iload 0 dX12_goesOn_73 rfl ?_
                refine mm_cV4i (dz := d - 1) dX12_goesOn_75 rfl mzX12_acts ml_X12_266 imX12_acts (by omega) so_200 ⟨rfl, rfl⟩ (cm_actsT hW hm hm5 hp hT hs hmm hc1 hcw hx9 hy9 ex ey hxy hth ho0 (by omega)) (Nat.le_of_ble_eq_true rfl) ⟨Nat.le_refl _, Nat.le_refl _⟩ ?_
                refine mm_if_eq (tgt := 109) dX12_goesOn_78 (by decide) (fun _ => ?_) (fun q => absurd (by decide) q)
                refine mm_aload_n 4 dX12_goesOn_109 rfl rfl ?_
                refine mm_getr (b := 201) dX12_goesOn_110 rfl fk_X12_9 rfl so_200 sr_200_0 ?_
                refine mm_iload_n 5 dX12_goesOn_113 rfl rfl ?_
                refine mm_bipush (v := 7) dX12_goesOn_114 rfl ?_
                refine mm_cS2i (dz := d - 1) dX12_goesOn_116 rfl mzX12_of ml_X12_87 imX12_of (by omega) (cm_of (m) (7)) (Nat.le_of_ble_eq_true rfl) ⟨Nat.le_refl _, Nat.le_refl _⟩ ?_
                refine mm_iload 0 dX12_goesOn_119 rfl ?_
                refine mm_bipush (v := 8) dX12_goesOn_121 rfl ?_
                refine mm_icmp_geN (o) (8) (tgt := 136) dX12_goesOn_123 (by decide) (by omega) (by omega) (fun c123 => ?_) (fun c123 => ?_)
                · omega
                · refine mm_aload_n 4 dX12_goesOn_126 rfl rfl ?_
                  refine mm_iload_n 2 dX12_goesOn_127 rfl rfl ?_
                  refine mm_iload 1 dX12_goesOn_128 rfl ?_
                  refine mm_cV2i (dz := d - 1) dX12_goesOn_130 rfl mzX12_behind ml_X12_273 imX12_behind (by omega) so_200 ⟨rfl, rfl⟩ (cm_behindN (N := I 201) (fun x hx => by first | rfl | exact vo_m_n (by decide)) hp hT (by omega) (by omega)) (Nat.le_of_ble_eq_true rfl) ⟨Nat.le_refl _, Nat.le_refl _⟩ ?_
                  refine mm_goto (tgt := 146) dX12_goesOn_133 (by decide) ?_
                  refine mm_iastN (630 + 40 * m + 7) dX12_goesOn_146 sa_201 (by omega) (by omega) ?_
                  refine mm_iincN (ls' := [(2, .int (nI (i + 1))), (5, .int (nI (o))), (4, .int (nI (s))), (3, .int (nI (p))), (0, .ref 200), (1, .int (nI (m)))]) 3 (i) 1 dX12_goesOn_147 rfl rfl (by decide) rfl ?_
                  refine mm_goto (tgt := 2) dX12_goesOn_150 (by decide) ?_
                  exact mm_sub [0, 4, 5] rfl (ih (i + 1) _ (by omega) (mo_G_eq hG (fun x hx => by rw [mm_up_ni (by omega)])) (by rw [mm_up_at]; exact hbi) hq)
          · rw [if_neg (show ¬ go_th (I 201) m p s by rintro ⟨-, -, q⟩; rw [ex, ey, hW.1, hc1, pk_mul, nI_add] at q; have hg := sp_goal hxy.1 hxy.2; exact hth ((nI_eq (by omega) (by omega)).mp q))] at hq
            refine mm_iload_n 0 dX12_goesOn_2 rfl rfl ?_
            refine mm_bipush (v := 50) dX12_goesOn_3 rfl ?_
            refine mm_icmp_geN (i) (50) (tgt := 153) dX12_goesOn_5 (by decide) (by omega) (by omega) (fun c5 => ?_) (fun c5 => ?_)
            · omega
            · refine mm_aload_n 1 dX12_goesOn_8 rfl rfl ?_
              refine mm_getr (b := 201) dX12_goesOn_9 rfl fk_X12_9 rfl so_200 sr_200_0 ?_
              refine mm_iload_n 2 dX12_goesOn_12 rfl rfl ?_
              refine mm_bipush (v := 6) dX12_goesOn_13 rfl ?_
              refine mm_cS2i (dz := d - 1) dX12_goesOn_15 rfl mzX12_of ml_X12_87 imX12_of (by omega) (cm_of (m) (6)) (Nat.le_of_ble_eq_true rfl) ⟨Nat.le_refl _, Nat.le_refl _⟩ ?_
              refine mm_ialdN (630 + 40 * m + 6) dX12_goesOn_18 sa_201 (by omega) (by omega) ?_
              refine mm_top (v := nI (p)) hpp ?_
              refine mm_istore_n (ls' := [(3, .int (nI (p))), (2, .int (nI (i))), (0, .ref 200), (1, .int (nI (m)))]) dX12_goesOn_19 rfl (by decide) rfl ?_
              refine mm_at (pc' := 20) rfl ?_
              refine mm_aload_n 2 dX12_goesOn_20 rfl rfl ?_
              refine mm_getr (b := 201) dX12_goesOn_21 rfl fk_X12_9 rfl so_200 sr_200_0 ?_
              refine mm_iload_n 3 dX12_goesOn_24 rfl rfl ?_
              refine mm_bipush (v := 7) dX12_goesOn_25 rfl ?_
              refine mm_cS2i (dz := d - 1) dX12_goesOn_27 rfl mzX12_of ml_X12_87 imX12_of (by omega) (cm_of (m) (7)) (Nat.le_of_ble_eq_true rfl) ⟨Nat.le_refl _, Nat.le_refl _⟩ ?_
              refine mm_ialdN (630 + 40 * m + 7) dX12_goesOn_30 sa_201 (by omega) (by omega) ?_
              refine mm_top (v := nI (s)) e7 ?_
              refine mm_istore (ls' := [(4, .int (nI (s))), (3, .int (nI (p))), (2, .int (nI (i))), (0, .ref 200), (1, .int (nI (m)))]) dX12_goesOn_31 (by decide) rfl ?_
              refine mm_iload 0 dX12_goesOn_33 rfl ?_
              refine mm_at (pc' := 35) rfl ?_
              refine mm_if_geN (s) (tgt := 51) dX12_goesOn_35 (by decide) (by omega) ?_
              refine mm_aload_n 3 dX12_goesOn_51 rfl rfl ?_
              refine mm_iload_n 1 dX12_goesOn_52 rfl rfl ?_
              refine mm_iload 0 dX12_goesOn_53 rfl ?_
              refine mm_iconst (v := 0) dX12_goesOn_55 rfl ?_
              refine mm_cV3i (dz := d - 1) dX12_goesOn_56 rfl mzX12_ofStep ml_X12_263 imX12_ofStep (by omega) so_200 ⟨rfl, rfl⟩ (cm_ofStep (s := s) (f := 0) (by omega) (by omega) (by decide)) (Nat.le_of_ble_eq_true rfl) ⟨Nat.le_refl _, Nat.le_refl _⟩ ?_
              refine mm_top (v := nI (o)) e0 ?_
              refine mm_istore (ls' := [(5, .int (nI (o))), (4, .int (nI (s))), (3, .int (nI (p))), (2, .int (nI (i))), (0, .ref 200), (1, .int (nI (m)))]) dX12_goesOn_59 (by decide) rfl ?_
              refine mm_iload 0 dX12_goesOn_61 rfl ?_
              refine mm_bipush (v := 7) dX12_goesOn_63 rfl ?_
              refine mm_at (pc' := 65) rfl ?_
              refine mm_icmp_geN (o) (7) (tgt := 84) dX12_goesOn_65 (by decide) (by omega) (by omega) (fun c65 => ?_) (fun c65 => ?_)
              · omega
              · refine mm_aload_n 4 dX12_goesOn_68 rfl rfl ?_
                refine mm_iload_n 5 dX12_goesOn_69 rfl rfl ?_
                refine mm_iload_n 2 dX12_goesOn_70 rfl rfl ?_
                refine mm_iload 1 dX12_goesOn_71 rfl ?_
                refine mm_iload 0 dX12_goesOn_73 rfl ?_
                refine mm_cV4i (dz := d - 1) dX12_goesOn_75 rfl mzX12_acts ml_X12_266 imX12_acts (by omega) so_200 ⟨rfl, rfl⟩ (cm_actsI hW hm hm5 hp hT hs hmm hc1 hcw hx9 hy9 ex ey hxy hth ho0 (by omega)) (Nat.le_of_ble_eq_true rfl) ⟨Nat.le_refl _, Nat.le_refl _⟩ ?_
                refine mm_if_eq (tgt := 109) dX12_goesOn_78 (by decide) (fun q => absurd q (by decide)) (fun _ => ?_)
                refine mm_goto (tgt := 108) dX12_goesOn_81 (by decide) ?_
                refine mm_vret dX12_goesOn_108 rfl ⟨Nat.le_refl _, Nat.le_refl _⟩ ?_
                exact hq
        · rw [if_neg (show ¬ go_th (I 201) m p s by rintro ⟨q1, q2, -⟩; rw [ex, hW.1] at q1; rw [ey, hW.2.1] at q2; exact hxy ⟨(nI_ltI (by omega) (by omega)).mp q1, (nI_ltI (by omega) (by omega)).mp q2⟩)] at hq
          refine mm_iload_n 0 dX12_goesOn_2 rfl rfl ?_
          refine mm_bipush (v := 50) dX12_goesOn_3 rfl ?_
          refine mm_icmp_geN (i) (50) (tgt := 153) dX12_goesOn_5 (by decide) (by omega) (by omega) (fun c5 => ?_) (fun c5 => ?_)
          · omega
          · refine mm_aload_n 1 dX12_goesOn_8 rfl rfl ?_
            refine mm_getr (b := 201) dX12_goesOn_9 rfl fk_X12_9 rfl so_200 sr_200_0 ?_
            refine mm_iload_n 2 dX12_goesOn_12 rfl rfl ?_
            refine mm_bipush (v := 6) dX12_goesOn_13 rfl ?_
            refine mm_cS2i (dz := d - 1) dX12_goesOn_15 rfl mzX12_of ml_X12_87 imX12_of (by omega) (cm_of (m) (6)) (Nat.le_of_ble_eq_true rfl) ⟨Nat.le_refl _, Nat.le_refl _⟩ ?_
            refine mm_ialdN (630 + 40 * m + 6) dX12_goesOn_18 sa_201 (by omega) (by omega) ?_
            refine mm_top (v := nI (p)) hpp ?_
            refine mm_istore_n (ls' := [(3, .int (nI (p))), (2, .int (nI (i))), (0, .ref 200), (1, .int (nI (m)))]) dX12_goesOn_19 rfl (by decide) rfl ?_
            refine mm_at (pc' := 20) rfl ?_
            refine mm_aload_n 2 dX12_goesOn_20 rfl rfl ?_
            refine mm_getr (b := 201) dX12_goesOn_21 rfl fk_X12_9 rfl so_200 sr_200_0 ?_
            refine mm_iload_n 3 dX12_goesOn_24 rfl rfl ?_
            refine mm_bipush (v := 7) dX12_goesOn_25 rfl ?_
            refine mm_cS2i (dz := d - 1) dX12_goesOn_27 rfl mzX12_of ml_X12_87 imX12_of (by omega) (cm_of (m) (7)) (Nat.le_of_ble_eq_true rfl) ⟨Nat.le_refl _, Nat.le_refl _⟩ ?_
            refine mm_ialdN (630 + 40 * m + 7) dX12_goesOn_30 sa_201 (by omega) (by omega) ?_
            refine mm_top (v := nI (s)) e7 ?_
            refine mm_istore (ls' := [(4, .int (nI (s))), (3, .int (nI (p))), (2, .int (nI (i))), (0, .ref 200), (1, .int (nI (m)))]) dX12_goesOn_31 (by decide) rfl ?_
            refine mm_iload 0 dX12_goesOn_33 rfl ?_
            refine mm_at (pc' := 35) rfl ?_
            refine mm_if_geN (s) (tgt := 51) dX12_goesOn_35 (by decide) (by omega) ?_
            refine mm_aload_n 3 dX12_goesOn_51 rfl rfl ?_
            refine mm_iload_n 1 dX12_goesOn_52 rfl rfl ?_
            refine mm_iload 0 dX12_goesOn_53 rfl ?_
            refine mm_iconst (v := 0) dX12_goesOn_55 rfl ?_
            refine mm_cV3i (dz := d - 1) dX12_goesOn_56 rfl mzX12_ofStep ml_X12_263 imX12_ofStep (by omega) so_200 ⟨rfl, rfl⟩ (cm_ofStep (s := s) (f := 0) (by omega) (by omega) (by decide)) (Nat.le_of_ble_eq_true rfl) ⟨Nat.le_refl _, Nat.le_refl _⟩ ?_
            refine mm_top (v := nI (o)) e0 ?_
            refine mm_istore (ls' := [(5, .int (nI (o))), (4, .int (nI (s))), (3, .int (nI (p))), (2, .int (nI (i))), (0, .ref 200), (1, .int (nI (m)))]) dX12_goesOn_59 (by decide) rfl ?_
            refine mm_iload 0 dX12_goesOn_61 rfl ?_
            refine mm_bipush (v := 7) dX12_goesOn_63 rfl ?_
            refine mm_at (pc' := 65) rfl ?_
            refine mm_icmp_geN (o) (7) (tgt := 84) dX12_goesOn_65 (by decide) (by omega) (by omega) (fun c65 => ?_) (fun c65 => ?_)
            · omega
            · refine mm_aload_n 4 dX12_goesOn_68 rfl rfl ?_
              refine mm_iload_n 5 dX12_goesOn_69 rfl rfl ?_
              refine mm_iload_n 2 dX12_goesOn_70 rfl rfl ?_
              refine mm_iload 1 dX12_goesOn_71 rfl ?_
              refine mm_iload 0 dX12_goesOn_73 rfl ?_
              refine mm_cV4i (dz := d - 1) dX12_goesOn_75 rfl mzX12_acts ml_X12_266 imX12_acts (by omega) so_200 ⟨rfl, rfl⟩ (cm_actsO hW hm hm5 hp hT hs hmm hc1 hcw hx9 hy9 ex ey hxy ho0 (by omega)) (Nat.le_of_ble_eq_true rfl) ⟨Nat.le_refl _, Nat.le_refl _⟩ ?_
              refine mm_if_eq (tgt := 109) dX12_goesOn_78 (by decide) (fun q => absurd q (by decide)) (fun _ => ?_)
              refine mm_goto (tgt := 108) dX12_goesOn_81 (by decide) ?_
              refine mm_vret dX12_goesOn_108 rfl ⟨Nat.le_refl _, Nat.le_refl _⟩ ?_
              exact hq
      · rw [if_neg ho0] at hq
        by_cases ho7 : o < 7
        · rw [if_pos ho7] at hq
          refine mm_iload_n 0 dX12_goesOn_2 rfl rfl ?_
          refine mm_bipush (v := 50) dX12_goesOn_3 rfl ?_
          refine mm_icmp_geN (i) (50) (tgt := 153) dX12_goesOn_5 (by decide) (by omega) (by omega) (fun c5 => ?_) (fun c5 => ?_)
          · omega
          · refine mm_aload_n 1 dX12_goesOn_8 rfl rfl ?_
            refine mm_getr (b := 201) dX12_goesOn_9 rfl fk_X12_9 rfl so_200 sr_200_0 ?_
            refine mm_iload_n 2 dX12_goesOn_12 rfl rfl ?_
            refine mm_bipush (v := 6) dX12_goesOn_13 rfl ?_
            refine mm_cS2i (dz := d - 1) dX12_goesOn_15 rfl mzX12_of ml_X12_87 imX12_of (by omega) (cm_of (m) (6)) (Nat.le_of_ble_eq_true rfl) ⟨Nat.le_refl _, Nat.le_refl _⟩ ?_
            refine mm_ialdN (630 + 40 * m + 6) dX12_goesOn_18 sa_201 (by omega) (by omega) ?_
            refine mm_top (v := nI (p)) hpp ?_
            refine mm_istore_n (ls' := [(3, .int (nI (p))), (2, .int (nI (i))), (0, .ref 200), (1, .int (nI (m)))]) dX12_goesOn_19 rfl (by decide) rfl ?_
            refine mm_at (pc' := 20) rfl ?_
            refine mm_aload_n 2 dX12_goesOn_20 rfl rfl ?_
            refine mm_getr (b := 201) dX12_goesOn_21 rfl fk_X12_9 rfl so_200 sr_200_0 ?_
            refine mm_iload_n 3 dX12_goesOn_24 rfl rfl ?_
            refine mm_bipush (v := 7) dX12_goesOn_25 rfl ?_
            refine mm_cS2i (dz := d - 1) dX12_goesOn_27 rfl mzX12_of ml_X12_87 imX12_of (by omega) (cm_of (m) (7)) (Nat.le_of_ble_eq_true rfl) ⟨Nat.le_refl _, Nat.le_refl _⟩ ?_
            refine mm_ialdN (630 + 40 * m + 7) dX12_goesOn_30 sa_201 (by omega) (by omega) ?_
            refine mm_top (v := nI (s)) e7 ?_
            refine mm_istore (ls' := [(4, .int (nI (s))), (3, .int (nI (p))), (2, .int (nI (i))), (0, .ref 200), (1, .int (nI (m)))]) dX12_goesOn_31 (by decide) rfl ?_
            refine mm_iload 0 dX12_goesOn_33 rfl ?_
            refine mm_at (pc' := 35) rfl ?_
            refine mm_if_geN (s) (tgt := 51) dX12_goesOn_35 (by decide) (by omega) ?_
            refine mm_aload_n 3 dX12_goesOn_51 rfl rfl ?_
            refine mm_iload_n 1 dX12_goesOn_52 rfl rfl ?_
            refine mm_iload 0 dX12_goesOn_53 rfl ?_
            refine mm_iconst (v := 0) dX12_goesOn_55 rfl ?_
            refine mm_cV3i (dz := d - 1) dX12_goesOn_56 rfl mzX12_ofStep ml_X12_263 imX12_ofStep (by omega) so_200 ⟨rfl, rfl⟩ (cm_ofStep (s := s) (f := 0) (by omega) (by omega) (by decide)) (Nat.le_of_ble_eq_true rfl) ⟨Nat.le_refl _, Nat.le_refl _⟩ ?_
            refine mm_top (v := nI (o)) e0 ?_
            refine mm_istore (ls' := [(5, .int (nI (o))), (4, .int (nI (s))), (3, .int (nI (p))), (2, .int (nI (i))), (0, .ref 200), (1, .int (nI (m)))]) dX12_goesOn_59 (by decide) rfl ?_
            refine mm_iload 0 dX12_goesOn_61 rfl ?_
            refine mm_bipush (v := 7) dX12_goesOn_63 rfl ?_
            refine mm_at (pc' := 65) rfl ?_
            refine mm_icmp_geN (o) (7) (tgt := 84) dX12_goesOn_65 (by decide) (by omega) (by omega) (fun c65 => ?_) (fun c65 => ?_)
            · omega
            · refine mm_aload_n 4 dX12_goesOn_68 rfl rfl ?_
              refine mm_iload_n 5 dX12_goesOn_69 rfl rfl ?_
              refine mm_iload_n 2 dX12_goesOn_70 rfl rfl ?_
              refine mm_iload 1 dX12_goesOn_71 rfl ?_
              refine mm_iload 0 dX12_goesOn_73 rfl ?_
              refine mm_cV4i (dz := d - 1) dX12_goesOn_75 rfl mzX12_acts ml_X12_266 imX12_acts (by omega) so_200 ⟨rfl, rfl⟩ (cm_acts hW hm hm5 hp hT hs hmm hc1 hcw hwh hwh1 (by omega) (by omega)) (Nat.le_of_ble_eq_true rfl) ⟨Nat.le_refl _, Nat.le_refl _⟩ ?_
              refine mm_if_eq (tgt := 109) dX12_goesOn_78 (by decide) (fun q => absurd q (by decide)) (fun _ => ?_)
              refine mm_goto (tgt := 108) dX12_goesOn_81 (by decide) ?_
              refine mm_vret dX12_goesOn_108 rfl ⟨Nat.le_refl _, Nat.le_refl _⟩ ?_
              exact hq
        · rw [if_neg ho7] at hq
          by_cases hoe : o = 7
          · obtain ⟨e, he, e3, hX⟩ := q5 (Or.inl (by rw [e0, hoe]; rfl))
            rw [if_pos hoe, e3, vv_nI (by omega)] at hq
            refine mm_iload_n 0 dX12_goesOn_2 rfl rfl ?_
            refine mm_bipush (v := 50) dX12_goesOn_3 rfl ?_
            refine mm_icmp_geN (i) (50) (tgt := 153) dX12_goesOn_5 (by decide) (by omega) (by omega) (fun c5 => ?_) (fun c5 => ?_)
            · omega
            · refine mm_aload_n 1 dX12_goesOn_8 rfl rfl ?_
              refine mm_getr (b := 201) dX12_goesOn_9 rfl fk_X12_9 rfl so_200 sr_200_0 ?_
              refine mm_iload_n 2 dX12_goesOn_12 rfl rfl ?_
              refine mm_bipush (v := 6) dX12_goesOn_13 rfl ?_
              refine mm_cS2i (dz := d - 1) dX12_goesOn_15 rfl mzX12_of ml_X12_87 imX12_of (by omega) (cm_of (m) (6)) (Nat.le_of_ble_eq_true rfl) ⟨Nat.le_refl _, Nat.le_refl _⟩ ?_
              refine mm_ialdN (630 + 40 * m + 6) dX12_goesOn_18 sa_201 (by omega) (by omega) ?_
              refine mm_top (v := nI (p)) hpp ?_
              refine mm_istore_n (ls' := [(3, .int (nI (p))), (2, .int (nI (i))), (0, .ref 200), (1, .int (nI (m)))]) dX12_goesOn_19 rfl (by decide) rfl ?_
              refine mm_at (pc' := 20) rfl ?_
              refine mm_aload_n 2 dX12_goesOn_20 rfl rfl ?_
              refine mm_getr (b := 201) dX12_goesOn_21 rfl fk_X12_9 rfl so_200 sr_200_0 ?_
              refine mm_iload_n 3 dX12_goesOn_24 rfl rfl ?_
              refine mm_bipush (v := 7) dX12_goesOn_25 rfl ?_
              refine mm_cS2i (dz := d - 1) dX12_goesOn_27 rfl mzX12_of ml_X12_87 imX12_of (by omega) (cm_of (m) (7)) (Nat.le_of_ble_eq_true rfl) ⟨Nat.le_refl _, Nat.le_refl _⟩ ?_
              refine mm_ialdN (630 + 40 * m + 7) dX12_goesOn_30 sa_201 (by omega) (by omega) ?_
              refine mm_top (v := nI (s)) e7 ?_
              refine mm_istore (ls' := [(4, .int (nI (s))), (3, .int (nI (p))), (2, .int (nI (i))), (0, .ref 200), (1, .int (nI (m)))]) dX12_goesOn_31 (by decide) rfl ?_
              refine mm_iload 0 dX12_goesOn_33 rfl ?_
              refine mm_at (pc' := 35) rfl ?_
              refine mm_if_geN (s) (tgt := 51) dX12_goesOn_35 (by decide) (by omega) ?_
              refine mm_aload_n 3 dX12_goesOn_51 rfl rfl ?_
              refine mm_iload_n 1 dX12_goesOn_52 rfl rfl ?_
              refine mm_iload 0 dX12_goesOn_53 rfl ?_
              refine mm_iconst (v := 0) dX12_goesOn_55 rfl ?_
              refine mm_cV3i (dz := d - 1) dX12_goesOn_56 rfl mzX12_ofStep ml_X12_263 imX12_ofStep (by omega) so_200 ⟨rfl, rfl⟩ (cm_ofStep (s := s) (f := 0) (by omega) (by omega) (by decide)) (Nat.le_of_ble_eq_true rfl) ⟨Nat.le_refl _, Nat.le_refl _⟩ ?_
              refine mm_top (v := nI (o)) e0 ?_
              refine mm_istore (ls' := [(5, .int (nI (o))), (4, .int (nI (s))), (3, .int (nI (p))), (2, .int (nI (i))), (0, .ref 200), (1, .int (nI (m)))]) dX12_goesOn_59 (by decide) rfl ?_
              refine mm_iload 0 dX12_goesOn_61 rfl ?_
              refine mm_bipush (v := 7) dX12_goesOn_63 rfl ?_
              refine mm_at (pc' := 65) rfl ?_
              refine mm_icmp_geN (o) (7) (tgt := 84) dX12_goesOn_65 (by decide) (by omega) (by omega) (fun c65 => ?_) (fun c65 => ?_)
              · refine mm_iload 0 dX12_goesOn_84 rfl ?_
                refine mm_bipush (v := 7) dX12_goesOn_86 rfl ?_
                refine mm_icmp_neN (o) (7) (tgt := 109) dX12_goesOn_88 (by decide) (by omega) (by omega) (fun c88 => ?_) (fun c88 => ?_)
                · omega
                · refine mm_aload_n 4 dX12_goesOn_91 rfl rfl ?_
                  refine mm_iload_n 5 dX12_goesOn_92 rfl rfl ?_
                  refine mm_iload_n 2 dX12_goesOn_93 rfl rfl ?_
                  refine mm_aload_n 4 dX12_goesOn_94 rfl rfl ?_
                  refine mm_iload_n 2 dX12_goesOn_95 rfl rfl ?_
                  refine mm_iload 1 dX12_goesOn_96 rfl ?_
                  refine mm_iconst (v := 3) dX12_goesOn_98 rfl ?_
                  refine mm_at (pc' := 99) rfl ?_
                  refine mm_cV3i (dz := d - 1) dX12_goesOn_99 rfl mzX12_ofStep ml_X12_263 imX12_ofStep (by omega) so_200 ⟨rfl, rfl⟩ (cm_ofStep (s := s) (f := 3) (by omega) (by omega) (by decide)) (Nat.le_of_ble_eq_true rfl) ⟨Nat.le_refl _, Nat.le_refl _⟩ ?_
                  refine mm_top (v := nI (e)) e3 ?_
                  refine mm_cV3i (dz := d - 1) dX12_goesOn_102 rfl mzX12_valueOf ml_X12_270 imX12_valueOf (by omega) so_200 ⟨rfl, rfl⟩ (cm_valueOf hW h2 h3 hla hlb hmm hc1 hcl hp he hX (by omega)) (Nat.le_of_ble_eq_true rfl) ⟨Nat.le_refl _, Nat.le_refl _⟩ ?_
                  refine mm_if_ne (tgt := 109) dX12_goesOn_105 (by decide) (fun c105 => ?_) (fun c105 => ?_)
                  · refine mm_aload_n 4 dX12_goesOn_109 rfl rfl ?_
                    refine mm_getr (b := 201) dX12_goesOn_110 rfl fk_X12_9 rfl so_200 sr_200_0 ?_
                    refine mm_iload_n 5 dX12_goesOn_113 rfl rfl ?_
                    refine mm_bipush (v := 7) dX12_goesOn_114 rfl ?_
                    refine mm_cS2i (dz := d - 1) dX12_goesOn_116 rfl mzX12_of ml_X12_87 imX12_of (by omega) (cm_of (m) (7)) (Nat.le_of_ble_eq_true rfl) ⟨Nat.le_refl _, Nat.le_refl _⟩ ?_
                    refine mm_iload 0 dX12_goesOn_119 rfl ?_
                    refine mm_bipush (v := 8) dX12_goesOn_121 rfl ?_
                    refine mm_icmp_geN (o) (8) (tgt := 136) dX12_goesOn_123 (by decide) (by omega) (by omega) (fun c123 => ?_) (fun c123 => ?_)
                    · omega
                    · refine mm_aload_n 4 dX12_goesOn_126 rfl rfl ?_
                      refine mm_iload_n 2 dX12_goesOn_127 rfl rfl ?_
                      refine mm_iload 1 dX12_goesOn_128 rfl ?_
                      refine mm_cV2i (dz := d - 1) dX12_goesOn_130 rfl mzX12_behind ml_X12_273 imX12_behind (by omega) so_200 ⟨rfl, rfl⟩ (cm_behindN (N := I 201) (fun x hx => by first | rfl | exact vo_m_n (by decide)) hp hT (by omega) (by omega)) (Nat.le_of_ble_eq_true rfl) ⟨Nat.le_refl _, Nat.le_refl _⟩ ?_
                      refine mm_goto (tgt := 146) dX12_goesOn_133 (by decide) ?_
                      refine mm_iastN (630 + 40 * m + 7) dX12_goesOn_146 sa_201 (by omega) (by omega) ?_
                      refine mm_iincN (ls' := [(2, .int (nI (i + 1))), (5, .int (nI (o))), (4, .int (nI (s))), (3, .int (nI (p))), (0, .ref 200), (1, .int (nI (m)))]) 3 (i) 1 dX12_goesOn_147 rfl rfl (by decide) rfl ?_
                      refine mm_goto (tgt := 2) dX12_goesOn_150 (by decide) ?_
                      rw [if_neg c105] at hq
                      exact mm_sub [0, 4, 5] rfl (ih (i + 1) _ (by omega) (mo_G_eq hG (fun x hx => by rw [mm_up_ni (by omega)]; exact vo_m_n (by decide))) (by rw [mm_up_at]; exact hbi) hq)
                  · refine mm_vret dX12_goesOn_108 rfl ⟨Nat.le_refl _, Nat.le_refl _⟩ ?_
                    rw [if_pos c105] at hq
                    exact hq
              · omega
          · rw [if_neg hoe] at hq
            have h8 : 8 ≤ sf (I 201) p s 0 := by rw [e0]; exact nI_le (show 8 ≤ o by omega) (by omega)
            by_cases hor : o = 10
            · have hin : mm_Ci g zX12_inner (d - 1) [.ref 200, .int (nI m), .int (nI p), .int (nI s), .int (nI o)] sh_S I (op_in I w m p s c).1 (op_in I w m p s c).2 := by
                subst hor
                exact cm_innerR hp hT hs hmm e0 (by omega)
              refine mm_iload_n 0 dX12_goesOn_2 rfl rfl ?_
              refine mm_bipush (v := 50) dX12_goesOn_3 rfl ?_
              refine mm_icmp_geN (i) (50) (tgt := 153) dX12_goesOn_5 (by decide) (by omega) (by omega) (fun c5 => ?_) (fun c5 => ?_)
              · omega
              · refine mm_aload_n 1 dX12_goesOn_8 rfl rfl ?_
                refine mm_getr (b := 201) dX12_goesOn_9 rfl fk_X12_9 rfl so_200 sr_200_0 ?_
                refine mm_iload_n 2 dX12_goesOn_12 rfl rfl ?_
                refine mm_bipush (v := 6) dX12_goesOn_13 rfl ?_
                refine mm_cS2i (dz := d - 1) dX12_goesOn_15 rfl mzX12_of ml_X12_87 imX12_of (by omega) (cm_of (m) (6)) (Nat.le_of_ble_eq_true rfl) ⟨Nat.le_refl _, Nat.le_refl _⟩ ?_
                refine mm_ialdN (630 + 40 * m + 6) dX12_goesOn_18 sa_201 (by omega) (by omega) ?_
                refine mm_top (v := nI (p)) hpp ?_
                refine mm_istore_n (ls' := [(3, .int (nI (p))), (2, .int (nI (i))), (0, .ref 200), (1, .int (nI (m)))]) dX12_goesOn_19 rfl (by decide) rfl ?_
                refine mm_at (pc' := 20) rfl ?_
                refine mm_aload_n 2 dX12_goesOn_20 rfl rfl ?_
                refine mm_getr (b := 201) dX12_goesOn_21 rfl fk_X12_9 rfl so_200 sr_200_0 ?_
                refine mm_iload_n 3 dX12_goesOn_24 rfl rfl ?_
                refine mm_bipush (v := 7) dX12_goesOn_25 rfl ?_
                refine mm_cS2i (dz := d - 1) dX12_goesOn_27 rfl mzX12_of ml_X12_87 imX12_of (by omega) (cm_of (m) (7)) (Nat.le_of_ble_eq_true rfl) ⟨Nat.le_refl _, Nat.le_refl _⟩ ?_
                refine mm_ialdN (630 + 40 * m + 7) dX12_goesOn_30 sa_201 (by omega) (by omega) ?_
                refine mm_top (v := nI (s)) e7 ?_
                refine mm_istore (ls' := [(4, .int (nI (s))), (3, .int (nI (p))), (2, .int (nI (i))), (0, .ref 200), (1, .int (nI (m)))]) dX12_goesOn_31 (by decide) rfl ?_
                refine mm_iload 0 dX12_goesOn_33 rfl ?_
                refine mm_at (pc' := 35) rfl ?_
                refine mm_if_geN (s) (tgt := 51) dX12_goesOn_35 (by decide) (by omega) ?_
                refine mm_aload_n 3 dX12_goesOn_51 rfl rfl ?_
                refine mm_iload_n 1 dX12_goesOn_52 rfl rfl ?_
                refine mm_iload 0 dX12_goesOn_53 rfl ?_
                refine mm_iconst (v := 0) dX12_goesOn_55 rfl ?_
                refine mm_cV3i (dz := d - 1) dX12_goesOn_56 rfl mzX12_ofStep ml_X12_263 imX12_ofStep (by omega) so_200 ⟨rfl, rfl⟩ (cm_ofStep (s := s) (f := 0) (by omega) (by omega) (by decide)) (Nat.le_of_ble_eq_true rfl) ⟨Nat.le_refl _, Nat.le_refl _⟩ ?_
                refine mm_top (v := nI (o)) e0 ?_
                refine mm_istore (ls' := [(5, .int (nI (o))), (4, .int (nI (s))), (3, .int (nI (p))), (2, .int (nI (i))), (0, .ref 200), (1, .int (nI (m)))]) dX12_goesOn_59 (by decide) rfl ?_
                refine mm_iload 0 dX12_goesOn_61 rfl ?_
                refine mm_bipush (v := 7) dX12_goesOn_63 rfl ?_
                refine mm_at (pc' := 65) rfl ?_
                refine mm_icmp_geN (o) (7) (tgt := 84) dX12_goesOn_65 (by decide) (by omega) (by omega) (fun c65 => ?_) (fun c65 => ?_)
                · refine mm_iload 0 dX12_goesOn_84 rfl ?_
                  refine mm_bipush (v := 7) dX12_goesOn_86 rfl ?_
                  refine mm_icmp_neN (o) (7) (tgt := 109) dX12_goesOn_88 (by decide) (by omega) (by omega) (fun c88 => ?_) (fun c88 => ?_)
                  · refine mm_aload_n 4 dX12_goesOn_109 rfl rfl ?_
                    refine mm_getr (b := 201) dX12_goesOn_110 rfl fk_X12_9 rfl so_200 sr_200_0 ?_
                    refine mm_iload_n 5 dX12_goesOn_113 rfl rfl ?_
                    refine mm_bipush (v := 7) dX12_goesOn_114 rfl ?_
                    refine mm_cS2i (dz := d - 1) dX12_goesOn_116 rfl mzX12_of ml_X12_87 imX12_of (by omega) (cm_of (m) (7)) (Nat.le_of_ble_eq_true rfl) ⟨Nat.le_refl _, Nat.le_refl _⟩ ?_
                    refine mm_iload 0 dX12_goesOn_119 rfl ?_
                    refine mm_bipush (v := 8) dX12_goesOn_121 rfl ?_
                    refine mm_icmp_geN (o) (8) (tgt := 136) dX12_goesOn_123 (by decide) (by omega) (by omega) (fun c123 => ?_) (fun c123 => ?_)
                    · refine mm_aload_n 4 dX12_goesOn_136 rfl rfl ?_
                      refine mm_iload_n 5 dX12_goesOn_137 rfl rfl ?_
                      refine mm_iload_n 2 dX12_goesOn_138 rfl rfl ?_
                      refine mm_iload 1 dX12_goesOn_139 rfl ?_
                      refine mm_iload 0 dX12_goesOn_141 rfl ?_
                      refine mm_cV4i (dz := d - 1) dX12_goesOn_143 rfl mzX12_inner ml_X12_276 imX12_inner (by omega) so_200 ⟨rfl, rfl⟩ hin (Nat.le_of_ble_eq_true rfl) ⟨Nat.le_refl _, Nat.le_refl _⟩ ?_
                      refine mm_iastN (630 + 40 * m + 7) dX12_goesOn_146 sa_201 (by omega) (by omega) ?_
                      refine mm_iincN (ls' := [(2, .int (nI (i + 1))), (5, .int (nI (o))), (4, .int (nI (s))), (3, .int (nI (p))), (0, .ref 200), (1, .int (nI (m)))]) 3 (i) 1 dX12_goesOn_147 rfl rfl (by decide) rfl ?_
                      refine mm_at (pc' := 150) rfl ?_
                      refine mm_goto (tgt := 2) dX12_goesOn_150 (by decide) ?_
                      exact mm_sub [0, 4, 5] rfl (ih (i + 1) _ (by omega) (mo_G_eq hG (fun x hx => by rw [mm_up_ni (by omega)]; exact op_in_ne (by omega) hx)) (by rw [mm_up_at]; exact op_in_in hT hs h8) hq)
                    · omega
                  · omega
                · omega
            · obtain ⟨e, he, e3, hX⟩ := q5 (Or.inr (by rw [e0]; rcases (show o = 8 ∨ o = 9 by omega) with q | q; left; rw [q]; rfl; right; rw [q]; rfl))
              have hin : mm_Ci g zX12_inner (d - 1) [.ref 200, .int (nI m), .int (nI p), .int (nI s), .int (nI o)] sh_S I (op_in I w m p s c).1 (op_in I w m p s c).2 := cm_innerE hW h2 h3 hla hlb hmm hc1 hcl hp hT hs (by omega) e0 he e3 hX (by omega)
              refine mm_iload_n 0 dX12_goesOn_2 rfl rfl ?_
              refine mm_bipush (v := 50) dX12_goesOn_3 rfl ?_
              refine mm_icmp_geN (i) (50) (tgt := 153) dX12_goesOn_5 (by decide) (by omega) (by omega) (fun c5 => ?_) (fun c5 => ?_)
              · omega
              · refine mm_aload_n 1 dX12_goesOn_8 rfl rfl ?_
                refine mm_getr (b := 201) dX12_goesOn_9 rfl fk_X12_9 rfl so_200 sr_200_0 ?_
                refine mm_iload_n 2 dX12_goesOn_12 rfl rfl ?_
                refine mm_bipush (v := 6) dX12_goesOn_13 rfl ?_
                refine mm_cS2i (dz := d - 1) dX12_goesOn_15 rfl mzX12_of ml_X12_87 imX12_of (by omega) (cm_of (m) (6)) (Nat.le_of_ble_eq_true rfl) ⟨Nat.le_refl _, Nat.le_refl _⟩ ?_
                refine mm_ialdN (630 + 40 * m + 6) dX12_goesOn_18 sa_201 (by omega) (by omega) ?_
                refine mm_top (v := nI (p)) hpp ?_
                refine mm_istore_n (ls' := [(3, .int (nI (p))), (2, .int (nI (i))), (0, .ref 200), (1, .int (nI (m)))]) dX12_goesOn_19 rfl (by decide) rfl ?_
                refine mm_at (pc' := 20) rfl ?_
                refine mm_aload_n 2 dX12_goesOn_20 rfl rfl ?_
                refine mm_getr (b := 201) dX12_goesOn_21 rfl fk_X12_9 rfl so_200 sr_200_0 ?_
                refine mm_iload_n 3 dX12_goesOn_24 rfl rfl ?_
                refine mm_bipush (v := 7) dX12_goesOn_25 rfl ?_
                refine mm_cS2i (dz := d - 1) dX12_goesOn_27 rfl mzX12_of ml_X12_87 imX12_of (by omega) (cm_of (m) (7)) (Nat.le_of_ble_eq_true rfl) ⟨Nat.le_refl _, Nat.le_refl _⟩ ?_
                refine mm_ialdN (630 + 40 * m + 7) dX12_goesOn_30 sa_201 (by omega) (by omega) ?_
                refine mm_top (v := nI (s)) e7 ?_
                refine mm_istore (ls' := [(4, .int (nI (s))), (3, .int (nI (p))), (2, .int (nI (i))), (0, .ref 200), (1, .int (nI (m)))]) dX12_goesOn_31 (by decide) rfl ?_
                refine mm_iload 0 dX12_goesOn_33 rfl ?_
                refine mm_at (pc' := 35) rfl ?_
                refine mm_if_geN (s) (tgt := 51) dX12_goesOn_35 (by decide) (by omega) ?_
                refine mm_aload_n 3 dX12_goesOn_51 rfl rfl ?_
                refine mm_iload_n 1 dX12_goesOn_52 rfl rfl ?_
                refine mm_iload 0 dX12_goesOn_53 rfl ?_
                refine mm_iconst (v := 0) dX12_goesOn_55 rfl ?_
                refine mm_cV3i (dz := d - 1) dX12_goesOn_56 rfl mzX12_ofStep ml_X12_263 imX12_ofStep (by omega) so_200 ⟨rfl, rfl⟩ (cm_ofStep (s := s) (f := 0) (by omega) (by omega) (by decide)) (Nat.le_of_ble_eq_true rfl) ⟨Nat.le_refl _, Nat.le_refl _⟩ ?_
                refine mm_top (v := nI (o)) e0 ?_
                refine mm_istore (ls' := [(5, .int (nI (o))), (4, .int (nI (s))), (3, .int (nI (p))), (2, .int (nI (i))), (0, .ref 200), (1, .int (nI (m)))]) dX12_goesOn_59 (by decide) rfl ?_
                refine mm_iload 0 dX12_goesOn_61 rfl ?_
                refine mm_bipush (v := 7) dX12_goesOn_63 rfl ?_
                refine mm_at (pc' := 65) rfl ?_
                refine mm_icmp_geN (o) (7) (tgt := 84) dX12_goesOn_65 (by decide) (by omega) (by omega) (fun c65 => ?_) (fun c65 => ?_)
                · refine mm_iload 0 dX12_goesOn_84 rfl ?_
                  refine mm_bipush (v := 7) dX12_goesOn_86 rfl ?_
                  refine mm_icmp_neN (o) (7) (tgt := 109) dX12_goesOn_88 (by decide) (by omega) (by omega) (fun c88 => ?_) (fun c88 => ?_)
                  · refine mm_aload_n 4 dX12_goesOn_109 rfl rfl ?_
                    refine mm_getr (b := 201) dX12_goesOn_110 rfl fk_X12_9 rfl so_200 sr_200_0 ?_
                    refine mm_iload_n 5 dX12_goesOn_113 rfl rfl ?_
                    refine mm_bipush (v := 7) dX12_goesOn_114 rfl ?_
                    refine mm_cS2i (dz := d - 1) dX12_goesOn_116 rfl mzX12_of ml_X12_87 imX12_of (by omega) (cm_of (m) (7)) (Nat.le_of_ble_eq_true rfl) ⟨Nat.le_refl _, Nat.le_refl _⟩ ?_
                    refine mm_iload 0 dX12_goesOn_119 rfl ?_
                    refine mm_bipush (v := 8) dX12_goesOn_121 rfl ?_
                    refine mm_icmp_geN (o) (8) (tgt := 136) dX12_goesOn_123 (by decide) (by omega) (by omega) (fun c123 => ?_) (fun c123 => ?_)
                    · refine mm_aload_n 4 dX12_goesOn_136 rfl rfl ?_
                      refine mm_iload_n 5 dX12_goesOn_137 rfl rfl ?_
                      refine mm_iload_n 2 dX12_goesOn_138 rfl rfl ?_
                      refine mm_iload 1 dX12_goesOn_139 rfl ?_
                      refine mm_iload 0 dX12_goesOn_141 rfl ?_
                      refine mm_cV4i (dz := d - 1) dX12_goesOn_143 rfl mzX12_inner ml_X12_276 imX12_inner (by omega) so_200 ⟨rfl, rfl⟩ hin (Nat.le_of_ble_eq_true rfl) ⟨Nat.le_refl _, Nat.le_refl _⟩ ?_
                      refine mm_iastN (630 + 40 * m + 7) dX12_goesOn_146 sa_201 (by omega) (by omega) ?_
                      refine mm_iincN (ls' := [(2, .int (nI (i + 1))), (5, .int (nI (o))), (4, .int (nI (s))), (3, .int (nI (p))), (0, .ref 200), (1, .int (nI (m)))]) 3 (i) 1 dX12_goesOn_147 rfl rfl (by decide) rfl ?_
                      refine mm_at (pc' := 150) rfl ?_
                      refine mm_goto (tgt := 2) dX12_goesOn_150 (by decide) ?_
                      exact mm_sub [0, 4, 5] rfl (ih (i + 1) _ (by omega) (mo_G_eq hG (fun x hx => by rw [mm_up_ni (by omega)]; exact op_in_ne (by omega) hx)) (by rw [mm_up_at]; exact op_in_in hT hs h8) hq)
                    · omega
                  · omega
                · omega
set_option maxRecDepth 100000 in
set_option maxHeartbeats 600000 in
theorem cm_goesOn {g : mm_G} {I : mm_I} {d w h n la lb m c p k wh : Nat} (hG : mo_G (I 201) w h n la lb m c p k wh) (hat : mo_st k (I 201 (630 + 40 * m + 7))) (hd : 5 ≤ d) : mm_Cv g zX12_goesOn d [.ref 200, .int (nI m)] sh_S I (op_go w h n m c wh p 50 I) := by
  refine mm_Cv_of (fun Q hq => ?_)
  refine mm_begin (ls := [(0, .ref 200), (1, .int (nI (m)))]) (Nat.le_of_ble_eq_true rfl) rfl rfl ?_
  refine mm_iconst (v := 0) dX12_goesOn_0 rfl ?_
  refine mm_istore_n (ls' := [(2, .int (0)), (0, .ref 200), (1, .int (nI (m)))]) dX12_goesOn_1 rfl (by decide) rfl ?_
  exact mm_sub [0, 1, 2] rfl (lm_go hd 50 0 I rfl hG hat hq)
