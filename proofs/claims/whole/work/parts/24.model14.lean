/-! THE REFERENCE: power comes -/
def pa_m (J : mm_I) : Nat → mm_I
  | 0 => J
  | m + 1 => if J 201 (630 + 40 * m + 3) = 100 then pa_m J m else mm_up (pa_m J m) 201 (630 + 40 * m + 2) (sp_min 100 (J 201 (630 + 40 * m + 2) + 3))
theorem pa_ne {J : mm_I} {a x : Nat} : ∀ m, (a = 201 → ∀ k, k < m → x ≠ 630 + 40 * k + 2) → pa_m J m a x = J a x := by
  intro m
  induction m with
  | zero => intro _; rfl
  | succ m ih =>
    intro h
    have e := ih (fun q k hk => h q k (by omega))
    unfold pa_m
    by_cases h3 : J 201 (630 + 40 * m + 3) = 100
    · rw [if_pos h3]; exact e
    · rw [if_neg h3]
      by_cases ha : a = 201
      · rw [ha] at h e ⊢
        rw [mm_up_ni (h rfl m (by omega))]; exact e
      · rw [mm_up_ne ha]; exact e
def op_pa (J : mm_I) (n : Nat) : mm_I := if sp_light (J 201) then pa_m (mm_up J 201 4 (sp_min 9999 (J 201 4 + J 201 5))) n else J
/-- the load that harms least of those that are on -/
def pw_l (N : Nat → Int32) (D : Nat) : Nat → Int32
  | 0 => -1
  | i + 1 => if ((nI D >>> (nI i &&& 31)) &&& 1 = 0) ∧ (pw_l N D i < 0 ∨ N (598 + i) < N (598 + vv (pw_l N D i))) then nI i else pw_l N D i
def pw_d (N : Nat → Int32) (l : Nat) : Nat → Nat
  | 0 => 0
  | k + 1 => if N 4 < sp_pb N (nI (pw_d N l k)) l then pw_d N l k ||| 2 ^ vv (pw_l N (pw_d N l k) l) else pw_d N l k
set_option maxRecDepth 100000 in
theorem pw_b : ∀ D, D < 256 → ∀ i, i < 8 → (nI D >>> (nI i &&& 31)) &&& 1 = if D.testBit i = true then 1 else 0 := by decide +kernel
theorem pw_o {D i w : Nat} (hD : D < 256) (hi : i < 8) (hw : w < 8) : (nI (D ||| 2 ^ w) >>> (nI i &&& 31)) &&& 1 = if i = w then 1 else (nI D >>> (nI i &&& 31)) &&& 1 := by
  have h2 : D ||| 2 ^ w < 256 := Nat.or_lt_two_pow (n := 8) hD (Nat.pow_lt_pow_right (by decide) hw)
  rw [pw_b _ h2 i hi, pw_b _ hD i hi, Nat.testBit_or, Nat.testBit_two_pow]
  by_cases e : i = w
  · subst e; simp
  · have e2 : ¬ w = i := fun q => e q.symm
    simp [e, e2]
theorem pw_lt {D w : Nat} (hD : D < 256) (hw : w < 8) : D ||| 2 ^ w < 256 := Nat.or_lt_two_pow (n := 8) hD (Nat.pow_lt_pow_right (by decide) hw)
/-- how many of the first k bits are set -/
def pw_c (D : Nat) : Nat → Nat
  | 0 => 0
  | i + 1 => pw_c D i + (if (nI D >>> (nI i &&& 31)) &&& 1 = 0 then 0 else 1)
theorem pw_c_le (D : Nat) : ∀ k, pw_c D k ≤ k := by
  intro k
  induction k with
  | zero => exact Nat.le_refl _
  | succ k ih => unfold pw_c; split <;> omega
theorem pw_c_o {D w : Nat} (hD : D < 256) (hw : w < 8) (hb : (nI D >>> (nI w &&& 31)) &&& 1 = 0) : ∀ k, k ≤ 8 → pw_c (D ||| 2 ^ w) k = pw_c D k + (if w < k then 1 else 0) := by
  intro k
  induction k with
  | zero => intro _; rfl
  | succ k ih =>
    intro hk
    unfold pw_c
    rw [ih (by omega), pw_o hD (by omega) hw]
    by_cases e : k = w
    · subst e; rw [if_pos rfl, hb, if_neg (show ¬ (1 : Int32) = 0 by decide), if_neg (show ¬ k < k by omega), if_pos rfl, if_pos (show k < k + 1 by omega)]
    · rw [if_neg e]
      by_cases e2 : w < k
      · rw [if_pos e2, if_pos (show w < k + 1 by omega)]; omega
      · rw [if_neg e2, if_neg (show ¬ w < k + 1 by omega)]; omega
/-- if all are off, nothing is taken -/
theorem pw_full {N : Nat → Int32} {D : Nat} : ∀ k, pw_c D k = k → sp_pb N (nI D) k = 0 := by
  intro k
  induction k with
  | zero => intro _; rfl
  | succ k ih =>
    intro h
    have h1 := pw_c_le D k
    unfold pw_c at h
    unfold sp_pb
    by_cases c : (nI D >>> (nI k &&& 31)) &&& 1 = 0
    · rw [if_pos c] at h; omega
    · rw [if_neg c] at h
      rw [ih (by omega), if_neg c]; rfl
theorem pw_l_in {N : Nat → Int32} {D : Nat} : ∀ l, pw_l N D l = -1 ∧ (∀ i, i < l → ¬ (nI D >>> (nI i &&& 31)) &&& 1 = 0) ∨ ∃ w, w < l ∧ pw_l N D l = nI w ∧ (nI D >>> (nI w &&& 31)) &&& 1 = 0 := by
  intro l
  induction l with
  | zero => left; exact ⟨rfl, fun i hi => absurd hi (Nat.not_lt_zero _)⟩
  | succ l ih =>
    unfold pw_l
    by_cases c : ((nI D >>> (nI l &&& 31)) &&& 1 = 0) ∧ (pw_l N D l < 0 ∨ N (598 + l) < N (598 + vv (pw_l N D l)))
    · rw [if_pos c]; right; exact ⟨l, by omega, rfl, c.1⟩
    · rw [if_neg c]
      rcases ih with ⟨e, h⟩ | ⟨w, h1, h2, h3⟩
      · left
        refine ⟨e, fun i hi => ?_⟩
        by_cases q : i = l
        · subst q; intro q2; exact c ⟨q2, Or.inl (by rw [e]; decide)⟩
        · exact h i (by omega)
      · right; exact ⟨w, by omega, h2, h3⟩
theorem pw_full2 {D : Nat} : ∀ l, (∀ i, i < l → ¬ (nI D >>> (nI i &&& 31)) &&& 1 = 0) → pw_c D l = l := by
  intro l
  induction l with
  | zero => intro _; rfl
  | succ l ih => intro h; unfold pw_c; rw [ih (fun i hi => h i (by omega)), if_neg (h l (by omega))]
theorem pw_pb {N : Nat → Int32} {D w : Nat} (hD : D < 256) (hw : w < 8) (hb : (nI D >>> (nI w &&& 31)) &&& 1 = 0) : ∀ k, k ≤ 8 → sp_pb N (nI (D ||| 2 ^ w)) k = if w < k then sp_pb N (nI D) k - N (590 + w) else sp_pb N (nI D) k := by
  intro k
  induction k with
  | zero => intro _; rfl
  | succ k ih =>
    intro hk
    unfold sp_pb
    rw [ih (by omega), pw_o hD (by omega) hw]
    by_cases e : k = w
    · subst e
      rw [if_pos rfl, hb, if_neg (show ¬ (1 : Int32) = 0 by decide), if_neg (show ¬ k < k by omega), if_pos rfl, if_pos (show k < k + 1 by omega), Int32.add_zero, Int32.add_sub_cancel]
    · rw [if_neg e]
      by_cases e2 : w < k
      · rw [if_pos e2, if_pos (show w < k + 1 by omega), Int32.sub_eq_add_neg, Int32.sub_eq_add_neg, Int32.add_assoc, Int32.add_assoc, Int32.add_comm (-N (590 + w))]
      · rw [if_neg e2, if_neg (show ¬ w < k + 1 by omega)]
theorem pw_hb {N : Nat → Int32} {D w : Nat} (hD : D < 256) (hw : w < 8) (hb : (nI D >>> (nI w &&& 31)) &&& 1 = 0) : ∀ k, k ≤ 8 → sp_hb N (nI (D ||| 2 ^ w)) k = if w < k then sp_hb N (nI D) k + N (598 + w) else sp_hb N (nI D) k := by
  intro k
  induction k with
  | zero => intro _; rfl
  | succ k ih =>
    intro hk
    unfold sp_hb
    rw [ih (by omega), pw_o hD (by omega) hw]
    by_cases e : k = w
    · subst e
      rw [if_pos rfl, hb, if_neg (show ¬ k < k by omega), if_pos (show k < k + 1 by omega), Int32.one_mul, Int32.zero_mul, Int32.add_zero]
    · rw [if_neg e]
      by_cases e2 : w < k
      · rw [if_pos e2, if_pos (show w < k + 1 by omega), Int32.add_assoc, Int32.add_assoc, Int32.add_comm (N (598 + w))]
      · rw [if_neg e2, if_neg (show ¬ w < k + 1 by omega)]
theorem pw_d_s {N : Nat → Int32} {l k : Nat} (h : ¬ N 4 < sp_pb N (nI (pw_d N l k)) l) {j : Nat} (hj : k ≤ j) : pw_d N l j = pw_d N l k := by
  induction j with
  | zero => rw [show k = 0 by omega]
  | succ j ih =>
    by_cases e : k = j + 1
    · rw [e]
    · have e2 := ih (by omega)
      show (if N 4 < sp_pb N (nI (pw_d N l j)) l then _ else pw_d N l j) = _
      rw [e2, if_neg h]
def op_pw (J : mm_I) (D l : Nat) : mm_I := mm_up (mm_up (mm_up J 201 9 (nI D)) 201 8 (J 201 8 + sp_hb (J 201) (nI D) l)) 201 4 (J 201 4 - sp_pb (J 201) (nI D) l)
def op_pc (J : mm_I) (n l : Nat) : mm_I := op_pw (op_pa J n) (pw_d (op_pa J n 201) l l) l
theorem cm_isBrokenN {g : mm_G} {I : mm_I} {d m : Nat} {x : Int32} (hm5 : m < 5) (h : I 201 (630 + 40 * m + 3) = x) (hd : 1 ≤ d) : mm_Ci g zX12_isBroken d [.ref 200, .int (nI m)] sh_S I (if x = 100 then 1 else 0) I := by subst h; exact cm_isBroken hm5 hd
theorem pw_z {i : Nat} (h : i < 8) : (nI 0 >>> (nI i &&& 31)) &&& 1 = 0 := by rw [pw_b 0 (by decide) i h, Nat.zero_testBit]; rfl
theorem pw_hb0 {N : Nat → Int32} : ∀ l, l ≤ 8 → sp_hb N (nI 0) l = 0 := by
  intro l
  induction l with
  | zero => intro _; rfl
  | succ l ih => intro h; unfold sp_hb; rw [ih (by omega), pw_z (by omega), Int32.zero_mul]; rfl
theorem pw_c0 : ∀ l, l ≤ 8 → pw_c 0 l = 0 := by
  intro l
  induction l with
  | zero => intro _; rfl
  | succ l ih => intro h; unfold pw_c; rw [ih (by omega), if_pos (pw_z (by omega))]
def pw_m (I : mm_I) (D l : Nat) : mm_I := mm_up (mm_up I 201 9 (nI D)) 201 8 (I 201 8 + sp_hb (I 201) (nI D) l)
theorem pw_m0 {I : mm_I} {l : Nat} (hl : l ≤ 8) : pw_m I 0 l = mm_up I 201 9 0 := by
  unfold pw_m
  rw [pw_hb0 l hl, Int32.add_zero]
  funext a x
  by_cases e : a = 201
  · subst e
    by_cases e2 : x = 8
    · subst e2; rw [mm_up_at, mm_up_ni (by decide)]
    · rw [mm_up_ni e2]; rfl
  · rw [mm_up_ne e]; rfl
theorem pw_m_n {I : mm_I} {D l a x : Nat} (h : a ≠ 201 ∨ x ≠ 8 ∧ x ≠ 9) : pw_m I D l a x = I a x := by
  unfold pw_m
  by_cases e : a = 201
  · rw [e]; rw [mm_up_ni (by omega), mm_up_ni (by omega)]
  · rw [mm_up_ne e, mm_up_ne e]
theorem pw_m_9 {I : mm_I} {D l : Nat} : pw_m I D l 201 9 = nI D := by unfold pw_m; rw [mm_up_ni (by decide), mm_up_at]
theorem pw_m_8 {I : mm_I} {D l : Nat} : pw_m I D l 201 8 = I 201 8 + sp_hb (I 201) (nI D) l := by unfold pw_m; rw [mm_up_at]
theorem pw_m_s {I : mm_I} {D E l : Nat} {x : Int32} (hx : x = I 201 8 + sp_hb (I 201) (nI E) l) : mm_up (mm_up (pw_m I D l) 201 9 (nI E)) 201 8 x = pw_m I E l := by
  subst hx
  funext a y
  by_cases e : a = 201
  · subst e
    by_cases e2 : y = 8
    · subst e2; rw [mm_up_at, pw_m_8]
    · rw [mm_up_ni e2]
      by_cases e3 : y = 9
      · subst e3; rw [mm_up_at, pw_m_9]
      · rw [mm_up_ni e3, pw_m_n (Or.inr ⟨e2, e3⟩), pw_m_n (Or.inr ⟨e2, e3⟩)]
  · rw [mm_up_ne e, mm_up_ne e, pw_m_n (Or.inl e), pw_m_n (Or.inl e)]
set_option maxRecDepth 100000 in
theorem pw_or : ∀ D, D < 256 → ∀ w, w < 8 → nI D ||| ((1 : Int32) <<< (nI w &&& 31)) = nI (D ||| 2 ^ w) := by decide +kernel
set_option maxRecDepth 100000 in
set_option maxHeartbeats 600000 in
theorem lm_pa {g : mm_G} {I : mm_I} {d : Nat} {Q : Option Value → mm_Sh → mm_I → Prop} {n : Nat} (hm : I 201 16 = nI n) (hm5 : n ≤ 5) (hd : 2 ≤ d) (hx : mm_Ex g zX12_powerComes d (0, 0) (0, 0) sh_S (pa_m I n) 86 [(1, .int (nI n)), (0, .ref 200)] [] Q) : ∀ (m : Nat) (i : Nat), (i ≤ n) → n - i < m → mm_Ex g zX12_powerComes d (0, 0) (0, 0) sh_S (pa_m I i) 34 [(1, .int (nI (i))), (0, .ref 200)] [] Q := by
  intro m
  induction m with
  | zero => intro i hi hmz; exact absurd hmz (Nat.not_lt_zero _)
  | succ m ih =>
    intro i hi hmz
    refine mm_iload_n 0 dX12_powerComes_34 rfl rfl ?_
    refine mm_aload_n 1 dX12_powerComes_35 rfl rfl ?_
    refine mm_getr (b := 201) dX12_powerComes_36 rfl fk_X12_9 rfl so_200 sr_200_0 ?_
    refine mm_bipush (v := 16) dX12_powerComes_39 rfl ?_
    refine mm_ialdN (16) dX12_powerComes_41 sa_201 (by omega) (by omega) ?_
    refine mm_top (v := nI (n)) ((pa_ne i (fun _ k _ => by omega)).trans hm) ?_
    refine mm_icmp_geN (i) (n) (tgt := 86) dX12_powerComes_42 (by decide) (by omega) (by omega) (fun c42 => ?_) (fun c42 => ?_)
    · have e : i = n := by omega
      subst e
      exact hx
    · refine mm_aload_n 1 dX12_powerComes_45 rfl rfl ?_
      refine mm_iload_n 0 dX12_powerComes_46 rfl rfl ?_
      refine mm_cV1i (dz := d - 1) dX12_powerComes_47 rfl mzX12_isBroken ml_X12_135 imX12_isBroken (by omega) so_200 ⟨rfl, rfl⟩ (cm_isBrokenN (by omega) (pa_ne i (fun _ k _ => by omega)) (by omega)) (Nat.le_of_ble_eq_true rfl) ⟨Nat.le_refl _, Nat.le_refl _⟩ ?_
      refine mm_if_neB (tgt := 80) dX12_powerComes_50 (by decide) (fun c50 => ?_) (fun c50 => ?_)
      · refine mm_iincN (ls' := [(1, .int (nI (i + 1))), (0, .ref 200)]) 0 (i) 1 dX12_powerComes_80 rfl rfl (by decide) rfl ?_
        refine mm_goto (tgt := 34) dX12_powerComes_83 (by decide) ?_
        have hh := ih (i + 1) (by omega) (by omega)
        first | (rw [pa_m, if_pos c50] at hh; exact hh) | (rw [pa_m, if_neg c50] at hh; exact hh)
      · refine mm_aload_n 1 dX12_powerComes_53 rfl rfl ?_
        refine mm_getr (b := 201) dX12_powerComes_54 rfl fk_X12_9 rfl so_200 sr_200_0 ?_
        refine mm_iload_n 0 dX12_powerComes_57 rfl rfl ?_
        refine mm_iconst (v := 2) dX12_powerComes_58 rfl ?_
        refine mm_cS2i (dz := d - 1) dX12_powerComes_59 rfl mzX12_of ml_X12_87 imX12_of (by omega) (cm_of (i) (2)) (Nat.le_of_ble_eq_true rfl) ⟨Nat.le_refl _, Nat.le_refl _⟩ ?_
        refine mm_bipush (v := 100) dX12_powerComes_62 rfl ?_
        refine mm_aload_n 1 dX12_powerComes_64 rfl rfl ?_
        refine mm_at (pc' := 65) rfl ?_
        refine mm_getr (b := 201) dX12_powerComes_65 rfl fk_X12_9 rfl so_200 sr_200_0 ?_
        refine mm_iload_n 0 dX12_powerComes_68 rfl rfl ?_
        refine mm_iconst (v := 2) dX12_powerComes_69 rfl ?_
        refine mm_cS2i (dz := d - 1) dX12_powerComes_70 rfl mzX12_of ml_X12_87 imX12_of (by omega) (cm_of (i) (2)) (Nat.le_of_ble_eq_true rfl) ⟨Nat.le_refl _, Nat.le_refl _⟩ ?_
        refine mm_ialdN (630 + 40 * i + 2) dX12_powerComes_73 sa_201 (by omega) (by omega) ?_
        refine mm_top (v := I 201 (630 + 40 * i + 2)) (pa_ne i (fun _ k _ => by omega)) ?_
        refine mm_iconst (v := 3) dX12_powerComes_74 rfl ?_
        refine mm_iadd dX12_powerComes_75 ?_
        refine mm_min dX12_powerComes_76 rfl ml_X12_106 jm_min (by omega) (Nat.le_of_ble_eq_true rfl) ⟨Nat.le_refl _, Nat.le_refl _⟩ ?_
        refine mm_at (pc' := 79) rfl ?_
        refine mm_iastN (630 + 40 * i + 2) dX12_powerComes_79 sa_201 (by omega) (by omega) ?_
        refine mm_iincN (ls' := [(1, .int (nI (i + 1))), (0, .ref 200)]) 0 (i) 1 dX12_powerComes_80 rfl rfl (by decide) rfl ?_
        refine mm_goto (tgt := 34) dX12_powerComes_83 (by decide) ?_
        have hh := ih (i + 1) (by omega) (by omega)
        first | (rw [pa_m, if_pos c50] at hh; exact hh) | (rw [pa_m, if_neg c50] at hh; exact hh)
set_option maxRecDepth 100000 in
set_option maxHeartbeats 600000 in
theorem lm_pall {g : mm_G} {I : mm_I} {d : Nat} {Q : Option Value → mm_Sh → mm_I → Prop} {l : Nat} (hl : I 201 15 = nI l) (hl8 : l ≤ 8) (hx : mm_Ex g zX12_powerComes d (0, 0) (0, 0) sh_S I 120 [(2, .int (nI l)), (1, .int (sp_pb (I 201) (nI 0) l)), (0, .ref 200)] [] Q) : ∀ (m : Nat) (i : Nat), (i ≤ l) → l - i < m → mm_Ex g zX12_powerComes d (0, 0) (0, 0) sh_S (I) 90 [(2, .int (nI (i))), (1, .int (sp_pb (I 201) (nI 0) i)), (0, .ref 200)] [] Q := by
  intro m
  induction m with
  | zero => intro i hi hmz; exact absurd hmz (Nat.not_lt_zero _)
  | succ m ih =>
    intro i hi hmz
    refine mm_iload_n 0 dX12_powerComes_90 rfl rfl ?_
    refine mm_aload_n 2 dX12_powerComes_91 rfl rfl ?_
    refine mm_getr (b := 201) dX12_powerComes_92 rfl fk_X12_9 rfl so_200 sr_200_0 ?_
    refine mm_bipush (v := 15) dX12_powerComes_95 rfl ?_
    refine mm_ialdN (15) dX12_powerComes_97 sa_201 (by omega) (by omega) ?_
    refine mm_top (v := nI (l)) hl ?_
    refine mm_icmp_geN (i) (l) (tgt := 120) dX12_powerComes_98 (by decide) (by omega) (by omega) (fun c98 => ?_) (fun c98 => ?_)
    · have e : i = l := by omega
      subst e
      exact hx
    · refine mm_iload_n 1 dX12_powerComes_101 rfl rfl ?_
      refine mm_aload_n 2 dX12_powerComes_102 rfl rfl ?_
      refine mm_getr (b := 201) dX12_powerComes_103 rfl fk_X12_9 rfl so_200 sr_200_0 ?_
      refine mm_sipush (v := 590) dX12_powerComes_106 rfl ?_
      refine mm_iload_n 0 dX12_powerComes_109 rfl rfl ?_
      refine mm_iaddN (590) (i) dX12_powerComes_110 ?_
      refine mm_ialdN (590 + i) dX12_powerComes_111 sa_201 (by omega) (by omega) ?_
      refine mm_at (pc' := 112) rfl ?_
      refine mm_iadd dX12_powerComes_112 ?_
      refine mm_istore_n (ls' := [(1, .int ((sp_pb (I 201) (nI 0) i) + (I 201 (590 + i)))), (2, .int (nI (i))), (0, .ref 200)]) dX12_powerComes_113 rfl (by decide) rfl ?_
      refine mm_iincN (ls' := [(2, .int (nI (i + 1))), (1, .int ((sp_pb (I 201) (nI 0) i) + (I 201 (590 + i)))), (0, .ref 200)]) 1 (i) 1 dX12_powerComes_114 rfl rfl (by decide) rfl ?_
      refine mm_goto (tgt := 90) dX12_powerComes_117 (by decide) ?_
      have hh := ih (i + 1) (by omega) (by omega)
      rw [sp_pb, if_pos (pw_z (by omega))] at hh
      exact mm_sub [0, 1, 2] rfl hh
set_option maxRecDepth 100000 in
set_option maxHeartbeats 600000 in
theorem lm_pwi {g : mm_G} {I : mm_I} {d : Nat} {Q : Option Value → mm_Sh → mm_I → Prop} {l : Nat} (hl : I 201 15 = nI l) (hl8 : l ≤ 8) {D : Nat} {al : Int32} (hx : mm_Ex g zX12_powerComes d (0, 0) (0, 0) sh_S (pw_m I D l) 218 [(3, .int (nI l)), (2, .int (pw_l (I 201) D l)), (1, .int al), (0, .ref 200)] [] Q) : ∀ (m : Nat) (i : Nat), (i ≤ l) → l - i < m → mm_Ex g zX12_powerComes d (0, 0) (0, 0) sh_S (pw_m I D l) 142 [(3, .int (nI i)), (2, .int (pw_l (I 201) D i)), (1, .int al), (0, .ref 200)] [] Q := by
  intro m
  induction m with
  | zero => intro i hi hmz; exact absurd hmz (Nat.not_lt_zero _)
  | succ m ih =>
    intro i hi hmz
    rcases pw_l_in (N := I 201) (D := D) i with ⟨ew, -⟩ | ⟨w, hw, ew, -⟩
    · rw [ew]
      refine mm_iload_n 0 dX12_powerComes_142 rfl rfl ?_
      refine mm_aload_n 3 dX12_powerComes_143 rfl rfl ?_
      refine mm_getr (b := 201) dX12_powerComes_144 rfl fk_X12_9 rfl so_200 sr_200_0 ?_
      refine mm_bipush (v := 15) dX12_powerComes_147 rfl ?_
      refine mm_ialdN (15) dX12_powerComes_149 sa_201 (by omega) (by omega) ?_
      refine mm_top (v := nI (l)) ((pw_m_n (Or.inr ⟨by omega, by omega⟩)).trans hl) ?_
      refine mm_icmp_geN (i) (l) (tgt := 218) dX12_powerComes_150 (by decide) (by omega) (by omega) (fun c150 => ?_) (fun c150 => ?_)
      · have e : i = l := by omega
        subst e
        rw [ew] at hx
        exact hx
      · refine mm_aload_n 3 dX12_powerComes_153 rfl rfl ?_
        refine mm_getr (b := 201) dX12_powerComes_154 rfl fk_X12_9 rfl so_200 sr_200_0 ?_
        refine mm_bipush (v := 9) dX12_powerComes_157 rfl ?_
        refine mm_ialdN (9) dX12_powerComes_159 sa_201 (by omega) (by omega) ?_
        refine mm_top (v := nI D) pw_m_9 ?_
        refine mm_iload_n 0 dX12_powerComes_160 rfl rfl ?_
        refine mm_ishr dX12_powerComes_161 ?_
        refine mm_iconst (v := 1) dX12_powerComes_162 rfl ?_
        refine mm_at (pc' := 163) rfl ?_
        refine mm_iand dX12_powerComes_163 ?_
        refine mm_if_ne (tgt := 171) dX12_powerComes_164 (by decide) (fun c164 => ?_) (fun c164 => ?_)
        · refine mm_iconst (v := 0) dX12_powerComes_171 rfl ?_
          refine mm_istore (ls' := [(4, .int (0)), (3, .int (nI (i))), (2, .int (-1)), (1, .int (al)), (0, .ref 200)]) dX12_powerComes_172 (by decide) rfl ?_
          refine mm_iload 0 dX12_powerComes_174 rfl ?_
          refine mm_if_eq (tgt := 210) dX12_powerComes_176 (by decide) (fun _ => ?_) (fun q => absurd (by decide) q)
          refine mm_iload_n 2 dX12_powerComes_210 rfl rfl ?_
          refine mm_istore_n (ls' := [(2, .int (-1)), (4, .int (0)), (3, .int (nI (i))), (1, .int (al)), (0, .ref 200)]) dX12_powerComes_211 rfl (by decide) rfl ?_
          refine mm_iincN (ls' := [(3, .int (nI (i + 1))), (2, .int (-1)), (4, .int (0)), (1, .int (al)), (0, .ref 200)]) 2 (i) 1 dX12_powerComes_212 rfl rfl (by decide) rfl ?_
          refine mm_goto (tgt := 142) dX12_powerComes_215 (by decide) ?_
          have hh := ih (i + 1) (by omega) (by omega)
          first | (rw [pw_l, if_pos (by rw [ew]; exact ⟨c164, Or.inl (by decide)⟩)] at hh; exact mm_sub [0, 1, 3, 4] rfl hh) | (rw [pw_l, if_neg (fun q => c164 q.1), ew] at hh; exact mm_sub [0, 1, 3, 4] rfl hh) | (rw [pw_l, if_pos (by rw [ew, vv_nI (by omega)]; exact ⟨c164, Or.inr (Int32.not_le.mp c203)⟩)] at hh; exact mm_sub [0, 1, 3, 4] rfl hh) | (rw [pw_l, if_neg (by rw [ew, vv_nI (by omega)]; rintro ⟨q1, q2 | q2⟩; exact nI_pos (by omega) q2; exact absurd q2 (Int32.not_lt.mpr c203)), ew] at hh; exact mm_sub [0, 1, 3, 4] rfl hh)
        · refine mm_iconst (v := 1) dX12_powerComes_167 rfl ?_
          refine mm_goto (tgt := 172) dX12_powerComes_168 (by decide) ?_
          refine mm_istore (ls' := [(4, .int (1)), (3, .int (nI (i))), (2, .int (-1)), (1, .int (al)), (0, .ref 200)]) dX12_powerComes_172 (by decide) rfl ?_
          refine mm_iload 0 dX12_powerComes_174 rfl ?_
          refine mm_if_eq (tgt := 210) dX12_powerComes_176 (by decide) (fun q => absurd q (by decide)) (fun _ => ?_)
          refine mm_iload_n 2 dX12_powerComes_179 rfl rfl ?_
          refine mm_if_lt (tgt := 206) dX12_powerComes_180 (by decide) (fun _ => ?_) (fun q => absurd (by decide) q)
          refine mm_iload_n 1 dX12_powerComes_206 rfl rfl ?_
          refine mm_goto (tgt := 211) dX12_powerComes_207 (by decide) ?_
          refine mm_istore_n (ls' := [(2, .int (nI (i))), (4, .int (1)), (3, .int (nI (i))), (1, .int (al)), (0, .ref 200)]) dX12_powerComes_211 rfl (by decide) rfl ?_
          refine mm_iincN (ls' := [(3, .int (nI (i + 1))), (2, .int (nI (i))), (4, .int (1)), (1, .int (al)), (0, .ref 200)]) 2 (i) 1 dX12_powerComes_212 rfl rfl (by decide) rfl ?_
          refine mm_goto (tgt := 142) dX12_powerComes_215 (by decide) ?_
          have hh := ih (i + 1) (by omega) (by omega)
          first | (rw [pw_l, if_pos (by rw [ew]; exact ⟨c164, Or.inl (by decide)⟩)] at hh; exact mm_sub [0, 1, 3, 4] rfl hh) | (rw [pw_l, if_neg (fun q => c164 q.1), ew] at hh; exact mm_sub [0, 1, 3, 4] rfl hh) | (rw [pw_l, if_pos (by rw [ew, vv_nI (by omega)]; exact ⟨c164, Or.inr (Int32.not_le.mp c203)⟩)] at hh; exact mm_sub [0, 1, 3, 4] rfl hh) | (rw [pw_l, if_neg (by rw [ew, vv_nI (by omega)]; rintro ⟨q1, q2 | q2⟩; exact nI_pos (by omega) q2; exact absurd q2 (Int32.not_lt.mpr c203)), ew] at hh; exact mm_sub [0, 1, 3, 4] rfl hh)
    · rw [ew]
      refine mm_iload_n 0 dX12_powerComes_142 rfl rfl ?_
      refine mm_aload_n 3 dX12_powerComes_143 rfl rfl ?_
      refine mm_getr (b := 201) dX12_powerComes_144 rfl fk_X12_9 rfl so_200 sr_200_0 ?_
      refine mm_bipush (v := 15) dX12_powerComes_147 rfl ?_
      refine mm_ialdN (15) dX12_powerComes_149 sa_201 (by omega) (by omega) ?_
      refine mm_top (v := nI (l)) ((pw_m_n (Or.inr ⟨by omega, by omega⟩)).trans hl) ?_
      refine mm_icmp_geN (i) (l) (tgt := 218) dX12_powerComes_150 (by decide) (by omega) (by omega) (fun c150 => ?_) (fun c150 => ?_)
      · have e : i = l := by omega
        subst e
        rw [ew] at hx
        exact hx
      · refine mm_aload_n 3 dX12_powerComes_153 rfl rfl ?_
        refine mm_getr (b := 201) dX12_powerComes_154 rfl fk_X12_9 rfl so_200 sr_200_0 ?_
        refine mm_bipush (v := 9) dX12_powerComes_157 rfl ?_
        refine mm_ialdN (9) dX12_powerComes_159 sa_201 (by omega) (by omega) ?_
        refine mm_top (v := nI D) pw_m_9 ?_
        refine mm_iload_n 0 dX12_powerComes_160 rfl rfl ?_
        refine mm_ishr dX12_powerComes_161 ?_
        refine mm_iconst (v := 1) dX12_powerComes_162 rfl ?_
        refine mm_at (pc' := 163) rfl ?_
        refine mm_iand dX12_powerComes_163 ?_
        refine mm_if_ne (tgt := 171) dX12_powerComes_164 (by decide) (fun c164 => ?_) (fun c164 => ?_)
        · refine mm_iconst (v := 0) dX12_powerComes_171 rfl ?_
          refine mm_istore (ls' := [(4, .int (0)), (3, .int (nI (i))), (2, .int (nI (w))), (1, .int (al)), (0, .ref 200)]) dX12_powerComes_172 (by decide) rfl ?_
          refine mm_iload 0 dX12_powerComes_174 rfl ?_
          refine mm_if_eq (tgt := 210) dX12_powerComes_176 (by decide) (fun _ => ?_) (fun q => absurd (by decide) q)
          refine mm_iload_n 2 dX12_powerComes_210 rfl rfl ?_
          refine mm_istore_n (ls' := [(2, .int (nI (w))), (4, .int (0)), (3, .int (nI (i))), (1, .int (al)), (0, .ref 200)]) dX12_powerComes_211 rfl (by decide) rfl ?_
          refine mm_iincN (ls' := [(3, .int (nI (i + 1))), (2, .int (nI (w))), (4, .int (0)), (1, .int (al)), (0, .ref 200)]) 2 (i) 1 dX12_powerComes_212 rfl rfl (by decide) rfl ?_
          refine mm_goto (tgt := 142) dX12_powerComes_215 (by decide) ?_
          have hh := ih (i + 1) (by omega) (by omega)
          first | (rw [pw_l, if_pos (by rw [ew]; exact ⟨c164, Or.inl (by decide)⟩)] at hh; exact mm_sub [0, 1, 3, 4] rfl hh) | (rw [pw_l, if_neg (fun q => c164 q.1), ew] at hh; exact mm_sub [0, 1, 3, 4] rfl hh) | (rw [pw_l, if_pos (by rw [ew, vv_nI (by omega)]; exact ⟨c164, Or.inr (Int32.not_le.mp c203)⟩)] at hh; exact mm_sub [0, 1, 3, 4] rfl hh) | (rw [pw_l, if_neg (by rw [ew, vv_nI (by omega)]; rintro ⟨q1, q2 | q2⟩; exact nI_pos (by omega) q2; exact absurd q2 (Int32.not_lt.mpr c203)), ew] at hh; exact mm_sub [0, 1, 3, 4] rfl hh)
        · refine mm_iconst (v := 1) dX12_powerComes_167 rfl ?_
          refine mm_goto (tgt := 172) dX12_powerComes_168 (by decide) ?_
          refine mm_istore (ls' := [(4, .int (1)), (3, .int (nI (i))), (2, .int (nI (w))), (1, .int (al)), (0, .ref 200)]) dX12_powerComes_172 (by decide) rfl ?_
          refine mm_iload 0 dX12_powerComes_174 rfl ?_
          refine mm_if_eq (tgt := 210) dX12_powerComes_176 (by decide) (fun q => absurd q (by decide)) (fun _ => ?_)
          refine mm_iload_n 2 dX12_powerComes_179 rfl rfl ?_
          refine mm_if_ltN (w) (tgt := 206) dX12_powerComes_180 (by decide) (by omega) ?_
          refine mm_aload_n 4 dX12_powerComes_183 rfl rfl ?_
          refine mm_getr (b := 201) dX12_powerComes_184 rfl fk_X12_9 rfl so_200 sr_200_0 ?_
          refine mm_sipush (v := 598) dX12_powerComes_187 rfl ?_
          refine mm_iload_n 1 dX12_powerComes_190 rfl rfl ?_
          refine mm_iaddN (598) (i) dX12_powerComes_191 ?_
          refine mm_ialdN (598 + i) dX12_powerComes_192 sa_201 (by omega) (by omega) ?_
          refine mm_at (pc' := 193) rfl ?_
          refine mm_top (v := I 201 (598 + i)) (pw_m_n (Or.inr ⟨by omega, by omega⟩)) ?_
          refine mm_aload_n 4 dX12_powerComes_193 rfl rfl ?_
          refine mm_getr (b := 201) dX12_powerComes_194 rfl fk_X12_9 rfl so_200 sr_200_0 ?_
          refine mm_sipush (v := 598) dX12_powerComes_197 rfl ?_
          refine mm_iload_n 2 dX12_powerComes_200 rfl rfl ?_
          refine mm_iaddN (598) (w) dX12_powerComes_201 ?_
          refine mm_ialdN (598 + w) dX12_powerComes_202 sa_201 (by omega) (by omega) ?_
          refine mm_top (v := I 201 (598 + w)) (pw_m_n (Or.inr ⟨by omega, by omega⟩)) ?_
          refine mm_icmp_ge (tgt := 210) dX12_powerComes_203 (by decide) (fun c203 => ?_) (fun c203 => ?_)
          · refine mm_iload_n 2 dX12_powerComes_210 rfl rfl ?_
            refine mm_istore_n (ls' := [(2, .int (nI (w))), (4, .int (1)), (3, .int (nI (i))), (1, .int (al)), (0, .ref 200)]) dX12_powerComes_211 rfl (by decide) rfl ?_
            refine mm_iincN (ls' := [(3, .int (nI (i + 1))), (2, .int (nI (w))), (4, .int (1)), (1, .int (al)), (0, .ref 200)]) 2 (i) 1 dX12_powerComes_212 rfl rfl (by decide) rfl ?_
            refine mm_goto (tgt := 142) dX12_powerComes_215 (by decide) ?_
            have hh := ih (i + 1) (by omega) (by omega)
            first | (rw [pw_l, if_pos (by rw [ew]; exact ⟨c164, Or.inl (by decide)⟩)] at hh; exact mm_sub [0, 1, 3, 4] rfl hh) | (rw [pw_l, if_neg (fun q => c164 q.1), ew] at hh; exact mm_sub [0, 1, 3, 4] rfl hh) | (rw [pw_l, if_pos (by rw [ew, vv_nI (by omega)]; exact ⟨c164, Or.inr (Int32.not_le.mp c203)⟩)] at hh; exact mm_sub [0, 1, 3, 4] rfl hh) | (rw [pw_l, if_neg (by rw [ew, vv_nI (by omega)]; rintro ⟨q1, q2 | q2⟩; exact nI_pos (by omega) q2; exact absurd q2 (Int32.not_lt.mpr c203)), ew] at hh; exact mm_sub [0, 1, 3, 4] rfl hh)
          · refine mm_iload_n 1 dX12_powerComes_206 rfl rfl ?_
            refine mm_goto (tgt := 211) dX12_powerComes_207 (by decide) ?_
            refine mm_istore_n (ls' := [(2, .int (nI (i))), (4, .int (1)), (3, .int (nI (i))), (1, .int (al)), (0, .ref 200)]) dX12_powerComes_211 rfl (by decide) rfl ?_
            refine mm_iincN (ls' := [(3, .int (nI (i + 1))), (2, .int (nI (i))), (4, .int (1)), (1, .int (al)), (0, .ref 200)]) 2 (i) 1 dX12_powerComes_212 rfl rfl (by decide) rfl ?_
            refine mm_goto (tgt := 142) dX12_powerComes_215 (by decide) ?_
            have hh := ih (i + 1) (by omega) (by omega)
            first | (rw [pw_l, if_pos (by rw [ew]; exact ⟨c164, Or.inl (by decide)⟩)] at hh; exact mm_sub [0, 1, 3, 4] rfl hh) | (rw [pw_l, if_neg (fun q => c164 q.1), ew] at hh; exact mm_sub [0, 1, 3, 4] rfl hh) | (rw [pw_l, if_pos (by rw [ew, vv_nI (by omega)]; exact ⟨c164, Or.inr (Int32.not_le.mp c203)⟩)] at hh; exact mm_sub [0, 1, 3, 4] rfl hh) | (rw [pw_l, if_neg (by rw [ew, vv_nI (by omega)]; rintro ⟨q1, q2 | q2⟩; exact nI_pos (by omega) q2; exact absurd q2 (Int32.not_lt.mpr c203)), ew] at hh; exact mm_sub [0, 1, 3, 4] rfl hh)
