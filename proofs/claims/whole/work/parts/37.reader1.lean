/-! THE REFERENCE'S READER: what stands here -/
def tq_ok (T : Nat → Int32) (t : Nat) (q : Nat × Nat × Nat) : Prop := q.1 ≤ q.2.1 ∧ q.2.1 ≤ t ∧ q.2.2 ≤ 4 ∧ (q.2.2 = 0 → q.1 = t) ∧ (¬ q.2.2 = 0 → q.1 < q.2.1) ∧ (q.2.2 = 2 → q.2.1 - q.1 ≤ 4 ∧ ∀ i, q.1 ≤ i → i < q.2.1 → tk_D T t i)
theorem tk_s_in (T : Nat → Int32) (t k : Nat) : tk_s T t k = 1 ∨ tk_s T t k = 2 ∨ tk_s T t k = 3 := by
  unfold tk_s
  by_cases c1 : tk_L T t k
  · rw [if_pos c1]; exact Or.inl rfl
  · rw [if_neg c1]
    by_cases c2 : tk_D T t k
    · rw [if_pos c2]; exact Or.inr (Or.inl rfl)
    · rw [if_neg c2]; exact Or.inr (Or.inr rfl)
theorem tk_we_all {T : Nat → Int32} {t s : Nat} : ∀ f k i, k ≤ i → i < tk_we T t s f k → tk_P T t s i := by
  intro f
  induction f with
  | zero => intro k i h1 h2; exact absurd h2 (by show ¬ i < k; omega)
  | succ f ih =>
    intro k i h1 h2
    unfold tk_we at h2
    by_cases c : tk_P T t s k
    · rw [if_pos c] at h2
      by_cases e : i = k
      · subst e; exact c
      · exact ih (k + 1) i (by omega) h2
    · rw [if_neg c] at h2; omega
theorem nx_ok {T : Nat → Int32} {t : Nat} (q : Nat × Nat × Nat) (he : q.2.1 ≤ t) : tq_ok T t (nx T t q) ∧ q.2.1 ≤ (nx T t q).1 := by
  obtain ⟨h1, h2⟩ := tk_sb_le (T := T) (t := t) 96 q.2.1 he
  unfold nx
  by_cases c : tk_sb T t 96 q.2.1 = t
  · rw [if_pos c]
    exact ⟨⟨Nat.le_refl _, Nat.le_refl _, by show 0 ≤ 4; decide, fun _ => rfl, fun h => absurd rfl h, fun h => absurd h (by show ¬ (0 = 2); decide)⟩, he⟩
  · rw [if_neg c]
    generalize tk_sb T t 96 q.2.1 = f at h1 h2 c
    unfold nx_s
    obtain ⟨h3, h4⟩ := tk_we_le (T := T) (t := t) (s := tk_s T t f) 96 (f + 1) (by omega)
    have hall := tk_we_all (T := T) (t := t) (s := tk_s T t f) 96 (f + 1)
    generalize tk_we T t (tk_s T t f) 96 (f + 1) = e at h3 h4 hall
    have hs := tk_s_in T t f
    by_cases c2 : (¬ tk_s T t f = 3 ∧ (q.2.2 = 1 ∨ q.2.2 = 2) ∧ f = q.2.1) ∨ (tk_s T t f = 2 ∧ 4 < e - f)
    · rw [if_pos c2]
      exact ⟨⟨by show f ≤ e; omega, h4, by show 4 ≤ 4; omega, fun h => absurd h (by show ¬ (4 = 0); decide), fun _ => by show f < e; omega, fun h => absurd h (by show ¬ (4 = 2); decide)⟩, h1⟩
    · rw [if_neg c2]
      refine ⟨⟨by show f ≤ e; omega, h4, by show tk_s T t f ≤ 4; omega, fun h => ?_, fun _ => by show f < e; omega, fun h => ?_⟩, h1⟩
      · replace h : tk_s T t f = 0 := h; omega
      · replace h : tk_s T t f = 2 := h
        refine ⟨by show e - f ≤ 4; have := fun q => c2 (Or.inr ⟨h, q⟩); omega, fun i hi1 hi2 => ?_⟩
        replace hi1 : f ≤ i := hi1
        replace hi2 : i < e := hi2
        by_cases e2 : i = f
        · subst e2
          unfold tk_s at h
          by_cases c5 : tk_L T t i
          · rw [if_pos c5] at h; exact absurd h (by decide)
          · rw [if_neg c5] at h
            by_cases c6 : tk_D T t i
            · exact c6
            · rw [if_neg c6] at h; exact absurd h (by decide)
        · rcases hall i (by omega) hi2 with ⟨h9, -⟩ | ⟨-, h9⟩
          · omega
          · exact h9
/-- the k-th word or sign -/
def tq (T : Nat → Int32) (t : Nat) : Nat → Nat × Nat × Nat
  | 0 => nx T t (0, 0, 0)
  | k + 1 => nx T t (tq T t k)
theorem tq_good (T : Nat → Int32) (t : Nat) : ∀ k, tq_ok T t (tq T t k) := by
  intro k
  induction k with
  | zero => exact (nx_ok (T := T) (0, 0, 0) (Nat.zero_le _)).1
  | succ k ih => exact (nx_ok _ ih.2.1).1
abbrev sg (T : Nat → Int32) (q : Nat × Nat × Nat) (c : Int32) : Prop := q.2.2 = 3 ∧ T q.1 = c
def wdp (T : Nat → Int32) (f tx : Nat) : Nat → Bool
  | 0 => true
  | k + 1 => wdp T f tx k && decide (T (f + k) = (mm_sx tx).getD k 0)
def wd (T : Nat → Int32) (q : Nat × Nat × Nat) (tx : Nat) : Bool := decide (q.2.2 = 1 ∧ q.2.1 - q.1 = (mm_sx tx).length) && wdp T q.1 tx (mm_sx tx).length
theorem wdp_no {T : Nat → Int32} {f tx k : Nat} (h : wdp T f tx k = false) : ∀ j, k ≤ j → wdp T f tx j = false := by
  intro j
  induction j with
  | zero => intro hj; rw [show k = 0 by omega] at h; exact h
  | succ j ih =>
    intro hj
    by_cases e : k = j + 1
    · rw [← e]; exact h
    · unfold wdp; rw [ih (by omega)]; rfl
theorem wd_no {T : Nat → Int32} {q : Nat × Nat × Nat} {tx k : Nat} (h : ¬ (decide (q.2.2 = 1 ∧ q.2.1 - q.1 = (mm_sx tx).length) && wdp T q.1 tx k) = true) (hk : k ≤ (mm_sx tx).length) : wd T q tx = false := by
  unfold wd
  rcases Bool.and_eq_false_iff.mp (Bool.eq_false_iff.mpr h) with h | h
  · rw [h]; rfl
  · rw [wdp_no h _ hk, Bool.and_false]
def wh (T : Nat → Int32) (q : Nat × Nat × Nat) : Nat → Int32
  | 0 => -1
  | k + 1 => if wd T q k = true then nI k else wh T q k
def nvl (T : Nat → Int32) (f : Nat) : Nat → Nat
  | 0 => 0
  | j + 1 => 10 * nvl T f j + (vv (T (f + j)) - 48)
set_option maxRecDepth 100000 in
set_option maxHeartbeats 600000 in
theorem cm_isSign {g : mm_G} {J : mm_I} {d : Nat} {p t : Nat} (ht : J 200 4 = nI t) (ht96 : t ≤ 96) {fl bs br ns : Nat} {N : Nat → Int32} {CS : List Nat} {q : Nat × Nat × Nat} (hQ : tq_ok (J 203) t q) {c : Int32} : mm_Ci g zX12_isSign d [.ref 200, .int c] sh_S (pz J p q fl bs br ns N CS) (if sg (J 203) q c then 1 else 0) (pz J p q fl bs br ns N CS) := by
  obtain ⟨hq1, hq2, hq3, hq4, hq5, hq6⟩ := id hQ
  refine mm_Ci_of (fun Q hq => ?_)
  refine mm_begin (ls := [(0, .ref 200), (1, .int (c))]) (Nat.le_of_ble_eq_true rfl) rfl rfl ?_
  refine mm_aload_n 0 dX12_isSign_0 rfl rfl ?_
  refine mm_geti dX12_isSign_1 rfl fk_X12_142 rfl so_200 ?_
  refine mm_top (v := nI (q.2.2)) rfl ?_
  refine mm_iconst (v := 3) dX12_isSign_4 rfl ?_
  refine mm_icmp_neN (q.2.2) (3) (tgt := 25) dX12_isSign_5 (by decide) (by omega) (by omega) (fun c5 => ?_) (fun c5 => ?_)
  · refine mm_iconst (v := 0) dX12_isSign_25 rfl ?_
    refine mm_zret dX12_isSign_26 rfl (by decide) ⟨Nat.le_refl _, Nat.le_refl _⟩ ?_
    first | (rw [if_pos (show sg (J 203) q c from ⟨c5, c18⟩)] at hq; exact hq) | (rw [if_neg (show ¬ sg (J 203) q c by rintro ⟨h1, h2⟩; first | exact c5 h1 | exact c18 h2)] at hq; exact hq)
  · refine mm_aload_n 0 dX12_isSign_8 rfl rfl ?_
    refine mm_getr (b := 203) dX12_isSign_9 rfl fk_X12_16 rfl so_200 sr_200_3 ?_
    refine mm_aload_n 0 dX12_isSign_12 rfl rfl ?_
    refine mm_geti dX12_isSign_13 rfl fk_X12_148 rfl so_200 ?_
    refine mm_top (v := nI (q.1)) rfl ?_
    refine mm_ialdN (q.1) dX12_isSign_16 sa_203 (by omega) (by omega) ?_
    refine mm_top (v := J 203 (q.1)) rfl ?_
    refine mm_iload_n 1 dX12_isSign_17 rfl rfl ?_
    refine mm_icmp_ne (tgt := 25) dX12_isSign_18 (by decide) (fun c18 => ?_) (fun c18 => ?_)
    · refine mm_iconst (v := 0) dX12_isSign_25 rfl ?_
      refine mm_zret dX12_isSign_26 rfl (by decide) ⟨Nat.le_refl _, Nat.le_refl _⟩ ?_
      first | (rw [if_pos (show sg (J 203) q c from ⟨c5, c18⟩)] at hq; exact hq) | (rw [if_neg (show ¬ sg (J 203) q c by rintro ⟨h1, h2⟩; first | exact c5 h1 | exact c18 h2)] at hq; exact hq)
    · refine mm_iconst (v := 1) dX12_isSign_21 rfl ?_
      refine mm_goto (tgt := 26) dX12_isSign_22 (by decide) ?_
      refine mm_zret dX12_isSign_26 rfl (by decide) ⟨Nat.le_refl _, Nat.le_refl _⟩ ?_
      first | (rw [if_pos (show sg (J 203) q c from ⟨c5, c18⟩)] at hq; exact hq) | (rw [if_neg (show ¬ sg (J 203) q c by rintro ⟨h1, h2⟩; first | exact c5 h1 | exact c18 h2)] at hq; exact hq)
set_option maxRecDepth 100000 in
set_option maxHeartbeats 600000 in
theorem lm_wd {g : mm_G} {J : mm_I} {d : Nat} {Q : Option Value → mm_Sh → mm_I → Prop} {p t : Nat} (ht : J 200 4 = nI t) (ht96 : t ≤ 96) {fl bs br ns : Nat} {N : Nat → Int32} {CS : List Nat} {q : Nat × Nat × Nat} (hQ : tq_ok (J 203) t q) {tx : Nat} (htx : tx < 14) (hd : 4 ≤ d) (hq : Q (some (.int (if wd (J 203) q tx = true then 1 else 0))) sh_S (pz J p q fl bs br ns N CS)) : ∀ (m k : Nat), k ≤ (mm_sx tx).length → (mm_sx tx).length - k < m → mm_Ex g zX12_isWord d (0, 0) (0, 0) sh_S (pz J p q fl bs br ns N CS) 32 [(3, .int (nI (k))), (2, .int (if (decide (q.2.2 = 1 ∧ q.2.1 - q.1 = (mm_sx tx).length) && wdp (J 203) q.1 tx k) = true then 1 else 0)), (0, .ref 200), (1, .ref (mm_KB + (5 + tx)))] [] Q := by
  obtain ⟨hq1, hq2, hq3, hq4, hq5, hq6⟩ := id hQ
  have hl := tx_len htx
  intro m
  induction m with
  | zero => intro k hk hmz; exact absurd hmz (Nat.not_lt_zero _)
  | succ m ih =>
    intro k hk hmz
    refine mm_iload_n 1 dX12_isWord_32 rfl rfl ?_
    refine mm_if_eqB (tgt := 75) dX12_isWord_33 (by decide) (fun c33 => ?_) (fun c33 => ?_)
    · refine mm_iload_n 1 dX12_isWord_75 rfl rfl ?_
      refine mm_zret dX12_isWord_76 rfl mm_b01 ⟨Nat.le_refl _, Nat.le_refl _⟩ ?_
      rw [wd_no c33 hk, if_neg (by decide)] at hq
      rw [if_neg c33]
      exact hq
    · refine mm_iload_n 0 dX12_isWord_36 rfl rfl ?_
      refine mm_aload_n 3 dX12_isWord_37 rfl rfl ?_
      refine mm_cT0i (t := tx) (dz := d - 1) dX12_isWord_38 rfl mzJ0_length_8abf5 ml_X12_157 imJ0_length_8abf5 (by omega) (by omega) rfl (ct_length htx (by omega)) (Nat.le_of_ble_eq_true rfl) ⟨Nat.le_refl _, Nat.le_refl _⟩ ?_
      refine mm_icmp_geN (k) ((mm_sx tx).length) (tgt := 75) dX12_isWord_41 (by decide) (by omega) (by omega) (fun c41 => ?_) (fun c41 => ?_)
      · refine mm_iload_n 1 dX12_isWord_75 rfl rfl ?_
        refine mm_zret dX12_isWord_76 rfl mm_b01 ⟨Nat.le_refl _, Nat.le_refl _⟩ ?_
        have e : k = (mm_sx tx).length := by omega
        subst e
        unfold wd at hq
        exact hq
      · obtain ⟨hs1, hs2⟩ := of_decide_eq_true (Bool.and_eq_true_iff.mp c33).1
        refine mm_aload_n 2 dX12_isWord_44 rfl rfl ?_
        refine mm_getr (b := 203) dX12_isWord_45 rfl fk_X12_16 rfl so_200 sr_200_3 ?_
        refine mm_aload_n 2 dX12_isWord_48 rfl rfl ?_
        refine mm_geti dX12_isWord_49 rfl fk_X12_148 rfl so_200 ?_
        refine mm_top (v := nI (q.1)) rfl ?_
        refine mm_iload_n 0 dX12_isWord_52 rfl rfl ?_
        refine mm_iaddN (q.1) (k) dX12_isWord_53 ?_
        refine mm_ialdN ((q.1) + k) dX12_isWord_54 sa_203 (by omega) (by omega) ?_
        refine mm_at (pc' := 55) rfl ?_
        refine mm_top (v := J 203 ((q.1) + k)) rfl ?_
        refine mm_aload_n 3 dX12_isWord_55 rfl rfl ?_
        refine mm_iload_n 0 dX12_isWord_56 rfl rfl ?_
        refine mm_cT1i (t := tx) (dz := d - 1) dX12_isWord_57 rfl mzJ0_charAt_5068e ml_X12_160 imJ0_charAt_5068e (by omega) (by omega) rfl (ct_charAt (t := tx) (k := k) htx (by omega) (by omega)) (Nat.le_of_ble_eq_true rfl) ⟨Nat.le_refl _, Nat.le_refl _⟩ ?_
        refine mm_icmp_ne (tgt := 67) dX12_isWord_60 (by decide) (fun c60 => ?_) (fun c60 => ?_)
        · refine mm_iconst (v := 0) dX12_isWord_67 rfl ?_
          refine mm_istore_n (ls' := [(2, .int (0)), (3, .int (nI (k))), (0, .ref 200), (1, .ref (mm_KB + (5 + tx)))]) dX12_isWord_68 rfl (by decide) rfl ?_
          refine mm_iincN (ls' := [(3, .int (nI (k + 1))), (2, .int (0)), (0, .ref 200), (1, .ref (mm_KB + (5 + tx)))]) 1 (k) 1 dX12_isWord_69 rfl rfl (by decide) rfl ?_
          refine mm_goto (tgt := 32) dX12_isWord_72 (by decide) ?_
          have hh := ih (k + 1) (by omega) (by omega)
          rw [wdp, decide_eq_false c60, Bool.and_false] at hh
          rw [Bool.and_false, if_neg (by decide)] at hh
          exact mm_sub [0, 1, 2, 3] rfl hh
        · refine mm_iconst (v := 1) dX12_isWord_63 rfl ?_
          refine mm_goto (tgt := 68) dX12_isWord_64 (by decide) ?_
          refine mm_istore_n (ls' := [(2, .int (1)), (3, .int (nI (k))), (0, .ref 200), (1, .ref (mm_KB + (5 + tx)))]) dX12_isWord_68 rfl (by decide) rfl ?_
          refine mm_iincN (ls' := [(3, .int (nI (k + 1))), (2, .int (1)), (0, .ref 200), (1, .ref (mm_KB + (5 + tx)))]) 1 (k) 1 dX12_isWord_69 rfl rfl (by decide) rfl ?_
          refine mm_goto (tgt := 32) dX12_isWord_72 (by decide) ?_
          have hh := ih (k + 1) (by omega) (by omega)
          rw [wdp, decide_eq_true c60, Bool.and_true] at hh
          rw [if_pos c33] at hh
          exact mm_sub [0, 1, 2, 3] rfl hh
set_option maxRecDepth 100000 in
set_option maxHeartbeats 600000 in
theorem cm_isWord {g : mm_G} {J : mm_I} {d : Nat} {p t : Nat} (ht : J 200 4 = nI t) (ht96 : t ≤ 96) {fl bs br ns : Nat} {N : Nat → Int32} {CS : List Nat} {q : Nat × Nat × Nat} (hQ : tq_ok (J 203) t q) {tx : Nat} (htx : tx < 14) (hd : 4 ≤ d) : mm_Ci g zX12_isWord d [.ref 200, .ref (mm_KB + (5 + tx))] sh_S (pz J p q fl bs br ns N CS) (if wd (J 203) q tx = true then 1 else 0) (pz J p q fl bs br ns N CS) := by
  obtain ⟨hq1, hq2, hq3, hq4, hq5, hq6⟩ := id hQ
  have hl := tx_len htx
  refine mm_Ci_of (fun Q hq => ?_)
  refine mm_begin (ls := [(0, .ref 200), (1, .ref (mm_KB + (5 + tx)))]) (Nat.le_of_ble_eq_true rfl) rfl rfl ?_
  refine mm_aload_n 0 dX12_isWord_0 rfl rfl ?_
  refine mm_geti dX12_isWord_1 rfl fk_X12_142 rfl so_200 ?_
  refine mm_top (v := nI (q.2.2)) rfl ?_
  refine mm_iconst (v := 1) dX12_isWord_4 rfl ?_
  refine mm_icmp_neN (q.2.2) (1) (tgt := 28) dX12_isWord_5 (by decide) (by omega) (by omega) (fun c5 => ?_) (fun c5 => ?_)
  · refine mm_iconst (v := 0) dX12_isWord_28 rfl ?_
    refine mm_istore_n (ls' := [(2, .int (0)), (0, .ref 200), (1, .ref (mm_KB + (5 + tx)))]) dX12_isWord_29 rfl (by decide) rfl ?_
    refine mm_iconst (v := 0) dX12_isWord_30 rfl ?_
    refine mm_istore_n (ls' := [(3, .int (0)), (2, .int (0)), (0, .ref 200), (1, .ref (mm_KB + (5 + tx)))]) dX12_isWord_31 rfl (by decide) rfl ?_
    have hh := lm_wd (g := g) ht ht96 hQ htx hd hq ((mm_sx tx).length + 1) 0 (Nat.zero_le _) (by omega)
    rw [show (decide (q.2.2 = 1 ∧ q.2.1 - q.1 = (mm_sx tx).length) && wdp (J 203) q.1 tx 0) = decide (q.2.2 = 1 ∧ q.2.1 - q.1 = (mm_sx tx).length) from Bool.and_true _, decide_eq_false (show ¬ (q.2.2 = 1 ∧ q.2.1 - q.1 = (mm_sx tx).length) from by rintro ⟨h1, h2⟩; first | exact c5 h1 | omega)] at hh
    exact mm_sub [0, 1, 2, 3] rfl hh
  · refine mm_aload_n 0 dX12_isWord_8 rfl rfl ?_
    refine mm_geti dX12_isWord_9 rfl fk_X12_145 rfl so_200 ?_
    refine mm_top (v := nI (q.2.1)) rfl ?_
    refine mm_aload_n 0 dX12_isWord_12 rfl rfl ?_
    refine mm_geti dX12_isWord_13 rfl fk_X12_148 rfl so_200 ?_
    refine mm_top (v := nI (q.1)) rfl ?_
    refine mm_isubN (q.2.1) (q.1) dX12_isWord_16 (by omega) ?_
    refine mm_aload_n 1 dX12_isWord_17 rfl rfl ?_
    refine mm_cT0i (t := tx) (dz := d - 1) dX12_isWord_18 rfl mzJ0_length_8abf5 ml_X12_157 imJ0_length_8abf5 (by omega) (by omega) rfl (ct_length htx (by omega)) (Nat.le_of_ble_eq_true rfl) ⟨Nat.le_refl _, Nat.le_refl _⟩ ?_
    refine mm_at (pc' := 21) rfl ?_
    refine mm_icmp_neN ((q.2.1) - (q.1)) ((mm_sx tx).length) (tgt := 28) dX12_isWord_21 (by decide) (by omega) (by omega) (fun c21 => ?_) (fun c21 => ?_)
    · refine mm_iconst (v := 0) dX12_isWord_28 rfl ?_
      refine mm_istore_n (ls' := [(2, .int (0)), (0, .ref 200), (1, .ref (mm_KB + (5 + tx)))]) dX12_isWord_29 rfl (by decide) rfl ?_
      refine mm_iconst (v := 0) dX12_isWord_30 rfl ?_
      refine mm_istore_n (ls' := [(3, .int (0)), (2, .int (0)), (0, .ref 200), (1, .ref (mm_KB + (5 + tx)))]) dX12_isWord_31 rfl (by decide) rfl ?_
      have hh := lm_wd (g := g) ht ht96 hQ htx hd hq ((mm_sx tx).length + 1) 0 (Nat.zero_le _) (by omega)
      rw [show (decide (q.2.2 = 1 ∧ q.2.1 - q.1 = (mm_sx tx).length) && wdp (J 203) q.1 tx 0) = decide (q.2.2 = 1 ∧ q.2.1 - q.1 = (mm_sx tx).length) from Bool.and_true _, decide_eq_false (show ¬ (q.2.2 = 1 ∧ q.2.1 - q.1 = (mm_sx tx).length) from by rintro ⟨h1, h2⟩; first | exact c5 h1 | omega)] at hh
      exact mm_sub [0, 1, 2, 3] rfl hh
    · refine mm_iconst (v := 1) dX12_isWord_24 rfl ?_
      refine mm_goto (tgt := 29) dX12_isWord_25 (by decide) ?_
      refine mm_istore_n (ls' := [(2, .int (1)), (0, .ref 200), (1, .ref (mm_KB + (5 + tx)))]) dX12_isWord_29 rfl (by decide) rfl ?_
      refine mm_iconst (v := 0) dX12_isWord_30 rfl ?_
      refine mm_istore_n (ls' := [(3, .int (0)), (2, .int (1)), (0, .ref 200), (1, .ref (mm_KB + (5 + tx)))]) dX12_isWord_31 rfl (by decide) rfl ?_
      have hh := lm_wd (g := g) ht ht96 hQ htx hd hq ((mm_sx tx).length + 1) 0 (Nat.zero_le _) (by omega)
      rw [show (decide (q.2.2 = 1 ∧ q.2.1 - q.1 = (mm_sx tx).length) && wdp (J 203) q.1 tx 0) = decide (q.2.2 = 1 ∧ q.2.1 - q.1 = (mm_sx tx).length) from Bool.and_true _, decide_eq_true (show q.2.2 = 1 ∧ q.2.1 - q.1 = (mm_sx tx).length from ⟨c5, by omega⟩)] at hh
      exact mm_sub [0, 1, 2, 3] rfl hh
theorem wr_at {k : Nat} (h : k < 11) : sh_S.2.2 209 k = some (mm_KB + (5 + k)) := by
  have hh : ∀ k, k < 11 → sh_S.2.2 209 k = some (mm_KB + (5 + k)) := by decide
  exact hh k h
set_option maxRecDepth 100000 in
set_option maxHeartbeats 600000 in
theorem lm_wh {g : mm_G} {J : mm_I} {d : Nat} {Q : Option Value → mm_Sh → mm_I → Prop} {p t : Nat} (ht : J 200 4 = nI t) (ht96 : t ≤ 96) {fl bs br ns : Nat} {N : Nat → Int32} {CS : List Nat} {q : Nat × Nat × Nat} (hQ : tq_ok (J 203) t q) (hd : 5 ≤ d) (hq : Q (some (.int (wh (J 203) q 11))) sh_S (pz J p q fl bs br ns N CS)) : ∀ (m k : Nat), k ≤ 11 → 11 - k < m → mm_Ex g zX12_wordHere d (0, 0) (0, 0) sh_S (pz J p q fl bs br ns N CS) 4 [(2, .int (nI (k))), (1, .int (wh (J 203) q k)), (0, .ref 200)] [] Q := by
  intro m
  induction m with
  | zero => intro k hk hmz; exact absurd hmz (Nat.not_lt_zero _)
  | succ m ih =>
    intro k hk hmz
    refine mm_iload_n 0 dX12_wordHere_4 rfl rfl ?_
    refine mm_aload_n 2 dX12_wordHere_5 rfl rfl ?_
    refine mm_getr (b := 209) dX12_wordHere_6 rfl fk_X12_58 rfl so_200 sr_200_19 ?_
    refine mm_alenR dX12_wordHere_9 sq_209 ?_
    refine mm_icmp_geN (k) (11) (tgt := 38) dX12_wordHere_10 (by decide) (by omega) (by omega) (fun c10 => ?_) (fun c10 => ?_)
    · refine mm_iload_n 1 dX12_wordHere_38 rfl rfl ?_
      refine mm_iret dX12_wordHere_39 rfl ⟨Nat.le_refl _, Nat.le_refl _⟩ ?_
      have e : k = 11 := by omega
      subst e
      exact hq
    · refine mm_aload_n 2 dX12_wordHere_13 rfl rfl ?_
      refine mm_aload_n 2 dX12_wordHere_14 rfl rfl ?_
      refine mm_getr (b := 209) dX12_wordHere_15 rfl fk_X12_58 rfl so_200 sr_200_19 ?_
      refine mm_iload_n 0 dX12_wordHere_18 rfl rfl ?_
      refine mm_aaldN (b := mm_KB + (5 + k)) (k) dX12_wordHere_19 sq_209 (by omega) (by omega) (wr_at (by omega)) ?_
      refine mm_cV1i (dz := d - 1) dX12_wordHere_20 rfl mzX12_isWord ml_X12_223 imX12_isWord (by omega) so_200 ⟨rfl, rfl⟩ (cm_isWord (tx := k) ht ht96 hQ (by omega) (by omega)) (Nat.le_of_ble_eq_true rfl) ⟨Nat.le_refl _, Nat.le_refl _⟩ ?_
      refine mm_if_eqB (tgt := 30) dX12_wordHere_23 (by decide) (fun c23 => ?_) (fun c23 => ?_)
      · refine mm_iload_n 1 dX12_wordHere_30 rfl rfl ?_
        refine mm_istore_n (ls' := [(1, .int (wh (J 203) q k)), (2, .int (nI (k))), (0, .ref 200)]) dX12_wordHere_31 rfl (by decide) rfl ?_
        refine mm_iincN (ls' := [(2, .int (nI (k + 1))), (1, .int (wh (J 203) q k)), (0, .ref 200)]) 1 (k) 1 dX12_wordHere_32 rfl rfl (by decide) rfl ?_
        refine mm_goto (tgt := 4) dX12_wordHere_35 (by decide) ?_
        have hh := ih (k + 1) (by omega) (by omega)
        rw [wh, if_neg c23] at hh
        exact mm_sub [0, 1, 2] rfl hh
      · refine mm_iload_n 0 dX12_wordHere_26 rfl rfl ?_
        refine mm_goto (tgt := 31) dX12_wordHere_27 (by decide) ?_
        refine mm_istore_n (ls' := [(1, .int (nI (k))), (2, .int (nI (k))), (0, .ref 200)]) dX12_wordHere_31 rfl (by decide) rfl ?_
        refine mm_iincN (ls' := [(2, .int (nI (k + 1))), (1, .int (nI (k))), (0, .ref 200)]) 1 (k) 1 dX12_wordHere_32 rfl rfl (by decide) rfl ?_
        refine mm_goto (tgt := 4) dX12_wordHere_35 (by decide) ?_
        have hh := ih (k + 1) (by omega) (by omega)
        rw [wh, if_pos c23] at hh
        exact mm_sub [0, 1, 2] rfl hh
set_option maxRecDepth 100000 in
set_option maxHeartbeats 600000 in
theorem cm_wordHere {g : mm_G} {J : mm_I} {d : Nat} {p t : Nat} (ht : J 200 4 = nI t) (ht96 : t ≤ 96) {fl bs br ns : Nat} {N : Nat → Int32} {CS : List Nat} {q : Nat × Nat × Nat} (hQ : tq_ok (J 203) t q) (hd : 5 ≤ d) : mm_Ci g zX12_wordHere d [.ref 200] sh_S (pz J p q fl bs br ns N CS) (wh (J 203) q 11) (pz J p q fl bs br ns N CS) := by
  refine mm_Ci_of (fun Q hq => ?_)
  refine mm_begin (ls := [(0, .ref 200)]) (Nat.le_of_ble_eq_true rfl) rfl rfl ?_
  refine mm_iconst (v := -1) dX12_wordHere_0 rfl ?_
  refine mm_istore_n (ls' := [(1, .int (-1)), (0, .ref 200)]) dX12_wordHere_1 rfl (by decide) rfl ?_
  refine mm_iconst (v := 0) dX12_wordHere_2 rfl ?_
  refine mm_istore_n (ls' := [(2, .int (0)), (1, .int (-1)), (0, .ref 200)]) dX12_wordHere_3 rfl (by decide) rfl ?_
  exact mm_sub [0, 1, 2] rfl (lm_wh ht ht96 hQ hd hq 12 0 (by omega) (by omega))
theorem cm_nextQ {g : mm_G} {J : mm_I} {d : Nat} {p t : Nat} (ht : J 200 4 = nI t) (ht96 : t ≤ 96) {fl bs br ns : Nat} {N : Nat → Int32} {CS : List Nat} {q : Nat × Nat × Nat} (hQ : tq_ok (J 203) t q) (hd : 1 ≤ d) : mm_Cv g zX12_next d [.ref 200] sh_S (pz J p q fl bs br ns N CS) (pz J p (nx (J 203) t q) fl bs br ns N CS) := by
  obtain ⟨f, e, s⟩ := q
  exact cm_next ht ht96 hQ.2.1 (by have := hQ.2.2.1; show s < 2 ^ 31; replace this : s ≤ 4 := this; omega) hd
