/-! A MEMORY that shows the row, group by group -/
def sS (c n l k o r : Nat) (M : mm_I) (N : Nat → Int32) : Prop :=
  (M 2 0 = N 0) ∧
  (M 2 1 = N 1) ∧
  (M 2 7 = N 14) ∧
  (M 2 8 = N 13) ∧
  (∀ i, i < c → M 4 i = N (30 + i)) ∧
  (∀ i, i < c → M 6 i = N (110 + i)) ∧
  (∀ i, i < c → M 8 i = N (190 + i)) ∧
  (∀ y, y < c → M 10 (4 * y + 3) = N (270 + 4 * y + 3)) ∧
  (∀ y j, y < c → j < 3 → 0 ≤ N (270 + 4 * y + 3) → M 10 (4 * y + j) = N (270 + 4 * y + j)) ∧
  (∀ i, i < 3 → M 12 i = N (10 + i)) ∧
  (M 17 0 = N 7) ∧
  (∀ i, i < 5 → M 17 (1 + i) = N (2 + i)) ∧
  (M 17 6 = N 8) ∧
  (M 17 7 = N 9) ∧
  (∀ i, i < l → M 19 i = N (590 + i)) ∧
  (∀ i, i < l → M 21 i = N (598 + i)) ∧
  (∀ i, i < k → M 24 i = N (606 + i)) ∧
  (∀ i, i < k → M 26 i = N (612 + i)) ∧
  (∀ i, i < k → M 28 i = N (618 + i)) ∧
  (∀ i, i < k → M 30 i = N (624 + i)) ∧
  (∀ m i, m < n → i < 7 → M (36 + 3 * m) i = N (630 + 40 * m + i)) ∧
  (∀ i, i < 3 * o → M 83 i = N (830 + i)) ∧
  (∀ i, i < 6 * r → M 85 i = N (866 + i)) ∧
  (∀ a, a = 18 ∨ a = 20 → M a 1 = nI l) ∧
  (∀ a, a = 23 ∨ a = 25 ∨ a = 27 ∨ a = 29 → M a 1 = nI k) ∧
  (M 82 1 = nI (3 * o)) ∧
  (M 84 1 = nI (6 * r)) ∧
  (M 1 4 = nI n)
theorem sS.w {c n l k o r : Nat} {M : mm_I} {N : Nat → Int32} (H : sS c n l k o r M N) : M 2 0 = N 0 := H.1
theorem sS.h {c n l k o r : Nat} {M : mm_I} {N : Nat → Int32} (H : sS c n l k o r M N) : M 2 1 = N 1 := H.2.1
theorem sS.fu {c n l k o r : Nat} {M : mm_I} {N : Nat → Int32} (H : sS c n l k o r M N) : M 2 7 = N 14 := H.2.2.1
theorem sS.lo {c n l k o r : Nat} {M : mm_I} {N : Nat → Int32} (H : sS c n l k o r M N) : M 2 8 = N 13 := H.2.2.2.1
theorem sS.ki {c n l k o r : Nat} {M : mm_I} {N : Nat → Int32} (H : sS c n l k o r M N) : ∀ i, i < c → M 4 i = N (30 + i) := H.2.2.2.2.1
theorem sS.du {c n l k o r : Nat} {M : mm_I} {N : Nat → Int32} (H : sS c n l k o r M N) : ∀ i, i < c → M 6 i = N (110 + i) := H.2.2.2.2.2.1
theorem sS.ic {c n l k o r : Nat} {M : mm_I} {N : Nat → Int32} (H : sS c n l k o r M N) : ∀ i, i < c → M 8 i = N (190 + i) := H.2.2.2.2.2.2.1
theorem sS.se {c n l k o r : Nat} {M : mm_I} {N : Nat → Int32} (H : sS c n l k o r M N) : ∀ y, y < c → M 10 (4 * y + 3) = N (270 + 4 * y + 3) := H.2.2.2.2.2.2.2.1
theorem sS.sf {c n l k o r : Nat} {M : mm_I} {N : Nat → Int32} (H : sS c n l k o r M N) : ∀ y j, y < c → j < 3 → 0 ≤ N (270 + 4 * y + 3) → M 10 (4 * y + j) = N (270 + 4 * y + j) := H.2.2.2.2.2.2.2.2.1
theorem sS.st {c n l k o r : Nat} {M : mm_I} {N : Nat → Int32} (H : sS c n l k o r M N) : ∀ i, i < 3 → M 12 i = N (10 + i) := H.2.2.2.2.2.2.2.2.2.1
theorem sS.p0 {c n l k o r : Nat} {M : mm_I} {N : Nat → Int32} (H : sS c n l k o r M N) : M 17 0 = N 7 := H.2.2.2.2.2.2.2.2.2.2.1
theorem sS.p1 {c n l k o r : Nat} {M : mm_I} {N : Nat → Int32} (H : sS c n l k o r M N) : ∀ i, i < 5 → M 17 (1 + i) = N (2 + i) := H.2.2.2.2.2.2.2.2.2.2.2.1
theorem sS.p6 {c n l k o r : Nat} {M : mm_I} {N : Nat → Int32} (H : sS c n l k o r M N) : M 17 6 = N 8 := H.2.2.2.2.2.2.2.2.2.2.2.2.1
theorem sS.p7 {c n l k o r : Nat} {M : mm_I} {N : Nat → Int32} (H : sS c n l k o r M N) : M 17 7 = N 9 := H.2.2.2.2.2.2.2.2.2.2.2.2.2.1
theorem sS.l0 {c n l k o r : Nat} {M : mm_I} {N : Nat → Int32} (H : sS c n l k o r M N) : ∀ i, i < l → M 19 i = N (590 + i) := H.2.2.2.2.2.2.2.2.2.2.2.2.2.2.1
theorem sS.l1 {c n l k o r : Nat} {M : mm_I} {N : Nat → Int32} (H : sS c n l k o r M N) : ∀ i, i < l → M 21 i = N (598 + i) := H.2.2.2.2.2.2.2.2.2.2.2.2.2.2.2.1
theorem sS.k0 {c n l k o r : Nat} {M : mm_I} {N : Nat → Int32} (H : sS c n l k o r M N) : ∀ i, i < k → M 24 i = N (606 + i) := H.2.2.2.2.2.2.2.2.2.2.2.2.2.2.2.2.1
theorem sS.k1 {c n l k o r : Nat} {M : mm_I} {N : Nat → Int32} (H : sS c n l k o r M N) : ∀ i, i < k → M 26 i = N (612 + i) := H.2.2.2.2.2.2.2.2.2.2.2.2.2.2.2.2.2.1
theorem sS.k2 {c n l k o r : Nat} {M : mm_I} {N : Nat → Int32} (H : sS c n l k o r M N) : ∀ i, i < k → M 28 i = N (618 + i) := H.2.2.2.2.2.2.2.2.2.2.2.2.2.2.2.2.2.2.1
theorem sS.k3 {c n l k o r : Nat} {M : mm_I} {N : Nat → Int32} (H : sS c n l k o r M N) : ∀ i, i < k → M 30 i = N (624 + i) := H.2.2.2.2.2.2.2.2.2.2.2.2.2.2.2.2.2.2.2.1
theorem sS.m {c n l k o r : Nat} {M : mm_I} {N : Nat → Int32} (H : sS c n l k o r M N) : ∀ m i, m < n → i < 7 → M (36 + 3 * m) i = N (630 + 40 * m + i) := H.2.2.2.2.2.2.2.2.2.2.2.2.2.2.2.2.2.2.2.2.1
theorem sS.o0 {c n l k o r : Nat} {M : mm_I} {N : Nat → Int32} (H : sS c n l k o r M N) : ∀ i, i < 3 * o → M 83 i = N (830 + i) := H.2.2.2.2.2.2.2.2.2.2.2.2.2.2.2.2.2.2.2.2.2.1
theorem sS.r0 {c n l k o r : Nat} {M : mm_I} {N : Nat → Int32} (H : sS c n l k o r M N) : ∀ i, i < 6 * r → M 85 i = N (866 + i) := H.2.2.2.2.2.2.2.2.2.2.2.2.2.2.2.2.2.2.2.2.2.2.1
theorem sS.cl {c n l k o r : Nat} {M : mm_I} {N : Nat → Int32} (H : sS c n l k o r M N) : ∀ a, a = 18 ∨ a = 20 → M a 1 = nI l := H.2.2.2.2.2.2.2.2.2.2.2.2.2.2.2.2.2.2.2.2.2.2.2.1
theorem sS.ck {c n l k o r : Nat} {M : mm_I} {N : Nat → Int32} (H : sS c n l k o r M N) : ∀ a, a = 23 ∨ a = 25 ∨ a = 27 ∨ a = 29 → M a 1 = nI k := H.2.2.2.2.2.2.2.2.2.2.2.2.2.2.2.2.2.2.2.2.2.2.2.2.1
theorem sS.co {c n l k o r : Nat} {M : mm_I} {N : Nat → Int32} (H : sS c n l k o r M N) : M 82 1 = nI (3 * o) := H.2.2.2.2.2.2.2.2.2.2.2.2.2.2.2.2.2.2.2.2.2.2.2.2.2.1
theorem sS.cr {c n l k o r : Nat} {M : mm_I} {N : Nat → Int32} (H : sS c n l k o r M N) : M 84 1 = nI (6 * r) := H.2.2.2.2.2.2.2.2.2.2.2.2.2.2.2.2.2.2.2.2.2.2.2.2.2.2.1
theorem sS.cn {c n l k o r : Nat} {M : mm_I} {N : Nat → Int32} (H : sS c n l k o r M N) : M 1 4 = nI n := H.2.2.2.2.2.2.2.2.2.2.2.2.2.2.2.2.2.2.2.2.2.2.2.2.2.2.2
theorem sS.mk {c n l k o r : Nat} {M : mm_I} {N : Nat → Int32} (w : M 2 0 = N 0) (h : M 2 1 = N 1) (fu : M 2 7 = N 14) (lo : M 2 8 = N 13) (ki : ∀ i, i < c → M 4 i = N (30 + i)) (du : ∀ i, i < c → M 6 i = N (110 + i)) (ic : ∀ i, i < c → M 8 i = N (190 + i)) (se : ∀ y, y < c → M 10 (4 * y + 3) = N (270 + 4 * y + 3)) (sf : ∀ y j, y < c → j < 3 → 0 ≤ N (270 + 4 * y + 3) → M 10 (4 * y + j) = N (270 + 4 * y + j)) (st : ∀ i, i < 3 → M 12 i = N (10 + i)) (p0 : M 17 0 = N 7) (p1 : ∀ i, i < 5 → M 17 (1 + i) = N (2 + i)) (p6 : M 17 6 = N 8) (p7 : M 17 7 = N 9) (l0 : ∀ i, i < l → M 19 i = N (590 + i)) (l1 : ∀ i, i < l → M 21 i = N (598 + i)) (k0 : ∀ i, i < k → M 24 i = N (606 + i)) (k1 : ∀ i, i < k → M 26 i = N (612 + i)) (k2 : ∀ i, i < k → M 28 i = N (618 + i)) (k3 : ∀ i, i < k → M 30 i = N (624 + i)) (m : ∀ m i, m < n → i < 7 → M (36 + 3 * m) i = N (630 + 40 * m + i)) (o0 : ∀ i, i < 3 * o → M 83 i = N (830 + i)) (r0 : ∀ i, i < 6 * r → M 85 i = N (866 + i)) (cl : ∀ a, a = 18 ∨ a = 20 → M a 1 = nI l) (ck : ∀ a, a = 23 ∨ a = 25 ∨ a = 27 ∨ a = 29 → M a 1 = nI k) (co : M 82 1 = nI (3 * o)) (cr : M 84 1 = nI (6 * r)) (cn : M 1 4 = nI n) : sS c n l k o r M N := ⟨w, h, fu, lo, ki, du, ic, se, sf, st, p0, p1, p6, p7, l0, l1, k0, k1, k2, k3, m, o0, r0, cl, ck, co, cr, cn⟩
theorem sS_cN {c n l k o r : Nat} {A : mm_I} {N : Nat → Int32} (hz : zOK c n l k o r) : sS c n l k o r (cN c n l k o r A N) N := by
  refine sS.mk ?_ ?_ ?_ ?_ ?_ ?_ ?_ ?_ ?_ ?_ ?_ ?_ ?_ ?_ ?_ ?_ ?_ ?_ ?_ ?_ ?_ ?_ ?_ ?_ ?_ ?_ ?_ ?_
  · exact cN_r (lo_at2.trans rfl)
  · exact cN_r (lo_at2.trans rfl)
  · exact cN_r (lo_at2.trans rfl)
  · exact cN_r (lo_at2.trans rfl)
  · exact fun i hi => s_kind hi
  · exact fun i hi => s_dust hi
  · exact fun i hi => s_ice hi
  · exact fun y hy => s_seen hy (by omega) (Or.inr rfl)
  · exact fun y j hy hj h => s_seen hy (by omega) (Or.inl h)
  · exact fun i hi => cN_r (lo_at12.trans (if_pos hi))
  · exact cN_r (lo_at17.trans rfl)
  · exact fun i hi => by
      rcases show i = 0 ∨ i = 1 ∨ i = 2 ∨ i = 3 ∨ i = 4 by omega with e | e | e | e | e <;> subst e <;> exact cN_r (lo_at17.trans rfl)
  · exact cN_r (lo_at17.trans rfl)
  · exact cN_r (lo_at17.trans rfl)
  · exact fun i hi => cN_r (lo_at19.trans (if_pos hi))
  · exact fun i hi => cN_r (lo_at21.trans (if_pos hi))
  · exact fun i hi => cN_r (lo_at24.trans (if_pos hi))
  · exact fun i hi => cN_r (lo_at26.trans (if_pos hi))
  · exact fun i hi => cN_r (lo_at28.trans (if_pos hi))
  · exact fun i hi => cN_r (lo_at30.trans (if_pos hi))
  · exact fun m i hm hi => s_m hz.2.1 hm hi
  · exact fun i hi => cN_r (lo_at83.trans (if_pos hi))
  · exact fun i hi => cN_r (lo_at85.trans (if_pos hi))
  · exact fun a ha => s_l ha
  · exact fun a ha => s_k ha
  · exact s_o
  · exact s_r hz.2.1
  · exact s_n
theorem sS_self {c n l k o r : Nat} {M : mm_I} {N : Nat → Int32} (H : sS c n l k o r M N) : M = cN c n l k o r M N := by
  refine cN_self (fun a i x h => ?_) (fun a i y h h2 => ?_)
  · by_cases e : a = 2
    · subst e; rw [lo_at2] at h; unfold lo_2 at h
      by_cases q : i = 0
      · rw [if_pos q] at h; subst q; cases h; exact H.w
      by_cases q1 : i = 1
      · rw [if_neg q, if_pos q1] at h; subst q1; cases h; exact H.h
      by_cases q2 : i = 7
      · rw [if_neg q, if_neg q1, if_pos q2] at h; subst q2; cases h; exact H.fu
      by_cases q3 : i = 8
      · rw [if_neg q, if_neg q1, if_neg q2, if_pos q3] at h; subst q3; cases h; exact H.lo
      · rw [if_neg q, if_neg q1, if_neg q2, if_neg q3] at h; exact absurd h (by simp)
    by_cases e4 : a = 4
    · subst e4; rw [lo_at4] at h; obtain ⟨q, rfl⟩ := if_some h; exact H.ki i q
    by_cases e6 : a = 6
    · subst e6; rw [lo_at6] at h; obtain ⟨q, rfl⟩ := if_some h; exact H.du i q
    by_cases e8 : a = 8
    · subst e8; rw [lo_at8] at h; obtain ⟨q, rfl⟩ := if_some h; exact H.ic i q
    by_cases e10 : a = 10
    · subst e10; rw [lo_at10] at h; obtain ⟨⟨q, q2⟩, rfl⟩ := if_some h
      by_cases q3 : i % 4 = 3
      · have := H.se (i / 4) (by omega)
        rw [show 4 * (i / 4) + 3 = i by omega, show 270 + 4 * (i / 4) + 3 = 270 + i by omega] at this; exact this
      · rcases q2 with q2 | q2
        · have q4 : 0 ≤ N (270 + 4 * (i / 4) + 3) := of_decide_eq_true q2
          have := H.sf (i / 4) (i % 4) (by omega) (by omega) q4
          rw [show 4 * (i / 4) + i % 4 = i by omega, show 270 + 4 * (i / 4) + i % 4 = 270 + i by omega] at this; exact this
        · exact absurd q2 q3
    by_cases e12 : a = 12
    · subst e12; rw [lo_at12] at h; obtain ⟨q, rfl⟩ := if_some h; exact H.st i q
    by_cases e17 : a = 17
    · subst e17; rw [lo_at17] at h
      by_cases q : i ≤ 7
      · rcases show i = 0 ∨ i = 1 ∨ i = 2 ∨ i = 3 ∨ i = 4 ∨ i = 5 ∨ i = 6 ∨ i = 7 by omega with e | e | e | e | e | e | e | e <;> subst e <;> cases h
        · exact H.p0
        · exact H.p1 0 (by decide)
        · exact H.p1 1 (by decide)
        · exact H.p1 2 (by decide)
        · exact H.p1 3 (by decide)
        · exact H.p1 4 (by decide)
        · exact H.p6
        · exact H.p7
      · unfold lo_17 at h; rw [if_neg (by omega), if_neg (by omega), if_neg (by omega), if_neg (by omega), if_neg (by omega), if_neg (by omega), if_neg (by omega), if_neg (by omega)] at h; exact absurd h (by simp)
    by_cases e19 : a = 19
    · subst e19; rw [lo_at19] at h; obtain ⟨q, rfl⟩ := if_some h; exact H.l0 i q
    by_cases e21 : a = 21
    · subst e21; rw [lo_at21] at h; obtain ⟨q, rfl⟩ := if_some h; exact H.l1 i q
    by_cases e24 : a = 24
    · subst e24; rw [lo_at24] at h; obtain ⟨q, rfl⟩ := if_some h; exact H.k0 i q
    by_cases e26 : a = 26
    · subst e26; rw [lo_at26] at h; obtain ⟨q, rfl⟩ := if_some h; exact H.k1 i q
    by_cases e28 : a = 28
    · subst e28; rw [lo_at28] at h; obtain ⟨q, rfl⟩ := if_some h; exact H.k2 i q
    by_cases e30 : a = 30
    · subst e30; rw [lo_at30] at h; obtain ⟨q, rfl⟩ := if_some h; exact H.k3 i q
    by_cases e83 : a = 83
    · subst e83; rw [lo_at83] at h; obtain ⟨q, rfl⟩ := if_some h; exact H.o0 i q
    by_cases e85 : a = 85
    · subst e85; rw [lo_at85] at h; obtain ⟨q, rfl⟩ := if_some h; exact H.r0 i q
    rw [lo_ato e e4 e6 e8 e10 e12 e17 e19 e21 e24 e26 e28 e30 e83 e85] at h
    obtain ⟨⟨q1, q2, q3, q4⟩, rfl⟩ := if_some h
    have := H.m ((a - 36) / 3) i q3 q4
    rw [show 36 + 3 * ((a - 36) / 3) = a by omega] at this; exact this
  · unfold cn_ at h2
    by_cases q1 : i = 1 ∧ (a = 18 ∨ a = 20)
    · rw [if_pos q1] at h2; cases h2; rw [q1.1]; exact H.cl a q1.2
    by_cases q2 : i = 1 ∧ (a = 23 ∨ a = 25 ∨ a = 27 ∨ a = 29)
    · rw [if_neg q1, if_pos q2] at h2; cases h2; rw [q2.1]; exact H.ck a q2.2
    by_cases q3 : i = 1 ∧ a = 82
    · rw [if_neg q1, if_neg q2, if_pos q3] at h2; cases h2; rw [q3.1, q3.2]; exact H.co
    by_cases q4 : i = 1 ∧ a = 84
    · rw [if_neg q1, if_neg q2, if_neg q3, if_pos q4] at h2; cases h2; rw [q4.1, q4.2]; exact H.cr
    by_cases q5 : i = 4 ∧ a = 1
    · rw [if_neg q1, if_neg q2, if_neg q3, if_neg q4, if_pos q5] at h2; cases h2; rw [q5.1, q5.2]; exact H.cn
    · rw [if_neg q1, if_neg q2, if_neg q3, if_neg q4, if_neg q5] at h2; exact absurd h2 (by simp)
/-- cells that show nothing -/
abbrev offC (a : Nat) : Prop := a = 0 ∨ a = 22 ∨ (13 ≤ a ∧ a ≤ 16) ∨ (31 ≤ a ∧ a ≤ 35) ∨ (51 ≤ a ∧ a < 82) ∨ 85 < a ∨ (36 ≤ a ∧ a < 51 ∧ ¬ (a - 36) % 3 = 0)
theorem lo_off {c n l k o r : Nat} {b : Nat → Bool} (hn : n ≤ 5) {a i : Nat} (h : offC a) : lo_ c n l k o r b a i = none := by
  rw [lo_ato (by omega) (by omega) (by omega) (by omega) (by omega) (by omega) (by omega) (by omega) (by omega) (by omega) (by omega) (by omega) (by omega) (by omega) (by omega), if_neg (by omega)]
theorem cn_off {n l k o r a i : Nat} (h : offC a) : cn_ n l k o r a i = none := by
  unfold cn_; rw [if_neg (by omega), if_neg (by omega), if_neg (by omega), if_neg (by omega), if_neg (by omega)]
theorem cN_off {c n l k o r : Nat} {A : mm_I} {N : Nat → Int32} (hn : n ≤ 5) {a i : Nat} (h : offC a) : cN c n l k o r A N a i = A a i := cN_j (lo_off hn h) (cn_off h)
theorem cN_dof {c n l k o r : Nat} (hn : n ≤ 5) {A : mm_I} {N : Nat → Int32} {a i : Nat} {v : Int32} (h : offC a) : mm_up (cN c n l k o r A N) a i v = cN c n l k o r (mm_up A a i v) N := cN_dn (lo_off hn h) (cn_off h)
