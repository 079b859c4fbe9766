/-! THE CLASS: its reader's memory -/
def cz (I : mm_I) (T : Nat → Int32) (t : Nat) (ok : Bool) (k : Nat) (fr : Bool) (st : Nat) (Af : Nat → Int32) (an : Nat) (Sf : Nat → Int32) (sn : Nat) (Bf : Nat → Int32) (bn : Nat) : mm_I := fun a =>
  if a = 176 then (fun i => if i = 3 then (if fr = true then 1 else 0) else if i = 4 then nI k else if i = 5 then ckd (tK T t k) else if i = 6 then (if ok = true then -1 else nI (tq T t k).1) else I 176 i)
  else if a = 184 then (fun i => if i = 2 then nI st else I 184 i)
  else if a = 185 then (fun i => if i = 1 then nI an else I 185 i) else if a = 186 then Af
  else if a = 187 then (fun i => if i = 1 then nI sn else I 187 i) else if a = 188 then Sf
  else if a = 189 then (fun i => if i = 1 then nI bn else I 189 i) else if a = 190 then Bf else I a
theorem mm_up_fn {I : mm_I} {a i : Nat} {v : Int32} : mm_up I a i v = fun b => if b = a then upd (I a) i v else I b := by
  funext b j; unfold mm_up upd
  by_cases e : b = a
  · rw [if_pos e, if_pos e]
  · rw [if_neg e, if_neg e]
theorem cz_n {I : mm_I} {T : Nat → Int32} {t : Nat} {ok : Bool} {k : Nat} {fr : Bool} {st : Nat} {Af : Nat → Int32} {an : Nat} {Sf : Nat → Int32} {sn : Nat} {Bf : Nat → Int32} {bn a : Nat} (h : a ≠ 176) (h2 : a < 184 ∨ 190 < a) : cz I T t ok k fr st Af an Sf sn Bf bn a = I a := by
  unfold cz; rw [if_neg h, if_neg (by omega), if_neg (by omega), if_neg (by omega), if_neg (by omega), if_neg (by omega), if_neg (by omega), if_neg (by omega)]
theorem cz_176 {I : mm_I} {T : Nat → Int32} {t : Nat} {ok : Bool} {k : Nat} {fr : Bool} {st : Nat} {Af : Nat → Int32} {an : Nat} {Sf : Nat → Int32} {sn : Nat} {Bf : Nat → Int32} {bn : Nat} {i : Nat} : cz I T t ok k fr st Af an Sf sn Bf bn 176 i = (if i = 3 then (if fr = true then 1 else 0) else if i = 4 then nI k else if i = 5 then ckd (tK T t k) else if i = 6 then (if ok = true then -1 else nI (tq T t k).1) else I 176 i) := rfl
theorem cz_fr1 {I : mm_I} {T : Nat → Int32} {t : Nat} {ok : Bool} {k : Nat} {fr : Bool} {st : Nat} {Af : Nat → Int32} {an : Nat} {Sf : Nat → Int32} {sn : Nat} {Bf : Nat → Int32} {bn : Nat} : mm_up (cz I T t ok k fr st Af an Sf sn Bf bn) 176 3 1 = cz I T t ok k true st Af an Sf sn Bf bn := by
  funext a i
  by_cases e : a = 176
  · subst e
    by_cases q : i = 3
    · subst q; rw [mm_up_at]; rfl
    · rw [mm_up_ni q, cz_176, cz_176]
      repeat' split
      all_goals first | rfl | (exfalso; omega) | simp_all
  · rw [mm_up_ne e]
    unfold cz
    rw [if_neg e, if_neg e]
theorem cz_fr0 {I : mm_I} {T : Nat → Int32} {t : Nat} {ok : Bool} {k : Nat} {fr : Bool} {st : Nat} {Af : Nat → Int32} {an : Nat} {Sf : Nat → Int32} {sn : Nat} {Bf : Nat → Int32} {bn : Nat} : mm_up (cz I T t ok k fr st Af an Sf sn Bf bn) 176 3 0 = cz I T t ok k false st Af an Sf sn Bf bn := by
  funext a i
  by_cases e : a = 176
  · subst e
    by_cases q : i = 3
    · subst q; rw [mm_up_at]; rfl
    · rw [mm_up_ni q, cz_176, cz_176]
      repeat' split
      all_goals first | rfl | (exfalso; omega) | simp_all
  · rw [mm_up_ne e]
    unfold cz
    rw [if_neg e, if_neg e]
theorem cz_fail {I : mm_I} {T : Nat → Int32} {t : Nat} {ok : Bool} {k : Nat} {fr : Bool} {st : Nat} {Af : Nat → Int32} {an : Nat} {Sf : Nat → Int32} {sn : Nat} {Bf : Nat → Int32} {bn : Nat} (h : ok = true) : mm_up (cz I T t ok k fr st Af an Sf sn Bf bn) 176 6 (nI (tq T t k).1) = cz I T t false k fr st Af an Sf sn Bf bn := by
  subst h
  funext a i
  by_cases e : a = 176
  · subst e
    by_cases q : i = 6
    · subst q; rw [mm_up_at]; rfl
    · rw [mm_up_ni q, cz_176, cz_176]
      repeat' split
      all_goals first | rfl | (exfalso; omega) | simp_all
  · rw [mm_up_ne e]
    unfold cz
    rw [if_neg e, if_neg e]
theorem cz_adv {I : mm_I} {T : Nat → Int32} {t : Nat} {ok : Bool} {k : Nat} {fr : Bool} {st : Nat} {Af : Nat → Int32} {an : Nat} {Sf : Nat → Int32} {sn : Nat} {Bf : Nat → Int32} {bn : Nat} (h : ok = true) : mm_up (mm_up (cz I T t ok k fr st Af an Sf sn Bf bn) 176 4 (nI (k + 1))) 176 5 (ckd (tK T t (k + 1))) = cz I T t ok (k + 1) fr st Af an Sf sn Bf bn := by
  subst h
  funext a i
  by_cases e : a = 176
  · subst e
    by_cases q : i = 5
    · subst q; rw [mm_up_at]; rfl
    · rw [mm_up_ni q]
      by_cases q2 : i = 4
      · subst q2; rw [mm_up_at]; rfl
      · rw [mm_up_ni q2, cz_176, cz_176]
        repeat' split
        all_goals first | rfl | (exfalso; omega) | simp_all
  · rw [mm_up_ne e, mm_up_ne e]
    unfold cz
    rw [if_neg e, if_neg e]
theorem cz_st {I : mm_I} {T : Nat → Int32} {t : Nat} {ok : Bool} {k : Nat} {fr : Bool} {st : Nat} {Af : Nat → Int32} {an : Nat} {Sf : Nat → Int32} {sn : Nat} {Bf : Nat → Int32} {bn : Nat} {v : Nat} : mm_up (cz I T t ok k fr st Af an Sf sn Bf bn) 184 2 (nI v) = cz I T t ok k fr v Af an Sf sn Bf bn := by
  funext a i
  by_cases e : a = 184
  · subst e
    by_cases q : i = 2
    · subst q; rw [mm_up_at]; rfl
    · rw [mm_up_ni q]
      show (if i = 2 then _ else I 184 i) = (if i = 2 then _ else I 184 i)
      rw [if_neg q, if_neg q]
  · rw [mm_up_ne e]
    unfold cz
    simp only [if_neg e]
theorem cz_addA {I : mm_I} {T : Nat → Int32} {t : Nat} {ok : Bool} {k : Nat} {fr : Bool} {st : Nat} {Af : Nat → Int32} {an : Nat} {Sf : Nat → Int32} {sn : Nat} {Bf : Nat → Int32} {bn : Nat} {v : Int32} : mm_up (mm_up (cz I T t ok k fr st Af an Sf sn Bf bn) 186 an v) 185 1 (nI (an + 1)) = cz I T t ok k fr st (upd Af an v) (an + 1) Sf sn Bf bn := by
  funext a i
  by_cases e : a = 185
  · subst e
    by_cases q : i = 1
    · subst q; rw [mm_up_at]; rfl
    · rw [mm_up_ni q, mm_up_ne (by decide)]
      show (if i = 1 then _ else I 185 i) = (if i = 1 then _ else I 185 i)
      rw [if_neg q, if_neg q]
  · rw [mm_up_ne e]
    by_cases e2 : a = 186
    · subst e2
      rw [mm_up_self]; rfl
    · rw [mm_up_ne e2]
      unfold cz
      simp only [if_neg e, if_neg e2]
theorem cz_sizA {I : mm_I} {T : Nat → Int32} {t : Nat} {ok : Bool} {k : Nat} {fr : Bool} {st : Nat} {Af : Nat → Int32} {an : Nat} {Sf : Nat → Int32} {sn : Nat} {Bf : Nat → Int32} {bn : Nat} {v : Nat} : mm_up (cz I T t ok k fr st Af an Sf sn Bf bn) 185 1 (nI v) = cz I T t ok k fr st Af v Sf sn Bf bn := by
  funext a i
  by_cases e : a = 185
  · subst e
    by_cases q : i = 1
    · subst q; rw [mm_up_at]; rfl
    · rw [mm_up_ni q]
      show (if i = 1 then _ else I 185 i) = (if i = 1 then _ else I 185 i)
      rw [if_neg q, if_neg q]
  · rw [mm_up_ne e]
    unfold cz
    simp only [if_neg e]
theorem cz_addS {I : mm_I} {T : Nat → Int32} {t : Nat} {ok : Bool} {k : Nat} {fr : Bool} {st : Nat} {Af : Nat → Int32} {an : Nat} {Sf : Nat → Int32} {sn : Nat} {Bf : Nat → Int32} {bn : Nat} {v : Int32} : mm_up (mm_up (cz I T t ok k fr st Af an Sf sn Bf bn) 188 sn v) 187 1 (nI (sn + 1)) = cz I T t ok k fr st Af an (upd Sf sn v) (sn + 1) Bf bn := by
  funext a i
  by_cases e : a = 187
  · subst e
    by_cases q : i = 1
    · subst q; rw [mm_up_at]; rfl
    · rw [mm_up_ni q, mm_up_ne (by decide)]
      show (if i = 1 then _ else I 187 i) = (if i = 1 then _ else I 187 i)
      rw [if_neg q, if_neg q]
  · rw [mm_up_ne e]
    by_cases e2 : a = 188
    · subst e2
      rw [mm_up_self]; rfl
    · rw [mm_up_ne e2]
      unfold cz
      simp only [if_neg e, if_neg e2]
theorem cz_sizS {I : mm_I} {T : Nat → Int32} {t : Nat} {ok : Bool} {k : Nat} {fr : Bool} {st : Nat} {Af : Nat → Int32} {an : Nat} {Sf : Nat → Int32} {sn : Nat} {Bf : Nat → Int32} {bn : Nat} {v : Nat} : mm_up (cz I T t ok k fr st Af an Sf sn Bf bn) 187 1 (nI v) = cz I T t ok k fr st Af an Sf v Bf bn := by
  funext a i
  by_cases e : a = 187
  · subst e
    by_cases q : i = 1
    · subst q; rw [mm_up_at]; rfl
    · rw [mm_up_ni q]
      show (if i = 1 then _ else I 187 i) = (if i = 1 then _ else I 187 i)
      rw [if_neg q, if_neg q]
  · rw [mm_up_ne e]
    unfold cz
    simp only [if_neg e]
theorem cz_addB {I : mm_I} {T : Nat → Int32} {t : Nat} {ok : Bool} {k : Nat} {fr : Bool} {st : Nat} {Af : Nat → Int32} {an : Nat} {Sf : Nat → Int32} {sn : Nat} {Bf : Nat → Int32} {bn : Nat} {v : Int32} : mm_up (mm_up (cz I T t ok k fr st Af an Sf sn Bf bn) 190 bn v) 189 1 (nI (bn + 1)) = cz I T t ok k fr st Af an Sf sn (upd Bf bn v) (bn + 1) := by
  funext a i
  by_cases e : a = 189
  · subst e
    by_cases q : i = 1
    · subst q; rw [mm_up_at]; rfl
    · rw [mm_up_ni q, mm_up_ne (by decide)]
      show (if i = 1 then _ else I 189 i) = (if i = 1 then _ else I 189 i)
      rw [if_neg q, if_neg q]
  · rw [mm_up_ne e]
    by_cases e2 : a = 190
    · subst e2
      rw [mm_up_self]; rfl
    · rw [mm_up_ne e2]
      unfold cz
      simp only [if_neg e, if_neg e2]
theorem cz_sizB {I : mm_I} {T : Nat → Int32} {t : Nat} {ok : Bool} {k : Nat} {fr : Bool} {st : Nat} {Af : Nat → Int32} {an : Nat} {Sf : Nat → Int32} {sn : Nat} {Bf : Nat → Int32} {bn : Nat} {v : Nat} : mm_up (cz I T t ok k fr st Af an Sf sn Bf bn) 189 1 (nI v) = cz I T t ok k fr st Af an Sf sn Bf v := by
  funext a i
  by_cases e : a = 189
  · subst e
    by_cases q : i = 1
    · subst q; rw [mm_up_at]; rfl
    · rw [mm_up_ni q]
      show (if i = 1 then _ else I 189 i) = (if i = 1 then _ else I 189 i)
      rw [if_neg q, if_neg q]
  · rw [mm_up_ne e]
    unfold cz
    simp only [if_neg e]
theorem cz_setA {I : mm_I} {T : Nat → Int32} {t : Nat} {ok : Bool} {k : Nat} {fr : Bool} {st : Nat} {Af : Nat → Int32} {an : Nat} {Sf : Nat → Int32} {sn : Nat} {Bf : Nat → Int32} {bn : Nat} {x : Nat} {v : Int32} : mm_up (cz I T t ok k fr st Af an Sf sn Bf bn) 186 x v = cz I T t ok k fr st (upd Af x v) an Sf sn Bf bn := by
  funext a i
  by_cases e : a = 186
  · subst e; rw [mm_up_self]; rfl
  · rw [mm_up_ne e]
    unfold cz
    simp only [if_neg e]
/-- numbers of what stands here -/
abbrev rng (x : Nat) : Prop := x < 256 ∨ (300 ≤ x ∧ x < 311) ∨ (400 ≤ x ∧ x < 405)
theorem tK_rng {T : Nat → Int32} {t k : Nat} (hB : tp_ok T t) : rng (tK T t k) := by
  show rng (tkd T (tq T t k))
  rcases tkd_in hB (tq_good T t k) with ⟨a, b⟩ | ⟨a, b⟩ | ⟨a, b⟩ | ⟨a, -, -, b⟩ | ⟨a, -, j, hj, -, b⟩ | ⟨a, -, -, -, b⟩ | ⟨-, a, b⟩ <;> unfold rng <;> omega
theorem ckd_i {x : Nat} (h : rng x) : (ckd x = -102 ↔ x = 401) ∧ (ckd x = -103 ↔ x = 402) ∧ (ckd x = 33 ↔ x = 33) ∧ (ckd x = 40 ↔ x = 40) ∧ (ckd x = 41 ↔ x = 41) ∧ (ckd x = 123 ↔ x = 123) ∧ (ckd x = 125 ↔ x = 125) ∧ (ckd x = -101 ↔ x = 400) ∧ (ckd x = -104 ↔ x = 403) := by
  have h0 : ∀ x, x < 405 → rng x → (ckd x = -102 ↔ x = 401) := by decide +kernel
  have h1 : ∀ x, x < 405 → rng x → (ckd x = -103 ↔ x = 402) := by decide +kernel
  have h2 : ∀ x, x < 405 → rng x → (ckd x = 33 ↔ x = 33) := by decide +kernel
  have h3 : ∀ x, x < 405 → rng x → (ckd x = 40 ↔ x = 40) := by decide +kernel
  have h4 : ∀ x, x < 405 → rng x → (ckd x = 41 ↔ x = 41) := by decide +kernel
  have h5 : ∀ x, x < 405 → rng x → (ckd x = 123 ↔ x = 123) := by decide +kernel
  have h6 : ∀ x, x < 405 → rng x → (ckd x = 125 ↔ x = 125) := by decide +kernel
  have h7 : ∀ x, x < 405 → rng x → (ckd x = -101 ↔ x = 400) := by decide +kernel
  have h8 : ∀ x, x < 405 → rng x → (ckd x = -104 ↔ x = 403) := by decide +kernel
  have hx : x < 405 := by unfold rng at h; omega
  exact ⟨h0 x hx h, h1 x hx h, h2 x hx h, h3 x hx h, h4 x hx h, h5 x hx h, h6 x hx h, h7 x hx h, h8 x hx h⟩
theorem ckd_lo {x : Nat} (h : rng x) (h2 : ¬ lo x < 5) : Op.lookupswitch.offset [(38, 77), (42, 83), (43, 81), (45, 81), (60, 79), (61, 79), (62, 79), (124, 75)] 85 (ckd x).toInt = 85 := by
  have hh : ∀ x, x < 405 → rng x → ¬ lo x < 5 → Op.lookupswitch.offset [(38, 77), (42, 83), (43, 81), (45, 81), (60, 79), (61, 79), (62, 79), (124, 75)] 85 (ckd x).toInt = 85 := by decide +kernel
  exact hh x (by unfold rng at h; omega) h h2
set_option maxRecDepth 100000 in
set_option maxHeartbeats 600000 in
theorem ck_loose {g : mm_G} {S : mm_Sh} {I : mm_I} {d x : Nat} (hx : rng x) : mm_Ci g zX2_looseness d [.int (ckd x)] S I (nI (lo x)) I := by
  refine mm_Ci_of (fun Q hq => ?_)
  refine mm_begin (ls := [(0, .int (ckd x))]) (Nat.le_of_ble_eq_true rfl) rfl rfl ?_
  refine mm_iload_n 0 dX2_looseness_0 rfl rfl ?_
  by_cases e38 : x = 38
  · subst e38
    refine mm_lookup (off := 77) (tgt := 78) dX2_looseness_1 (by decide) (by decide) (by decide) ?_
    refine mm_iconst (v := 1) dX2_looseness_78 rfl ?_
    refine mm_iret dX2_looseness_79 rfl ⟨Nat.le_refl _, Nat.le_refl _⟩ ?_
    exact hq
  by_cases e42 : x = 42
  · subst e42
    refine mm_lookup (off := 83) (tgt := 84) dX2_looseness_1 (by decide) (by decide) (by decide) ?_
    refine mm_iconst (v := 4) dX2_looseness_84 rfl ?_
    refine mm_iret dX2_looseness_85 rfl ⟨Nat.le_refl _, Nat.le_refl _⟩ ?_
    exact hq
  by_cases e43 : x = 43
  · subst e43
    refine mm_lookup (off := 81) (tgt := 82) dX2_looseness_1 (by decide) (by decide) (by decide) ?_
    refine mm_iconst (v := 3) dX2_looseness_82 rfl ?_
    refine mm_iret dX2_looseness_83 rfl ⟨Nat.le_refl _, Nat.le_refl _⟩ ?_
    exact hq
  by_cases e45 : x = 45
  · subst e45
    refine mm_lookup (off := 81) (tgt := 82) dX2_looseness_1 (by decide) (by decide) (by decide) ?_
    refine mm_iconst (v := 3) dX2_looseness_82 rfl ?_
    refine mm_iret dX2_looseness_83 rfl ⟨Nat.le_refl _, Nat.le_refl _⟩ ?_
    exact hq
  by_cases e60 : x = 60
  · subst e60
    refine mm_lookup (off := 79) (tgt := 80) dX2_looseness_1 (by decide) (by decide) (by decide) ?_
    refine mm_iconst (v := 2) dX2_looseness_80 rfl ?_
    refine mm_iret dX2_looseness_81 rfl ⟨Nat.le_refl _, Nat.le_refl _⟩ ?_
    exact hq
  by_cases e61 : x = 61
  · subst e61
    refine mm_lookup (off := 79) (tgt := 80) dX2_looseness_1 (by decide) (by decide) (by decide) ?_
    refine mm_iconst (v := 2) dX2_looseness_80 rfl ?_
    refine mm_iret dX2_looseness_81 rfl ⟨Nat.le_refl _, Nat.le_refl _⟩ ?_
    exact hq
  by_cases e62 : x = 62
  · subst e62
    refine mm_lookup (off := 79) (tgt := 80) dX2_looseness_1 (by decide) (by decide) (by decide) ?_
    refine mm_iconst (v := 2) dX2_looseness_80 rfl ?_
    refine mm_iret dX2_looseness_81 rfl ⟨Nat.le_refl _, Nat.le_refl _⟩ ?_
    exact hq
  by_cases e124 : x = 124
  · subst e124
    refine mm_lookup (off := 75) (tgt := 76) dX2_looseness_1 (by decide) (by decide) (by decide) ?_
    refine mm_iconst (v := 0) dX2_looseness_76 rfl ?_
    refine mm_iret dX2_looseness_77 rfl ⟨Nat.le_refl _, Nat.le_refl _⟩ ?_
    exact hq
  have hlo : lo x = 5 := by unfold lo; simp [e38, e42, e43, e45, e60, e61, e62, e124]
  refine mm_lookup (off := 85) (tgt := 86) dX2_looseness_1 (by decide) (ckd_lo hx (by omega)) (by decide) ?_
  rw [hlo] at hq
  refine mm_iconst (v := 5) dX2_looseness_86 rfl ?_
  refine mm_iret dX2_looseness_87 rfl ⟨Nat.le_refl _, Nat.le_refl _⟩ ?_
  exact hq
