/-! THE CLASS: its WORKS -/
def wk_ (N : Nat → Int32) (k : Nat) (p0 p1 p2 p3 : Int32) : Nat → Int32 := upd (upd (upd (upd (upd (N) (606 + k) p0) (612 + k) p1) (618 + k) p2) (624 + k) p3) 19 (nI (k + 1))
theorem wk_at {N : Nat → Int32} {k z : Nat} {p0 p1 p2 p3 : Int32} : wk_ N k p0 p1 p2 p3 z = if z = 19 then nI (k + 1) else if z = 624 + k then p3 else if z = 618 + k then p2 else if z = 612 + k then p1 else if z = 606 + k then p0 else N z := rfl
theorem cN_work {c n l k o r : Nat} (hz : zOK c n l k o r) (hk : k < 6) {A : mm_I} {N : Nat → Int32} {p0 p1 p2 p3 : Int32} : mm_up (mm_up (mm_up (mm_up (mm_up (mm_up (mm_up (mm_up (cN c n l k o r A N) 24 k p0) 23 1 (nI (k + 1))) 26 k p1) 25 1 (nI (k + 1))) 28 k p2) 27 1 (nI (k + 1))) 30 k p3) 29 1 (nI (k + 1)) = cN c n l (k + 1) o r A (wk_ N k p0 p1 p2 p3) := by
  obtain ⟨z1, z2, z3, z4, z5, z6⟩ := id hz
  have hs := sn_c (N := N) (N' := wk_ N k p0 p1 p2 p3) z1 (fun z h1 h2 => by rw [wk_at, if_neg (by omega), if_neg (by omega), if_neg (by omega), if_neg (by omega), if_neg (by omega)])
  funext a i
  rw [up_at, up_at, up_at, up_at, up_at, up_at, up_at, up_at]
  show _ = cJ (wk_ N k p0 p1 p2 p3) (A a i) (lo_ c n l (k + 1) o r (sn_ (wk_ N k p0 p1 p2 p3)) a i) (cn_ n l (k + 1) o r a i)
  by_cases e30 : a = 30
  · subst e30
    rw [if_neg (by omega)]
    by_cases q : i = k
    · subst q; rw [if_pos ⟨rfl, rfl⟩, lo_at30, if_pos (by omega)]
      show p3 = wk_ N i p0 p1 p2 p3 (624 + i)
      rw [wk_at, if_neg (by omega), if_pos rfl]
    · rw [if_neg (fun w => q w.2), if_neg (by omega), if_neg (by omega), if_neg (by omega), if_neg (by omega), if_neg (by omega), if_neg (by omega)]
      show cJ N (A 30 i) (lo_ c n l k o r (sn_ N) 30 i) (cn_ n l k o r 30 i) = _
      rw [lo_at30, lo_at30]
      by_cases q2 : i < k
      · rw [if_pos q2, if_pos (by omega)]
        show N (624 + i) = wk_ N k p0 p1 p2 p3 (624 + i)
        rw [wk_at, if_neg (by omega), if_neg (by omega), if_neg (by omega), if_neg (by omega), if_neg (by omega)]
      · rw [if_neg q2, if_neg (by omega), cn_no (by omega), cn_no (by omega)]; rfl
  by_cases e28 : a = 28
  · subst e28
    rw [if_neg (by omega), if_neg (by omega), if_neg (by omega)]
    by_cases q : i = k
    · subst q; rw [if_pos ⟨rfl, rfl⟩, lo_at28, if_pos (by omega)]
      show p2 = wk_ N i p0 p1 p2 p3 (618 + i)
      rw [wk_at, if_neg (by omega), if_neg (by omega), if_pos rfl]
    · rw [if_neg (fun w => q w.2), if_neg (by omega), if_neg (by omega), if_neg (by omega), if_neg (by omega)]
      show cJ N (A 28 i) (lo_ c n l k o r (sn_ N) 28 i) (cn_ n l k o r 28 i) = _
      rw [lo_at28, lo_at28]
      by_cases q2 : i < k
      · rw [if_pos q2, if_pos (by omega)]
        show N (618 + i) = wk_ N k p0 p1 p2 p3 (618 + i)
        rw [wk_at, if_neg (by omega), if_neg (by omega), if_neg (by omega), if_neg (by omega), if_neg (by omega)]
      · rw [if_neg q2, if_neg (by omega), cn_no (by omega), cn_no (by omega)]; rfl
  by_cases e26 : a = 26
  · subst e26
    rw [if_neg (by omega), if_neg (by omega), if_neg (by omega), if_neg (by omega), if_neg (by omega)]
    by_cases q : i = k
    · subst q; rw [if_pos ⟨rfl, rfl⟩, lo_at26, if_pos (by omega)]
      show p1 = wk_ N i p0 p1 p2 p3 (612 + i)
      rw [wk_at, if_neg (by omega), if_neg (by omega), if_neg (by omega), if_pos rfl]
    · rw [if_neg (fun w => q w.2), if_neg (by omega), if_neg (by omega)]
      show cJ N (A 26 i) (lo_ c n l k o r (sn_ N) 26 i) (cn_ n l k o r 26 i) = _
      rw [lo_at26, lo_at26]
      by_cases q2 : i < k
      · rw [if_pos q2, if_pos (by omega)]
        show N (612 + i) = wk_ N k p0 p1 p2 p3 (612 + i)
        rw [wk_at, if_neg (by omega), if_neg (by omega), if_neg (by omega), if_neg (by omega), if_neg (by omega)]
      · rw [if_neg q2, if_neg (by omega), cn_no (by omega), cn_no (by omega)]; rfl
  by_cases e24 : a = 24
  · subst e24
    rw [if_neg (by omega), if_neg (by omega), if_neg (by omega), if_neg (by omega), if_neg (by omega), if_neg (by omega), if_neg (by omega)]
    by_cases q : i = k
    · subst q; rw [if_pos ⟨rfl, rfl⟩, lo_at24, if_pos (by omega)]
      show p0 = wk_ N i p0 p1 p2 p3 (606 + i)
      rw [wk_at, if_neg (by omega), if_neg (by omega), if_neg (by omega), if_neg (by omega), if_pos rfl]
    · rw [if_neg (fun w => q w.2)]
      show cJ N (A 24 i) (lo_ c n l k o r (sn_ N) 24 i) (cn_ n l k o r 24 i) = _
      rw [lo_at24, lo_at24]
      by_cases q2 : i < k
      · rw [if_pos q2, if_pos (by omega)]
        show N (606 + i) = wk_ N k p0 p1 p2 p3 (606 + i)
        rw [wk_at, if_neg (by omega), if_neg (by omega), if_neg (by omega), if_neg (by omega), if_neg (by omega)]
      · rw [if_neg q2, if_neg (by omega), cn_no (by omega), cn_no (by omega)]; rfl
  have hlo : lo_ c n l (k + 1) o r (sn_ (wk_ N k p0 p1 p2 p3)) a i = lo_ c n l k o r (sn_ N) a i := by
    by_cases e : a = 10
    · subst e; rw [lo_at10, lo_at10]
      by_cases q : i < 4 * c
      · rw [hs (i / 4) (by omega)]
      · rw [if_neg (fun w => q w.1), if_neg (fun w => q w.1)]
    · unfold lo_
      simp only [if_neg e, if_neg e24, if_neg e26, if_neg e28, if_neg e30]
  rw [hlo]
  by_cases ec : i = 1 ∧ (a = 23 ∨ a = 25 ∨ a = 27 ∨ a = 29)
  · have hlo2 : lo_ c n l k o r (sn_ N) a i = none := by
      rw [lo_ato (by omega) (by omega) (by omega) (by omega) (by omega) (by omega) (by omega) (by omega) (by omega) (by omega) (by omega) (by omega) (by omega) (by omega) (by omega), if_neg (by omega)]
    have hcn : cn_ n l (k + 1) o r a i = some (k + 1) := by unfold cn_; rw [if_neg (by omega), if_pos ec]
    rw [hlo2, hcn]
    rcases ec with ⟨e1, e2 | e2 | e2 | e2⟩
    · rw [if_neg (by omega), if_neg (by omega), if_neg (by omega), if_neg (by omega), if_neg (by omega), if_neg (by omega), if_pos ⟨e2, e1⟩]; rfl
    · rw [if_neg (by omega), if_neg (by omega), if_neg (by omega), if_neg (by omega), if_pos ⟨e2, e1⟩]; rfl
    · rw [if_neg (by omega), if_neg (by omega), if_pos ⟨e2, e1⟩]; rfl
    · rw [if_pos ⟨e2, e1⟩]; rfl
  · rw [if_neg (by omega), if_neg (by omega), if_neg (by omega), if_neg (by omega), if_neg (by omega), if_neg (by omega), if_neg (by omega), if_neg (by omega)]
    have hcn : cn_ n l (k + 1) o r a i = cn_ n l k o r a i := by unfold cn_; rw [if_neg ec, if_neg ec]
    rw [hcn]
    refine (cJ_c (fun z hz2 => ?_)).symm
    have hiv := lo_iv hz hz2
    have hrg := lo_rg hz2
    rw [wk_at, if_neg (by omega), if_neg (fun q => ?_), if_neg (fun q => ?_), if_neg (fun q => ?_), if_neg (fun q => ?_)]
    · subst q; rw [iv_24 (by omega)] at hiv; exact e24 (congrArg Prod.fst hiv).symm
    · subst q; rw [iv_26 (by omega)] at hiv; exact e26 (congrArg Prod.fst hiv).symm
    · subst q; rw [iv_28 (by omega)] at hiv; exact e28 (congrArg Prod.fst hiv).symm
    · subst q; rw [iv_30 (by omega)] at hiv; exact e30 (congrArg Prod.fst hiv).symm
