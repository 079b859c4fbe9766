/-! THE REFERENCE'S READER: its memory while it reads, and its tokens -/
theorem mm_mem {g : mm_G} {y : mm_M} {d : Nat} {Al Mt : Nat × Nat} {S : mm_Sh} {I J : mm_I} {pc : Nat} {ls : List (Nat × Value)} {st : List Value} {Q : Option Value → mm_Sh → mm_I → Prop} (h : I = J) (k : mm_Ex g y d Al Mt S J pc ls st Q) : mm_Ex g y d Al Mt S I pc ls st Q := by rw [h]; exact k
/-- a row of the base with codes of program p -/
def nc (N : Nat → Int32) (p : Nat) (CS : List Nat) : Nat → Int32 := fun x => if x = 1226 + 418 * p + 257 then nI CS.length else if 1226 + 418 * p + 258 ≤ x ∧ x < 1226 + 418 * p + 258 + CS.length then nI (CS.getD (x - (1226 + 418 * p + 258)) 0) else N x
def pz (J : mm_I) (p : Nat) (q : Nat × Nat × Nat) (fl bs br ns : Nat) (N : Nat → Int32) (CS : List Nat) : mm_I := fun a => if a = 201 then nc N p CS else if a = 200 then (fun i => if i = 11 then nI q.1 else if i = 12 then nI q.2.1 else if i = 13 then nI q.2.2 else if i = 14 then nI fl else if i = 15 then nI bs else if i = 16 then nI br else if i = 17 then nI ns else J 200 i) else J a
theorem pz_n {J : mm_I} {p : Nat} {q : Nat × Nat × Nat} {fl bs br ns : Nat} {N : Nat → Int32} {CS : List Nat} {a : Nat} (h1 : a ≠ 201) (h2 : a ≠ 200) : pz J p q fl bs br ns N CS a = J a := by unfold pz; rw [if_neg h1, if_neg h2]
theorem pz_200 {J : mm_I} {p : Nat} {q : Nat × Nat × Nat} {fl bs br ns : Nat} {N : Nat → Int32} {CS : List Nat} {i : Nat} (h : i < 11 ∨ 17 < i) : pz J p q fl bs br ns N CS 200 i = J 200 i := by
  show (if i = 11 then _ else if i = 12 then _ else if i = 13 then _ else if i = 14 then _ else if i = 15 then _ else if i = 16 then _ else if i = 17 then _ else J 200 i) = _
  rw [if_neg (by omega), if_neg (by omega), if_neg (by omega), if_neg (by omega), if_neg (by omega), if_neg (by omega), if_neg (by omega)]
theorem pz_11 {J : mm_I} {p : Nat} {q : Nat × Nat × Nat} {fl bs br ns v : Nat} {N : Nat → Int32} {CS : List Nat} : mm_up (pz J p q fl bs br ns N CS) 200 11 (nI v) = pz J p (v, q.2) fl bs br ns N CS := by
  funext a i
  by_cases e : a = 200
  · subst e
    by_cases e2 : i = 11
    · subst e2; rw [mm_up_at]; rfl
    · rw [mm_up_ni e2]
      show (if i = 11 then _ else if i = 12 then _ else if i = 13 then _ else if i = 14 then _ else if i = 15 then _ else if i = 16 then _ else if i = 17 then _ else J 200 i) = (if i = 11 then _ else if i = 12 then _ else if i = 13 then _ else if i = 14 then _ else if i = 15 then _ else if i = 16 then _ else if i = 17 then _ else J 200 i)
      repeat' split
      all_goals first | rfl | (exfalso; omega)
  · rw [mm_up_ne e]
    unfold pz
    by_cases e2 : a = 201
    · rw [if_pos e2, if_pos e2]
    · rw [if_neg e2, if_neg e2, if_neg e, if_neg e]
theorem pz_12 {J : mm_I} {p : Nat} {q : Nat × Nat × Nat} {fl bs br ns v : Nat} {N : Nat → Int32} {CS : List Nat} : mm_up (pz J p q fl bs br ns N CS) 200 12 (nI v) = pz J p (q.1, v, q.2.2) fl bs br ns N CS := by
  funext a i
  by_cases e : a = 200
  · subst e
    by_cases e2 : i = 12
    · subst e2; rw [mm_up_at]; rfl
    · rw [mm_up_ni e2]
      show (if i = 11 then _ else if i = 12 then _ else if i = 13 then _ else if i = 14 then _ else if i = 15 then _ else if i = 16 then _ else if i = 17 then _ else J 200 i) = (if i = 11 then _ else if i = 12 then _ else if i = 13 then _ else if i = 14 then _ else if i = 15 then _ else if i = 16 then _ else if i = 17 then _ else J 200 i)
      repeat' split
      all_goals first | rfl | (exfalso; omega)
  · rw [mm_up_ne e]
    unfold pz
    by_cases e2 : a = 201
    · rw [if_pos e2, if_pos e2]
    · rw [if_neg e2, if_neg e2, if_neg e, if_neg e]
theorem pz_13 {J : mm_I} {p : Nat} {q : Nat × Nat × Nat} {fl bs br ns v : Nat} {N : Nat → Int32} {CS : List Nat} : mm_up (pz J p q fl bs br ns N CS) 200 13 (nI v) = pz J p (q.1, q.2.1, v) fl bs br ns N CS := by
  funext a i
  by_cases e : a = 200
  · subst e
    by_cases e2 : i = 13
    · subst e2; rw [mm_up_at]; rfl
    · rw [mm_up_ni e2]
      show (if i = 11 then _ else if i = 12 then _ else if i = 13 then _ else if i = 14 then _ else if i = 15 then _ else if i = 16 then _ else if i = 17 then _ else J 200 i) = (if i = 11 then _ else if i = 12 then _ else if i = 13 then _ else if i = 14 then _ else if i = 15 then _ else if i = 16 then _ else if i = 17 then _ else J 200 i)
      repeat' split
      all_goals first | rfl | (exfalso; omega)
  · rw [mm_up_ne e]
    unfold pz
    by_cases e2 : a = 201
    · rw [if_pos e2, if_pos e2]
    · rw [if_neg e2, if_neg e2, if_neg e, if_neg e]
theorem pz_14 {J : mm_I} {p : Nat} {q : Nat × Nat × Nat} {fl bs br ns v : Nat} {N : Nat → Int32} {CS : List Nat} : mm_up (pz J p q fl bs br ns N CS) 200 14 (nI v) = pz J p q v bs br ns N CS := by
  funext a i
  by_cases e : a = 200
  · subst e
    by_cases e2 : i = 14
    · subst e2; rw [mm_up_at]; rfl
    · rw [mm_up_ni e2]
      show (if i = 11 then _ else if i = 12 then _ else if i = 13 then _ else if i = 14 then _ else if i = 15 then _ else if i = 16 then _ else if i = 17 then _ else J 200 i) = (if i = 11 then _ else if i = 12 then _ else if i = 13 then _ else if i = 14 then _ else if i = 15 then _ else if i = 16 then _ else if i = 17 then _ else J 200 i)
      repeat' split
      all_goals first | rfl | (exfalso; omega)
  · rw [mm_up_ne e]
    unfold pz
    by_cases e2 : a = 201
    · rw [if_pos e2, if_pos e2]
    · rw [if_neg e2, if_neg e2, if_neg e, if_neg e]
theorem pz_15 {J : mm_I} {p : Nat} {q : Nat × Nat × Nat} {fl bs br ns v : Nat} {N : Nat → Int32} {CS : List Nat} : mm_up (pz J p q fl bs br ns N CS) 200 15 (nI v) = pz J p q fl v br ns N CS := by
  funext a i
  by_cases e : a = 200
  · subst e
    by_cases e2 : i = 15
    · subst e2; rw [mm_up_at]; rfl
    · rw [mm_up_ni e2]
      show (if i = 11 then _ else if i = 12 then _ else if i = 13 then _ else if i = 14 then _ else if i = 15 then _ else if i = 16 then _ else if i = 17 then _ else J 200 i) = (if i = 11 then _ else if i = 12 then _ else if i = 13 then _ else if i = 14 then _ else if i = 15 then _ else if i = 16 then _ else if i = 17 then _ else J 200 i)
      repeat' split
      all_goals first | rfl | (exfalso; omega)
  · rw [mm_up_ne e]
    unfold pz
    by_cases e2 : a = 201
    · rw [if_pos e2, if_pos e2]
    · rw [if_neg e2, if_neg e2, if_neg e, if_neg e]
theorem pz_16 {J : mm_I} {p : Nat} {q : Nat × Nat × Nat} {fl bs br ns v : Nat} {N : Nat → Int32} {CS : List Nat} : mm_up (pz J p q fl bs br ns N CS) 200 16 (nI v) = pz J p q fl bs v ns N CS := by
  funext a i
  by_cases e : a = 200
  · subst e
    by_cases e2 : i = 16
    · subst e2; rw [mm_up_at]; rfl
    · rw [mm_up_ni e2]
      show (if i = 11 then _ else if i = 12 then _ else if i = 13 then _ else if i = 14 then _ else if i = 15 then _ else if i = 16 then _ else if i = 17 then _ else J 200 i) = (if i = 11 then _ else if i = 12 then _ else if i = 13 then _ else if i = 14 then _ else if i = 15 then _ else if i = 16 then _ else if i = 17 then _ else J 200 i)
      repeat' split
      all_goals first | rfl | (exfalso; omega)
  · rw [mm_up_ne e]
    unfold pz
    by_cases e2 : a = 201
    · rw [if_pos e2, if_pos e2]
    · rw [if_neg e2, if_neg e2, if_neg e, if_neg e]
theorem pz_17 {J : mm_I} {p : Nat} {q : Nat × Nat × Nat} {fl bs br ns v : Nat} {N : Nat → Int32} {CS : List Nat} : mm_up (pz J p q fl bs br ns N CS) 200 17 (nI v) = pz J p q fl bs br v N CS := by
  funext a i
  by_cases e : a = 200
  · subst e
    by_cases e2 : i = 17
    · subst e2; rw [mm_up_at]; rfl
    · rw [mm_up_ni e2]
      show (if i = 11 then _ else if i = 12 then _ else if i = 13 then _ else if i = 14 then _ else if i = 15 then _ else if i = 16 then _ else if i = 17 then _ else J 200 i) = (if i = 11 then _ else if i = 12 then _ else if i = 13 then _ else if i = 14 then _ else if i = 15 then _ else if i = 16 then _ else if i = 17 then _ else J 200 i)
      repeat' split
      all_goals first | rfl | (exfalso; omega)
  · rw [mm_up_ne e]
    unfold pz
    by_cases e2 : a = 201
    · rw [if_pos e2, if_pos e2]
    · rw [if_neg e2, if_neg e2, if_neg e, if_neg e]
theorem nc_add {N : Nat → Int32} {p c : Nat} {CS : List Nat} : upd (upd (nc N p CS) (1226 + 418 * p + 258 + CS.length) (nI c)) (1226 + 418 * p + 257) (nI (CS.length + 1)) = nc N p (CS ++ [c]) := by
  funext x
  unfold upd nc
  have hl : (CS ++ [c]).length = CS.length + 1 := by simp
  rw [hl]
  by_cases e1 : x = 1226 + 418 * p + 257
  · simp only [if_pos e1]
  · by_cases e2 : x = 1226 + 418 * p + 258 + CS.length
    · have e3 : 1226 + 418 * p + 258 ≤ x ∧ x < 1226 + 418 * p + 258 + (CS.length + 1) := by omega
      simp only [if_neg e1, if_pos e2, if_pos e3]
      rw [e2, show 1226 + 418 * p + 258 + CS.length - (1226 + 418 * p + 258) = CS.length by omega]
      simp
    · by_cases e3 : 1226 + 418 * p + 258 ≤ x ∧ x < 1226 + 418 * p + 258 + CS.length
      · simp only [if_neg e1, if_neg e2, if_pos e3, if_pos (show 1226 + 418 * p + 258 ≤ x ∧ x < 1226 + 418 * p + 258 + (CS.length + 1) from by omega)]
        congr 1
        rw [List.getD_eq_getElem?_getD, List.getD_eq_getElem?_getD, List.getElem?_append_left (by omega)]
      · simp only [if_neg e1, if_neg e2, if_neg e3, if_neg (show ¬ (1226 + 418 * p + 258 ≤ x ∧ x < 1226 + 418 * p + 258 + (CS.length + 1)) from by omega)]
theorem nc_up {N : Nat → Int32} {p x : Nat} {v : Int32} {CS : List Nat} (h : x < 1226 + 418 * p + 257 ∨ 1226 + 418 * p + 258 + CS.length ≤ x) : upd (nc N p CS) x v = nc (upd N x v) p CS := by
  funext y
  by_cases e : y = x
  · subst e
    show (if y = y then v else nc N p CS y) = nc (upd N y v) p CS y
    rw [if_pos rfl]
    unfold nc
    rw [if_neg (by omega), if_neg (by omega)]
    show v = (if y = y then v else N y)
    rw [if_pos rfl]
  · show (if y = x then v else nc N p CS y) = nc (upd N x v) p CS y
    rw [if_neg e]
    unfold nc
    rw [show upd N x v y = N y from by show (if y = x then v else N y) = N y; rw [if_neg e]]
theorem nc_n {N : Nat → Int32} {p x : Nat} {CS : List Nat} (h : x < 1226 + 418 * p + 257 ∨ 1226 + 418 * p + 258 + CS.length ≤ x) : nc N p CS x = N x := by
  unfold nc; rw [if_neg (by omega), if_neg (by omega)]
theorem nc_c {N : Nat → Int32} {p : Nat} {CS : List Nat} : nc N p CS (1226 + 418 * p + 257) = nI CS.length := by unfold nc; rw [if_pos rfl]
theorem pz_r {J : mm_I} {p : Nat} {q : Nat × Nat × Nat} {fl bs br ns x : Nat} {N M : Nat → Int32} {CS CS' : List Nat} {v : Int32} (h : upd (nc N p CS) x v = nc M p CS') : mm_up (pz J p q fl bs br ns N CS) 201 x v = pz J p q fl bs br ns M CS' := by
  funext a i
  by_cases e : a = 201
  · subst e
    show (if i = x then v else nc N p CS i) = nc M p CS' i
    rw [← h]; rfl
  · rw [mm_up_ne e]
    unfold pz
    rw [if_neg e, if_neg e]
/-- bytes of the tape -/
def tp_ok (T : Nat → Int32) (t : Nat) : Prop := t ≤ 96 ∧ ∀ i, i < t → ∃ b, b < 256 ∧ T i = nI b
abbrev tk_L (T : Nat → Int32) (t k : Nat) : Prop := k < t ∧ 97 ≤ T k ∧ T k ≤ 122
abbrev tk_D (T : Nat → Int32) (t k : Nat) : Prop := k < t ∧ 48 ≤ T k ∧ T k ≤ 57
def tk_sb (T : Nat → Int32) (t : Nat) : Nat → Nat → Nat
  | 0, k => k
  | f + 1, k => if k < t ∧ T k = 32 then tk_sb T t f (k + 1) else k
abbrev tk_P (T : Nat → Int32) (t s k : Nat) : Prop := (s = 1 ∧ tk_L T t k) ∨ (s = 2 ∧ tk_D T t k)
def tk_we (T : Nat → Int32) (t s : Nat) : Nat → Nat → Nat
  | 0, k => k
  | f + 1, k => if tk_P T t s k then tk_we T t s f (k + 1) else k
/-- the sort of what begins at k -/
def tk_s (T : Nat → Int32) (t k : Nat) : Nat := if tk_L T t k then 1 else if tk_D T t k then 2 else 3
def nx_s (T : Nat → Int32) (t e s f : Nat) : Nat × Nat × Nat := if (¬ tk_s T t f = 3 ∧ (s = 1 ∨ s = 2) ∧ f = e) ∨ (tk_s T t f = 2 ∧ 4 < tk_we T t (tk_s T t f) 96 (f + 1) - f) then (f, tk_we T t (tk_s T t f) 96 (f + 1), 4) else (f, tk_we T t (tk_s T t f) 96 (f + 1), tk_s T t f)
def nx (T : Nat → Int32) (t : Nat) (q : Nat × Nat × Nat) : Nat × Nat × Nat := if tk_sb T t 96 q.2.1 = t then (t, t, 0) else nx_s T t q.2.1 q.2.2 (tk_sb T t 96 q.2.1)
theorem tk_sb_le {T : Nat → Int32} {t : Nat} : ∀ f k, k ≤ t → k ≤ tk_sb T t f k ∧ tk_sb T t f k ≤ t := by
  intro f
  induction f with
  | zero => intro k hk; exact ⟨Nat.le_refl _, hk⟩
  | succ f ih =>
    intro k hk
    unfold tk_sb
    by_cases c : k < t ∧ T k = 32
    · rw [if_pos c]; have := ih (k + 1) (by omega); omega
    · rw [if_neg c]; exact ⟨Nat.le_refl _, hk⟩
theorem tk_we_le {T : Nat → Int32} {t s : Nat} : ∀ f k, k ≤ t → k ≤ tk_we T t s f k ∧ tk_we T t s f k ≤ t := by
  intro f
  induction f with
  | zero => intro k hk; exact ⟨Nat.le_refl _, hk⟩
  | succ f ih =>
    intro k hk
    unfold tk_we
    by_cases c : tk_P T t s k
    · rw [if_pos c]
      have hk2 : k < t := by rcases c with c | c <;> exact c.2.1
      have := ih (k + 1) (by omega); omega
    · rw [if_neg c]; exact ⟨Nat.le_refl _, hk⟩
set_option maxRecDepth 100000 in
set_option maxHeartbeats 600000 in
theorem cm_isLetter {g : mm_G} {I : mm_I} {d : Nat} {t : Nat} (ht : I 200 4 = nI t) (ht96 : t ≤ 96) {k : Nat} (hk : k ≤ 96) : mm_Ci g zX12_isLetter d [.ref 200, .int (nI k)] sh_S I (if tk_L (I 203) t k then 1 else 0) I := by
  refine mm_Ci_of (fun Q hq => ?_)
  refine mm_begin (ls := [(0, .ref 200), (1, .int (nI (k)))]) (Nat.le_of_ble_eq_true rfl) rfl rfl ?_
  refine mm_iload_n 1 dX12_isLetter_0 rfl rfl ?_
  refine mm_aload_n 0 dX12_isLetter_1 rfl rfl ?_
  refine mm_geti dX12_isLetter_2 rfl fk_X12_138 rfl so_200 ?_
  refine mm_top (v := nI (t)) ht ?_
  have K5 : mm_Ex g zX12_isLetter d (0, 0) (0, 0) sh_S (I) 35 [(0, .ref 200), (1, .int (nI (k)))] [.int (if ¬ ((t) ≤ (k)) ∧ (¬ ((I 203 k) < (97)) ∧ (¬ ((122) < (I 203 k)))) then 1 else 0)] Q := by
    refine mm_zret dX12_isLetter_35 rfl mm_b01 ⟨Nat.le_refl _, Nat.le_refl _⟩ ?_
    exact mm_l1 (mm_iff ⟨fun h => ⟨by omega, Int32.not_lt.mpr h.2.1, Int32.not_lt.mpr h.2.2⟩, fun h => ⟨by omega, Int32.not_lt.mp h.2.1, Int32.not_lt.mp h.2.2⟩⟩) hq
  refine mm_icmp_geN (k) (t) (tgt := 34) dX12_isLetter_5 (by decide) (by omega) (by omega) (fun c5 => ?_) (fun c5 => ?_)
  · refine mm_iconst (v := 0) dX12_isLetter_34 rfl ?_
    exact mm_top (by first | rfl | (simp [c5]; done) | (rw [if_pos (by simp_all)]; done) | (rw [if_neg (by simp_all)]; done) | (rw [if_pos (by omega)]; done) | (rw [if_neg (by omega)]; done)) K5
  · refine mm_aload_n 0 dX12_isLetter_8 rfl rfl ?_
    refine mm_getr (b := 203) dX12_isLetter_9 rfl fk_X12_16 rfl so_200 sr_200_3 ?_
    refine mm_iload_n 1 dX12_isLetter_12 rfl rfl ?_
    refine mm_ialdN (k) dX12_isLetter_13 sa_203 (by omega) (by omega) ?_
    refine mm_bipush (v := 97) dX12_isLetter_14 rfl ?_
    refine mm_icmp_lt (tgt := 34) dX12_isLetter_16 (by decide) (fun c16 => ?_) (fun c16 => ?_)
    · refine mm_iconst (v := 0) dX12_isLetter_34 rfl ?_
      exact mm_top (by first | rfl | (simp [c16, c5]; done) | (rw [if_pos (by simp_all)]; done) | (rw [if_neg (by simp_all)]; done) | (rw [if_pos (by omega)]; done) | (rw [if_neg (by omega)]; done)) K5
    · refine mm_aload_n 0 dX12_isLetter_19 rfl rfl ?_
      refine mm_getr (b := 203) dX12_isLetter_20 rfl fk_X12_16 rfl so_200 sr_200_3 ?_
      refine mm_iload_n 1 dX12_isLetter_23 rfl rfl ?_
      refine mm_ialdN (k) dX12_isLetter_24 sa_203 (by omega) (by omega) ?_
      refine mm_bipush (v := 122) dX12_isLetter_25 rfl ?_
      refine mm_icmp_gt (tgt := 34) dX12_isLetter_27 (by decide) (fun c27 => ?_) (fun c27 => ?_)
      · refine mm_iconst (v := 0) dX12_isLetter_34 rfl ?_
        exact mm_top (by first | rfl | (simp [c16, c27, c5]; done) | (rw [if_pos (by simp_all)]; done) | (rw [if_neg (by simp_all)]; done) | (rw [if_pos (by omega)]; done) | (rw [if_neg (by omega)]; done)) K5
      · refine mm_iconst (v := 1) dX12_isLetter_30 rfl ?_
        refine mm_goto (tgt := 35) dX12_isLetter_31 (by decide) ?_
        exact mm_top (by first | rfl | (simp [c16, c27, c5]; done) | (rw [if_pos (by simp_all)]; done) | (rw [if_neg (by simp_all)]; done) | (rw [if_pos (by omega)]; done) | (rw [if_neg (by omega)]; done)) K5
set_option maxRecDepth 100000 in
set_option maxHeartbeats 600000 in
theorem cm_isDigit {g : mm_G} {I : mm_I} {d : Nat} {t : Nat} (ht : I 200 4 = nI t) (ht96 : t ≤ 96) {k : Nat} (hk : k ≤ 96) : mm_Ci g zX12_isDigit d [.ref 200, .int (nI k)] sh_S I (if tk_D (I 203) t k then 1 else 0) I := by
  refine mm_Ci_of (fun Q hq => ?_)
  refine mm_begin (ls := [(0, .ref 200), (1, .int (nI (k)))]) (Nat.le_of_ble_eq_true rfl) rfl rfl ?_
  refine mm_iload_n 1 dX12_isDigit_0 rfl rfl ?_
  refine mm_aload_n 0 dX12_isDigit_1 rfl rfl ?_
  refine mm_geti dX12_isDigit_2 rfl fk_X12_138 rfl so_200 ?_
  refine mm_top (v := nI (t)) ht ?_
  have K5 : mm_Ex g zX12_isDigit d (0, 0) (0, 0) sh_S (I) 35 [(0, .ref 200), (1, .int (nI (k)))] [.int (if ¬ ((t) ≤ (k)) ∧ (¬ ((I 203 k) < (48)) ∧ (¬ ((57) < (I 203 k)))) then 1 else 0)] Q := by
    refine mm_zret dX12_isDigit_35 rfl mm_b01 ⟨Nat.le_refl _, Nat.le_refl _⟩ ?_
    exact mm_l1 (mm_iff ⟨fun h => ⟨by omega, Int32.not_lt.mpr h.2.1, Int32.not_lt.mpr h.2.2⟩, fun h => ⟨by omega, Int32.not_lt.mp h.2.1, Int32.not_lt.mp h.2.2⟩⟩) hq
  refine mm_icmp_geN (k) (t) (tgt := 34) dX12_isDigit_5 (by decide) (by omega) (by omega) (fun c5 => ?_) (fun c5 => ?_)
  · refine mm_iconst (v := 0) dX12_isDigit_34 rfl ?_
    exact mm_top (by first | rfl | (simp [c5]; done) | (rw [if_pos (by simp_all)]; done) | (rw [if_neg (by simp_all)]; done) | (rw [if_pos (by omega)]; done) | (rw [if_neg (by omega)]; done)) K5
  · refine mm_aload_n 0 dX12_isDigit_8 rfl rfl ?_
    refine mm_getr (b := 203) dX12_isDigit_9 rfl fk_X12_16 rfl so_200 sr_200_3 ?_
    refine mm_iload_n 1 dX12_isDigit_12 rfl rfl ?_
    refine mm_ialdN (k) dX12_isDigit_13 sa_203 (by omega) (by omega) ?_
    refine mm_bipush (v := 48) dX12_isDigit_14 rfl ?_
    refine mm_icmp_lt (tgt := 34) dX12_isDigit_16 (by decide) (fun c16 => ?_) (fun c16 => ?_)
    · refine mm_iconst (v := 0) dX12_isDigit_34 rfl ?_
      exact mm_top (by first | rfl | (simp [c16, c5]; done) | (rw [if_pos (by simp_all)]; done) | (rw [if_neg (by simp_all)]; done) | (rw [if_pos (by omega)]; done) | (rw [if_neg (by omega)]; done)) K5
    · refine mm_aload_n 0 dX12_isDigit_19 rfl rfl ?_
      refine mm_getr (b := 203) dX12_isDigit_20 rfl fk_X12_16 rfl so_200 sr_200_3 ?_
      refine mm_iload_n 1 dX12_isDigit_23 rfl rfl ?_
      refine mm_ialdN (k) dX12_isDigit_24 sa_203 (by omega) (by omega) ?_
      refine mm_bipush (v := 57) dX12_isDigit_25 rfl ?_
      refine mm_icmp_gt (tgt := 34) dX12_isDigit_27 (by decide) (fun c27 => ?_) (fun c27 => ?_)
      · refine mm_iconst (v := 0) dX12_isDigit_34 rfl ?_
        exact mm_top (by first | rfl | (simp [c16, c27, c5]; done) | (rw [if_pos (by simp_all)]; done) | (rw [if_neg (by simp_all)]; done) | (rw [if_pos (by omega)]; done) | (rw [if_neg (by omega)]; done)) K5
      · refine mm_iconst (v := 1) dX12_isDigit_30 rfl ?_
        refine mm_goto (tgt := 35) dX12_isDigit_31 (by decide) ?_
        exact mm_top (by first | rfl | (simp [c16, c27, c5]; done) | (rw [if_pos (by simp_all)]; done) | (rw [if_neg (by simp_all)]; done) | (rw [if_pos (by omega)]; done) | (rw [if_neg (by omega)]; done)) K5
set_option maxRecDepth 100000 in
set_option maxHeartbeats 600000 in
theorem lm_nx1 {g : mm_G} {J : mm_I} {d : Nat} {Q : Option Value → mm_Sh → mm_I → Prop} {p t : Nat} (ht : J 200 4 = nI t) (ht96 : t ≤ 96) {fl bs br ns : Nat} {N : Nat → Int32} {CS : List Nat} {e s : Nat} (hd : 1 ≤ d) : ∀ (f k : Nat), t ≤ k + f → k ≤ t → (mm_Ex g zX12_next d (0, 0) (0, 0) sh_S (pz J p (tk_sb (J 203) t f k, e, s) fl bs br ns N CS) 73 [(2, .int (nI (e))), (1, .int (if s = 1 ∨ s = 2 then 1 else 0)), (0, .ref 200)] [] Q) → mm_Ex g zX12_next d (0, 0) (0, 0) sh_S (pz J p (k, e, s) fl bs br ns N CS) 35 [(2, .int (nI (e))), (1, .int (if s = 1 ∨ s = 2 then 1 else 0)), (0, .ref 200)] [] Q := by
  intro f
  induction f with
  | zero =>
    intro k hk hkt hx
    have e0 : k = t := by omega
    refine mm_aload_n 2 dX12_next_35 rfl rfl ?_
    refine mm_geti dX12_next_36 rfl fk_X12_148 rfl so_200 ?_
    refine mm_top (v := nI (k)) rfl ?_
    refine mm_aload_n 2 dX12_next_39 rfl rfl ?_
    refine mm_geti dX12_next_40 rfl fk_X12_138 rfl so_200 ?_
    refine mm_top (v := nI (t)) ht ?_
    refine mm_icmp_geN (k) (t) (tgt := 73) dX12_next_43 (by decide) (by omega) (by omega) (fun c43 => ?_) (fun c43 => ?_)
    · exact hx
    · omega
  | succ f ih =>
    intro k hk hkt hx
    rw [tk_sb] at hx
    refine mm_aload_n 2 dX12_next_35 rfl rfl ?_
    refine mm_geti dX12_next_36 rfl fk_X12_148 rfl so_200 ?_
    refine mm_top (v := nI (k)) rfl ?_
    refine mm_aload_n 2 dX12_next_39 rfl rfl ?_
    refine mm_geti dX12_next_40 rfl fk_X12_138 rfl so_200 ?_
    refine mm_top (v := nI (t)) ht ?_
    refine mm_icmp_geN (k) (t) (tgt := 73) dX12_next_43 (by decide) (by omega) (by omega) (fun c43 => ?_) (fun c43 => ?_)
    · rw [if_neg (by rintro ⟨q1, q2⟩; first | omega | exact c57 q2)] at hx
      exact hx
    · refine mm_aload_n 2 dX12_next_46 rfl rfl ?_
      refine mm_getr (b := 203) dX12_next_47 rfl fk_X12_16 rfl so_200 sr_200_3 ?_
      refine mm_aload_n 2 dX12_next_50 rfl rfl ?_
      refine mm_geti dX12_next_51 rfl fk_X12_148 rfl so_200 ?_
      refine mm_top (v := nI (k)) rfl ?_
      refine mm_ialdN (k) dX12_next_54 sa_203 (by omega) (by omega) ?_
      refine mm_top (v := J 203 k) rfl ?_
      refine mm_bipush (v := 32) dX12_next_55 rfl ?_
      refine mm_icmp_ne (tgt := 73) dX12_next_57 (by decide) (fun c57 => ?_) (fun c57 => ?_)
      · rw [if_neg (by rintro ⟨q1, q2⟩; first | omega | exact c57 q2)] at hx
        exact hx
      · refine mm_aload_n 2 dX12_next_60 rfl rfl ?_
        refine mm_dup dX12_next_61 rfl ?_
        refine mm_geti dX12_next_62 rfl fk_X12_148 rfl so_200 ?_
        refine mm_top (v := nI (k)) rfl ?_
        refine mm_iconst (v := 1) dX12_next_65 rfl ?_
        refine mm_iaddN (k) (1) dX12_next_66 ?_
        refine mm_puti dX12_next_67 rfl fk_X12_148 rfl fv_12_11 so_200 ?_
        refine mm_mem (J := pz J p (k + 1, e, s) fl bs br ns N CS) (pz_11 (v := k + 1)) ?_
        refine mm_goto (tgt := 35) dX12_next_70 (by decide) ?_
        rw [if_pos (show k < t ∧ J 203 k = 32 from ⟨by omega, c57⟩)] at hx
        exact ih (k + 1) (by omega) (by omega) hx
set_option maxRecDepth 100000 in
set_option maxHeartbeats 600000 in
theorem lm_nx2 {g : mm_G} {J : mm_I} {d : Nat} {Q : Option Value → mm_Sh → mm_I → Prop} {p t : Nat} (ht : J 200 4 = nI t) (ht96 : t ≤ 96) {fl bs br ns : Nat} {N : Nat → Int32} {CS : List Nat} {e s f0 s0 : Nat} (hs0 : s0 < 2 ^ 31) (hd : 1 ≤ d) : ∀ (f k : Nat), t ≤ k + f → k ≤ t → (mm_Ex g zX12_next d (0, 0) (0, 0) sh_S (pz J p (f0, tk_we (J 203) t s0 f k, s0) fl bs br ns N CS) 194 [(2, .int (nI (e))), (1, .int (if s = 1 ∨ s = 2 then 1 else 0)), (0, .ref 200)] [] Q) → mm_Ex g zX12_next d (0, 0) (0, 0) sh_S (pz J p (f0, k, s0) fl bs br ns N CS) 143 [(2, .int (nI (e))), (1, .int (if s = 1 ∨ s = 2 then 1 else 0)), (0, .ref 200)] [] Q := by
  intro f
  induction f with
  | zero =>
    intro k hk hkt hx
    have e0 : k = t := by omega
    refine mm_aload_n 2 dX12_next_143 rfl rfl ?_
    refine mm_geti dX12_next_144 rfl fk_X12_142 rfl so_200 ?_
    refine mm_top (v := nI (s0)) rfl ?_
    refine mm_iconst (v := 1) dX12_next_147 rfl ?_
    refine mm_icmp_neN (s0) (1) (tgt := 162) dX12_next_148 (by decide) (by omega) (by omega) (fun c148 => ?_) (fun c148 => ?_)
    · refine mm_aload_n 2 dX12_next_162 rfl rfl ?_
      refine mm_geti dX12_next_163 rfl fk_X12_142 rfl so_200 ?_
      refine mm_top (v := nI (s0)) rfl ?_
      refine mm_iconst (v := 2) dX12_next_166 rfl ?_
      refine mm_icmp_neN (s0) (2) (tgt := 194) dX12_next_167 (by decide) (by omega) (by omega) (fun c167 => ?_) (fun c167 => ?_)
      · exact hx
      · refine mm_aload_n 2 dX12_next_170 rfl rfl ?_
        refine mm_aload_n 2 dX12_next_171 rfl rfl ?_
        refine mm_geti dX12_next_172 rfl fk_X12_145 rfl so_200 ?_
        refine mm_top (v := nI (k)) rfl ?_
        refine mm_cV1i (dz := d - 1) dX12_next_175 rfl mzX12_isDigit ml_X12_154 imX12_isDigit (by omega) so_200 ⟨rfl, rfl⟩ (show mm_Ci g zX12_isDigit (d - 1) [.ref 200, .int (nI (k))] sh_S (pz J p (f0, k, s0) fl bs br ns N CS) (if tk_D (J 203) t k then 1 else 0) (pz J p (f0, k, s0) fl bs br ns N CS) from cm_isDigit (I := pz J p (f0, k, s0) fl bs br ns N CS) ht ht96 (by omega)) (Nat.le_of_ble_eq_true rfl) ⟨Nat.le_refl _, Nat.le_refl _⟩ ?_
        refine mm_if_eqB (tgt := 194) dX12_next_178 (by decide) (fun c178 => ?_) (fun c178 => ?_)
        · exact hx
        · first | (have := c159.1; omega) | (have := c178.1; omega)
    · refine mm_aload_n 2 dX12_next_151 rfl rfl ?_
      refine mm_aload_n 2 dX12_next_152 rfl rfl ?_
      refine mm_geti dX12_next_153 rfl fk_X12_145 rfl so_200 ?_
      refine mm_top (v := nI (k)) rfl ?_
      refine mm_cV1i (dz := d - 1) dX12_next_156 rfl mzX12_isLetter ml_X12_151 imX12_isLetter (by omega) so_200 ⟨rfl, rfl⟩ (show mm_Ci g zX12_isLetter (d - 1) [.ref 200, .int (nI (k))] sh_S (pz J p (f0, k, s0) fl bs br ns N CS) (if tk_L (J 203) t k then 1 else 0) (pz J p (f0, k, s0) fl bs br ns N CS) from cm_isLetter (I := pz J p (f0, k, s0) fl bs br ns N CS) ht ht96 (by omega)) (Nat.le_of_ble_eq_true rfl) ⟨Nat.le_refl _, Nat.le_refl _⟩ ?_
      refine mm_if_neB (tgt := 181) dX12_next_159 (by decide) (fun c159 => ?_) (fun c159 => ?_)
      · first | (have := c159.1; omega) | (have := c178.1; omega)
      · refine mm_aload_n 2 dX12_next_162 rfl rfl ?_
        refine mm_geti dX12_next_163 rfl fk_X12_142 rfl so_200 ?_
        refine mm_top (v := nI (s0)) rfl ?_
        refine mm_iconst (v := 2) dX12_next_166 rfl ?_
        refine mm_icmp_neN (s0) (2) (tgt := 194) dX12_next_167 (by decide) (by omega) (by omega) (fun c167 => ?_) (fun c167 => ?_)
        · exact hx
        · refine mm_aload_n 2 dX12_next_170 rfl rfl ?_
          refine mm_aload_n 2 dX12_next_171 rfl rfl ?_
          refine mm_geti dX12_next_172 rfl fk_X12_145 rfl so_200 ?_
          refine mm_top (v := nI (k)) rfl ?_
          refine mm_cV1i (dz := d - 1) dX12_next_175 rfl mzX12_isDigit ml_X12_154 imX12_isDigit (by omega) so_200 ⟨rfl, rfl⟩ (show mm_Ci g zX12_isDigit (d - 1) [.ref 200, .int (nI (k))] sh_S (pz J p (f0, k, s0) fl bs br ns N CS) (if tk_D (J 203) t k then 1 else 0) (pz J p (f0, k, s0) fl bs br ns N CS) from cm_isDigit (I := pz J p (f0, k, s0) fl bs br ns N CS) ht ht96 (by omega)) (Nat.le_of_ble_eq_true rfl) ⟨Nat.le_refl _, Nat.le_refl _⟩ ?_
          refine mm_if_eqB (tgt := 194) dX12_next_178 (by decide) (fun c178 => ?_) (fun c178 => ?_)
          · exact hx
          · first | (have := c159.1; omega) | (have := c178.1; omega)
  | succ f ih =>
    intro k hk hkt hx
    rw [tk_we] at hx
    refine mm_aload_n 2 dX12_next_143 rfl rfl ?_
    refine mm_geti dX12_next_144 rfl fk_X12_142 rfl so_200 ?_
    refine mm_top (v := nI (s0)) rfl ?_
    refine mm_iconst (v := 1) dX12_next_147 rfl ?_
    refine mm_icmp_neN (s0) (1) (tgt := 162) dX12_next_148 (by decide) (by omega) (by omega) (fun c148 => ?_) (fun c148 => ?_)
    · refine mm_aload_n 2 dX12_next_162 rfl rfl ?_
      refine mm_geti dX12_next_163 rfl fk_X12_142 rfl so_200 ?_
      refine mm_top (v := nI (s0)) rfl ?_
      refine mm_iconst (v := 2) dX12_next_166 rfl ?_
      refine mm_icmp_neN (s0) (2) (tgt := 194) dX12_next_167 (by decide) (by omega) (by omega) (fun c167 => ?_) (fun c167 => ?_)
      · rw [if_neg (show ¬ tk_P (J 203) t s0 k by rintro (⟨q1, q2⟩ | ⟨q1, q2⟩) <;> first | exact c148 q1 | exact c159 q2 | exact c167 q1 | exact c178 q2)] at hx
        exact hx
      · refine mm_aload_n 2 dX12_next_170 rfl rfl ?_
        refine mm_aload_n 2 dX12_next_171 rfl rfl ?_
        refine mm_geti dX12_next_172 rfl fk_X12_145 rfl so_200 ?_
        refine mm_top (v := nI (k)) rfl ?_
        refine mm_cV1i (dz := d - 1) dX12_next_175 rfl mzX12_isDigit ml_X12_154 imX12_isDigit (by omega) so_200 ⟨rfl, rfl⟩ (show mm_Ci g zX12_isDigit (d - 1) [.ref 200, .int (nI (k))] sh_S (pz J p (f0, k, s0) fl bs br ns N CS) (if tk_D (J 203) t k then 1 else 0) (pz J p (f0, k, s0) fl bs br ns N CS) from cm_isDigit (I := pz J p (f0, k, s0) fl bs br ns N CS) ht ht96 (by omega)) (Nat.le_of_ble_eq_true rfl) ⟨Nat.le_refl _, Nat.le_refl _⟩ ?_
        refine mm_if_eqB (tgt := 194) dX12_next_178 (by decide) (fun c178 => ?_) (fun c178 => ?_)
        · rw [if_neg (show ¬ tk_P (J 203) t s0 k by rintro (⟨q1, q2⟩ | ⟨q1, q2⟩) <;> first | exact c148 q1 | exact c159 q2 | exact c167 q1 | exact c178 q2)] at hx
          exact hx
        · have hkP : tk_P (J 203) t s0 k := by first | exact Or.inl ⟨c148, c159⟩ | exact Or.inr ⟨c167, c178⟩
          refine mm_aload_n 2 dX12_next_181 rfl rfl ?_
          refine mm_dup dX12_next_182 rfl ?_
          refine mm_geti dX12_next_183 rfl fk_X12_145 rfl so_200 ?_
          refine mm_top (v := nI (k)) rfl ?_
          refine mm_iconst (v := 1) dX12_next_186 rfl ?_
          refine mm_iaddN (k) (1) dX12_next_187 ?_
          refine mm_puti dX12_next_188 rfl fk_X12_145 rfl fv_12_12 so_200 ?_
          refine mm_mem (J := pz J p (f0, k + 1, s0) fl bs br ns N CS) (pz_12 (v := k + 1)) ?_
          refine mm_goto (tgt := 143) dX12_next_191 (by decide) ?_
          rw [if_pos hkP] at hx
          have hk2 : k < t := by rcases hkP with c | c <;> exact c.2.1
          exact ih (k + 1) (by omega) (by omega) hx
    · refine mm_aload_n 2 dX12_next_151 rfl rfl ?_
      refine mm_aload_n 2 dX12_next_152 rfl rfl ?_
      refine mm_geti dX12_next_153 rfl fk_X12_145 rfl so_200 ?_
      refine mm_top (v := nI (k)) rfl ?_
      refine mm_cV1i (dz := d - 1) dX12_next_156 rfl mzX12_isLetter ml_X12_151 imX12_isLetter (by omega) so_200 ⟨rfl, rfl⟩ (show mm_Ci g zX12_isLetter (d - 1) [.ref 200, .int (nI (k))] sh_S (pz J p (f0, k, s0) fl bs br ns N CS) (if tk_L (J 203) t k then 1 else 0) (pz J p (f0, k, s0) fl bs br ns N CS) from cm_isLetter (I := pz J p (f0, k, s0) fl bs br ns N CS) ht ht96 (by omega)) (Nat.le_of_ble_eq_true rfl) ⟨Nat.le_refl _, Nat.le_refl _⟩ ?_
      refine mm_if_neB (tgt := 181) dX12_next_159 (by decide) (fun c159 => ?_) (fun c159 => ?_)
      · have hkP : tk_P (J 203) t s0 k := by first | exact Or.inl ⟨c148, c159⟩ | exact Or.inr ⟨c167, c178⟩
        refine mm_aload_n 2 dX12_next_181 rfl rfl ?_
        refine mm_dup dX12_next_182 rfl ?_
        refine mm_geti dX12_next_183 rfl fk_X12_145 rfl so_200 ?_
        refine mm_top (v := nI (k)) rfl ?_
        refine mm_iconst (v := 1) dX12_next_186 rfl ?_
        refine mm_iaddN (k) (1) dX12_next_187 ?_
        refine mm_puti dX12_next_188 rfl fk_X12_145 rfl fv_12_12 so_200 ?_
        refine mm_mem (J := pz J p (f0, k + 1, s0) fl bs br ns N CS) (pz_12 (v := k + 1)) ?_
        refine mm_goto (tgt := 143) dX12_next_191 (by decide) ?_
        rw [if_pos hkP] at hx
        have hk2 : k < t := by rcases hkP with c | c <;> exact c.2.1
        exact ih (k + 1) (by omega) (by omega) hx
      · refine mm_aload_n 2 dX12_next_162 rfl rfl ?_
        refine mm_geti dX12_next_163 rfl fk_X12_142 rfl so_200 ?_
        refine mm_top (v := nI (s0)) rfl ?_
        refine mm_iconst (v := 2) dX12_next_166 rfl ?_
        refine mm_icmp_neN (s0) (2) (tgt := 194) dX12_next_167 (by decide) (by omega) (by omega) (fun c167 => ?_) (fun c167 => ?_)
        · rw [if_neg (show ¬ tk_P (J 203) t s0 k by rintro (⟨q1, q2⟩ | ⟨q1, q2⟩) <;> first | exact c148 q1 | exact c159 q2 | exact c167 q1 | exact c178 q2)] at hx
          exact hx
        · refine mm_aload_n 2 dX12_next_170 rfl rfl ?_
          refine mm_aload_n 2 dX12_next_171 rfl rfl ?_
          refine mm_geti dX12_next_172 rfl fk_X12_145 rfl so_200 ?_
          refine mm_top (v := nI (k)) rfl ?_
          refine mm_cV1i (dz := d - 1) dX12_next_175 rfl mzX12_isDigit ml_X12_154 imX12_isDigit (by omega) so_200 ⟨rfl, rfl⟩ (show mm_Ci g zX12_isDigit (d - 1) [.ref 200, .int (nI (k))] sh_S (pz J p (f0, k, s0) fl bs br ns N CS) (if tk_D (J 203) t k then 1 else 0) (pz J p (f0, k, s0) fl bs br ns N CS) from cm_isDigit (I := pz J p (f0, k, s0) fl bs br ns N CS) ht ht96 (by omega)) (Nat.le_of_ble_eq_true rfl) ⟨Nat.le_refl _, Nat.le_refl _⟩ ?_
          refine mm_if_eqB (tgt := 194) dX12_next_178 (by decide) (fun c178 => ?_) (fun c178 => ?_)
          · rw [if_neg (show ¬ tk_P (J 203) t s0 k by rintro (⟨q1, q2⟩ | ⟨q1, q2⟩) <;> first | exact c148 q1 | exact c159 q2 | exact c167 q1 | exact c178 q2)] at hx
            exact hx
          · have hkP : tk_P (J 203) t s0 k := by first | exact Or.inl ⟨c148, c159⟩ | exact Or.inr ⟨c167, c178⟩
            refine mm_aload_n 2 dX12_next_181 rfl rfl ?_
            refine mm_dup dX12_next_182 rfl ?_
            refine mm_geti dX12_next_183 rfl fk_X12_145 rfl so_200 ?_
            refine mm_top (v := nI (k)) rfl ?_
            refine mm_iconst (v := 1) dX12_next_186 rfl ?_
            refine mm_iaddN (k) (1) dX12_next_187 ?_
            refine mm_puti dX12_next_188 rfl fk_X12_145 rfl fv_12_12 so_200 ?_
            refine mm_mem (J := pz J p (f0, k + 1, s0) fl bs br ns N CS) (pz_12 (v := k + 1)) ?_
            refine mm_goto (tgt := 143) dX12_next_191 (by decide) ?_
            rw [if_pos hkP] at hx
            have hk2 : k < t := by rcases hkP with c | c <;> exact c.2.1
            exact ih (k + 1) (by omega) (by omega) hx
set_option maxRecDepth 100000 in
set_option maxHeartbeats 600000 in
theorem cm_next {g : mm_G} {J : mm_I} {d : Nat} {p t : Nat} (ht : J 200 4 = nI t) (ht96 : t ≤ 96) {fl bs br ns : Nat} {N : Nat → Int32} {CS : List Nat} {f e s : Nat} (he : e ≤ t) (hs : s < 2 ^ 31) (hd : 1 ≤ d) : mm_Cv g zX12_next d [.ref 200] sh_S (pz J p (f, e, s) fl bs br ns N CS) (pz J p (nx (J 203) t (f, e, s)) fl bs br ns N CS) := by
  refine mm_Cv_of (fun Q hq => ?_)
  unfold nx at hq
  replace hq : Q none sh_S (pz J p (if tk_sb (J 203) t 96 e = t then (t, t, 0) else nx_s (J 203) t e s (tk_sb (J 203) t 96 e)) fl bs br ns N CS) := hq
  refine mm_begin (ls := [(0, .ref 200)]) (Nat.le_of_ble_eq_true rfl) rfl rfl ?_
  refine mm_aload_n 0 dX12_next_0 rfl rfl ?_
  refine mm_geti dX12_next_1 rfl fk_X12_142 rfl so_200 ?_
  refine mm_top (v := nI (s)) rfl ?_
  refine mm_iconst (v := 1) dX12_next_4 rfl ?_
  have K5 : mm_Ex g zX12_next d (0, 0) (0, 0) sh_S (pz J p (f, e, s) fl bs br ns N CS) 21 [(0, .ref 200)] [.int (if ((s) = (1)) ∨ ((s) = (2)) then 1 else 0)] Q := by
    refine mm_istore_n (ls' := [(1, .int (if ((s) = (1)) ∨ ((s) = (2)) then 1 else 0)), (0, .ref 200)]) dX12_next_21 rfl (by decide) rfl ?_
    refine mm_aload_n 1 dX12_next_22 rfl rfl ?_
    refine mm_geti dX12_next_23 rfl fk_X12_145 rfl so_200 ?_
    refine mm_top (v := nI (e)) rfl ?_
    refine mm_istore_n (ls' := [(2, .int (nI (e))), (1, .int (if ((s) = (1)) ∨ ((s) = (2)) then 1 else 0)), (0, .ref 200)]) dX12_next_26 rfl (by decide) rfl ?_
    refine mm_aload_n 2 dX12_next_27 rfl rfl ?_
    refine mm_aload_n 2 dX12_next_28 rfl rfl ?_
    refine mm_geti dX12_next_29 rfl fk_X12_145 rfl so_200 ?_
    refine mm_top (v := nI (e)) rfl ?_
    refine mm_puti dX12_next_32 rfl fk_X12_148 rfl fv_12_11 so_200 ?_
    refine mm_mem (J := pz J p (e, e, s) fl bs br ns N CS) (pz_11 (v := e)) ?_
    refine mm_at (pc' := 35) rfl ?_
    obtain ⟨hb1, hb2⟩ := tk_sb_le (T := J 203) (t := t) 96 e he
    refine mm_sub [0, 1, 2] rfl (lm_nx1 ht ht96 hd 96 e (by omega) he ?_)
    generalize hfe : tk_sb (J 203) t 96 e = f0 at hb1 hb2 hq ⊢
    refine mm_aload_n 2 dX12_next_73 rfl rfl ?_
    refine mm_aload_n 2 dX12_next_74 rfl rfl ?_
    refine mm_geti dX12_next_75 rfl fk_X12_148 rfl so_200 ?_
    refine mm_top (v := nI (f0)) rfl ?_
    refine mm_puti dX12_next_78 rfl fk_X12_145 rfl fv_12_12 so_200 ?_
    refine mm_mem (J := pz J p (f0, f0, s) fl bs br ns N CS) (pz_12 (v := f0)) ?_
    refine mm_aload_n 2 dX12_next_81 rfl rfl ?_
    refine mm_geti dX12_next_82 rfl fk_X12_148 rfl so_200 ?_
    refine mm_top (v := nI (f0)) rfl ?_
    refine mm_aload_n 2 dX12_next_85 rfl rfl ?_
    refine mm_geti dX12_next_86 rfl fk_X12_138 rfl so_200 ?_
    refine mm_at (pc' := 89) rfl ?_
    refine mm_top (v := nI (t)) ht ?_
    refine mm_icmp_neN (f0) (t) (tgt := 98) dX12_next_89 (by decide) (by omega) (by omega) (fun c89 => ?_) (fun c89 => ?_)
    · refine mm_aload_n 2 dX12_next_98 rfl rfl ?_
      refine mm_aload_n 2 dX12_next_99 rfl rfl ?_
      refine mm_aload_n 2 dX12_next_100 rfl rfl ?_
      refine mm_geti dX12_next_101 rfl fk_X12_148 rfl so_200 ?_
      refine mm_top (v := nI (f0)) rfl ?_
      refine mm_cV1i (dz := d - 1) dX12_next_104 rfl mzX12_isLetter ml_X12_151 imX12_isLetter (by omega) so_200 ⟨rfl, rfl⟩ (show mm_Ci g zX12_isLetter (d - 1) [.ref 200, .int (nI (f0))] sh_S (pz J p (f0, f0, s) fl bs br ns N CS) (if tk_L (J 203) t f0 then 1 else 0) (pz J p (f0, f0, s) fl bs br ns N CS) from cm_isLetter (I := pz J p (f0, f0, s) fl bs br ns N CS) ht ht96 (by omega)) (Nat.le_of_ble_eq_true rfl) ⟨Nat.le_refl _, Nat.le_refl _⟩ ?_
      refine mm_if_eqB (tgt := 114) dX12_next_107 (by decide) (fun c107 => ?_) (fun c107 => ?_)
      · refine mm_aload_n 2 dX12_next_114 rfl rfl ?_
        refine mm_aload_n 2 dX12_next_115 rfl rfl ?_
        refine mm_geti dX12_next_116 rfl fk_X12_148 rfl so_200 ?_
        refine mm_top (v := nI (f0)) rfl ?_
        refine mm_cV1i (dz := d - 1) dX12_next_119 rfl mzX12_isDigit ml_X12_154 imX12_isDigit (by omega) so_200 ⟨rfl, rfl⟩ (show mm_Ci g zX12_isDigit (d - 1) [.ref 200, .int (nI (f0))] sh_S (pz J p (f0, f0, s) fl bs br ns N CS) (if tk_D (J 203) t f0 then 1 else 0) (pz J p (f0, f0, s) fl bs br ns N CS) from cm_isDigit (I := pz J p (f0, f0, s) fl bs br ns N CS) ht ht96 (by omega)) (Nat.le_of_ble_eq_true rfl) ⟨Nat.le_refl _, Nat.le_refl _⟩ ?_
        refine mm_if_eqB (tgt := 129) dX12_next_122 (by decide) (fun c122 => ?_) (fun c122 => ?_)
        · refine mm_iconst (v := 3) dX12_next_129 rfl ?_
          refine mm_puti dX12_next_130 rfl fk_X12_142 rfl fv_12_13 so_200 ?_
          refine mm_mem (J := pz J p (f0, f0, 3) fl bs br ns N CS) (pz_13 (v := 3)) ?_
          refine mm_aload_n 2 dX12_next_133 rfl rfl ?_
          refine mm_dup dX12_next_134 rfl ?_
          refine mm_geti dX12_next_135 rfl fk_X12_145 rfl so_200 ?_
          refine mm_top (v := nI (f0)) rfl ?_
          refine mm_iconst (v := 1) dX12_next_138 rfl ?_
          refine mm_iaddN (f0) (1) dX12_next_139 ?_
          refine mm_puti dX12_next_140 rfl fk_X12_145 rfl fv_12_12 so_200 ?_
          refine mm_mem (J := pz J p (f0, f0 + 1, 3) fl bs br ns N CS) (pz_12 (v := f0 + 1)) ?_
          refine mm_at (pc' := 143) rfl ?_
          rw [if_neg (by omega), nx_s, show tk_s (J 203) t f0 = 3 from (by unfold tk_s; rw [if_neg c107, if_neg c122])] at hq
          obtain ⟨hw1, hw2⟩ := tk_we_le (T := J 203) (t := t) (s := 3) 96 (f0 + 1) (by omega)
          refine mm_sub [0, 1, 2] rfl (lm_nx2 (s0 := 3) ht ht96 (by omega) hd 96 (f0 + 1) (by omega) (by omega) ?_)
          generalize tk_we (J 203) t 3 96 (f0 + 1) = e1 at hw1 hw2 hq ⊢
          refine mm_aload_n 2 dX12_next_194 rfl rfl ?_
          refine mm_geti dX12_next_195 rfl fk_X12_142 rfl so_200 ?_
          refine mm_top (v := nI (3)) rfl ?_
          refine mm_top (v := 3) rfl ?_
          refine mm_iconst (v := 3) dX12_next_198 rfl ?_
          refine mm_icmp_eq (tgt := 214) dX12_next_199 (by decide) (fun _ => ?_) (fun q => absurd (by decide) q)
          refine mm_aload_n 2 dX12_next_214 rfl rfl ?_
          refine mm_geti dX12_next_215 rfl fk_X12_142 rfl so_200 ?_
          refine mm_top (v := nI (3)) rfl ?_
          refine mm_top (v := 3) rfl ?_
          refine mm_iconst (v := 2) dX12_next_218 rfl ?_
          refine mm_icmp_ne (tgt := 240) dX12_next_219 (by decide) (fun _ => ?_) (fun q => absurd q (by decide))
          refine mm_vret dX12_next_240 rfl ⟨Nat.le_refl _, Nat.le_refl _⟩ ?_
          rw [if_neg (by rintro (⟨q, -⟩ | ⟨q, -⟩); exact q rfl; revert q; decide)] at hq
          exact hq
        · refine mm_iconst (v := 2) dX12_next_125 rfl ?_
          refine mm_goto (tgt := 130) dX12_next_126 (by decide) ?_
          refine mm_puti dX12_next_130 rfl fk_X12_142 rfl fv_12_13 so_200 ?_
          refine mm_mem (J := pz J p (f0, f0, 2) fl bs br ns N CS) (pz_13 (v := 2)) ?_
          refine mm_aload_n 2 dX12_next_133 rfl rfl ?_
          refine mm_dup dX12_next_134 rfl ?_
          refine mm_geti dX12_next_135 rfl fk_X12_145 rfl so_200 ?_
          refine mm_top (v := nI (f0)) rfl ?_
          refine mm_iconst (v := 1) dX12_next_138 rfl ?_
          refine mm_iaddN (f0) (1) dX12_next_139 ?_
          refine mm_puti dX12_next_140 rfl fk_X12_145 rfl fv_12_12 so_200 ?_
          refine mm_mem (J := pz J p (f0, f0 + 1, 2) fl bs br ns N CS) (pz_12 (v := f0 + 1)) ?_
          rw [if_neg (by omega), nx_s, show tk_s (J 203) t f0 = 2 from (by unfold tk_s; rw [if_neg c107, if_pos c122])] at hq
          obtain ⟨hw1, hw2⟩ := tk_we_le (T := J 203) (t := t) (s := 2) 96 (f0 + 1) (by omega)
          refine mm_sub [0, 1, 2] rfl (lm_nx2 (s0 := 2) ht ht96 (by omega) hd 96 (f0 + 1) (by omega) (by omega) ?_)
          generalize tk_we (J 203) t 2 96 (f0 + 1) = e1 at hw1 hw2 hq ⊢
          refine mm_aload_n 2 dX12_next_194 rfl rfl ?_
          refine mm_geti dX12_next_195 rfl fk_X12_142 rfl so_200 ?_
          refine mm_top (v := nI (2)) rfl ?_
          refine mm_top (v := 2) rfl ?_
          refine mm_iconst (v := 3) dX12_next_198 rfl ?_
          refine mm_icmp_eq (tgt := 214) dX12_next_199 (by decide) (fun q => absurd q (by decide)) (fun _ => ?_)
          refine mm_iload_n 1 dX12_next_202 rfl rfl ?_
          refine mm_if_eqB (tgt := 214) dX12_next_203 (by decide) (fun c203 => ?_) (fun c203 => ?_)
          · refine mm_aload_n 2 dX12_next_214 rfl rfl ?_
            refine mm_geti dX12_next_215 rfl fk_X12_142 rfl so_200 ?_
            refine mm_top (v := nI (2)) rfl ?_
            refine mm_top (v := 2) rfl ?_
            refine mm_iconst (v := 2) dX12_next_218 rfl ?_
            refine mm_icmp_ne (tgt := 240) dX12_next_219 (by decide) (fun q => absurd q (by decide)) (fun _ => ?_)
            refine mm_aload_n 2 dX12_next_222 rfl rfl ?_
            refine mm_geti dX12_next_223 rfl fk_X12_145 rfl so_200 ?_
            refine mm_top (v := nI (e1)) rfl ?_
            refine mm_aload_n 2 dX12_next_226 rfl rfl ?_
            refine mm_geti dX12_next_227 rfl fk_X12_148 rfl so_200 ?_
            refine mm_top (v := nI (f0)) rfl ?_
            refine mm_isubN (e1) (f0) dX12_next_230 (by omega) ?_
            refine mm_iconst (v := 4) dX12_next_231 rfl ?_
            refine mm_icmp_leN (e1 - f0) (4) (tgt := 240) dX12_next_232 (by decide) (by omega) (by omega) (fun c232 => ?_) (fun c232 => ?_)
            · refine mm_vret dX12_next_240 rfl ⟨Nat.le_refl _, Nat.le_refl _⟩ ?_
              first | (rw [if_pos (by exact Or.inl ⟨by decide, c203, c211⟩)] at hq; exact hq) | (rw [if_pos (by exact Or.inr ⟨rfl, by omega⟩)] at hq; exact hq) | (rw [if_neg (by rintro (⟨-, q1, q2⟩ | ⟨-, q⟩); (first | exact c203 q1 | exact c211 q2); omega)] at hq; exact hq)
            · refine mm_aload_n 2 dX12_next_235 rfl rfl ?_
              refine mm_iconst (v := 4) dX12_next_236 rfl ?_
              refine mm_puti dX12_next_237 rfl fk_X12_142 rfl fv_12_13 so_200 ?_
              refine mm_mem (J := pz J p (f0, e1, 4) fl bs br ns N CS) (pz_13 (v := 4)) ?_
              refine mm_vret dX12_next_240 rfl ⟨Nat.le_refl _, Nat.le_refl _⟩ ?_
              first | (rw [if_pos (by exact Or.inl ⟨by decide, c203, c211⟩)] at hq; exact hq) | (rw [if_pos (by exact Or.inr ⟨rfl, by omega⟩)] at hq; exact hq) | (rw [if_neg (by rintro (⟨-, q1, q2⟩ | ⟨-, q⟩); (first | exact c203 q1 | exact c211 q2); omega)] at hq; exact hq)
          · refine mm_aload_n 2 dX12_next_206 rfl rfl ?_
            refine mm_geti dX12_next_207 rfl fk_X12_148 rfl so_200 ?_
            refine mm_top (v := nI (f0)) rfl ?_
            refine mm_iload_n 0 dX12_next_210 rfl rfl ?_
            refine mm_icmp_eqN (f0) (e) (tgt := 235) dX12_next_211 (by decide) (by omega) (by omega) (fun c211 => ?_) (fun c211 => ?_)
            · refine mm_aload_n 2 dX12_next_235 rfl rfl ?_
              refine mm_iconst (v := 4) dX12_next_236 rfl ?_
              refine mm_puti dX12_next_237 rfl fk_X12_142 rfl fv_12_13 so_200 ?_
              refine mm_mem (J := pz J p (f0, e1, 4) fl bs br ns N CS) (pz_13 (v := 4)) ?_
              refine mm_vret dX12_next_240 rfl ⟨Nat.le_refl _, Nat.le_refl _⟩ ?_
              first | (rw [if_pos (by exact Or.inl ⟨by decide, c203, c211⟩)] at hq; exact hq) | (rw [if_pos (by exact Or.inr ⟨rfl, by omega⟩)] at hq; exact hq) | (rw [if_neg (by rintro (⟨-, q1, q2⟩ | ⟨-, q⟩); (first | exact c203 q1 | exact c211 q2); omega)] at hq; exact hq)
            · refine mm_aload_n 2 dX12_next_214 rfl rfl ?_
              refine mm_geti dX12_next_215 rfl fk_X12_142 rfl so_200 ?_
              refine mm_top (v := nI (2)) rfl ?_
              refine mm_top (v := 2) rfl ?_
              refine mm_iconst (v := 2) dX12_next_218 rfl ?_
              refine mm_icmp_ne (tgt := 240) dX12_next_219 (by decide) (fun q => absurd q (by decide)) (fun _ => ?_)
              refine mm_aload_n 2 dX12_next_222 rfl rfl ?_
              refine mm_geti dX12_next_223 rfl fk_X12_145 rfl so_200 ?_
              refine mm_top (v := nI (e1)) rfl ?_
              refine mm_aload_n 2 dX12_next_226 rfl rfl ?_
              refine mm_geti dX12_next_227 rfl fk_X12_148 rfl so_200 ?_
              refine mm_top (v := nI (f0)) rfl ?_
              refine mm_isubN (e1) (f0) dX12_next_230 (by omega) ?_
              refine mm_iconst (v := 4) dX12_next_231 rfl ?_
              refine mm_icmp_leN (e1 - f0) (4) (tgt := 240) dX12_next_232 (by decide) (by omega) (by omega) (fun c232 => ?_) (fun c232 => ?_)
              · refine mm_vret dX12_next_240 rfl ⟨Nat.le_refl _, Nat.le_refl _⟩ ?_
                first | (rw [if_pos (by exact Or.inl ⟨by decide, c203, c211⟩)] at hq; exact hq) | (rw [if_pos (by exact Or.inr ⟨rfl, by omega⟩)] at hq; exact hq) | (rw [if_neg (by rintro (⟨-, q1, q2⟩ | ⟨-, q⟩); (first | exact c203 q1 | exact c211 q2); omega)] at hq; exact hq)
              · refine mm_aload_n 2 dX12_next_235 rfl rfl ?_
                refine mm_iconst (v := 4) dX12_next_236 rfl ?_
                refine mm_puti dX12_next_237 rfl fk_X12_142 rfl fv_12_13 so_200 ?_
                refine mm_mem (J := pz J p (f0, e1, 4) fl bs br ns N CS) (pz_13 (v := 4)) ?_
                refine mm_vret dX12_next_240 rfl ⟨Nat.le_refl _, Nat.le_refl _⟩ ?_
                first | (rw [if_pos (by exact Or.inl ⟨by decide, c203, c211⟩)] at hq; exact hq) | (rw [if_pos (by exact Or.inr ⟨rfl, by omega⟩)] at hq; exact hq) | (rw [if_neg (by rintro (⟨-, q1, q2⟩ | ⟨-, q⟩); (first | exact c203 q1 | exact c211 q2); omega)] at hq; exact hq)
      · refine mm_iconst (v := 1) dX12_next_110 rfl ?_
        refine mm_goto (tgt := 130) dX12_next_111 (by decide) ?_
        refine mm_puti dX12_next_130 rfl fk_X12_142 rfl fv_12_13 so_200 ?_
        refine mm_mem (J := pz J p (f0, f0, 1) fl bs br ns N CS) (pz_13 (v := 1)) ?_
        refine mm_aload_n 2 dX12_next_133 rfl rfl ?_
        refine mm_dup dX12_next_134 rfl ?_
        refine mm_geti dX12_next_135 rfl fk_X12_145 rfl so_200 ?_
        refine mm_top (v := nI (f0)) rfl ?_
        refine mm_iconst (v := 1) dX12_next_138 rfl ?_
        refine mm_iaddN (f0) (1) dX12_next_139 ?_
        refine mm_puti dX12_next_140 rfl fk_X12_145 rfl fv_12_12 so_200 ?_
        refine mm_mem (J := pz J p (f0, f0 + 1, 1) fl bs br ns N CS) (pz_12 (v := f0 + 1)) ?_
        rw [if_neg (by omega), nx_s, show tk_s (J 203) t f0 = 1 from (by unfold tk_s; rw [if_pos c107])] at hq
        obtain ⟨hw1, hw2⟩ := tk_we_le (T := J 203) (t := t) (s := 1) 96 (f0 + 1) (by omega)
        refine mm_sub [0, 1, 2] rfl (lm_nx2 (s0 := 1) ht ht96 (by omega) hd 96 (f0 + 1) (by omega) (by omega) ?_)
        generalize tk_we (J 203) t 1 96 (f0 + 1) = e1 at hw1 hw2 hq ⊢
        refine mm_aload_n 2 dX12_next_194 rfl rfl ?_
        refine mm_geti dX12_next_195 rfl fk_X12_142 rfl so_200 ?_
        refine mm_top (v := nI (1)) rfl ?_
        refine mm_top (v := 1) rfl ?_
        refine mm_iconst (v := 3) dX12_next_198 rfl ?_
        refine mm_icmp_eq (tgt := 214) dX12_next_199 (by decide) (fun q => absurd q (by decide)) (fun _ => ?_)
        refine mm_iload_n 1 dX12_next_202 rfl rfl ?_
        refine mm_if_eqB (tgt := 214) dX12_next_203 (by decide) (fun c203 => ?_) (fun c203 => ?_)
        · refine mm_aload_n 2 dX12_next_214 rfl rfl ?_
          refine mm_geti dX12_next_215 rfl fk_X12_142 rfl so_200 ?_
          refine mm_top (v := nI (1)) rfl ?_
          refine mm_top (v := 1) rfl ?_
          refine mm_iconst (v := 2) dX12_next_218 rfl ?_
          refine mm_icmp_ne (tgt := 240) dX12_next_219 (by decide) (fun _ => ?_) (fun q => absurd q (by decide))
          refine mm_vret dX12_next_240 rfl ⟨Nat.le_refl _, Nat.le_refl _⟩ ?_
          first | (rw [if_pos (by exact Or.inl ⟨by decide, c203, c211⟩)] at hq; exact hq) | (rw [if_neg (by rintro (⟨-, q1, q2⟩ | ⟨q, -⟩); (first | exact c203 q1 | exact c211 q2); revert q; decide)] at hq; exact hq)
        · refine mm_aload_n 2 dX12_next_206 rfl rfl ?_
          refine mm_geti dX12_next_207 rfl fk_X12_148 rfl so_200 ?_
          refine mm_top (v := nI (f0)) rfl ?_
          refine mm_iload_n 0 dX12_next_210 rfl rfl ?_
          refine mm_icmp_eqN (f0) (e) (tgt := 235) dX12_next_211 (by decide) (by omega) (by omega) (fun c211 => ?_) (fun c211 => ?_)
          · refine mm_aload_n 2 dX12_next_235 rfl rfl ?_
            refine mm_iconst (v := 4) dX12_next_236 rfl ?_
            refine mm_puti dX12_next_237 rfl fk_X12_142 rfl fv_12_13 so_200 ?_
            refine mm_mem (J := pz J p (f0, e1, 4) fl bs br ns N CS) (pz_13 (v := 4)) ?_
            refine mm_vret dX12_next_240 rfl ⟨Nat.le_refl _, Nat.le_refl _⟩ ?_
            first | (rw [if_pos (by exact Or.inl ⟨by decide, c203, c211⟩)] at hq; exact hq) | (rw [if_neg (by rintro (⟨-, q1, q2⟩ | ⟨q, -⟩); (first | exact c203 q1 | exact c211 q2); revert q; decide)] at hq; exact hq)
          · refine mm_aload_n 2 dX12_next_214 rfl rfl ?_
            refine mm_geti dX12_next_215 rfl fk_X12_142 rfl so_200 ?_
            refine mm_top (v := nI (1)) rfl ?_
            refine mm_top (v := 1) rfl ?_
            refine mm_iconst (v := 2) dX12_next_218 rfl ?_
            refine mm_icmp_ne (tgt := 240) dX12_next_219 (by decide) (fun _ => ?_) (fun q => absurd q (by decide))
            refine mm_vret dX12_next_240 rfl ⟨Nat.le_refl _, Nat.le_refl _⟩ ?_
            first | (rw [if_pos (by exact Or.inl ⟨by decide, c203, c211⟩)] at hq; exact hq) | (rw [if_neg (by rintro (⟨-, q1, q2⟩ | ⟨q, -⟩); (first | exact c203 q1 | exact c211 q2); revert q; decide)] at hq; exact hq)
    · refine mm_aload_n 2 dX12_next_92 rfl rfl ?_
      refine mm_iconst (v := 0) dX12_next_93 rfl ?_
      refine mm_puti dX12_next_94 rfl fk_X12_142 rfl fv_12_13 so_200 ?_
      refine mm_mem (J := pz J p (f0, f0, 0) fl bs br ns N CS) (pz_13 (v := 0)) ?_
      refine mm_vret dX12_next_97 rfl ⟨Nat.le_refl _, Nat.le_refl _⟩ ?_
      rw [if_pos (by omega)] at hq
      have e9 : f0 = t := by omega
      subst e9
      exact hq
  refine mm_icmp_eqN (s) (1) (tgt := 16) dX12_next_5 (by decide) (by omega) (by omega) (fun c5 => ?_) (fun c5 => ?_)
  · refine mm_iconst (v := 1) dX12_next_16 rfl ?_
    refine mm_goto (tgt := 21) dX12_next_17 (by decide) ?_
    exact mm_top (by first | rfl | (simp [c5]; done) | (rw [if_pos (by simp_all)]; done) | (rw [if_neg (by simp_all)]; done) | (rw [if_pos (by omega)]; done) | (rw [if_neg (by omega)]; done)) K5
  · refine mm_aload_n 0 dX12_next_8 rfl rfl ?_
    refine mm_geti dX12_next_9 rfl fk_X12_142 rfl so_200 ?_
    refine mm_top (v := nI (s)) rfl ?_
    refine mm_iconst (v := 2) dX12_next_12 rfl ?_
    refine mm_icmp_neN (s) (2) (tgt := 20) dX12_next_13 (by decide) (by omega) (by omega) (fun c13 => ?_) (fun c13 => ?_)
    · refine mm_iconst (v := 0) dX12_next_20 rfl ?_
      exact mm_top (by first | rfl | (simp [c13, c5]; done) | (rw [if_pos (by simp_all)]; done) | (rw [if_neg (by simp_all)]; done) | (rw [if_pos (by omega)]; done) | (rw [if_neg (by omega)]; done)) K5
    · refine mm_iconst (v := 1) dX12_next_16 rfl ?_
      refine mm_goto (tgt := 21) dX12_next_17 (by decide) ?_
      exact mm_top (by first | rfl | (simp [c13, c5]; done) | (rw [if_pos (by simp_all)]; done) | (rw [if_neg (by simp_all)]; done) | (rw [if_pos (by omega)]; done) | (rw [if_neg (by omega)]; done)) K5
