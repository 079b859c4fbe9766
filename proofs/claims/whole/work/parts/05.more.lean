/-! making cells; references; statics; Math; arraycopy; texts: in the small machine's words -/
section mm_more
variable {g : mm_G} {y : mm_M} {d : Nat} {Al Mt : Nat × Nat} {S : mm_Sh} {I : mm_I} {pc : Nat} {ls : List (Nat × Value)} {st : List Value} {Q : Option Value → mm_Sh → mm_I → Prop}
/-- one cell more -/
def mm_al (S : mm_Sh) (t : mm_Tag) : mm_Sh := (S.1 + 1, fun a => if a = S.1 then t else S.2.1 a, fun a k => if a = S.1 then none else S.2.2 a k)
def mm_al0 (S : mm_Sh) (I : mm_I) : mm_I := fun a k => if a = S.1 then 0 else I a k
/-- a reference is put -/
def mm_pr (S : mm_Sh) (a k b : Nat) : mm_Sh := (S.1, S.2.1, fun c j => if c = a then (if j = k then some b else S.2.2 a j) else S.2.2 c j)
theorem mm_re_eq {n q : Nat} {rho : Nat → Nat} {r : Option Nat} (hn : n < mm_KB) (hc : ∀ b, r = some b → b < n ∨ mm_KB ≤ b) : va_re (fun a => if a = n then q else rho a) r = va_re rho r := by
  cases r with
  | none => rfl
  | some b =>
    have hb : b ≠ n := by rcases hc b rfl with h | h <;> omega
    show va_rf (some (if b = n then q else rho b)) = va_rf (some (rho b))
    rw [if_neg hb]
theorem mm_ws_al {rho : Nat → Nat} {kap : Nat → ClassId} {t : mm_Tag} {q : Nat} {cA : ClassId} {e : va_E} (hn : S.1 < mm_KB) (hc : ∀ a k b, S.2.2 a k = some b → b < S.1 ∨ mm_KB ≤ b) (he : mm_enc (fun a => if a = S.1 then q else rho a) (fun a => if a = S.1 then cA else kap a) (mm_al S t) (mm_al0 S I) S.1 = e) :
    mm_ws rho kap S I ++ [(q, e)] = mm_ws (fun a => if a = S.1 then q else rho a) (fun a => if a = S.1 then cA else kap a) (mm_al S t) (mm_al0 S I) := by
  have hlen : (mm_ws rho kap S I).length = S.1 := by unfold mm_ws; simp
  apply List.ext_getElem?
  intro b
  rcases Nat.lt_trichotomy b S.1 with h | h | h
  · rw [List.getElem?_append_left (by omega), mm_ws_at h, mm_ws_at (by show b < S.1 + 1; omega)]
    have hb : b ≠ S.1 := by omega
    simp only [if_neg hb]
    congr 2
    unfold mm_enc
    show (match S.2.1 b with | .inl ci => _ | .inr (.inl n) => _ | .inr (.inr q) => _) = (match (if b = S.1 then t else S.2.1 b) with | .inl ci => _ | .inr (.inl n) => _ | .inr (.inr q) => _)
    rw [if_neg hb]
    rcases S.2.1 b with ci | n | p
    · show Sum.inr (ci, mm_fs rho S I b ci) = Sum.inr (ci, _)
      congr 2
      unfold mm_fs
      apply List.map_congr_left
      intro k _
      unfold mm_fv
      have e1 : (mm_al S t).2.2 b k = S.2.2 b k := by show (if b = S.1 then none else S.2.2 b k) = _; rw [if_neg hb]
      have e2 : mm_al0 S I b k = I b k := by unfold mm_al0; rw [if_neg hb]
      rw [e1, e2]
      cases mm_ty ci k <;> simp only [mm_re_eq hn (hc b k)]
    · show Sum.inl (kap b, n, Sum.inl (I b)) = Sum.inl ((if b = S.1 then cA else kap b), n, Sum.inl (mm_al0 S I b))
      rw [if_neg hb]
      have e2 : mm_al0 S I b = I b := by funext k; unfold mm_al0; rw [if_neg hb]
      rw [e2]
    · show Sum.inl (kap b, p.2, _) = Sum.inl ((if b = S.1 then cA else kap b), p.2, _)
      rw [if_neg hb]
      congr 7
      funext j
      have e1 : (mm_al S t).2.2 b j = S.2.2 b j := by show (if b = S.1 then none else S.2.2 b j) = _; rw [if_neg hb]
      rw [e1]
      cases hr : S.2.2 b j with
      | none => rfl
      | some x =>
        have hx : x ≠ S.1 := by rcases hc b j x hr with h | h <;> omega
        show some (rho x) = some (if x = S.1 then q else rho x)
        rw [if_neg hx]
  · subst h
    rw [List.getElem?_append_right (by omega), hlen, Nat.sub_self, mm_ws_at (by show S.1 < S.1 + 1; omega), he]
    simp
  · rw [List.getElem?_eq_none (by simp [hlen]; omega), List.getElem?_eq_none (by unfold mm_ws mm_al; simp; omega)]
theorem mm_em_al {n q : Nat} {rho : Nat → Nat} {v : Value} (hn : n < mm_KB) (hc : mm_cl n v) : mm_em (fun a => if a = n then q else rho a) v = mm_em rho v := by
  cases v with
  | ref a =>
    have hb : a ≠ n := by
      intro h
      subst h
      rcases hc a rfl with h | h
      · exact Nat.lt_irrefl _ h
      · exact Nat.lt_irrefl _ (Nat.lt_of_lt_of_le hn h)
    show Value.ref (if a = n then q else rho a) = Value.ref (rho a)
    rw [if_neg hb]
  | _ => rfl
/-- behind a making: the walk goes on with one cell more -/
theorem mm_made {t : mm_Tag} {pc' ns q : Nat} {cA : ClassId} {p : Program} {e : Env} {R : Room} {s : State} {m : MethodId} {args : Array Value} {below : List Frame} {meth : Method} {c : Code} {H1 : Heap} {locs : List Loc} {rls : Array Slot} {n0 : Nat} {rho0 rho : Nat → Nat} {kap : Nat → ClassId} {I0 : mm_I}
    (hC : mm_C g y d Mt R p s m args meth c) (hG : mm_Ag g n0 Mt rho0 rho S) (hak : ∀ a, a < S.1 → mm_ak s (kap a) (S.2.1 a)) (hcr : ∀ a k b, S.2.2 a k = some b → b < S.1 ∨ mm_KB ≤ b) (hl : lv_has rls y.2.2.1 (ls.map (fun q => (q.1, mm_em rho q.2)))) (hn : S.1 < mm_KB) (hA : Al.1 + 1 ≤ Mt.1) (hcs : ∀ v ∈ st, mm_cl S.1 v) (hcls : ∀ q ∈ ls, mm_cl S.1 q.2) (hnew : mm_ak s cA t)
    (hP : va_P g.2.2.1 vwCl (mm_ws (fun a => if a = S.1 then q else rho a) (fun a => if a = S.1 then cA else kap a) (mm_al S t) I0) H1) (hD : va_D (mm_A g) (mm_ws (fun a => if a = S.1 then q else rho a) (fun a => if a = S.1 then cA else kap a) (mm_al S t) I0)) (hS : va_S (mm_A g) s.heap H1 locs)
    (kk : mm_Ex g y d (Al.1 + 1, Al.2 + ns) Mt (mm_al S t) I0 pc' ls (.ref S.1 :: st) Q) :
    W p g.1 e R s m args below meth c H1 locs (Al.1 + 1) (Al.2 + ns) (MQ below (mm_Q g n0 Mt rho0 Q) args s Mt.1 Mt.2 (mm_A g)) (F0 m pc' rls (.ref q :: st.map (mm_em rho))) := by
  have hG' : mm_Ag g n0 Mt rho0 (fun a => if a = S.1 then q else rho a) (mm_al S t) := by
    refine ⟨Nat.le_trans hG.1 (Nat.le_succ _), hn, fun a ha => ?_, fun j => ?_, fun h => by omega⟩
    · have : a ≠ S.1 := by have := hG.1; omega
      simp only [if_neg this]
      exact hG.2.2.1 a ha
    · have : mm_KB + j ≠ S.1 := by omega
      simp only [if_neg this]
      exact hG.2.2.2.1 j
  have hV' : mm_V g (fun a => if a = S.1 then q else rho a) (fun a => if a = S.1 then cA else kap a) (mm_al S t) I0 s H1 := by
    refine ⟨hP, hD, fun a ha => ?_, fun a k b hb => ?_⟩
    · show mm_ak s (if a = S.1 then cA else kap a) (if a = S.1 then t else S.2.1 a)
      by_cases h : a = S.1
      · rw [if_pos h, if_pos h]; exact hnew
      · rw [if_neg h, if_neg h]
        exact hak a (by have : a < S.1 + 1 := ha; omega)
    · have hb : (if a = S.1 then none else S.2.2 a k) = some b := hb
      by_cases h : a = S.1
      · rw [if_pos h] at hb; cases hb
      · rw [if_neg h] at hb
        rcases hcr a k b hb with h2 | h2
        · left; show b < S.1 + 1; omega
        · exact Or.inr h2
  have hl' : lv_has rls y.2.2.1 (ls.map (fun x => (x.1, mm_em (fun a => if a = S.1 then q else rho a) x.2))) := by
    rw [show ls.map (fun x => (x.1, mm_em (fun a => if a = S.1 then q else rho a) x.2)) = ls.map (fun q => (q.1, mm_em rho q.2)) from List.map_congr_left fun x hx => by rw [mm_em_al hn (hcls x hx)]]
    exact hl
  have h := kk p e R s m args below meth c H1 locs rls n0 rho0 _ _ hC hG' hV' hS hl'
  have e1 : (Value.ref S.1 :: st).map (mm_em (fun a => if a = S.1 then q else rho a)) = .ref q :: st.map (mm_em rho) := by
    rw [List.map_cons, List.map_congr_left (fun v hv => mm_em_al hn (hcs v hv))]
    show Value.ref (if S.1 = S.1 then q else rho S.1) :: _ = _
    rw [if_pos rfl]
  rw [e1] at h
  exact h
/-- new -/
theorem mm_new {index ci : Nat} {own C : String} {T : u_T} (hd : decode y.2.1 pc = .ok (.new index, 3)) (ho : y.1.cls = own) (hc : vwCl[ci]? = some (C, T, mm_N ci)) (hin : ∀ w ∈ u_ws C T (mm_N ci), w ∈ mm_tb) (hty : ∀ j, j < mm_N ci → parseFieldDescriptor (T j).2.2.1 = some (mm_ty ci j)) (hlk : Cond.classLink own index C ∈ mm_tb) (hi : Cond.instantiable C (mm_N ci) ∈ mm_tb ∧ Cond.initialized C ∈ mm_tb) (hdf : ∀ j, j < mm_N ci → defaultValue (mm_ty ci j) = if mm_nu ci j then .int 0 else .null)
    (hn : S.1 < mm_KB) (hA : Al.1 + 1 ≤ Mt.1 ∧ Al.2 + mm_N ci ≤ Mt.2) (hcs : ∀ v ∈ st, mm_cl S.1 v) (hcls : ∀ q ∈ ls, mm_cl S.1 q.2)
    (kk : mm_Ex g y d (Al.1 + 1, Al.2 + mm_N ci) Mt (mm_al S (.inl ci)) (mm_al0 S I) (pc + 3) ls (.ref S.1 :: st) Q) : mm_Ex g y d Al Mt S I pc ls st Q := by
  intro p e R s m args below meth c H locs rls n0 rho0 rho kap hC hG hV hS hl
  have ho2 := hC.2.2.2.2.1
  rw [ho] at ho2
  have hrm := hC.2.2.2.2.2.2.2.2.1
  refine va_new (fs := (List.range (mm_N ci)).map (fun j => if mm_nu ci j then Value.int 0 else Value.null)) hC.1 hC.2.1 hC.2.2.2.2.2.1 hin (mm_ty ci) hty ho2 (hC.2.2.2.2.2.1 _ hlk) (hC.2.2.2.2.2.1 _ hi.1) (hC.2.2.2.2.2.1 _ hi.2) hC.2.2.2.2.2.2.2.2.2.1 hV.1 hV.2.1 hS (fun q hq => Nat.le_trans hC.2.2.2.2.2.2.2.2.2.2.1 hq) hc (fun j hj => ?_) (by omega) (by omega) hd (fun q H1 hP hD hS1 => ?_)
  · rw [hdf j hj]
    unfold vp_V
    rw [List.getD_eq_getElem?_getD, List.getElem?_map, List.getElem?_range hj]
    rfl
  · have he : mm_enc (fun a => if a = S.1 then q else rho a) (fun a => if a = S.1 then (0 : ClassId) else kap a) (mm_al S (.inl ci)) (mm_al0 S I) S.1 = .inr (ci, (List.range (mm_N ci)).map (fun j => if mm_nu ci j then Value.int 0 else Value.null)) := by
      unfold mm_enc
      rw [show (mm_al S (.inl ci)).2.1 S.1 = .inl ci from if_pos rfl]
      show Sum.inr (ci, mm_fs _ _ _ _ _) = _
      congr 2
      unfold mm_fs
      apply List.map_congr_left
      intro j _
      by_cases hj : mm_nu ci j = true
      · rw [mm_fv_nu hj, if_pos hj]
        show Value.int (if S.1 = S.1 then 0 else I S.1 j) = _
        rw [if_pos rfl]
      · rw [mm_fv_rf (by simpa using hj), if_neg hj]
        show va_re _ (if S.1 = S.1 then none else S.2.2 S.1 j) = _
        rw [if_pos rfl]; rfl
    rw [mm_ws_al (cA := (0 : ClassId)) hn hV.2.2.2 he] at hP hD
    exact mm_made (t := .inl ci) (cA := (0 : ClassId)) hC hG hV.2.2.1 hV.2.2.2 hl hn hA.1 hcs hcls trivial hP hD hS1 kk
/-- newarray of ints -/
theorem mm_newa {n : Nat} (hd : decode y.2.1 pc = .ok (.newarray .int, 2)) (hw : Cond.arrayClass .int ∈ mm_tb) (hn31 : n < 100000) (hn : S.1 < mm_KB) (hA : Al.1 + 1 ≤ Mt.1 ∧ Al.2 + n ≤ Mt.2) (hcs : ∀ v ∈ st, mm_cl S.1 v) (hcls : ∀ q ∈ ls, mm_cl S.1 q.2)
    (kk : mm_Ex g y d (Al.1 + 1, Al.2 + n) Mt (mm_al S (.inr (.inl n))) (mm_al0 S I) (pc + 2) ls (.ref S.1 :: st) Q) : mm_Ex g y d Al Mt S I pc ls (.int (nI n) :: st) Q := by
  intro p e R s m args below meth c H locs rls n0 rho0 rho kap hC hG hV hS hl
  have hrm := hC.2.2.2.2.2.2.2.2.1
  refine va_newa (atype := .int) (ty := .int) (tys := []) (a0 := (n, .inl (fun _ => 0))) hC.1 hC.2.1 (hC.2.2.2.2.2.1 _ hw) rfl hC.2.2.2.2.2.2.2.2.2.1 hV.1 hV.2.1 hS (fun q hq => Nat.le_trans hC.2.2.2.2.2.2.2.2.2.2.1 hq) (fun cA => rfl) (nI_pos (by omega)) (nI_clamp (by omega)) (by show n * 4 ≤ _; omega) (by omega) (by omega) hd (fun q cA H1 hK1 hP hD hS1 => ?_)
  have he : mm_enc (fun a => if a = S.1 then q else rho a) (fun a => if a = S.1 then cA else kap a) (mm_al S (.inr (.inl n))) (mm_al0 S I) S.1 = .inl (cA, n, .inl (fun _ => 0)) := by
    unfold mm_enc
    rw [show (mm_al S (.inr (.inl n))).2.1 S.1 = .inr (.inl n) from if_pos rfl]
    show Sum.inl ((if S.1 = S.1 then cA else kap S.1), n, Sum.inl (mm_al0 S I S.1)) = _
    rw [if_pos rfl, show mm_al0 S I S.1 = fun _ => 0 from funext fun k => if_pos rfl]
  rw [mm_ws_al (cA := cA) hn hV.2.2.2 he] at hP hD
  exact mm_made (t := .inr (.inl n)) (cA := cA) hC hG hV.2.2.1 hV.2.2.2 hl hn hA.1 hcs hcls (hK1.2 0 _ rfl) hP hD hS1 kk
/-- anewarray -/
theorem mm_newq {n index q : Nat} {own : String} (hd : decode y.2.1 pc = .ok (.anewarray index, 3)) (ho : y.1.cls = own) (hq : q ∈ [1, 4, 13]) (hlk : Cond.classLink own index (mm_cn q) ∈ mm_tb) (hn31 : n < 100000) (hn : S.1 < mm_KB) (hA : Al.1 + 1 ≤ Mt.1 ∧ Al.2 + n ≤ Mt.2) (hcs : ∀ v ∈ st, mm_cl S.1 v) (hcls : ∀ q ∈ ls, mm_cl S.1 q.2)
    (kk : mm_Ex g y d (Al.1 + 1, Al.2 + n) Mt (mm_al S (.inr (.inr (q, n)))) (mm_al0 S I) (pc + 3) ls (.ref S.1 :: st) Q) : mm_Ex g y d Al Mt S I pc ls (.int (nI n) :: st) Q := by
  intro p e R s m args below meth c H locs rls n0 rho0 rho kap hC hG hV hS hl
  have ho2 := hC.2.2.2.2.1
  rw [ho] at ho2
  have hrm := hC.2.2.2.2.2.2.2.2.1
  refine va_newq (tys := []) hC.1 hC.2.1 ho2 (hC.2.2.2.2.2.1 _ hlk) (hC.2.2.2.2.2.2.2.2.2.2.2.2.2.2.2.2 q hq) hC.2.2.2.2.2.2.2.2.2.1 hV.1 hV.2.1 hS (fun q hq => Nat.le_trans hC.2.2.2.2.2.2.2.2.2.2.1 hq) (nI_pos (by omega)) (nI_clamp (by omega)) (by omega) (by omega) (by omega) hd (fun q' cA H1 hK1 hP hD hS1 => ?_)
  have he : mm_enc (fun a => if a = S.1 then q' else rho a) (fun a => if a = S.1 then cA else kap a) (mm_al S (.inr (.inr (q, n)))) (mm_al0 S I) S.1 = .inl (cA, n, .inr (.inr (.inr (.inr (fun _ => none))))) := by
    unfold mm_enc
    rw [show (mm_al S (.inr (.inr (q, n)))).2.1 S.1 = .inr (.inr (q, n)) from if_pos rfl]
    show Sum.inl ((if S.1 = S.1 then cA else kap S.1), n, _) = _
    rw [if_pos rfl]
    congr 7
    funext j
    show Option.map _ (if S.1 = S.1 then none else S.2.2 S.1 j) = none
    rw [if_pos rfl]; rfl
  rw [mm_ws_al (cA := cA) hn hV.2.2.2 he] at hP hD
  exact mm_made (t := .inr (.inr (q, n))) (cA := cA) hC hG hV.2.2.1 hV.2.2.2 hl hn hA.1 hcs hcls (hK1.2 0 _ rfl) hP hD hS1 kk
/-- Object.<init> -/
theorem mm_obj {index a : Nat} {own : String} (hd : decode y.2.1 pc = .ok (.invokespecial index, 3)) (ho : y.1.cls = own) (hlk : Cond.methodLink own index Lib.objectInit ∈ mm_tb) (hin : Cond.instanceMethod Lib.objectInit ∈ mm_tb ∧ Cond.code Lib.objectInit ⟨#[0xb1]⟩ 1 none ∈ mm_tb) (hdz : 1 ≤ d) (hrs : (st.map fun v => v.category).sum ≤ 8) (kk : mm_Ex g y d Al Mt S I (pc + 3) ls st Q) : mm_Ex g y d Al Mt S I pc ls (.ref a :: st) Q := by
  intro p e R s m args below meth c H locs rls n0 rho0 rho kap hC hG hV hS hl
  have ho2 := hC.2.2.2.2.1
  rw [ho] at ho2
  have hrm := hC.2.2.2.2.2.2.2.2.1
  exact W.objInit hC.1 hC.2.1 ho2 (hC.2.2.2.2.2.1 _ hlk) (hC.2.2.2.2.2.1 _ hin.1) (hC.2.2.2.2.2.1 _ hin.2) rfl (by rw [hC.2.2.2.1]; exact hl.1) (rest := st.map (mm_em rho)) rfl hd (by omega) (by have := mm_cat_sum (rho := rho) hrs; show 2 * 0 + _ + 12 ≤ _; omega)
    (kk p e R s m args below meth c H locs rls n0 rho0 rho kap hC hG hV hS hl)
theorem mm_ws_pr {rho : Nat → Nat} {kap : Nat → ClassId} {a k b : Nat} {e : va_E} (ha : a < S.1) (he : mm_enc rho kap (mm_pr S a k b) I a = e) : (mm_ws rho kap S I).set a (rho a, e) = mm_ws rho kap (mm_pr S a k b) I := by
  apply List.ext_getElem?
  intro c
  by_cases hb : c = a
  · subst hb
    rw [List.getElem?_set_self (by unfold mm_ws; simpa using ha), mm_ws_at (show c < (mm_pr S c k b).1 from ha), he]
  · rw [List.getElem?_set_ne (Ne.symm hb)]
    by_cases hlt : c < S.1
    · rw [mm_ws_at hlt, mm_ws_at (show c < (mm_pr S a k b).1 from hlt)]
      have e1 : ∀ j, (mm_pr S a k b).2.2 c j = S.2.2 c j := fun j => if_neg hb
      unfold mm_enc mm_fs mm_fv
      simp only [e1]
      rfl
    · rw [List.getElem?_eq_none (by unfold mm_ws; simpa using hlt), List.getElem?_eq_none (by unfold mm_ws mm_pr; simpa using hlt)]
theorem mm_V_pr {kap : Nat → ClassId} {a k b : Nat} {U : State} (h1 : ∀ a, a < S.1 → mm_ak U (kap a) (S.2.1 a)) (h2 : ∀ a k b, S.2.2 a k = some b → b < S.1 ∨ mm_KB ≤ b) (hb : b < S.1 ∨ mm_KB ≤ b) : (∀ c, c < (mm_pr S a k b).1 → mm_ak U (kap c) ((mm_pr S a k b).2.1 c)) ∧ ∀ c j x, (mm_pr S a k b).2.2 c j = some x → x < (mm_pr S a k b).1 ∨ mm_KB ≤ x := by
  refine ⟨h1, fun c j x hx => ?_⟩
  have hx : (if c = a then (if j = k then some b else S.2.2 a j) else S.2.2 c j) = some x := hx
  by_cases hc : c = a
  · rw [if_pos hc] at hx
    by_cases hj : j = k
    · rw [if_pos hj] at hx; cases hx; exact hb
    · rw [if_neg hj] at hx; exact h2 a j x hx
  · rw [if_neg hc] at hx; exact h2 c j x hx
/-- putfield of a reference into a final place, in a constructor -/
theorem mm_putr {a ci k index b : Nat} {own : String} (hd : decode y.2.1 pc = .ok (.putfield index, 3)) (ho : y.1.cls = own) (hy : y.1.name = "<init>") (hF : mm_F own index ci k) (hfin : ∀ C T N, vwCl[ci]? = some (C, T, N) → (T k).2.2.2 = true ∧ (T k).1 = own) (hn : mm_nu ci k = false) (ha : mm_ob S a ci) (hb : b < S.1 ∨ mm_KB ≤ b) (kk : mm_Ex g y d Al Mt (mm_pr S a k b) I (pc + 3) ls st Q) : mm_Ex g y d Al Mt S I pc ls (.ref b :: .ref a :: st) Q := by
  intro p e R s m args below meth c H locs rls n0 rho0 rho kap hC hG hV hS hl
  obtain ⟨C, T, hc, hk, hin, hlk, hty, hnm⟩ := hF
  have ho2 := hC.2.2.2.2.1
  rw [ho] at ho2
  have hf := hfin C T _ hc
  refine va_putF (ty := mm_ty ci k) hC.1 hC.2.1 hC.2.2.2.2.2.1 hin (mm_ty ci) hty hnm ho2 hC.2.2.2.2.2.2.2.2.2.1 hV.1 hV.2.1 hS a (mm_enc_ob ha) hc k hk (hC.2.2.2.2.2.1 _ hlk) (fun x h => h) hf.1 (by rw [hC.2.2.2.2.2.2.2.1]; exact hy) hf.2 (v := .ref (rho b)) (hty k hk) (by unfold mm_nu at hn; cases hh : mm_ty ci k <;> simp_all [narrow]) (by unfold mm_nu at hn; cases hh : mm_ty ci k <;> simp_all [fits]) (by unfold mm_fs; simpa using hk) hd (fun H1 locs1 hP hD hS1 => ?_)
  have he : mm_enc rho kap (mm_pr S a k b) I a = .inr (ci, (mm_fs rho S I a ci).set k (.ref (rho b))) := by
    unfold mm_enc
    rw [show (mm_pr S a k b).2.1 a = .inl ci from ha.2]
    show Sum.inr (ci, _) = Sum.inr (ci, _)
    congr 2
    apply List.ext_getElem?
    intro j
    by_cases hj : j = k
    · subst hj
      rw [List.getElem?_set_self (by unfold mm_fs; simpa using hk), mm_fs_at hk, mm_fv_rf hn]
      show some (va_re rho (if a = a then (if j = j then some b else S.2.2 a j) else S.2.2 a j)) = _
      rw [if_pos rfl, if_pos rfl]; rfl
    · rw [List.getElem?_set_ne (Ne.symm hj)]
      by_cases hlt : j < mm_N ci
      · rw [mm_fs_at hlt, mm_fs_at hlt]
        have e1 : (mm_pr S a k b).2.2 a j = S.2.2 a j := by show (if a = a then (if j = k then some b else S.2.2 a j) else S.2.2 a j) = _; rw [if_pos rfl, if_neg hj]
        unfold mm_fv
        rw [e1]
      · rw [List.getElem?_eq_none (by unfold mm_fs; simpa using hlt), List.getElem?_eq_none (by unfold mm_fs; simpa using hlt)]
  rw [mm_ws_pr ha.1 he] at hP hD
  have hvp := mm_V_pr (a := a) (k := k) hV.2.2.1 hV.2.2.2 hb
  exact kk p e R s m args below meth c H1 locs1 rls n0 rho0 rho kap hC hG ⟨hP, hD, hvp.1, hvp.2⟩ hS1 hl
/-- aastore of an own object, or of a text -/
theorem mm_aast {a q n b : Nat} {i : Int32} (hd : decode y.2.1 pc = .ok (.aastore, 1)) (ha : mm_ra S a q n) (hin : vp_in i n) (hb : (mm_ob S b q ∧ ∃ T N, vwCl[q]? = some (mm_cn q, T, N)) ∨ (mm_cn q = "java/lang/String" ∧ ∃ t, t < 14 ∧ b = mm_KB + (5 + t))) (kk : mm_Ex g y d Al Mt (mm_pr S a i.toNatClampNeg b) I (pc + 1) ls st Q) : mm_Ex g y d Al Mt S I pc ls (.ref b :: .int i :: .ref a :: st) Q := by
  intro p e R s m args below meth c H locs rls n0 rho0 rho kap hC hG hV hS hl
  have hak := hV.2.2.1 a ha.1
  rw [ha.2] at hak
  have hK : va_K g.2.2.1 vwCl [(kap a, .object (mm_cn q))] s := ⟨hC.2.2.2.2.2.2.2.2.2.1.1, fun k q hq => by
    rcases k with _ | k
    · cases hq; exact hak
    · cases hq⟩
  have hany : va_Any (mm_cn q) s H (rho b) := by
    rcases hb with ⟨h1, T, N, h2⟩ | ⟨h1, t, ht, rfl⟩
    · refine va_rAny hK hV.1 (mm_enc_ob h1) h2 (fun comp c0 e1 e2 => ?_)
      have : comp = c0 := Option.some.inj (e1.symm.trans e2)
      subst this
      exact va_asg _ _
    · rw [h1, hG.2.2.2.1]
      obtain ⟨cell, q1, q2, q3, -⟩ := (hC.2.2.2.2.2.2.2.2.2.2.2.2.2.1.1 t ht).1.kept hS.2.1
      obtain ⟨kC, hkC, -⟩ := Vm.findClass_spec q3
      refine ⟨cell, q1, q2, ⟨kC, hkC⟩, fun comp h => ?_⟩
      have : comp = cell.cls := Option.some.inj (h.symm.trans q3)
      subst this
      exact va_asg _ _
  have hbb : b < S.1 ∨ mm_KB ≤ b := by
    rcases hb with ⟨h1, -⟩ | ⟨-, t, -, rfl⟩
    · exact Or.inl h1.1
    · exact Or.inr (by omega)
  refine va_astqM hC.1 hC.2.1 hK hV.1 hV.2.1 hS a 0 (mm_enc_ra ha) rfl hany hin hd (fun H1 locs1 hP hD hS1 => ?_)
  have he : mm_enc rho kap (mm_pr S a i.toNatClampNeg b) I a = .inl (kap a, n, .inr (.inr (.inr (.inr (va_up (fun j => (S.2.2 a j).map rho) i.toNatClampNeg (some (rho b))))))) := by
    unfold mm_enc
    rw [show (mm_pr S a i.toNatClampNeg b).2.1 a = .inr (.inr (q, n)) from ha.2]
    show Sum.inl (kap a, n, _) = _
    congr 7
    funext j
    show Option.map rho (if a = a then (if j = i.toNatClampNeg then some b else S.2.2 a j) else S.2.2 a j) = if j = i.toNatClampNeg then some (rho b) else (S.2.2 a j).map rho
    rw [if_pos rfl]
    by_cases hj : j = i.toNatClampNeg
    · rw [if_pos hj, if_pos hj]; rfl
    · rw [if_neg hj, if_neg hj]
  rw [mm_ws_pr ha.1 he] at hP hD
  have hvp := mm_V_pr (a := a) (k := i.toNatClampNeg) hV.2.2.1 hV.2.2.2 hbb
  exact kk p e R s m args below meth c H1 locs1 rls n0 rho0 rho kap hC hG ⟨hP, hD, hvp.1, hvp.2⟩ hS1 hl
/-- getstatic of a row of ints: in its own class, and of a nest mate -/
theorem mm_gets {j index : Nat} (hd : decode y.2.1 pc = .ok (.getstatic index, 3)) (ho : y.1.cls = "DarkBase") (hlk : Cond.fieldLink "DarkBase" index "DarkBase" (mm_sn j) "[I" ∈ mm_tb) (hj : 1 ≤ j ∧ j ≤ 4) (kk : mm_Ex g y d Al Mt S I (pc + 3) ls (.ref (mm_KB + j) :: st) Q) : mm_Ex g y d Al Mt S I pc ls st Q := by
  intro p e R s m args below meth c H locs rls n0 rho0 rho kap hC hG hV hS hl
  have ho2 := hC.2.2.2.2.1
  rw [ho] at ho2
  have h := kk p e R s m args below meth c H locs rls n0 rho0 rho kap hC hG hV hS hl
  have e1 : (Value.ref (mm_KB + j) :: st).map (mm_em rho) = .ref (g.2.2.2.1 j) :: st.map (mm_em rho) := by
    show Value.ref (rho (mm_KB + j)) :: _ = _
    rw [hG.2.2.2.1 j]
  rw [e1] at h
  exact va_gets hC.1 hC.2.1 (hC.2.2.2.2.2.2.2.2.2.2.2.2.1 j hj.1 hj.2) hS ho2 (hC.2.2.2.2.2.1 _ hlk) (fun x h => h) hd h
theorem mm_getsN {j index : Nat} {own : String} (hd : decode y.2.1 pc = .ok (.getstatic index, 3)) (ho : y.1.cls = own) (hlk : (own, index, j) ∈ mm_nf) (hj : 1 ≤ j ∧ j ≤ 4) (kk : mm_Ex g y d Al Mt S I (pc + 3) ls (.ref (mm_KB + j) :: st) Q) : mm_Ex g y d Al Mt S I pc ls st Q := by
  intro p e R s m args below meth c H locs rls n0 rho0 rho kap hC hG hV hS hl
  have ho2 := hC.2.2.2.2.1
  rw [ho] at ho2
  have h := kk p e R s m args below meth c H locs rls n0 rho0 rho kap hC hG hV hS hl
  have e1 : (Value.ref (mm_KB + j) :: st).map (mm_em rho) = .ref (g.2.2.2.1 j) :: st.map (mm_em rho) := by
    show Value.ref (rho (mm_KB + j)) :: _ = _
    rw [hG.2.2.2.1 j]
  rw [e1] at h
  exact va_getsN hC.1 hC.2.1 (hC.2.2.2.2.2.2.2.2.2.2.2.2.1 j hj.1 hj.2) hS ho2 (va_Nw.use rfl (hC.2.2.2.2.2.2.2.2.2.2.2.2.2.2.2.1 _ hlk)) (fun x h => h) hd h
/-- ldc of a text -/
theorem mm_ldcS {index t : Nat} {own tx : String} (hd : decode y.2.1 pc = .ok (.ldc index, 2)) (ho : y.1.cls = own) (hlk : (own, index, tx, t) ∈ mm_sr) (kk : mm_Ex g y d Al Mt S I (pc + 2) ls (.ref (mm_KB + (5 + t)) :: st) Q) : mm_Ex g y d Al Mt S I pc ls st Q := by
  intro p e R s m args below meth c H locs rls n0 rho0 rho kap hC hG hV hS hl
  have ho2 := hC.2.2.2.2.1
  rw [ho] at ho2
  have h := kk p e R s m args below meth c H locs rls n0 rho0 rho kap hC hG hV hS hl
  have e1 : (Value.ref (mm_KB + (5 + t)) :: st).map (mm_em rho) = .ref (g.2.2.2.1 (5 + t)) :: st.map (mm_em rho) := by
    show Value.ref (rho (mm_KB + (5 + t))) :: _ = _
    rw [hG.2.2.2.1]
  rw [e1] at h
  exact va_ldcS hC.1 hC.2.1 ho2 (hC.2.2.2.2.2.2.2.2.2.2.2.2.2.1.2.1 _ hlk) hd h
/-- Math -/
theorem mm_max {index : Nat} {own : String} {x z : Int32} (hd : decode y.2.1 pc = .ok (.invokestatic index, 3)) (ho : y.1.cls = own) (hlk : Cond.methodLink own index Lib.Math.max.name ∈ mm_tb) (hw : Cond.static Lib.Math.max.name ∈ mm_tb ∧ Cond.initialized "java/lang/Math" ∈ mm_tb ∧ Cond.code Lib.Math.max.name Lib.Math.max.code 2 (some .int) ∈ mm_tb) (hdz : 1 ≤ d) (hrs : (st.map fun v => v.category).sum ≤ 8) (hA : Al.1 ≤ Mt.1 ∧ Al.2 ≤ Mt.2) (kk : mm_Ex g y d Al Mt S I (pc + 3) ls (.int (if x < z then z else x) :: st) Q) : mm_Ex g y d Al Mt S I pc ls (.int z :: .int x :: st) Q := by
  intro p e R s m args below meth c H locs rls n0 rho0 rho kap hC hG hV hS hl
  have ho2 := hC.2.2.2.2.1
  rw [ho] at ho2
  have hrm := hC.2.2.2.2.2.2.2.2.1
  exact va_mmax hC.1 hC.2.1 (hC.2.2.2.1.trans hl.1.symm) ho2 (hC.2.2.2.2.2.1 _ hlk) (hC.2.2.2.2.2.1 _ hw.1) (hC.2.2.2.2.2.1 _ hw.2.1) (hC.2.2.2.2.2.1 _ hw.2.2) (by omega) (by have := mm_cat_sum (rho := rho) hrs; omega) (by omega) (by omega) hd (kk p e R s m args below meth c H locs rls n0 rho0 rho kap hC hG hV hS hl)
theorem mm_min {index : Nat} {own : String} {x z : Int32} (hd : decode y.2.1 pc = .ok (.invokestatic index, 3)) (ho : y.1.cls = own) (hlk : Cond.methodLink own index Lib.Math.min.name ∈ mm_tb) (hw : Cond.static Lib.Math.min.name ∈ mm_tb ∧ Cond.initialized "java/lang/Math" ∈ mm_tb ∧ Cond.code Lib.Math.min.name Lib.Math.min.code 2 (some .int) ∈ mm_tb) (hdz : 1 ≤ d) (hrs : (st.map fun v => v.category).sum ≤ 8) (hA : Al.1 ≤ Mt.1 ∧ Al.2 ≤ Mt.2) (kk : mm_Ex g y d Al Mt S I (pc + 3) ls (.int (if z < x then z else x) :: st) Q) : mm_Ex g y d Al Mt S I pc ls (.int z :: .int x :: st) Q := by
  intro p e R s m args below meth c H locs rls n0 rho0 rho kap hC hG hV hS hl
  have ho2 := hC.2.2.2.2.1
  rw [ho] at ho2
  have hrm := hC.2.2.2.2.2.2.2.2.1
  exact va_mmin hC.1 hC.2.1 (hC.2.2.2.1.trans hl.1.symm) ho2 (hC.2.2.2.2.2.1 _ hlk) (hC.2.2.2.2.2.1 _ hw.1) (hC.2.2.2.2.2.1 _ hw.2.1) (hC.2.2.2.2.2.1 _ hw.2.2) (by omega) (by have := mm_cat_sum (rho := rho) hrs; omega) (by omega) (by omega) hd (kk p e R s m args below meth c H locs rls n0 rho0 rho kap hC hG hV hS hl)
theorem mm_abs {index : Nat} {own : String} {x : Int32} (hd : decode y.2.1 pc = .ok (.invokestatic index, 3)) (ho : y.1.cls = own) (hlk : Cond.methodLink own index Lib.Math.abs.name ∈ mm_tb) (hw : Cond.static Lib.Math.abs.name ∈ mm_tb ∧ Cond.initialized "java/lang/Math" ∈ mm_tb ∧ Cond.code Lib.Math.abs.name Lib.Math.abs.code 1 (some .int) ∈ mm_tb) (hdz : 1 ≤ d) (hrs : (st.map fun v => v.category).sum ≤ 8) (hA : Al.1 ≤ Mt.1 ∧ Al.2 ≤ Mt.2) (kk : mm_Ex g y d Al Mt S I (pc + 3) ls (.int (if 0 ≤ x then x else 0 - x) :: st) Q) : mm_Ex g y d Al Mt S I pc ls (.int x :: st) Q := by
  intro p e R s m args below meth c H locs rls n0 rho0 rho kap hC hG hV hS hl
  have ho2 := hC.2.2.2.2.1
  rw [ho] at ho2
  have hrm := hC.2.2.2.2.2.2.2.2.1
  exact va_mabs hC.1 hC.2.1 (hC.2.2.2.1.trans hl.1.symm) ho2 (hC.2.2.2.2.2.1 _ hlk) (hC.2.2.2.2.2.1 _ hw.1) (hC.2.2.2.2.2.1 _ hw.2.1) (hC.2.2.2.2.2.1 _ hw.2.2) (by omega) (by have := mm_cat_sum (rho := rho) hrs; omega) (by omega) (by omega) hd (kk p e R s m args below meth c H locs rls n0 rho0 rho kap hC hG hV hS hl)
theorem mm_nfw : nativeFrameWords "java/lang/System" "arraycopy" 5 + 11 ≤ 60 := by decide +kernel
/-- System.arraycopy of ints -/
def mm_cp (I : mm_I) (a0 a sp dp n : Nat) : mm_I := fun b j => if b = a then (if dp ≤ j ∧ j < dp + n then I a0 (sp + (j - dp)) else I a j) else I b j
theorem mm_copy {index a a0 n n0' : Nat} {own : String} {sp dp m' : Int32} (hd : decode y.2.1 pc = .ok (.invokestatic index, 3)) (ho : y.1.cls = own) (hlk : Cond.methodLink own index arraycopyName ∈ mm_tb) (hw : Cond.native arraycopyName ∈ mm_tb ∧ Cond.static arraycopyName ∈ mm_tb ∧ Cond.initialized "java/lang/System" ∈ mm_tb) (hdz : 2 ≤ d) (hrs : (st.map fun v => v.category).sum ≤ 8) (ha0 : mm_ia S a0 n0') (ha : mm_ia S a n)
    (h1 : ¬ sp < 0) (h2 : ¬ dp < 0) (h3 : ¬ m' < 0) (h4 : sp.toNatClampNeg + m'.toNatClampNeg ≤ n0') (h5 : dp.toNatClampNeg + m'.toNatClampNeg ≤ n) (kk : mm_Ex g y d Al Mt S (mm_cp I a0 a sp.toNatClampNeg dp.toNatClampNeg m'.toNatClampNeg) (pc + 3) ls st Q) : mm_Ex g y d Al Mt S I pc ls (.int m' :: .int dp :: .ref a :: .int sp :: .ref a0 :: st) Q := by
  intro p e R s m args below meth c H locs rls n0 rho0 rho kap hC hG hV hS hl
  have ho2 := hC.2.2.2.2.1
  rw [ho] at ho2
  have hrm := hC.2.2.2.2.2.2.2.2.1
  have hak := hV.2.2.1 a ha.1
  rw [ha.2] at hak
  have hak0 := hV.2.2.1 a0 ha0.1
  rw [ha0.2] at hak0
  refine va_copyi (tys := [(kap a0, .int), (kap a, .int)]) (ty := .int) hC.1 hC.2.1 (hC.2.2.2.1.trans hl.1.symm) ho2 (hC.2.2.2.2.2.1 _ hlk) (hC.2.2.2.2.2.1 _ hw.1) (hC.2.2.2.2.2.1 _ hw.2.1) (hC.2.2.2.2.2.1 _ hw.2.2) ⟨hC.2.2.2.2.2.2.2.2.2.1.1, fun k q hq => by
    rcases k with _ | _ | k
    · cases hq; exact hak0
    · cases hq; exact hak
    · cases hq⟩ hV.1 hV.2.1 hS a0 a 0 1 (mm_enc_ia ha0) (mm_enc_ia ha) rfl rfl rfl h1 h2 h3 h4 h5 (fun _ _ => rfl) (by omega) (by have := mm_cat_sum (rho := rho) hrs; exact Nat.le_trans (Nat.add_le_add this mm_nfw) (by omega)) hd (fun H1 locs1 hP hD hS1 => ?_)
  have e1 : (mm_ws rho kap S I).set a (rho a, .inl (kap a, n, .inl (va_cpy (I a0) (I a) sp.toNatClampNeg dp.toNatClampNeg m'.toNatClampNeg))) = mm_ws rho kap S (mm_cp I a0 a sp.toNatClampNeg dp.toNatClampNeg m'.toNatClampNeg) := by
    apply List.ext_getElem?
    intro b
    by_cases hb : b = a
    · subst hb
      rw [List.getElem?_set_self (by unfold mm_ws; simpa using ha.1), mm_enc_ia ha]
      rw [show mm_cp I a0 b sp.toNatClampNeg dp.toNatClampNeg m'.toNatClampNeg b = va_cpy (I a0) (I b) sp.toNatClampNeg dp.toNatClampNeg m'.toNatClampNeg from by
        funext j
        unfold mm_cp va_cpy
        rw [if_pos rfl]]
    · rw [List.getElem?_set_ne (Ne.symm hb)]
      by_cases hlt : b < S.1
      · rw [mm_ws_at hlt, mm_ws_at hlt]
        unfold mm_enc mm_fs mm_fv mm_cp
        simp only [if_neg hb]
      · rw [List.getElem?_eq_none (by unfold mm_ws; simpa using hlt), List.getElem?_eq_none (by unfold mm_ws; simpa using hlt)]
  rw [e1] at hP hD
  exact kk p e R s m args below meth c H1 locs1 rls n0 rho0 rho kap hC hG ⟨hP, hD, hV.2.2⟩ hS1 hl
end mm_more
