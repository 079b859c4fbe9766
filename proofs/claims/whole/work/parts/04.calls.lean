/-! calls, in the small machine's words -/
theorem mm_tb_good : ∀ w ∈ mm_tb, w ∈ mm_tb ∧ ((w.onTables && w.keeps) = true ∨ ∃ ty, w = .arrayClass ty) := fun w h => ⟨h, good_of_word (List.mem_filter.mp h).2⟩
/-- a method's own facts: code, class, parameters -/
def mm_Mz (z : mm_M) (n : Nat) : Prop := Cond.code z.1 z.2.1 z.2.2.1 z.2.2.2 ∈ mm_tb ∧ Cond.initialized z.1.cls ∈ mm_tb ∧ plainName z.1.cls = true ∧
  (z.1.cls ≠ "java/lang/invoke/MethodHandle" ∧ z.1.cls ≠ "java/lang/invoke/VarHandle" ∧ (parseMethodDescriptor z.1.desc).map (fun d => d.parameters.length) = some n) ∧ z.2.2.1 ≤ 20
def mm_rm (d : Nat) (Mt : Nat × Nat) : Room := { frames := d, cells := Mt.1, slots := Mt.2, locals := 40 * d }
def mm_P (g : mm_G) (rho : Nat → Nat) (kap : Nat → ClassId) (av : List Value) (S : mm_Sh) (I : mm_I) : Array Value → State → Prop := fun args U => args = (av.map (mm_em rho)).toArray ∧ mm_V g rho kap S I U U.heap ∧ mm_K g U
theorem mm_blind {g : mm_G} {rho : Nat → Nat} {kap : Nat → ClassId} {av : List Value} {S : mm_Sh} {I : mm_I} : FrameBlind (mm_P g rho kap av S I) := fun a U f mk h => ⟨h.1, mm_V_moved (u := U) (U := U.calling f mk a) (Vm.Alike.refl U.vm) h.2.1, mm_K_call h.2.2 rfl rfl⟩
theorem mm_met {g : mm_G} {z : mm_M} {dz n : Nat} {Mz : Nat × Nat} {av : List Value} {S : mm_Sh} {I : mm_I} {Qz : Option Value → mm_Sh → mm_I → Prop} {rho : Nat → Nat} {kap : Nat → ClassId} (hz : mm_Mz z n) (h : mm_Ct g z dz Mz av S I Qz) (hG : mm_Ag g S.1 Mz rho rho S) :
    Met g.1 z.1 (Cond.code z.1 z.2.1 z.2.2.1 z.2.2.2 :: mm_tb) (mm_rm dz Mz) (mm_P g rho kap av S I) (mm_Q g S.1 Mz rho Qz) Mz.1 Mz.2 (mm_A g) := by
  refine Met.ofW (cc := z.2.1) (maxL := z.2.2.1) (ret := z.2.2.2) hz.2.2.1 rfl ?_
  intro p e s m args below meth c s₁ B hml hv
  obtain ⟨h1, h2, h3⟩ := hv
  have hts := atoms_spec (ws := Cond.code z.1 z.2.1 z.2.2.1 z.2.2.2 :: mm_tb) B.pre
  exact h p e (headSpec (Cond.code z.1 z.2.1 z.2.2.1 z.2.2.2 :: mm_tb) (mm_rm dz Mz)).room s m args below meth c rho kap ⟨B.exec, B.bytes, B.returns, hml, findClass_of_methodNamed B.named, fun w hw => hts w (List.mem_cons_of_mem _ hw), B.notSynchronized, (name_of_methodNamed B.named B.method).1, ⟨Nat.le_refl _, Nat.le_refl _, Nat.le_refl _, Nat.le_refl _⟩, h3⟩ hG h2 h1
def mm_cl (n : Nat) (v : Value) : Prop := ∀ a, v = .ref a → a < n ∨ mm_KB ≤ a
theorem mm_em_eq {g : mm_G} {n : Nat} {rho rho' : Nat → Nat} {v : Value} (h1 : ∀ a, a < n → rho' a = rho a) (h2 : ∀ j, rho' (mm_KB + j) = g.2.2.2.1 j) (h3 : ∀ j, rho (mm_KB + j) = g.2.2.2.1 j) (hc : mm_cl n v) : mm_em rho' v = mm_em rho v := by
  cases v with
  | ref a =>
    show Value.ref (rho' a) = Value.ref (rho a)
    rcases hc a rfl with h | h
    · rw [h1 a h]
    · obtain ⟨j, rfl⟩ : ∃ j, a = mm_KB + j := ⟨a - mm_KB, (Nat.add_sub_cancel' h).symm⟩
      rw [h2, h3]
  | _ => rfl
section mm_callrows
variable {g : mm_G} {y : mm_M} {d : Nat} {Al Mt : Nat × Nat} {S : mm_Sh} {I : mm_I} {pc : Nat} {ls : List (Nat × Value)} {st : List Value} {Q : Option Value → mm_Sh → mm_I → Prop}
/-- behind a call -/
theorem mm_behind {Mz : Nat × Nat} {Qz : Option Value → mm_Sh → mm_I → Prop} {p : Program} {e : Env} {R : Room} {s : State} {m : MethodId} {args : Array Value} {below : List Frame} {meth : Method} {c : Code} {H : Heap} {locs : List Loc} {rls : Array Slot} {n0 : Nat} {rho0 rho : Nat → Nat} {kap : Nat → ClassId} {st0 : List Value} (a : Array Value)
    (hC : mm_C g y d Mt R p s m args meth c) (hG : mm_Ag g n0 Mt rho0 rho S) (hV : mm_V g rho kap S I s H) (hS : va_S (mm_A g) s.heap H locs) (hl : lv_has rls y.2.2.1 (ls.map (fun q => (q.1, mm_em rho q.2)))) (hA : Al.1 + Mz.1 ≤ Mt.1 ∧ Al.2 + Mz.2 ≤ Mt.2) (hcl : Mz.1 = 0 ∨ ((∀ v ∈ st, mm_cl S.1 v) ∧ ∀ q ∈ ls, mm_cl S.1 q.2))
    (hrun : va_Run p g.1 e R s m args below meth c H locs Al.1 Al.2 Mz.1 Mz.2 (F0 m pc rls st0) (st.map (mm_em rho)) (mm_Q g S.1 Mz rho Qz a) (mm_A g))
    (kk : ∀ r S' I', Qz r S' I' → mm_Ex g y d (Al.1 + Mz.1, Al.2 + Mz.2) Mt S' I' (pc + 3) ls (r.toList ++ st) Q) :
    W p g.1 e R s m args below meth c H locs Al.1 Al.2 (MQ below (mm_Q g n0 Mt rho0 Q) args s Mt.1 Mt.2 (mm_A g)) (F0 m pc rls st0) := by
  intro T hT X
  obtain ⟨v, st₀, t, T', L, h0, X', hL, e1, e2, ⟨⟨r, S', I', rho', kap', hv, hq, ⟨g1, g2, g3, g4, g5⟩, hV'⟩, hz, hk⟩, hst⟩ := hrun T hT X
  cases hv
  rw [h0] at hz hk
  have hal : s.vm.Alike t.vm := by rw [← e2]; exact X'.warmed.alike
  have hS' : va_S (mm_A g) s.heap T'.heap (locs ++ L) := ⟨Nat.le_trans hS.1 (by rw [e1]; exact hz), fun q h1 h2 => by rw [e1, hk q (Nat.lt_of_lt_of_le h1 hS.1) h2]; exact hS.2.1 q h1 h2, fun q hq => by
      rcases List.mem_append.mp hq with h | h
      · exact hS.2.2 q h
      · exact hL q h⟩
  have hG' : mm_Ag g n0 Mt rho0 rho' S' := ⟨Nat.le_trans hG.1 g1, g2, fun a ha => by rw [g3 a (Nat.lt_of_lt_of_le ha hG.1)]; exact hG.2.2.1 a ha, g4, fun h => by rw [g5 (by omega)]; exact hG.2.2.2.2 h⟩
  have hem : ∀ v : Value, (Mz.1 = 0 ∨ mm_cl S.1 v) → mm_em rho' v = mm_em rho v := fun v h => by
    rcases h with h | h
    · rw [g5 h]
    · exact mm_em_eq (g := g) g3 g4 hG.2.2.2.1 h
  have hl' : lv_has rls y.2.2.1 (ls.map (fun q => (q.1, mm_em rho' q.2))) := by
    have e3 : ls.map (fun q => (q.1, mm_em rho' q.2)) = ls.map (fun q => (q.1, mm_em rho q.2)) := List.map_congr_left fun q hq => by
      rw [hem q.2 (hcl.imp id (fun h => h.2 q hq))]
    rw [e3]; exact hl
  have e4 : (r.map (mm_em rho')).toList ++ st.map (mm_em rho) = (r.toList ++ st).map (mm_em rho') := by
    rw [List.map_append]
    congr 1
    · cases r <;> rfl
    · exact (List.map_congr_left fun v hv => hem v (hcl.imp id (fun h => h.1 v hv))).symm
  obtain ⟨t2, a1, b1⟩ := kk r S' I' hq p e R s m args below meth c T'.heap (locs ++ L) rls n0 rho0 rho' kap' hC hG' (by rw [e1]; exact mm_V_moved hal.symm hV') hS' hl' T' rfl X'
  rw [← e4] at a1
  exact ⟨t2, hst t2 a1, b1⟩
theorem mm_pre {av : List Value} {p : Program} {R : Room} {s : State} {m : MethodId} {args : Array Value} {meth : Method} {c : Code} {H : Heap} {locs : List Loc} {rho : Nat → Nat} {kap : Nat → ClassId} (hC : mm_C g y d Mt R p s m args meth c) (hV : mm_V g rho kap S I s H) (hS : va_S (mm_A g) s.heap H locs) :
    ∀ U : State, U.heap = H → s.WarmedH U.vm → mm_P g rho kap av S I (av.map (mm_em rho)).toArray U := fun U hU hW => by
  refine ⟨rfl, ?_, mm_K_to hC.2.2.2.2.2.2.2.2.2 (by rw [hU]; exact hS.1) (fun q h1 h2 => by rw [hU]; exact hS.2.1 q h1 h2) (Or.inl hW)⟩
  rw [hU]; exact mm_V_moved hW.alike hV
theorem mm_good {z : mm_M} {n : Nat} (hz : mm_Mz z n) (l : List Cond) (hl : ∀ w ∈ l, w ∈ mm_tb) : GoodIn mm_tb (l ++ (Cond.code z.1 z.2.1 z.2.2.1 z.2.2.2 :: mm_tb)) := fun w hw => by
  rcases List.mem_append.mp hw with h | h
  · exact mm_tb_good w (hl w h)
  · rcases List.mem_cons.mp h with rfl | h
    · exact mm_tb_good _ hz.1
    · exact mm_tb_good w h
theorem mm_cat_sum {rho : Nat → Nat} (h : (st.map fun v => v.category).sum ≤ 8) : ((st.map (mm_em rho)).map fun v => v.category).sum ≤ 8 := by
  rw [List.map_map]
  have e : (fun v => Value.category v) ∘ mm_em rho = fun v => v.category := by funext v; exact mm_em_cat rho v
  rw [e]; exact h
/-- invokevirtual of an own method -/
theorem mm_callV {index dz n ci a : Nat} {own : String} {z : mm_M} {Mz : Nat × Nat} {As : List Value} {Qz : Option Value → mm_Sh → mm_I → Prop} {r : vw_C} (hd : decode y.2.1 pc = .ok (.invokevirtual index, 3)) (ho : y.1.cls = own) (hz : mm_Mz z n) (hlk : Cond.methodLink own index z.1 ∈ mm_tb) (hin : Cond.instanceMethod z.1 ∈ mm_tb ∧ Cond.selects z.1.cls z.1 z.1 ∈ mm_tb) (hn : As.length = n) (hdz : dz + 1 ≤ d) (ha : mm_ob S a ci) (hr : vwCl[ci]? = some r ∧ r.1 = z.1.cls)
    (hCt : mm_Ct g z dz Mz (.ref a :: As) S I Qz) (hrs : (st.map fun v => v.category).sum ≤ 8) (hA : Al.1 + Mz.1 ≤ Mt.1 ∧ Al.2 + Mz.2 ≤ Mt.2) (hcl : Mz.1 = 0 ∨ ((∀ v ∈ st, mm_cl S.1 v) ∧ ∀ q ∈ ls, mm_cl S.1 q.2))
    (kk : ∀ r S' I', Qz r S' I' → mm_Ex g y d (Al.1 + Mz.1, Al.2 + Mz.2) Mt S' I' (pc + 3) ls (r.toList ++ st) Q) : mm_Ex g y d Al Mt S I pc ls (As.reverse ++ .ref a :: st) Q := by
  intro p e R s m args below meth c H locs rls n0 rho0 rho kap hC hG hV hS hl
  have hGz : mm_Ag g S.1 Mz rho rho S := ⟨Nat.le_refl _, hG.2.1, fun _ _ => rfl, hG.2.2.2.1, fun _ => rfl⟩
  have hrm := hC.2.2.2.2.2.2.2.2.1
  refine mm_behind ((.ref a :: As).map (mm_em rho)).toArray hC hG hV hS hl hA hcl ?_ kk
  have hst : (As.reverse ++ .ref a :: st).map (mm_em rho) = (As.map (mm_em rho)).reverse ++ .ref (rho a) :: st.map (mm_em rho) := by
    rw [List.map_append, List.map_reverse]; rfl
  rw [hst]
  have cw : CallW R s args own z.1.cls index z.1 z.2.1 z.2.2.1 z.2.2.2 (Cond.code z.1 z.2.1 z.2.2.1 z.2.2.2 :: mm_tb) (mm_rm dz Mz) Mz.1 Mz.2 n :=
    cwV n hC.2.2.2.2.2.1 (mm_good hz [.methodLink own index z.1, .instanceMethod z.1, .selects z.1.cls z.1 z.1, .initialized z.1.cls] (fun w hw => by
      simp only [List.mem_cons, List.not_mem_nil, or_false] at hw
      rcases hw with rfl | rfl | rfl | rfl
      · exact hlk
      · exact hin.1
      · exact hin.2
      · exact hz.2.1)) rfl rfl rfl ⟨rfl, hz.2.2.2.1⟩ ⟨by show dz + 1 ≤ R.frames; omega, by show 8 + (z.2.2.1 + 11) + 40 * dz ≤ R.locals; have := hz.2.2.2.2; omega⟩
  have hpre := mm_pre (av := .ref a :: As) hC hV hS
  exact va_runV (As := As.map (mm_em rho)) (C := z.1.cls) ⟨hC.1, hC.2.1, hC.2.2.2.1, by rw [← ho]; exact hC.2.2.2.2.1, hC.2.2.2.2.2.1⟩ (mm_met (kap := kap) hz hCt hGz) cw ⟨mm_blind, by rw [← hr.2]; exact va_recv hC.2.2.2.2.2.2.2.2.2.1 hV.1 hr.1 (mm_enc_ob ha), hpre⟩ rfl (by rw [List.length_map]; exact hn) hl.1 rfl (lv_room (mm_cat_sum hrs)) hd ⟨by have := hrm.2.2.1; omega, by have := hrm.2.2.2; omega⟩
/-- invokestatic of an own method of the same class -/
theorem mm_callS {index dz n : Nat} {own : String} {z : mm_M} {Mz : Nat × Nat} {As : List Value} {Qz : Option Value → mm_Sh → mm_I → Prop} (hd : decode y.2.1 pc = .ok (.invokestatic index, 3)) (ho : y.1.cls = own) (hz : mm_Mz z n) (hlk : Cond.methodLink own index z.1 ∈ mm_tb) (hst : Cond.static z.1 ∈ mm_tb) (hn : As.length = n) (hdz : dz + 1 ≤ d)
    (hCt : mm_Ct g z dz Mz As S I Qz) (hrs : (st.map fun v => v.category).sum ≤ 8) (hA : Al.1 + Mz.1 ≤ Mt.1 ∧ Al.2 + Mz.2 ≤ Mt.2) (hcl : Mz.1 = 0 ∨ ((∀ v ∈ st, mm_cl S.1 v) ∧ ∀ q ∈ ls, mm_cl S.1 q.2))
    (kk : ∀ r S' I', Qz r S' I' → mm_Ex g y d (Al.1 + Mz.1, Al.2 + Mz.2) Mt S' I' (pc + 3) ls (r.toList ++ st) Q) : mm_Ex g y d Al Mt S I pc ls (As.reverse ++ st) Q := by
  intro p e R s m args below meth c H locs rls n0 rho0 rho kap hC hG hV hS hl
  have hGz : mm_Ag g S.1 Mz rho rho S := ⟨Nat.le_refl _, hG.2.1, fun _ _ => rfl, hG.2.2.2.1, fun _ => rfl⟩
  have hrm := hC.2.2.2.2.2.2.2.2.1
  refine mm_behind (As.map (mm_em rho)).toArray hC hG hV hS hl hA hcl ?_ kk
  rw [List.map_append, List.map_reverse]
  have cw := callB_of (R := R) (s := s) (args := args) (own := own) (index := index) (rm := mm_rm dz Mz) n hC.2.2.2.2.2.1 (mm_good hz [] (fun w hw => absurd hw List.not_mem_nil)) rfl rfl rfl (hC.2.2.2.2.2.1 _ hz.2.1) (hC.2.2.2.2.2.1 _ hlk) hz.2.2.2.1 ⟨by show dz + 1 ≤ R.frames; omega, by show 8 + (z.2.2.1 + 11) + 40 * dz ≤ R.locals; have := hz.2.2.2.2; omega⟩
  have hpre := mm_pre (av := As) hC hV hS
  exact va_runS (As := As.map (mm_em rho)) ⟨hC.1, hC.2.1, hC.2.2.2.1, by rw [← ho]; exact hC.2.2.2.2.1, hC.2.2.2.2.2.1⟩ (mm_met (kap := kap) hz hCt hGz) ⟨cw, hC.2.2.2.2.2.1 _ hst⟩ ⟨mm_blind, hpre⟩ rfl (by rw [List.length_map]; exact hn) hl.1 rfl (lv_room (mm_cat_sum hrs)) hd ⟨by have := hrm.2.2.1; omega, by have := hrm.2.2.2; omega⟩
/-- invokestatic of a private method of the host -/
theorem mm_callN {index dz n : Nat} {own : String} {z : mm_M} {Mz : Nat × Nat} {As : List Value} {Qz : Option Value → mm_Sh → mm_I → Prop} (hd : decode y.2.1 pc = .ok (.invokestatic index, 3)) (ho : y.1.cls = own) (hz : mm_Mz z n) (hlk : (own, index, z.1) ∈ mm_nm) (hst : Cond.static z.1 ∈ mm_tb) (hn : As.length = n) (hdz : dz + 1 ≤ d)
    (hCt : mm_Ct g z dz Mz As S I Qz) (hrs : (st.map fun v => v.category).sum ≤ 8) (hA : Al.1 + Mz.1 ≤ Mt.1 ∧ Al.2 + Mz.2 ≤ Mt.2) (hcl : Mz.1 = 0 ∨ ((∀ v ∈ st, mm_cl S.1 v) ∧ ∀ q ∈ ls, mm_cl S.1 q.2))
    (kk : ∀ r S' I', Qz r S' I' → mm_Ex g y d (Al.1 + Mz.1, Al.2 + Mz.2) Mt S' I' (pc + 3) ls (r.toList ++ st) Q) : mm_Ex g y d Al Mt S I pc ls (As.reverse ++ st) Q := by
  intro p e R s m args below meth c H locs rls n0 rho0 rho kap hC hG hV hS hl
  have hGz : mm_Ag g S.1 Mz rho rho S := ⟨Nat.le_refl _, hG.2.1, fun _ _ => rfl, hG.2.2.2.1, fun _ => rfl⟩
  have hrm := hC.2.2.2.2.2.2.2.2.1
  refine mm_behind (As.map (mm_em rho)).toArray hC hG hV hS hl hA hcl ?_ kk
  rw [List.map_append, List.map_reverse]
  have hpre := mm_pre (av := As) hC hV hS
  exact va_runSN (As := As.map (mm_em rho)) ⟨hC.1, hC.2.1, hC.2.2.2.1, by rw [← ho]; exact hC.2.2.2.2.1, hC.2.2.2.2.2.1⟩ (mm_met (kap := kap) hz hCt hGz)
    ⟨va_cnB (R := R) (rm := mm_rm dz Mz) n hC.2.2.2.2.2.1 (mm_good hz [] (fun w hw => absurd hw List.not_mem_nil)) rfl rfl rfl (hC.2.2.2.2.2.2.2.2.2.2.2.2.2.2.1 _ hlk) (hC.2.2.2.2.2.1 _ hz.2.1) hz.2.2.2.1 ⟨by show dz + 1 ≤ R.frames; omega, by show 8 + (z.2.2.1 + 11) + 40 * dz ≤ R.locals; have := hz.2.2.2.2; omega⟩, hC.2.2.2.2.2.1 _ hst, trivial⟩ ⟨mm_blind, hpre⟩ rfl (by rw [List.length_map]; exact hn) hl.1 rfl (lv_room (mm_cat_sum hrs)) hd ⟨by have := hrm.2.2.1; omega, by have := hrm.2.2.2; omega⟩
/-- a constructor -/
theorem mm_callI {index dz n a : Nat} {own : String} {z : mm_M} {Mz : Nat × Nat} {As : List Value} {Qz : Option Value → mm_Sh → mm_I → Prop} (hd : decode y.2.1 pc = .ok (.invokespecial index, 3)) (ho : y.1.cls = own) (hz : mm_Mz z n) (hlk : Cond.methodLink own index z.1 ∈ mm_tb) (hin : Cond.instanceMethod z.1 ∈ mm_tb) (hin2 : z.1.name = "<init>" ∧ z.2.2.2 = none) (hn : As.length = n) (hdz : dz + 1 ≤ d)
    (hCt : mm_Ct g z dz Mz (.ref a :: As) S I Qz) (hrs : (st.map fun v => v.category).sum ≤ 8) (hA : Al.1 + Mz.1 ≤ Mt.1 ∧ Al.2 + Mz.2 ≤ Mt.2) (hcl : Mz.1 = 0 ∨ ((∀ v ∈ st, mm_cl S.1 v) ∧ ∀ q ∈ ls, mm_cl S.1 q.2))
    (kk : ∀ r S' I', Qz r S' I' → mm_Ex g y d (Al.1 + Mz.1, Al.2 + Mz.2) Mt S' I' (pc + 3) ls (r.toList ++ st) Q) : mm_Ex g y d Al Mt S I pc ls (As.reverse ++ .ref a :: st) Q := by
  intro p e R s m args below meth c H locs rls n0 rho0 rho kap hC hG hV hS hl
  have hGz : mm_Ag g S.1 Mz rho rho S := ⟨Nat.le_refl _, hG.2.1, fun _ _ => rfl, hG.2.2.2.1, fun _ => rfl⟩
  have hrm := hC.2.2.2.2.2.2.2.2.1
  refine mm_behind ((.ref a :: As).map (mm_em rho)).toArray hC hG hV hS hl hA hcl ?_ kk
  have hst : (As.reverse ++ .ref a :: st).map (mm_em rho) = (As.map (mm_em rho)).reverse ++ .ref (rho a) :: st.map (mm_em rho) := by
    rw [List.map_append, List.map_reverse]; rfl
  rw [hst]
  have hmt := mm_met (kap := kap) hz hCt hGz
  have hgd := mm_good hz [] (fun w hw => absurd hw List.not_mem_nil)
  rw [hin2.2] at hmt hgd
  have cw := cwI (R := R) (s := s) (args := args) (own := own) (index := index) (rm := mm_rm dz Mz) n hC.2.2.2.2.2.1 hgd rfl rfl rfl (hC.2.2.2.2.2.1 _ hz.2.1) (hC.2.2.2.2.2.1 _ hlk) (hC.2.2.2.2.2.1 _ hin) hin2.1 hz.2.2.2.1 ⟨by show dz + 1 ≤ R.frames; omega, by show 8 + (z.2.2.1 + 11) + 40 * dz ≤ R.locals; have := hz.2.2.2.2; omega⟩
  have hpre := mm_pre (av := .ref a :: As) hC hV hS
  exact va_runI (As := As.map (mm_em rho)) ⟨hC.1, hC.2.1, hC.2.2.2.1, by rw [← ho]; exact hC.2.2.2.2.1, hC.2.2.2.2.2.1⟩ hmt cw ⟨mm_blind, hpre⟩ rfl (by rw [List.length_map]; exact hn) hl.1 rfl (lv_room (mm_cat_sum hrs)) hd ⟨by have := hrm.2.2.1; omega, by have := hrm.2.2.2; omega⟩
end mm_callrows
