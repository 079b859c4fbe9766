/-! THE SMALL MACHINE: what a heap of ours is (cells by their own numbers 0, 1, 2 .., a tag each, ints and references in places), and a judgement mm_Ex: from this place of this method the machine comes to its end with Q. Each row turns mm_Ex at an instruction into mm_Ex at the next. -/
/-- object of a class of vwCl | row of ints, its length | row of references: to objects of which class, its length -/
abbrev mm_Tag : Type := Nat ⊕ (Nat ⊕ (Nat × Nat))
/-- how many cells; their tags; their references -/
abbrev mm_Sh : Type := Nat × (Nat → mm_Tag) × (Nat → Nat → Option Nat)
abbrev mm_I : Type := Nat → Nat → Int32
/-- name, bytes, locals, what it returns -/
abbrev mm_M : Type := MethodName × ByteArray × Nat × Option FieldType
/-- launch; the first new address; classes and slots; addresses of constants; the script's length and values -/
abbrev mm_G : Type := Launch × Nat × va_G × (Nat → Nat) × Nat × (Nat → Int32)
def mm_KB : Nat := 100000
def mm_ty (ci : Nat) : Nat → FieldType := match ci with
  | 0 => tyX0 | 1 => tyX1 | 2 => tyX2 | 3 => tyX3 | 4 => tyX4 | 5 => tyX5 | 6 => tyX6 | 7 => tyX7 | 8 => tyX8 | 9 => tyX9 | 10 => tyX10 | 11 => tyX11 | _ => tyX12
def mm_N (ci : Nat) : Nat := match ci with
  | 0 => 11 | 1 => 9 | 2 => 7 | 3 => 10 | 4 => 3 | 5 => 2 | 6 => 2 | 7 => 3 | 8 => 8 | 9 => 4 | 10 => 11 | 11 => 9 | _ => 31
/-- names of the classes whose objects rows of references hold: 1 Machine, 4 Program, 13 String -/
def mm_cn (ci : Nat) : String := match ci with
  | 1 => RX1 | 4 => RX4 | _ => "java/lang/String"
def mm_em (rho : Nat → Nat) : Value → Value
  | .ref a => .ref (rho a)
  | v => v
def mm_fv (rho : Nat → Nat) (S : mm_Sh) (I : mm_I) (a ci k : Nat) : Value := match mm_ty ci k with
  | .object _ => va_re rho (S.2.2 a k)
  | .array _ => va_re rho (S.2.2 a k)
  | _ => .int (I a k)
def mm_fs (rho : Nat → Nat) (S : mm_Sh) (I : mm_I) (a ci : Nat) : List Value := (List.range (mm_N ci)).map (mm_fv rho S I a ci)
def mm_enc (rho : Nat → Nat) (kap : Nat → ClassId) (S : mm_Sh) (I : mm_I) (a : Nat) : va_E := match S.2.1 a with
  | .inl ci => .inr (ci, mm_fs rho S I a ci)
  | .inr (.inl n) => .inl (kap a, n, .inl (I a))
  | .inr (.inr q) => .inl (kap a, q.2, .inr (.inr (.inr (.inr (fun j => (S.2.2 a j).map rho)))))
def mm_ws (rho : Nat → Nat) (kap : Nat → ClassId) (S : mm_Sh) (I : mm_I) : va_W := (List.range S.1).map (fun a => (rho a, mm_enc rho kap S I a))
/-- what the tables say of an array's class -/
def mm_ak (U : State) (c : ClassId) (t : mm_Tag) : Prop := match t with
  | .inl _ => True
  | .inr (.inl _) => ArrOfT U c .int ∧ va_RA U c .int
  | .inr (.inr q) => ArrOfT U c (.object (mm_cn q.1)) ∧ va_RA U c (.object (mm_cn q.1))
def mm_A (g : mm_G) : Nat → Prop := fun q => g.2.1 ≤ q
/-- the words of the tables that hold in every callee, too -/
def mm_tb : List Cond := lw_tbl.filter goodWord
/-- rows of ints that are there from the start: 0 the script, 1 CELL_IS_ALSO, 2 MACHINE_IS_ALSO, 3 LEAST_RULE, 4 MOST_RULE -/
def mm_ka (g : mm_G) (j : Nat) : Option (Nat × (Nat → Int32)) := match j with
  | 0 => some (g.2.2.2.2.1, g.2.2.2.2.2)
  | 1 => some (5, fun k => ([-1, -1, 0, 0, 3] : List Int32).getD k 0)
  | 2 => some (4, fun k => ([-1, 0, 1, 0] : List Int32).getD k 0)
  | 3 => some (5, fun k => ([1, 0, 0, 0, 0] : List Int32).getD k 0)
  | 4 => some (5, fun k => ([24, 24, 9999, 99, 9] : List Int32).getD k 0)
  | _ => none
def mm_sn (j : Nat) : String := match j with
  | 1 => "CELL_IS_ALSO" | 2 => "MACHINE_IS_ALSO" | 3 => "LEAST_RULE" | _ => "MOST_RULE"
/-- cells and tables at a place of the walk -/
def mm_V (g : mm_G) (rho : Nat → Nat) (kap : Nat → ClassId) (S : mm_Sh) (I : mm_I) (U : State) (H : Heap) : Prop :=
  va_P g.2.2.1 vwCl (mm_ws rho kap S I) H ∧ va_D (mm_A g) (mm_ws rho kap S I) ∧ (∀ a, a < S.1 → mm_ak U (kap a) (S.2.1 a)) ∧ (∀ a k b, S.2.2 a k = some b → b < S.1 ∨ mm_KB ≤ b)
/-- texts: 0 .. 13 -/
def mm_sx (t : Nat) : List Int32 := ([[103, 111], [115, 99, 111, 111, 112], [100, 114, 111, 112], [102, 117, 115, 101], [99, 104, 97, 114, 103, 101], [109, 101, 110, 100], [119, 97, 105, 116], [117, 110, 116, 105, 108], [105, 102], [119, 104, 105, 108, 101], [114, 101, 112, 101, 97, 116], [101, 108, 115, 101], [99, 107, 119, 115, 100, 105, 98, 116, 120, 121], [124, 38, 60, 61, 62, 43, 45, 42, 33]] : List (List Int32)).getD t []
/-- constants of class files that name them: class, entry, text, its number -/
def mm_sr : List (String × Nat × String × Nat) := [("DarkBase$Words", 67, "ckwsdibtxy", 12), ("DarkBase$Words", 74, "go", 0), ("DarkBase$Words", 82, "scoop", 1), ("DarkBase$Words", 84, "drop", 2), ("DarkBase$Words", 86, "fuse", 3), ("DarkBase$Words", 88, "charge", 4), ("DarkBase$Words", 90, "mend", 5), ("DarkBase$Words", 92, "wait", 6), ("DarkBase$Words", 94, "until", 7), ("DarkBase$Words", 96, "if", 8), ("DarkBase$Words", 98, "else", 11), ("DarkBase$Words", 100, "while", 9), ("DarkBase$Words", 102, "repeat", 10), ("DarkBaseModel", 36, "go", 0), ("DarkBaseModel", 38, "scoop", 1), ("DarkBaseModel", 40, "drop", 2), ("DarkBaseModel", 42, "fuse", 3), ("DarkBaseModel", 44, "charge", 4), ("DarkBaseModel", 46, "mend", 5), ("DarkBaseModel", 48, "wait", 6), ("DarkBaseModel", 50, "until", 7), ("DarkBaseModel", 52, "if", 8), ("DarkBaseModel", 54, "while", 9), ("DarkBaseModel", 56, "repeat", 10), ("DarkBaseModel", 185, "ckwsdibtxy", 12), ("DarkBaseModel", 177, "|&<=>+-*!", 13), ("DarkBaseModel", 245, "else", 11)]
def mm_KS (g : mm_G) (s : State) : Prop :=
  (∀ t, t < 14 → va_O "java/lang/String" (g.2.2.2.1 (5 + t)) (mm_A g) s s.heap ∧ va_OF "java/lang/String" "coder" "B" (.int 0) (g.2.2.2.1 (5 + t)) (mm_A g) s s.heap ∧ va_OF "java/lang/String" "value" "[B" (.ref (g.2.2.2.1 (50 + t))) (g.2.2.2.1 (5 + t)) (mm_A g) s s.heap ∧ va_T .byte (g.2.2.2.1 (50 + t)) (mm_sx t).length (fun j => .int ((mm_sx t).getD j 0)) (mm_A g) s s.heap) ∧
  (∀ q ∈ mm_sr, vk_R q.1 q.2.1 q.2.2.1 (g.2.2.2.1 (5 + q.2.2.2)) s) ∧ va_Z "java/lang/String" "COMPACT_STRINGS" "Z" (.int 1) (mm_A g) s s.heap ∧ (va_Z "jdk/internal/util/Preconditions" "SIOOBE_FORMATTER" "Ljava/util/function/BiFunction;" .null (mm_A g) s s.heap ∨ va_Z "jdk/internal/util/Preconditions" "SIOOBE_FORMATTER" "Ljava/util/function/BiFunction;" (.ref (g.2.2.2.1 70)) (mm_A g) s s.heap)
/-- private members of a nest mate, and rows of references -/
def mm_nm : List (String × Nat × MethodName) := [("DarkBase$Ground", 77, yX11_isUnder), ("DarkBase$Machine", 62, yX11_isUnder), ("DarkBase$Runner", 276, yX11_asBit)]
def mm_nf : List (String × Nat × Nat) := [("DarkBase$Ground", 69, 1), ("DarkBase$Machine", 58, 2)]
def mm_KN (s : State) : Prop := (∀ q ∈ mm_nm, va_Nw (.methodLinkNest q.1 q.2.1 q.2.2 "DarkBase") s) ∧ (∀ q ∈ mm_nf, va_Nw (.fieldLinkNest q.1 q.2.1 "DarkBase" (mm_sn q.2.2) "[I" "DarkBase") s) ∧ (∀ c ∈ [1, 4, 13], va_AO (mm_cn c) s)
/-- what holds at a method's entry of classes and constants -/
def mm_K (g : mm_G) (s : State) : Prop :=
  va_K g.2.2.1 vwCl [] s ∧ g.2.1 ≤ s.heap.size ∧ (∀ j n f, mm_ka g j = some (n, f) → va_T .int (g.2.2.2.1 j) n (fun k => .int (f k)) (mm_A g) s s.heap) ∧
  (∀ j, 1 ≤ j → j ≤ 4 → va_Z "DarkBase" (mm_sn j) "[I" (.ref (g.2.2.2.1 j)) (mm_A g) s s.heap) ∧ mm_KS g s ∧ mm_KN s
theorem mm_K_to {g : mm_G} {s U : State} (h : mm_K g s) (hz : s.heap.size ≤ U.heap.size) (hq : ∀ q : Nat, q < s.heap.size → ¬ mm_A g q → U.heap[q]? = s.heap[q]?) (hm : s.WarmedH U.vm ∨ U.vm = s.vm) : mm_K g U := by
  have hvm : s.vm.Alike U.vm := by
    rcases hm with h | h
    · exact h.alike
    · rw [h]; exact Vm.Alike.refl _
  obtain ⟨h1, h2, h3, h4, ⟨h5, h6, h7⟩, h8, h9, h10⟩ := h
  refine ⟨va_K.moved hvm h1, Nat.le_trans h2 hz, fun j n f hj => ?_, fun j a b => ((h4 j a b).kept hq).moved hvm, ⟨fun t ht => ?_, fun q hq' => ?_, ⟨(h7.1.kept hq).moved hvm, h7.2.imp (fun h => (h.kept hq).moved hvm) (fun h => (h.kept hq).moved hvm)⟩⟩, fun q hq' => ?_, fun q hq' => ?_, fun q hq' => ?_⟩
  · exact ((h3 j n f hj).kept hq).moved hvm
  · obtain ⟨a, b, c, d⟩ := h5 t ht
    exact ⟨(a.kept hq).moved hvm, (b.kept hq).moved hvm, (c.kept hq).moved hvm, (d.kept hq).moved hvm⟩
  · rcases hm with h | h
    · exact (h6 q hq').warm h
    · exact (h6 q hq').same h
  · rcases hm with h | h
    · exact (h8 q hq').warmM h
    · exact (h8 q hq').same rfl h.symm
  · rcases hm with h | h
    · exact (h9 q hq').warmF h
    · exact (h9 q hq').same rfl h.symm
  · exact va_AO.moved hvm (h10 q hq')
theorem mm_K_call {g : mm_G} {s U : State} (h : mm_K g s) (hh : U.heap = s.heap) (hv : U.vm = s.vm) : mm_K g U :=
  mm_K_to h (by rw [hh]; exact Nat.le_refl _) (fun q _ _ => by rw [hh]) (Or.inr hv)
theorem mm_ak_moved {u U : State} {c : ClassId} {t : mm_Tag} (hvm : u.vm.Alike U.vm) (h : mm_ak u c t) : mm_ak U c t := by
  rcases t with ci | n | q
  · exact trivial
  · exact ⟨arrOfT_moved hvm h.1, h.2.moved hvm⟩
  · exact ⟨arrOfT_moved hvm h.1, h.2.moved hvm⟩
theorem mm_V_moved {g : mm_G} {rho : Nat → Nat} {kap : Nat → ClassId} {S : mm_Sh} {I : mm_I} {u U : State} {H : Heap} (hvm : u.vm.Alike U.vm) (h : mm_V g rho kap S I u H) : mm_V g rho kap S I U H :=
  ⟨h.1, h.2.1, fun a ha => mm_ak_moved hvm (h.2.2.1 a ha), h.2.2.2⟩
/-- the walk's place: machine, code, words, room -/
def mm_C (g : mm_G) (y : mm_M) (d : Nat) (Mt : Nat × Nat) (R : Room) (p : Program) (s : State) (m : MethodId) (args : Array Value) (meth : Method) (c : Code) : Prop :=
  p.tables.exec = Jvm.exec ∧ c.code = y.2.1 ∧ meth.sig.returnType = y.2.2.2 ∧ c.maxLocals = y.2.2.1 ∧ s.vm.findClass y.1.cls = some m.cls ∧ (∀ w ∈ mm_tb, w.before args s = true) ∧ meth.locks = false ∧ meth.name = y.1.name ∧ (d ≤ R.frames ∧ 40 * d ≤ R.locals ∧ Mt.1 ≤ R.cells ∧ Mt.2 ≤ R.slots) ∧ mm_K g s
/-- how addresses go on from those at the entry -/
def mm_Ag (g : mm_G) (n0 : Nat) (Mt : Nat × Nat) (rho0 rho : Nat → Nat) (S : mm_Sh) : Prop :=
  n0 ≤ S.1 ∧ S.1 ≤ mm_KB ∧ (∀ a, a < n0 → rho a = rho0 a) ∧ (∀ j, rho (mm_KB + j) = g.2.2.2.1 j) ∧ (Mt.1 = 0 → rho = rho0)
def mm_Q (g : mm_G) (n0 : Nat) (Mt : Nat × Nat) (rho0 : Nat → Nat) (Q : Option Value → mm_Sh → mm_I → Prop) : Array Value → State → Outcome → State → Prop := fun _ st oc t =>
  (∃ (r : Option Value) (S : mm_Sh) (I : mm_I) (rho : Nat → Nat) (kap : Nat → ClassId), oc = .returned (r.map (mm_em rho)) ∧ Q r S I ∧ mm_Ag g n0 Mt rho0 rho S ∧ mm_V g rho kap S I t t.heap) ∧ va_F (mm_A g) st t
/-- from this place of y the machine comes to y's end with Q -/
def mm_Ex (g : mm_G) (y : mm_M) (d : Nat) (Al Mt : Nat × Nat) (S : mm_Sh) (I : mm_I) (pc : Nat) (ls : List (Nat × Value)) (st : List Value) (Q : Option Value → mm_Sh → mm_I → Prop) : Prop :=
  ∀ (p : Program) (e : Env) (R : Room) (s : State) (m : MethodId) (args : Array Value) (below : List Frame) (meth : Method) (c : Code) (H : Heap) (locs : List Loc) (rls : Array Slot) (n0 : Nat) (rho0 rho : Nat → Nat) (kap : Nat → ClassId),
    mm_C g y d Mt R p s m args meth c → mm_Ag g n0 Mt rho0 rho S → mm_V g rho kap S I s H → va_S (mm_A g) s.heap H locs → lv_has rls y.2.2.1 (ls.map (fun q => (q.1, mm_em rho q.2))) →
    W p g.1 e R s m args below meth c H locs Al.1 Al.2 (MQ below (mm_Q g n0 Mt rho0 Q) args s Mt.1 Mt.2 (mm_A g)) (F0 m pc rls (st.map (mm_em rho)))
/-- a method's contract: from its entry -/
def mm_Ct (g : mm_G) (y : mm_M) (d : Nat) (Mt : Nat × Nat) (av : List Value) (S : mm_Sh) (I : mm_I) (Q : Option Value → mm_Sh → mm_I → Prop) : Prop :=
  ∀ (p : Program) (e : Env) (R : Room) (s : State) (m : MethodId) (args : Array Value) (below : List Frame) (meth : Method) (c : Code) (rho : Nat → Nat) (kap : Nat → ClassId),
    mm_C g y d Mt R p s m args meth c → mm_Ag g S.1 Mt rho rho S → mm_V g rho kap S I s s.heap → args = (av.map (mm_em rho)).toArray →
    W p g.1 e R s m args below meth c s.heap [] 0 0 (MQ below (mm_Q g S.1 Mt rho Q) args s Mt.1 Mt.2 (mm_A g)) (entryFrame m args y.2.2.1)
section mm_rows
variable {g : mm_G} {y : mm_M} {d : Nat} {Al Mt : Nat × Nat} {S : mm_Sh} {I : mm_I} {pc : Nat} {ls : List (Nat × Value)} {st : List Value} {Q : Option Value → mm_Sh → mm_I → Prop}
theorem mm_em_cat (rho : Nat → Nat) (v : Value) : (mm_em rho v).category = v.category := by cases v <;> rfl
theorem mm_sl (rho : Nat → Nat) (av : List Value) (h : ∀ v ∈ av, v.category = 1) : lg_sl (av.map (mm_em rho)) = av.map (fun v => Slot.val (mm_em rho v)) := by
  induction av with
  | nil => rfl
  | cons v l ih =>
    have h1 : (mm_em rho v).category = 1 := by rw [mm_em_cat]; exact h v List.mem_cons_self
    have := ih (fun w hw => h w (List.mem_cons_of_mem _ hw))
    simp only [List.map_cons]
    unfold lg_sl at this ⊢
    rw [List.flatMap_cons, this, if_neg (by omega)]
    rfl
/-- a method's entry: its locals are its arguments -/
theorem mm_start {av : List Value} (hn : av.length ≤ y.2.2.1) (hc : ∀ v ∈ av, v.category = 1) (hl : lv_args 0 av = ls) (k : mm_Ex g y d (0, 0) Mt S I 0 ls [] Q) : mm_Ct g y d Mt av S I Q := by
  intro p e R s m args below meth c rho kap hC hG hV ha
  subst ha
  have hlen : (lg_sl (av.map (mm_em rho))).length ≤ y.2.2.1 := by rw [mm_sl rho av hc, List.length_map]; exact hn
  have hh := lv_entry (av.map (mm_em rho)) hlen
  rw [lg_entry_eq]
  refine k p e R s m _ below meth c s.heap [] _ S.1 rho rho kap hC hG hV va_S.rf ?_
  have e1 : lv_args 0 (av.map (mm_em rho)) = ls.map (fun q => (q.1, mm_em rho q.2)) := by
    rw [← hl]
    have key : ∀ (l : List Value) (i : Nat), lv_args i (l.map (mm_em rho)) = (lv_args i l).map (fun q => (q.1, mm_em rho q.2)) := by
      intro l
      induction l with
      | nil => intro i; rfl
      | cons v l ih =>
        intro i
        simp only [List.map_cons, lv_args, mm_em_cat, ih]
    exact key av 0
  rw [e1] at hh
  exact hh
theorem mm_mp {rho : Nat → Nat} {j i : Nat} {v : Value} (h : ls[j]? = some (i, v)) : (ls.map (fun q => (q.1, mm_em rho q.2)))[j]? = some (i, mm_em rho v) := by
  rw [List.getElem?_map, h]; rfl
theorem mm_fl {rho : Nat → Nat} {i : Nat} {v : Value} {ls' : List (Nat × Value)} (h : (i, v) :: ls.filter (fun q => !(q.1 == i) && !(q.1 + 1 == i && q.2.category == 2)) = ls') : (i, mm_em rho v) :: (ls.map (fun q => (q.1, mm_em rho q.2))).filter (fun q => !(q.1 == i) && !(q.1 + 1 == i && q.2.category == 2)) = ls'.map (fun q => (q.1, mm_em rho q.2)) := by
  rw [← h, List.filter_map, List.map_cons]
  congr 2
  apply List.filter_congr
  intro q _
  simp only [Function.comp, mm_em_cat]
theorem mm_pk {rho : Nat → Nat} {js : List Nat} {ls' : List (Nat × Value)} (h : lv_pick ls js = ls') : lv_pick (ls.map (fun q => (q.1, mm_em rho q.2))) js = ls'.map (fun q => (q.1, mm_em rho q.2)) := by
  rw [← h]
  unfold lv_pick
  rw [List.map_filterMap]
  congr 1
  funext k
  rw [List.getElem?_map]
theorem mm_iconst {n : Int} {v : Int32} (hd : decode y.2.1 pc = .ok (.iconst n, 1)) (hv : Int32.ofInt n = v) (k : mm_Ex g y d Al Mt S I (pc + 1) ls (.int v :: st) Q) : mm_Ex g y d Al Mt S I pc ls (st) Q :=
  fun p e R s m args below meth c H locs rls n0 rho0 rho kap hC hG hV hS hl => lv_iconst hC.1 hC.2.1 hd hv (k p e R s m args below meth c H locs rls n0 rho0 rho kap hC hG hV hS hl)
theorem mm_bipush {n : Int} {v : Int32} (hd : decode y.2.1 pc = .ok (.bipush n, 2)) (hv : (Int8.ofInt n).toInt32 = v) (k : mm_Ex g y d Al Mt S I (pc + 2) ls (.int v :: st) Q) : mm_Ex g y d Al Mt S I pc ls (st) Q :=
  fun p e R s m args below meth c H locs rls n0 rho0 rho kap hC hG hV hS hl => lv_bipush hC.1 hC.2.1 hd hv (k p e R s m args below meth c H locs rls n0 rho0 rho kap hC hG hV hS hl)
theorem mm_sipush {n : Int} {v : Int32} (hd : decode y.2.1 pc = .ok (.sipush n, 3)) (hv : (Int16.ofInt n).toInt32 = v) (k : mm_Ex g y d Al Mt S I (pc + 3) ls (.int v :: st) Q) : mm_Ex g y d Al Mt S I pc ls (st) Q :=
  fun p e R s m args below meth c H locs rls n0 rho0 rho kap hC hG hV hS hl => lv_sipush hC.1 hC.2.1 hd hv (k p e R s m args below meth c H locs rls n0 rho0 rho kap hC hG hV hS hl)
theorem mm_iadd {x z : Int32} (hd : decode y.2.1 pc = .ok (.iadd, 1)) (k : mm_Ex g y d Al Mt S I (pc + 1) ls (.int (x + z) :: st) Q) : mm_Ex g y d Al Mt S I pc ls (.int z :: .int x :: st) Q :=
  fun p e R s m args below meth c H locs rls n0 rho0 rho kap hC hG hV hS hl => lv_iadd hC.1 hC.2.1 hd (k p e R s m args below meth c H locs rls n0 rho0 rho kap hC hG hV hS hl)
theorem mm_isub {x z : Int32} (hd : decode y.2.1 pc = .ok (.isub, 1)) (k : mm_Ex g y d Al Mt S I (pc + 1) ls (.int (x - z) :: st) Q) : mm_Ex g y d Al Mt S I pc ls (.int z :: .int x :: st) Q :=
  fun p e R s m args below meth c H locs rls n0 rho0 rho kap hC hG hV hS hl => lv_isub hC.1 hC.2.1 hd (k p e R s m args below meth c H locs rls n0 rho0 rho kap hC hG hV hS hl)
theorem mm_imul {x z : Int32} (hd : decode y.2.1 pc = .ok (.imul, 1)) (k : mm_Ex g y d Al Mt S I (pc + 1) ls (.int (x * z) :: st) Q) : mm_Ex g y d Al Mt S I pc ls (.int z :: .int x :: st) Q :=
  fun p e R s m args below meth c H locs rls n0 rho0 rho kap hC hG hV hS hl => lv_imul hC.1 hC.2.1 hd (k p e R s m args below meth c H locs rls n0 rho0 rho kap hC hG hV hS hl)
theorem mm_iand {x z : Int32} (hd : decode y.2.1 pc = .ok (.iand, 1)) (k : mm_Ex g y d Al Mt S I (pc + 1) ls (.int (x &&& z) :: st) Q) : mm_Ex g y d Al Mt S I pc ls (.int z :: .int x :: st) Q :=
  fun p e R s m args below meth c H locs rls n0 rho0 rho kap hC hG hV hS hl => lv_iand hC.1 hC.2.1 hd (k p e R s m args below meth c H locs rls n0 rho0 rho kap hC hG hV hS hl)
theorem mm_ior {x z : Int32} (hd : decode y.2.1 pc = .ok (.ior, 1)) (k : mm_Ex g y d Al Mt S I (pc + 1) ls (.int (x ||| z) :: st) Q) : mm_Ex g y d Al Mt S I pc ls (.int z :: .int x :: st) Q :=
  fun p e R s m args below meth c H locs rls n0 rho0 rho kap hC hG hV hS hl => lv_ior hC.1 hC.2.1 hd (k p e R s m args below meth c H locs rls n0 rho0 rho kap hC hG hV hS hl)
theorem mm_ixor {x z : Int32} (hd : decode y.2.1 pc = .ok (.ixor, 1)) (k : mm_Ex g y d Al Mt S I (pc + 1) ls (.int (x ^^^ z) :: st) Q) : mm_Ex g y d Al Mt S I pc ls (.int z :: .int x :: st) Q :=
  fun p e R s m args below meth c H locs rls n0 rho0 rho kap hC hG hV hS hl => lv_ixor hC.1 hC.2.1 hd (k p e R s m args below meth c H locs rls n0 rho0 rho kap hC hG hV hS hl)
theorem mm_ishl {x z : Int32} (hd : decode y.2.1 pc = .ok (.ishl, 1)) (k : mm_Ex g y d Al Mt S I (pc + 1) ls (.int (x <<< (z &&& 31)) :: st) Q) : mm_Ex g y d Al Mt S I pc ls (.int z :: .int x :: st) Q :=
  fun p e R s m args below meth c H locs rls n0 rho0 rho kap hC hG hV hS hl => lv_ishl hC.1 hC.2.1 hd (k p e R s m args below meth c H locs rls n0 rho0 rho kap hC hG hV hS hl)
theorem mm_ishr {x z : Int32} (hd : decode y.2.1 pc = .ok (.ishr, 1)) (k : mm_Ex g y d Al Mt S I (pc + 1) ls (.int (x >>> (z &&& 31)) :: st) Q) : mm_Ex g y d Al Mt S I pc ls (.int z :: .int x :: st) Q :=
  fun p e R s m args below meth c H locs rls n0 rho0 rho kap hC hG hV hS hl => lv_ishr hC.1 hC.2.1 hd (k p e R s m args below meth c H locs rls n0 rho0 rho kap hC hG hV hS hl)
theorem mm_idiv {x z : Int32} (hd : decode y.2.1 pc = .ok (.idiv, 1)) (hne : ¬ z = 0) (k : mm_Ex g y d Al Mt S I (pc + 1) ls (.int (x / z) :: st) Q) : mm_Ex g y d Al Mt S I pc ls (.int z :: .int x :: st) Q :=
  fun p e R s m args below meth c H locs rls n0 rho0 rho kap hC hG hV hS hl => lv_idiv hC.1 hC.2.1 hd hne (k p e R s m args below meth c H locs rls n0 rho0 rho kap hC hG hV hS hl)
theorem mm_irem {x z : Int32} (hd : decode y.2.1 pc = .ok (.irem, 1)) (hne : ¬ z = 0) (k : mm_Ex g y d Al Mt S I (pc + 1) ls (.int (x - x / z * z) :: st) Q) : mm_Ex g y d Al Mt S I pc ls (.int z :: .int x :: st) Q :=
  fun p e R s m args below meth c H locs rls n0 rho0 rho kap hC hG hV hS hl => lv_irem hC.1 hC.2.1 hd hne (k p e R s m args below meth c H locs rls n0 rho0 rho kap hC hG hV hS hl)
theorem mm_ineg {x : Int32} (hd : decode y.2.1 pc = .ok (.ineg, 1)) (k : mm_Ex g y d Al Mt S I (pc + 1) ls (.int (-x) :: st) Q) : mm_Ex g y d Al Mt S I pc ls (.int x :: st) Q :=
  fun p e R s m args below meth c H locs rls n0 rho0 rho kap hC hG hV hS hl => lv_ineg hC.1 hC.2.1 hd (k p e R s m args below meth c H locs rls n0 rho0 rho kap hC hG hV hS hl)
theorem mm_ladd {x z : Int64} (hd : decode y.2.1 pc = .ok (.ladd, 1)) (k : mm_Ex g y d Al Mt S I (pc + 1) ls (.long (x + z) :: st) Q) : mm_Ex g y d Al Mt S I pc ls (.long z :: .long x :: st) Q :=
  fun p e R s m args below meth c H locs rls n0 rho0 rho kap hC hG hV hS hl => lv_ladd hC.1 hC.2.1 hd (k p e R s m args below meth c H locs rls n0 rho0 rho kap hC hG hV hS hl)
theorem mm_lcmp {x z : Int64} (hd : decode y.2.1 pc = .ok (.lcmp, 1)) (k : mm_Ex g y d Al Mt S I (pc + 1) ls (.int (lg_cmp x z) :: st) Q) : mm_Ex g y d Al Mt S I pc ls (.long z :: .long x :: st) Q :=
  fun p e R s m args below meth c H locs rls n0 rho0 rho kap hC hG hV hS hl => W.lcmp hC.1 hC.2.1 hd (k p e R s m args below meth c H locs rls n0 rho0 rho kap hC hG hV hS hl)
theorem mm_i2l {x : Int32} (hd : decode y.2.1 pc = .ok (.i2l, 1)) (k : mm_Ex g y d Al Mt S I (pc + 1) ls (.long x.toInt64 :: st) Q) : mm_Ex g y d Al Mt S I pc ls (.int x :: st) Q :=
  fun p e R s m args below meth c H locs rls n0 rho0 rho kap hC hG hV hS hl => lv_i2l hC.1 hC.2.1 hd rfl (k p e R s m args below meth c H locs rls n0 rho0 rho kap hC hG hV hS hl)
theorem mm_i2s {x : Int32} (hd : decode y.2.1 pc = .ok (.i2s, 1)) (k : mm_Ex g y d Al Mt S I (pc + 1) ls (.int x.toInt16.toInt32 :: st) Q) : mm_Ex g y d Al Mt S I pc ls (.int x :: st) Q :=
  fun p e R s m args below meth c H locs rls n0 rho0 rho kap hC hG hV hS hl => lv_i2s hC.1 hC.2.1 hd rfl (k p e R s m args below meth c H locs rls n0 rho0 rho kap hC hG hV hS hl)
theorem mm_i2c {x : Int32} (hd : decode y.2.1 pc = .ok (.i2c, 1)) (k : mm_Ex g y d Al Mt S I (pc + 1) ls (.int (x.toUInt32 % 65536).toInt32 :: st) Q) : mm_Ex g y d Al Mt S I pc ls (.int x :: st) Q :=
  fun p e R s m args below meth c H locs rls n0 rho0 rho kap hC hG hV hS hl => lv_i2c hC.1 hC.2.1 hd rfl (k p e R s m args below meth c H locs rls n0 rho0 rho kap hC hG hV hS hl)
theorem mm_iushr {x z : Int32} (hd : decode y.2.1 pc = .ok (.iushr, 1)) (k : mm_Ex g y d Al Mt S I (pc + 1) ls (.int (x.toUInt32 >>> (z.toUInt32 &&& Int32.toUInt32 31)).toInt32 :: st) Q) : mm_Ex g y d Al Mt S I pc ls (.int z :: .int x :: st) Q :=
  fun p e R s m args below meth c H locs rls n0 rho0 rho kap hC hG hV hS hl => lv_iushr hC.1 hC.2.1 hd rfl (k p e R s m args below meth c H locs rls n0 rho0 rho kap hC hG hV hS hl)
theorem mm_null  (hd : decode y.2.1 pc = .ok (.aconst_null, 1)) (k : mm_Ex g y d Al Mt S I (pc + 1) ls (.null :: st) Q) : mm_Ex g y d Al Mt S I pc ls (st) Q :=
  fun p e R s m args below meth c H locs rls n0 rho0 rho kap hC hG hV hS hl => lv_null hC.1 hC.2.1 hd (k p e R s m args below meth c H locs rls n0 rho0 rho kap hC hG hV hS hl)
theorem mm_dup {v : Value} (hd : decode y.2.1 pc = .ok (.dup, 1)) (hv : v.category = 1) (k : mm_Ex g y d Al Mt S I (pc + 1) ls (v :: v :: st) Q) : mm_Ex g y d Al Mt S I pc ls (v :: st) Q :=
  fun p e R s m args below meth c H locs rls n0 rho0 rho kap hC hG hV hS hl => lv_dup hC.1 hC.2.1 hd (by rw [mm_em_cat]; exact hv) (k p e R s m args below meth c H locs rls n0 rho0 rho kap hC hG hV hS hl)
theorem mm_pop {v : Value} (hd : decode y.2.1 pc = .ok (.pop, 1)) (hv : v.category = 1) (k : mm_Ex g y d Al Mt S I (pc + 1) ls (st) Q) : mm_Ex g y d Al Mt S I pc ls (v :: st) Q :=
  fun p e R s m args below meth c H locs rls n0 rho0 rho kap hC hG hV hS hl => lv_pop hC.1 hC.2.1 hd (by rw [mm_em_cat]; exact hv) (k p e R s m args below meth c H locs rls n0 rho0 rho kap hC hG hV hS hl)
theorem mm_dup2 {v w : Value} (hd : decode y.2.1 pc = .ok (.dup2, 1)) (hv : v.category = 1) (hw : w.category = 1) (k : mm_Ex g y d Al Mt S I (pc + 1) ls (v :: w :: v :: w :: st) Q) : mm_Ex g y d Al Mt S I pc ls (v :: w :: st) Q :=
  fun p e R s m args below meth c H locs rls n0 rho0 rho kap hC hG hV hS hl => lv_dup2_11 hC.1 hC.2.1 hd (by rw [mm_em_cat]; exact hv) (by rw [mm_em_cat]; exact hw) (k p e R s m args below meth c H locs rls n0 rho0 rho kap hC hG hV hS hl)
theorem mm_iload_n {f : Fin 4} {i : Nat} {x : Int32} (j : Nat) (hd : decode y.2.1 pc = .ok (.iload_n f, 1)) (hi : (f : Nat) = i) (hj : ls[j]? = some (i, .int x)) (k : mm_Ex g y d Al Mt S I (pc + 1) ls (.int x :: st) Q) : mm_Ex g y d Al Mt S I pc ls (st) Q :=
  fun p e R s m args below meth c H locs rls n0 rho0 rho kap hC hG hV hS hl => lv_iload_n hC.1 hC.2.1 hd hi (lv_at hl j (mm_mp hj)) (k p e R s m args below meth c H locs rls n0 rho0 rho kap hC hG hV hS hl)
theorem mm_iload {i : Nat} {x : Int32} (j : Nat) (hd : decode y.2.1 pc = .ok (.iload i, 2)) (hj : ls[j]? = some (i, .int x)) (k : mm_Ex g y d Al Mt S I (pc + 2) ls (.int x :: st) Q) : mm_Ex g y d Al Mt S I pc ls (st) Q :=
  fun p e R s m args below meth c H locs rls n0 rho0 rho kap hC hG hV hS hl => lv_iload hC.1 hC.2.1 hd (lv_at hl j (mm_mp hj)) (k p e R s m args below meth c H locs rls n0 rho0 rho kap hC hG hV hS hl)
theorem mm_aload_n {f : Fin 4} {i : Nat} {x : Nat} (j : Nat) (hd : decode y.2.1 pc = .ok (.aload_n f, 1)) (hi : (f : Nat) = i) (hj : ls[j]? = some (i, .ref x)) (k : mm_Ex g y d Al Mt S I (pc + 1) ls (.ref x :: st) Q) : mm_Ex g y d Al Mt S I pc ls (st) Q :=
  fun p e R s m args below meth c H locs rls n0 rho0 rho kap hC hG hV hS hl => lv_aload_n hC.1 hC.2.1 hd hi (lv_at hl j (mm_mp hj)) (k p e R s m args below meth c H locs rls n0 rho0 rho kap hC hG hV hS hl)
theorem mm_aload {i : Nat} {x : Nat} (j : Nat) (hd : decode y.2.1 pc = .ok (.aload i, 2)) (hj : ls[j]? = some (i, .ref x)) (k : mm_Ex g y d Al Mt S I (pc + 2) ls (.ref x :: st) Q) : mm_Ex g y d Al Mt S I pc ls (st) Q :=
  fun p e R s m args below meth c H locs rls n0 rho0 rho kap hC hG hV hS hl => lv_aload hC.1 hC.2.1 hd (lv_at hl j (mm_mp hj)) (k p e R s m args below meth c H locs rls n0 rho0 rho kap hC hG hV hS hl)
theorem mm_aloadN_n {f : Fin 4} {i : Nat}  (j : Nat) (hd : decode y.2.1 pc = .ok (.aload_n f, 1)) (hi : (f : Nat) = i) (hj : ls[j]? = some (i, .null)) (k : mm_Ex g y d Al Mt S I (pc + 1) ls (.null :: st) Q) : mm_Ex g y d Al Mt S I pc ls (st) Q :=
  fun p e R s m args below meth c H locs rls n0 rho0 rho kap hC hG hV hS hl => lv_aload_nN hC.1 hC.2.1 hd hi (lv_at hl j (mm_mp hj)) (k p e R s m args below meth c H locs rls n0 rho0 rho kap hC hG hV hS hl)
theorem mm_aloadN {i : Nat}  (j : Nat) (hd : decode y.2.1 pc = .ok (.aload i, 2)) (hj : ls[j]? = some (i, .null)) (k : mm_Ex g y d Al Mt S I (pc + 2) ls (.null :: st) Q) : mm_Ex g y d Al Mt S I pc ls (st) Q :=
  fun p e R s m args below meth c H locs rls n0 rho0 rho kap hC hG hV hS hl => lv_aloadN hC.1 hC.2.1 hd (lv_at hl j (mm_mp hj)) (k p e R s m args below meth c H locs rls n0 rho0 rho kap hC hG hV hS hl)
theorem mm_istore_n {f : Fin 4} {i : Nat} {x : Int32} {ls' : List (Nat × Value)} (hd : decode y.2.1 pc = .ok (.istore_n f, 1)) (hi : (f : Nat) = i) (hn : i < y.2.2.1) (hls : (i, (.int x : Value)) :: ls.filter (fun q => !(q.1 == i) && !(q.1 + 1 == i && q.2.category == 2)) = ls') (k : mm_Ex g y d Al Mt S I (pc + 1) ls' st Q) : mm_Ex g y d Al Mt S I pc ls (.int x :: st) Q :=
  fun p e R s m args below meth c H locs rls n0 rho0 rho kap hC hG hV hS hl => lv_istore_n hC.1 hC.2.1 hd hi hl hn (mm_fl hls) (fun rls' hl' => k p e R s m args below meth c H locs rls' n0 rho0 rho kap hC hG hV hS hl')
theorem mm_istore {i : Nat} {x : Int32} {ls' : List (Nat × Value)} (hd : decode y.2.1 pc = .ok (.istore i, 2)) (hn : i < y.2.2.1) (hls : (i, (.int x : Value)) :: ls.filter (fun q => !(q.1 == i) && !(q.1 + 1 == i && q.2.category == 2)) = ls') (k : mm_Ex g y d Al Mt S I (pc + 2) ls' st Q) : mm_Ex g y d Al Mt S I pc ls (.int x :: st) Q :=
  fun p e R s m args below meth c H locs rls n0 rho0 rho kap hC hG hV hS hl => lv_istore hC.1 hC.2.1 hd hl hn (mm_fl hls) (fun rls' hl' => k p e R s m args below meth c H locs rls' n0 rho0 rho kap hC hG hV hS hl')
theorem mm_astore_n {f : Fin 4} {i : Nat} {x : Nat} {ls' : List (Nat × Value)} (hd : decode y.2.1 pc = .ok (.astore_n f, 1)) (hi : (f : Nat) = i) (hn : i < y.2.2.1) (hls : (i, (.ref x : Value)) :: ls.filter (fun q => !(q.1 == i) && !(q.1 + 1 == i && q.2.category == 2)) = ls') (k : mm_Ex g y d Al Mt S I (pc + 1) ls' st Q) : mm_Ex g y d Al Mt S I pc ls (.ref x :: st) Q :=
  fun p e R s m args below meth c H locs rls n0 rho0 rho kap hC hG hV hS hl => lv_astore_n hC.1 hC.2.1 hd hi hl hn (mm_fl hls) (fun rls' hl' => k p e R s m args below meth c H locs rls' n0 rho0 rho kap hC hG hV hS hl')
theorem mm_astore {i : Nat} {x : Nat} {ls' : List (Nat × Value)} (hd : decode y.2.1 pc = .ok (.astore i, 2)) (hn : i < y.2.2.1) (hls : (i, (.ref x : Value)) :: ls.filter (fun q => !(q.1 == i) && !(q.1 + 1 == i && q.2.category == 2)) = ls') (k : mm_Ex g y d Al Mt S I (pc + 2) ls' st Q) : mm_Ex g y d Al Mt S I pc ls (.ref x :: st) Q :=
  fun p e R s m args below meth c H locs rls n0 rho0 rho kap hC hG hV hS hl => lv_astore hC.1 hC.2.1 hd hl hn (mm_fl hls) (fun rls' hl' => k p e R s m args below meth c H locs rls' n0 rho0 rho kap hC hG hV hS hl')
theorem mm_astoreN_n {f : Fin 4} {i : Nat}  {ls' : List (Nat × Value)} (hd : decode y.2.1 pc = .ok (.astore_n f, 1)) (hi : (f : Nat) = i) (hn : i < y.2.2.1) (hls : (i, (Value.null : Value)) :: ls.filter (fun q => !(q.1 == i) && !(q.1 + 1 == i && q.2.category == 2)) = ls') (k : mm_Ex g y d Al Mt S I (pc + 1) ls' st Q) : mm_Ex g y d Al Mt S I pc ls (.null :: st) Q :=
  fun p e R s m args below meth c H locs rls n0 rho0 rho kap hC hG hV hS hl => lv_astore_nN hC.1 hC.2.1 hd hi hl hn (mm_fl hls) (fun rls' hl' => k p e R s m args below meth c H locs rls' n0 rho0 rho kap hC hG hV hS hl')
theorem mm_astoreN {i : Nat}  {ls' : List (Nat × Value)} (hd : decode y.2.1 pc = .ok (.astore i, 2)) (hn : i < y.2.2.1) (hls : (i, (Value.null : Value)) :: ls.filter (fun q => !(q.1 == i) && !(q.1 + 1 == i && q.2.category == 2)) = ls') (k : mm_Ex g y d Al Mt S I (pc + 2) ls' st Q) : mm_Ex g y d Al Mt S I pc ls (.null :: st) Q :=
  fun p e R s m args below meth c H locs rls n0 rho0 rho kap hC hG hV hS hl => lv_astoreN hC.1 hC.2.1 hd hl hn (mm_fl hls) (fun rls' hl' => k p e R s m args below meth c H locs rls' n0 rho0 rho kap hC hG hV hS hl')
theorem mm_iinc {i : Nat} {n : Int} {x v : Int32} {ls' : List (Nat × Value)} (j : Nat) (hd : decode y.2.1 pc = .ok (.iinc i n, 3)) (hj : ls[j]? = some (i, .int x)) (hv : x + Int32.ofInt n = v) (hn : i < y.2.2.1) (hls : (i, (.int v : Value)) :: ls.filter (fun q => !(q.1 == i) && !(q.1 + 1 == i && q.2.category == 2)) = ls') (k : mm_Ex g y d Al Mt S I (pc + 3) ls' st Q) : mm_Ex g y d Al Mt S I pc ls st Q :=
  fun p e R s m args below meth c H locs rls n0 rho0 rho kap hC hG hV hS hl => lv_iinc hC.1 hC.2.1 hd hl (mm_mp hj) hv hn (mm_fl hls) (fun rls' hl' => k p e R s m args below meth c H locs rls' n0 rho0 rho kap hC hG hV hS hl')
theorem mm_if_eq {x : Int32} {off : Int} {tgt : Nat} (hd : decode y.2.1 pc = .ok (.ifCond .eq off, 3)) (ht : (pc : Int) + off = (tgt : Int)) (kt : x = 0 → mm_Ex g y d Al Mt S I tgt ls st Q) (kf : ¬ x = 0 → mm_Ex g y d Al Mt S I (pc + 3) ls st Q) : mm_Ex g y d Al Mt S I pc ls (.int x :: st) Q :=
  fun p e R s m args below meth c H locs rls n0 rho0 rho kap hC hG hV hS hl => lv_if_eq hC.1 hC.2.1 hd ht (fun q => kt q p e R s m args below meth c H locs rls n0 rho0 rho kap hC hG hV hS hl) (fun q => kf q p e R s m args below meth c H locs rls n0 rho0 rho kap hC hG hV hS hl)
theorem mm_if_ne {x : Int32} {off : Int} {tgt : Nat} (hd : decode y.2.1 pc = .ok (.ifCond .ne off, 3)) (ht : (pc : Int) + off = (tgt : Int)) (kt : ¬ x = 0 → mm_Ex g y d Al Mt S I tgt ls st Q) (kf : x = 0 → mm_Ex g y d Al Mt S I (pc + 3) ls st Q) : mm_Ex g y d Al Mt S I pc ls (.int x :: st) Q :=
  fun p e R s m args below meth c H locs rls n0 rho0 rho kap hC hG hV hS hl => lv_if_ne hC.1 hC.2.1 hd ht (fun q => kt q p e R s m args below meth c H locs rls n0 rho0 rho kap hC hG hV hS hl) (fun q => kf q p e R s m args below meth c H locs rls n0 rho0 rho kap hC hG hV hS hl)
theorem mm_if_lt {x : Int32} {off : Int} {tgt : Nat} (hd : decode y.2.1 pc = .ok (.ifCond .lt off, 3)) (ht : (pc : Int) + off = (tgt : Int)) (kt : x < 0 → mm_Ex g y d Al Mt S I tgt ls st Q) (kf : ¬ x < 0 → mm_Ex g y d Al Mt S I (pc + 3) ls st Q) : mm_Ex g y d Al Mt S I pc ls (.int x :: st) Q :=
  fun p e R s m args below meth c H locs rls n0 rho0 rho kap hC hG hV hS hl => lv_if_lt hC.1 hC.2.1 hd ht (fun q => kt q p e R s m args below meth c H locs rls n0 rho0 rho kap hC hG hV hS hl) (fun q => kf q p e R s m args below meth c H locs rls n0 rho0 rho kap hC hG hV hS hl)
theorem mm_if_ge {x : Int32} {off : Int} {tgt : Nat} (hd : decode y.2.1 pc = .ok (.ifCond .ge off, 3)) (ht : (pc : Int) + off = (tgt : Int)) (kt : 0 ≤ x → mm_Ex g y d Al Mt S I tgt ls st Q) (kf : ¬ 0 ≤ x → mm_Ex g y d Al Mt S I (pc + 3) ls st Q) : mm_Ex g y d Al Mt S I pc ls (.int x :: st) Q :=
  fun p e R s m args below meth c H locs rls n0 rho0 rho kap hC hG hV hS hl => lv_if_ge hC.1 hC.2.1 hd ht (fun q => kt q p e R s m args below meth c H locs rls n0 rho0 rho kap hC hG hV hS hl) (fun q => kf q p e R s m args below meth c H locs rls n0 rho0 rho kap hC hG hV hS hl)
theorem mm_if_gt {x : Int32} {off : Int} {tgt : Nat} (hd : decode y.2.1 pc = .ok (.ifCond .gt off, 3)) (ht : (pc : Int) + off = (tgt : Int)) (kt : 0 < x → mm_Ex g y d Al Mt S I tgt ls st Q) (kf : ¬ 0 < x → mm_Ex g y d Al Mt S I (pc + 3) ls st Q) : mm_Ex g y d Al Mt S I pc ls (.int x :: st) Q :=
  fun p e R s m args below meth c H locs rls n0 rho0 rho kap hC hG hV hS hl => lv_if_gt hC.1 hC.2.1 hd ht (fun q => kt q p e R s m args below meth c H locs rls n0 rho0 rho kap hC hG hV hS hl) (fun q => kf q p e R s m args below meth c H locs rls n0 rho0 rho kap hC hG hV hS hl)
theorem mm_if_le {x : Int32} {off : Int} {tgt : Nat} (hd : decode y.2.1 pc = .ok (.ifCond .le off, 3)) (ht : (pc : Int) + off = (tgt : Int)) (kt : x ≤ 0 → mm_Ex g y d Al Mt S I tgt ls st Q) (kf : ¬ x ≤ 0 → mm_Ex g y d Al Mt S I (pc + 3) ls st Q) : mm_Ex g y d Al Mt S I pc ls (.int x :: st) Q :=
  fun p e R s m args below meth c H locs rls n0 rho0 rho kap hC hG hV hS hl => lv_if_le hC.1 hC.2.1 hd ht (fun q => kt q p e R s m args below meth c H locs rls n0 rho0 rho kap hC hG hV hS hl) (fun q => kf q p e R s m args below meth c H locs rls n0 rho0 rho kap hC hG hV hS hl)
theorem mm_icmp_eq {x z : Int32} {off : Int} {tgt : Nat} (hd : decode y.2.1 pc = .ok (.if_icmp .eq off, 3)) (ht : (pc : Int) + off = (tgt : Int)) (kt : x = z → mm_Ex g y d Al Mt S I tgt ls st Q) (kf : ¬ x = z → mm_Ex g y d Al Mt S I (pc + 3) ls st Q) : mm_Ex g y d Al Mt S I pc ls (.int z :: .int x :: st) Q :=
  fun p e R s m args below meth c H locs rls n0 rho0 rho kap hC hG hV hS hl => lv_icmp_eq hC.1 hC.2.1 hd ht (fun q => kt q p e R s m args below meth c H locs rls n0 rho0 rho kap hC hG hV hS hl) (fun q => kf q p e R s m args below meth c H locs rls n0 rho0 rho kap hC hG hV hS hl)
theorem mm_icmp_ne {x z : Int32} {off : Int} {tgt : Nat} (hd : decode y.2.1 pc = .ok (.if_icmp .ne off, 3)) (ht : (pc : Int) + off = (tgt : Int)) (kt : ¬ x = z → mm_Ex g y d Al Mt S I tgt ls st Q) (kf : x = z → mm_Ex g y d Al Mt S I (pc + 3) ls st Q) : mm_Ex g y d Al Mt S I pc ls (.int z :: .int x :: st) Q :=
  fun p e R s m args below meth c H locs rls n0 rho0 rho kap hC hG hV hS hl => lv_icmp_ne hC.1 hC.2.1 hd ht (fun q => kt q p e R s m args below meth c H locs rls n0 rho0 rho kap hC hG hV hS hl) (fun q => kf q p e R s m args below meth c H locs rls n0 rho0 rho kap hC hG hV hS hl)
theorem mm_icmp_lt {x z : Int32} {off : Int} {tgt : Nat} (hd : decode y.2.1 pc = .ok (.if_icmp .lt off, 3)) (ht : (pc : Int) + off = (tgt : Int)) (kt : x < z → mm_Ex g y d Al Mt S I tgt ls st Q) (kf : ¬ x < z → mm_Ex g y d Al Mt S I (pc + 3) ls st Q) : mm_Ex g y d Al Mt S I pc ls (.int z :: .int x :: st) Q :=
  fun p e R s m args below meth c H locs rls n0 rho0 rho kap hC hG hV hS hl => lv_icmp_lt hC.1 hC.2.1 hd ht (fun q => kt q p e R s m args below meth c H locs rls n0 rho0 rho kap hC hG hV hS hl) (fun q => kf q p e R s m args below meth c H locs rls n0 rho0 rho kap hC hG hV hS hl)
theorem mm_icmp_ge {x z : Int32} {off : Int} {tgt : Nat} (hd : decode y.2.1 pc = .ok (.if_icmp .ge off, 3)) (ht : (pc : Int) + off = (tgt : Int)) (kt : z ≤ x → mm_Ex g y d Al Mt S I tgt ls st Q) (kf : ¬ z ≤ x → mm_Ex g y d Al Mt S I (pc + 3) ls st Q) : mm_Ex g y d Al Mt S I pc ls (.int z :: .int x :: st) Q :=
  fun p e R s m args below meth c H locs rls n0 rho0 rho kap hC hG hV hS hl => lv_icmp_ge hC.1 hC.2.1 hd ht (fun q => kt q p e R s m args below meth c H locs rls n0 rho0 rho kap hC hG hV hS hl) (fun q => kf q p e R s m args below meth c H locs rls n0 rho0 rho kap hC hG hV hS hl)
theorem mm_icmp_gt {x z : Int32} {off : Int} {tgt : Nat} (hd : decode y.2.1 pc = .ok (.if_icmp .gt off, 3)) (ht : (pc : Int) + off = (tgt : Int)) (kt : z < x → mm_Ex g y d Al Mt S I tgt ls st Q) (kf : ¬ z < x → mm_Ex g y d Al Mt S I (pc + 3) ls st Q) : mm_Ex g y d Al Mt S I pc ls (.int z :: .int x :: st) Q :=
  fun p e R s m args below meth c H locs rls n0 rho0 rho kap hC hG hV hS hl => lv_icmp_gt hC.1 hC.2.1 hd ht (fun q => kt q p e R s m args below meth c H locs rls n0 rho0 rho kap hC hG hV hS hl) (fun q => kf q p e R s m args below meth c H locs rls n0 rho0 rho kap hC hG hV hS hl)
theorem mm_icmp_le {x z : Int32} {off : Int} {tgt : Nat} (hd : decode y.2.1 pc = .ok (.if_icmp .le off, 3)) (ht : (pc : Int) + off = (tgt : Int)) (kt : x ≤ z → mm_Ex g y d Al Mt S I tgt ls st Q) (kf : ¬ x ≤ z → mm_Ex g y d Al Mt S I (pc + 3) ls st Q) : mm_Ex g y d Al Mt S I pc ls (.int z :: .int x :: st) Q :=
  fun p e R s m args below meth c H locs rls n0 rho0 rho kap hC hG hV hS hl => lv_icmp_le hC.1 hC.2.1 hd ht (fun q => kt q p e R s m args below meth c H locs rls n0 rho0 rho kap hC hG hV hS hl) (fun q => kf q p e R s m args below meth c H locs rls n0 rho0 rho kap hC hG hV hS hl)
theorem mm_goto {off : Int} {tgt : Nat} (hd : decode y.2.1 pc = .ok (.goto off, 3)) (ht : (pc : Int) + off = (tgt : Int)) (k : mm_Ex g y d Al Mt S I tgt ls st Q) : mm_Ex g y d Al Mt S I pc ls st Q :=
  fun p e R s m args below meth c H locs rls n0 rho0 rho kap hC hG hV hS hl => lv_goto hC.1 hC.2.1 hd ht (k p e R s m args below meth c H locs rls n0 rho0 rho kap hC hG hV hS hl)
theorem mm_ifnonnull {x : Nat} {off : Int} {tgt : Nat} (hd : decode y.2.1 pc = .ok (.ifnonnull off, 3)) (ht : (pc : Int) + off = (tgt : Int)) (k : mm_Ex g y d Al Mt S I tgt ls st Q) : mm_Ex g y d Al Mt S I pc ls (.ref x :: st) Q :=
  fun p e R s m args below meth c H locs rls n0 rho0 rho kap hC hG hV hS hl => lv_ifnonnull hC.1 hC.2.1 hd ht (k p e R s m args below meth c H locs rls n0 rho0 rho kap hC hG hV hS hl)
theorem mm_ifnonnullN {off : Int} (hd : decode y.2.1 pc = .ok (.ifnonnull off, 3)) (k : mm_Ex g y d Al Mt S I (pc + 3) ls st Q) : mm_Ex g y d Al Mt S I pc ls (.null :: st) Q :=
  fun p e R s m args below meth c H locs rls n0 rho0 rho kap hC hG hV hS hl => lv_ifnonnullN hC.1 hC.2.1 hd (k p e R s m args below meth c H locs rls n0 rho0 rho kap hC hG hV hS hl)
theorem mm_ifnull {x : Nat} {off : Int} (hd : decode y.2.1 pc = .ok (.ifnull off, 3)) (k : mm_Ex g y d Al Mt S I (pc + 3) ls st Q) : mm_Ex g y d Al Mt S I pc ls (.ref x :: st) Q :=
  fun p e R s m args below meth c H locs rls n0 rho0 rho kap hC hG hV hS hl => lv_ifnull hC.1 hC.2.1 hd (k p e R s m args below meth c H locs rls n0 rho0 rho kap hC hG hV hS hl)
theorem mm_ifnullN {off : Int} {tgt : Nat} (hd : decode y.2.1 pc = .ok (.ifnull off, 3)) (ht : (pc : Int) + off = (tgt : Int)) (k : mm_Ex g y d Al Mt S I tgt ls st Q) : mm_Ex g y d Al Mt S I pc ls (.null :: st) Q :=
  fun p e R s m args below meth c H locs rls n0 rho0 rho kap hC hG hV hS hl => lv_ifnullN hC.1 hC.2.1 hd ht (k p e R s m args below meth c H locs rls n0 rho0 rho kap hC hG hV hS hl)
theorem mm_lookup {dflt : Int} {ps : Array (Int × Int)} {len : Nat} {x : Int32} {off : Int} {tgt : Nat} (hd : decode y.2.1 pc = .ok (.lookupswitch dflt ps, len)) (hp : (ps.toList.zip (ps.toList.drop 1)).all (fun (a, next) => a.1 < next.1) = true) (ho : Op.lookupswitch.offset ps.toList dflt x.toInt = off) (ht : (pc : Int) + off = (tgt : Int)) (k : mm_Ex g y d Al Mt S I tgt ls st Q) : mm_Ex g y d Al Mt S I pc ls (.int x :: st) Q :=
  fun p e R s m args below meth c H locs rls n0 rho0 rho kap hC hG hV hS hl => lv_lookup hC.1 hC.2.1 hd hp ho ht (k p e R s m args below meth c H locs rls n0 rho0 rho kap hC hG hV hS hl)
theorem mm_tableOut {dflt lo hi : Int} {offs : Array Int} {len : Nat} {x : Int32} {tgt : Nat} (hd : decode y.2.1 pc = .ok (.tableswitch dflt lo hi offs, len)) (h : x.toInt < lo ∨ hi < x.toInt) (ht : (pc : Int) + dflt = (tgt : Int)) (k : mm_Ex g y d Al Mt S I tgt ls st Q) : mm_Ex g y d Al Mt S I pc ls (.int x :: st) Q :=
  fun p e R s m args below meth c H locs rls n0 rho0 rho kap hC hG hV hS hl => lv_tableOut hC.1 hC.2.1 hd h ht (k p e R s m args below meth c H locs rls n0 rho0 rho kap hC hG hV hS hl)
theorem mm_tableIn {dflt lo hi : Int} {offs : Array Int} {len : Nat} {x : Int32} {off : Int} {tgt : Nat} (hd : decode y.2.1 pc = .ok (.tableswitch dflt lo hi offs, len)) (h1 : ¬ x.toInt < lo) (h2 : ¬ hi < x.toInt) (ho : offs[(x.toInt - lo).toNat]? = some off) (ht : (pc : Int) + off = (tgt : Int)) (k : mm_Ex g y d Al Mt S I tgt ls st Q) : mm_Ex g y d Al Mt S I pc ls (.int x :: st) Q :=
  fun p e R s m args below meth c H locs rls n0 rho0 rho kap hC hG hV hS hl => lv_tableIn hC.1 hC.2.1 hd h1 h2 ho ht (k p e R s m args below meth c H locs rls n0 rho0 rho kap hC hG hV hS hl)
theorem mm_ldc {own : String} {index : Nat} {v : Int32} (hd : decode y.2.1 pc = .ok (.ldc index, 2)) (ho : y.1.cls = own) (hw : Cond.constant own index v ∈ mm_tb) (k : mm_Ex g y d Al Mt S I (pc + 2) ls (.int v :: st) Q) : mm_Ex g y d Al Mt S I pc ls (st) Q :=
  fun p e R s m args below meth c H locs rls n0 rho0 rho kap hC hG hV hS hl => lv_ldc hC.1 hC.2.1 (by rw [← ho]; exact hC.2.2.2.2.1) (hC.2.2.2.2.2.1 _ hw) hd (k p e R s m args below meth c H locs rls n0 rho0 rho kap hC hG hV hS hl)
theorem mm_ldcw {own : String} {index : Nat} {v : Int32} (hd : decode y.2.1 pc = .ok (.ldc_w index, 3)) (ho : y.1.cls = own) (hw : Cond.constant own index v ∈ mm_tb) (k : mm_Ex g y d Al Mt S I (pc + 3) ls (.int v :: st) Q) : mm_Ex g y d Al Mt S I pc ls (st) Q :=
  fun p e R s m args below meth c H locs rls n0 rho0 rho kap hC hG hV hS hl => lv_ldcw hC.1 hC.2.1 (by rw [← ho]; exact hC.2.2.2.2.1) (hC.2.2.2.2.2.1 _ hw) hd (k p e R s m args below meth c H locs rls n0 rho0 rho kap hC hG hV hS hl)
theorem mm_top {x v : Int32} (h : x = v) (k : mm_Ex g y d Al Mt S I pc ls (.int v :: st) Q) : mm_Ex g y d Al Mt S I pc ls (.int x :: st) Q := by rw [h]; exact k
theorem mm_at {pc' : Nat} (h : pc = pc') (k : mm_Ex g y d Al Mt S I pc' ls st Q) : mm_Ex g y d Al Mt S I pc ls st Q := by rw [h]; exact k
theorem mm_sub {ls' : List (Nat × Value)} (js : List Nat) (hls : lv_pick ls js = ls') (k : mm_Ex g y d Al Mt S I pc ls' st Q) : mm_Ex g y d Al Mt S I pc ls st Q :=
  fun p e R s m args below meth c H locs rls n0 rho0 rho kap hC hG hV hS hl => k p e R s m args below meth c H locs rls n0 rho0 rho kap hC hG hV hS (lv_sub hl js (mm_pk hls))

theorem mm_ws_at {rho : Nat → Nat} {kap : Nat → ClassId} {a : Nat} (h : a < S.1) : (mm_ws rho kap S I)[a]? = some (rho a, mm_enc rho kap S I a) := by
  unfold mm_ws
  rw [List.getElem?_map, List.getElem?_range h]; rfl
theorem mm_cls {ci : Nat} (h : ci < 13) : ∃ r : vw_C, vwCl[ci]? = some r ∧ r.2.2 = mm_N ci := by
  rcases (show ci = 0 ∨ ci = 1 ∨ ci = 2 ∨ ci = 3 ∨ ci = 4 ∨ ci = 5 ∨ ci = 6 ∨ ci = 7 ∨ ci = 8 ∨ ci = 9 ∨ ci = 10 ∨ ci = 11 ∨ ci = 12 by omega) with rfl | rfl | rfl | rfl | rfl | rfl | rfl | rfl | rfl | rfl | rfl | rfl | rfl <;> exact ⟨_, rfl, rfl⟩
/-- a place of an object that a class file's entry names -/
def mm_F (own : String) (index ci k : Nat) : Prop := ∃ (C : String) (T : u_T), vwCl[ci]? = some (C, T, mm_N ci) ∧ k < mm_N ci ∧ (∀ w ∈ u_ws C T (mm_N ci), w ∈ mm_tb) ∧ Cond.fieldLink own index (T k).1 (T k).2.1 (T k).2.2.1 ∈ mm_tb ∧
  (∀ j, j < mm_N ci → parseFieldDescriptor (T j).2.2.1 = some (mm_ty ci j)) ∧ (∀ a, a < mm_N ci → ∀ b, b < mm_N ci → a ≠ b → (T a).2.1 ≠ (T b).2.1)
/-- that place isn't final -/
def mm_Fv (ci k : Nat) : Prop := ∀ C T N, vwCl[ci]? = some (C, T, N) → (T k).2.2.2 = false
def mm_ob (S : mm_Sh) (a ci : Nat) : Prop := a < S.1 ∧ S.2.1 a = .inl ci
def mm_ia (S : mm_Sh) (a n : Nat) : Prop := a < S.1 ∧ S.2.1 a = .inr (.inl n)
def mm_ra (S : mm_Sh) (a c n : Nat) : Prop := a < S.1 ∧ S.2.1 a = .inr (.inr (c, n))
theorem mm_enc_ob {rho : Nat → Nat} {kap : Nat → ClassId} {a ci : Nat} (h : mm_ob S a ci) : (mm_ws rho kap S I)[a]? = some (rho a, .inr (ci, mm_fs rho S I a ci)) := by
  rw [mm_ws_at h.1]; unfold mm_enc; rw [h.2]
theorem mm_enc_ia {rho : Nat → Nat} {kap : Nat → ClassId} {a n : Nat} (h : mm_ia S a n) : (mm_ws rho kap S I)[a]? = some (rho a, .inl (kap a, n, .inl (I a))) := by
  rw [mm_ws_at h.1]; unfold mm_enc; rw [h.2]
theorem mm_enc_ra {rho : Nat → Nat} {kap : Nat → ClassId} {a c n : Nat} (h : mm_ra S a c n) : (mm_ws rho kap S I)[a]? = some (rho a, .inl (kap a, n, .inr (.inr (.inr (.inr (fun j => (S.2.2 a j).map rho)))))) := by
  rw [mm_ws_at h.1]; unfold mm_enc; rw [h.2]
theorem mm_fs_at {rho : Nat → Nat} {a ci k : Nat} (h : k < mm_N ci) : (mm_fs rho S I a ci)[k]? = some (mm_fv rho S I a ci k) := by
  unfold mm_fs
  rw [List.getElem?_map, List.getElem?_range h]; rfl
def mm_up (I : mm_I) (a i : Nat) (x : Int32) : mm_I := fun b j => if b = a then (if j = i then x else I a j) else I b j
/-- whether a place holds a number -/
def mm_nu (ci k : Nat) : Bool := match mm_ty ci k with
  | .object _ => false
  | .array _ => false
  | _ => true
theorem mm_fv_nu {rho : Nat → Nat} {a ci k : Nat} (h : mm_nu ci k = true) : mm_fv rho S I a ci k = .int (I a k) := by
  unfold mm_nu at h
  unfold mm_fv
  cases hh : mm_ty ci k <;> simp_all
theorem mm_fv_rf {rho : Nat → Nat} {a ci k : Nat} (h : mm_nu ci k = false) : mm_fv rho S I a ci k = va_re rho (S.2.2 a k) := by
  unfold mm_nu at h
  unfold mm_fv
  cases hh : mm_ty ci k <;> simp_all
/-- getfield of a number -/
theorem mm_geti {a ci k index : Nat} {own : String} (hd : decode y.2.1 pc = .ok (.getfield index, 3)) (ho : y.1.cls = own) (hF : mm_F own index ci k) (hn : mm_nu ci k = true) (ha : mm_ob S a ci) (kk : mm_Ex g y d Al Mt S I (pc + 3) ls (.int (I a k) :: st) Q) : mm_Ex g y d Al Mt S I pc ls (.ref a :: st) Q := by
  intro p e R s m args below meth c H locs rls n0 rho0 rho kap hC hG hV hS hl
  obtain ⟨C, T, hc, hk, hin, hlk, -, -⟩ := hF
  have ho2 := hC.2.2.2.2.1
  rw [ho] at ho2
  exact va_get hC.1 hC.2.1 hC.2.2.2.2.2.1 hin ho2 hC.2.2.2.2.2.2.2.2.2.1 hV.1 a (mm_enc_ob ha) hc k hk (hC.2.2.2.2.2.1 _ hlk) (fun x h => h) (v := .int (I a k)) (by rw [mm_fs_at hk, mm_fv_nu hn]) hd
    (kk p e R s m args below meth c H locs rls n0 rho0 rho kap hC hG hV hS hl)
/-- getfield of a reference -/
theorem mm_getr {a ci k index b : Nat} {own : String} (hd : decode y.2.1 pc = .ok (.getfield index, 3)) (ho : y.1.cls = own) (hF : mm_F own index ci k) (hn : mm_nu ci k = false) (ha : mm_ob S a ci) (hr : S.2.2 a k = some b) (kk : mm_Ex g y d Al Mt S I (pc + 3) ls (.ref b :: st) Q) : mm_Ex g y d Al Mt S I pc ls (.ref a :: st) Q := by
  intro p e R s m args below meth c H locs rls n0 rho0 rho kap hC hG hV hS hl
  obtain ⟨C, T, hc, hk, hin, hlk, -, -⟩ := hF
  have ho2 := hC.2.2.2.2.1
  rw [ho] at ho2
  exact va_get hC.1 hC.2.1 hC.2.2.2.2.2.1 hin ho2 hC.2.2.2.2.2.2.2.2.2.1 hV.1 a (mm_enc_ob ha) hc k hk (hC.2.2.2.2.2.1 _ hlk) (fun x h => h) (v := .ref (rho b)) (by rw [mm_fs_at hk, mm_fv_rf hn, hr]; rfl) hd
    (kk p e R s m args below meth c H locs rls n0 rho0 rho kap hC hG hV hS hl)
theorem mm_ws_up {rho : Nat → Nat} {kap : Nat → ClassId} {a i : Nat} {x : Int32} {e : va_E} (ha : a < S.1) (he : mm_enc rho kap S (mm_up I a i x) a = e) : (mm_ws rho kap S I).set a (rho a, e) = mm_ws rho kap S (mm_up I a i x) := by
  apply List.ext_getElem?
  intro b
  by_cases hb : b = a
  · subst hb
    rw [List.getElem?_set_self (by unfold mm_ws; simpa using ha), mm_ws_at ha, he]
  · rw [List.getElem?_set_ne (Ne.symm hb)]
    by_cases hlt : b < S.1
    · rw [mm_ws_at hlt, mm_ws_at hlt]
      unfold mm_enc mm_fs mm_fv mm_up
      simp only [if_neg hb]
    · rw [List.getElem?_eq_none (by unfold mm_ws; simpa using hlt), List.getElem?_eq_none (by unfold mm_ws; simpa using hlt)]
theorem mm_up_self (a i : Nat) (x : Int32) : mm_up I a i x a = upd (I a) i x := by
  funext j; unfold mm_up upd; simp
theorem mm_ws_ia {rho : Nat → Nat} {kap : Nat → ClassId} {a n i : Nat} {x : Int32} (ha : mm_ia S a n) : (mm_ws rho kap S I).set a (rho a, .inl (kap a, n, .inl (upd (I a) i x))) = mm_ws rho kap S (mm_up I a i x) := by
  apply mm_ws_up ha.1
  unfold mm_enc
  rw [ha.2, mm_up_self]
theorem mm_ws_ob {rho : Nat → Nat} {kap : Nat → ClassId} {a ci k : Nat} {x : Int32} (ha : mm_ob S a ci) (hk : k < mm_N ci) (hn : mm_nu ci k = true) : (mm_ws rho kap S I).set a (rho a, .inr (ci, (mm_fs rho S I a ci).set k (.int x))) = mm_ws rho kap S (mm_up I a k x) := by
  apply mm_ws_up ha.1
  unfold mm_enc
  rw [ha.2]
  show Sum.inr (ci, _) = Sum.inr (ci, _)
  congr 2
  apply List.ext_getElem?
  intro j
  by_cases hj : j = k
  · subst hj
    rw [List.getElem?_set_self (by unfold mm_fs; simpa using hk), mm_fs_at hk, mm_fv_nu hn]
    unfold mm_up; simp
  · rw [List.getElem?_set_ne (Ne.symm hj)]
    by_cases hlt : j < mm_N ci
    · rw [mm_fs_at hlt, mm_fs_at hlt]
      unfold mm_fv mm_up
      simp only [if_true, if_neg hj]
    · rw [List.getElem?_eq_none (by unfold mm_fs; simpa using hlt), List.getElem?_eq_none (by unfold mm_fs; simpa using hlt)]
/-- iaload -/
theorem mm_iald {a n : Nat} {i : Int32} (hd : decode y.2.1 pc = .ok (.iaload, 1)) (ha : mm_ia S a n) (hin : vp_in i n) (kk : mm_Ex g y d Al Mt S I (pc + 1) ls (.int (I a i.toNatClampNeg) :: st) Q) : mm_Ex g y d Al Mt S I pc ls (.int i :: .ref a :: st) Q := by
  intro p e R s m args below meth c H locs rls n0 rho0 rho kap hC hG hV hS hl
  have hak := hV.2.2.1 a ha.1
  rw [ha.2] at hak
  exact va_iald (tys := [(kap a, .int)]) hC.1 hC.2.1 ⟨hC.2.2.2.2.2.2.2.2.2.1.1, fun k q hq => by
    rcases k with _ | k
    · cases hq; exact hak
    · cases hq⟩ hV.1 a 0 (mm_enc_ia ha) rfl hin hd (kk p e R s m args below meth c H locs rls n0 rho0 rho kap hC hG hV hS hl)
/-- arraylength -/
theorem mm_alen {a n : Nat} (hd : decode y.2.1 pc = .ok (.arraylength, 1)) (ha : mm_ia S a n) (kk : mm_Ex g y d Al Mt S I (pc + 1) ls (.int (nI n) :: st) Q) : mm_Ex g y d Al Mt S I pc ls (.ref a :: st) Q := by
  intro p e R s m args below meth c H locs rls n0 rho0 rho kap hC hG hV hS hl
  have hak := hV.2.2.1 a ha.1
  rw [ha.2] at hak
  exact va_alen (tys := [(kap a, .int)]) (ty := .int) hC.1 hC.2.1 ⟨hC.2.2.2.2.2.2.2.2.2.1.1, fun k q hq => by
    rcases k with _ | k
    · cases hq; exact hak
    · cases hq⟩ hV.1 a 0 (mm_enc_ia ha) rfl rfl hd (kk p e R s m args below meth c H locs rls n0 rho0 rho kap hC hG hV hS hl)
/-- length of a row of references -/
theorem mm_alenR {a q n : Nat} (hd : decode y.2.1 pc = .ok (.arraylength, 1)) (ha : mm_ra S a q n) (kk : mm_Ex g y d Al Mt S I (pc + 1) ls (.int (nI n) :: st) Q) : mm_Ex g y d Al Mt S I pc ls (.ref a :: st) Q := by
  intro p e R s m args below meth c H locs rls n0 rho0 rho kap hC hG hV hS hl
  have hak := hV.2.2.1 a ha.1
  rw [ha.2] at hak
  exact va_alen (tys := [(kap a, .object (mm_cn q))]) (ty := .object (mm_cn q)) hC.1 hC.2.1 ⟨hC.2.2.2.2.2.2.2.2.2.1.1, fun k q hq => by
    rcases k with _ | k
    · cases hq; exact hak
    · cases hq⟩ hV.1 a 0 (mm_enc_ra ha) rfl rfl hd (kk p e R s m args below meth c H locs rls n0 rho0 rho kap hC hG hV hS hl)
/-- aaload -/
theorem mm_aald {a q n b : Nat} {i : Int32} (hd : decode y.2.1 pc = .ok (.aaload, 1)) (ha : mm_ra S a q n) (hin : vp_in i n) (hr : S.2.2 a i.toNatClampNeg = some b) (kk : mm_Ex g y d Al Mt S I (pc + 1) ls (.ref b :: st) Q) : mm_Ex g y d Al Mt S I pc ls (.int i :: .ref a :: st) Q := by
  intro p e R s m args below meth c H locs rls n0 rho0 rho kap hC hG hV hS hl
  have hak := hV.2.2.1 a ha.1
  rw [ha.2] at hak
  refine va_aldq (tys := [(kap a, .object (mm_cn q))]) (C := mm_cn q) hC.1 hC.2.1 ⟨hC.2.2.2.2.2.2.2.2.2.1.1, fun k q hq => by
    rcases k with _ | k
    · cases hq; exact hak
    · cases hq⟩ hV.1 a 0 (mm_enc_ra ha) rfl hin hd ?_
  rw [hr]
  exact kk p e R s m args below meth c H locs rls n0 rho0 rho kap hC hG hV hS hl
/-- iastore -/
theorem mm_iast {a n : Nat} {i x : Int32} (hd : decode y.2.1 pc = .ok (.iastore, 1)) (ha : mm_ia S a n) (hin : vp_in i n) (kk : mm_Ex g y d Al Mt S (mm_up I a i.toNatClampNeg x) (pc + 1) ls st Q) : mm_Ex g y d Al Mt S I pc ls (.int x :: .int i :: .ref a :: st) Q := by
  intro p e R s m args below meth c H locs rls n0 rho0 rho kap hC hG hV hS hl
  have hak := hV.2.2.1 a ha.1
  rw [ha.2] at hak
  refine va_iast (tys := [(kap a, .int)]) hC.1 hC.2.1 ⟨hC.2.2.2.2.2.2.2.2.2.1.1, fun k q hq => by
    rcases k with _ | k
    · cases hq; exact hak
    · cases hq⟩ hV.1 hV.2.1 hS a 0 (mm_enc_ia ha) rfl hin hd (fun H1 locs1 hP hD hS1 => ?_)
  rw [mm_ws_ia ha] at hP hD
  exact kk p e R s m args below meth c H1 locs1 rls n0 rho0 rho kap hC hG ⟨hP, hD, hV.2.2⟩ hS1 hl
/-- putfield of an int -/
theorem mm_puti {a ci k index : Nat} {own : String} {x : Int32} (hd : decode y.2.1 pc = .ok (.putfield index, 3)) (ho : y.1.cls = own) (hF : mm_F own index ci k) (ht : mm_ty ci k = .int) (hv : mm_Fv ci k) (ha : mm_ob S a ci) (kk : mm_Ex g y d Al Mt S (mm_up I a k x) (pc + 3) ls st Q) : mm_Ex g y d Al Mt S I pc ls (.int x :: .ref a :: st) Q := by
  intro p e R s m args below meth c H locs rls n0 rho0 rho kap hC hG hV hS hl
  have hn : mm_nu ci k = true := by unfold mm_nu; rw [ht]
  obtain ⟨C, T, hc, hk, hin, hlk, hty, hnm⟩ := hF
  have ho2 := hC.2.2.2.2.1
  rw [ho] at ho2
  refine va_put (ty := .int) hC.1 hC.2.1 hC.2.2.2.2.2.1 hin (mm_ty ci) hty hnm ho2 hC.2.2.2.2.2.2.2.2.2.1 hV.1 hV.2.1 hS a (mm_enc_ob ha) hc k hk (hC.2.2.2.2.2.1 _ hlk) (fun x h => h) (hv C T _ hc) (v := .int x) (by rw [hty k hk, ht]) rfl rfl (by unfold mm_fs; simpa using hk) hd (fun H1 locs1 hP hD hS1 => ?_)
  rw [mm_ws_ob ha hk hn] at hP hD
  exact kk p e R s m args below meth c H1 locs1 rls n0 rho0 rho kap hC hG ⟨hP, hD, hV.2.2⟩ hS1 hl
/-- putfield of a boolean -/
theorem mm_putz {a ci k index : Nat} {own : String} {x : Int32} (hd : decode y.2.1 pc = .ok (.putfield index, 3)) (ho : y.1.cls = own) (hF : mm_F own index ci k) (ht : mm_ty ci k = .boolean) (hv : mm_Fv ci k) (hx : x = 0 ∨ x = 1) (ha : mm_ob S a ci) (kk : mm_Ex g y d Al Mt S (mm_up I a k x) (pc + 3) ls st Q) : mm_Ex g y d Al Mt S I pc ls (.int x :: .ref a :: st) Q := by
  intro p e R s m args below meth c H locs rls n0 rho0 rho kap hC hG hV hS hl
  have hn : mm_nu ci k = true := by unfold mm_nu; rw [ht]
  obtain ⟨C, T, hc, hk, hin, hlk, hty, hnm⟩ := hF
  have ho2 := hC.2.2.2.2.1
  rw [ho] at ho2
  refine va_put (ty := .boolean) hC.1 hC.2.1 hC.2.2.2.2.2.1 hin (mm_ty ci) hty hnm ho2 hC.2.2.2.2.2.2.2.2.2.1 hV.1 hV.2.1 hS a (mm_enc_ob ha) hc k hk (hC.2.2.2.2.2.1 _ hlk) (fun x h => h) (hv C T _ hc) (v := .int x) (by rw [hty k hk, ht]) (by rcases hx with rfl | rfl <;> rfl) (by rcases hx with rfl | rfl <;> rfl) (by unfold mm_fs; simpa using hk) hd (fun H1 locs1 hP hD hS1 => ?_)
  rw [mm_ws_ob ha hk hn] at hP hD
  exact kk p e R s m args below meth c H1 locs1 rls n0 rho0 rho kap hC hG ⟨hP, hD, hV.2.2⟩ hS1 hl
/-- a row of ints that is there from the start -/
theorem mm_ialdK {j n : Nat} {f : Nat → Int32} {i : Int32} (hd : decode y.2.1 pc = .ok (.iaload, 1)) (ha : mm_ka g j = some (n, f)) (hin : vp_in i n) (kk : mm_Ex g y d Al Mt S I (pc + 1) ls (.int (f i.toNatClampNeg) :: st) Q) : mm_Ex g y d Al Mt S I pc ls (.int i :: .ref (mm_KB + j) :: st) Q := by
  intro p e R s m args below meth c H locs rls n0 rho0 rho kap hC hG hV hS hl
  have h2 := hC.2.2.2.2.2.2.2.2.2.2.2.1 j n f ha
  show W p g.1 e R s m args below meth c H locs Al.1 Al.2 _ (F0 m pc rls (.int i :: .ref (rho (mm_KB + j)) :: st.map (mm_em rho)))
  rw [hG.2.2.2.1 j]
  exact va_ti hC.1 hC.2.1 h2 hS hin rfl hd (kk p e R s m args below meth c H locs rls n0 rho0 rho kap hC hG hV hS hl)
theorem mm_alenK {j n : Nat} {f : Nat → Int32} (hd : decode y.2.1 pc = .ok (.arraylength, 1)) (ha : mm_ka g j = some (n, f)) (kk : mm_Ex g y d Al Mt S I (pc + 1) ls (.int (nI n) :: st) Q) : mm_Ex g y d Al Mt S I pc ls (.ref (mm_KB + j) :: st) Q := by
  intro p e R s m args below meth c H locs rls n0 rho0 rho kap hC hG hV hS hl
  have h2 := hC.2.2.2.2.2.2.2.2.2.2.2.1 j n f ha
  show W p g.1 e R s m args below meth c H locs Al.1 Al.2 _ (F0 m pc rls (.ref (rho (mm_KB + j)) :: st.map (mm_em rho)))
  rw [hG.2.2.2.1 j]
  exact va_tlen hC.1 hC.2.1 h2 hS (v := nI n) rfl hd (kk p e R s m args below meth c H locs rls n0 rho0 rho kap hC hG hV hS hl)
/-- ireturn of an int -/
theorem mm_iret {x : Int32} (hd : decode y.2.1 pc = .ok (.ireturn, 1)) (hr : y.2.2.2 = some .int) (hA : Al.1 ≤ Mt.1 ∧ Al.2 ≤ Mt.2) (hq : Q (some (.int x)) S I) : mm_Ex g y d Al Mt S I pc ls [.int x] Q := by
  intro p e R s m args below meth c H locs rls n0 rho0 rho kap hC hG hV hS hl
  refine W.widen hA.1 hA.2 ?_
  refine W.iret hC.1 hC.2.1 (by rw [hC.2.2.1]; exact hr) (fun t ht hw => ⟨⟨some (.int x), S, I, rho, kap, rfl, hq, hG, ?_⟩, hS.F ht⟩) hS.2.2 hd hC.2.2.2.2.2.2.1
  rw [ht]; exact mm_V_moved hw.alike hV
theorem mm_zret {x : Int32} (hd : decode y.2.1 pc = .ok (.ireturn, 1)) (hr : y.2.2.2 = some .boolean) (hx : x = 0 ∨ x = 1) (hA : Al.1 ≤ Mt.1 ∧ Al.2 ≤ Mt.2) (hq : Q (some (.int x)) S I) : mm_Ex g y d Al Mt S I pc ls [.int x] Q := by
  intro p e R s m args below meth c H locs rls n0 rho0 rho kap hC hG hV hS hl
  refine W.widen hA.1 hA.2 ?_
  refine W.zret (ty := .boolean) hC.1 hC.2.1 (by rw [hC.2.2.1]; exact hr) (by rcases hx with rfl | rfl <;> rfl) (fun t ht hw => ⟨⟨some (.int x), S, I, rho, kap, rfl, hq, hG, ?_⟩, hS.F ht⟩) hS.2.2 hd hC.2.2.2.2.2.2.1
  rw [ht]; exact mm_V_moved hw.alike hV
theorem mm_vret (hd : decode y.2.1 pc = .ok (.return_, 1)) (hr : y.2.2.2 = none) (hA : Al.1 ≤ Mt.1 ∧ Al.2 ≤ Mt.2) (hq : Q none S I) : mm_Ex g y d Al Mt S I pc ls [] Q := by
  intro p e R s m args below meth c H locs rls n0 rho0 rho kap hC hG hV hS hl
  refine W.widen hA.1 hA.2 ?_
  refine W.vret hC.1 hC.2.1 (by rw [hC.2.2.1]; exact hr) (fun t ht hw => ⟨⟨none, S, I, rho, kap, rfl, hq, hG, ?_⟩, hS.F ht⟩) hS.2.2 hd hC.2.2.2.2.2.2.1
  rw [ht]; exact mm_V_moved hw.alike hV
theorem mm_aret {v : Value} {rt : FieldType} (hd : decode y.2.1 pc = .ok (.areturn, 1)) (hr : y.2.2.2 = some rt) (hrt : (∃ n, rt = .object n) ∨ ∃ t, rt = .array t) (hv : v = .null ∨ ∃ a, v = .ref a) (hA : Al.1 ≤ Mt.1 ∧ Al.2 ≤ Mt.2) (hq : Q (some v) S I) : mm_Ex g y d Al Mt S I pc ls [v] Q := by
  intro p e R s m args below meth c H locs rls n0 rho0 rho kap hC hG hV hS hl
  refine W.widen hA.1 hA.2 ?_
  refine W.aret hC.1 hC.2.1 (by rw [hC.2.2.1]; exact hr) hrt (by rcases hv with rfl | ⟨a, rfl⟩; exact Or.inl rfl; exact Or.inr ⟨_, rfl⟩) (fun t ht hw => ⟨⟨some v, S, I, rho, kap, rfl, hq, hG, ?_⟩, hS.F ht⟩) hS.2.2 hd hC.2.2.2.2.2.2.1
  rw [ht]; exact mm_V_moved hw.alike hV
end mm_rows
