/-! THE CONSTRUCTORS: the shape as it grows (cells so far, references so far) -/
def rfL : List (Nat × Nat × Nat) := [(3, 0, 4), (2, 2, 3), (5, 0, 6), (2, 3, 5), (7, 0, 8), (2, 4, 7), (9, 0, 10), (2, 5, 9), (11, 0, 12), (2, 6, 11), (13, 0, 14), (2, 9, 13), (15, 0, 16), (2, 10, 15), (1, 0, 2), (18, 0, 19), (17, 8, 18), (20, 0, 21), (17, 9, 20), (1, 1, 17), (23, 0, 24), (22, 0, 23), (25, 0, 26), (22, 1, 25), (27, 0, 28), (22, 2, 27), (29, 0, 30), (22, 3, 29), (31, 0, 32), (22, 4, 31), (33, 0, 34), (22, 5, 33), (1, 2, 22), (1, 3, 35), (37, 0, 38), (36, 8, 37), (35, 0, 36), (40, 0, 41), (39, 8, 40), (35, 1, 39), (43, 0, 44), (42, 8, 43), (35, 2, 42), (46, 0, 47), (45, 8, 46), (35, 3, 45), (49, 0, 50), (48, 8, 49), (35, 4, 48), (1, 5, 51), (53, 0, 54), (52, 0, 53), (55, 0, 56), (52, 1, 55), (51, 0, 52), (58, 0, 59), (57, 0, 58), (60, 0, 61), (57, 1, 60), (51, 1, 57), (63, 0, 64), (62, 0, 63), (65, 0, 66), (62, 1, 65), (51, 2, 62), (68, 0, 69), (67, 0, 68), (70, 0, 71), (67, 1, 70), (51, 3, 67), (73, 0, 74), (72, 0, 73), (75, 0, 76), (72, 1, 75), (51, 4, 72), (78, 0, 79), (77, 0, 78), (80, 0, 81), (77, 1, 80), (51, 5, 77), (82, 0, 83), (1, 6, 82), (84, 0, 85), (1, 7, 84), (0, 0, 1), (88, 0, 89), (87, 2, 88), (90, 0, 91), (87, 3, 90), (92, 0, 93), (87, 4, 92), (94, 0, 95), (87, 5, 94), (96, 0, 97), (87, 6, 96), (98, 0, 99), (87, 9, 98), (100, 0, 101), (87, 10, 100), (86, 0, 87), (103, 0, 104), (102, 8, 103), (105, 0, 106), (102, 9, 105), (86, 1, 102), (108, 0, 109), (107, 0, 108), (110, 0, 111), (107, 1, 110), (112, 0, 113), (107, 2, 112), (114, 0, 115), (107, 3, 114), (116, 0, 117), (107, 4, 116), (118, 0, 119), (107, 5, 118), (86, 2, 107), (86, 3, 120), (122, 0, 123), (121, 8, 122), (120, 0, 121), (125, 0, 126), (124, 8, 125), (120, 1, 124), (128, 0, 129), (127, 8, 128), (120, 2, 127), (131, 0, 132), (130, 8, 131), (120, 3, 130), (134, 0, 135), (133, 8, 134), (120, 4, 133), (86, 5, 136), (138, 0, 139), (137, 0, 138), (140, 0, 141), (137, 1, 140), (136, 0, 137), (143, 0, 144), (142, 0, 143), (145, 0, 146), (142, 1, 145), (136, 1, 142), (148, 0, 149), (147, 0, 148), (150, 0, 151), (147, 1, 150), (136, 2, 147), (153, 0, 154), (152, 0, 153), (155, 0, 156), (152, 1, 155), (136, 3, 152), (158, 0, 159), (157, 0, 158), (160, 0, 161), (157, 1, 160), (136, 4, 157), (163, 0, 164), (162, 0, 163), (165, 0, 166), (162, 1, 165), (136, 5, 162), (167, 0, 168), (86, 6, 167), (169, 0, 170), (86, 7, 169), (0, 1, 86), (171, 0, 1), (172, 0, 173), (171, 1, 172), (0, 3, 171), (174, 0, 175), (0, 4, 174), (177, 0, 174), (178, 0, 179), (177, 1, 178), (180, 0, 181), (177, 2, 180), (182, 0, 183), (177, 3, 182), (176, 0, 177), (185, 0, 186), (184, 0, 185), (187, 0, 188), (184, 1, 187), (176, 1, 184), (189, 0, 190), (176, 2, 189), (0, 5, 176), (191, 0, 192), (0, 6, 191), (193, 0, 194), (0, 7, 193), (196, 0, 197), (195, 0, 196), (198, 0, 199), (195, 1, 198), (0, 8, 195), (200, 0, 201), (200, 1, 202), (200, 3, 203), (200, 6, 204), (200, 7, 205), (200, 8, 206), (200, 9, 207), (200, 10, 208), (209, 0, 100005), (209, 1, 100006), (209, 2, 100007), (209, 3, 100008), (209, 4, 100009), (209, 5, 100010), (209, 6, 100011), (209, 7, 100012), (209, 8, 100013), (209, 9, 100014), (209, 10, 100015), (200, 19, 209), (200, 20, 210), (200, 24, 211), (200, 25, 212), (200, 30, 213)]
def rfF (t a k : Nat) : Option Nat := ((rfL.take t).find? (fun e => e.1 == a && e.2.1 == k)).map (fun e => e.2.2)
def shT (n t : Nat) : mm_Sh := (n, sh_S.2.1, rfF t)
theorem al_T {n t n' : Nat} {u : mm_Tag} (h : n + 1 = n') (hs : sh_S.2.1 n = u) (hr : (rfL.take t).all (fun e => !(e.1 == n)) = true) : mm_al (shT n t) u = shT n' t := by
  subst h
  refine Prod.ext rfl (Prod.ext (funext fun a => ?_) (funext fun a => funext fun k => ?_))
  · show (if a = n then u else sh_S.2.1 a) = sh_S.2.1 a
    by_cases z : a = n
    · rw [if_pos z, z]; exact hs.symm
    · rw [if_neg z]
  · show (if a = n then none else rfF t a k) = rfF t a k
    by_cases z : a = n
    · subst z
      rw [if_pos rfl]
      have q0 : (rfL.take t).find? (fun e => e.1 == a && e.2.1 == k) = none := List.find?_eq_none.mpr (fun e he hh => by
        have q := List.all_eq_true.mp hr e he
        have h1 := (Bool.and_eq_true_iff.mp hh).1
        rw [h1] at q
        exact absurd q (by decide))
      unfold rfF
      rw [q0]; rfl
    · rw [if_neg z]
theorem pr_T {n t t' a k b : Nat} (h : t + 1 = t') (he : rfL[t]? = some (a, k, b)) (hr : (rfL.take t).all (fun e => !(e.1 == a && e.2.1 == k)) = true) : mm_pr (shT n t) a k b = shT n t' := by
  subst h
  refine Prod.ext rfl (Prod.ext rfl (funext fun c => funext fun j => ?_))
  have ht : rfL.take (t + 1) = rfL.take t ++ [(a, k, b)] := by rw [List.take_succ, he]; rfl
  show (if c = a then (if j = k then some b else rfF t a j) else rfF t c j) = rfF (t + 1) c j
  have e1 : ∀ c j, ¬ (a = c ∧ k = j) → rfF (t + 1) c j = rfF t c j := fun c j hn => by
    have q0 : ([(a, k, b)] : List (Nat × Nat × Nat)).find? (fun e => e.1 == c && e.2.1 == j) = none := List.find?_eq_none.mpr (fun e he hh => by
      have := List.mem_singleton.mp he
      subst this
      have h1 := Bool.and_eq_true_iff.mp hh
      exact hn ⟨beq_iff_eq.mp h1.1, beq_iff_eq.mp h1.2⟩)
    unfold rfF
    rw [ht, List.find?_append, q0, Option.or_none]
  by_cases z : c = a
  · subst z
    rw [if_pos rfl]
    by_cases z2 : j = k
    · subst z2
      rw [if_pos rfl]
      have q0 : (rfL.take t).find? (fun e => e.1 == c && e.2.1 == j) = none := List.find?_eq_none.mpr (fun e he hh => by
        have q := List.all_eq_true.mp hr e he
        rw [hh] at q; exact absurd q (by decide))
      unfold rfF
      rw [ht, List.find?_append, q0]
      simp
    · rw [if_neg z2]; exact (e1 c j (fun q => z2 q.2.symm)).symm
  · rw [if_neg z]; exact (e1 c j (fun q => z q.1.symm)).symm
theorem al0_T {n t : Nat} {I : mm_I} (h : ∀ k, I n k = 0) : mm_al0 (shT n t) I = I := by
  funext a k
  show (if a = n then 0 else I a k) = I a k
  by_cases z : a = n
  · rw [if_pos z, z, h]
  · rw [if_neg z]
theorem mm_up_id {I : mm_I} {a k : Nat} {v : Int32} (h : I a k = v) : mm_up I a k v = I := by
  funext b j
  unfold mm_up
  by_cases z : b = a
  · rw [if_pos z]
    by_cases z2 : j = k
    · rw [if_pos z2, z, z2, h]
    · rw [if_neg z2, z]
  · rw [if_neg z]
theorem mm_up_nx {I : mm_I} {a i b j : Nat} {x : Int32} (h : ¬ (b = a ∧ j = i)) : mm_up I a i x b j = I b j := by
  unfold mm_up
  by_cases z : b = a
  · rw [if_pos z, if_neg (fun q => h ⟨z, q⟩), z]
  · rw [if_neg z]
def clB (n : Nat) (v : Value) : Bool := match v with
  | .ref a => decide (a < n) || decide (mm_KB ≤ a)
  | _ => true
theorem clA {n : Nat} {l : List Value} (h : l.all (clB n) = true) : ∀ v ∈ l, mm_cl n v := fun v hv a ha => by
  have q := List.all_eq_true.mp h v hv
  subst ha
  exact (Bool.or_eq_true_iff.mp q).imp of_decide_eq_true of_decide_eq_true
theorem clL {n : Nat} {ls : List (Nat × Value)} (h : ls.all (fun q => clB n q.2) = true) : ∀ q ∈ ls, mm_cl n q.2 := fun v hv a ha => by
  have q := List.all_eq_true.mp h v hv
  rw [ha] at q
  exact (Bool.or_eq_true_iff.mp q).imp of_decide_eq_true of_decide_eq_true
section iniT
variable {g : mm_G} {y : mm_M} {d : Nat} {Al Al' Mt : Nat × Nat} {S : mm_Sh} {I : mm_I} {pc : Nat} {ls : List (Nat × Value)} {st : List Value} {Q : Option Value → mm_Sh → mm_I → Prop}
theorem mm_as {st' : List Value} (h : st = st') (k : mm_Ex g y d Al Mt S I pc ls st' Q) : mm_Ex g y d Al Mt S I pc ls st Q := by subst h; exact k
theorem mm_newT {index ci n n' t : Nat} {own C : String} {T : u_T} (hd : decode y.2.1 pc = .ok (.new index, 3)) (ho : y.1.cls = own) (hc : vwCl[ci]? = some (C, T, mm_N ci)) (hin : ∀ w ∈ u_ws C T (mm_N ci), w ∈ mm_tb) (hty : ∀ j, j < mm_N ci → parseFieldDescriptor (T j).2.2.1 = some (mm_ty ci j)) (hlk : Cond.classLink own index C ∈ mm_tb) (hi : Cond.instantiable C (mm_N ci) ∈ mm_tb ∧ Cond.initialized C ∈ mm_tb) (hdf : ∀ j, j < mm_N ci → defaultValue (mm_ty ci j) = if mm_nu ci j then .int 0 else .null)
    (hn : n < mm_KB) (hA : Al.1 + 1 ≤ Mt.1 ∧ Al.2 + mm_N ci ≤ Mt.2) (h1 : st.all (clB n) = true) (h2 : ls.all (fun q => clB n q.2) = true) (hs : sh_S.2.1 n = .inl ci) (hr : (rfL.take t).all (fun e => !(e.1 == n)) = true) (hz : ∀ k, I n k = 0) (hn' : n + 1 = n') (hAl : (Al.1 + 1, Al.2 + mm_N ci) = Al')
    (kk : mm_Ex g y d Al' Mt (shT n' t) I (pc + 3) ls (.ref n :: st) Q) : mm_Ex g y d Al Mt (shT n t) I pc ls st Q :=
  mm_new (S := shT n t) hd ho hc hin hty hlk hi hdf hn hA (clA h1) (clL h2) (by rw [al_T hn' hs hr, al0_T hz, hAl]; exact kk)
theorem mm_newaT {n n' m t : Nat} (hd : decode y.2.1 pc = .ok (.newarray .int, 2)) (hw : Cond.arrayClass .int ∈ mm_tb) (hm : m < 100000) (hn : n < mm_KB) (hA : Al.1 + 1 ≤ Mt.1 ∧ Al.2 + m ≤ Mt.2) (h1 : st.all (clB n) = true) (h2 : ls.all (fun q => clB n q.2) = true) (hs : sh_S.2.1 n = .inr (.inl m)) (hr : (rfL.take t).all (fun e => !(e.1 == n)) = true) (hz : ∀ k, I n k = 0) (hn' : n + 1 = n') (hAl : (Al.1 + 1, Al.2 + m) = Al')
    (kk : mm_Ex g y d Al' Mt (shT n' t) I (pc + 2) ls (.ref n :: st) Q) : mm_Ex g y d Al Mt (shT n t) I pc ls (.int (nI m) :: st) Q :=
  mm_newa (S := shT n t) hd hw hm hn hA (clA h1) (clL h2) (by rw [al_T hn' hs hr, al0_T hz, hAl]; exact kk)
theorem mm_newqT {n n' m index q t : Nat} {own : String} (hd : decode y.2.1 pc = .ok (.anewarray index, 3)) (ho : y.1.cls = own) (hq : q ∈ [1, 4, 13]) (hlk : Cond.classLink own index (mm_cn q) ∈ mm_tb) (hm : m < 100000) (hn : n < mm_KB) (hA : Al.1 + 1 ≤ Mt.1 ∧ Al.2 + m ≤ Mt.2) (h1 : st.all (clB n) = true) (h2 : ls.all (fun q => clB n q.2) = true) (hs : sh_S.2.1 n = .inr (.inr (q, m))) (hr : (rfL.take t).all (fun e => !(e.1 == n)) = true) (hz : ∀ k, I n k = 0) (hn' : n + 1 = n') (hAl : (Al.1 + 1, Al.2 + m) = Al')
    (kk : mm_Ex g y d Al' Mt (shT n' t) I (pc + 3) ls (.ref n :: st) Q) : mm_Ex g y d Al Mt (shT n t) I pc ls (.int (nI m) :: st) Q :=
  mm_newq (S := shT n t) hd ho hq hlk hm hn hA (clA h1) (clL h2) (by rw [al_T hn' hs hr, al0_T hz, hAl]; exact kk)
theorem mm_putrT {a ci k index b n t t' : Nat} {own : String} (hd : decode y.2.1 pc = .ok (.putfield index, 3)) (ho : y.1.cls = own) (hy : y.1.name = "<init>") (hF : mm_F own index ci k) (hfin : ∀ C T N, vwCl[ci]? = some (C, T, N) → (T k).2.2.2 = true ∧ (T k).1 = own) (hn : mm_nu ci k = false) (ha : mm_ob (shT n t) a ci) (hb : b < n ∨ mm_KB ≤ b) (he : rfL[t]? = some (a, k, b)) (hr : (rfL.take t).all (fun e => !(e.1 == a && e.2.1 == k)) = true) (ht : t + 1 = t') (kk : mm_Ex g y d Al Mt (shT n t') I (pc + 3) ls st Q) : mm_Ex g y d Al Mt (shT n t) I pc ls (.ref b :: .ref a :: st) Q :=
  mm_putr hd ho hy hF hfin hn ha hb (by rw [pr_T ht he hr]; exact kk)
theorem mm_aastT {a q m b n t t' : Nat} {i : Nat} (hd : decode y.2.1 pc = .ok (.aastore, 1)) (ha : mm_ra (shT n t) a q m) (hi : i < m ∧ m < 1000) (hb : mm_ob (shT n t) b q ∧ ∃ T N, vwCl[q]? = some (mm_cn q, T, N)) (he : rfL[t]? = some (a, i, b)) (hr : (rfL.take t).all (fun e => !(e.1 == a && e.2.1 == i)) = true) (ht : t + 1 = t') (kk : mm_Ex g y d Al Mt (shT n t') I (pc + 1) ls st Q) : mm_Ex g y d Al Mt (shT n t) I pc ls (.ref b :: .int (nI i) :: .ref a :: st) Q :=
  mm_aast hd ha (by
    intro h
    rcases h with h | h
    · exact nI_pos (by omega) h
    · rw [nI_clamp (by omega)] at h; omega) (Or.inl hb) (by rw [nI_clamp (by omega), pr_T ht he hr]; exact kk)
theorem mm_aastS {a m b n t t' t0 : Nat} {i : Nat} (hd : decode y.2.1 pc = .ok (.aastore, 1)) (ha : mm_ra (shT n t) a 13 m) (hi : i < m ∧ m < 1000) (hb : t0 < 14 ∧ b = mm_KB + (5 + t0)) (he : rfL[t]? = some (a, i, b)) (hr : (rfL.take t).all (fun e => !(e.1 == a && e.2.1 == i)) = true) (ht : t + 1 = t') (kk : mm_Ex g y d Al Mt (shT n t') I (pc + 1) ls st Q) : mm_Ex g y d Al Mt (shT n t) I pc ls (.ref b :: .int (nI i) :: .ref a :: st) Q :=
  mm_aast hd ha (by
    intro h
    rcases h with h | h
    · exact nI_pos (by omega) h
    · rw [nI_clamp (by omega)] at h; omega) (Or.inr ⟨rfl, t0, hb.1, hb.2⟩) (by rw [nI_clamp (by omega), pr_T ht he hr]; exact kk)
theorem mm_callI0 {index dz a : Nat} {own : String} {z : mm_M} {Mz : Nat × Nat} {S2 : mm_Sh} {J : mm_I} (hd : decode y.2.1 pc = .ok (.invokespecial index, 3)) (ho : y.1.cls = own) (hz : mm_Mz z 0) (hlk : Cond.methodLink own index z.1 ∈ mm_tb) (hin : Cond.instanceMethod z.1 ∈ mm_tb) (hin2 : z.1.name = "<init>" ∧ z.2.2.2 = none) (hdz : dz + 1 ≤ d)
    (hCt : mm_Ct g z dz Mz [.ref a] S I (fun r S' I' => r = none ∧ S' = S2 ∧ I' = J)) (hrs : (st.map fun v => v.category).sum ≤ 8) (hA : Al.1 + Mz.1 ≤ Mt.1 ∧ Al.2 + Mz.2 ≤ Mt.2) (h1 : st.all (clB S.1) = true) (h2 : ls.all (fun q => clB S.1 q.2) = true) (hAl : (Al.1 + Mz.1, Al.2 + Mz.2) = Al')
    (kk : mm_Ex g y d Al' Mt S2 J (pc + 3) ls st Q) : mm_Ex g y d Al Mt S I pc ls (.ref a :: st) Q :=
  mm_callI (As := []) hd ho hz hlk hin hin2 rfl hdz hCt hrs hA (Or.inr ⟨clA h1, clL h2⟩) (fun r S' I' h => by obtain ⟨rfl, rfl, rfl⟩ := h; rw [hAl]; exact kk)
theorem mm_callI1 {index dz a : Nat} {own : String} {z : mm_M} {Mz : Nat × Nat} {S2 : mm_Sh} {J : mm_I} {v1 : Value} (hd : decode y.2.1 pc = .ok (.invokespecial index, 3)) (ho : y.1.cls = own) (hz : mm_Mz z 1) (hlk : Cond.methodLink own index z.1 ∈ mm_tb) (hin : Cond.instanceMethod z.1 ∈ mm_tb) (hin2 : z.1.name = "<init>" ∧ z.2.2.2 = none) (hdz : dz + 1 ≤ d)
    (hCt : mm_Ct g z dz Mz [.ref a, v1] S I (fun r S' I' => r = none ∧ S' = S2 ∧ I' = J)) (hrs : (st.map fun v => v.category).sum ≤ 8) (hA : Al.1 + Mz.1 ≤ Mt.1 ∧ Al.2 + Mz.2 ≤ Mt.2) (h1 : st.all (clB S.1) = true) (h2 : ls.all (fun q => clB S.1 q.2) = true) (hAl : (Al.1 + Mz.1, Al.2 + Mz.2) = Al')
    (kk : mm_Ex g y d Al' Mt S2 J (pc + 3) ls st Q) : mm_Ex g y d Al Mt S I pc ls (v1 :: .ref a :: st) Q :=
  mm_callI (As := [v1]) hd ho hz hlk hin hin2 rfl hdz hCt hrs hA (Or.inr ⟨clA h1, clL h2⟩) (fun r S' I' h => by obtain ⟨rfl, rfl, rfl⟩ := h; rw [hAl]; exact kk)
end iniT
set_option maxRecDepth 100000 in
theorem ini_cells {g : mm_G} {d a : Nat} {S : mm_Sh} {I : mm_I} (ha : mm_ob S a 0) (h1 : I a 0 = nI 6) (h2 : I a 1 = nI 4) : mm_Ci g zX0_cells d [.ref a] S I (nI 24) I := by
  refine mm_Ci_of (fun Q hq => ?_)
  refine mm_begin (ls := [(0, .ref a)]) (Nat.le_of_ble_eq_true rfl) rfl rfl ?_
  refine mm_aload_n 0 dX0_cells_0 rfl rfl ?_
  refine mm_geti dX0_cells_1 rfl fk_X0_42 rfl ha ?_
  rw [h1]
  refine mm_aload_n 0 dX0_cells_4 rfl rfl ?_
  refine mm_geti dX0_cells_5 rfl fk_X0_46 rfl ha ?_
  rw [h2]
  refine mm_imulN 6 4 dX0_cells_8 ?_
  refine mm_iret dX0_cells_9 rfl ⟨Nat.le_refl _, Nat.le_refl _⟩ ?_
  exact hq
set_option maxRecDepth 100000 in
theorem ini_X5 {g : mm_G} {d : Nat} {I : mm_I} {a t t' m n1 n2 : Nat} (hd : 2 ≤ d) (hz : ∀ x, a ≤ x → ∀ k, I x k = 0) (hm : m < 1000) (hK : n1 < mm_KB) (e1 : a + 1 = n1) (e2 : n1 + 1 = n2) (e3 : t + 1 = t') (hs : sh_S.2.1 a = .inl 5) (hs2 : sh_S.2.1 n1 = .inr (.inl m)) (hr1 : (rfL.take t).all (fun e => !(e.1 == n1)) = true) (he : rfL[t]? = some (a, 0, n1)) (hr2 : (rfL.take t).all (fun e => !(e.1 == a && e.2.1 == 0)) = true) : mm_Ct g zX5_init d (1, m) [.ref a, .int (nI m)] (shT n1 t) I (fun r S' I' => r = none ∧ S' = shT n2 t' ∧ I' = I) := by
  have hc : clB n1 (.ref a) = true := by
    show (decide (a < n1) || decide (mm_KB ≤ a)) = true
    rw [decide_eq_true (show a < n1 by omega)]; rfl
  have hc2 : clB n1 (.int (nI m)) = true := rfl
  refine mm_begin (ls := [(0, .ref a), (1, .int (nI m))]) (Nat.le_of_ble_eq_true rfl) rfl rfl ?_
  refine mm_aload_n 0 dX5_init_0 rfl rfl ?_
  refine mm_obj dX5_init_1 rfl ml_X5_1 jm_obj (by omega) (Nat.le_of_ble_eq_true rfl) ?_
  refine mm_at (pc' := 4) rfl ?_
  refine mm_aload_n 0 dX5_init_4 rfl rfl ?_
  refine mm_iconst (v := nI 0) dX5_init_5 (by decide) ?_
  refine mm_iload_n 1 dX5_init_6 rfl rfl ?_
  refine mm_maxN 0 m dX5_init_7 rfl ml_X5_7 jm_max (by omega) (by decide) (by omega) (Nat.le_of_ble_eq_true rfl) ⟨Nat.zero_le _, Nat.zero_le _⟩ ?_
  rw [Nat.zero_max]
  refine mm_at (pc' := 10) rfl ?_
  refine mm_newaT (n := n1) (n' := n2) (m := m) (Al' := (1, m)) dX5_init_10 jm_arr (by omega) hK ⟨Nat.le_refl _, by show 0 + m ≤ m; omega⟩ (by simp [hc]) (by simp [hc, hc2]) hs2 hr1 (hz n1 (by omega)) e2 (by simp) ?_
  refine mm_putrT (n := n2) (t := t) (t' := t') dX5_init_12 rfl rfl fk_X5_13 (fun C T N h => by cases h; exact ⟨rfl, rfl⟩) rfl ⟨show a < n2 by omega, hs⟩ (Or.inl (by omega)) he hr2 e3 ?_
  refine mm_aload_n 0 dX5_init_15 rfl rfl ?_
  refine mm_iconst (v := nI 0) dX5_init_16 (by decide) ?_
  refine mm_puti dX5_init_17 rfl fk_X5_19 rfl fv_5_1 ⟨show a < n2 by omega, hs⟩ ?_
  rw [mm_up_id (show I a 1 = nI 0 from hz a (Nat.le_refl _) 1)]
  exact mm_vret dX5_init_20 rfl ⟨Nat.le_refl _, Nat.le_refl _⟩ ⟨rfl, rfl, rfl⟩
