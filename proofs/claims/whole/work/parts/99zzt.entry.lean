/-! AT THE ENTRY: what the small machine asks of classes and constants holds -/
theorem lw_in {l : List Cond} (h : ∀ w ∈ l, w ∈ lw_tbl) {i : Nat} {w : Cond} (hi : l[i]? = some w) : w ∈ lw_tbl := h w (List.mem_of_getElem? hi)
def pm_F : List Cond := flatC (Jvm.Cond.and given_1 narrow_1)
def pm_k : List (String × Nat) := [("DarkBase$Words", 74), ("DarkBase$Words", 82), ("DarkBase$Words", 84), ("DarkBase$Words", 86), ("DarkBase$Words", 88), ("DarkBase$Words", 90), ("DarkBase$Words", 92), ("DarkBase$Words", 94), ("DarkBase$Words", 96), ("DarkBase$Words", 100), ("DarkBase$Words", 102), ("DarkBase$Words", 98), ("DarkBase$Words", 67), ("DarkBaseModel", 177)]
def pm_t (i : Nat) : Term := .string (pm_k.getD i ("", 0)).1 (pm_k.getD i ("", 0)).2
def pm_b : List Nat := [80, 86, 95, 103, 111, 121, 129, 137, 146, 160, 169, 152, 66, 296]
theorem pm_1 : ∀ i, i < 14 → pm_F[pm_b.getD i 0]? = some (Cond.exactly (pm_t i) "java/lang/String") ∧ pm_F[pm_b.getD i 0 + 1]? = some (Cond.eq (.field (pm_t i) "java/lang/String" "coder" "B") (.int 0)) ∧ pm_F[pm_b.getD i 0 + 2]? = some (Cond.arrayOf (.field (pm_t i) "java/lang/String" "value" "[B") .byte) ∧ pm_F[pm_b.getD i 0 + 3]? = some (Cond.eq (.length (.field (pm_t i) "java/lang/String" "value" "[B")) (.int (Int32.ofNat (mm_sx i).length))) := by decide +kernel
theorem pm_2 : ∀ i, i < 14 → ∀ j, j < (mm_sx i).length → pm_F[pm_b.getD i 0 + 4 + j]? = some (Cond.eq (.elem (.field (pm_t i) "java/lang/String" "value" "[B") (.int (Int32.ofNat j))) (.int ((mm_sx i).getD j 0))) := by decide +kernel
theorem pm_3 : ∀ i, i < 14 → (mm_sx i).length < 2 ^ 31 := by decide +kernel
def pm_v (j : Nat) : List Int32 := ([[], [-1, -1, 0, 0, 3], [-1, 0, 1, 0], [1, 0, 0, 0, 0], [24, 24, 9999, 99, 9]] : List (List Int32)).getD j []
def pm_s : List Nat := [0, 5, 29, 13, 21]
theorem pm_4 : ∀ j, j < 4 → pm_F[pm_s.getD (j + 1) 0]? = some (Cond.arrayOf (.static "DarkBase" (mm_sn (j + 1)) "[I") .int) ∧ pm_F[pm_s.getD (j + 1) 0 + 1]? = some (Cond.eq (.length (.static "DarkBase" (mm_sn (j + 1)) "[I")) (.int (Int32.ofNat (pm_v (j + 1)).length))) ∧ (pm_v (j + 1)).length < 2 ^ 31 := by decide +kernel
theorem pm_5 : ∀ j, j < 4 → ∀ k, k < (pm_v (j + 1)).length → pm_F[pm_s.getD (j + 1) 0 + 2 + k]? = some (Cond.eq (.elem (.static "DarkBase" (mm_sn (j + 1)) "[I") (.int (Int32.ofNat k))) (.int ((pm_v (j + 1)).getD k 0))) := by decide +kernel
theorem pm_6 : ∀ j, j < 4 → tables_1_3[[0, 55, 194, 139, 141].getD (j + 1) 0]? = some (Cond.laysStatic "DarkBase" (mm_sn (j + 1)) "[I") := by decide +kernel
theorem pm_7 : pm_F[35]? = some (Cond.eq (.static "java/lang/String" "COMPACT_STRINGS" "Z") (.int 1)) ∧ pm_F[36]? = some (Cond.isRef (.static "jdk/internal/util/Preconditions" "SIOOBE_FORMATTER" "Ljava/util/function/BiFunction;")) := by decide +kernel
theorem pm_e36 : pm_F[185]? = some (Cond.eq (pm_t 0) (.string "DarkBaseModel" 36)) := by decide +kernel
theorem pm_e38 : pm_F[195]? = some (Cond.eq (pm_t 1) (.string "DarkBaseModel" 38)) := by decide +kernel
theorem pm_e40 : pm_F[204]? = some (Cond.eq (pm_t 2) (.string "DarkBaseModel" 40)) := by decide +kernel
theorem pm_e42 : pm_F[213]? = some (Cond.eq (pm_t 3) (.string "DarkBaseModel" 42)) := by decide +kernel
theorem pm_e44 : pm_F[224]? = some (Cond.eq (pm_t 4) (.string "DarkBaseModel" 44)) := by decide +kernel
theorem pm_e46 : pm_F[233]? = some (Cond.eq (pm_t 5) (.string "DarkBaseModel" 46)) := by decide +kernel
theorem pm_e48 : pm_F[242]? = some (Cond.eq (pm_t 6) (.string "DarkBaseModel" 48)) := by decide +kernel
theorem pm_e50 : pm_F[252]? = some (Cond.eq (pm_t 7) (.string "DarkBaseModel" 50)) := by decide +kernel
theorem pm_e52 : pm_F[259]? = some (Cond.eq (pm_t 8) (.string "DarkBaseModel" 52)) := by decide +kernel
theorem pm_e54 : pm_F[269]? = some (Cond.eq (pm_t 9) (.string "DarkBaseModel" 54)) := by decide +kernel
theorem pm_e56 : pm_F[280]? = some (Cond.eq (pm_t 10) (.string "DarkBaseModel" 56)) := by decide +kernel
theorem pm_e185 : pm_F[295]? = some (Cond.eq (pm_t 12) (.string "DarkBaseModel" 185)) := by decide +kernel
theorem pm_e245 : pm_F[317]? = some (Cond.eq (pm_t 11) (.string "DarkBaseModel" 245)) := by decide +kernel
theorem ku_1 {s : State} {args : Array Value} (hts : ∀ w ∈ mm_tb, w.before args s = true) (C : String) (T : u_T) (N : Nat) (hw : ∀ w ∈ u_ws C T N, w ∈ mm_tb) (hi : Cond.instantiable C N ∈ mm_tb) : ∃ x : ClassId × (Nat → Nat), ∀ q : vw_C, some (C, T, N) = some q → u_Kn s q.1 q.2.1 q.2.2 x.1 x.2 := by
  obtain ⟨c, iS, h⟩ := u_known hts hw (hts _ hi)
  exact ⟨(c, iS), fun q hq => by cases hq; exact h⟩
theorem ku_2 {s : State} {args : Array Value} (hts : ∀ w ∈ mm_tb, w.before args s = true) : ∀ k : Nat, ∃ x : ClassId × (Nat → Nat), ∀ q : vw_C, vwCl[k]? = some q → u_Kn s q.1 q.2.1 q.2.2 x.1 x.2
  | 0 => ku_1 hts RX0 TX0 11 mm_wX0 mm_iX0.1
  | 1 => ku_1 hts RX1 TX1 9 mm_wX1 mm_iX1.1
  | 2 => ku_1 hts RX2 TX2 7 mm_wX2 mm_iX2.1
  | 3 => ku_1 hts RX3 TX3 10 mm_wX3 mm_iX3.1
  | 4 => ku_1 hts RX4 TX4 3 mm_wX4 mm_iX4.1
  | 5 => ku_1 hts RX5 TX5 2 mm_wX5 mm_iX5.1
  | 6 => ku_1 hts RX6 TX6 2 mm_wX6 mm_iX6.1
  | 7 => ku_1 hts RX7 TX7 3 mm_wX7 mm_iX7.1
  | 8 => ku_1 hts RX8 TX8 8 mm_wX8 mm_iX8.1
  | 9 => ku_1 hts RX9 TX9 4 mm_wX9 mm_iX9.1
  | 10 => ku_1 hts RX10 TX10 11 mm_wX10 mm_iX10.1
  | 11 => ku_1 hts RX11 TX11 9 mm_wX11 mm_iX11.1
  | 12 => ku_1 hts RX12 TX12 31 mm_wX12 mm_iX12.1
  | k + 13 => ⟨(0, fun _ => 0), fun q h => by
    have h0 : vwCl[k + 13]? = none := List.getElem?_eq_none (Nat.le_add_left 13 k)
    exact absurd (h0.symm.trans h) (by simp)⟩
set_option maxRecDepth 100000 in
set_option maxHeartbeats 4000000 in
theorem lw_K {s : State} {args : Array Value} {b L : Nat} {xs : Nat → Int32} (l : Launch) (hX : va_X b L xs s s.heap) (hbl : b < s.heap.size) (hts : ∀ w ∈ lw_tbl, w.before args s = true) (hgv : (Jvm.Cond.and given_1 narrow_1).before args s = true) : ∃ (D : va_G) (ad : Nat → Nat), ad 0 = b ∧ mm_K (l, s.heap.size, D, ad, L, xs) s := by
  have hs : ∀ c ∈ pm_F, c.before args s = true := flat_of_before _ hgv
  have hp : ∀ {i : Nat} {c : Cond}, pm_F[i]? = some c → c.before args s = true := fun h => hs _ (List.mem_of_getElem? h)
  have htb : ∀ w ∈ mm_tb, w.before args s = true := fun w hw => hts w (List.mem_filter.mp hw).1
  have hA : ∀ a : Nat, a < s.heap.size → ¬ (fun q : Nat => s.heap.size ≤ q) a := fun a h => Nat.not_le.mpr h
  have hstr : ∀ i : Nat, ∃ q : Nat × Nat, i < 14 → (pm_t i).eval args s none [] s = some (.ref q.1) ∧ va_O "java/lang/String" q.1 (fun q : Nat => s.heap.size ≤ q) s s.heap ∧ va_OF "java/lang/String" "coder" "B" (.int 0) q.1 (fun q : Nat => s.heap.size ≤ q) s s.heap ∧ va_OF "java/lang/String" "value" "[B" (.ref q.2) q.1 (fun q : Nat => s.heap.size ≤ q) s s.heap ∧ va_T .byte q.2 (mm_sx i).length (fun j => .int ((mm_sx i).getD j 0)) (fun q : Nat => s.heap.size ≤ q) s s.heap := by
    intro i
    by_cases hi : i < 14
    · obtain ⟨h1, h2, h3, h4⟩ := pm_1 i hi
      obtain ⟨a, c, cA, kA, q1, q2, q3, q4, q5, q6, -⟩ := Cond.exactly_spec (args := args) (first := s) (o := none) (s := s) (idx := []) (t := pm_t i) (cls := "java/lang/String") (hp h1)
      obtain ⟨t, ht, hT⟩ := va_Tof (f := fun j => .int ((mm_sx i).getD j 0)) (A := fun q : Nat => s.heap.size ≤ q) (pm_3 i hi) (hp h3) (va_eqt (hp h4)) (fun j hj => va_eqt (hp (pm_2 i hi j hj))) hA
      exact ⟨(a, t), fun _ => ⟨q1, va_Oof (hp h1) q1 hA, vk_OFof q1 (va_eqt (hp h2)) hA, vk_OFof q1 ht hA, hT⟩⟩
    · exact ⟨(0, 0), fun h => absurd h hi⟩
  obtain ⟨st, hst⟩ := Classical.axiomOfChoice hstr
  have hsta : ∀ j : Nat, ∃ t : Nat, j < 4 → va_Z "DarkBase" (mm_sn (j + 1)) "[I" (.ref t) (fun q : Nat => s.heap.size ≤ q) s s.heap ∧ va_T .int t (pm_v (j + 1)).length (fun k => .int ((pm_v (j + 1)).getD k 0)) (fun q : Nat => s.heap.size ≤ q) s s.heap := by
    intro j
    by_cases hj : j < 4
    · obtain ⟨h1, h2, h3⟩ := pm_4 j hj
      obtain ⟨t, ht, hT⟩ := va_Tof (f := fun k => .int ((pm_v (j + 1)).getD k 0)) (A := fun q : Nat => s.heap.size ≤ q) h3 (hp h1) (va_eqt (hp h2)) (fun k hk => va_eqt (hp (pm_5 j hj k hk))) hA
      exact ⟨t, fun _ => ⟨va_Zref (hts _ (lw_in mm_sg3 (pm_6 j hj))) (hts _ (lw_in mm_sg1 (i := 1) (by decide +kernel))) ht hA, hT⟩⟩
    · exact ⟨0, fun h => absurd h hj⟩
  obtain ⟨sta, hsta⟩ := Classical.axiomOfChoice hsta
  obtain ⟨cx, hcx⟩ := Classical.axiomOfChoice (ku_2 htb)
  have hcs : va_Z "java/lang/String" "COMPACT_STRINGS" "Z" (.int 1) (fun q : Nat => s.heap.size ≤ q) s s.heap := va_Zof (hts _ (lw_in mm_sg4 (i := 36) (by decide +kernel))) (hts _ (lw_in mm_sg1 (i := 15) (by decide +kernel))) (va_eqi (hp pm_7.1)) hA
  obtain ⟨fm, hfm⟩ : ∃ fm : Nat, va_Z "jdk/internal/util/Preconditions" "SIOOBE_FORMATTER" "Ljava/util/function/BiFunction;" .null (fun q : Nat => s.heap.size ≤ q) s s.heap ∨ va_Z "jdk/internal/util/Preconditions" "SIOOBE_FORMATTER" "Ljava/util/function/BiFunction;" (.ref fm) (fun q : Nat => s.heap.size ≤ q) s s.heap := by
    rcases va_Zqof (hts _ (lw_in mm_sg4 (i := 75) (by decide +kernel))) (hts _ (lw_in mm_sg1 (i := 18) (by decide +kernel))) (hp pm_7.2) hA with h | ⟨t, h⟩
    · exact ⟨0, Or.inl h⟩
    · exact ⟨t, Or.inr h⟩
  obtain ⟨ad, hd0, hd1, hd5, hd50, hd70⟩ : ∃ ad : Nat → Nat, ad 0 = b ∧ (∀ j, j < 4 → ad (j + 1) = sta j) ∧ (∀ t, t < 14 → ad (5 + t) = (st t).1) ∧ (∀ t, t < 14 → ad (50 + t) = (st t).2) ∧ ad 70 = fm := by
    refine ⟨fun j => if j = 0 then b else if j ≤ 4 then sta (j - 1) else if j < 19 then (st (j - 5)).1 else if j < 64 then (st (j - 50)).2 else fm, rfl, fun j hj => ?_, fun t ht => ?_, fun t ht => ?_, rfl⟩
    · show (if j + 1 = 0 then b else if j + 1 ≤ 4 then sta (j + 1 - 1) else _) = _
      rw [if_neg (by omega), if_pos (by omega), Nat.add_sub_cancel]
    · show (if 5 + t = 0 then b else if 5 + t ≤ 4 then sta (5 + t - 1) else if 5 + t < 19 then (st (5 + t - 5)).1 else _) = _
      rw [if_neg (by omega), if_neg (by omega), if_pos (by omega), Nat.add_sub_cancel_left]
    · show (if 50 + t = 0 then b else if 50 + t ≤ 4 then sta (50 + t - 1) else if 50 + t < 19 then (st (50 + t - 5)).1 else if 50 + t < 64 then (st (50 + t - 50)).2 else _) = _
      rw [if_neg (by omega), if_neg (by omega), if_neg (by omega), if_pos (by omega), Nat.add_sub_cancel_left]
  have E1 : ∀ t, t < 14 → (pm_t t).eval args s none [] s = some (.ref (ad (5 + t))) := fun t ht => by rw [hd5 t ht]; exact (hst t ht).1
  refine ⟨(fun k => (cx k).1, fun k => (cx k).2), ad, hd0, ⟨fun k q hq => hcx k q hq, fun k q h => by simp at h⟩, Nat.le_refl _, ?_, ?_, ⟨?_, ?_, hcs, ?_⟩, ?_, ?_, ?_⟩
  · intro j n f hj
    match j, hj with
    | 0, hj =>
      cases hj
      obtain ⟨scr, h1, h2, h3, h4, h5⟩ := hX
      show va_T .int (ad 0) L (fun k => .int (xs k)) (fun q : Nat => s.heap.size ≤ q) s s.heap
      rw [hd0]
      exact ⟨scr, h1, h2, h3, Nat.le_of_eq h4.symm, by rw [h4] <;> rfl, h5, Nat.not_le.mpr hbl⟩
    | 1, hj => cases hj; have h := (hsta 0 (by decide)).2; rw [← hd1 0 (by decide)] at h; exact h
    | 2, hj => cases hj; have h := (hsta 1 (by decide)).2; rw [← hd1 1 (by decide)] at h; exact h
    | 3, hj => cases hj; have h := (hsta 2 (by decide)).2; rw [← hd1 2 (by decide)] at h; exact h
    | 4, hj => cases hj; have h := (hsta 3 (by decide)).2; rw [← hd1 3 (by decide)] at h; exact h
    | j + 5, hj => cases hj
  · intro j h1 h4
    obtain ⟨i, rfl⟩ : ∃ i, j = i + 1 := ⟨j - 1, by omega⟩
    have h := (hsta i (by omega)).1
    rw [← hd1 i (by omega)] at h
    exact h
  · intro t ht
    have h := (hst t ht).2
    rw [← hd5 t ht, ← hd50 t ht] at h
    exact h
  · show ∀ q ∈ mm_sr, vk_R q.1 q.2.1 q.2.2.1 (ad (5 + q.2.2.2)) s
    unfold mm_sr
    refine List.forall_mem_cons.mpr ⟨?_, List.forall_mem_cons.mpr ⟨?_, List.forall_mem_cons.mpr ⟨?_, List.forall_mem_cons.mpr ⟨?_, List.forall_mem_cons.mpr ⟨?_, List.forall_mem_cons.mpr ⟨?_, List.forall_mem_cons.mpr ⟨?_, List.forall_mem_cons.mpr ⟨?_, List.forall_mem_cons.mpr ⟨?_, List.forall_mem_cons.mpr ⟨?_, List.forall_mem_cons.mpr ⟨?_, List.forall_mem_cons.mpr ⟨?_, List.forall_mem_cons.mpr ⟨?_, List.forall_mem_cons.mpr ⟨?_, List.forall_mem_cons.mpr ⟨?_, List.forall_mem_cons.mpr ⟨?_, List.forall_mem_cons.mpr ⟨?_, List.forall_mem_cons.mpr ⟨?_, List.forall_mem_cons.mpr ⟨?_, List.forall_mem_cons.mpr ⟨?_, List.forall_mem_cons.mpr ⟨?_, List.forall_mem_cons.mpr ⟨?_, List.forall_mem_cons.mpr ⟨?_, List.forall_mem_cons.mpr ⟨?_, List.forall_mem_cons.mpr ⟨?_, List.forall_mem_cons.mpr ⟨?_, List.forall_mem_cons.mpr ⟨?_, fun _ h => absurd h List.not_mem_nil⟩⟩⟩⟩⟩⟩⟩⟩⟩⟩⟩⟩⟩⟩⟩⟩⟩⟩⟩⟩⟩⟩⟩⟩⟩⟩⟩
    · exact vk_R.of (hts _ (lw_in mm_sg4 (i := 22) (by decide +kernel))) (E1 12 (by decide))
    · exact vk_R.of (hts _ (lw_in mm_sg4 (i := 105) (by decide +kernel))) (E1 0 (by decide))
    · exact vk_R.of (hts _ (lw_in mm_sg4 (i := 131) (by decide +kernel))) (E1 1 (by decide))
    · exact vk_R.of (hts _ (lw_in mm_sg4 (i := 132) (by decide +kernel))) (E1 2 (by decide))
    · exact vk_R.of (hts _ (lw_in mm_sg4 (i := 133) (by decide +kernel))) (E1 3 (by decide))
    · exact vk_R.of (hts _ (lw_in mm_sg4 (i := 134) (by decide +kernel))) (E1 4 (by decide))
    · exact vk_R.of (hts _ (lw_in mm_sg4 (i := 135) (by decide +kernel))) (E1 5 (by decide))
    · exact vk_R.of (hts _ (lw_in mm_sg4 (i := 136) (by decide +kernel))) (E1 6 (by decide))
    · exact vk_R.of (hts _ (lw_in mm_sg4 (i := 137) (by decide +kernel))) (E1 7 (by decide))
    · exact vk_R.of (hts _ (lw_in mm_sg4 (i := 138) (by decide +kernel))) (E1 8 (by decide))
    · exact vk_R.of (hts _ (lw_in mm_sg4 (i := 139) (by decide +kernel))) (E1 11 (by decide))
    · exact vk_R.of (hts _ (lw_in mm_sg4 (i := 140) (by decide +kernel))) (E1 9 (by decide))
    · exact vk_R.of (hts _ (lw_in mm_sg4 (i := 141) (by decide +kernel))) (E1 10 (by decide))
    · exact vk_R.of (hts _ (lw_in mm_sg6 (i := 198) (by decide +kernel))) (va_eqR (hp pm_e36) (E1 0 (by decide)))
    · exact vk_R.of (hts _ (lw_in mm_sg6 (i := 199) (by decide +kernel))) (va_eqR (hp pm_e38) (E1 1 (by decide)))
    · exact vk_R.of (hts _ (lw_in mm_sg6 (i := 200) (by decide +kernel))) (va_eqR (hp pm_e40) (E1 2 (by decide)))
    · exact vk_R.of (hts _ (lw_in mm_sg6 (i := 201) (by decide +kernel))) (va_eqR (hp pm_e42) (E1 3 (by decide)))
    · exact vk_R.of (hts _ (lw_in mm_sg6 (i := 202) (by decide +kernel))) (va_eqR (hp pm_e44) (E1 4 (by decide)))
    · exact vk_R.of (hts _ (lw_in mm_sg6 (i := 203) (by decide +kernel))) (va_eqR (hp pm_e46) (E1 5 (by decide)))
    · exact vk_R.of (hts _ (lw_in mm_sg6 (i := 204) (by decide +kernel))) (va_eqR (hp pm_e48) (E1 6 (by decide)))
    · exact vk_R.of (hts _ (lw_in mm_sg6 (i := 205) (by decide +kernel))) (va_eqR (hp pm_e50) (E1 7 (by decide)))
    · exact vk_R.of (hts _ (lw_in mm_sg6 (i := 206) (by decide +kernel))) (va_eqR (hp pm_e52) (E1 8 (by decide)))
    · exact vk_R.of (hts _ (lw_in mm_sg6 (i := 207) (by decide +kernel))) (va_eqR (hp pm_e54) (E1 9 (by decide)))
    · exact vk_R.of (hts _ (lw_in mm_sg6 (i := 208) (by decide +kernel))) (va_eqR (hp pm_e56) (E1 10 (by decide)))
    · exact vk_R.of (hts _ (lw_in mm_sg8 (i := 32) (by decide +kernel))) (va_eqR (hp pm_e185) (E1 12 (by decide)))
    · exact vk_R.of (hts _ (lw_in mm_sg8 (i := 46) (by decide +kernel))) (E1 13 (by decide))
    · exact vk_R.of (hts _ (lw_in mm_sg8 (i := 51) (by decide +kernel))) (va_eqR (hp pm_e245) (E1 11 (by decide)))
  · show va_Z "jdk/internal/util/Preconditions" "SIOOBE_FORMATTER" "Ljava/util/function/BiFunction;" .null (fun q : Nat => s.heap.size ≤ q) s s.heap ∨ va_Z "jdk/internal/util/Preconditions" "SIOOBE_FORMATTER" "Ljava/util/function/BiFunction;" (.ref (ad 70)) (fun q : Nat => s.heap.size ≤ q) s s.heap
    rw [hd70]; exact hfm
  · unfold mm_nm
    refine List.forall_mem_cons.mpr ⟨?_, List.forall_mem_cons.mpr ⟨?_, List.forall_mem_cons.mpr ⟨?_, fun _ h => absurd h List.not_mem_nil⟩⟩⟩
    · exact va_Nw.of rfl (hts _ (lw_in mm_sg3 (i := 57) (by decide +kernel)))
    · exact va_Nw.of rfl (hts _ (lw_in mm_sg3 (i := 195) (by decide +kernel)))
    · exact va_Nw.of rfl (hts _ (lw_in mm_sg5 (i := 129) (by decide +kernel)))
  · unfold mm_nf
    refine List.forall_mem_cons.mpr ⟨?_, List.forall_mem_cons.mpr ⟨?_, fun _ h => absurd h List.not_mem_nil⟩⟩
    · exact va_Nw.of rfl (hts _ (lw_in mm_sg3 (i := 54) (by decide +kernel)))
    · exact va_Nw.of rfl (hts _ (lw_in mm_sg3 (i := 193) (by decide +kernel)))
  · refine List.forall_mem_cons.mpr ⟨?_, List.forall_mem_cons.mpr ⟨?_, List.forall_mem_cons.mpr ⟨?_, fun _ h => absurd h List.not_mem_nil⟩⟩⟩
    · exact va_AO.of (hts _ (lw_in mm_sg1 (i := 221) (by decide +kernel)))
    · exact va_AO.of (hts _ (lw_in mm_sg2 (i := 46) (by decide +kernel)))
    · exact va_AO.of (hts _ (lw_in mm_sg6 (i := 197) (by decide +kernel)))
