/-! TEXTS: rows for the JDK's String, and its members' contracts over the fourteen texts -/
def zJ0_charAt_5068e : mm_M := (yJ0_charAt_5068e, cJ0_charAt_5068e, 2, some .char)
theorem mzJ0_charAt_5068e : mm_Mz zJ0_charAt_5068e 1 := ⟨mm_inl mm_sg4 (i := 114) (by decide +kernel) (by decide +kernel), mm_inl mm_sg1 (i := 15) (by decide +kernel) (by decide +kernel), by decide +kernel, by decide +kernel, by decide +kernel⟩
theorem imJ0_charAt_5068e : Cond.instanceMethod zJ0_charAt_5068e.1 ∈ mm_tb ∧ Cond.selects zJ0_charAt_5068e.1.cls zJ0_charAt_5068e.1 zJ0_charAt_5068e.1 ∈ mm_tb := ⟨mm_inl mm_sg4 (i := 112) (by decide +kernel) (by decide +kernel), mm_inl mm_sg4 (i := 113) (by decide +kernel) (by decide +kernel)⟩
def zJ0_checkIndex_df160 : mm_M := (yJ0_checkIndex_df160, cJ0_checkIndex_df160, 2, none)
theorem mzJ0_checkIndex_df160 : mm_Mz zJ0_checkIndex_df160 2 := ⟨mm_inl mm_sg4 (i := 120) (by decide +kernel) (by decide +kernel), mm_inl mm_sg1 (i := 15) (by decide +kernel) (by decide +kernel), by decide +kernel, by decide +kernel, by decide +kernel⟩
theorem imJ0_checkIndex_df160 : Cond.static zJ0_checkIndex_df160.1 ∈ mm_tb := mm_inl mm_sg4 (i := 119) (by decide +kernel) (by decide +kernel)
def zJ0_coder_7d493 : mm_M := (yJ0_coder_7d493, cJ0_coder_7d493, 1, some .byte)
theorem mzJ0_coder_7d493 : mm_Mz zJ0_coder_7d493 0 := ⟨mm_inl mm_sg4 (i := 44) (by decide +kernel) (by decide +kernel), mm_inl mm_sg1 (i := 15) (by decide +kernel) (by decide +kernel), by decide +kernel, by decide +kernel, by decide +kernel⟩
theorem imJ0_coder_7d493 : Cond.instanceMethod zJ0_coder_7d493.1 ∈ mm_tb ∧ Cond.selects zJ0_coder_7d493.1.cls zJ0_coder_7d493.1 zJ0_coder_7d493.1 ∈ mm_tb := ⟨mm_inl mm_sg4 (i := 42) (by decide +kernel) (by decide +kernel), mm_inl mm_sg4 (i := 43) (by decide +kernel) (by decide +kernel)⟩
def zJ0_indexOf_0f7a4 : mm_M := (yJ0_indexOf_0f7a4, cJ0_indexOf_0f7a4, 2, some .int)
theorem mzJ0_indexOf_0f7a4 : mm_Mz zJ0_indexOf_0f7a4 1 := ⟨mm_inl mm_sg4 (i := 26) (by decide +kernel) (by decide +kernel), mm_inl mm_sg1 (i := 15) (by decide +kernel) (by decide +kernel), by decide +kernel, by decide +kernel, by decide +kernel⟩
theorem imJ0_indexOf_0f7a4 : Cond.instanceMethod zJ0_indexOf_0f7a4.1 ∈ mm_tb ∧ Cond.selects zJ0_indexOf_0f7a4.1.cls zJ0_indexOf_0f7a4.1 zJ0_indexOf_0f7a4.1 ∈ mm_tb := ⟨mm_inl mm_sg4 (i := 24) (by decide +kernel) (by decide +kernel), mm_inl mm_sg4 (i := 25) (by decide +kernel) (by decide +kernel)⟩
def zJ0_indexOf_7cf53 : mm_M := (yJ0_indexOf_7cf53, cJ0_indexOf_7cf53, 3, some .int)
theorem mzJ0_indexOf_7cf53 : mm_Mz zJ0_indexOf_7cf53 2 := ⟨mm_inl mm_sg4 (i := 30) (by decide +kernel) (by decide +kernel), mm_inl mm_sg1 (i := 15) (by decide +kernel) (by decide +kernel), by decide +kernel, by decide +kernel, by decide +kernel⟩
theorem imJ0_indexOf_7cf53 : Cond.instanceMethod zJ0_indexOf_7cf53.1 ∈ mm_tb ∧ Cond.selects zJ0_indexOf_7cf53.1.cls zJ0_indexOf_7cf53.1 zJ0_indexOf_7cf53.1 ∈ mm_tb := ⟨mm_inl mm_sg4 (i := 28) (by decide +kernel) (by decide +kernel), mm_inl mm_sg4 (i := 29) (by decide +kernel) (by decide +kernel)⟩
def zJ0_isLatin1_aae02 : mm_M := (yJ0_isLatin1_aae02, cJ0_isLatin1_aae02, 1, some .boolean)
theorem mzJ0_isLatin1_aae02 : mm_Mz zJ0_isLatin1_aae02 0 := ⟨mm_inl mm_sg4 (i := 34) (by decide +kernel) (by decide +kernel), mm_inl mm_sg1 (i := 15) (by decide +kernel) (by decide +kernel), by decide +kernel, by decide +kernel, by decide +kernel⟩
theorem imJ0_isLatin1_aae02 : Cond.instanceMethod zJ0_isLatin1_aae02.1 ∈ mm_tb ∧ Cond.selects zJ0_isLatin1_aae02.1.cls zJ0_isLatin1_aae02.1 zJ0_isLatin1_aae02.1 ∈ mm_tb := ⟨mm_inl mm_sg4 (i := 32) (by decide +kernel) (by decide +kernel), mm_inl mm_sg4 (i := 33) (by decide +kernel) (by decide +kernel)⟩
def zJ0_length_8abf5 : mm_M := (yJ0_length_8abf5, cJ0_length_8abf5, 1, some .int)
theorem mzJ0_length_8abf5 : mm_Mz zJ0_length_8abf5 0 := ⟨mm_inl mm_sg4 (i := 40) (by decide +kernel) (by decide +kernel), mm_inl mm_sg1 (i := 15) (by decide +kernel) (by decide +kernel), by decide +kernel, by decide +kernel, by decide +kernel⟩
theorem imJ0_length_8abf5 : Cond.instanceMethod zJ0_length_8abf5.1 ∈ mm_tb ∧ Cond.selects zJ0_length_8abf5.1.cls zJ0_length_8abf5.1 zJ0_length_8abf5.1 ∈ mm_tb := ⟨mm_inl mm_sg4 (i := 38) (by decide +kernel) (by decide +kernel), mm_inl mm_sg4 (i := 39) (by decide +kernel) (by decide +kernel)⟩
def zJ1_canEncode_9a6ad : mm_M := (yJ1_canEncode_9a6ad, cJ1_canEncode_9a6ad, 1, some .boolean)
theorem mzJ1_canEncode_9a6ad : mm_Mz zJ1_canEncode_9a6ad 1 := ⟨mm_inl mm_sg4 (i := 50) (by decide +kernel) (by decide +kernel), mm_inl mm_sg1 (i := 16) (by decide +kernel) (by decide +kernel), by decide +kernel, by decide +kernel, by decide +kernel⟩
theorem imJ1_canEncode_9a6ad : Cond.static zJ1_canEncode_9a6ad.1 ∈ mm_tb := mm_inl mm_sg4 (i := 49) (by decide +kernel) (by decide +kernel)
def zJ1_charAt_3b067 : mm_M := (yJ1_charAt_3b067, cJ1_charAt_3b067, 2, some .char)
theorem mzJ1_charAt_3b067 : mm_Mz zJ1_charAt_3b067 2 := ⟨mm_inl mm_sg4 (i := 117) (by decide +kernel) (by decide +kernel), mm_inl mm_sg1 (i := 16) (by decide +kernel) (by decide +kernel), by decide +kernel, by decide +kernel, by decide +kernel⟩
theorem imJ1_charAt_3b067 : Cond.static zJ1_charAt_3b067.1 ∈ mm_tb := mm_inl mm_sg4 (i := 116) (by decide +kernel) (by decide +kernel)
def zJ1_indexOfChar_4cfef : mm_M := (yJ1_indexOfChar_4cfef, cJ1_indexOfChar_4cfef, 6, some .int)
theorem mzJ1_indexOfChar_4cfef : mm_Mz zJ1_indexOfChar_4cfef 4 := ⟨mm_inl mm_sg4 (i := 55) (by decide +kernel) (by decide +kernel), mm_inl mm_sg1 (i := 16) (by decide +kernel) (by decide +kernel), by decide +kernel, by decide +kernel, by decide +kernel⟩
theorem imJ1_indexOfChar_4cfef : Cond.static zJ1_indexOfChar_4cfef.1 ∈ mm_tb := mm_inl mm_sg4 (i := 54) (by decide +kernel) (by decide +kernel)
def zJ1_indexOf_4cfef : mm_M := (yJ1_indexOf_4cfef, cJ1_indexOf_4cfef, 4, some .int)
theorem mzJ1_indexOf_4cfef : mm_Mz zJ1_indexOf_4cfef 4 := ⟨mm_inl mm_sg4 (i := 47) (by decide +kernel) (by decide +kernel), mm_inl mm_sg1 (i := 16) (by decide +kernel) (by decide +kernel), by decide +kernel, by decide +kernel, by decide +kernel⟩
theorem imJ1_indexOf_4cfef : Cond.static zJ1_indexOf_4cfef.1 ∈ mm_tb := mm_inl mm_sg4 (i := 46) (by decide +kernel) (by decide +kernel)
def zJ3_checkIndex_8e157 : mm_M := (yJ3_checkIndex_8e157, cJ3_checkIndex_8e157, 3, some .int)
theorem mzJ3_checkIndex_8e157 : mm_Mz zJ3_checkIndex_8e157 3 := ⟨mm_inl mm_sg4 (i := 123) (by decide +kernel) (by decide +kernel), mm_inl mm_sg1 (i := 18) (by decide +kernel) (by decide +kernel), by decide +kernel, by decide +kernel, by decide +kernel⟩
theorem imJ3_checkIndex_8e157 : Cond.static zJ3_checkIndex_8e157.1 ∈ mm_tb := mm_inl mm_sg4 (i := 122) (by decide +kernel) (by decide +kernel)
def zJ6_bitCount_0f7a4 : mm_M := (yJ6_bitCount_0f7a4, cJ6_bitCount_0f7a4, 1, some .int)
theorem mzJ6_bitCount_0f7a4 : mm_Mz zJ6_bitCount_0f7a4 1 := ⟨mm_inl mm_sg6 (i := 12) (by decide +kernel) (by decide +kernel), mm_inl mm_sg1 (i := 21) (by decide +kernel) (by decide +kernel), by decide +kernel, by decide +kernel, by decide +kernel⟩
theorem imJ6_bitCount_0f7a4 : Cond.static zJ6_bitCount_0f7a4.1 ∈ mm_tb := mm_inl mm_sg6 (i := 11) (by decide +kernel) (by decide +kernel)
theorem fs_J0_1053 : Cond.fieldLink "java/lang/String" 1053 "jdk/internal/util/Preconditions" "SIOOBE_FORMATTER" "Ljava/util/function/BiFunction;" ∈ mm_tb := mm_inl mm_sg4 (i := 74) (by decide +kernel) (by decide +kernel)
theorem fs_J0_15 : Cond.fieldLink "java/lang/String" 15 "java/lang/String" "coder" "B" ∈ mm_tb := mm_inl mm_sg9 (i := 26) (by decide +kernel) (by decide +kernel)
theorem fs_J0_38 : Cond.fieldLink "java/lang/String" 38 "java/lang/String" "COMPACT_STRINGS" "Z" ∈ mm_tb := mm_inl mm_sg4 (i := 35) (by decide +kernel) (by decide +kernel)
theorem fs_J0_9 : Cond.fieldLink "java/lang/String" 9 "java/lang/String" "value" "[B" ∈ mm_tb := mm_inl mm_sg9 (i := 27) (by decide +kernel) (by decide +kernel)
theorem ml_J0_1059 : Cond.methodLink RJ0 1059 zJ3_checkIndex_8e157.1 ∈ mm_tb := mm_inl mm_sg4 (i := 121) (by decide +kernel) (by decide +kernel)
theorem ml_J0_335 : Cond.methodLink RJ0 335 zJ0_coder_7d493.1 ∈ mm_tb := mm_inl mm_sg4 (i := 41) (by decide +kernel) (by decide +kernel)
theorem ml_J0_492 : Cond.methodLink RJ0 492 zJ0_isLatin1_aae02.1 ∈ mm_tb := mm_inl mm_sg4 (i := 31) (by decide +kernel) (by decide +kernel)
theorem ml_J0_495 : Cond.methodLink RJ0 495 zJ1_charAt_3b067.1 ∈ mm_tb := mm_inl mm_sg4 (i := 115) (by decide +kernel) (by decide +kernel)
theorem ml_J0_505 : Cond.methodLink RJ0 505 zJ0_length_8abf5.1 ∈ mm_tb := mm_inl mm_sg4 (i := 37) (by decide +kernel) (by decide +kernel)
theorem ml_J0_633 : Cond.methodLink RJ0 633 zJ0_indexOf_7cf53.1 ∈ mm_tb := mm_inl mm_sg4 (i := 27) (by decide +kernel) (by decide +kernel)
theorem ml_J0_637 : Cond.methodLink RJ0 637 zJ1_indexOf_4cfef.1 ∈ mm_tb := mm_inl mm_sg4 (i := 45) (by decide +kernel) (by decide +kernel)
theorem ml_J1_38 : Cond.methodLink RJ1 38 Lib.Math.min.name ∈ mm_tb := mm_inl mm_sg4 (i := 52) (by decide +kernel) (by decide +kernel)
theorem ml_J1_88 : Cond.methodLink RJ1 88 zJ1_canEncode_9a6ad.1 ∈ mm_tb := mm_inl mm_sg4 (i := 48) (by decide +kernel) (by decide +kernel)
theorem ml_J1_9 : Cond.methodLink RJ1 9 zJ0_checkIndex_df160.1 ∈ mm_tb := mm_inl mm_sg4 (i := 118) (by decide +kernel) (by decide +kernel)
theorem ml_J1_92 : Cond.methodLink RJ1 92 Lib.Math.max.name ∈ mm_tb := mm_inl mm_sg4 (i := 51) (by decide +kernel) (by decide +kernel)
theorem ml_J1_95 : Cond.methodLink RJ1 95 zJ1_indexOfChar_4cfef.1 ∈ mm_tb := mm_inl mm_sg4 (i := 53) (by decide +kernel) (by decide +kernel)
section mm_strings
variable {g : mm_G} {y : mm_M} {d : Nat} {Al Mt : Nat × Nat} {S : mm_Sh} {I : mm_I} {pc : Nat} {ls : List (Nat × Value)} {st : List Value} {Q : Option Value → mm_Sh → mm_I → Prop}
theorem mm_i2b {x : Int32} (hd : decode y.2.1 pc = .ok (.i2b, 1)) (k : mm_Ex g y d Al Mt S I (pc + 1) ls (.int x.toInt8.toInt32 :: st) Q) : mm_Ex g y d Al Mt S I pc ls (.int x :: st) Q :=
  fun p e R s m args below meth c H locs rls n0 rho0 rho kap hC hG hV hS hl => lv_i2b hC.1 hC.2.1 hd rfl (k p e R s m args below meth c H locs rls n0 rho0 rho kap hC hG hV hS hl)
/-- COMPACT_STRINGS -/
theorem mm_csS {index : Nat} (hd : decode y.2.1 pc = .ok (.getstatic index, 3)) (ho : y.1.cls = "java/lang/String") (hlk : Cond.fieldLink "java/lang/String" index "java/lang/String" "COMPACT_STRINGS" "Z" ∈ mm_tb) (kk : mm_Ex g y d Al Mt S I (pc + 3) ls (.int 1 :: st) Q) : mm_Ex g y d Al Mt S I pc ls st Q := by
  intro p e R s m args below meth c H locs rls n0 rho0 rho kap hC hG hV hS hl
  have ho2 := hC.2.2.2.2.1
  rw [ho] at ho2
  exact va_gets hC.1 hC.2.1 hC.2.2.2.2.2.2.2.2.2.2.2.2.2.1.2.2.1 hS ho2 (hC.2.2.2.2.2.1 _ hlk) (fun x h => h) hd (kk p e R s m args below meth c H locs rls n0 rho0 rho kap hC hG hV hS hl)
theorem mm_fmS {index : Nat} (hd : decode y.2.1 pc = .ok (.getstatic index, 3)) (ho : y.1.cls = "java/lang/String") (hlk : Cond.fieldLink "java/lang/String" index "jdk/internal/util/Preconditions" "SIOOBE_FORMATTER" "Ljava/util/function/BiFunction;" ∈ mm_tb) (k1 : mm_Ex g y d Al Mt S I (pc + 3) ls (.null :: st) Q) (k2 : mm_Ex g y d Al Mt S I (pc + 3) ls (.ref (mm_KB + 70) :: st) Q) : mm_Ex g y d Al Mt S I pc ls st Q := by
  intro p e R s m args below meth c H locs rls n0 rho0 rho kap hC hG hV hS hl
  have ho2 := hC.2.2.2.2.1
  rw [ho] at ho2
  rcases hC.2.2.2.2.2.2.2.2.2.2.2.2.2.1.2.2.2 with hz | hz
  · exact va_gets hC.1 hC.2.1 hz hS ho2 (hC.2.2.2.2.2.1 _ hlk) (fun x h => h) hd (k1 p e R s m args below meth c H locs rls n0 rho0 rho kap hC hG hV hS hl)
  · have h := k2 p e R s m args below meth c H locs rls n0 rho0 rho kap hC hG hV hS hl
    have e1 : (Value.ref (mm_KB + 70) :: st).map (mm_em rho) = .ref (g.2.2.2.1 70) :: st.map (mm_em rho) := by
      show Value.ref (rho (mm_KB + 70)) :: _ = _
      rw [hG.2.2.2.1 70]
    rw [e1] at h
    exact va_gets hC.1 hC.2.1 hz hS ho2 (hC.2.2.2.2.2.1 _ hlk) (fun x h => h) hd h
/-- getfield of a text: its coder, its row of bytes -/
theorem mm_gcS {index t : Nat} (hd : decode y.2.1 pc = .ok (.getfield index, 3)) (ho : y.1.cls = "java/lang/String") (hlk : Cond.fieldLink "java/lang/String" index "java/lang/String" "coder" "B" ∈ mm_tb) (ht : t < 14) (kk : mm_Ex g y d Al Mt S I (pc + 3) ls (.int 0 :: st) Q) : mm_Ex g y d Al Mt S I pc ls (.ref (mm_KB + (5 + t)) :: st) Q := by
  intro p e R s m args below meth c H locs rls n0 rho0 rho kap hC hG hV hS hl
  have ho2 := hC.2.2.2.2.1
  rw [ho] at ho2
  show W p g.1 e R s m args below meth c H locs Al.1 Al.2 _ (F0 m pc rls (.ref (rho (mm_KB + (5 + t))) :: st.map (mm_em rho)))
  rw [hG.2.2.2.1 (5 + t)]
  exact vk_getf hC.1 hC.2.1 (hC.2.2.2.2.2.2.2.2.2.2.2.2.2.1.1 t ht).2.1 hS ho2 (hC.2.2.2.2.2.1 _ hlk) (fun x h => h) hd (kk p e R s m args below meth c H locs rls n0 rho0 rho kap hC hG hV hS hl)
theorem mm_gvS {index t : Nat} (hd : decode y.2.1 pc = .ok (.getfield index, 3)) (ho : y.1.cls = "java/lang/String") (hlk : Cond.fieldLink "java/lang/String" index "java/lang/String" "value" "[B" ∈ mm_tb) (ht : t < 14) (kk : mm_Ex g y d Al Mt S I (pc + 3) ls (.ref (mm_KB + (50 + t)) :: st) Q) : mm_Ex g y d Al Mt S I pc ls (.ref (mm_KB + (5 + t)) :: st) Q := by
  intro p e R s m args below meth c H locs rls n0 rho0 rho kap hC hG hV hS hl
  have ho2 := hC.2.2.2.2.1
  rw [ho] at ho2
  have h := kk p e R s m args below meth c H locs rls n0 rho0 rho kap hC hG hV hS hl
  have e1 : (Value.ref (mm_KB + (50 + t)) :: st).map (mm_em rho) = .ref (g.2.2.2.1 (50 + t)) :: st.map (mm_em rho) := by
    show Value.ref (rho (mm_KB + (50 + t))) :: _ = _
    rw [hG.2.2.2.1 (50 + t)]
  rw [e1] at h
  show W p g.1 e R s m args below meth c H locs Al.1 Al.2 _ (F0 m pc rls (.ref (rho (mm_KB + (5 + t))) :: st.map (mm_em rho)))
  rw [hG.2.2.2.1 (5 + t)]
  exact vk_getf hC.1 hC.2.1 (hC.2.2.2.2.2.2.2.2.2.2.2.2.2.1.1 t ht).2.2.1 hS ho2 (hC.2.2.2.2.2.1 _ hlk) (fun x h => h) hd h
theorem mm_blS {t : Nat} (hd : decode y.2.1 pc = .ok (.arraylength, 1)) (ht : t < 14) (kk : mm_Ex g y d Al Mt S I (pc + 1) ls (.int (nI (mm_sx t).length) :: st) Q) : mm_Ex g y d Al Mt S I pc ls (.ref (mm_KB + (50 + t)) :: st) Q := by
  intro p e R s m args below meth c H locs rls n0 rho0 rho kap hC hG hV hS hl
  show W p g.1 e R s m args below meth c H locs Al.1 Al.2 _ (F0 m pc rls (.ref (rho (mm_KB + (50 + t))) :: st.map (mm_em rho)))
  rw [hG.2.2.2.1 (50 + t)]
  exact va_tlen hC.1 hC.2.1 (hC.2.2.2.2.2.2.2.2.2.2.2.2.2.1.1 t ht).2.2.2 hS rfl hd (kk p e R s m args below meth c H locs rls n0 rho0 rho kap hC hG hV hS hl)
theorem mm_baS {t : Nat} (i : Nat) (hd : decode y.2.1 pc = .ok (.baload, 1)) (ht : t < 14) (hi : i < (mm_sx t).length) (h31 : i < 2 ^ 31) (h32 : (mm_sx t).length < 2 ^ 31) (kk : mm_Ex g y d Al Mt S I (pc + 1) ls (.int ((mm_sx t).getD i 0) :: st) Q) : mm_Ex g y d Al Mt S I pc ls (.int (nI i) :: .ref (mm_KB + (50 + t)) :: st) Q := by
  intro p e R s m args below meth c H locs rls n0 rho0 rho kap hC hG hV hS hl
  show W p g.1 e R s m args below meth c H locs Al.1 Al.2 _ (F0 m pc rls (.int (nI i) :: .ref (rho (mm_KB + (50 + t))) :: st.map (mm_em rho)))
  rw [hG.2.2.2.1 (50 + t)]
  exact va_tb hC.1 hC.2.1 (hC.2.2.2.2.2.2.2.2.2.2.2.2.2.1.1 t ht).2.2.2 hS (vp_in_nI hi h32) (v := .int ((mm_sx t).getD i 0)) (by rw [nI_clamp h31]) hd (kk p e R s m args below meth c H locs rls n0 rho0 rho kap hC hG hV hS hl)
theorem mm_nret {x : Int32} {ty : FieldType} (hd : decode y.2.1 pc = .ok (.ireturn, 1)) (hr : y.2.2.2 = some ty) (hx : narrow ty (.int x) = .int x) (hA : Al.1 ≤ Mt.1 ∧ Al.2 ≤ Mt.2) (hq : Q (some (.int x)) S I) : mm_Ex g y d Al Mt S I pc ls [.int x] Q := by
  intro p e R s m args below meth c H locs rls n0 rho0 rho kap hC hG hV hS hl
  refine W.widen hA.1 hA.2 ?_
  refine W.zret (ty := ty) hC.1 hC.2.1 (by rw [hC.2.2.1]; exact hr) hx (fun t ht hw => ⟨⟨some (.int x), S, I, rho, kap, rfl, hq, hG, ?_⟩, hS.F ht⟩) hS.2.2 hd hC.2.2.2.2.2.2.1
  rw [ht]; exact mm_V_moved hw.alike hV
/-- invokevirtual of a text's member -/
theorem mm_callT {index dz n t : Nat} {own : String} {z : mm_M} {Mz : Nat × Nat} {As : List Value} {Qz : Option Value → mm_Sh → mm_I → Prop} (hd : decode y.2.1 pc = .ok (.invokevirtual index, 3)) (ho : y.1.cls = own) (hz : mm_Mz z n) (hlk : Cond.methodLink own index z.1 ∈ mm_tb) (hin : Cond.instanceMethod z.1 ∈ mm_tb ∧ Cond.selects z.1.cls z.1 z.1 ∈ mm_tb) (hn : As.length = n) (hdz : dz + 1 ≤ d) (ht : t < 14) (hr : z.1.cls = "java/lang/String")
    (hCt : mm_Ct g z dz Mz (.ref (mm_KB + (5 + t)) :: As) S I Qz) (hrs : (st.map fun v => v.category).sum ≤ 8) (hA : Al.1 + Mz.1 ≤ Mt.1 ∧ Al.2 + Mz.2 ≤ Mt.2) (hcl : Mz.1 = 0 ∨ ((∀ v ∈ st, mm_cl S.1 v) ∧ ∀ q ∈ ls, mm_cl S.1 q.2))
    (kk : ∀ r S' I', Qz r S' I' → mm_Ex g y d (Al.1 + Mz.1, Al.2 + Mz.2) Mt S' I' (pc + 3) ls (r.toList ++ st) Q) : mm_Ex g y d Al Mt S I pc ls (As.reverse ++ .ref (mm_KB + (5 + t)) :: st) Q := by
  intro p e R s m args below meth c H locs rls n0 rho0 rho kap hC hG hV hS hl
  have hGz : mm_Ag g S.1 Mz rho rho S := ⟨Nat.le_refl _, hG.2.1, fun _ _ => rfl, hG.2.2.2.1, fun _ => rfl⟩
  have hrm := hC.2.2.2.2.2.2.2.2.1
  refine mm_behind ((.ref (mm_KB + (5 + t)) :: As).map (mm_em rho)).toArray hC hG hV hS hl hA hcl ?_ kk
  have hst : (As.reverse ++ .ref (mm_KB + (5 + t)) :: st).map (mm_em rho) = (As.map (mm_em rho)).reverse ++ .ref (rho (mm_KB + (5 + t))) :: st.map (mm_em rho) := by
    rw [List.map_append, List.map_reverse]; rfl
  rw [hst]
  have cw : CallW R s args own z.1.cls index z.1 z.2.1 z.2.2.1 z.2.2.2 (Cond.code z.1 z.2.1 z.2.2.1 z.2.2.2 :: mm_tb) (mm_rm dz Mz) Mz.1 Mz.2 n :=
    cwV n hC.2.2.2.2.2.1 (mm_good hz [.methodLink own index z.1, .instanceMethod z.1, .selects z.1.cls z.1 z.1, .initialized z.1.cls] (fun w hw => by
      simp only [List.mem_cons, List.not_mem_nil, or_false] at hw
      rcases hw with rfl | rfl | rfl | rfl
      · exact hlk
      · exact hin.1
      · exact hin.2
      · exact hz.2.1)) rfl rfl rfl ⟨rfl, hz.2.2.2.1⟩ ⟨by show dz + 1 ≤ R.frames; omega, by show 8 + (z.2.2.1 + 11) + 40 * dz ≤ R.locals; have := hz.2.2.2.2; omega⟩
  have hpre := mm_pre (av := .ref (mm_KB + (5 + t)) :: As) hC hV hS
  exact va_runV (As := As.map (mm_em rho)) (C := z.1.cls) ⟨hC.1, hC.2.1, hC.2.2.2.1, by rw [← ho]; exact hC.2.2.2.2.1, hC.2.2.2.2.2.1⟩ (mm_met (kap := kap) hz hCt hGz) cw ⟨mm_blind, by
      rw [hr, hG.2.2.2.1 (5 + t)]
      obtain ⟨cell, h1, h2, h3, -⟩ := (hC.2.2.2.2.2.2.2.2.2.2.2.2.2.1.1 t ht).1.kept hS.2.1
      exact ⟨cell, h1, h2, h3⟩, hpre⟩ rfl (by rw [List.length_map]; exact hn) hl.1 rfl (lv_room (mm_cat_sum hrs)) hd ⟨by have := hrm.2.2.1; omega, by have := hrm.2.2.2; omega⟩
theorem mm_cT0i {index dz t : Nat} {own : String} {z : mm_M} {w : Int32} {J : mm_I} (hd : decode y.2.1 pc = .ok (.invokevirtual index, 3)) (ho : y.1.cls = own) (hz : mm_Mz z 0) (hlk : Cond.methodLink own index z.1 ∈ mm_tb) (hin : Cond.instanceMethod z.1 ∈ mm_tb ∧ Cond.selects z.1.cls z.1 z.1 ∈ mm_tb) (hdz : dz + 1 ≤ d) (ht : t < 14) (hr : z.1.cls = "java/lang/String") (hCt : mm_Ci g z dz (.ref (mm_KB + (5 + t)) :: []) S I w J) (hrs : (st.map fun v => v.category).sum ≤ 8) (hA : Al.1 ≤ Mt.1 ∧ Al.2 ≤ Mt.2) (k : mm_Ex g y d Al Mt S J (pc + 3) ls (.int w :: st) Q) : mm_Ex g y d Al Mt S I pc ls (.ref (mm_KB + (5 + t)) :: st) Q :=
  mm_callT (As := []) hd ho hz hlk hin rfl hdz ht hr hCt hrs hA (Or.inl rfl) (fun q S' J' h => by obtain ⟨rfl, rfl, rfl⟩ := h; exact k)
theorem mm_cT1i {index dz t : Nat} {own : String} {z : mm_M} {v1 : Value} {w : Int32} {J : mm_I} (hd : decode y.2.1 pc = .ok (.invokevirtual index, 3)) (ho : y.1.cls = own) (hz : mm_Mz z 1) (hlk : Cond.methodLink own index z.1 ∈ mm_tb) (hin : Cond.instanceMethod z.1 ∈ mm_tb ∧ Cond.selects z.1.cls z.1 z.1 ∈ mm_tb) (hdz : dz + 1 ≤ d) (ht : t < 14) (hr : z.1.cls = "java/lang/String") (hCt : mm_Ci g z dz (.ref (mm_KB + (5 + t)) :: [v1]) S I w J) (hrs : (st.map fun v => v.category).sum ≤ 8) (hA : Al.1 ≤ Mt.1 ∧ Al.2 ≤ Mt.2) (k : mm_Ex g y d Al Mt S J (pc + 3) ls (.int w :: st) Q) : mm_Ex g y d Al Mt S I pc ls (v1 :: .ref (mm_KB + (5 + t)) :: st) Q :=
  mm_callT (As := [v1]) hd ho hz hlk hin rfl hdz ht hr hCt hrs hA (Or.inl rfl) (fun q S' J' h => by obtain ⟨rfl, rfl, rfl⟩ := h; exact k)
theorem mm_cT2i {index dz t : Nat} {own : String} {z : mm_M} {v1 v2 : Value} {w : Int32} {J : mm_I} (hd : decode y.2.1 pc = .ok (.invokevirtual index, 3)) (ho : y.1.cls = own) (hz : mm_Mz z 2) (hlk : Cond.methodLink own index z.1 ∈ mm_tb) (hin : Cond.instanceMethod z.1 ∈ mm_tb ∧ Cond.selects z.1.cls z.1 z.1 ∈ mm_tb) (hdz : dz + 1 ≤ d) (ht : t < 14) (hr : z.1.cls = "java/lang/String") (hCt : mm_Ci g z dz (.ref (mm_KB + (5 + t)) :: [v1, v2]) S I w J) (hrs : (st.map fun v => v.category).sum ≤ 8) (hA : Al.1 ≤ Mt.1 ∧ Al.2 ≤ Mt.2) (k : mm_Ex g y d Al Mt S J (pc + 3) ls (.int w :: st) Q) : mm_Ex g y d Al Mt S I pc ls (v2 :: v1 :: .ref (mm_KB + (5 + t)) :: st) Q :=
  mm_callT (As := [v1, v2]) hd ho hz hlk hin rfl hdz ht hr hCt hrs hA (Or.inl rfl) (fun q S' J' h => by obtain ⟨rfl, rfl, rfl⟩ := h; exact k)
end mm_strings
theorem tx_len {t : Nat} (ht : t < 14) : 2 ≤ (mm_sx t).length ∧ (mm_sx t).length ≤ 10 := by
  have h : ∀ t, t < 14 → 2 ≤ (mm_sx t).length ∧ (mm_sx t).length ≤ 10 := by decide
  exact h t ht
theorem tx_b {t k : Nat} (ht : t < 14) (hk : k < (mm_sx t).length) : ((((mm_sx t).getD k 0) &&& 255).toUInt32 % 65536).toInt32 = (mm_sx t).getD k 0 ∧ narrow .char (.int ((mm_sx t).getD k 0)) = .int ((mm_sx t).getD k 0) := by
  have h : ∀ t, t < 14 → ∀ k, k < (mm_sx t).length → ((((mm_sx t).getD k 0) &&& 255).toUInt32 % 65536).toInt32 = (mm_sx t).getD k 0 ∧ narrow .char (.int ((mm_sx t).getD k 0)) = .int ((mm_sx t).getD k 0) := by decide +kernel
  exact h t ht k hk
theorem tx_s (n : Nat) (h : n < 2 ^ 31) : nI n >>> ((0 : Int32) &&& 31) = nI n := by
  rw [show ((0 : Int32) &&& 31) = 0 from rfl, Int32.shiftRight_zero]
set_option maxRecDepth 100000 in
set_option maxHeartbeats 600000 in
theorem ct_coder {g : mm_G} {S : mm_Sh} {I : mm_I} {d : Nat} {t : Nat} (ht : t < 14) : mm_Ci g zJ0_coder_7d493 d [.ref (mm_KB + (5 + t))] S I 0 I := by
  refine mm_Ci_of (fun Q hq => ?_)
  refine mm_begin (ls := [(0, .ref (mm_KB + (5 + t)))]) (Nat.le_of_ble_eq_true rfl) rfl rfl ?_
  refine mm_csS dJ0_coder_7d493_0 rfl fs_J0_38 ?_
  refine mm_if_eq (tgt := 13) dJ0_coder_7d493_3 (by decide) (fun q => absurd q (by decide)) (fun _ => ?_)
  refine mm_aload_n 0 dJ0_coder_7d493_6 rfl rfl ?_
  refine mm_gcS (t := t) dJ0_coder_7d493_7 rfl fs_J0_15 ht ?_
  refine mm_goto (tgt := 14) dJ0_coder_7d493_10 (by decide) ?_
  refine mm_nret dJ0_coder_7d493_14 rfl rfl ⟨Nat.le_refl _, Nat.le_refl _⟩ ?_
  exact hq
set_option maxRecDepth 100000 in
set_option maxHeartbeats 600000 in
theorem ct_isLatin1 {g : mm_G} {S : mm_Sh} {I : mm_I} {d : Nat} {t : Nat} (ht : t < 14) : mm_Ci g zJ0_isLatin1_aae02 d [.ref (mm_KB + (5 + t))] S I 1 I := by
  refine mm_Ci_of (fun Q hq => ?_)
  refine mm_begin (ls := [(0, .ref (mm_KB + (5 + t)))]) (Nat.le_of_ble_eq_true rfl) rfl rfl ?_
  refine mm_csS dJ0_isLatin1_aae02_0 rfl fs_J0_38 ?_
  refine mm_if_eq (tgt := 17) dJ0_isLatin1_aae02_3 (by decide) (fun q => absurd q (by decide)) (fun _ => ?_)
  refine mm_aload_n 0 dJ0_isLatin1_aae02_6 rfl rfl ?_
  refine mm_gcS (t := t) dJ0_isLatin1_aae02_7 rfl fs_J0_15 ht ?_
  refine mm_if_ne (tgt := 17) dJ0_isLatin1_aae02_10 (by decide) (fun q => absurd q (by decide)) (fun _ => ?_)
  refine mm_iconst (v := 1) dJ0_isLatin1_aae02_13 rfl ?_
  refine mm_goto (tgt := 18) dJ0_isLatin1_aae02_14 (by decide) ?_
  refine mm_zret dJ0_isLatin1_aae02_18 rfl (by decide) ⟨Nat.le_refl _, Nat.le_refl _⟩ ?_
  exact hq
set_option maxRecDepth 100000 in
set_option maxHeartbeats 600000 in
theorem ct_length {g : mm_G} {S : mm_Sh} {I : mm_I} {d : Nat} {t : Nat} (ht : t < 14) (hd : 1 ≤ d) : mm_Ci g zJ0_length_8abf5 d [.ref (mm_KB + (5 + t))] S I (nI (mm_sx t).length) I := by
  have hl := tx_len ht
  refine mm_Ci_of (fun Q hq => ?_)
  refine mm_begin (ls := [(0, .ref (mm_KB + (5 + t)))]) (Nat.le_of_ble_eq_true rfl) rfl rfl ?_
  refine mm_aload_n 0 dJ0_length_8abf5_0 rfl rfl ?_
  refine mm_gvS (t := t) dJ0_length_8abf5_1 rfl fs_J0_9 ht ?_
  refine mm_blS (t := t) dJ0_length_8abf5_4 ht ?_
  refine mm_aload_n 0 dJ0_length_8abf5_5 rfl rfl ?_
  refine mm_cT0i (t := t) (dz := d - 1) dJ0_length_8abf5_6 rfl mzJ0_coder_7d493 ml_J0_335 imJ0_coder_7d493 (by omega) (by omega) rfl (ct_coder ht) (Nat.le_of_ble_eq_true rfl) ⟨Nat.le_refl _, Nat.le_refl _⟩ ?_
  refine mm_ishr dJ0_length_8abf5_9 ?_
  refine mm_top (v := nI (mm_sx t).length) (tx_s _ (by omega)) ?_
  refine mm_iret dJ0_length_8abf5_10 rfl ⟨Nat.le_refl _, Nat.le_refl _⟩ ?_
  exact hq
set_option maxRecDepth 100000 in
set_option maxHeartbeats 600000 in
theorem ct_ckpn {g : mm_G} {S : mm_Sh} {I : mm_I} {d : Nat} {i n : Nat} (hi : i < n) (hn : n < 2 ^ 31) : mm_Ci g zJ3_checkIndex_8e157 d [.int (nI i), .int (nI n), .null] S I (nI i) I := by
  refine mm_Ci_of (fun Q hq => ?_)
  refine mm_begin (ls := [(0, .int (nI (i))), (1, .int (nI (n))), (2, .null)]) (Nat.le_of_ble_eq_true rfl) rfl rfl ?_
  refine mm_iload_n 0 dJ3_checkIndex_8e157_0 rfl rfl ?_
  refine mm_if_ltN (i) (tgt := 9) dJ3_checkIndex_8e157_1 (by decide) (by omega) ?_
  refine mm_iload_n 0 dJ3_checkIndex_8e157_4 rfl rfl ?_
  refine mm_iload_n 1 dJ3_checkIndex_8e157_5 rfl rfl ?_
  refine mm_icmp_ltN (i) (n) (tgt := 16) dJ3_checkIndex_8e157_6 (by decide) (by omega) (by omega) (fun c6 => ?_) (fun c6 => ?_)
  · refine mm_iload_n 0 dJ3_checkIndex_8e157_16 rfl rfl ?_
    refine mm_iret dJ3_checkIndex_8e157_17 rfl ⟨Nat.le_refl _, Nat.le_refl _⟩ ?_
    exact hq
  · omega
set_option maxRecDepth 100000 in
set_option maxHeartbeats 600000 in
theorem ct_ckpr {g : mm_G} {S : mm_Sh} {I : mm_I} {d : Nat} {i n : Nat} (hi : i < n) (hn : n < 2 ^ 31) : mm_Ci g zJ3_checkIndex_8e157 d [.int (nI i), .int (nI n), .ref (mm_KB + 70)] S I (nI i) I := by
  refine mm_Ci_of (fun Q hq => ?_)
  refine mm_begin (ls := [(0, .int (nI (i))), (1, .int (nI (n))), (2, .ref (mm_KB + 70))]) (Nat.le_of_ble_eq_true rfl) rfl rfl ?_
  refine mm_iload_n 0 dJ3_checkIndex_8e157_0 rfl rfl ?_
  refine mm_if_ltN (i) (tgt := 9) dJ3_checkIndex_8e157_1 (by decide) (by omega) ?_
  refine mm_iload_n 0 dJ3_checkIndex_8e157_4 rfl rfl ?_
  refine mm_iload_n 1 dJ3_checkIndex_8e157_5 rfl rfl ?_
  refine mm_icmp_ltN (i) (n) (tgt := 16) dJ3_checkIndex_8e157_6 (by decide) (by omega) (by omega) (fun c6 => ?_) (fun c6 => ?_)
  · refine mm_iload_n 0 dJ3_checkIndex_8e157_16 rfl rfl ?_
    refine mm_iret dJ3_checkIndex_8e157_17 rfl ⟨Nat.le_refl _, Nat.le_refl _⟩ ?_
    exact hq
  · omega
set_option maxRecDepth 100000 in
set_option maxHeartbeats 600000 in
theorem ct_cks {g : mm_G} {S : mm_Sh} {I : mm_I} {d : Nat} {i n : Nat} (hi : i < n) (hn : n < 2 ^ 31) (hd : 1 ≤ d) : mm_Cv g zJ0_checkIndex_df160 d [.int (nI i), .int (nI n)] S I I := by
  refine mm_Cv_of (fun Q hq => ?_)
  refine mm_begin (ls := [(0, .int (nI (i))), (1, .int (nI (n)))]) (Nat.le_of_ble_eq_true rfl) rfl rfl ?_
  refine mm_iload_n 0 dJ0_checkIndex_df160_0 rfl rfl ?_
  refine mm_iload_n 1 dJ0_checkIndex_df160_1 rfl rfl ?_
  refine mm_fmS dJ0_checkIndex_df160_2 rfl fs_J0_1053 ?_ ?_
  · refine mm_cS3i (dz := d - 1) dJ0_checkIndex_df160_5 rfl mzJ3_checkIndex_8e157 ml_J0_1059 imJ3_checkIndex_8e157 (by omega) (ct_ckpn hi hn) (Nat.le_of_ble_eq_true rfl) ⟨Nat.le_refl _, Nat.le_refl _⟩ ?_
    refine mm_pop dJ0_checkIndex_df160_8 rfl ?_
    refine mm_vret dJ0_checkIndex_df160_9 rfl ⟨Nat.le_refl _, Nat.le_refl _⟩ ?_
    exact hq
  · refine mm_cS3i (dz := d - 1) dJ0_checkIndex_df160_5 rfl mzJ3_checkIndex_8e157 ml_J0_1059 imJ3_checkIndex_8e157 (by omega) (ct_ckpr hi hn) (Nat.le_of_ble_eq_true rfl) ⟨Nat.le_refl _, Nat.le_refl _⟩ ?_
    refine mm_pop dJ0_checkIndex_df160_8 rfl ?_
    refine mm_vret dJ0_checkIndex_df160_9 rfl ⟨Nat.le_refl _, Nat.le_refl _⟩ ?_
    exact hq
set_option maxRecDepth 100000 in
set_option maxHeartbeats 600000 in
theorem ct_chl {g : mm_G} {S : mm_Sh} {I : mm_I} {d : Nat} {t : Nat} (ht : t < 14) {k : Nat} (hk : k < (mm_sx t).length) (hd : 2 ≤ d) : mm_Ci g zJ1_charAt_3b067 d [.ref (mm_KB + (50 + t)), .int (nI k)] S I ((mm_sx t).getD k 0) I := by
  have hl := tx_len ht
  refine mm_Ci_of (fun Q hq => ?_)
  refine mm_begin (ls := [(0, .ref (mm_KB + (50 + t))), (1, .int (nI (k)))]) (Nat.le_of_ble_eq_true rfl) rfl rfl ?_
  refine mm_iload_n 1 dJ1_charAt_3b067_0 rfl rfl ?_
  refine mm_aload_n 0 dJ1_charAt_3b067_1 rfl rfl ?_
  refine mm_blS (t := t) dJ1_charAt_3b067_2 ht ?_
  refine mm_cS2v (dz := d - 1) dJ1_charAt_3b067_3 rfl mzJ0_checkIndex_df160 ml_J1_9 imJ0_checkIndex_df160 (by omega) (ct_cks (by omega) (by omega) (by omega)) (Nat.le_of_ble_eq_true rfl) ⟨Nat.le_refl _, Nat.le_refl _⟩ ?_
  refine mm_aload_n 0 dJ1_charAt_3b067_6 rfl rfl ?_
  refine mm_iload_n 1 dJ1_charAt_3b067_7 rfl rfl ?_
  refine mm_baS (t := t) (k) dJ1_charAt_3b067_8 ht (by omega) (by omega) (by omega) ?_
  refine mm_sipush (v := 255) dJ1_charAt_3b067_9 rfl ?_
  refine mm_at (pc' := 12) rfl ?_
  refine mm_iand dJ1_charAt_3b067_12 ?_
  refine mm_i2c dJ1_charAt_3b067_13 ?_
  refine mm_top (v := (mm_sx t).getD k 0) (tx_b ht hk).1 ?_
  refine mm_nret dJ1_charAt_3b067_14 rfl (tx_b ht hk).2 ⟨Nat.le_refl _, Nat.le_refl _⟩ ?_
  exact hq
set_option maxRecDepth 100000 in
set_option maxHeartbeats 600000 in
theorem ct_charAt {g : mm_G} {S : mm_Sh} {I : mm_I} {d : Nat} {t : Nat} (ht : t < 14) {k : Nat} (hk : k < (mm_sx t).length) (hd : 3 ≤ d) : mm_Ci g zJ0_charAt_5068e d [.ref (mm_KB + (5 + t)), .int (nI k)] S I ((mm_sx t).getD k 0) I := by
  refine mm_Ci_of (fun Q hq => ?_)
  refine mm_begin (ls := [(0, .ref (mm_KB + (5 + t))), (1, .int (nI (k)))]) (Nat.le_of_ble_eq_true rfl) rfl rfl ?_
  refine mm_aload_n 0 dJ0_charAt_5068e_0 rfl rfl ?_
  refine mm_cT0i (t := t) (dz := d - 1) dJ0_charAt_5068e_1 rfl mzJ0_isLatin1_aae02 ml_J0_492 imJ0_isLatin1_aae02 (by omega) (by omega) rfl (ct_isLatin1 ht) (Nat.le_of_ble_eq_true rfl) ⟨Nat.le_refl _, Nat.le_refl _⟩ ?_
  refine mm_if_eq (tgt := 16) dJ0_charAt_5068e_4 (by decide) (fun q => absurd q (by decide)) (fun _ => ?_)
  refine mm_aload_n 0 dJ0_charAt_5068e_7 rfl rfl ?_
  refine mm_gvS (t := t) dJ0_charAt_5068e_8 rfl fs_J0_9 ht ?_
  refine mm_iload_n 1 dJ0_charAt_5068e_11 rfl rfl ?_
  refine mm_cS2i (dz := d - 1) dJ0_charAt_5068e_12 rfl mzJ1_charAt_3b067 ml_J0_495 imJ1_charAt_3b067 (by omega) (ct_chl ht hk (by omega)) (Nat.le_of_ble_eq_true rfl) ⟨Nat.le_refl _, Nat.le_refl _⟩ ?_
  refine mm_nret dJ0_charAt_5068e_15 rfl (tx_b ht hk).2 ⟨Nat.le_refl _, Nat.le_refl _⟩ ?_
  exact hq
set_option maxRecDepth 100000 in
theorem tx_i8 {b v : Nat} (hb : b < 256) (hv : v < 128) : nI v = (nI b).toInt8.toInt32 ↔ b = v := by
  have h : ∀ b, b < 256 → ∀ v, v < 128 → (nI v = (nI b).toInt8.toInt32 ↔ b = v) := by decide +kernel
  exact h b hb v hv
/-- the number of a name by its byte -/
def nm_ix (b : Nat) : Int32 := if b = 99 then 0 else if b = 107 then 1 else if b = 119 then 2 else if b = 115 then 3 else if b = 100 then 4 else if b = 105 then 5 else if b = 98 then 6 else if b = 116 then 7 else if b = 120 then 8 else if b = 121 then 9 else (-1)
set_option maxRecDepth 100000 in
set_option maxHeartbeats 600000 in
theorem ct_ixc {g : mm_G} {S : mm_Sh} {I : mm_I} {d : Nat} {b : Nat} (hb : b < 256) : mm_Ci g zJ1_indexOfChar_4cfef d [.ref (mm_KB + (50 + 12)), .int (nI b), .int 0, .int 10] S I (nm_ix b) I := by
  have ht : 12 < 14 := by decide
  have hl : (mm_sx 12).length = 10 := rfl
  refine mm_Ci_of (fun Q hq => ?_)
  refine mm_begin (ls := [(0, .ref (mm_KB + (50 + 12))), (1, .int (nI (b))), (2, .int (0)), (3, .int (10))]) (Nat.le_of_ble_eq_true rfl) rfl rfl ?_
  refine mm_iload_n 1 dJ1_indexOfChar_4cfef_0 rfl rfl ?_
  refine mm_i2b dJ1_indexOfChar_4cfef_1 ?_
  refine mm_istore (ls' := [(4, .int ((nI (b)).toInt8.toInt32)), (0, .ref (mm_KB + (50 + 12))), (1, .int (nI (b))), (2, .int (0)), (3, .int (10))]) dJ1_indexOfChar_4cfef_2 (by decide) rfl ?_
  refine mm_iload_n 3 dJ1_indexOfChar_4cfef_4 rfl rfl ?_
  refine mm_istore (ls' := [(5, .int (0)), (4, .int ((nI (b)).toInt8.toInt32)), (0, .ref (mm_KB + (50 + 12))), (1, .int (nI (b))), (2, .int (0)), (3, .int (10))]) dJ1_indexOfChar_4cfef_5 (by decide) rfl ?_
  refine mm_iload 0 dJ1_indexOfChar_4cfef_7 rfl ?_
  refine mm_iload_n 5 dJ1_indexOfChar_4cfef_9 rfl rfl ?_
  refine mm_icmp_ge (tgt := 31) dJ1_indexOfChar_4cfef_10 (by decide) (fun q => absurd q (by decide)) (fun _ => ?_)
  refine mm_aload_n 2 dJ1_indexOfChar_4cfef_13 rfl rfl ?_
  refine mm_iload 0 dJ1_indexOfChar_4cfef_14 rfl ?_
  refine mm_baS (t := 12) (0) dJ1_indexOfChar_4cfef_16 ht (by decide) (by omega) (by omega) ?_
  refine mm_iload 1 dJ1_indexOfChar_4cfef_17 rfl ?_
  refine mm_icmp_ne (tgt := 25) dJ1_indexOfChar_4cfef_19 (by decide) (fun h0 => ?_) (fun h0 => ?_)
  · refine mm_iinc (v := 1) (ls' := [(5, .int (1)), (4, .int ((nI (b)).toInt8.toInt32)), (0, .ref (mm_KB + (50 + 12))), (1, .int (nI (b))), (2, .int (0)), (3, .int (10))]) 0 dJ1_indexOfChar_4cfef_25 rfl (by decide) (by decide) rfl ?_
    refine mm_goto (tgt := 7) dJ1_indexOfChar_4cfef_28 (by decide) ?_
    refine mm_iload 0 dJ1_indexOfChar_4cfef_7 rfl ?_
    refine mm_iload_n 5 dJ1_indexOfChar_4cfef_9 rfl rfl ?_
    refine mm_icmp_ge (tgt := 31) dJ1_indexOfChar_4cfef_10 (by decide) (fun q => absurd q (by decide)) (fun _ => ?_)
    refine mm_aload_n 2 dJ1_indexOfChar_4cfef_13 rfl rfl ?_
    refine mm_iload 0 dJ1_indexOfChar_4cfef_14 rfl ?_
    refine mm_baS (t := 12) (1) dJ1_indexOfChar_4cfef_16 ht (by decide) (by omega) (by omega) ?_
    refine mm_iload 1 dJ1_indexOfChar_4cfef_17 rfl ?_
    refine mm_icmp_ne (tgt := 25) dJ1_indexOfChar_4cfef_19 (by decide) (fun h1 => ?_) (fun h1 => ?_)
    · refine mm_iinc (v := 2) (ls' := [(5, .int (2)), (4, .int ((nI (b)).toInt8.toInt32)), (0, .ref (mm_KB + (50 + 12))), (1, .int (nI (b))), (2, .int (0)), (3, .int (10))]) 0 dJ1_indexOfChar_4cfef_25 rfl (by decide) (by decide) rfl ?_
      refine mm_goto (tgt := 7) dJ1_indexOfChar_4cfef_28 (by decide) ?_
      refine mm_iload 0 dJ1_indexOfChar_4cfef_7 rfl ?_
      refine mm_iload_n 5 dJ1_indexOfChar_4cfef_9 rfl rfl ?_
      refine mm_icmp_ge (tgt := 31) dJ1_indexOfChar_4cfef_10 (by decide) (fun q => absurd q (by decide)) (fun _ => ?_)
      refine mm_aload_n 2 dJ1_indexOfChar_4cfef_13 rfl rfl ?_
      refine mm_iload 0 dJ1_indexOfChar_4cfef_14 rfl ?_
      refine mm_baS (t := 12) (2) dJ1_indexOfChar_4cfef_16 ht (by decide) (by omega) (by omega) ?_
      refine mm_iload 1 dJ1_indexOfChar_4cfef_17 rfl ?_
      refine mm_icmp_ne (tgt := 25) dJ1_indexOfChar_4cfef_19 (by decide) (fun h2 => ?_) (fun h2 => ?_)
      · refine mm_iinc (v := 3) (ls' := [(5, .int (3)), (4, .int ((nI (b)).toInt8.toInt32)), (0, .ref (mm_KB + (50 + 12))), (1, .int (nI (b))), (2, .int (0)), (3, .int (10))]) 0 dJ1_indexOfChar_4cfef_25 rfl (by decide) (by decide) rfl ?_
        refine mm_goto (tgt := 7) dJ1_indexOfChar_4cfef_28 (by decide) ?_
        refine mm_iload 0 dJ1_indexOfChar_4cfef_7 rfl ?_
        refine mm_iload_n 5 dJ1_indexOfChar_4cfef_9 rfl rfl ?_
        refine mm_icmp_ge (tgt := 31) dJ1_indexOfChar_4cfef_10 (by decide) (fun q => absurd q (by decide)) (fun _ => ?_)
        refine mm_aload_n 2 dJ1_indexOfChar_4cfef_13 rfl rfl ?_
        refine mm_iload 0 dJ1_indexOfChar_4cfef_14 rfl ?_
        refine mm_baS (t := 12) (3) dJ1_indexOfChar_4cfef_16 ht (by decide) (by omega) (by omega) ?_
        refine mm_iload 1 dJ1_indexOfChar_4cfef_17 rfl ?_
        refine mm_icmp_ne (tgt := 25) dJ1_indexOfChar_4cfef_19 (by decide) (fun h3 => ?_) (fun h3 => ?_)
        · refine mm_iinc (v := 4) (ls' := [(5, .int (4)), (4, .int ((nI (b)).toInt8.toInt32)), (0, .ref (mm_KB + (50 + 12))), (1, .int (nI (b))), (2, .int (0)), (3, .int (10))]) 0 dJ1_indexOfChar_4cfef_25 rfl (by decide) (by decide) rfl ?_
          refine mm_goto (tgt := 7) dJ1_indexOfChar_4cfef_28 (by decide) ?_
          refine mm_iload 0 dJ1_indexOfChar_4cfef_7 rfl ?_
          refine mm_iload_n 5 dJ1_indexOfChar_4cfef_9 rfl rfl ?_
          refine mm_icmp_ge (tgt := 31) dJ1_indexOfChar_4cfef_10 (by decide) (fun q => absurd q (by decide)) (fun _ => ?_)
          refine mm_aload_n 2 dJ1_indexOfChar_4cfef_13 rfl rfl ?_
          refine mm_iload 0 dJ1_indexOfChar_4cfef_14 rfl ?_
          refine mm_baS (t := 12) (4) dJ1_indexOfChar_4cfef_16 ht (by decide) (by omega) (by omega) ?_
          refine mm_iload 1 dJ1_indexOfChar_4cfef_17 rfl ?_
          refine mm_icmp_ne (tgt := 25) dJ1_indexOfChar_4cfef_19 (by decide) (fun h4 => ?_) (fun h4 => ?_)
          · refine mm_iinc (v := 5) (ls' := [(5, .int (5)), (4, .int ((nI (b)).toInt8.toInt32)), (0, .ref (mm_KB + (50 + 12))), (1, .int (nI (b))), (2, .int (0)), (3, .int (10))]) 0 dJ1_indexOfChar_4cfef_25 rfl (by decide) (by decide) rfl ?_
            refine mm_goto (tgt := 7) dJ1_indexOfChar_4cfef_28 (by decide) ?_
            refine mm_iload 0 dJ1_indexOfChar_4cfef_7 rfl ?_
            refine mm_iload_n 5 dJ1_indexOfChar_4cfef_9 rfl rfl ?_
            refine mm_icmp_ge (tgt := 31) dJ1_indexOfChar_4cfef_10 (by decide) (fun q => absurd q (by decide)) (fun _ => ?_)
            refine mm_aload_n 2 dJ1_indexOfChar_4cfef_13 rfl rfl ?_
            refine mm_iload 0 dJ1_indexOfChar_4cfef_14 rfl ?_
            refine mm_baS (t := 12) (5) dJ1_indexOfChar_4cfef_16 ht (by decide) (by omega) (by omega) ?_
            refine mm_iload 1 dJ1_indexOfChar_4cfef_17 rfl ?_
            refine mm_icmp_ne (tgt := 25) dJ1_indexOfChar_4cfef_19 (by decide) (fun h5 => ?_) (fun h5 => ?_)
            · refine mm_iinc (v := 6) (ls' := [(5, .int (6)), (4, .int ((nI (b)).toInt8.toInt32)), (0, .ref (mm_KB + (50 + 12))), (1, .int (nI (b))), (2, .int (0)), (3, .int (10))]) 0 dJ1_indexOfChar_4cfef_25 rfl (by decide) (by decide) rfl ?_
              refine mm_goto (tgt := 7) dJ1_indexOfChar_4cfef_28 (by decide) ?_
              refine mm_iload 0 dJ1_indexOfChar_4cfef_7 rfl ?_
              refine mm_iload_n 5 dJ1_indexOfChar_4cfef_9 rfl rfl ?_
              refine mm_icmp_ge (tgt := 31) dJ1_indexOfChar_4cfef_10 (by decide) (fun q => absurd q (by decide)) (fun _ => ?_)
              refine mm_aload_n 2 dJ1_indexOfChar_4cfef_13 rfl rfl ?_
              refine mm_iload 0 dJ1_indexOfChar_4cfef_14 rfl ?_
              refine mm_baS (t := 12) (6) dJ1_indexOfChar_4cfef_16 ht (by decide) (by omega) (by omega) ?_
              refine mm_iload 1 dJ1_indexOfChar_4cfef_17 rfl ?_
              refine mm_icmp_ne (tgt := 25) dJ1_indexOfChar_4cfef_19 (by decide) (fun h6 => ?_) (fun h6 => ?_)
              · refine mm_iinc (v := 7) (ls' := [(5, .int (7)), (4, .int ((nI (b)).toInt8.toInt32)), (0, .ref (mm_KB + (50 + 12))), (1, .int (nI (b))), (2, .int (0)), (3, .int (10))]) 0 dJ1_indexOfChar_4cfef_25 rfl (by decide) (by decide) rfl ?_
                refine mm_goto (tgt := 7) dJ1_indexOfChar_4cfef_28 (by decide) ?_
                refine mm_iload 0 dJ1_indexOfChar_4cfef_7 rfl ?_
                refine mm_iload_n 5 dJ1_indexOfChar_4cfef_9 rfl rfl ?_
                refine mm_icmp_ge (tgt := 31) dJ1_indexOfChar_4cfef_10 (by decide) (fun q => absurd q (by decide)) (fun _ => ?_)
                refine mm_aload_n 2 dJ1_indexOfChar_4cfef_13 rfl rfl ?_
                refine mm_iload 0 dJ1_indexOfChar_4cfef_14 rfl ?_
                refine mm_baS (t := 12) (7) dJ1_indexOfChar_4cfef_16 ht (by decide) (by omega) (by omega) ?_
                refine mm_iload 1 dJ1_indexOfChar_4cfef_17 rfl ?_
                refine mm_icmp_ne (tgt := 25) dJ1_indexOfChar_4cfef_19 (by decide) (fun h7 => ?_) (fun h7 => ?_)
                · refine mm_iinc (v := 8) (ls' := [(5, .int (8)), (4, .int ((nI (b)).toInt8.toInt32)), (0, .ref (mm_KB + (50 + 12))), (1, .int (nI (b))), (2, .int (0)), (3, .int (10))]) 0 dJ1_indexOfChar_4cfef_25 rfl (by decide) (by decide) rfl ?_
                  refine mm_goto (tgt := 7) dJ1_indexOfChar_4cfef_28 (by decide) ?_
                  refine mm_iload 0 dJ1_indexOfChar_4cfef_7 rfl ?_
                  refine mm_iload_n 5 dJ1_indexOfChar_4cfef_9 rfl rfl ?_
                  refine mm_icmp_ge (tgt := 31) dJ1_indexOfChar_4cfef_10 (by decide) (fun q => absurd q (by decide)) (fun _ => ?_)
                  refine mm_aload_n 2 dJ1_indexOfChar_4cfef_13 rfl rfl ?_
                  refine mm_iload 0 dJ1_indexOfChar_4cfef_14 rfl ?_
                  refine mm_baS (t := 12) (8) dJ1_indexOfChar_4cfef_16 ht (by decide) (by omega) (by omega) ?_
                  refine mm_iload 1 dJ1_indexOfChar_4cfef_17 rfl ?_
                  refine mm_icmp_ne (tgt := 25) dJ1_indexOfChar_4cfef_19 (by decide) (fun h8 => ?_) (fun h8 => ?_)
                  · refine mm_iinc (v := 9) (ls' := [(5, .int (9)), (4, .int ((nI (b)).toInt8.toInt32)), (0, .ref (mm_KB + (50 + 12))), (1, .int (nI (b))), (2, .int (0)), (3, .int (10))]) 0 dJ1_indexOfChar_4cfef_25 rfl (by decide) (by decide) rfl ?_
                    refine mm_goto (tgt := 7) dJ1_indexOfChar_4cfef_28 (by decide) ?_
                    refine mm_iload 0 dJ1_indexOfChar_4cfef_7 rfl ?_
                    refine mm_iload_n 5 dJ1_indexOfChar_4cfef_9 rfl rfl ?_
                    refine mm_icmp_ge (tgt := 31) dJ1_indexOfChar_4cfef_10 (by decide) (fun q => absurd q (by decide)) (fun _ => ?_)
                    refine mm_aload_n 2 dJ1_indexOfChar_4cfef_13 rfl rfl ?_
                    refine mm_iload 0 dJ1_indexOfChar_4cfef_14 rfl ?_
                    refine mm_baS (t := 12) (9) dJ1_indexOfChar_4cfef_16 ht (by decide) (by omega) (by omega) ?_
                    refine mm_iload 1 dJ1_indexOfChar_4cfef_17 rfl ?_
                    refine mm_icmp_ne (tgt := 25) dJ1_indexOfChar_4cfef_19 (by decide) (fun h9 => ?_) (fun h9 => ?_)
                    · refine mm_iinc (v := 10) (ls' := [(5, .int (10)), (4, .int ((nI (b)).toInt8.toInt32)), (0, .ref (mm_KB + (50 + 12))), (1, .int (nI (b))), (2, .int (0)), (3, .int (10))]) 0 dJ1_indexOfChar_4cfef_25 rfl (by decide) (by decide) rfl ?_
                      refine mm_goto (tgt := 7) dJ1_indexOfChar_4cfef_28 (by decide) ?_
                      refine mm_iload 0 dJ1_indexOfChar_4cfef_7 rfl ?_
                      refine mm_iload_n 5 dJ1_indexOfChar_4cfef_9 rfl rfl ?_
                      refine mm_icmp_ge (tgt := 31) dJ1_indexOfChar_4cfef_10 (by decide) (fun _ => ?_) (fun q => absurd (by decide) q)
                      refine mm_iconst (v := -1) dJ1_indexOfChar_4cfef_31 rfl ?_
                      refine mm_iret dJ1_indexOfChar_4cfef_32 rfl ⟨Nat.le_refl _, Nat.le_refl _⟩ ?_
                      unfold nm_ix at hq
                      rw [if_neg (fun q => h0 ((tx_i8 hb (by decide)).mpr q)), if_neg (fun q => h1 ((tx_i8 hb (by decide)).mpr q)), if_neg (fun q => h2 ((tx_i8 hb (by decide)).mpr q)), if_neg (fun q => h3 ((tx_i8 hb (by decide)).mpr q)), if_neg (fun q => h4 ((tx_i8 hb (by decide)).mpr q)), if_neg (fun q => h5 ((tx_i8 hb (by decide)).mpr q)), if_neg (fun q => h6 ((tx_i8 hb (by decide)).mpr q)), if_neg (fun q => h7 ((tx_i8 hb (by decide)).mpr q)), if_neg (fun q => h8 ((tx_i8 hb (by decide)).mpr q)), if_neg (fun q => h9 ((tx_i8 hb (by decide)).mpr q))] at hq
                      exact hq
                    · refine mm_iload 0 dJ1_indexOfChar_4cfef_22 rfl ?_
                      refine mm_iret dJ1_indexOfChar_4cfef_24 rfl ⟨Nat.le_refl _, Nat.le_refl _⟩ ?_
                      unfold nm_ix at hq
                      rw [if_neg (fun q => h0 ((tx_i8 hb (by decide)).mpr q)), if_neg (fun q => h1 ((tx_i8 hb (by decide)).mpr q)), if_neg (fun q => h2 ((tx_i8 hb (by decide)).mpr q)), if_neg (fun q => h3 ((tx_i8 hb (by decide)).mpr q)), if_neg (fun q => h4 ((tx_i8 hb (by decide)).mpr q)), if_neg (fun q => h5 ((tx_i8 hb (by decide)).mpr q)), if_neg (fun q => h6 ((tx_i8 hb (by decide)).mpr q)), if_neg (fun q => h7 ((tx_i8 hb (by decide)).mpr q)), if_neg (fun q => h8 ((tx_i8 hb (by decide)).mpr q)), if_pos ((tx_i8 hb (by decide)).mp h9)] at hq
                      exact hq
                  · refine mm_iload 0 dJ1_indexOfChar_4cfef_22 rfl ?_
                    refine mm_iret dJ1_indexOfChar_4cfef_24 rfl ⟨Nat.le_refl _, Nat.le_refl _⟩ ?_
                    unfold nm_ix at hq
                    rw [if_neg (fun q => h0 ((tx_i8 hb (by decide)).mpr q)), if_neg (fun q => h1 ((tx_i8 hb (by decide)).mpr q)), if_neg (fun q => h2 ((tx_i8 hb (by decide)).mpr q)), if_neg (fun q => h3 ((tx_i8 hb (by decide)).mpr q)), if_neg (fun q => h4 ((tx_i8 hb (by decide)).mpr q)), if_neg (fun q => h5 ((tx_i8 hb (by decide)).mpr q)), if_neg (fun q => h6 ((tx_i8 hb (by decide)).mpr q)), if_neg (fun q => h7 ((tx_i8 hb (by decide)).mpr q)), if_pos ((tx_i8 hb (by decide)).mp h8)] at hq
                    exact hq
                · refine mm_iload 0 dJ1_indexOfChar_4cfef_22 rfl ?_
                  refine mm_iret dJ1_indexOfChar_4cfef_24 rfl ⟨Nat.le_refl _, Nat.le_refl _⟩ ?_
                  unfold nm_ix at hq
                  rw [if_neg (fun q => h0 ((tx_i8 hb (by decide)).mpr q)), if_neg (fun q => h1 ((tx_i8 hb (by decide)).mpr q)), if_neg (fun q => h2 ((tx_i8 hb (by decide)).mpr q)), if_neg (fun q => h3 ((tx_i8 hb (by decide)).mpr q)), if_neg (fun q => h4 ((tx_i8 hb (by decide)).mpr q)), if_neg (fun q => h5 ((tx_i8 hb (by decide)).mpr q)), if_neg (fun q => h6 ((tx_i8 hb (by decide)).mpr q)), if_pos ((tx_i8 hb (by decide)).mp h7)] at hq
                  exact hq
              · refine mm_iload 0 dJ1_indexOfChar_4cfef_22 rfl ?_
                refine mm_iret dJ1_indexOfChar_4cfef_24 rfl ⟨Nat.le_refl _, Nat.le_refl _⟩ ?_
                unfold nm_ix at hq
                rw [if_neg (fun q => h0 ((tx_i8 hb (by decide)).mpr q)), if_neg (fun q => h1 ((tx_i8 hb (by decide)).mpr q)), if_neg (fun q => h2 ((tx_i8 hb (by decide)).mpr q)), if_neg (fun q => h3 ((tx_i8 hb (by decide)).mpr q)), if_neg (fun q => h4 ((tx_i8 hb (by decide)).mpr q)), if_neg (fun q => h5 ((tx_i8 hb (by decide)).mpr q)), if_pos ((tx_i8 hb (by decide)).mp h6)] at hq
                exact hq
            · refine mm_iload 0 dJ1_indexOfChar_4cfef_22 rfl ?_
              refine mm_iret dJ1_indexOfChar_4cfef_24 rfl ⟨Nat.le_refl _, Nat.le_refl _⟩ ?_
              unfold nm_ix at hq
              rw [if_neg (fun q => h0 ((tx_i8 hb (by decide)).mpr q)), if_neg (fun q => h1 ((tx_i8 hb (by decide)).mpr q)), if_neg (fun q => h2 ((tx_i8 hb (by decide)).mpr q)), if_neg (fun q => h3 ((tx_i8 hb (by decide)).mpr q)), if_neg (fun q => h4 ((tx_i8 hb (by decide)).mpr q)), if_pos ((tx_i8 hb (by decide)).mp h5)] at hq
              exact hq
          · refine mm_iload 0 dJ1_indexOfChar_4cfef_22 rfl ?_
            refine mm_iret dJ1_indexOfChar_4cfef_24 rfl ⟨Nat.le_refl _, Nat.le_refl _⟩ ?_
            unfold nm_ix at hq
            rw [if_neg (fun q => h0 ((tx_i8 hb (by decide)).mpr q)), if_neg (fun q => h1 ((tx_i8 hb (by decide)).mpr q)), if_neg (fun q => h2 ((tx_i8 hb (by decide)).mpr q)), if_neg (fun q => h3 ((tx_i8 hb (by decide)).mpr q)), if_pos ((tx_i8 hb (by decide)).mp h4)] at hq
            exact hq
        · refine mm_iload 0 dJ1_indexOfChar_4cfef_22 rfl ?_
          refine mm_iret dJ1_indexOfChar_4cfef_24 rfl ⟨Nat.le_refl _, Nat.le_refl _⟩ ?_
          unfold nm_ix at hq
          rw [if_neg (fun q => h0 ((tx_i8 hb (by decide)).mpr q)), if_neg (fun q => h1 ((tx_i8 hb (by decide)).mpr q)), if_neg (fun q => h2 ((tx_i8 hb (by decide)).mpr q)), if_pos ((tx_i8 hb (by decide)).mp h3)] at hq
          exact hq
      · refine mm_iload 0 dJ1_indexOfChar_4cfef_22 rfl ?_
        refine mm_iret dJ1_indexOfChar_4cfef_24 rfl ⟨Nat.le_refl _, Nat.le_refl _⟩ ?_
        unfold nm_ix at hq
        rw [if_neg (fun q => h0 ((tx_i8 hb (by decide)).mpr q)), if_neg (fun q => h1 ((tx_i8 hb (by decide)).mpr q)), if_pos ((tx_i8 hb (by decide)).mp h2)] at hq
        exact hq
    · refine mm_iload 0 dJ1_indexOfChar_4cfef_22 rfl ?_
      refine mm_iret dJ1_indexOfChar_4cfef_24 rfl ⟨Nat.le_refl _, Nat.le_refl _⟩ ?_
      unfold nm_ix at hq
      rw [if_neg (fun q => h0 ((tx_i8 hb (by decide)).mpr q)), if_pos ((tx_i8 hb (by decide)).mp h1)] at hq
      exact hq
  · refine mm_iload 0 dJ1_indexOfChar_4cfef_22 rfl ?_
    refine mm_iret dJ1_indexOfChar_4cfef_24 rfl ⟨Nat.le_refl _, Nat.le_refl _⟩ ?_
    unfold nm_ix at hq
    rw [if_pos ((tx_i8 hb (by decide)).mp h0)] at hq
    exact hq
set_option maxRecDepth 100000 in
set_option maxHeartbeats 600000 in
theorem ct_enc {g : mm_G} {S : mm_Sh} {I : mm_I} {d : Nat} {b : Nat} (hb : b < 256) : mm_Ci g zJ1_canEncode_9a6ad d [.int (nI b)] S I 1 I := by
  refine mm_Ci_of (fun Q hq => ?_)
  refine mm_begin (ls := [(0, .int (nI (b)))]) (Nat.le_of_ble_eq_true rfl) rfl rfl ?_
  refine mm_iload_n 0 dJ1_canEncode_9a6ad_0 rfl rfl ?_
  refine mm_if_ltN (b) (tgt := 15) dJ1_canEncode_9a6ad_1 (by decide) (by omega) ?_
  refine mm_iload_n 0 dJ1_canEncode_9a6ad_4 rfl rfl ?_
  refine mm_sipush (v := 255) dJ1_canEncode_9a6ad_5 rfl ?_
  refine mm_icmp_gtN (b) (255) (tgt := 15) dJ1_canEncode_9a6ad_8 (by decide) (by omega) (by omega) (fun c8 => ?_) (fun c8 => ?_)
  · omega
  · refine mm_iconst (v := 1) dJ1_canEncode_9a6ad_11 rfl ?_
    refine mm_goto (tgt := 16) dJ1_canEncode_9a6ad_12 (by decide) ?_
    refine mm_zret dJ1_canEncode_9a6ad_16 rfl (by decide) ⟨Nat.le_refl _, Nat.le_refl _⟩ ?_
    exact hq
set_option maxRecDepth 100000 in
set_option maxHeartbeats 600000 in
theorem ct_ixl {g : mm_G} {S : mm_Sh} {I : mm_I} {d : Nat} {b : Nat} (hb : b < 256) (hd : 1 ≤ d) : mm_Ci g zJ1_indexOf_4cfef d [.ref (mm_KB + (50 + 12)), .int (nI b), .int 0, .int 10] S I (nm_ix b) I := by
  have ht : 12 < 14 := by decide
  refine mm_Ci_of (fun Q hq => ?_)
  refine mm_begin (ls := [(0, .ref (mm_KB + (50 + 12))), (1, .int (nI (b))), (2, .int (0)), (3, .int (10))]) (Nat.le_of_ble_eq_true rfl) rfl rfl ?_
  refine mm_iload_n 1 dJ1_indexOf_4cfef_0 rfl rfl ?_
  refine mm_cS1i (dz := d - 1) dJ1_indexOf_4cfef_1 rfl mzJ1_canEncode_9a6ad ml_J1_88 imJ1_canEncode_9a6ad (by omega) (ct_enc hb) (Nat.le_of_ble_eq_true rfl) ⟨Nat.le_refl _, Nat.le_refl _⟩ ?_
  refine mm_if_ne (tgt := 9) dJ1_indexOf_4cfef_4 (by decide) (fun _ => ?_) (fun q => absurd q (by decide))
  refine mm_iload_n 2 dJ1_indexOf_4cfef_9 rfl rfl ?_
  refine mm_iconst (v := 0) dJ1_indexOf_4cfef_10 rfl ?_
  refine mm_max dJ1_indexOf_4cfef_11 rfl ml_J1_92 jm_max (by omega) (Nat.le_of_ble_eq_true rfl) ⟨Nat.le_refl _, Nat.le_refl _⟩ ?_
  refine mm_top (v := 0) (by decide) ?_
  refine mm_istore_n (ls' := [(2, .int (0)), (0, .ref (mm_KB + (50 + 12))), (1, .int (nI (b))), (3, .int (10))]) dJ1_indexOf_4cfef_14 rfl (by decide) rfl ?_
  refine mm_iload_n 3 dJ1_indexOf_4cfef_15 rfl rfl ?_
  refine mm_aload_n 1 dJ1_indexOf_4cfef_16 rfl rfl ?_
  refine mm_blS (t := 12) dJ1_indexOf_4cfef_17 ht ?_
  refine mm_min dJ1_indexOf_4cfef_18 rfl ml_J1_38 jm_min (by omega) (Nat.le_of_ble_eq_true rfl) ⟨Nat.le_refl _, Nat.le_refl _⟩ ?_
  refine mm_at (pc' := 21) rfl ?_
  refine mm_top (v := 10) (by decide) ?_
  refine mm_istore_n (ls' := [(3, .int (10)), (2, .int (0)), (0, .ref (mm_KB + (50 + 12))), (1, .int (nI (b)))]) dJ1_indexOf_4cfef_21 rfl (by decide) rfl ?_
  refine mm_iload_n 1 dJ1_indexOf_4cfef_22 rfl rfl ?_
  refine mm_iload_n 0 dJ1_indexOf_4cfef_23 rfl rfl ?_
  refine mm_icmp_lt (tgt := 29) dJ1_indexOf_4cfef_24 (by decide) (fun _ => ?_) (fun q => absurd (by decide) q)
  refine mm_aload_n 2 dJ1_indexOf_4cfef_29 rfl rfl ?_
  refine mm_iload_n 3 dJ1_indexOf_4cfef_30 rfl rfl ?_
  refine mm_iload_n 1 dJ1_indexOf_4cfef_31 rfl rfl ?_
  refine mm_iload_n 0 dJ1_indexOf_4cfef_32 rfl rfl ?_
  refine mm_cS4i (dz := d - 1) dJ1_indexOf_4cfef_33 rfl mzJ1_indexOfChar_4cfef ml_J1_95 imJ1_indexOfChar_4cfef (by omega) (ct_ixc hb) (Nat.le_of_ble_eq_true rfl) ⟨Nat.le_refl _, Nat.le_refl _⟩ ?_
  refine mm_iret dJ1_indexOf_4cfef_36 rfl ⟨Nat.le_refl _, Nat.le_refl _⟩ ?_
  exact hq
set_option maxRecDepth 100000 in
set_option maxHeartbeats 600000 in
theorem ct_ix2 {g : mm_G} {S : mm_Sh} {I : mm_I} {d : Nat} {b : Nat} (hb : b < 256) (hd : 2 ≤ d) : mm_Ci g zJ0_indexOf_7cf53 d [.ref (mm_KB + (5 + 12)), .int (nI b), .int 0] S I (nm_ix b) I := by
  have ht : 12 < 14 := by decide
  refine mm_Ci_of (fun Q hq => ?_)
  refine mm_begin (ls := [(0, .ref (mm_KB + (5 + 12))), (1, .int (nI (b))), (2, .int (0))]) (Nat.le_of_ble_eq_true rfl) rfl rfl ?_
  refine mm_aload_n 0 dJ0_indexOf_7cf53_0 rfl rfl ?_
  refine mm_cT0i (t := 12) (dz := d - 1) dJ0_indexOf_7cf53_1 rfl mzJ0_isLatin1_aae02 ml_J0_492 imJ0_isLatin1_aae02 (by omega) (by decide) rfl (ct_isLatin1 ht) (Nat.le_of_ble_eq_true rfl) ⟨Nat.le_refl _, Nat.le_refl _⟩ ?_
  refine mm_if_eq (tgt := 23) dJ0_indexOf_7cf53_4 (by decide) (fun q => absurd q (by decide)) (fun _ => ?_)
  refine mm_aload_n 0 dJ0_indexOf_7cf53_7 rfl rfl ?_
  refine mm_gvS (t := 12) dJ0_indexOf_7cf53_8 rfl fs_J0_9 ht ?_
  refine mm_iload_n 1 dJ0_indexOf_7cf53_11 rfl rfl ?_
  refine mm_iload_n 2 dJ0_indexOf_7cf53_12 rfl rfl ?_
  refine mm_aload_n 0 dJ0_indexOf_7cf53_13 rfl rfl ?_
  refine mm_cT0i (t := 12) (dz := d - 1) dJ0_indexOf_7cf53_14 rfl mzJ0_length_8abf5 ml_J0_505 imJ0_length_8abf5 (by omega) (by decide) rfl (ct_length (by decide) (by omega)) (Nat.le_of_ble_eq_true rfl) ⟨Nat.le_refl _, Nat.le_refl _⟩ ?_
  refine mm_top (v := 10) (by decide) ?_
  refine mm_cS4i (dz := d - 1) dJ0_indexOf_7cf53_17 rfl mzJ1_indexOf_4cfef ml_J0_637 imJ1_indexOf_4cfef (by omega) (ct_ixl hb (by omega)) (Nat.le_of_ble_eq_true rfl) ⟨Nat.le_refl _, Nat.le_refl _⟩ ?_
  refine mm_goto (tgt := 36) dJ0_indexOf_7cf53_20 (by decide) ?_
  refine mm_iret dJ0_indexOf_7cf53_36 rfl ⟨Nat.le_refl _, Nat.le_refl _⟩ ?_
  exact hq
set_option maxRecDepth 100000 in
set_option maxHeartbeats 600000 in
theorem ct_ix {g : mm_G} {S : mm_Sh} {I : mm_I} {d : Nat} {b : Nat} (hb : b < 256) (hd : 3 ≤ d) : mm_Ci g zJ0_indexOf_0f7a4 d [.ref (mm_KB + (5 + 12)), .int (nI b)] S I (nm_ix b) I := by
  refine mm_Ci_of (fun Q hq => ?_)
  refine mm_begin (ls := [(0, .ref (mm_KB + (5 + 12))), (1, .int (nI (b)))]) (Nat.le_of_ble_eq_true rfl) rfl rfl ?_
  refine mm_aload_n 0 dJ0_indexOf_0f7a4_0 rfl rfl ?_
  refine mm_iload_n 1 dJ0_indexOf_0f7a4_1 rfl rfl ?_
  refine mm_iconst (v := 0) dJ0_indexOf_0f7a4_2 rfl ?_
  refine mm_cT2i (t := 12) (dz := d - 1) dJ0_indexOf_0f7a4_3 rfl mzJ0_indexOf_7cf53 ml_J0_633 imJ0_indexOf_7cf53 (by omega) (by decide) rfl (ct_ix2 hb (by omega)) (Nat.le_of_ble_eq_true rfl) ⟨Nat.le_refl _, Nat.le_refl _⟩ ?_
  refine mm_iret dJ0_indexOf_0f7a4_6 rfl ⟨Nat.le_refl _, Nat.le_refl _⟩ ?_
  exact hq
