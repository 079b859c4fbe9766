/-! the tables' words, by their places (written by a program out of the Statement's tables) -/
theorem mm_inl {l : List Cond} (h : ∀ w ∈ l, w ∈ lw_tbl) {i : Nat} {w : Cond} (hi : l[i]? = some w) (hg : goodWord w = true) : w ∈ mm_tb := List.mem_filter.mpr ⟨h w (List.mem_of_getElem? hi), hg⟩
theorem mm_sg1 : ∀ w ∈ tables_1_1, w ∈ lw_tbl := fun w h => List.mem_append_right _ (show w ∈ tables_1 from List.mem_append_left _ h)
theorem mm_sg2 : ∀ w ∈ tables_1_2, w ∈ lw_tbl := fun w h => List.mem_append_right _ (show w ∈ tables_1 from List.mem_append_right _ (List.mem_append_left _ h))
theorem mm_sg3 : ∀ w ∈ tables_1_3, w ∈ lw_tbl := fun w h => List.mem_append_right _ (show w ∈ tables_1 from List.mem_append_right _ (List.mem_append_right _ (List.mem_append_left _ h)))
theorem mm_sg4 : ∀ w ∈ tables_1_4, w ∈ lw_tbl := fun w h => List.mem_append_right _ (show w ∈ tables_1 from List.mem_append_right _ (List.mem_append_right _ (List.mem_append_right _ (List.mem_append_left _ h))))
theorem mm_sg5 : ∀ w ∈ tables_1_5, w ∈ lw_tbl := fun w h => List.mem_append_right _ (show w ∈ tables_1 from List.mem_append_right _ (List.mem_append_right _ (List.mem_append_right _ (List.mem_append_right _ (List.mem_append_left _ h)))))
theorem mm_sg6 : ∀ w ∈ tables_1_6, w ∈ lw_tbl := fun w h => List.mem_append_right _ (show w ∈ tables_1 from List.mem_append_right _ (List.mem_append_right _ (List.mem_append_right _ (List.mem_append_right _ (List.mem_append_right _ (List.mem_append_left _ h))))))
theorem mm_sg7 : ∀ w ∈ tables_1_7, w ∈ lw_tbl := fun w h => List.mem_append_right _ (show w ∈ tables_1 from List.mem_append_right _ (List.mem_append_right _ (List.mem_append_right _ (List.mem_append_right _ (List.mem_append_right _ (List.mem_append_right _ (List.mem_append_left _ h)))))))
theorem mm_sg8 : ∀ w ∈ tables_1_8, w ∈ lw_tbl := fun w h => List.mem_append_right _ (show w ∈ tables_1 from List.mem_append_right _ (List.mem_append_right _ (List.mem_append_right _ (List.mem_append_right _ (List.mem_append_right _ (List.mem_append_right _ (List.mem_append_right _ (List.mem_append_left _ h))))))))
theorem mm_sg9 : ∀ w ∈ tables_1_9, w ∈ lw_tbl := fun w h => List.mem_append_right _ (show w ∈ tables_1 from List.mem_append_right _ (List.mem_append_right _ (List.mem_append_right _ (List.mem_append_right _ (List.mem_append_right _ (List.mem_append_right _ (List.mem_append_right _ (List.mem_append_right _ (h)))))))))
theorem mm_sgp : ∀ w ∈ k2_sels lw_privs, w ∈ lw_tbl := fun w h => List.mem_append_left _ h
theorem mm_wX0 : ∀ w ∈ u_ws RX0 TX0 (mm_N 0), w ∈ mm_tb := by
  intro w hw
  obtain ⟨k, hk, rfl⟩ := List.mem_map.mp hw
  have hk : k < 11 := List.mem_range.mp hk
  rcases (show k = 0 ∨ k = 1 ∨ k = 2 ∨ k = 3 ∨ k = 4 ∨ k = 5 ∨ k = 6 ∨ k = 7 ∨ k = 8 ∨ k = 9 ∨ k = 10 by omega) with rfl | rfl | rfl | rfl | rfl | rfl | rfl | rfl | rfl | rfl | rfl
  · exact mm_inl mm_sg1 (i := 103) (by decide +kernel) (by decide +kernel)
  · exact mm_inl mm_sg1 (i := 105) (by decide +kernel) (by decide +kernel)
  · exact mm_inl mm_sg1 (i := 107) (by decide +kernel) (by decide +kernel)
  · exact mm_inl mm_sg1 (i := 109) (by decide +kernel) (by decide +kernel)
  · exact mm_inl mm_sg1 (i := 111) (by decide +kernel) (by decide +kernel)
  · exact mm_inl mm_sg1 (i := 113) (by decide +kernel) (by decide +kernel)
  · exact mm_inl mm_sg1 (i := 115) (by decide +kernel) (by decide +kernel)
  · exact mm_inl mm_sg1 (i := 117) (by decide +kernel) (by decide +kernel)
  · exact mm_inl mm_sg1 (i := 119) (by decide +kernel) (by decide +kernel)
  · exact mm_inl mm_sg1 (i := 121) (by decide +kernel) (by decide +kernel)
  · exact mm_inl mm_sg1 (i := 123) (by decide +kernel) (by decide +kernel)
theorem mm_tX0 : ∀ j, j < mm_N 0 → parseFieldDescriptor (TX0 j).2.2.1 = some (mm_ty 0 j) := tyX0_ok
theorem mm_dX0 : ∀ j, j < mm_N 0 → defaultValue (mm_ty 0 j) = if mm_nu 0 j then .int 0 else .null := by decide +kernel
theorem mm_nX0 : ∀ a, a < mm_N 0 → ∀ b, b < mm_N 0 → a ≠ b → (TX0 a).2.1 ≠ (TX0 b).2.1 := nmX0
theorem mm_iX0 : Cond.instantiable RX0 (mm_N 0) ∈ mm_tb ∧ Cond.initialized RX0 ∈ mm_tb := ⟨mm_inl mm_sg1 (i := 37) (by decide +kernel) (by decide +kernel), mm_inl mm_sg1 (i := 3) (by decide +kernel) (by decide +kernel)⟩
theorem mm_wX1 : ∀ w ∈ u_ws RX1 TX1 (mm_N 1), w ∈ mm_tb := by
  intro w hw
  obtain ⟨k, hk, rfl⟩ := List.mem_map.mp hw
  have hk : k < 9 := List.mem_range.mp hk
  rcases (show k = 0 ∨ k = 1 ∨ k = 2 ∨ k = 3 ∨ k = 4 ∨ k = 5 ∨ k = 6 ∨ k = 7 ∨ k = 8 by omega) with rfl | rfl | rfl | rfl | rfl | rfl | rfl | rfl | rfl
  · exact mm_inl mm_sg2 (i := 26) (by decide +kernel) (by decide +kernel)
  · exact mm_inl mm_sg2 (i := 28) (by decide +kernel) (by decide +kernel)
  · exact mm_inl mm_sg2 (i := 30) (by decide +kernel) (by decide +kernel)
  · exact mm_inl mm_sg2 (i := 32) (by decide +kernel) (by decide +kernel)
  · exact mm_inl mm_sg2 (i := 34) (by decide +kernel) (by decide +kernel)
  · exact mm_inl mm_sg2 (i := 36) (by decide +kernel) (by decide +kernel)
  · exact mm_inl mm_sg2 (i := 38) (by decide +kernel) (by decide +kernel)
  · exact mm_inl mm_sg2 (i := 40) (by decide +kernel) (by decide +kernel)
  · exact mm_inl mm_sg2 (i := 42) (by decide +kernel) (by decide +kernel)
theorem mm_tX1 : ∀ j, j < mm_N 1 → parseFieldDescriptor (TX1 j).2.2.1 = some (mm_ty 1 j) := tyX1_ok
theorem mm_dX1 : ∀ j, j < mm_N 1 → defaultValue (mm_ty 1 j) = if mm_nu 1 j then .int 0 else .null := by decide +kernel
theorem mm_nX1 : ∀ a, a < mm_N 1 → ∀ b, b < mm_N 1 → a ≠ b → (TX1 a).2.1 ≠ (TX1 b).2.1 := nmX1
theorem mm_iX1 : Cond.instantiable RX1 (mm_N 1) ∈ mm_tb ∧ Cond.initialized RX1 ∈ mm_tb := ⟨mm_inl mm_sg1 (i := 222) (by decide +kernel) (by decide +kernel), mm_inl mm_sg1 (i := 8) (by decide +kernel) (by decide +kernel)⟩
theorem mm_wX2 : ∀ w ∈ u_ws RX2 TX2 (mm_N 2), w ∈ mm_tb := by
  intro w hw
  obtain ⟨k, hk, rfl⟩ := List.mem_map.mp hw
  have hk : k < 7 := List.mem_range.mp hk
  rcases (show k = 0 ∨ k = 1 ∨ k = 2 ∨ k = 3 ∨ k = 4 ∨ k = 5 ∨ k = 6 by omega) with rfl | rfl | rfl | rfl | rfl | rfl | rfl
  · exact mm_inl mm_sg2 (i := 164) (by decide +kernel) (by decide +kernel)
  · exact mm_inl mm_sg2 (i := 166) (by decide +kernel) (by decide +kernel)
  · exact mm_inl mm_sg2 (i := 168) (by decide +kernel) (by decide +kernel)
  · exact mm_inl mm_sg2 (i := 170) (by decide +kernel) (by decide +kernel)
  · exact mm_inl mm_sg2 (i := 172) (by decide +kernel) (by decide +kernel)
  · exact mm_inl mm_sg2 (i := 174) (by decide +kernel) (by decide +kernel)
  · exact mm_inl mm_sg2 (i := 176) (by decide +kernel) (by decide +kernel)
theorem mm_tX2 : ∀ j, j < mm_N 2 → parseFieldDescriptor (TX2 j).2.2.1 = some (mm_ty 2 j) := tyX2_ok
theorem mm_dX2 : ∀ j, j < mm_N 2 → defaultValue (mm_ty 2 j) = if mm_nu 2 j then .int 0 else .null := by decide +kernel
theorem mm_nX2 : ∀ a, a < mm_N 2 → ∀ b, b < mm_N 2 → a ≠ b → (TX2 a).2.1 ≠ (TX2 b).2.1 := nmX2
theorem mm_iX2 : Cond.instantiable RX2 (mm_N 2) ∈ mm_tb ∧ Cond.initialized RX2 ∈ mm_tb := ⟨mm_inl mm_sg2 (i := 123) (by decide +kernel) (by decide +kernel), mm_inl mm_sg1 (i := 11) (by decide +kernel) (by decide +kernel)⟩
theorem mm_wX3 : ∀ w ∈ u_ws RX3 TX3 (mm_N 3), w ∈ mm_tb := by
  intro w hw
  obtain ⟨k, hk, rfl⟩ := List.mem_map.mp hw
  have hk : k < 10 := List.mem_range.mp hk
  rcases (show k = 0 ∨ k = 1 ∨ k = 2 ∨ k = 3 ∨ k = 4 ∨ k = 5 ∨ k = 6 ∨ k = 7 ∨ k = 8 ∨ k = 9 by omega) with rfl | rfl | rfl | rfl | rfl | rfl | rfl | rfl | rfl | rfl
  · exact mm_inl mm_sg1 (i := 156) (by decide +kernel) (by decide +kernel)
  · exact mm_inl mm_sg1 (i := 158) (by decide +kernel) (by decide +kernel)
  · exact mm_inl mm_sg1 (i := 160) (by decide +kernel) (by decide +kernel)
  · exact mm_inl mm_sg1 (i := 162) (by decide +kernel) (by decide +kernel)
  · exact mm_inl mm_sg1 (i := 164) (by decide +kernel) (by decide +kernel)
  · exact mm_inl mm_sg1 (i := 166) (by decide +kernel) (by decide +kernel)
  · exact mm_inl mm_sg1 (i := 168) (by decide +kernel) (by decide +kernel)
  · exact mm_inl mm_sg1 (i := 170) (by decide +kernel) (by decide +kernel)
  · exact mm_inl mm_sg1 (i := 172) (by decide +kernel) (by decide +kernel)
  · exact mm_inl mm_sg1 (i := 174) (by decide +kernel) (by decide +kernel)
theorem mm_tX3 : ∀ j, j < mm_N 3 → parseFieldDescriptor (TX3 j).2.2.1 = some (mm_ty 3 j) := tyX3_ok
theorem mm_dX3 : ∀ j, j < mm_N 3 → defaultValue (mm_ty 3 j) = if mm_nu 3 j then .int 0 else .null := by decide +kernel
theorem mm_nX3 : ∀ a, a < mm_N 3 → ∀ b, b < mm_N 3 → a ≠ b → (TX3 a).2.1 ≠ (TX3 b).2.1 := nmX3
theorem mm_iX3 : Cond.instantiable RX3 (mm_N 3) ∈ mm_tb ∧ Cond.initialized RX3 ∈ mm_tb := ⟨mm_inl mm_sg1 (i := 127) (by decide +kernel) (by decide +kernel), mm_inl mm_sg1 (i := 6) (by decide +kernel) (by decide +kernel)⟩
theorem mm_wX4 : ∀ w ∈ u_ws RX4 TX4 (mm_N 4), w ∈ mm_tb := by
  intro w hw
  obtain ⟨k, hk, rfl⟩ := List.mem_map.mp hw
  have hk : k < 3 := List.mem_range.mp hk
  rcases (show k = 0 ∨ k = 1 ∨ k = 2 by omega) with rfl | rfl | rfl
  · exact mm_inl mm_sg2 (i := 61) (by decide +kernel) (by decide +kernel)
  · exact mm_inl mm_sg2 (i := 63) (by decide +kernel) (by decide +kernel)
  · exact mm_inl mm_sg2 (i := 65) (by decide +kernel) (by decide +kernel)
theorem mm_tX4 : ∀ j, j < mm_N 4 → parseFieldDescriptor (TX4 j).2.2.1 = some (mm_ty 4 j) := tyX4_ok
theorem mm_dX4 : ∀ j, j < mm_N 4 → defaultValue (mm_ty 4 j) = if mm_nu 4 j then .int 0 else .null := by decide +kernel
theorem mm_nX4 : ∀ a, a < mm_N 4 → ∀ b, b < mm_N 4 → a ≠ b → (TX4 a).2.1 ≠ (TX4 b).2.1 := nmX4
theorem mm_iX4 : Cond.instantiable RX4 (mm_N 4) ∈ mm_tb ∧ Cond.initialized RX4 ∈ mm_tb := ⟨mm_inl mm_sg2 (i := 47) (by decide +kernel) (by decide +kernel), mm_inl mm_sg1 (i := 9) (by decide +kernel) (by decide +kernel)⟩
theorem mm_wX5 : ∀ w ∈ u_ws RX5 TX5 (mm_N 5), w ∈ mm_tb := by
  intro w hw
  obtain ⟨k, hk, rfl⟩ := List.mem_map.mp hw
  have hk : k < 2 := List.mem_range.mp hk
  rcases (show k = 0 ∨ k = 1 by omega) with rfl | rfl
  · exact mm_inl mm_sg1 (i := 53) (by decide +kernel) (by decide +kernel)
  · exact mm_inl mm_sg1 (i := 55) (by decide +kernel) (by decide +kernel)
theorem mm_tX5 : ∀ j, j < mm_N 5 → parseFieldDescriptor (TX5 j).2.2.1 = some (mm_ty 5 j) := tyX5_ok
theorem mm_dX5 : ∀ j, j < mm_N 5 → defaultValue (mm_ty 5 j) = if mm_nu 5 j then .int 0 else .null := by decide +kernel
theorem mm_nX5 : ∀ a, a < mm_N 5 → ∀ b, b < mm_N 5 → a ≠ b → (TX5 a).2.1 ≠ (TX5 b).2.1 := nmX5
theorem mm_iX5 : Cond.instantiable RX5 (mm_N 5) ∈ mm_tb ∧ Cond.initialized RX5 ∈ mm_tb := ⟨mm_inl mm_sg1 (i := 43) (by decide +kernel) (by decide +kernel), mm_inl mm_sg1 (i := 4) (by decide +kernel) (by decide +kernel)⟩
theorem mm_wX6 : ∀ w ∈ u_ws RX6 TX6 (mm_N 6), w ∈ mm_tb := by
  intro w hw
  obtain ⟨k, hk, rfl⟩ := List.mem_map.mp hw
  have hk : k < 2 := List.mem_range.mp hk
  rcases (show k = 0 ∨ k = 1 by omega) with rfl | rfl
  · exact mm_inl mm_sg2 (i := 115) (by decide +kernel) (by decide +kernel)
  · exact mm_inl mm_sg2 (i := 117) (by decide +kernel) (by decide +kernel)
theorem mm_tX6 : ∀ j, j < mm_N 6 → parseFieldDescriptor (TX6 j).2.2.1 = some (mm_ty 6 j) := tyX6_ok
theorem mm_dX6 : ∀ j, j < mm_N 6 → defaultValue (mm_ty 6 j) = if mm_nu 6 j then .int 0 else .null := by decide +kernel
theorem mm_nX6 : ∀ a, a < mm_N 6 → ∀ b, b < mm_N 6 → a ≠ b → (TX6 a).2.1 ≠ (TX6 b).2.1 := nmX6
theorem mm_iX6 : Cond.instantiable RX6 (mm_N 6) ∈ mm_tb ∧ Cond.initialized RX6 ∈ mm_tb := ⟨mm_inl mm_sg2 (i := 106) (by decide +kernel) (by decide +kernel), mm_inl mm_sg1 (i := 10) (by decide +kernel) (by decide +kernel)⟩
theorem mm_wX7 : ∀ w ∈ u_ws RX7 TX7 (mm_N 7), w ∈ mm_tb := by
  intro w hw
  obtain ⟨k, hk, rfl⟩ := List.mem_map.mp hw
  have hk : k < 3 := List.mem_range.mp hk
  rcases (show k = 0 ∨ k = 1 ∨ k = 2 by omega) with rfl | rfl | rfl
  · exact mm_inl mm_sg2 (i := 190) (by decide +kernel) (by decide +kernel)
  · exact mm_inl mm_sg2 (i := 192) (by decide +kernel) (by decide +kernel)
  · exact mm_inl mm_sg2 (i := 194) (by decide +kernel) (by decide +kernel)
theorem mm_tX7 : ∀ j, j < mm_N 7 → parseFieldDescriptor (TX7 j).2.2.1 = some (mm_ty 7 j) := tyX7_ok
theorem mm_dX7 : ∀ j, j < mm_N 7 → defaultValue (mm_ty 7 j) = if mm_nu 7 j then .int 0 else .null := by decide +kernel
theorem mm_nX7 : ∀ a, a < mm_N 7 → ∀ b, b < mm_N 7 → a ≠ b → (TX7 a).2.1 ≠ (TX7 b).2.1 := nmX7
theorem mm_iX7 : Cond.instantiable RX7 (mm_N 7) ∈ mm_tb ∧ Cond.initialized RX7 ∈ mm_tb := ⟨mm_inl mm_sg2 (i := 180) (by decide +kernel) (by decide +kernel), mm_inl mm_sg1 (i := 13) (by decide +kernel) (by decide +kernel)⟩
theorem mm_wX8 : ∀ w ∈ u_ws RX8 TX8 (mm_N 8), w ∈ mm_tb := by
  intro w hw
  obtain ⟨k, hk, rfl⟩ := List.mem_map.mp hw
  have hk : k < 8 := List.mem_range.mp hk
  rcases (show k = 0 ∨ k = 1 ∨ k = 2 ∨ k = 3 ∨ k = 4 ∨ k = 5 ∨ k = 6 ∨ k = 7 by omega) with rfl | rfl | rfl | rfl | rfl | rfl | rfl | rfl
  · exact mm_inl mm_sg2 (i := 88) (by decide +kernel) (by decide +kernel)
  · exact mm_inl mm_sg2 (i := 90) (by decide +kernel) (by decide +kernel)
  · exact mm_inl mm_sg2 (i := 92) (by decide +kernel) (by decide +kernel)
  · exact mm_inl mm_sg2 (i := 94) (by decide +kernel) (by decide +kernel)
  · exact mm_inl mm_sg2 (i := 96) (by decide +kernel) (by decide +kernel)
  · exact mm_inl mm_sg2 (i := 98) (by decide +kernel) (by decide +kernel)
  · exact mm_inl mm_sg2 (i := 100) (by decide +kernel) (by decide +kernel)
  · exact mm_inl mm_sg2 (i := 102) (by decide +kernel) (by decide +kernel)
theorem mm_tX8 : ∀ j, j < mm_N 8 → parseFieldDescriptor (TX8 j).2.2.1 = some (mm_ty 8 j) := tyX8_ok
theorem mm_dX8 : ∀ j, j < mm_N 8 → defaultValue (mm_ty 8 j) = if mm_nu 8 j then .int 0 else .null := by decide +kernel
theorem mm_nX8 : ∀ a, a < mm_N 8 → ∀ b, b < mm_N 8 → a ≠ b → (TX8 a).2.1 ≠ (TX8 b).2.1 := nmX8
theorem mm_iX8 : Cond.instantiable RX8 (mm_N 8) ∈ mm_tb ∧ Cond.initialized RX8 ∈ mm_tb := ⟨mm_inl mm_sg1 (i := 31) (by decide +kernel) (by decide +kernel), mm_inl mm_sg1 (i := 2) (by decide +kernel) (by decide +kernel)⟩
theorem mm_wX9 : ∀ w ∈ u_ws RX9 TX9 (mm_N 9), w ∈ mm_tb := by
  intro w hw
  obtain ⟨k, hk, rfl⟩ := List.mem_map.mp hw
  have hk : k < 4 := List.mem_range.mp hk
  rcases (show k = 0 ∨ k = 1 ∨ k = 2 ∨ k = 3 by omega) with rfl | rfl | rfl | rfl
  · exact mm_inl mm_sg2 (i := 143) (by decide +kernel) (by decide +kernel)
  · exact mm_inl mm_sg2 (i := 145) (by decide +kernel) (by decide +kernel)
  · exact mm_inl mm_sg2 (i := 147) (by decide +kernel) (by decide +kernel)
  · exact mm_inl mm_sg2 (i := 149) (by decide +kernel) (by decide +kernel)
theorem mm_tX9 : ∀ j, j < mm_N 9 → parseFieldDescriptor (TX9 j).2.2.1 = some (mm_ty 9 j) := tyX9_ok
theorem mm_dX9 : ∀ j, j < mm_N 9 → defaultValue (mm_ty 9 j) = if mm_nu 9 j then .int 0 else .null := by decide +kernel
theorem mm_nX9 : ∀ a, a < mm_N 9 → ∀ b, b < mm_N 9 → a ≠ b → (TX9 a).2.1 ≠ (TX9 b).2.1 := nmX9
theorem mm_iX9 : Cond.instantiable RX9 (mm_N 9) ∈ mm_tb ∧ Cond.initialized RX9 ∈ mm_tb := ⟨mm_inl mm_sg2 (i := 129) (by decide +kernel) (by decide +kernel), mm_inl mm_sg1 (i := 12) (by decide +kernel) (by decide +kernel)⟩
theorem mm_wX10 : ∀ w ∈ u_ws RX10 TX10 (mm_N 10), w ∈ mm_tb := by
  intro w hw
  obtain ⟨k, hk, rfl⟩ := List.mem_map.mp hw
  have hk : k < 11 := List.mem_range.mp hk
  rcases (show k = 0 ∨ k = 1 ∨ k = 2 ∨ k = 3 ∨ k = 4 ∨ k = 5 ∨ k = 6 ∨ k = 7 ∨ k = 8 ∨ k = 9 ∨ k = 10 by omega) with rfl | rfl | rfl | rfl | rfl | rfl | rfl | rfl | rfl | rfl | rfl
  · exact mm_inl mm_sg1 (i := 197) (by decide +kernel) (by decide +kernel)
  · exact mm_inl mm_sg1 (i := 199) (by decide +kernel) (by decide +kernel)
  · exact mm_inl mm_sg1 (i := 201) (by decide +kernel) (by decide +kernel)
  · exact mm_inl mm_sg1 (i := 203) (by decide +kernel) (by decide +kernel)
  · exact mm_inl mm_sg1 (i := 205) (by decide +kernel) (by decide +kernel)
  · exact mm_inl mm_sg1 (i := 207) (by decide +kernel) (by decide +kernel)
  · exact mm_inl mm_sg1 (i := 209) (by decide +kernel) (by decide +kernel)
  · exact mm_inl mm_sg1 (i := 211) (by decide +kernel) (by decide +kernel)
  · exact mm_inl mm_sg1 (i := 213) (by decide +kernel) (by decide +kernel)
  · exact mm_inl mm_sg1 (i := 215) (by decide +kernel) (by decide +kernel)
  · exact mm_inl mm_sg1 (i := 217) (by decide +kernel) (by decide +kernel)
theorem mm_tX10 : ∀ j, j < mm_N 10 → parseFieldDescriptor (TX10 j).2.2.1 = some (mm_ty 10 j) := tyX10_ok
theorem mm_dX10 : ∀ j, j < mm_N 10 → defaultValue (mm_ty 10 j) = if mm_nu 10 j then .int 0 else .null := by decide +kernel
theorem mm_nX10 : ∀ a, a < mm_N 10 → ∀ b, b < mm_N 10 → a ≠ b → (TX10 a).2.1 ≠ (TX10 b).2.1 := nmX10
theorem mm_iX10 : Cond.instantiable RX10 (mm_N 10) ∈ mm_tb ∧ Cond.initialized RX10 ∈ mm_tb := ⟨mm_inl mm_sg1 (i := 178) (by decide +kernel) (by decide +kernel), mm_inl mm_sg1 (i := 7) (by decide +kernel) (by decide +kernel)⟩
theorem mm_wX11 : ∀ w ∈ u_ws RX11 TX11 (mm_N 11), w ∈ mm_tb := by
  intro w hw
  obtain ⟨k, hk, rfl⟩ := List.mem_map.mp hw
  have hk : k < 9 := List.mem_range.mp hk
  rcases (show k = 0 ∨ k = 1 ∨ k = 2 ∨ k = 3 ∨ k = 4 ∨ k = 5 ∨ k = 6 ∨ k = 7 ∨ k = 8 by omega) with rfl | rfl | rfl | rfl | rfl | rfl | rfl | rfl | rfl
  · exact mm_inl mm_sg2 (i := 206) (by decide +kernel) (by decide +kernel)
  · exact mm_inl mm_sg2 (i := 208) (by decide +kernel) (by decide +kernel)
  · exact mm_inl mm_sg2 (i := 210) (by decide +kernel) (by decide +kernel)
  · exact mm_inl mm_sg2 (i := 212) (by decide +kernel) (by decide +kernel)
  · exact mm_inl mm_sg2 (i := 214) (by decide +kernel) (by decide +kernel)
  · exact mm_inl mm_sg2 (i := 216) (by decide +kernel) (by decide +kernel)
  · exact mm_inl mm_sg2 (i := 218) (by decide +kernel) (by decide +kernel)
  · exact mm_inl mm_sg2 (i := 220) (by decide +kernel) (by decide +kernel)
  · exact mm_inl mm_sg2 (i := 222) (by decide +kernel) (by decide +kernel)
theorem mm_tX11 : ∀ j, j < mm_N 11 → parseFieldDescriptor (TX11 j).2.2.1 = some (mm_ty 11 j) := tyX11_ok
theorem mm_dX11 : ∀ j, j < mm_N 11 → defaultValue (mm_ty 11 j) = if mm_nu 11 j then .int 0 else .null := by decide +kernel
theorem mm_nX11 : ∀ a, a < mm_N 11 → ∀ b, b < mm_N 11 → a ≠ b → (TX11 a).2.1 ≠ (TX11 b).2.1 := nmX11
theorem mm_iX11 : Cond.instantiable RX11 (mm_N 11) ∈ mm_tb ∧ Cond.initialized RX11 ∈ mm_tb := ⟨mm_inl mm_sg1 (i := 23) (by decide +kernel) (by decide +kernel), mm_inl mm_sg1 (i := 1) (by decide +kernel) (by decide +kernel)⟩
theorem mm_wX12 : ∀ w ∈ u_ws RX12 TX12 (mm_N 12), w ∈ mm_tb := by
  intro w hw
  obtain ⟨k, hk, rfl⟩ := List.mem_map.mp hw
  have hk : k < 31 := List.mem_range.mp hk
  rcases (show k = 0 ∨ k = 1 ∨ k = 2 ∨ k = 3 ∨ k = 4 ∨ k = 5 ∨ k = 6 ∨ k = 7 ∨ k = 8 ∨ k = 9 ∨ k = 10 ∨ k = 11 ∨ k = 12 ∨ k = 13 ∨ k = 14 ∨ k = 15 ∨ k = 16 ∨ k = 17 ∨ k = 18 ∨ k = 19 ∨ k = 20 ∨ k = 21 ∨ k = 22 ∨ k = 23 ∨ k = 24 ∨ k = 25 ∨ k = 26 ∨ k = 27 ∨ k = 28 ∨ k = 29 ∨ k = 30 by omega) with rfl | rfl | rfl | rfl | rfl | rfl | rfl | rfl | rfl | rfl | rfl | rfl | rfl | rfl | rfl | rfl | rfl | rfl | rfl | rfl | rfl | rfl | rfl | rfl | rfl | rfl | rfl | rfl | rfl | rfl | rfl
  · exact mm_inl mm_sg7 (i := 4) (by decide +kernel) (by decide +kernel)
  · exact mm_inl mm_sg7 (i := 6) (by decide +kernel) (by decide +kernel)
  · exact mm_inl mm_sg7 (i := 8) (by decide +kernel) (by decide +kernel)
  · exact mm_inl mm_sg7 (i := 10) (by decide +kernel) (by decide +kernel)
  · exact mm_inl mm_sg7 (i := 12) (by decide +kernel) (by decide +kernel)
  · exact mm_inl mm_sg7 (i := 14) (by decide +kernel) (by decide +kernel)
  · exact mm_inl mm_sg7 (i := 16) (by decide +kernel) (by decide +kernel)
  · exact mm_inl mm_sg7 (i := 18) (by decide +kernel) (by decide +kernel)
  · exact mm_inl mm_sg7 (i := 20) (by decide +kernel) (by decide +kernel)
  · exact mm_inl mm_sg7 (i := 22) (by decide +kernel) (by decide +kernel)
  · exact mm_inl mm_sg7 (i := 24) (by decide +kernel) (by decide +kernel)
  · exact mm_inl mm_sg7 (i := 26) (by decide +kernel) (by decide +kernel)
  · exact mm_inl mm_sg7 (i := 28) (by decide +kernel) (by decide +kernel)
  · exact mm_inl mm_sg7 (i := 30) (by decide +kernel) (by decide +kernel)
  · exact mm_inl mm_sg7 (i := 32) (by decide +kernel) (by decide +kernel)
  · exact mm_inl mm_sg7 (i := 34) (by decide +kernel) (by decide +kernel)
  · exact mm_inl mm_sg7 (i := 36) (by decide +kernel) (by decide +kernel)
  · exact mm_inl mm_sg7 (i := 38) (by decide +kernel) (by decide +kernel)
  · exact mm_inl mm_sg7 (i := 40) (by decide +kernel) (by decide +kernel)
  · exact mm_inl mm_sg7 (i := 42) (by decide +kernel) (by decide +kernel)
  · exact mm_inl mm_sg7 (i := 44) (by decide +kernel) (by decide +kernel)
  · exact mm_inl mm_sg7 (i := 46) (by decide +kernel) (by decide +kernel)
  · exact mm_inl mm_sg7 (i := 48) (by decide +kernel) (by decide +kernel)
  · exact mm_inl mm_sg7 (i := 50) (by decide +kernel) (by decide +kernel)
  · exact mm_inl mm_sg7 (i := 52) (by decide +kernel) (by decide +kernel)
  · exact mm_inl mm_sg7 (i := 54) (by decide +kernel) (by decide +kernel)
  · exact mm_inl mm_sg7 (i := 56) (by decide +kernel) (by decide +kernel)
  · exact mm_inl mm_sg7 (i := 58) (by decide +kernel) (by decide +kernel)
  · exact mm_inl mm_sg7 (i := 60) (by decide +kernel) (by decide +kernel)
  · exact mm_inl mm_sg7 (i := 62) (by decide +kernel) (by decide +kernel)
  · exact mm_inl mm_sg7 (i := 64) (by decide +kernel) (by decide +kernel)
theorem mm_tX12 : ∀ j, j < mm_N 12 → parseFieldDescriptor (TX12 j).2.2.1 = some (mm_ty 12 j) := tyX12_ok
theorem mm_dX12 : ∀ j, j < mm_N 12 → defaultValue (mm_ty 12 j) = if mm_nu 12 j then .int 0 else .null := by decide +kernel
theorem mm_nX12 : ∀ a, a < mm_N 12 → ∀ b, b < mm_N 12 → a ≠ b → (TX12 a).2.1 ≠ (TX12 b).2.1 := nmX12
theorem mm_iX12 : Cond.instantiable RX12 (mm_N 12) ∈ mm_tb ∧ Cond.initialized RX12 ∈ mm_tb := ⟨mm_inl mm_sg6 (i := 191) (by decide +kernel) (by decide +kernel), mm_inl mm_sg1 (i := 14) (by decide +kernel) (by decide +kernel)⟩
theorem fk_X0_14 : mm_F RX0 14 0 2 := ⟨_, _, rfl, by decide, mm_wX0, mm_inl mm_sg1 (i := 82) (by decide +kernel) (by decide +kernel), mm_tX0, mm_nX0⟩
theorem fk_X0_20 : mm_F RX0 20 0 3 := ⟨_, _, rfl, by decide, mm_wX0, mm_inl mm_sg1 (i := 85) (by decide +kernel) (by decide +kernel), mm_tX0, mm_nX0⟩
theorem fk_X0_23 : mm_F RX0 23 0 4 := ⟨_, _, rfl, by decide, mm_wX0, mm_inl mm_sg1 (i := 88) (by decide +kernel) (by decide +kernel), mm_tX0, mm_nX0⟩
theorem fk_X0_26 : mm_F RX0 26 0 5 := ⟨_, _, rfl, by decide, mm_wX0, mm_inl mm_sg1 (i := 91) (by decide +kernel) (by decide +kernel), mm_tX0, mm_nX0⟩
theorem fk_X0_29 : mm_F RX0 29 0 6 := ⟨_, _, rfl, by decide, mm_wX0, mm_inl mm_sg1 (i := 92) (by decide +kernel) (by decide +kernel), mm_tX0, mm_nX0⟩
theorem fk_X0_32 : mm_F RX0 32 0 9 := ⟨_, _, rfl, by decide, mm_wX0, mm_inl mm_sg1 (i := 100) (by decide +kernel) (by decide +kernel), mm_tX0, mm_nX0⟩
theorem fk_X0_35 : mm_F RX0 35 0 10 := ⟨_, _, rfl, by decide, mm_wX0, mm_inl mm_sg1 (i := 102) (by decide +kernel) (by decide +kernel), mm_tX0, mm_nX0⟩
theorem fk_X0_42 : mm_F RX0 42 0 0 := ⟨_, _, rfl, by decide, mm_wX0, mm_inl mm_sg1 (i := 78) (by decide +kernel) (by decide +kernel), mm_tX0, mm_nX0⟩
theorem fk_X0_46 : mm_F RX0 46 0 1 := ⟨_, _, rfl, by decide, mm_wX0, mm_inl mm_sg1 (i := 80) (by decide +kernel) (by decide +kernel), mm_tX0, mm_nX0⟩
theorem fk_X0_59 : mm_F RX0 59 0 7 := ⟨_, _, rfl, by decide, mm_wX0, mm_inl mm_sg1 (i := 95) (by decide +kernel) (by decide +kernel), mm_tX0, mm_nX0⟩
theorem fk_X0_62 : mm_F RX0 62 0 8 := ⟨_, _, rfl, by decide, mm_wX0, mm_inl mm_sg1 (i := 98) (by decide +kernel) (by decide +kernel), mm_tX0, mm_nX0⟩
theorem fk_X1_16 : mm_F RX1 16 1 8 := ⟨_, _, rfl, by decide, mm_wX1, mm_inl mm_sg2 (i := 24) (by decide +kernel) (by decide +kernel), mm_tX1, mm_nX1⟩
theorem fk_X1_26 : mm_F RX1 26 1 0 := ⟨_, _, rfl, by decide, mm_wX1, mm_inl mm_sg1 (i := 238) (by decide +kernel) (by decide +kernel), mm_tX1, mm_nX1⟩
theorem fk_X1_30 : mm_F RX1 30 1 1 := ⟨_, _, rfl, by decide, mm_wX1, mm_inl mm_sg2 (i := 0) (by decide +kernel) (by decide +kernel), mm_tX1, mm_nX1⟩
theorem fk_X1_33 : mm_F RX1 33 1 2 := ⟨_, _, rfl, by decide, mm_wX1, mm_inl mm_sg2 (i := 4) (by decide +kernel) (by decide +kernel), mm_tX1, mm_nX1⟩
theorem fk_X1_36 : mm_F RX1 36 1 3 := ⟨_, _, rfl, by decide, mm_wX1, mm_inl mm_sg2 (i := 7) (by decide +kernel) (by decide +kernel), mm_tX1, mm_nX1⟩
theorem fk_X1_39 : mm_F RX1 39 1 4 := ⟨_, _, rfl, by decide, mm_wX1, mm_inl mm_sg2 (i := 10) (by decide +kernel) (by decide +kernel), mm_tX1, mm_nX1⟩
theorem fk_X1_42 : mm_F RX1 42 1 5 := ⟨_, _, rfl, by decide, mm_wX1, mm_inl mm_sg2 (i := 14) (by decide +kernel) (by decide +kernel), mm_tX1, mm_nX1⟩
theorem fk_X1_48 : mm_F RX1 48 1 6 := ⟨_, _, rfl, by decide, mm_wX1, mm_inl mm_sg2 (i := 18) (by decide +kernel) (by decide +kernel), mm_tX1, mm_nX1⟩
theorem fk_X1_51 : mm_F RX1 51 1 7 := ⟨_, _, rfl, by decide, mm_wX1, mm_inl mm_sg2 (i := 22) (by decide +kernel) (by decide +kernel), mm_tX1, mm_nX1⟩
theorem fk_X2_114 : mm_F RX2 114 4 2 := ⟨_, _, rfl, by decide, mm_wX4, mm_inl mm_sg2 (i := 59) (by decide +kernel) (by decide +kernel), mm_tX4, mm_nX4⟩
theorem fk_X2_126 : mm_F RX2 126 4 1 := ⟨_, _, rfl, by decide, mm_wX4, mm_inl mm_sg2 (i := 56) (by decide +kernel) (by decide +kernel), mm_tX4, mm_nX4⟩
theorem fk_X2_14 : mm_F RX2 14 2 0 := ⟨_, _, rfl, by decide, mm_wX2, mm_inl mm_sg2 (i := 156) (by decide +kernel) (by decide +kernel), mm_tX2, mm_nX2⟩
theorem fk_X2_23 : mm_F RX2 23 2 1 := ⟨_, _, rfl, by decide, mm_wX2, mm_inl mm_sg2 (i := 157) (by decide +kernel) (by decide +kernel), mm_tX2, mm_nX2⟩
theorem fk_X2_32 : mm_F RX2 32 2 2 := ⟨_, _, rfl, by decide, mm_wX2, mm_inl mm_sg2 (i := 159) (by decide +kernel) (by decide +kernel), mm_tX2, mm_nX2⟩
theorem fk_X2_45 : mm_F RX2 45 2 3 := ⟨_, _, rfl, by decide, mm_wX2, mm_inl mm_sg2 (i := 160) (by decide +kernel) (by decide +kernel), mm_tX2, mm_nX2⟩
theorem fk_X2_49 : mm_F RX2 49 2 4 := ⟨_, _, rfl, by decide, mm_wX2, mm_inl mm_sg2 (i := 161) (by decide +kernel) (by decide +kernel), mm_tX2, mm_nX2⟩
theorem fk_X2_53 : mm_F RX2 53 9 1 := ⟨_, _, rfl, by decide, mm_wX9, mm_inl mm_sg2 (i := 138) (by decide +kernel) (by decide +kernel), mm_tX9, mm_nX9⟩
theorem fk_X2_59 : mm_F RX2 59 2 5 := ⟨_, _, rfl, by decide, mm_wX2, mm_inl mm_sg2 (i := 162) (by decide +kernel) (by decide +kernel), mm_tX2, mm_nX2⟩
theorem fk_X2_62 : mm_F RX2 62 2 6 := ⟨_, _, rfl, by decide, mm_wX2, mm_inl mm_sg2 (i := 163) (by decide +kernel) (by decide +kernel), mm_tX2, mm_nX2⟩
theorem fk_X2_79 : mm_F RX2 79 9 3 := ⟨_, _, rfl, by decide, mm_wX9, mm_inl mm_sg2 (i := 142) (by decide +kernel) (by decide +kernel), mm_tX9, mm_nX9⟩
theorem fk_X2_88 : mm_F RX2 88 9 2 := ⟨_, _, rfl, by decide, mm_wX9, mm_inl mm_sg2 (i := 140) (by decide +kernel) (by decide +kernel), mm_tX9, mm_nX9⟩
theorem fk_X3_14 : mm_F RX3 14 3 8 := ⟨_, _, rfl, by decide, mm_wX3, mm_inl mm_sg1 (i := 154) (by decide +kernel) (by decide +kernel), mm_tX3, mm_nX3⟩
theorem fk_X3_20 : mm_F RX3 20 3 9 := ⟨_, _, rfl, by decide, mm_wX3, mm_inl mm_sg1 (i := 155) (by decide +kernel) (by decide +kernel), mm_tX3, mm_nX3⟩
theorem fk_X3_23 : mm_F RX3 23 3 0 := ⟨_, _, rfl, by decide, mm_wX3, mm_inl mm_sg1 (i := 134) (by decide +kernel) (by decide +kernel), mm_tX3, mm_nX3⟩
theorem fk_X3_27 : mm_F RX3 27 3 1 := ⟨_, _, rfl, by decide, mm_wX3, mm_inl mm_sg1 (i := 138) (by decide +kernel) (by decide +kernel), mm_tX3, mm_nX3⟩
theorem fk_X3_30 : mm_F RX3 30 3 2 := ⟨_, _, rfl, by decide, mm_wX3, mm_inl mm_sg1 (i := 139) (by decide +kernel) (by decide +kernel), mm_tX3, mm_nX3⟩
theorem fk_X3_33 : mm_F RX3 33 3 3 := ⟨_, _, rfl, by decide, mm_wX3, mm_inl mm_sg1 (i := 140) (by decide +kernel) (by decide +kernel), mm_tX3, mm_nX3⟩
theorem fk_X3_36 : mm_F RX3 36 3 4 := ⟨_, _, rfl, by decide, mm_wX3, mm_inl mm_sg1 (i := 144) (by decide +kernel) (by decide +kernel), mm_tX3, mm_nX3⟩
theorem fk_X3_39 : mm_F RX3 39 3 5 := ⟨_, _, rfl, by decide, mm_wX3, mm_inl mm_sg1 (i := 147) (by decide +kernel) (by decide +kernel), mm_tX3, mm_nX3⟩
theorem fk_X3_42 : mm_F RX3 42 3 6 := ⟨_, _, rfl, by decide, mm_wX3, mm_inl mm_sg1 (i := 150) (by decide +kernel) (by decide +kernel), mm_tX3, mm_nX3⟩
theorem fk_X3_45 : mm_F RX3 45 3 7 := ⟨_, _, rfl, by decide, mm_wX3, mm_inl mm_sg1 (i := 152) (by decide +kernel) (by decide +kernel), mm_tX3, mm_nX3⟩
theorem fk_X4_16 : mm_F RX4 16 4 0 := ⟨_, _, rfl, by decide, mm_wX4, mm_inl mm_sg2 (i := 54) (by decide +kernel) (by decide +kernel), mm_tX4, mm_nX4⟩
theorem fk_X4_20 : mm_F RX4 20 4 1 := ⟨_, _, rfl, by decide, mm_wX4, mm_inl mm_sg2 (i := 55) (by decide +kernel) (by decide +kernel), mm_tX4, mm_nX4⟩
theorem fk_X4_23 : mm_F RX4 23 4 2 := ⟨_, _, rfl, by decide, mm_wX4, mm_inl mm_sg2 (i := 58) (by decide +kernel) (by decide +kernel), mm_tX4, mm_nX4⟩
theorem fk_X5_13 : mm_F RX5 13 5 0 := ⟨_, _, rfl, by decide, mm_wX5, mm_inl mm_sg1 (i := 51) (by decide +kernel) (by decide +kernel), mm_tX5, mm_nX5⟩
theorem fk_X5_19 : mm_F RX5 19 5 1 := ⟨_, _, rfl, by decide, mm_wX5, mm_inl mm_sg1 (i := 52) (by decide +kernel) (by decide +kernel), mm_tX5, mm_nX5⟩
theorem fk_X6_105 : mm_F RX6 105 8 7 := ⟨_, _, rfl, by decide, mm_wX8, mm_inl mm_sg2 (i := 87) (by decide +kernel) (by decide +kernel), mm_tX8, mm_nX8⟩
theorem fk_X6_108 : mm_F RX6 108 8 0 := ⟨_, _, rfl, by decide, mm_wX8, mm_inl mm_sg2 (i := 72) (by decide +kernel) (by decide +kernel), mm_tX8, mm_nX8⟩
theorem fk_X6_124 : mm_F RX6 124 1 1 := ⟨_, _, rfl, by decide, mm_wX1, mm_inl mm_sg2 (i := 2) (by decide +kernel) (by decide +kernel), mm_tX1, mm_nX1⟩
theorem fk_X6_127 : mm_F RX6 127 3 5 := ⟨_, _, rfl, by decide, mm_wX3, mm_inl mm_sg1 (i := 148) (by decide +kernel) (by decide +kernel), mm_tX3, mm_nX3⟩
theorem fk_X6_130 : mm_F RX6 130 0 2 := ⟨_, _, rfl, by decide, mm_wX0, mm_inl mm_sg1 (i := 84) (by decide +kernel) (by decide +kernel), mm_tX0, mm_nX0⟩
theorem fk_X6_133 : mm_F RX6 133 0 3 := ⟨_, _, rfl, by decide, mm_wX0, mm_inl mm_sg1 (i := 87) (by decide +kernel) (by decide +kernel), mm_tX0, mm_nX0⟩
theorem fk_X6_136 : mm_F RX6 136 0 4 := ⟨_, _, rfl, by decide, mm_wX0, mm_inl mm_sg1 (i := 90) (by decide +kernel) (by decide +kernel), mm_tX0, mm_nX0⟩
theorem fk_X6_143 : mm_F RX6 143 1 2 := ⟨_, _, rfl, by decide, mm_wX1, mm_inl mm_sg2 (i := 5) (by decide +kernel) (by decide +kernel), mm_tX1, mm_nX1⟩
theorem fk_X6_146 : mm_F RX6 146 1 6 := ⟨_, _, rfl, by decide, mm_wX1, mm_inl mm_sg2 (i := 20) (by decide +kernel) (by decide +kernel), mm_tX1, mm_nX1⟩
theorem fk_X6_148 : mm_F RX6 148 1 7 := ⟨_, _, rfl, by decide, mm_wX1, mm_inl mm_sg2 (i := 23) (by decide +kernel) (by decide +kernel), mm_tX1, mm_nX1⟩
theorem fk_X6_174 : mm_F RX6 174 1 8 := ⟨_, _, rfl, by decide, mm_wX1, mm_inl mm_sg2 (i := 25) (by decide +kernel) (by decide +kernel), mm_tX1, mm_nX1⟩
theorem fk_X6_20 : mm_F RX6 20 6 1 := ⟨_, _, rfl, by decide, mm_wX6, mm_inl mm_sg2 (i := 114) (by decide +kernel) (by decide +kernel), mm_tX6, mm_nX6⟩
theorem fk_X6_209 : mm_F RX6 209 0 0 := ⟨_, _, rfl, by decide, mm_wX0, mm_inl mm_sg1 (i := 79) (by decide +kernel) (by decide +kernel), mm_tX0, mm_nX0⟩
theorem fk_X6_212 : mm_F RX6 212 0 1 := ⟨_, _, rfl, by decide, mm_wX0, mm_inl mm_sg1 (i := 81) (by decide +kernel) (by decide +kernel), mm_tX0, mm_nX0⟩
theorem fk_X6_232 : mm_F RX6 232 1 4 := ⟨_, _, rfl, by decide, mm_wX1, mm_inl mm_sg2 (i := 12) (by decide +kernel) (by decide +kernel), mm_tX1, mm_nX1⟩
theorem fk_X6_235 : mm_F RX6 235 1 5 := ⟨_, _, rfl, by decide, mm_wX1, mm_inl mm_sg2 (i := 16) (by decide +kernel) (by decide +kernel), mm_tX1, mm_nX1⟩
theorem fk_X6_249 : mm_F RX6 249 0 6 := ⟨_, _, rfl, by decide, mm_wX0, mm_inl mm_sg1 (i := 94) (by decide +kernel) (by decide +kernel), mm_tX0, mm_nX0⟩
theorem fk_X6_252 : mm_F RX6 252 0 7 := ⟨_, _, rfl, by decide, mm_wX0, mm_inl mm_sg1 (i := 96) (by decide +kernel) (by decide +kernel), mm_tX0, mm_nX0⟩
theorem fk_X6_255 : mm_F RX6 255 3 3 := ⟨_, _, rfl, by decide, mm_wX3, mm_inl mm_sg1 (i := 143) (by decide +kernel) (by decide +kernel), mm_tX3, mm_nX3⟩
theorem fk_X6_261 : mm_F RX6 261 1 3 := ⟨_, _, rfl, by decide, mm_wX1, mm_inl mm_sg2 (i := 9) (by decide +kernel) (by decide +kernel), mm_tX1, mm_nX1⟩
theorem fk_X6_270 : mm_F RX6 270 4 1 := ⟨_, _, rfl, by decide, mm_wX4, mm_inl mm_sg2 (i := 57) (by decide +kernel) (by decide +kernel), mm_tX4, mm_nX4⟩
theorem fk_X6_30 : mm_F RX6 30 8 1 := ⟨_, _, rfl, by decide, mm_wX8, mm_inl mm_sg2 (i := 74) (by decide +kernel) (by decide +kernel), mm_tX8, mm_nX8⟩
theorem fk_X6_51 : mm_F RX6 51 8 4 := ⟨_, _, rfl, by decide, mm_wX8, mm_inl mm_sg2 (i := 80) (by decide +kernel) (by decide +kernel), mm_tX8, mm_nX8⟩
theorem fk_X6_66 : mm_F RX6 66 3 0 := ⟨_, _, rfl, by decide, mm_wX3, mm_inl mm_sg1 (i := 135) (by decide +kernel) (by decide +kernel), mm_tX3, mm_nX3⟩
theorem fk_X6_69 : mm_F RX6 69 8 6 := ⟨_, _, rfl, by decide, mm_wX8, mm_inl mm_sg2 (i := 84) (by decide +kernel) (by decide +kernel), mm_tX8, mm_nX8⟩
theorem fk_X6_9 : mm_F RX6 9 6 0 := ⟨_, _, rfl, by decide, mm_wX6, mm_inl mm_sg2 (i := 113) (by decide +kernel) (by decide +kernel), mm_tX6, mm_nX6⟩
theorem fk_X7_14 : mm_F RX7 14 7 0 := ⟨_, _, rfl, by decide, mm_wX7, mm_inl mm_sg2 (i := 187) (by decide +kernel) (by decide +kernel), mm_tX7, mm_nX7⟩
theorem fk_X7_20 : mm_F RX7 20 7 1 := ⟨_, _, rfl, by decide, mm_wX7, mm_inl mm_sg2 (i := 188) (by decide +kernel) (by decide +kernel), mm_tX7, mm_nX7⟩
theorem fk_X7_23 : mm_F RX7 23 7 2 := ⟨_, _, rfl, by decide, mm_wX7, mm_inl mm_sg2 (i := 189) (by decide +kernel) (by decide +kernel), mm_tX7, mm_nX7⟩
theorem fk_X8_100 : mm_F RX8 100 1 6 := ⟨_, _, rfl, by decide, mm_wX1, mm_inl mm_sg2 (i := 19) (by decide +kernel) (by decide +kernel), mm_tX1, mm_nX1⟩
theorem fk_X8_113 : mm_F RX8 113 3 0 := ⟨_, _, rfl, by decide, mm_wX3, mm_inl mm_sg1 (i := 136) (by decide +kernel) (by decide +kernel), mm_tX3, mm_nX3⟩
theorem fk_X8_116 : mm_F RX8 116 3 5 := ⟨_, _, rfl, by decide, mm_wX3, mm_inl mm_sg1 (i := 149) (by decide +kernel) (by decide +kernel), mm_tX3, mm_nX3⟩
theorem fk_X8_12 : mm_F RX8 12 8 0 := ⟨_, _, rfl, by decide, mm_wX8, mm_inl mm_sg2 (i := 70) (by decide +kernel) (by decide +kernel), mm_tX8, mm_nX8⟩
theorem fk_X8_123 : mm_F RX8 123 1 5 := ⟨_, _, rfl, by decide, mm_wX1, mm_inl mm_sg2 (i := 15) (by decide +kernel) (by decide +kernel), mm_tX1, mm_nX1⟩
theorem fk_X8_126 : mm_F RX8 126 1 4 := ⟨_, _, rfl, by decide, mm_wX1, mm_inl mm_sg2 (i := 11) (by decide +kernel) (by decide +kernel), mm_tX1, mm_nX1⟩
theorem fk_X8_21 : mm_F RX8 21 8 1 := ⟨_, _, rfl, by decide, mm_wX8, mm_inl mm_sg2 (i := 73) (by decide +kernel) (by decide +kernel), mm_tX8, mm_nX8⟩
theorem fk_X8_28 : mm_F RX8 28 8 2 := ⟨_, _, rfl, by decide, mm_wX8, mm_inl mm_sg2 (i := 76) (by decide +kernel) (by decide +kernel), mm_tX8, mm_nX8⟩
theorem fk_X8_34 : mm_F RX8 34 8 3 := ⟨_, _, rfl, by decide, mm_wX8, mm_inl mm_sg2 (i := 78) (by decide +kernel) (by decide +kernel), mm_tX8, mm_nX8⟩
theorem fk_X8_39 : mm_F RX8 39 8 4 := ⟨_, _, rfl, by decide, mm_wX8, mm_inl mm_sg2 (i := 79) (by decide +kernel) (by decide +kernel), mm_tX8, mm_nX8⟩
theorem fk_X8_45 : mm_F RX8 45 8 5 := ⟨_, _, rfl, by decide, mm_wX8, mm_inl mm_sg2 (i := 82) (by decide +kernel) (by decide +kernel), mm_tX8, mm_nX8⟩
theorem fk_X8_55 : mm_F RX8 55 8 6 := ⟨_, _, rfl, by decide, mm_wX8, mm_inl mm_sg2 (i := 83) (by decide +kernel) (by decide +kernel), mm_tX8, mm_nX8⟩
theorem fk_X8_59 : mm_F RX8 59 8 7 := ⟨_, _, rfl, by decide, mm_wX8, mm_inl mm_sg2 (i := 86) (by decide +kernel) (by decide +kernel), mm_tX8, mm_nX8⟩
theorem fk_X8_96 : mm_F RX8 96 1 1 := ⟨_, _, rfl, by decide, mm_wX1, mm_inl mm_sg2 (i := 1) (by decide +kernel) (by decide +kernel), mm_tX1, mm_nX1⟩
theorem fk_X9_20 : mm_F RX9 20 9 1 := ⟨_, _, rfl, by decide, mm_wX9, mm_inl mm_sg2 (i := 137) (by decide +kernel) (by decide +kernel), mm_tX9, mm_nX9⟩
theorem fk_X9_23 : mm_F RX9 23 9 2 := ⟨_, _, rfl, by decide, mm_wX9, mm_inl mm_sg2 (i := 139) (by decide +kernel) (by decide +kernel), mm_tX9, mm_nX9⟩
theorem fk_X9_26 : mm_F RX9 26 9 3 := ⟨_, _, rfl, by decide, mm_wX9, mm_inl mm_sg2 (i := 141) (by decide +kernel) (by decide +kernel), mm_tX9, mm_nX9⟩
theorem fk_X9_9 : mm_F RX9 9 9 0 := ⟨_, _, rfl, by decide, mm_wX9, mm_inl mm_sg2 (i := 136) (by decide +kernel) (by decide +kernel), mm_tX9, mm_nX9⟩
theorem fk_X10_14 : mm_F RX10 14 10 0 := ⟨_, _, rfl, by decide, mm_wX10, mm_inl mm_sg1 (i := 185) (by decide +kernel) (by decide +kernel), mm_tX10, mm_nX10⟩
theorem fk_X10_20 : mm_F RX10 20 10 1 := ⟨_, _, rfl, by decide, mm_wX10, mm_inl mm_sg1 (i := 186) (by decide +kernel) (by decide +kernel), mm_tX10, mm_nX10⟩
theorem fk_X10_23 : mm_F RX10 23 10 2 := ⟨_, _, rfl, by decide, mm_wX10, mm_inl mm_sg1 (i := 187) (by decide +kernel) (by decide +kernel), mm_tX10, mm_nX10⟩
theorem fk_X10_26 : mm_F RX10 26 10 3 := ⟨_, _, rfl, by decide, mm_wX10, mm_inl mm_sg1 (i := 188) (by decide +kernel) (by decide +kernel), mm_tX10, mm_nX10⟩
theorem fk_X10_29 : mm_F RX10 29 10 4 := ⟨_, _, rfl, by decide, mm_wX10, mm_inl mm_sg1 (i := 189) (by decide +kernel) (by decide +kernel), mm_tX10, mm_nX10⟩
theorem fk_X10_32 : mm_F RX10 32 10 5 := ⟨_, _, rfl, by decide, mm_wX10, mm_inl mm_sg1 (i := 190) (by decide +kernel) (by decide +kernel), mm_tX10, mm_nX10⟩
theorem fk_X10_53 : mm_F RX10 53 10 7 := ⟨_, _, rfl, by decide, mm_wX10, mm_inl mm_sg1 (i := 193) (by decide +kernel) (by decide +kernel), mm_tX10, mm_nX10⟩
theorem fk_X10_63 : mm_F RX10 63 10 8 := ⟨_, _, rfl, by decide, mm_wX10, mm_inl mm_sg1 (i := 194) (by decide +kernel) (by decide +kernel), mm_tX10, mm_nX10⟩
theorem fk_X10_66 : mm_F RX10 66 10 9 := ⟨_, _, rfl, by decide, mm_wX10, mm_inl mm_sg1 (i := 195) (by decide +kernel) (by decide +kernel), mm_tX10, mm_nX10⟩
theorem fk_X10_69 : mm_F RX10 69 10 10 := ⟨_, _, rfl, by decide, mm_wX10, mm_inl mm_sg1 (i := 196) (by decide +kernel) (by decide +kernel), mm_tX10, mm_nX10⟩
theorem fk_X10_73 : mm_F RX10 73 10 6 := ⟨_, _, rfl, by decide, mm_wX10, mm_inl mm_sg1 (i := 192) (by decide +kernel) (by decide +kernel), mm_tX10, mm_nX10⟩
theorem fk_X10_76 : mm_F RX10 76 3 3 := ⟨_, _, rfl, by decide, mm_wX3, mm_inl mm_sg1 (i := 141) (by decide +kernel) (by decide +kernel), mm_tX3, mm_nX3⟩
theorem fk_X10_79 : mm_F RX10 79 3 4 := ⟨_, _, rfl, by decide, mm_wX3, mm_inl mm_sg1 (i := 145) (by decide +kernel) (by decide +kernel), mm_tX3, mm_nX3⟩
theorem fk_X11_10 : mm_F RX11 10 11 0 := ⟨_, _, rfl, by decide, mm_wX11, mm_inl mm_sg2 (i := 197) (by decide +kernel) (by decide +kernel), mm_tX11, mm_nX11⟩
theorem fk_X11_105 : mm_F RX11 105 0 3 := ⟨_, _, rfl, by decide, mm_wX0, mm_inl mm_sg1 (i := 86) (by decide +kernel) (by decide +kernel), mm_tX0, mm_nX0⟩
theorem fk_X11_108 : mm_F RX11 108 0 4 := ⟨_, _, rfl, by decide, mm_wX0, mm_inl mm_sg1 (i := 89) (by decide +kernel) (by decide +kernel), mm_tX0, mm_nX0⟩
theorem fk_X11_145 : mm_F RX11 145 0 9 := ⟨_, _, rfl, by decide, mm_wX0, mm_inl mm_sg1 (i := 101) (by decide +kernel) (by decide +kernel), mm_tX0, mm_nX0⟩
theorem fk_X11_148 : mm_F RX11 148 0 6 := ⟨_, _, rfl, by decide, mm_wX0, mm_inl mm_sg1 (i := 93) (by decide +kernel) (by decide +kernel), mm_tX0, mm_nX0⟩
theorem fs_X11_151 : Cond.fieldLink "DarkBase" 151 "DarkBase" "LEAST_RULE" "[I" ∈ mm_tb := mm_inl mm_sg3 (i := 138) (by decide +kernel) (by decide +kernel)
theorem fs_X11_155 : Cond.fieldLink "DarkBase" 155 "DarkBase" "MOST_RULE" "[I" ∈ mm_tb := mm_inl mm_sg3 (i := 140) (by decide +kernel) (by decide +kernel)
theorem fk_X11_158 : mm_F RX11 158 8 1 := ⟨_, _, rfl, by decide, mm_wX8, mm_inl mm_sg2 (i := 75) (by decide +kernel) (by decide +kernel), mm_tX8, mm_nX8⟩
theorem fk_X11_16 : mm_F RX11 16 11 1 := ⟨_, _, rfl, by decide, mm_wX11, mm_inl mm_sg2 (i := 198) (by decide +kernel) (by decide +kernel), mm_tX11, mm_nX11⟩
theorem fk_X11_174 : mm_F RX11 174 3 0 := ⟨_, _, rfl, by decide, mm_wX3, mm_inl mm_sg1 (i := 137) (by decide +kernel) (by decide +kernel), mm_tX3, mm_nX3⟩
theorem fk_X11_182 : mm_F RX11 182 3 3 := ⟨_, _, rfl, by decide, mm_wX3, mm_inl mm_sg1 (i := 142) (by decide +kernel) (by decide +kernel), mm_tX3, mm_nX3⟩
theorem fk_X11_185 : mm_F RX11 185 3 4 := ⟨_, _, rfl, by decide, mm_wX3, mm_inl mm_sg1 (i := 146) (by decide +kernel) (by decide +kernel), mm_tX3, mm_nX3⟩
theorem fk_X11_188 : mm_F RX11 188 3 6 := ⟨_, _, rfl, by decide, mm_wX3, mm_inl mm_sg1 (i := 151) (by decide +kernel) (by decide +kernel), mm_tX3, mm_nX3⟩
theorem fk_X11_19 : mm_F RX11 19 11 2 := ⟨_, _, rfl, by decide, mm_wX11, mm_inl mm_sg2 (i := 199) (by decide +kernel) (by decide +kernel), mm_tX11, mm_nX11⟩
theorem fk_X11_191 : mm_F RX11 191 3 7 := ⟨_, _, rfl, by decide, mm_wX3, mm_inl mm_sg1 (i := 153) (by decide +kernel) (by decide +kernel), mm_tX3, mm_nX3⟩
theorem fk_X11_197 : mm_F RX11 197 8 4 := ⟨_, _, rfl, by decide, mm_wX8, mm_inl mm_sg2 (i := 81) (by decide +kernel) (by decide +kernel), mm_tX8, mm_nX8⟩
theorem fk_X11_211 : mm_F RX11 211 1 2 := ⟨_, _, rfl, by decide, mm_wX1, mm_inl mm_sg2 (i := 6) (by decide +kernel) (by decide +kernel), mm_tX1, mm_nX1⟩
theorem fk_X11_214 : mm_F RX11 214 1 3 := ⟨_, _, rfl, by decide, mm_wX1, mm_inl mm_sg2 (i := 8) (by decide +kernel) (by decide +kernel), mm_tX1, mm_nX1⟩
theorem fk_X11_217 : mm_F RX11 217 1 0 := ⟨_, _, rfl, by decide, mm_wX1, mm_inl mm_sg1 (i := 239) (by decide +kernel) (by decide +kernel), mm_tX1, mm_nX1⟩
theorem fk_X11_220 : mm_F RX11 220 1 1 := ⟨_, _, rfl, by decide, mm_wX1, mm_inl mm_sg2 (i := 3) (by decide +kernel) (by decide +kernel), mm_tX1, mm_nX1⟩
theorem fk_X11_223 : mm_F RX11 223 1 4 := ⟨_, _, rfl, by decide, mm_wX1, mm_inl mm_sg2 (i := 13) (by decide +kernel) (by decide +kernel), mm_tX1, mm_nX1⟩
theorem fk_X11_226 : mm_F RX11 226 1 5 := ⟨_, _, rfl, by decide, mm_wX1, mm_inl mm_sg2 (i := 17) (by decide +kernel) (by decide +kernel), mm_tX1, mm_nX1⟩
theorem fk_X11_230 : mm_F RX11 230 1 6 := ⟨_, _, rfl, by decide, mm_wX1, mm_inl mm_sg2 (i := 21) (by decide +kernel) (by decide +kernel), mm_tX1, mm_nX1⟩
theorem fk_X11_259 : mm_F RX11 259 2 1 := ⟨_, _, rfl, by decide, mm_wX2, mm_inl mm_sg2 (i := 158) (by decide +kernel) (by decide +kernel), mm_tX2, mm_nX2⟩
theorem fk_X11_267 : mm_F RX11 267 4 2 := ⟨_, _, rfl, by decide, mm_wX4, mm_inl mm_sg2 (i := 60) (by decide +kernel) (by decide +kernel), mm_tX4, mm_nX4⟩
theorem fk_X11_279 : mm_F RX11 279 8 6 := ⟨_, _, rfl, by decide, mm_wX8, mm_inl mm_sg2 (i := 85) (by decide +kernel) (by decide +kernel), mm_tX8, mm_nX8⟩
theorem fk_X11_28 : mm_F RX11 28 11 3 := ⟨_, _, rfl, by decide, mm_wX11, mm_inl mm_sg2 (i := 200) (by decide +kernel) (by decide +kernel), mm_tX11, mm_nX11⟩
theorem fk_X11_297 : mm_F RX11 297 0 7 := ⟨_, _, rfl, by decide, mm_wX0, mm_inl mm_sg1 (i := 97) (by decide +kernel) (by decide +kernel), mm_tX0, mm_nX0⟩
theorem fk_X11_300 : mm_F RX11 300 0 8 := ⟨_, _, rfl, by decide, mm_wX0, mm_inl mm_sg1 (i := 99) (by decide +kernel) (by decide +kernel), mm_tX0, mm_nX0⟩
theorem fk_X11_309 : mm_F RX11 309 8 2 := ⟨_, _, rfl, by decide, mm_wX8, mm_inl mm_sg2 (i := 77) (by decide +kernel) (by decide +kernel), mm_tX8, mm_nX8⟩
theorem fk_X11_326 : mm_F RX11 326 10 5 := ⟨_, _, rfl, by decide, mm_wX10, mm_inl mm_sg1 (i := 191) (by decide +kernel) (by decide +kernel), mm_tX10, mm_nX10⟩
theorem fk_X11_37 : mm_F RX11 37 11 4 := ⟨_, _, rfl, by decide, mm_wX11, mm_inl mm_sg2 (i := 201) (by decide +kernel) (by decide +kernel), mm_tX11, mm_nX11⟩
theorem fk_X11_46 : mm_F RX11 46 11 5 := ⟨_, _, rfl, by decide, mm_wX11, mm_inl mm_sg2 (i := 202) (by decide +kernel) (by decide +kernel), mm_tX11, mm_nX11⟩
theorem fk_X11_50 : mm_F RX11 50 11 6 := ⟨_, _, rfl, by decide, mm_wX11, mm_inl mm_sg2 (i := 203) (by decide +kernel) (by decide +kernel), mm_tX11, mm_nX11⟩
theorem fk_X11_53 : mm_F RX11 53 11 7 := ⟨_, _, rfl, by decide, mm_wX11, mm_inl mm_sg2 (i := 204) (by decide +kernel) (by decide +kernel), mm_tX11, mm_nX11⟩
theorem fk_X11_59 : mm_F RX11 59 11 8 := ⟨_, _, rfl, by decide, mm_wX11, mm_inl mm_sg2 (i := 205) (by decide +kernel) (by decide +kernel), mm_tX11, mm_nX11⟩
theorem fk_X11_72 : mm_F RX11 72 8 0 := ⟨_, _, rfl, by decide, mm_wX8, mm_inl mm_sg2 (i := 71) (by decide +kernel) (by decide +kernel), mm_tX8, mm_nX8⟩
theorem fk_X11_91 : mm_F RX11 91 0 2 := ⟨_, _, rfl, by decide, mm_wX0, mm_inl mm_sg1 (i := 83) (by decide +kernel) (by decide +kernel), mm_tX0, mm_nX0⟩
theorem fk_X12_13 : mm_F RX12 13 12 1 := ⟨_, _, rfl, by decide, mm_wX12, mm_inl mm_sg6 (i := 214) (by decide +kernel) (by decide +kernel), mm_tX12, mm_nX12⟩
theorem fk_X12_138 : mm_F RX12 138 12 4 := ⟨_, _, rfl, by decide, mm_wX12, mm_inl mm_sg6 (i := 217) (by decide +kernel) (by decide +kernel), mm_tX12, mm_nX12⟩
theorem fk_X12_142 : mm_F RX12 142 12 13 := ⟨_, _, rfl, by decide, mm_wX12, mm_inl mm_sg6 (i := 226) (by decide +kernel) (by decide +kernel), mm_tX12, mm_nX12⟩
theorem fk_X12_145 : mm_F RX12 145 12 12 := ⟨_, _, rfl, by decide, mm_wX12, mm_inl mm_sg6 (i := 225) (by decide +kernel) (by decide +kernel), mm_tX12, mm_nX12⟩
theorem fk_X12_148 : mm_F RX12 148 12 11 := ⟨_, _, rfl, by decide, mm_wX12, mm_inl mm_sg6 (i := 224) (by decide +kernel) (by decide +kernel), mm_tX12, mm_nX12⟩
theorem fk_X12_16 : mm_F RX12 16 12 3 := ⟨_, _, rfl, by decide, mm_wX12, mm_inl mm_sg6 (i := 216) (by decide +kernel) (by decide +kernel), mm_tX12, mm_nX12⟩
theorem fk_X12_164 : mm_F RX12 164 12 14 := ⟨_, _, rfl, by decide, mm_wX12, mm_inl mm_sg6 (i := 227) (by decide +kernel) (by decide +kernel), mm_tX12, mm_nX12⟩
theorem fk_X12_174 : mm_F RX12 174 12 18 := ⟨_, _, rfl, by decide, mm_wX12, mm_inl mm_sg6 (i := 231) (by decide +kernel) (by decide +kernel), mm_tX12, mm_nX12⟩
theorem fk_X12_19 : mm_F RX12 19 12 6 := ⟨_, _, rfl, by decide, mm_wX12, mm_inl mm_sg6 (i := 219) (by decide +kernel) (by decide +kernel), mm_tX12, mm_nX12⟩
theorem fk_X12_190 : mm_F RX12 190 12 17 := ⟨_, _, rfl, by decide, mm_wX12, mm_inl mm_sg6 (i := 230) (by decide +kernel) (by decide +kernel), mm_tX12, mm_nX12⟩
theorem fk_X12_196 : mm_F RX12 196 12 16 := ⟨_, _, rfl, by decide, mm_wX12, mm_inl mm_sg6 (i := 229) (by decide +kernel) (by decide +kernel), mm_tX12, mm_nX12⟩
theorem fk_X12_22 : mm_F RX12 22 12 7 := ⟨_, _, rfl, by decide, mm_wX12, mm_inl mm_sg6 (i := 220) (by decide +kernel) (by decide +kernel), mm_tX12, mm_nX12⟩
theorem fk_X12_227 : mm_F RX12 227 12 15 := ⟨_, _, rfl, by decide, mm_wX12, mm_inl mm_sg6 (i := 228) (by decide +kernel) (by decide +kernel), mm_tX12, mm_nX12⟩
theorem fk_X12_25 : mm_F RX12 25 12 8 := ⟨_, _, rfl, by decide, mm_wX12, mm_inl mm_sg6 (i := 221) (by decide +kernel) (by decide +kernel), mm_tX12, mm_nX12⟩
theorem fk_X12_28 : mm_F RX12 28 12 9 := ⟨_, _, rfl, by decide, mm_wX12, mm_inl mm_sg6 (i := 222) (by decide +kernel) (by decide +kernel), mm_tX12, mm_nX12⟩
theorem fk_X12_31 : mm_F RX12 31 12 10 := ⟨_, _, rfl, by decide, mm_wX12, mm_inl mm_sg6 (i := 223) (by decide +kernel) (by decide +kernel), mm_tX12, mm_nX12⟩
theorem fk_X12_344 : mm_F RX12 344 12 21 := ⟨_, _, rfl, by decide, mm_wX12, mm_inl mm_sg6 (i := 234) (by decide +kernel) (by decide +kernel), mm_tX12, mm_nX12⟩
theorem fk_X12_350 : mm_F RX12 350 12 27 := ⟨_, _, rfl, by decide, mm_wX12, mm_inl mm_sg7 (i := 0) (by decide +kernel) (by decide +kernel), mm_tX12, mm_nX12⟩
theorem fk_X12_353 : mm_F RX12 353 12 26 := ⟨_, _, rfl, by decide, mm_wX12, mm_inl mm_sg6 (i := 239) (by decide +kernel) (by decide +kernel), mm_tX12, mm_nX12⟩
theorem fk_X12_356 : mm_F RX12 356 12 23 := ⟨_, _, rfl, by decide, mm_wX12, mm_inl mm_sg6 (i := 236) (by decide +kernel) (by decide +kernel), mm_tX12, mm_nX12⟩
theorem fk_X12_359 : mm_F RX12 359 12 22 := ⟨_, _, rfl, by decide, mm_wX12, mm_inl mm_sg6 (i := 235) (by decide +kernel) (by decide +kernel), mm_tX12, mm_nX12⟩
theorem fk_X12_370 : mm_F RX12 370 12 5 := ⟨_, _, rfl, by decide, mm_wX12, mm_inl mm_sg6 (i := 218) (by decide +kernel) (by decide +kernel), mm_tX12, mm_nX12⟩
theorem fk_X12_373 : mm_F RX12 373 12 29 := ⟨_, _, rfl, by decide, mm_wX12, mm_inl mm_sg7 (i := 2) (by decide +kernel) (by decide +kernel), mm_tX12, mm_nX12⟩
theorem fk_X12_376 : mm_F RX12 376 12 28 := ⟨_, _, rfl, by decide, mm_wX12, mm_inl mm_sg7 (i := 1) (by decide +kernel) (by decide +kernel), mm_tX12, mm_nX12⟩
theorem fk_X12_385 : mm_F RX12 385 12 2 := ⟨_, _, rfl, by decide, mm_wX12, mm_inl mm_sg6 (i := 215) (by decide +kernel) (by decide +kernel), mm_tX12, mm_nX12⟩
theorem fk_X12_58 : mm_F RX12 58 12 19 := ⟨_, _, rfl, by decide, mm_wX12, mm_inl mm_sg6 (i := 232) (by decide +kernel) (by decide +kernel), mm_tX12, mm_nX12⟩
theorem fk_X12_62 : mm_F RX12 62 12 20 := ⟨_, _, rfl, by decide, mm_wX12, mm_inl mm_sg6 (i := 233) (by decide +kernel) (by decide +kernel), mm_tX12, mm_nX12⟩
theorem fk_X12_65 : mm_F RX12 65 12 24 := ⟨_, _, rfl, by decide, mm_wX12, mm_inl mm_sg6 (i := 237) (by decide +kernel) (by decide +kernel), mm_tX12, mm_nX12⟩
theorem fk_X12_68 : mm_F RX12 68 12 25 := ⟨_, _, rfl, by decide, mm_wX12, mm_inl mm_sg6 (i := 238) (by decide +kernel) (by decide +kernel), mm_tX12, mm_nX12⟩
theorem fk_X12_71 : mm_F RX12 71 12 30 := ⟨_, _, rfl, by decide, mm_wX12, mm_inl mm_sg7 (i := 3) (by decide +kernel) (by decide +kernel), mm_tX12, mm_nX12⟩
theorem fk_X12_9 : mm_F RX12 9 12 0 := ⟨_, _, rfl, by decide, mm_wX12, mm_inl mm_sg6 (i := 213) (by decide +kernel) (by decide +kernel), mm_tX12, mm_nX12⟩
theorem fv_0_0 : mm_Fv 0 0 := fun C T N h => by cases h; rfl
theorem fv_0_1 : mm_Fv 0 1 := fun C T N h => by cases h; rfl
theorem ff_0_2 : ∀ C T N, vwCl[0]? = some (C, T, N) → (T 2).2.2.2 = true ∧ (T 2).1 = RX0 := fun C T N h => by cases h; exact ⟨rfl, rfl⟩
theorem ff_0_3 : ∀ C T N, vwCl[0]? = some (C, T, N) → (T 3).2.2.2 = true ∧ (T 3).1 = RX0 := fun C T N h => by cases h; exact ⟨rfl, rfl⟩
theorem ff_0_4 : ∀ C T N, vwCl[0]? = some (C, T, N) → (T 4).2.2.2 = true ∧ (T 4).1 = RX0 := fun C T N h => by cases h; exact ⟨rfl, rfl⟩
theorem ff_0_5 : ∀ C T N, vwCl[0]? = some (C, T, N) → (T 5).2.2.2 = true ∧ (T 5).1 = RX0 := fun C T N h => by cases h; exact ⟨rfl, rfl⟩
theorem ff_0_6 : ∀ C T N, vwCl[0]? = some (C, T, N) → (T 6).2.2.2 = true ∧ (T 6).1 = RX0 := fun C T N h => by cases h; exact ⟨rfl, rfl⟩
theorem fv_0_7 : mm_Fv 0 7 := fun C T N h => by cases h; rfl
theorem fv_0_8 : mm_Fv 0 8 := fun C T N h => by cases h; rfl
theorem ff_0_9 : ∀ C T N, vwCl[0]? = some (C, T, N) → (T 9).2.2.2 = true ∧ (T 9).1 = RX0 := fun C T N h => by cases h; exact ⟨rfl, rfl⟩
theorem ff_0_10 : ∀ C T N, vwCl[0]? = some (C, T, N) → (T 10).2.2.2 = true ∧ (T 10).1 = RX0 := fun C T N h => by cases h; exact ⟨rfl, rfl⟩
theorem fv_1_0 : mm_Fv 1 0 := fun C T N h => by cases h; rfl
theorem fv_1_1 : mm_Fv 1 1 := fun C T N h => by cases h; rfl
theorem fv_1_2 : mm_Fv 1 2 := fun C T N h => by cases h; rfl
theorem fv_1_3 : mm_Fv 1 3 := fun C T N h => by cases h; rfl
theorem fv_1_4 : mm_Fv 1 4 := fun C T N h => by cases h; rfl
theorem fv_1_5 : mm_Fv 1 5 := fun C T N h => by cases h; rfl
theorem fv_1_6 : mm_Fv 1 6 := fun C T N h => by cases h; rfl
theorem fv_1_7 : mm_Fv 1 7 := fun C T N h => by cases h; rfl
theorem ff_1_8 : ∀ C T N, vwCl[1]? = some (C, T, N) → (T 8).2.2.2 = true ∧ (T 8).1 = RX1 := fun C T N h => by cases h; exact ⟨rfl, rfl⟩
theorem ff_2_0 : ∀ C T N, vwCl[2]? = some (C, T, N) → (T 0).2.2.2 = true ∧ (T 0).1 = RX2 := fun C T N h => by cases h; exact ⟨rfl, rfl⟩
theorem ff_2_1 : ∀ C T N, vwCl[2]? = some (C, T, N) → (T 1).2.2.2 = true ∧ (T 1).1 = RX2 := fun C T N h => by cases h; exact ⟨rfl, rfl⟩
theorem ff_2_2 : ∀ C T N, vwCl[2]? = some (C, T, N) → (T 2).2.2.2 = true ∧ (T 2).1 = RX2 := fun C T N h => by cases h; exact ⟨rfl, rfl⟩
theorem fv_2_3 : mm_Fv 2 3 := fun C T N h => by cases h; rfl
theorem fv_2_4 : mm_Fv 2 4 := fun C T N h => by cases h; rfl
theorem fv_2_5 : mm_Fv 2 5 := fun C T N h => by cases h; rfl
theorem fv_2_6 : mm_Fv 2 6 := fun C T N h => by cases h; rfl
theorem fv_3_0 : mm_Fv 3 0 := fun C T N h => by cases h; rfl
theorem fv_3_1 : mm_Fv 3 1 := fun C T N h => by cases h; rfl
theorem fv_3_2 : mm_Fv 3 2 := fun C T N h => by cases h; rfl
theorem fv_3_3 : mm_Fv 3 3 := fun C T N h => by cases h; rfl
theorem fv_3_4 : mm_Fv 3 4 := fun C T N h => by cases h; rfl
theorem fv_3_5 : mm_Fv 3 5 := fun C T N h => by cases h; rfl
theorem fv_3_6 : mm_Fv 3 6 := fun C T N h => by cases h; rfl
theorem fv_3_7 : mm_Fv 3 7 := fun C T N h => by cases h; rfl
theorem ff_3_8 : ∀ C T N, vwCl[3]? = some (C, T, N) → (T 8).2.2.2 = true ∧ (T 8).1 = RX3 := fun C T N h => by cases h; exact ⟨rfl, rfl⟩
theorem ff_3_9 : ∀ C T N, vwCl[3]? = some (C, T, N) → (T 9).2.2.2 = true ∧ (T 9).1 = RX3 := fun C T N h => by cases h; exact ⟨rfl, rfl⟩
theorem ff_4_0 : ∀ C T N, vwCl[4]? = some (C, T, N) → (T 0).2.2.2 = true ∧ (T 0).1 = RX4 := fun C T N h => by cases h; exact ⟨rfl, rfl⟩
theorem ff_4_1 : ∀ C T N, vwCl[4]? = some (C, T, N) → (T 1).2.2.2 = true ∧ (T 1).1 = RX4 := fun C T N h => by cases h; exact ⟨rfl, rfl⟩
theorem fv_4_2 : mm_Fv 4 2 := fun C T N h => by cases h; rfl
theorem ff_5_0 : ∀ C T N, vwCl[5]? = some (C, T, N) → (T 0).2.2.2 = true ∧ (T 0).1 = RX5 := fun C T N h => by cases h; exact ⟨rfl, rfl⟩
theorem fv_5_1 : mm_Fv 5 1 := fun C T N h => by cases h; rfl
theorem ff_6_0 : ∀ C T N, vwCl[6]? = some (C, T, N) → (T 0).2.2.2 = true ∧ (T 0).1 = RX6 := fun C T N h => by cases h; exact ⟨rfl, rfl⟩
theorem ff_6_1 : ∀ C T N, vwCl[6]? = some (C, T, N) → (T 1).2.2.2 = true ∧ (T 1).1 = RX6 := fun C T N h => by cases h; exact ⟨rfl, rfl⟩
theorem ff_7_0 : ∀ C T N, vwCl[7]? = some (C, T, N) → (T 0).2.2.2 = true ∧ (T 0).1 = RX7 := fun C T N h => by cases h; exact ⟨rfl, rfl⟩
theorem ff_7_1 : ∀ C T N, vwCl[7]? = some (C, T, N) → (T 1).2.2.2 = true ∧ (T 1).1 = RX7 := fun C T N h => by cases h; exact ⟨rfl, rfl⟩
theorem fv_7_2 : mm_Fv 7 2 := fun C T N h => by cases h; rfl
theorem ff_8_0 : ∀ C T N, vwCl[8]? = some (C, T, N) → (T 0).2.2.2 = true ∧ (T 0).1 = RX8 := fun C T N h => by cases h; exact ⟨rfl, rfl⟩
theorem ff_8_1 : ∀ C T N, vwCl[8]? = some (C, T, N) → (T 1).2.2.2 = true ∧ (T 1).1 = RX8 := fun C T N h => by cases h; exact ⟨rfl, rfl⟩
theorem ff_8_2 : ∀ C T N, vwCl[8]? = some (C, T, N) → (T 2).2.2.2 = true ∧ (T 2).1 = RX8 := fun C T N h => by cases h; exact ⟨rfl, rfl⟩
theorem ff_8_3 : ∀ C T N, vwCl[8]? = some (C, T, N) → (T 3).2.2.2 = true ∧ (T 3).1 = RX8 := fun C T N h => by cases h; exact ⟨rfl, rfl⟩
theorem fv_8_4 : mm_Fv 8 4 := fun C T N h => by cases h; rfl
theorem ff_8_5 : ∀ C T N, vwCl[8]? = some (C, T, N) → (T 5).2.2.2 = true ∧ (T 5).1 = RX8 := fun C T N h => by cases h; exact ⟨rfl, rfl⟩
theorem ff_8_6 : ∀ C T N, vwCl[8]? = some (C, T, N) → (T 6).2.2.2 = true ∧ (T 6).1 = RX8 := fun C T N h => by cases h; exact ⟨rfl, rfl⟩
theorem ff_8_7 : ∀ C T N, vwCl[8]? = some (C, T, N) → (T 7).2.2.2 = true ∧ (T 7).1 = RX8 := fun C T N h => by cases h; exact ⟨rfl, rfl⟩
theorem ff_9_0 : ∀ C T N, vwCl[9]? = some (C, T, N) → (T 0).2.2.2 = true ∧ (T 0).1 = RX9 := fun C T N h => by cases h; exact ⟨rfl, rfl⟩
theorem ff_9_1 : ∀ C T N, vwCl[9]? = some (C, T, N) → (T 1).2.2.2 = true ∧ (T 1).1 = RX9 := fun C T N h => by cases h; exact ⟨rfl, rfl⟩
theorem ff_9_2 : ∀ C T N, vwCl[9]? = some (C, T, N) → (T 2).2.2.2 = true ∧ (T 2).1 = RX9 := fun C T N h => by cases h; exact ⟨rfl, rfl⟩
theorem ff_9_3 : ∀ C T N, vwCl[9]? = some (C, T, N) → (T 3).2.2.2 = true ∧ (T 3).1 = RX9 := fun C T N h => by cases h; exact ⟨rfl, rfl⟩
theorem ff_10_0 : ∀ C T N, vwCl[10]? = some (C, T, N) → (T 0).2.2.2 = true ∧ (T 0).1 = RX10 := fun C T N h => by cases h; exact ⟨rfl, rfl⟩
theorem ff_10_1 : ∀ C T N, vwCl[10]? = some (C, T, N) → (T 1).2.2.2 = true ∧ (T 1).1 = RX10 := fun C T N h => by cases h; exact ⟨rfl, rfl⟩
theorem ff_10_2 : ∀ C T N, vwCl[10]? = some (C, T, N) → (T 2).2.2.2 = true ∧ (T 2).1 = RX10 := fun C T N h => by cases h; exact ⟨rfl, rfl⟩
theorem ff_10_3 : ∀ C T N, vwCl[10]? = some (C, T, N) → (T 3).2.2.2 = true ∧ (T 3).1 = RX10 := fun C T N h => by cases h; exact ⟨rfl, rfl⟩
theorem ff_10_4 : ∀ C T N, vwCl[10]? = some (C, T, N) → (T 4).2.2.2 = true ∧ (T 4).1 = RX10 := fun C T N h => by cases h; exact ⟨rfl, rfl⟩
theorem ff_10_5 : ∀ C T N, vwCl[10]? = some (C, T, N) → (T 5).2.2.2 = true ∧ (T 5).1 = RX10 := fun C T N h => by cases h; exact ⟨rfl, rfl⟩
theorem fv_10_6 : mm_Fv 10 6 := fun C T N h => by cases h; rfl
theorem fv_10_7 : mm_Fv 10 7 := fun C T N h => by cases h; rfl
theorem fv_10_8 : mm_Fv 10 8 := fun C T N h => by cases h; rfl
theorem fv_10_9 : mm_Fv 10 9 := fun C T N h => by cases h; rfl
theorem fv_10_10 : mm_Fv 10 10 := fun C T N h => by cases h; rfl
theorem ff_11_0 : ∀ C T N, vwCl[11]? = some (C, T, N) → (T 0).2.2.2 = true ∧ (T 0).1 = RX11 := fun C T N h => by cases h; exact ⟨rfl, rfl⟩
theorem ff_11_1 : ∀ C T N, vwCl[11]? = some (C, T, N) → (T 1).2.2.2 = true ∧ (T 1).1 = RX11 := fun C T N h => by cases h; exact ⟨rfl, rfl⟩
theorem fv_11_2 : mm_Fv 11 2 := fun C T N h => by cases h; rfl
theorem ff_11_3 : ∀ C T N, vwCl[11]? = some (C, T, N) → (T 3).2.2.2 = true ∧ (T 3).1 = RX11 := fun C T N h => by cases h; exact ⟨rfl, rfl⟩
theorem ff_11_4 : ∀ C T N, vwCl[11]? = some (C, T, N) → (T 4).2.2.2 = true ∧ (T 4).1 = RX11 := fun C T N h => by cases h; exact ⟨rfl, rfl⟩
theorem ff_11_5 : ∀ C T N, vwCl[11]? = some (C, T, N) → (T 5).2.2.2 = true ∧ (T 5).1 = RX11 := fun C T N h => by cases h; exact ⟨rfl, rfl⟩
theorem ff_11_6 : ∀ C T N, vwCl[11]? = some (C, T, N) → (T 6).2.2.2 = true ∧ (T 6).1 = RX11 := fun C T N h => by cases h; exact ⟨rfl, rfl⟩
theorem ff_11_7 : ∀ C T N, vwCl[11]? = some (C, T, N) → (T 7).2.2.2 = true ∧ (T 7).1 = RX11 := fun C T N h => by cases h; exact ⟨rfl, rfl⟩
theorem ff_11_8 : ∀ C T N, vwCl[11]? = some (C, T, N) → (T 8).2.2.2 = true ∧ (T 8).1 = RX11 := fun C T N h => by cases h; exact ⟨rfl, rfl⟩
theorem ff_12_0 : ∀ C T N, vwCl[12]? = some (C, T, N) → (T 0).2.2.2 = true ∧ (T 0).1 = RX12 := fun C T N h => by cases h; exact ⟨rfl, rfl⟩
theorem ff_12_1 : ∀ C T N, vwCl[12]? = some (C, T, N) → (T 1).2.2.2 = true ∧ (T 1).1 = RX12 := fun C T N h => by cases h; exact ⟨rfl, rfl⟩
theorem fv_12_2 : mm_Fv 12 2 := fun C T N h => by cases h; rfl
theorem ff_12_3 : ∀ C T N, vwCl[12]? = some (C, T, N) → (T 3).2.2.2 = true ∧ (T 3).1 = RX12 := fun C T N h => by cases h; exact ⟨rfl, rfl⟩
theorem fv_12_4 : mm_Fv 12 4 := fun C T N h => by cases h; rfl
theorem fv_12_5 : mm_Fv 12 5 := fun C T N h => by cases h; rfl
theorem ff_12_6 : ∀ C T N, vwCl[12]? = some (C, T, N) → (T 6).2.2.2 = true ∧ (T 6).1 = RX12 := fun C T N h => by cases h; exact ⟨rfl, rfl⟩
theorem ff_12_7 : ∀ C T N, vwCl[12]? = some (C, T, N) → (T 7).2.2.2 = true ∧ (T 7).1 = RX12 := fun C T N h => by cases h; exact ⟨rfl, rfl⟩
theorem ff_12_8 : ∀ C T N, vwCl[12]? = some (C, T, N) → (T 8).2.2.2 = true ∧ (T 8).1 = RX12 := fun C T N h => by cases h; exact ⟨rfl, rfl⟩
theorem ff_12_9 : ∀ C T N, vwCl[12]? = some (C, T, N) → (T 9).2.2.2 = true ∧ (T 9).1 = RX12 := fun C T N h => by cases h; exact ⟨rfl, rfl⟩
theorem ff_12_10 : ∀ C T N, vwCl[12]? = some (C, T, N) → (T 10).2.2.2 = true ∧ (T 10).1 = RX12 := fun C T N h => by cases h; exact ⟨rfl, rfl⟩
theorem fv_12_11 : mm_Fv 12 11 := fun C T N h => by cases h; rfl
theorem fv_12_12 : mm_Fv 12 12 := fun C T N h => by cases h; rfl
theorem fv_12_13 : mm_Fv 12 13 := fun C T N h => by cases h; rfl
theorem fv_12_14 : mm_Fv 12 14 := fun C T N h => by cases h; rfl
theorem fv_12_15 : mm_Fv 12 15 := fun C T N h => by cases h; rfl
theorem fv_12_16 : mm_Fv 12 16 := fun C T N h => by cases h; rfl
theorem fv_12_17 : mm_Fv 12 17 := fun C T N h => by cases h; rfl
theorem fv_12_18 : mm_Fv 12 18 := fun C T N h => by cases h; rfl
theorem ff_12_19 : ∀ C T N, vwCl[12]? = some (C, T, N) → (T 19).2.2.2 = true ∧ (T 19).1 = RX12 := fun C T N h => by cases h; exact ⟨rfl, rfl⟩
theorem ff_12_20 : ∀ C T N, vwCl[12]? = some (C, T, N) → (T 20).2.2.2 = true ∧ (T 20).1 = RX12 := fun C T N h => by cases h; exact ⟨rfl, rfl⟩
theorem fv_12_21 : mm_Fv 12 21 := fun C T N h => by cases h; rfl
theorem fv_12_22 : mm_Fv 12 22 := fun C T N h => by cases h; rfl
theorem fv_12_23 : mm_Fv 12 23 := fun C T N h => by cases h; rfl
theorem ff_12_24 : ∀ C T N, vwCl[12]? = some (C, T, N) → (T 24).2.2.2 = true ∧ (T 24).1 = RX12 := fun C T N h => by cases h; exact ⟨rfl, rfl⟩
theorem ff_12_25 : ∀ C T N, vwCl[12]? = some (C, T, N) → (T 25).2.2.2 = true ∧ (T 25).1 = RX12 := fun C T N h => by cases h; exact ⟨rfl, rfl⟩
theorem fv_12_26 : mm_Fv 12 26 := fun C T N h => by cases h; rfl
theorem fv_12_27 : mm_Fv 12 27 := fun C T N h => by cases h; rfl
theorem fv_12_28 : mm_Fv 12 28 := fun C T N h => by cases h; rfl
theorem fv_12_29 : mm_Fv 12 29 := fun C T N h => by cases h; rfl
theorem ff_12_30 : ∀ C T N, vwCl[12]? = some (C, T, N) → (T 30).2.2.2 = true ∧ (T 30).1 = RX12 := fun C T N h => by cases h; exact ⟨rfl, rfl⟩
def zX11_init : mm_M := (yX11_init, cX11_init, 1, none)
theorem mzX11_init : mm_Mz zX11_init 0 := ⟨mm_inl mm_sg1 (i := 26) (by decide +kernel) (by decide +kernel), mm_inl mm_sg1 (i := 1) (by decide +kernel) (by decide +kernel), by decide +kernel, by decide +kernel, by decide +kernel⟩
theorem imX11_init : Cond.instanceMethod zX11_init.1 ∈ mm_tb := mm_inl mm_sg1 (i := 25) (by decide +kernel) (by decide +kernel)
def zX8_init : mm_M := (yX8_init, cX8_init, 2, none)
theorem mzX8_init : mm_Mz zX8_init 0 := ⟨mm_inl mm_sg1 (i := 34) (by decide +kernel) (by decide +kernel), mm_inl mm_sg1 (i := 2) (by decide +kernel) (by decide +kernel), by decide +kernel, by decide +kernel, by decide +kernel⟩
theorem imX8_init : Cond.instanceMethod zX8_init.1 ∈ mm_tb := mm_inl mm_sg1 (i := 33) (by decide +kernel) (by decide +kernel)
def zX0_init : mm_M := (yX0_init, cX0_init, 1, none)
theorem mzX0_init : mm_Mz zX0_init 0 := ⟨mm_inl mm_sg1 (i := 40) (by decide +kernel) (by decide +kernel), mm_inl mm_sg1 (i := 3) (by decide +kernel) (by decide +kernel), by decide +kernel, by decide +kernel, by decide +kernel⟩
theorem imX0_init : Cond.instanceMethod zX0_init.1 ∈ mm_tb := mm_inl mm_sg1 (i := 39) (by decide +kernel) (by decide +kernel)
def zX5_init : mm_M := (yX5_init, cX5_init, 2, none)
theorem mzX5_init : mm_Mz zX5_init 1 := ⟨mm_inl mm_sg1 (i := 46) (by decide +kernel) (by decide +kernel), mm_inl mm_sg1 (i := 4) (by decide +kernel) (by decide +kernel), by decide +kernel, by decide +kernel, by decide +kernel⟩
theorem imX5_init : Cond.instanceMethod zX5_init.1 ∈ mm_tb := mm_inl mm_sg1 (i := 45) (by decide +kernel) (by decide +kernel)
def zX0_begin : mm_M := (yX0_begin, cX0_begin, 3, none)
theorem mzX0_begin : mm_Mz zX0_begin 2 := ⟨mm_inl mm_sg1 (i := 62) (by decide +kernel) (by decide +kernel), mm_inl mm_sg1 (i := 3) (by decide +kernel) (by decide +kernel), by decide +kernel, by decide +kernel, by decide +kernel⟩
theorem imX0_begin : Cond.instanceMethod zX0_begin.1 ∈ mm_tb ∧ Cond.selects zX0_begin.1.cls zX0_begin.1 zX0_begin.1 ∈ mm_tb := ⟨mm_inl mm_sg1 (i := 60) (by decide +kernel) (by decide +kernel), mm_inl mm_sg1 (i := 61) (by decide +kernel) (by decide +kernel)⟩
def zX0_cells : mm_M := (yX0_cells, cX0_cells, 1, some .int)
theorem mzX0_cells : mm_Mz zX0_cells 0 := ⟨mm_inl mm_sg1 (i := 66) (by decide +kernel) (by decide +kernel), mm_inl mm_sg1 (i := 3) (by decide +kernel) (by decide +kernel), by decide +kernel, by decide +kernel, by decide +kernel⟩
theorem imX0_cells : Cond.instanceMethod zX0_cells.1 ∈ mm_tb ∧ Cond.selects zX0_cells.1.cls zX0_cells.1 zX0_cells.1 ∈ mm_tb := ⟨mm_inl mm_sg1 (i := 64) (by decide +kernel) (by decide +kernel), mm_inl mm_sg1 (i := 65) (by decide +kernel) (by decide +kernel)⟩
def zX5_fill : mm_M := (yX5_fill, cX5_fill, 4, none)
theorem mzX5_fill : mm_Mz zX5_fill 2 := ⟨mm_inl mm_sg1 (i := 70) (by decide +kernel) (by decide +kernel), mm_inl mm_sg1 (i := 4) (by decide +kernel) (by decide +kernel), by decide +kernel, by decide +kernel, by decide +kernel⟩
theorem imX5_fill : Cond.instanceMethod zX5_fill.1 ∈ mm_tb ∧ Cond.selects zX5_fill.1.cls zX5_fill.1 zX5_fill.1 ∈ mm_tb := ⟨mm_inl mm_sg1 (i := 68) (by decide +kernel) (by decide +kernel), mm_inl mm_sg1 (i := 69) (by decide +kernel) (by decide +kernel)⟩
def zX5_set : mm_M := (yX5_set, cX5_set, 3, none)
theorem mzX5_set : mm_Mz zX5_set 2 := ⟨mm_inl mm_sg1 (i := 77) (by decide +kernel) (by decide +kernel), mm_inl mm_sg1 (i := 4) (by decide +kernel) (by decide +kernel), by decide +kernel, by decide +kernel, by decide +kernel⟩
theorem imX5_set : Cond.instanceMethod zX5_set.1 ∈ mm_tb ∧ Cond.selects zX5_set.1.cls zX5_set.1 zX5_set.1 ∈ mm_tb := ⟨mm_inl mm_sg1 (i := 75) (by decide +kernel) (by decide +kernel), mm_inl mm_sg1 (i := 76) (by decide +kernel) (by decide +kernel)⟩
def zX3_init : mm_M := (yX3_init, cX3_init, 1, none)
theorem mzX3_init : mm_Mz zX3_init 0 := ⟨mm_inl mm_sg1 (i := 130) (by decide +kernel) (by decide +kernel), mm_inl mm_sg1 (i := 6) (by decide +kernel) (by decide +kernel), by decide +kernel, by decide +kernel, by decide +kernel⟩
theorem imX3_init : Cond.instanceMethod zX3_init.1 ∈ mm_tb := mm_inl mm_sg1 (i := 129) (by decide +kernel) (by decide +kernel)
def zX10_init : mm_M := (yX10_init, cX10_init, 1, none)
theorem mzX10_init : mm_Mz zX10_init 0 := ⟨mm_inl mm_sg1 (i := 181) (by decide +kernel) (by decide +kernel), mm_inl mm_sg1 (i := 7) (by decide +kernel) (by decide +kernel), by decide +kernel, by decide +kernel, by decide +kernel⟩
theorem imX10_init : Cond.instanceMethod zX10_init.1 ∈ mm_tb := mm_inl mm_sg1 (i := 180) (by decide +kernel) (by decide +kernel)
def zX1_init : mm_M := (yX1_init, cX1_init, 1, none)
theorem mzX1_init : mm_Mz zX1_init 0 := ⟨mm_inl mm_sg1 (i := 225) (by decide +kernel) (by decide +kernel), mm_inl mm_sg1 (i := 8) (by decide +kernel) (by decide +kernel), by decide +kernel, by decide +kernel, by decide +kernel⟩
theorem imX1_init : Cond.instanceMethod zX1_init.1 ∈ mm_tb := mm_inl mm_sg1 (i := 224) (by decide +kernel) (by decide +kernel)
def zX1_begin : mm_M := (yX1_begin, cX1_begin, 3, none)
theorem mzX1_begin : mm_Mz zX1_begin 2 := ⟨mm_inl mm_sg1 (i := 232) (by decide +kernel) (by decide +kernel), mm_inl mm_sg1 (i := 8) (by decide +kernel) (by decide +kernel), by decide +kernel, by decide +kernel, by decide +kernel⟩
theorem imX1_begin : Cond.instanceMethod zX1_begin.1 ∈ mm_tb ∧ Cond.selects zX1_begin.1.cls zX1_begin.1 zX1_begin.1 ∈ mm_tb := ⟨mm_inl mm_sg1 (i := 230) (by decide +kernel) (by decide +kernel), mm_inl mm_sg1 (i := 231) (by decide +kernel) (by decide +kernel)⟩
def zX1_beginScript : mm_M := (yX1_beginScript, cX1_beginScript, 2, none)
theorem mzX1_beginScript : mm_Mz zX1_beginScript 1 := ⟨mm_inl mm_sg1 (i := 236) (by decide +kernel) (by decide +kernel), mm_inl mm_sg1 (i := 8) (by decide +kernel) (by decide +kernel), by decide +kernel, by decide +kernel, by decide +kernel⟩
theorem imX1_beginScript : Cond.instanceMethod zX1_beginScript.1 ∈ mm_tb ∧ Cond.selects zX1_beginScript.1.cls zX1_beginScript.1 zX1_beginScript.1 ∈ mm_tb := ⟨mm_inl mm_sg1 (i := 234) (by decide +kernel) (by decide +kernel), mm_inl mm_sg1 (i := 235) (by decide +kernel) (by decide +kernel)⟩
def zX4_init : mm_M := (yX4_init, cX4_init, 1, none)
theorem mzX4_init : mm_Mz zX4_init 0 := ⟨mm_inl mm_sg2 (i := 50) (by decide +kernel) (by decide +kernel), mm_inl mm_sg1 (i := 9) (by decide +kernel) (by decide +kernel), by decide +kernel, by decide +kernel, by decide +kernel⟩
theorem imX4_init : Cond.instanceMethod zX4_init.1 ∈ mm_tb := mm_inl mm_sg2 (i := 49) (by decide +kernel) (by decide +kernel)
def zX6_init : mm_M := (yX6_init, cX6_init, 2, none)
theorem mzX6_init : mm_Mz zX6_init 1 := ⟨mm_inl mm_sg2 (i := 109) (by decide +kernel) (by decide +kernel), mm_inl mm_sg1 (i := 10) (by decide +kernel) (by decide +kernel), by decide +kernel, by decide +kernel, by decide +kernel⟩
theorem imX6_init : Cond.instanceMethod zX6_init.1 ∈ mm_tb := mm_inl mm_sg2 (i := 108) (by decide +kernel) (by decide +kernel)
def zX2_init : mm_M := (yX2_init, cX2_init, 2, none)
theorem mzX2_init : mm_Mz zX2_init 1 := ⟨mm_inl mm_sg2 (i := 126) (by decide +kernel) (by decide +kernel), mm_inl mm_sg1 (i := 11) (by decide +kernel) (by decide +kernel), by decide +kernel, by decide +kernel, by decide +kernel⟩
theorem imX2_init : Cond.instanceMethod zX2_init.1 ∈ mm_tb := mm_inl mm_sg2 (i := 125) (by decide +kernel) (by decide +kernel)
def zX9_init : mm_M := (yX9_init, cX9_init, 2, none)
theorem mzX9_init : mm_Mz zX9_init 1 := ⟨mm_inl mm_sg2 (i := 132) (by decide +kernel) (by decide +kernel), mm_inl mm_sg1 (i := 12) (by decide +kernel) (by decide +kernel), by decide +kernel, by decide +kernel, by decide +kernel⟩
theorem imX9_init : Cond.instanceMethod zX9_init.1 ∈ mm_tb := mm_inl mm_sg2 (i := 131) (by decide +kernel) (by decide +kernel)
def zX7_init : mm_M := (yX7_init, cX7_init, 1, none)
theorem mzX7_init : mm_Mz zX7_init 0 := ⟨mm_inl mm_sg2 (i := 183) (by decide +kernel) (by decide +kernel), mm_inl mm_sg1 (i := 13) (by decide +kernel) (by decide +kernel), by decide +kernel, by decide +kernel, by decide +kernel⟩
theorem imX7_init : Cond.instanceMethod zX7_init.1 ∈ mm_tb := mm_inl mm_sg2 (i := 182) (by decide +kernel) (by decide +kernel)
def zX11_ground : mm_M := (yX11_ground, cX11_ground, 3, some .int)
theorem mzX11_ground : mm_Mz zX11_ground 2 := ⟨mm_inl mm_sg2 (i := 228) (by decide +kernel) (by decide +kernel), mm_inl mm_sg1 (i := 1) (by decide +kernel) (by decide +kernel), by decide +kernel, by decide +kernel, by decide +kernel⟩
theorem imX11_ground : Cond.instanceMethod zX11_ground.1 ∈ mm_tb ∧ Cond.selects zX11_ground.1.cls zX11_ground.1 zX11_ground.1 ∈ mm_tb := ⟨mm_inl mm_sg2 (i := 226) (by decide +kernel) (by decide +kernel), mm_inl mm_sg2 (i := 227) (by decide +kernel) (by decide +kernel)⟩
def zX11_within : mm_M := (yX11_within, cX11_within, 3, some .boolean)
theorem mzX11_within : mm_Mz zX11_within 3 := ⟨mm_inl mm_sg2 (i := 231) (by decide +kernel) (by decide +kernel), mm_inl mm_sg1 (i := 1) (by decide +kernel) (by decide +kernel), by decide +kernel, by decide +kernel, by decide +kernel⟩
theorem imX11_within : Cond.static zX11_within.1 ∈ mm_tb := mm_inl mm_sg2 (i := 230) (by decide +kernel) (by decide +kernel)
def zX8_renew : mm_M := (yX8_renew, cX8_renew, 3, none)
theorem mzX8_renew : mm_Mz zX8_renew 2 := ⟨mm_inl mm_sg2 (i := 236) (by decide +kernel) (by decide +kernel), mm_inl mm_sg1 (i := 2) (by decide +kernel) (by decide +kernel), by decide +kernel, by decide +kernel, by decide +kernel⟩
theorem imX8_renew : Cond.instanceMethod zX8_renew.1 ∈ mm_tb ∧ Cond.selects zX8_renew.1.cls zX8_renew.1 zX8_renew.1 ∈ mm_tb := ⟨mm_inl mm_sg2 (i := 234) (by decide +kernel) (by decide +kernel), mm_inl mm_sg2 (i := 235) (by decide +kernel) (by decide +kernel)⟩
def zX5_shorten : mm_M := (yX5_shorten, cX5_shorten, 2, none)
theorem mzX5_shorten : mm_Mz zX5_shorten 1 := ⟨mm_inl mm_sg3 (i := 1) (by decide +kernel) (by decide +kernel), mm_inl mm_sg1 (i := 4) (by decide +kernel) (by decide +kernel), by decide +kernel, by decide +kernel, by decide +kernel⟩
theorem imX5_shorten : Cond.instanceMethod zX5_shorten.1 ∈ mm_tb ∧ Cond.selects zX5_shorten.1.cls zX5_shorten.1 zX5_shorten.1 ∈ mm_tb := ⟨mm_inl mm_sg2 (i := 239) (by decide +kernel) (by decide +kernel), mm_inl mm_sg3 (i := 0) (by decide +kernel) (by decide +kernel)⟩
def zX11_cell : mm_M := (yX11_cell, cX11_cell, 4, some .int)
theorem mzX11_cell : mm_Mz zX11_cell 2 := ⟨mm_inl mm_sg3 (i := 6) (by decide +kernel) (by decide +kernel), mm_inl mm_sg1 (i := 1) (by decide +kernel) (by decide +kernel), by decide +kernel, by decide +kernel, by decide +kernel⟩
theorem imX11_cell : Cond.instanceMethod zX11_cell.1 ∈ mm_tb ∧ Cond.selects zX11_cell.1.cls zX11_cell.1 zX11_cell.1 ∈ mm_tb := ⟨mm_inl mm_sg3 (i := 4) (by decide +kernel) (by decide +kernel), mm_inl mm_sg3 (i := 5) (by decide +kernel) (by decide +kernel)⟩
def zX0_holds : mm_M := (yX0_holds, cX0_holds, 2, some .boolean)
theorem mzX0_holds : mm_Mz zX0_holds 1 := ⟨mm_inl mm_sg3 (i := 10) (by decide +kernel) (by decide +kernel), mm_inl mm_sg1 (i := 3) (by decide +kernel) (by decide +kernel), by decide +kernel, by decide +kernel, by decide +kernel⟩
theorem imX0_holds : Cond.instanceMethod zX0_holds.1 ∈ mm_tb ∧ Cond.selects zX0_holds.1.cls zX0_holds.1 zX0_holds.1 ∈ mm_tb := ⟨mm_inl mm_sg3 (i := 8) (by decide +kernel) (by decide +kernel), mm_inl mm_sg3 (i := 9) (by decide +kernel) (by decide +kernel)⟩
def zX8_machineOn : mm_M := (yX8_machineOn, cX8_machineOn, 4, some .int)
theorem mzX8_machineOn : mm_Mz zX8_machineOn 1 := ⟨mm_inl mm_sg3 (i := 14) (by decide +kernel) (by decide +kernel), mm_inl mm_sg1 (i := 2) (by decide +kernel) (by decide +kernel), by decide +kernel, by decide +kernel, by decide +kernel⟩
theorem imX8_machineOn : Cond.instanceMethod zX8_machineOn.1 ∈ mm_tb ∧ Cond.selects zX8_machineOn.1.cls zX8_machineOn.1 zX8_machineOn.1 ∈ mm_tb := ⟨mm_inl mm_sg3 (i := 12) (by decide +kernel) (by decide +kernel), mm_inl mm_sg3 (i := 13) (by decide +kernel) (by decide +kernel)⟩
def zX8_worker : mm_M := (yX8_worker, cX8_worker, 2, some (.object "DarkBase$Machine"))
theorem mzX8_worker : mm_Mz zX8_worker 1 := ⟨mm_inl mm_sg3 (i := 18) (by decide +kernel) (by decide +kernel), mm_inl mm_sg1 (i := 2) (by decide +kernel) (by decide +kernel), by decide +kernel, by decide +kernel, by decide +kernel⟩
theorem imX8_worker : Cond.instanceMethod zX8_worker.1 ∈ mm_tb ∧ Cond.selects zX8_worker.1.cls zX8_worker.1 zX8_worker.1 ∈ mm_tb := ⟨mm_inl mm_sg3 (i := 16) (by decide +kernel) (by decide +kernel), mm_inl mm_sg3 (i := 17) (by decide +kernel) (by decide +kernel)⟩
def zX5_swap : mm_M := (yX5_swap, cX5_swap, 4, some .int)
theorem mzX5_swap : mm_Mz zX5_swap 2 := ⟨mm_inl mm_sg3 (i := 23) (by decide +kernel) (by decide +kernel), mm_inl mm_sg1 (i := 4) (by decide +kernel) (by decide +kernel), by decide +kernel, by decide +kernel, by decide +kernel⟩
theorem imX5_swap : Cond.instanceMethod zX5_swap.1 ∈ mm_tb ∧ Cond.selects zX5_swap.1.cls zX5_swap.1 zX5_swap.1 ∈ mm_tb := ⟨mm_inl mm_sg3 (i := 21) (by decide +kernel) (by decide +kernel), mm_inl mm_sg3 (i := 22) (by decide +kernel) (by decide +kernel)⟩
def zX5_at : mm_M := (yX5_at, cX5_at, 2, some .int)
theorem mzX5_at : mm_Mz zX5_at 1 := ⟨mm_inl mm_sg3 (i := 27) (by decide +kernel) (by decide +kernel), mm_inl mm_sg1 (i := 4) (by decide +kernel) (by decide +kernel), by decide +kernel, by decide +kernel, by decide +kernel⟩
theorem imX5_at : Cond.instanceMethod zX5_at.1 ∈ mm_tb ∧ Cond.selects zX5_at.1.cls zX5_at.1 zX5_at.1 ∈ mm_tb := ⟨mm_inl mm_sg3 (i := 25) (by decide +kernel) (by decide +kernel), mm_inl mm_sg3 (i := 26) (by decide +kernel) (by decide +kernel)⟩
def zX11_put : mm_M := (yX11_put, cX11_put, 5, some .int)
theorem mzX11_put : mm_Mz zX11_put 3 := ⟨mm_inl mm_sg3 (i := 32) (by decide +kernel) (by decide +kernel), mm_inl mm_sg1 (i := 1) (by decide +kernel) (by decide +kernel), by decide +kernel, by decide +kernel, by decide +kernel⟩
theorem imX11_put : Cond.instanceMethod zX11_put.1 ∈ mm_tb ∧ Cond.selects zX11_put.1.cls zX11_put.1 zX11_put.1 ∈ mm_tb := ⟨mm_inl mm_sg3 (i := 30) (by decide +kernel) (by decide +kernel), mm_inl mm_sg3 (i := 31) (by decide +kernel) (by decide +kernel)⟩
def zX0_kilosOf : mm_M := (yX0_kilosOf, cX0_kilosOf, 2, some (.object "DarkBase$Row"))
theorem mzX0_kilosOf : mm_Mz zX0_kilosOf 1 := ⟨mm_inl mm_sg3 (i := 36) (by decide +kernel) (by decide +kernel), mm_inl mm_sg1 (i := 3) (by decide +kernel) (by decide +kernel), by decide +kernel, by decide +kernel, by decide +kernel⟩
theorem imX0_kilosOf : Cond.instanceMethod zX0_kilosOf.1 ∈ mm_tb ∧ Cond.selects zX0_kilosOf.1.cls zX0_kilosOf.1 zX0_kilosOf.1 ∈ mm_tb := ⟨mm_inl mm_sg3 (i := 34) (by decide +kernel) (by decide +kernel), mm_inl mm_sg3 (i := 35) (by decide +kernel) (by decide +kernel)⟩
def zX11_told : mm_M := (yX11_told, cX11_told, 4, some .int)
theorem mzX11_told : mm_Mz zX11_told 2 := ⟨mm_inl mm_sg3 (i := 40) (by decide +kernel) (by decide +kernel), mm_inl mm_sg1 (i := 1) (by decide +kernel) (by decide +kernel), by decide +kernel, by decide +kernel, by decide +kernel⟩
theorem imX11_told : Cond.instanceMethod zX11_told.1 ∈ mm_tb ∧ Cond.selects zX11_told.1.cls zX11_told.1 zX11_told.1 ∈ mm_tb := ⟨mm_inl mm_sg3 (i := 38) (by decide +kernel) (by decide +kernel), mm_inl mm_sg3 (i := 39) (by decide +kernel) (by decide +kernel)⟩
def zX11_orNone : mm_M := (yX11_orNone, cX11_orNone, 1, some .int)
theorem mzX11_orNone : mm_Mz zX11_orNone 1 := ⟨mm_inl mm_sg3 (i := 44) (by decide +kernel) (by decide +kernel), mm_inl mm_sg1 (i := 1) (by decide +kernel) (by decide +kernel), by decide +kernel, by decide +kernel, by decide +kernel⟩
theorem imX11_orNone : Cond.static zX11_orNone.1 ∈ mm_tb := mm_inl mm_sg3 (i := 43) (by decide +kernel) (by decide +kernel)
def zX11_isOf : mm_M := (yX11_isOf, cX11_isOf, 3, some .int)
theorem mzX11_isOf : mm_Mz zX11_isOf 2 := ⟨mm_inl mm_sg3 (i := 49) (by decide +kernel) (by decide +kernel), mm_inl mm_sg1 (i := 1) (by decide +kernel) (by decide +kernel), by decide +kernel, by decide +kernel, by decide +kernel⟩
theorem imX11_isOf : Cond.instanceMethod zX11_isOf.1 ∈ mm_tb ∧ Cond.selects zX11_isOf.1.cls zX11_isOf.1 zX11_isOf.1 ∈ mm_tb := ⟨mm_inl mm_sg3 (i := 47) (by decide +kernel) (by decide +kernel), mm_inl mm_sg3 (i := 48) (by decide +kernel) (by decide +kernel)⟩
def zX0_isA : mm_M := (yX0_isA, cX0_isA, 3, some .boolean)
theorem mzX0_isA : mm_Mz zX0_isA 2 := ⟨mm_inl mm_sg3 (i := 53) (by decide +kernel) (by decide +kernel), mm_inl mm_sg1 (i := 3) (by decide +kernel) (by decide +kernel), by decide +kernel, by decide +kernel, by decide +kernel⟩
theorem imX0_isA : Cond.instanceMethod zX0_isA.1 ∈ mm_tb ∧ Cond.selects zX0_isA.1.cls zX0_isA.1 zX0_isA.1 ∈ mm_tb := ⟨mm_inl mm_sg3 (i := 51) (by decide +kernel) (by decide +kernel), mm_inl mm_sg3 (i := 52) (by decide +kernel) (by decide +kernel)⟩
def zX11_isUnder : mm_M := (yX11_isUnder, cX11_isUnder, 5, some .boolean)
theorem mzX11_isUnder : mm_Mz zX11_isUnder 3 := ⟨mm_inl mm_sg3 (i := 59) (by decide +kernel) (by decide +kernel), mm_inl mm_sg1 (i := 1) (by decide +kernel) (by decide +kernel), by decide +kernel, by decide +kernel, by decide +kernel⟩
theorem imX11_isUnder : Cond.static zX11_isUnder.1 ∈ mm_tb := mm_inl mm_sg3 (i := 58) (by decide +kernel) (by decide +kernel)
def zX11_asBit : mm_M := (yX11_asBit, cX11_asBit, 1, some .int)
theorem mzX11_asBit : mm_Mz zX11_asBit 1 := ⟨mm_inl mm_sg3 (i := 62) (by decide +kernel) (by decide +kernel), mm_inl mm_sg1 (i := 1) (by decide +kernel) (by decide +kernel), by decide +kernel, by decide +kernel, by decide +kernel⟩
theorem imX11_asBit : Cond.static zX11_asBit.1 ∈ mm_tb := mm_inl mm_sg3 (i := 61) (by decide +kernel) (by decide +kernel)
def zX11_map : mm_M := (yX11_map, cX11_map, 3, some .int)
theorem mzX11_map : mm_Mz zX11_map 2 := ⟨mm_inl mm_sg3 (i := 66) (by decide +kernel) (by decide +kernel), mm_inl mm_sg1 (i := 1) (by decide +kernel) (by decide +kernel), by decide +kernel, by decide +kernel, by decide +kernel⟩
theorem imX11_map : Cond.instanceMethod zX11_map.1 ∈ mm_tb ∧ Cond.selects zX11_map.1.cls zX11_map.1 zX11_map.1 ∈ mm_tb := ⟨mm_inl mm_sg3 (i := 64) (by decide +kernel) (by decide +kernel), mm_inl mm_sg3 (i := 65) (by decide +kernel) (by decide +kernel)⟩
def zX0_known : mm_M := (yX0_known, cX0_known, 4, some .int)
theorem mzX0_known : mm_Mz zX0_known 2 := ⟨mm_inl mm_sg3 (i := 70) (by decide +kernel) (by decide +kernel), mm_inl mm_sg1 (i := 3) (by decide +kernel) (by decide +kernel), by decide +kernel, by decide +kernel, by decide +kernel⟩
theorem imX0_known : Cond.instanceMethod zX0_known.1 ∈ mm_tb ∧ Cond.selects zX0_known.1.cls zX0_known.1 zX0_known.1 ∈ mm_tb := ⟨mm_inl mm_sg3 (i := 68) (by decide +kernel) (by decide +kernel), mm_inl mm_sg3 (i := 69) (by decide +kernel) (by decide +kernel)⟩
def zX11_lay : mm_M := (yX11_lay, cX11_lay, 5, some .int)
theorem mzX11_lay : mm_Mz zX11_lay 1 := ⟨mm_inl mm_sg3 (i := 75) (by decide +kernel) (by decide +kernel), mm_inl mm_sg1 (i := 1) (by decide +kernel) (by decide +kernel), by decide +kernel, by decide +kernel, by decide +kernel⟩
theorem imX11_lay : Cond.instanceMethod zX11_lay.1 ∈ mm_tb ∧ Cond.selects zX11_lay.1.cls zX11_lay.1 zX11_lay.1 ∈ mm_tb := ⟨mm_inl mm_sg3 (i := 73) (by decide +kernel) (by decide +kernel), mm_inl mm_sg3 (i := 74) (by decide +kernel) (by decide +kernel)⟩
def zX7_isThere : mm_M := (yX7_isThere, cX7_isThere, 2, some .boolean)
theorem mzX7_isThere : mm_Mz zX7_isThere 1 := ⟨mm_inl mm_sg3 (i := 79) (by decide +kernel) (by decide +kernel), mm_inl mm_sg1 (i := 13) (by decide +kernel) (by decide +kernel), by decide +kernel, by decide +kernel, by decide +kernel⟩
theorem imX7_isThere : Cond.instanceMethod zX7_isThere.1 ∈ mm_tb ∧ Cond.selects zX7_isThere.1.cls zX7_isThere.1 zX7_isThere.1 ∈ mm_tb := ⟨mm_inl mm_sg3 (i := 77) (by decide +kernel) (by decide +kernel), mm_inl mm_sg3 (i := 78) (by decide +kernel) (by decide +kernel)⟩
def zX7_places : mm_M := (yX7_places, cX7_places, 2, some .int)
theorem mzX7_places : mm_Mz zX7_places 1 := ⟨mm_inl mm_sg3 (i := 84) (by decide +kernel) (by decide +kernel), mm_inl mm_sg1 (i := 13) (by decide +kernel) (by decide +kernel), by decide +kernel, by decide +kernel, by decide +kernel⟩
theorem imX7_places : Cond.instanceMethod zX7_places.1 ∈ mm_tb ∧ Cond.selects zX7_places.1.cls zX7_places.1 zX7_places.1 ∈ mm_tb := ⟨mm_inl mm_sg3 (i := 82) (by decide +kernel) (by decide +kernel), mm_inl mm_sg3 (i := 83) (by decide +kernel) (by decide +kernel)⟩
def zX7_row : mm_M := (yX7_row, cX7_row, 2, some (.object "DarkBase$Row"))
theorem mzX7_row : mm_Mz zX7_row 1 := ⟨mm_inl mm_sg3 (i := 88) (by decide +kernel) (by decide +kernel), mm_inl mm_sg1 (i := 13) (by decide +kernel) (by decide +kernel), by decide +kernel, by decide +kernel, by decide +kernel⟩
theorem imX7_row : Cond.instanceMethod zX7_row.1 ∈ mm_tb ∧ Cond.selects zX7_row.1.cls zX7_row.1 zX7_row.1 ∈ mm_tb := ⟨mm_inl mm_sg3 (i := 87) (by decide +kernel) (by decide +kernel), mm_inl mm_sgp (i := 0) (by decide +kernel) (by decide +kernel)⟩
def zX5_size : mm_M := (yX5_size, cX5_size, 1, some .int)
theorem mzX5_size : mm_Mz zX5_size 0 := ⟨mm_inl mm_sg3 (i := 92) (by decide +kernel) (by decide +kernel), mm_inl mm_sg1 (i := 4) (by decide +kernel) (by decide +kernel), by decide +kernel, by decide +kernel, by decide +kernel⟩
theorem imX5_size : Cond.instanceMethod zX5_size.1 ∈ mm_tb ∧ Cond.selects zX5_size.1.cls zX5_size.1 zX5_size.1 ∈ mm_tb := ⟨mm_inl mm_sg3 (i := 90) (by decide +kernel) (by decide +kernel), mm_inl mm_sg3 (i := 91) (by decide +kernel) (by decide +kernel)⟩
def zX7_at : mm_M := (yX7_at, cX7_at, 3, some .int)
theorem mzX7_at : mm_Mz zX7_at 2 := ⟨mm_inl mm_sg3 (i := 97) (by decide +kernel) (by decide +kernel), mm_inl mm_sg1 (i := 13) (by decide +kernel) (by decide +kernel), by decide +kernel, by decide +kernel, by decide +kernel⟩
theorem imX7_at : Cond.instanceMethod zX7_at.1 ∈ mm_tb ∧ Cond.selects zX7_at.1.cls zX7_at.1 zX7_at.1 ∈ mm_tb := ⟨mm_inl mm_sg3 (i := 95) (by decide +kernel) (by decide +kernel), mm_inl mm_sg3 (i := 96) (by decide +kernel) (by decide +kernel)⟩
def zX11_steps : mm_M := (yX11_steps, cX11_steps, 3, some .int)
theorem mzX11_steps : mm_Mz zX11_steps 2 := ⟨mm_inl mm_sg3 (i := 103) (by decide +kernel) (by decide +kernel), mm_inl mm_sg1 (i := 1) (by decide +kernel) (by decide +kernel), by decide +kernel, by decide +kernel, by decide +kernel⟩
theorem imX11_steps : Cond.instanceMethod zX11_steps.1 ∈ mm_tb ∧ Cond.selects zX11_steps.1.cls zX11_steps.1 zX11_steps.1 ∈ mm_tb := ⟨mm_inl mm_sg3 (i := 101) (by decide +kernel) (by decide +kernel), mm_inl mm_sg3 (i := 102) (by decide +kernel) (by decide +kernel)⟩
def zX0_measure : mm_M := (yX0_measure, cX0_measure, 6, none)
theorem mzX0_measure : mm_Mz zX0_measure 1 := ⟨mm_inl mm_sg3 (i := 107) (by decide +kernel) (by decide +kernel), mm_inl mm_sg1 (i := 3) (by decide +kernel) (by decide +kernel), by decide +kernel, by decide +kernel, by decide +kernel⟩
theorem imX0_measure : Cond.instanceMethod zX0_measure.1 ∈ mm_tb ∧ Cond.selects zX0_measure.1.cls zX0_measure.1 zX0_measure.1 ∈ mm_tb := ⟨mm_inl mm_sg3 (i := 105) (by decide +kernel) (by decide +kernel), mm_inl mm_sg3 (i := 106) (by decide +kernel) (by decide +kernel)⟩
def zX0_isOpen : mm_M := (yX0_isOpen, cX0_isOpen, 2, some .boolean)
theorem mzX0_isOpen : mm_Mz zX0_isOpen 1 := ⟨mm_inl mm_sg3 (i := 112) (by decide +kernel) (by decide +kernel), mm_inl mm_sg1 (i := 3) (by decide +kernel) (by decide +kernel), by decide +kernel, by decide +kernel, by decide +kernel⟩
theorem imX0_isOpen : Cond.instanceMethod zX0_isOpen.1 ∈ mm_tb ∧ Cond.selects zX0_isOpen.1.cls zX0_isOpen.1 zX0_isOpen.1 ∈ mm_tb := ⟨mm_inl mm_sg3 (i := 110) (by decide +kernel) (by decide +kernel), mm_inl mm_sg3 (i := 111) (by decide +kernel) (by decide +kernel)⟩
def zX5_add : mm_M := (yX5_add, cX5_add, 2, some .boolean)
theorem mzX5_add : mm_Mz zX5_add 1 := ⟨mm_inl mm_sg3 (i := 116) (by decide +kernel) (by decide +kernel), mm_inl mm_sg1 (i := 4) (by decide +kernel) (by decide +kernel), by decide +kernel, by decide +kernel, by decide +kernel⟩
theorem imX5_add : Cond.instanceMethod zX5_add.1 ∈ mm_tb ∧ Cond.selects zX5_add.1.cls zX5_add.1 zX5_add.1 ∈ mm_tb := ⟨mm_inl mm_sg3 (i := 114) (by decide +kernel) (by decide +kernel), mm_inl mm_sg3 (i := 115) (by decide +kernel) (by decide +kernel)⟩
def zX0_beside : mm_M := (yX0_beside, cX0_beside, 3, some .int)
theorem mzX0_beside : mm_Mz zX0_beside 2 := ⟨mm_inl mm_sg3 (i := 121) (by decide +kernel) (by decide +kernel), mm_inl mm_sg1 (i := 3) (by decide +kernel) (by decide +kernel), by decide +kernel, by decide +kernel, by decide +kernel⟩
theorem imX0_beside : Cond.instanceMethod zX0_beside.1 ∈ mm_tb ∧ Cond.selects zX0_beside.1.cls zX0_beside.1 zX0_beside.1 ∈ mm_tb := ⟨mm_inl mm_sg3 (i := 119) (by decide +kernel) (by decide +kernel), mm_inl mm_sg3 (i := 120) (by decide +kernel) (by decide +kernel)⟩
def zX0_column : mm_M := (yX0_column, cX0_column, 2, some .int)
theorem mzX0_column : mm_Mz zX0_column 1 := ⟨mm_inl mm_sg3 (i := 125) (by decide +kernel) (by decide +kernel), mm_inl mm_sg1 (i := 3) (by decide +kernel) (by decide +kernel), by decide +kernel, by decide +kernel, by decide +kernel⟩
theorem imX0_column : Cond.instanceMethod zX0_column.1 ∈ mm_tb ∧ Cond.selects zX0_column.1.cls zX0_column.1 zX0_column.1 ∈ mm_tb := ⟨mm_inl mm_sg3 (i := 123) (by decide +kernel) (by decide +kernel), mm_inl mm_sg3 (i := 124) (by decide +kernel) (by decide +kernel)⟩
def zX0_line : mm_M := (yX0_line, cX0_line, 2, some .int)
theorem mzX0_line : mm_Mz zX0_line 1 := ⟨mm_inl mm_sg3 (i := 129) (by decide +kernel) (by decide +kernel), mm_inl mm_sg1 (i := 3) (by decide +kernel) (by decide +kernel), by decide +kernel, by decide +kernel, by decide +kernel⟩
theorem imX0_line : Cond.instanceMethod zX0_line.1 ∈ mm_tb ∧ Cond.selects zX0_line.1.cls zX0_line.1 zX0_line.1 ∈ mm_tb := ⟨mm_inl mm_sg3 (i := 127) (by decide +kernel) (by decide +kernel), mm_inl mm_sg3 (i := 128) (by decide +kernel) (by decide +kernel)⟩
def zX11_store : mm_M := (yX11_store, cX11_store, 3, some .int)
theorem mzX11_store : mm_Mz zX11_store 2 := ⟨mm_inl mm_sg3 (i := 133) (by decide +kernel) (by decide +kernel), mm_inl mm_sg1 (i := 1) (by decide +kernel) (by decide +kernel), by decide +kernel, by decide +kernel, by decide +kernel⟩
theorem imX11_store : Cond.instanceMethod zX11_store.1 ∈ mm_tb ∧ Cond.selects zX11_store.1.cls zX11_store.1 zX11_store.1 ∈ mm_tb := ⟨mm_inl mm_sg3 (i := 131) (by decide +kernel) (by decide +kernel), mm_inl mm_sg3 (i := 132) (by decide +kernel) (by decide +kernel)⟩
def zX11_rule : mm_M := (yX11_rule, cX11_rule, 3, some .int)
theorem mzX11_rule : mm_Mz zX11_rule 2 := ⟨mm_inl mm_sg3 (i := 137) (by decide +kernel) (by decide +kernel), mm_inl mm_sg1 (i := 1) (by decide +kernel) (by decide +kernel), by decide +kernel, by decide +kernel, by decide +kernel⟩
theorem imX11_rule : Cond.instanceMethod zX11_rule.1 ∈ mm_tb ∧ Cond.selects zX11_rule.1.cls zX11_rule.1 zX11_rule.1 ∈ mm_tb := ⟨mm_inl mm_sg3 (i := 135) (by decide +kernel) (by decide +kernel), mm_inl mm_sg3 (i := 136) (by decide +kernel) (by decide +kernel)⟩
def zX3_change : mm_M := (yX3_change, cX3_change, 4, some .int)
theorem mzX3_change : mm_Mz zX3_change 2 := ⟨mm_inl mm_sg3 (i := 145) (by decide +kernel) (by decide +kernel), mm_inl mm_sg1 (i := 6) (by decide +kernel) (by decide +kernel), by decide +kernel, by decide +kernel, by decide +kernel⟩
theorem imX3_change : Cond.instanceMethod zX3_change.1 ∈ mm_tb ∧ Cond.selects zX3_change.1.cls zX3_change.1 zX3_change.1 ∈ mm_tb := ⟨mm_inl mm_sg3 (i := 143) (by decide +kernel) (by decide +kernel), mm_inl mm_sg3 (i := 144) (by decide +kernel) (by decide +kernel)⟩
def zX11_load : mm_M := (yX11_load, cX11_load, 3, some .int)
theorem mzX11_load : mm_Mz zX11_load 2 := ⟨mm_inl mm_sg3 (i := 149) (by decide +kernel) (by decide +kernel), mm_inl mm_sg1 (i := 1) (by decide +kernel) (by decide +kernel), by decide +kernel, by decide +kernel, by decide +kernel⟩
theorem imX11_load : Cond.instanceMethod zX11_load.1 ∈ mm_tb ∧ Cond.selects zX11_load.1.cls zX11_load.1 zX11_load.1 ∈ mm_tb := ⟨mm_inl mm_sg3 (i := 147) (by decide +kernel) (by decide +kernel), mm_inl mm_sg3 (i := 148) (by decide +kernel) (by decide +kernel)⟩
def zX3_loads : mm_M := (yX3_loads, cX3_loads, 1, some .int)
theorem mzX3_loads : mm_Mz zX3_loads 0 := ⟨mm_inl mm_sg3 (i := 153) (by decide +kernel) (by decide +kernel), mm_inl mm_sg1 (i := 6) (by decide +kernel) (by decide +kernel), by decide +kernel, by decide +kernel, by decide +kernel⟩
theorem imX3_loads : Cond.instanceMethod zX3_loads.1 ∈ mm_tb ∧ Cond.selects zX3_loads.1.cls zX3_loads.1 zX3_loads.1 ∈ mm_tb := ⟨mm_inl mm_sg3 (i := 151) (by decide +kernel) (by decide +kernel), mm_inl mm_sg3 (i := 152) (by decide +kernel) (by decide +kernel)⟩
def zX3_addLoad : mm_M := (yX3_addLoad, cX3_addLoad, 3, some .int)
theorem mzX3_addLoad : mm_Mz zX3_addLoad 2 := ⟨mm_inl mm_sg3 (i := 159) (by decide +kernel) (by decide +kernel), mm_inl mm_sg1 (i := 6) (by decide +kernel) (by decide +kernel), by decide +kernel, by decide +kernel, by decide +kernel⟩
theorem imX3_addLoad : Cond.instanceMethod zX3_addLoad.1 ∈ mm_tb ∧ Cond.selects zX3_addLoad.1.cls zX3_addLoad.1 zX3_addLoad.1 ∈ mm_tb := ⟨mm_inl mm_sg3 (i := 157) (by decide +kernel) (by decide +kernel), mm_inl mm_sg3 (i := 158) (by decide +kernel) (by decide +kernel)⟩
def zX11_base : mm_M := (yX11_base, cX11_base, 3, some .int)
theorem mzX11_base : mm_Mz zX11_base 1 := ⟨mm_inl mm_sg3 (i := 165) (by decide +kernel) (by decide +kernel), mm_inl mm_sg1 (i := 1) (by decide +kernel) (by decide +kernel), by decide +kernel, by decide +kernel, by decide +kernel⟩
theorem imX11_base : Cond.instanceMethod zX11_base.1 ∈ mm_tb ∧ Cond.selects zX11_base.1.cls zX11_base.1 zX11_base.1 ∈ mm_tb := ⟨mm_inl mm_sg3 (i := 163) (by decide +kernel) (by decide +kernel), mm_inl mm_sg3 (i := 164) (by decide +kernel) (by decide +kernel)⟩
def zX3_isLight : mm_M := (yX3_isLight, cX3_isLight, 1, some .boolean)
theorem mzX3_isLight : mm_Mz zX3_isLight 0 := ⟨mm_inl mm_sg3 (i := 169) (by decide +kernel) (by decide +kernel), mm_inl mm_sg1 (i := 6) (by decide +kernel) (by decide +kernel), by decide +kernel, by decide +kernel, by decide +kernel⟩
theorem imX3_isLight : Cond.instanceMethod zX3_isLight.1 ∈ mm_tb ∧ Cond.selects zX3_isLight.1.cls zX3_isLight.1 zX3_isLight.1 ∈ mm_tb := ⟨mm_inl mm_sg3 (i := 167) (by decide +kernel) (by decide +kernel), mm_inl mm_sg3 (i := 168) (by decide +kernel) (by decide +kernel)⟩
def zX3_hour : mm_M := (yX3_hour, cX3_hour, 2, some .int)
theorem mzX3_hour : mm_Mz zX3_hour 0 := ⟨mm_inl mm_sg3 (i := 173) (by decide +kernel) (by decide +kernel), mm_inl mm_sg1 (i := 6) (by decide +kernel) (by decide +kernel), by decide +kernel, by decide +kernel, by decide +kernel⟩
theorem imX3_hour : Cond.instanceMethod zX3_hour.1 ∈ mm_tb ∧ Cond.selects zX3_hour.1.cls zX3_hour.1 zX3_hour.1 ∈ mm_tb := ⟨mm_inl mm_sg3 (i := 171) (by decide +kernel) (by decide +kernel), mm_inl mm_sg3 (i := 172) (by decide +kernel) (by decide +kernel)⟩
def zX11_machine : mm_M := (yX11_machine, cX11_machine, 3, some .int)
theorem mzX11_machine : mm_Mz zX11_machine 2 := ⟨mm_inl mm_sg3 (i := 177) (by decide +kernel) (by decide +kernel), mm_inl mm_sg1 (i := 1) (by decide +kernel) (by decide +kernel), by decide +kernel, by decide +kernel, by decide +kernel⟩
theorem imX11_machine : Cond.instanceMethod zX11_machine.1 ∈ mm_tb ∧ Cond.selects zX11_machine.1.cls zX11_machine.1 zX11_machine.1 ∈ mm_tb := ⟨mm_inl mm_sg3 (i := 175) (by decide +kernel) (by decide +kernel), mm_inl mm_sg3 (i := 176) (by decide +kernel) (by decide +kernel)⟩
def zX8_addMachine : mm_M := (yX8_addMachine, cX8_addMachine, 4, some .int)
theorem mzX8_addMachine : mm_Mz zX8_addMachine 2 := ⟨mm_inl mm_sg3 (i := 182) (by decide +kernel) (by decide +kernel), mm_inl mm_sg1 (i := 2) (by decide +kernel) (by decide +kernel), by decide +kernel, by decide +kernel, by decide +kernel⟩
theorem imX8_addMachine : Cond.instanceMethod zX8_addMachine.1 ∈ mm_tb ∧ Cond.selects zX8_addMachine.1.cls zX8_addMachine.1 zX8_addMachine.1 ∈ mm_tb := ⟨mm_inl mm_sg3 (i := 180) (by decide +kernel) (by decide +kernel), mm_inl mm_sg3 (i := 181) (by decide +kernel) (by decide +kernel)⟩
def zX11_is : mm_M := (yX11_is, cX11_is, 4, some .int)
theorem mzX11_is : mm_Mz zX11_is 2 := ⟨mm_inl mm_sg3 (i := 187) (by decide +kernel) (by decide +kernel), mm_inl mm_sg1 (i := 1) (by decide +kernel) (by decide +kernel), by decide +kernel, by decide +kernel, by decide +kernel⟩
theorem imX11_is : Cond.instanceMethod zX11_is.1 ∈ mm_tb ∧ Cond.selects zX11_is.1.cls zX11_is.1 zX11_is.1 ∈ mm_tb := ⟨mm_inl mm_sg3 (i := 185) (by decide +kernel) (by decide +kernel), mm_inl mm_sg3 (i := 186) (by decide +kernel) (by decide +kernel)⟩
def zX1_isA : mm_M := (yX1_isA, cX1_isA, 2, some .boolean)
theorem mzX1_isA : mm_Mz zX1_isA 1 := ⟨mm_inl mm_sg3 (i := 192) (by decide +kernel) (by decide +kernel), mm_inl mm_sg1 (i := 8) (by decide +kernel) (by decide +kernel), by decide +kernel, by decide +kernel, by decide +kernel⟩
theorem imX1_isA : Cond.instanceMethod zX1_isA.1 ∈ mm_tb ∧ Cond.selects zX1_isA.1.cls zX1_isA.1 zX1_isA.1 ∈ mm_tb := ⟨mm_inl mm_sg3 (i := 190) (by decide +kernel) (by decide +kernel), mm_inl mm_sg3 (i := 191) (by decide +kernel) (by decide +kernel)⟩
def zX11_tune : mm_M := (yX11_tune, cX11_tune, 6, some .int)
theorem mzX11_tune : mm_Mz zX11_tune 3 := ⟨mm_inl mm_sg3 (i := 199) (by decide +kernel) (by decide +kernel), mm_inl mm_sg1 (i := 1) (by decide +kernel) (by decide +kernel), by decide +kernel, by decide +kernel, by decide +kernel⟩
theorem imX11_tune : Cond.instanceMethod zX11_tune.1 ∈ mm_tb ∧ Cond.selects zX11_tune.1.cls zX11_tune.1 zX11_tune.1 ∈ mm_tb := ⟨mm_inl mm_sg3 (i := 197) (by decide +kernel) (by decide +kernel), mm_inl mm_sg3 (i := 198) (by decide +kernel) (by decide +kernel)⟩
def zX11_has : mm_M := (yX11_has, cX11_has, 4, some .int)
theorem mzX11_has : mm_Mz zX11_has 2 := ⟨mm_inl mm_sg3 (i := 203) (by decide +kernel) (by decide +kernel), mm_inl mm_sg1 (i := 1) (by decide +kernel) (by decide +kernel), by decide +kernel, by decide +kernel, by decide +kernel⟩
theorem imX11_has : Cond.instanceMethod zX11_has.1 ∈ mm_tb ∧ Cond.selects zX11_has.1.cls zX11_has.1 zX11_has.1 ∈ mm_tb := ⟨mm_inl mm_sg3 (i := 201) (by decide +kernel) (by decide +kernel), mm_inl mm_sg3 (i := 202) (by decide +kernel) (by decide +kernel)⟩
def zX1_isBroken : mm_M := (yX1_isBroken, cX1_isBroken, 1, some .boolean)
theorem mzX1_isBroken : mm_Mz zX1_isBroken 0 := ⟨mm_inl mm_sg3 (i := 207) (by decide +kernel) (by decide +kernel), mm_inl mm_sg1 (i := 8) (by decide +kernel) (by decide +kernel), by decide +kernel, by decide +kernel, by decide +kernel⟩
theorem imX1_isBroken : Cond.instanceMethod zX1_isBroken.1 ∈ mm_tb ∧ Cond.selects zX1_isBroken.1.cls zX1_isBroken.1 zX1_isBroken.1 ∈ mm_tb := ⟨mm_inl mm_sg3 (i := 205) (by decide +kernel) (by decide +kernel), mm_inl mm_sg3 (i := 206) (by decide +kernel) (by decide +kernel)⟩
def zX11_feed : mm_M := (yX11_feed, cX11_feed, 4, some .int)
theorem mzX11_feed : mm_Mz zX11_feed 3 := ⟨mm_inl mm_sg3 (i := 211) (by decide +kernel) (by decide +kernel), mm_inl mm_sg1 (i := 1) (by decide +kernel) (by decide +kernel), by decide +kernel, by decide +kernel, by decide +kernel⟩
theorem imX11_feed : Cond.instanceMethod zX11_feed.1 ∈ mm_tb ∧ Cond.selects zX11_feed.1.cls zX11_feed.1 zX11_feed.1 ∈ mm_tb := ⟨mm_inl mm_sg3 (i := 209) (by decide +kernel) (by decide +kernel), mm_inl mm_sg3 (i := 210) (by decide +kernel) (by decide +kernel)⟩
def zX11_addBytes : mm_M := (yX11_addBytes, cX11_addBytes, 3, none)
theorem mzX11_addBytes : mm_Mz zX11_addBytes 1 := ⟨mm_inl mm_sg3 (i := 216) (by decide +kernel) (by decide +kernel), mm_inl mm_sg1 (i := 1) (by decide +kernel) (by decide +kernel), by decide +kernel, by decide +kernel, by decide +kernel⟩
theorem imX11_addBytes : Cond.instanceMethod zX11_addBytes.1 ∈ mm_tb ∧ Cond.selects zX11_addBytes.1.cls zX11_addBytes.1 zX11_addBytes.1 ∈ mm_tb := ⟨mm_inl mm_sg3 (i := 215) (by decide +kernel) (by decide +kernel), mm_inl mm_sgp (i := 1) (by decide +kernel) (by decide +kernel)⟩
def zX11_trim : mm_M := (yX11_trim, cX11_trim, 2, some .int)
theorem mzX11_trim : mm_Mz zX11_trim 1 := ⟨mm_inl mm_sg3 (i := 221) (by decide +kernel) (by decide +kernel), mm_inl mm_sg1 (i := 1) (by decide +kernel) (by decide +kernel), by decide +kernel, by decide +kernel, by decide +kernel⟩
theorem imX11_trim : Cond.instanceMethod zX11_trim.1 ∈ mm_tb ∧ Cond.selects zX11_trim.1.cls zX11_trim.1 zX11_trim.1 ∈ mm_tb := ⟨mm_inl mm_sg3 (i := 219) (by decide +kernel) (by decide +kernel), mm_inl mm_sg3 (i := 220) (by decide +kernel) (by decide +kernel)⟩
def zX11_program : mm_M := (yX11_program, cX11_program, 4, some .int)
theorem mzX11_program : mm_Mz zX11_program 1 := ⟨mm_inl mm_sg3 (i := 226) (by decide +kernel) (by decide +kernel), mm_inl mm_sg1 (i := 1) (by decide +kernel) (by decide +kernel), by decide +kernel, by decide +kernel, by decide +kernel⟩
theorem imX11_program : Cond.instanceMethod zX11_program.1 ∈ mm_tb ∧ Cond.selects zX11_program.1.cls zX11_program.1 zX11_program.1 ∈ mm_tb := ⟨mm_inl mm_sg3 (i := 224) (by decide +kernel) (by decide +kernel), mm_inl mm_sg3 (i := 225) (by decide +kernel) (by decide +kernel)⟩
def zX8_script : mm_M := (yX8_script, cX8_script, 2, some (.object "DarkBase$Program"))
theorem mzX8_script : mm_Mz zX8_script 1 := ⟨mm_inl mm_sg3 (i := 230) (by decide +kernel) (by decide +kernel), mm_inl mm_sg1 (i := 2) (by decide +kernel) (by decide +kernel), by decide +kernel, by decide +kernel, by decide +kernel⟩
theorem imX8_script : Cond.instanceMethod zX8_script.1 ∈ mm_tb ∧ Cond.selects zX8_script.1.cls zX8_script.1 zX8_script.1 ∈ mm_tb := ⟨mm_inl mm_sg3 (i := 228) (by decide +kernel) (by decide +kernel), mm_inl mm_sg3 (i := 229) (by decide +kernel) (by decide +kernel)⟩
def zX2_read : mm_M := (yX2_read, cX2_read, 2, some .int)
theorem mzX2_read : mm_Mz zX2_read 0 := ⟨mm_inl mm_sg3 (i := 234) (by decide +kernel) (by decide +kernel), mm_inl mm_sg1 (i := 11) (by decide +kernel) (by decide +kernel), by decide +kernel, by decide +kernel, by decide +kernel⟩
theorem imX2_read : Cond.instanceMethod zX2_read.1 ∈ mm_tb ∧ Cond.selects zX2_read.1.cls zX2_read.1 zX2_read.1 ∈ mm_tb := ⟨mm_inl mm_sg3 (i := 232) (by decide +kernel) (by decide +kernel), mm_inl mm_sg3 (i := 233) (by decide +kernel) (by decide +kernel)⟩
def zX9_split : mm_M := (yX9_split, cX9_split, 3, none)
theorem mzX9_split : mm_Mz zX9_split 0 := ⟨mm_inl mm_sg3 (i := 238) (by decide +kernel) (by decide +kernel), mm_inl mm_sg1 (i := 12) (by decide +kernel) (by decide +kernel), by decide +kernel, by decide +kernel, by decide +kernel⟩
theorem imX9_split : Cond.instanceMethod zX9_split.1 ∈ mm_tb ∧ Cond.selects zX9_split.1.cls zX9_split.1 zX9_split.1 ∈ mm_tb := ⟨mm_inl mm_sg3 (i := 236) (by decide +kernel) (by decide +kernel), mm_inl mm_sg3 (i := 237) (by decide +kernel) (by decide +kernel)⟩
def zX9_splitAt : mm_M := (yX9_splitAt, cX9_splitAt, 4, some .int)
theorem mzX9_splitAt : mm_Mz zX9_splitAt 1 := ⟨mm_inl mm_sg4 (i := 5) (by decide +kernel) (by decide +kernel), mm_inl mm_sg1 (i := 12) (by decide +kernel) (by decide +kernel), by decide +kernel, by decide +kernel, by decide +kernel⟩
theorem imX9_splitAt : Cond.instanceMethod zX9_splitAt.1 ∈ mm_tb ∧ Cond.selects zX9_splitAt.1.cls zX9_splitAt.1 zX9_splitAt.1 ∈ mm_tb := ⟨mm_inl mm_sg4 (i := 4) (by decide +kernel) (by decide +kernel), mm_inl mm_sgp (i := 2) (by decide +kernel) (by decide +kernel)⟩
def zX9_isLetter : mm_M := (yX9_isLetter, cX9_isLetter, 2, some .boolean)
theorem mzX9_isLetter : mm_Mz zX9_isLetter 1 := ⟨mm_inl mm_sg4 (i := 9) (by decide +kernel) (by decide +kernel), mm_inl mm_sg1 (i := 12) (by decide +kernel) (by decide +kernel), by decide +kernel, by decide +kernel, by decide +kernel⟩
theorem imX9_isLetter : Cond.instanceMethod zX9_isLetter.1 ∈ mm_tb ∧ Cond.selects zX9_isLetter.1.cls zX9_isLetter.1 zX9_isLetter.1 ∈ mm_tb := ⟨mm_inl mm_sg4 (i := 8) (by decide +kernel) (by decide +kernel), mm_inl mm_sgp (i := 3) (by decide +kernel) (by decide +kernel)⟩
def zX9_isGlued : mm_M := (yX9_isGlued, cX9_isGlued, 2, some .boolean)
theorem mzX9_isGlued : mm_Mz zX9_isGlued 1 := ⟨mm_inl mm_sg4 (i := 13) (by decide +kernel) (by decide +kernel), mm_inl mm_sg1 (i := 12) (by decide +kernel) (by decide +kernel), by decide +kernel, by decide +kernel, by decide +kernel⟩
theorem imX9_isGlued : Cond.instanceMethod zX9_isGlued.1 ∈ mm_tb ∧ Cond.selects zX9_isGlued.1.cls zX9_isGlued.1 zX9_isGlued.1 ∈ mm_tb := ⟨mm_inl mm_sg4 (i := 12) (by decide +kernel) (by decide +kernel), mm_inl mm_sgp (i := 4) (by decide +kernel) (by decide +kernel)⟩
def zX9_isDigit : mm_M := (yX9_isDigit, cX9_isDigit, 2, some .boolean)
theorem mzX9_isDigit : mm_Mz zX9_isDigit 1 := ⟨mm_inl mm_sg4 (i := 17) (by decide +kernel) (by decide +kernel), mm_inl mm_sg1 (i := 12) (by decide +kernel) (by decide +kernel), by decide +kernel, by decide +kernel, by decide +kernel⟩
theorem imX9_isDigit : Cond.instanceMethod zX9_isDigit.1 ∈ mm_tb ∧ Cond.selects zX9_isDigit.1.cls zX9_isDigit.1 zX9_isDigit.1 ∈ mm_tb := ⟨mm_inl mm_sg4 (i := 16) (by decide +kernel) (by decide +kernel), mm_inl mm_sgp (i := 5) (by decide +kernel) (by decide +kernel)⟩
def zX9_wordKind : mm_M := (yX9_wordKind, cX9_wordKind, 3, some .int)
theorem mzX9_wordKind : mm_Mz zX9_wordKind 2 := ⟨mm_inl mm_sg4 (i := 21) (by decide +kernel) (by decide +kernel), mm_inl mm_sg1 (i := 12) (by decide +kernel) (by decide +kernel), by decide +kernel, by decide +kernel, by decide +kernel⟩
theorem imX9_wordKind : Cond.instanceMethod zX9_wordKind.1 ∈ mm_tb ∧ Cond.selects zX9_wordKind.1.cls zX9_wordKind.1 zX9_wordKind.1 ∈ mm_tb := ⟨mm_inl mm_sg4 (i := 20) (by decide +kernel) (by decide +kernel), mm_inl mm_sgp (i := 6) (by decide +kernel) (by decide +kernel)⟩
def zX9_spells : mm_M := (yX9_spells, cX9_spells, 5, some .boolean)
theorem mzX9_spells : mm_Mz zX9_spells 3 := ⟨mm_inl mm_sg4 (i := 109) (by decide +kernel) (by decide +kernel), mm_inl mm_sg1 (i := 12) (by decide +kernel) (by decide +kernel), by decide +kernel, by decide +kernel, by decide +kernel⟩
theorem imX9_spells : Cond.instanceMethod zX9_spells.1 ∈ mm_tb ∧ Cond.selects zX9_spells.1.cls zX9_spells.1 zX9_spells.1 ∈ mm_tb := ⟨mm_inl mm_sg4 (i := 108) (by decide +kernel) (by decide +kernel), mm_inl mm_sgp (i := 7) (by decide +kernel) (by decide +kernel)⟩
def zX9_addWord : mm_M := (yX9_addWord, cX9_addWord, 4, none)
theorem mzX9_addWord : mm_Mz zX9_addWord 3 := ⟨mm_inl mm_sg4 (i := 145) (by decide +kernel) (by decide +kernel), mm_inl mm_sg1 (i := 12) (by decide +kernel) (by decide +kernel), by decide +kernel, by decide +kernel, by decide +kernel⟩
theorem imX9_addWord : Cond.instanceMethod zX9_addWord.1 ∈ mm_tb ∧ Cond.selects zX9_addWord.1.cls zX9_addWord.1 zX9_addWord.1 ∈ mm_tb := ⟨mm_inl mm_sg4 (i := 144) (by decide +kernel) (by decide +kernel), mm_inl mm_sgp (i := 8) (by decide +kernel) (by decide +kernel)⟩
def zX9_numberAt : mm_M := (yX9_numberAt, cX9_numberAt, 5, some .int)
theorem mzX9_numberAt : mm_Mz zX9_numberAt 2 := ⟨mm_inl mm_sg4 (i := 150) (by decide +kernel) (by decide +kernel), mm_inl mm_sg1 (i := 12) (by decide +kernel) (by decide +kernel), by decide +kernel, by decide +kernel, by decide +kernel⟩
theorem imX9_numberAt : Cond.instanceMethod zX9_numberAt.1 ∈ mm_tb ∧ Cond.selects zX9_numberAt.1.cls zX9_numberAt.1 zX9_numberAt.1 ∈ mm_tb := ⟨mm_inl mm_sg4 (i := 149) (by decide +kernel) (by decide +kernel), mm_inl mm_sgp (i := 9) (by decide +kernel) (by decide +kernel)⟩
def zX4_empty : mm_M := (yX4_empty, cX4_empty, 1, none)
theorem mzX4_empty : mm_Mz zX4_empty 0 := ⟨mm_inl mm_sg4 (i := 154) (by decide +kernel) (by decide +kernel), mm_inl mm_sg1 (i := 9) (by decide +kernel) (by decide +kernel), by decide +kernel, by decide +kernel, by decide +kernel⟩
theorem imX4_empty : Cond.instanceMethod zX4_empty.1 ∈ mm_tb ∧ Cond.selects zX4_empty.1.cls zX4_empty.1 zX4_empty.1 ∈ mm_tb := ⟨mm_inl mm_sg4 (i := 152) (by decide +kernel) (by decide +kernel), mm_inl mm_sg4 (i := 153) (by decide +kernel) (by decide +kernel)⟩
def zX2_isOver : mm_M := (yX2_isOver, cX2_isOver, 1, some .boolean)
theorem mzX2_isOver : mm_Mz zX2_isOver 0 := ⟨mm_inl mm_sg4 (i := 161) (by decide +kernel) (by decide +kernel), mm_inl mm_sg1 (i := 11) (by decide +kernel) (by decide +kernel), by decide +kernel, by decide +kernel, by decide +kernel⟩
theorem imX2_isOver : Cond.instanceMethod zX2_isOver.1 ∈ mm_tb ∧ Cond.selects zX2_isOver.1.cls zX2_isOver.1 zX2_isOver.1 ∈ mm_tb := ⟨mm_inl mm_sg4 (i := 160) (by decide +kernel) (by decide +kernel), mm_inl mm_sgp (i := 10) (by decide +kernel) (by decide +kernel)⟩
def zX2_closeBlock : mm_M := (yX2_closeBlock, cX2_closeBlock, 4, none)
theorem mzX2_closeBlock : mm_Mz zX2_closeBlock 0 := ⟨mm_inl mm_sg4 (i := 166) (by decide +kernel) (by decide +kernel), mm_inl mm_sg1 (i := 11) (by decide +kernel) (by decide +kernel), by decide +kernel, by decide +kernel, by decide +kernel⟩
theorem imX2_closeBlock : Cond.instanceMethod zX2_closeBlock.1 ∈ mm_tb ∧ Cond.selects zX2_closeBlock.1.cls zX2_closeBlock.1 zX2_closeBlock.1 ∈ mm_tb := ⟨mm_inl mm_sg4 (i := 165) (by decide +kernel) (by decide +kernel), mm_inl mm_sgp (i := 11) (by decide +kernel) (by decide +kernel)⟩
def zX2_advance : mm_M := (yX2_advance, cX2_advance, 1, none)
theorem mzX2_advance : mm_Mz zX2_advance 0 := ⟨mm_inl mm_sg4 (i := 170) (by decide +kernel) (by decide +kernel), mm_inl mm_sg1 (i := 11) (by decide +kernel) (by decide +kernel), by decide +kernel, by decide +kernel, by decide +kernel⟩
theorem imX2_advance : Cond.instanceMethod zX2_advance.1 ∈ mm_tb ∧ Cond.selects zX2_advance.1.cls zX2_advance.1 zX2_advance.1 ∈ mm_tb := ⟨mm_inl mm_sg4 (i := 169) (by decide +kernel) (by decide +kernel), mm_inl mm_sgp (i := 12) (by decide +kernel) (by decide +kernel)⟩
def zX5_pop : mm_M := (yX5_pop, cX5_pop, 1, some .int)
theorem mzX5_pop : mm_Mz zX5_pop 0 := ⟨mm_inl mm_sg4 (i := 174) (by decide +kernel) (by decide +kernel), mm_inl mm_sg1 (i := 4) (by decide +kernel) (by decide +kernel), by decide +kernel, by decide +kernel, by decide +kernel⟩
theorem imX5_pop : Cond.instanceMethod zX5_pop.1 ∈ mm_tb ∧ Cond.selects zX5_pop.1.cls zX5_pop.1 zX5_pop.1 ∈ mm_tb := ⟨mm_inl mm_sg4 (i := 172) (by decide +kernel) (by decide +kernel), mm_inl mm_sg4 (i := 173) (by decide +kernel) (by decide +kernel)⟩
def zX4_code : mm_M := (yX4_code, cX4_code, 2, some .int)
theorem mzX4_code : mm_Mz zX4_code 1 := ⟨mm_inl mm_sg4 (i := 178) (by decide +kernel) (by decide +kernel), mm_inl mm_sg1 (i := 9) (by decide +kernel) (by decide +kernel), by decide +kernel, by decide +kernel, by decide +kernel⟩
theorem imX4_code : Cond.instanceMethod zX4_code.1 ∈ mm_tb ∧ Cond.selects zX4_code.1.cls zX4_code.1 zX4_code.1 ∈ mm_tb := ⟨mm_inl mm_sg4 (i := 176) (by decide +kernel) (by decide +kernel), mm_inl mm_sg4 (i := 177) (by decide +kernel) (by decide +kernel)⟩
def zX4_addAct : mm_M := (yX4_addAct, cX4_addAct, 4, some .int)
theorem mzX4_addAct : mm_Mz zX4_addAct 3 := ⟨mm_inl mm_sg4 (i := 183) (by decide +kernel) (by decide +kernel), mm_inl mm_sg1 (i := 9) (by decide +kernel) (by decide +kernel), by decide +kernel, by decide +kernel, by decide +kernel⟩
theorem imX4_addAct : Cond.instanceMethod zX4_addAct.1 ∈ mm_tb ∧ Cond.selects zX4_addAct.1.cls zX4_addAct.1 zX4_addAct.1 ∈ mm_tb := ⟨mm_inl mm_sg4 (i := 181) (by decide +kernel) (by decide +kernel), mm_inl mm_sg4 (i := 182) (by decide +kernel) (by decide +kernel)⟩
def zX4_length : mm_M := (yX4_length, cX4_length, 1, some .int)
theorem mzX4_length : mm_Mz zX4_length 0 := ⟨mm_inl mm_sg4 (i := 188) (by decide +kernel) (by decide +kernel), mm_inl mm_sg1 (i := 9) (by decide +kernel) (by decide +kernel), by decide +kernel, by decide +kernel, by decide +kernel⟩
theorem imX4_length : Cond.instanceMethod zX4_length.1 ∈ mm_tb ∧ Cond.selects zX4_length.1.cls zX4_length.1 zX4_length.1 ∈ mm_tb := ⟨mm_inl mm_sg4 (i := 186) (by decide +kernel) (by decide +kernel), mm_inl mm_sg4 (i := 187) (by decide +kernel) (by decide +kernel)⟩
def zX4_leadPast : mm_M := (yX4_leadPast, cX4_leadPast, 2, none)
theorem mzX4_leadPast : mm_Mz zX4_leadPast 1 := ⟨mm_inl mm_sg4 (i := 193) (by decide +kernel) (by decide +kernel), mm_inl mm_sg1 (i := 9) (by decide +kernel) (by decide +kernel), by decide +kernel, by decide +kernel, by decide +kernel⟩
theorem imX4_leadPast : Cond.instanceMethod zX4_leadPast.1 ∈ mm_tb ∧ Cond.selects zX4_leadPast.1.cls zX4_leadPast.1 zX4_leadPast.1 ∈ mm_tb := ⟨mm_inl mm_sg4 (i := 191) (by decide +kernel) (by decide +kernel), mm_inl mm_sg4 (i := 192) (by decide +kernel) (by decide +kernel)⟩
def zX2_openBlock : mm_M := (yX2_openBlock, cX2_openBlock, 2, none)
theorem mzX2_openBlock : mm_Mz zX2_openBlock 1 := ⟨mm_inl mm_sg4 (i := 198) (by decide +kernel) (by decide +kernel), mm_inl mm_sg1 (i := 11) (by decide +kernel) (by decide +kernel), by decide +kernel, by decide +kernel, by decide +kernel⟩
theorem imX2_openBlock : Cond.instanceMethod zX2_openBlock.1 ∈ mm_tb ∧ Cond.selects zX2_openBlock.1.cls zX2_openBlock.1 zX2_openBlock.1 ∈ mm_tb := ⟨mm_inl mm_sg4 (i := 197) (by decide +kernel) (by decide +kernel), mm_inl mm_sgp (i := 13) (by decide +kernel) (by decide +kernel)⟩
def zX2_fail : mm_M := (yX2_fail, cX2_fail, 1, none)
theorem mzX2_fail : mm_Mz zX2_fail 0 := ⟨mm_inl mm_sg4 (i := 203) (by decide +kernel) (by decide +kernel), mm_inl mm_sg1 (i := 11) (by decide +kernel) (by decide +kernel), by decide +kernel, by decide +kernel, by decide +kernel⟩
theorem imX2_fail : Cond.instanceMethod zX2_fail.1 ∈ mm_tb ∧ Cond.selects zX2_fail.1.cls zX2_fail.1 zX2_fail.1 ∈ mm_tb := ⟨mm_inl mm_sg4 (i := 202) (by decide +kernel) (by decide +kernel), mm_inl mm_sgp (i := 14) (by decide +kernel) (by decide +kernel)⟩
def zX2_readOne : mm_M := (yX2_readOne, cX2_readOne, 2, none)
theorem mzX2_readOne : mm_Mz zX2_readOne 0 := ⟨mm_inl mm_sg4 (i := 207) (by decide +kernel) (by decide +kernel), mm_inl mm_sg1 (i := 11) (by decide +kernel) (by decide +kernel), by decide +kernel, by decide +kernel, by decide +kernel⟩
theorem imX2_readOne : Cond.instanceMethod zX2_readOne.1 ∈ mm_tb ∧ Cond.selects zX2_readOne.1.cls zX2_readOne.1 zX2_readOne.1 ∈ mm_tb := ⟨mm_inl mm_sg4 (i := 206) (by decide +kernel) (by decide +kernel), mm_inl mm_sgp (i := 15) (by decide +kernel) (by decide +kernel)⟩
def zX2_readGo : mm_M := (yX2_readGo, cX2_readGo, 3, none)
theorem mzX2_readGo : mm_Mz zX2_readGo 0 := ⟨mm_inl mm_sg4 (i := 211) (by decide +kernel) (by decide +kernel), mm_inl mm_sg1 (i := 11) (by decide +kernel) (by decide +kernel), by decide +kernel, by decide +kernel, by decide +kernel⟩
theorem imX2_readGo : Cond.instanceMethod zX2_readGo.1 ∈ mm_tb ∧ Cond.selects zX2_readGo.1.cls zX2_readGo.1 zX2_readGo.1 ∈ mm_tb := ⟨mm_inl mm_sg4 (i := 210) (by decide +kernel) (by decide +kernel), mm_inl mm_sgp (i := 16) (by decide +kernel) (by decide +kernel)⟩
def zX2_readNumber : mm_M := (yX2_readNumber, cX2_readNumber, 2, some .int)
theorem mzX2_readNumber : mm_Mz zX2_readNumber 0 := ⟨mm_inl mm_sg4 (i := 215) (by decide +kernel) (by decide +kernel), mm_inl mm_sg1 (i := 11) (by decide +kernel) (by decide +kernel), by decide +kernel, by decide +kernel, by decide +kernel⟩
theorem imX2_readNumber : Cond.instanceMethod zX2_readNumber.1 ∈ mm_tb ∧ Cond.selects zX2_readNumber.1.cls zX2_readNumber.1 zX2_readNumber.1 ∈ mm_tb := ⟨mm_inl mm_sg4 (i := 214) (by decide +kernel) (by decide +kernel), mm_inl mm_sgp (i := 17) (by decide +kernel) (by decide +kernel)⟩
def zX2_expect : mm_M := (yX2_expect, cX2_expect, 2, none)
theorem mzX2_expect : mm_Mz zX2_expect 1 := ⟨mm_inl mm_sg4 (i := 219) (by decide +kernel) (by decide +kernel), mm_inl mm_sg1 (i := 11) (by decide +kernel) (by decide +kernel), by decide +kernel, by decide +kernel, by decide +kernel⟩
theorem imX2_expect : Cond.instanceMethod zX2_expect.1 ∈ mm_tb ∧ Cond.selects zX2_expect.1.cls zX2_expect.1 zX2_expect.1 ∈ mm_tb := ⟨mm_inl mm_sg4 (i := 218) (by decide +kernel) (by decide +kernel), mm_inl mm_sgp (i := 18) (by decide +kernel) (by decide +kernel)⟩
def zX2_readTest : mm_M := (yX2_readTest, cX2_readTest, 2, some .int)
theorem mzX2_readTest : mm_Mz zX2_readTest 0 := ⟨mm_inl mm_sg4 (i := 223) (by decide +kernel) (by decide +kernel), mm_inl mm_sg1 (i := 11) (by decide +kernel) (by decide +kernel), by decide +kernel, by decide +kernel, by decide +kernel⟩
theorem imX2_readTest : Cond.instanceMethod zX2_readTest.1 ∈ mm_tb ∧ Cond.selects zX2_readTest.1.cls zX2_readTest.1 zX2_readTest.1 ∈ mm_tb := ⟨mm_inl mm_sg4 (i := 222) (by decide +kernel) (by decide +kernel), mm_inl mm_sgp (i := 19) (by decide +kernel) (by decide +kernel)⟩
def zX2_readSides : mm_M := (yX2_readSides, cX2_readSides, 7, none)
theorem mzX2_readSides : mm_Mz zX2_readSides 3 := ⟨mm_inl mm_sg4 (i := 227) (by decide +kernel) (by decide +kernel), mm_inl mm_sg1 (i := 11) (by decide +kernel) (by decide +kernel), by decide +kernel, by decide +kernel, by decide +kernel⟩
theorem imX2_readSides : Cond.instanceMethod zX2_readSides.1 ∈ mm_tb ∧ Cond.selects zX2_readSides.1.cls zX2_readSides.1 zX2_readSides.1 ∈ mm_tb := ⟨mm_inl mm_sg4 (i := 226) (by decide +kernel) (by decide +kernel), mm_inl mm_sgp (i := 20) (by decide +kernel) (by decide +kernel)⟩
def zX2_readPart : mm_M := (yX2_readPart, cX2_readPart, 4, none)
theorem mzX2_readPart : mm_Mz zX2_readPart 2 := ⟨mm_inl mm_sg4 (i := 231) (by decide +kernel) (by decide +kernel), mm_inl mm_sg1 (i := 11) (by decide +kernel) (by decide +kernel), by decide +kernel, by decide +kernel, by decide +kernel⟩
theorem imX2_readPart : Cond.instanceMethod zX2_readPart.1 ∈ mm_tb ∧ Cond.selects zX2_readPart.1.cls zX2_readPart.1 zX2_readPart.1 ∈ mm_tb := ⟨mm_inl mm_sg4 (i := 230) (by decide +kernel) (by decide +kernel), mm_inl mm_sgp (i := 21) (by decide +kernel) (by decide +kernel)⟩
def zX2_looseness : mm_M := (yX2_looseness, cX2_looseness, 1, some .int)
theorem mzX2_looseness : mm_Mz zX2_looseness 1 := ⟨mm_inl mm_sg4 (i := 234) (by decide +kernel) (by decide +kernel), mm_inl mm_sg1 (i := 11) (by decide +kernel) (by decide +kernel), by decide +kernel, by decide +kernel, by decide +kernel⟩
theorem imX2_looseness : Cond.static zX2_looseness.1 ∈ mm_tb := mm_inl mm_sg4 (i := 233) (by decide +kernel) (by decide +kernel)
def zX8_endScript : mm_M := (yX8_endScript, cX8_endScript, 4, none)
theorem mzX8_endScript : mm_Mz zX8_endScript 1 := ⟨mm_inl mm_sg4 (i := 238) (by decide +kernel) (by decide +kernel), mm_inl mm_sg1 (i := 2) (by decide +kernel) (by decide +kernel), by decide +kernel, by decide +kernel, by decide +kernel⟩
theorem imX8_endScript : Cond.instanceMethod zX8_endScript.1 ∈ mm_tb ∧ Cond.selects zX8_endScript.1.cls zX8_endScript.1 zX8_endScript.1 ∈ mm_tb := ⟨mm_inl mm_sg4 (i := 236) (by decide +kernel) (by decide +kernel), mm_inl mm_sg4 (i := 237) (by decide +kernel) (by decide +kernel)⟩
def zX4_become : mm_M := (yX4_become, cX4_become, 2, none)
theorem mzX4_become : mm_Mz zX4_become 1 := ⟨mm_inl mm_sg5 (i := 4) (by decide +kernel) (by decide +kernel), mm_inl mm_sg1 (i := 9) (by decide +kernel) (by decide +kernel), by decide +kernel, by decide +kernel, by decide +kernel⟩
theorem imX4_become : Cond.instanceMethod zX4_become.1 ∈ mm_tb ∧ Cond.selects zX4_become.1.cls zX4_become.1 zX4_become.1 ∈ mm_tb := ⟨mm_inl mm_sg5 (i := 2) (by decide +kernel) (by decide +kernel), mm_inl mm_sg5 (i := 3) (by decide +kernel) (by decide +kernel)⟩
def zX5_become : mm_M := (yX5_become, cX5_become, 3, none)
theorem mzX5_become : mm_Mz zX5_become 1 := ⟨mm_inl mm_sg5 (i := 8) (by decide +kernel) (by decide +kernel), mm_inl mm_sg1 (i := 4) (by decide +kernel) (by decide +kernel), by decide +kernel, by decide +kernel, by decide +kernel⟩
theorem imX5_become : Cond.instanceMethod zX5_become.1 ∈ mm_tb ∧ Cond.selects zX5_become.1.cls zX5_become.1 zX5_become.1 ∈ mm_tb := ⟨mm_inl mm_sg5 (i := 6) (by decide +kernel) (by decide +kernel), mm_inl mm_sg5 (i := 7) (by decide +kernel) (by decide +kernel)⟩
def zX11_send : mm_M := (yX11_send, cX11_send, 4, some .int)
theorem mzX11_send : mm_Mz zX11_send 2 := ⟨mm_inl mm_sg5 (i := 16) (by decide +kernel) (by decide +kernel), mm_inl mm_sg1 (i := 1) (by decide +kernel) (by decide +kernel), by decide +kernel, by decide +kernel, by decide +kernel⟩
theorem imX11_send : Cond.instanceMethod zX11_send.1 ∈ mm_tb ∧ Cond.selects zX11_send.1.cls zX11_send.1 zX11_send.1 ∈ mm_tb := ⟨mm_inl mm_sg5 (i := 14) (by decide +kernel) (by decide +kernel), mm_inl mm_sg5 (i := 15) (by decide +kernel) (by decide +kernel)⟩
def zX4_isEmpty : mm_M := (yX4_isEmpty, cX4_isEmpty, 1, some .boolean)
theorem mzX4_isEmpty : mm_Mz zX4_isEmpty 0 := ⟨mm_inl mm_sg5 (i := 20) (by decide +kernel) (by decide +kernel), mm_inl mm_sg1 (i := 9) (by decide +kernel) (by decide +kernel), by decide +kernel, by decide +kernel, by decide +kernel⟩
theorem imX4_isEmpty : Cond.instanceMethod zX4_isEmpty.1 ∈ mm_tb ∧ Cond.selects zX4_isEmpty.1.cls zX4_isEmpty.1 zX4_isEmpty.1 ∈ mm_tb := ⟨mm_inl mm_sg5 (i := 18) (by decide +kernel) (by decide +kernel), mm_inl mm_sg5 (i := 19) (by decide +kernel) (by decide +kernel)⟩
def zX8_ordersOnWay : mm_M := (yX8_ordersOnWay, cX8_ordersOnWay, 1, some .int)
theorem mzX8_ordersOnWay : mm_Mz zX8_ordersOnWay 0 := ⟨mm_inl mm_sg5 (i := 24) (by decide +kernel) (by decide +kernel), mm_inl mm_sg1 (i := 2) (by decide +kernel) (by decide +kernel), by decide +kernel, by decide +kernel, by decide +kernel⟩
theorem imX8_ordersOnWay : Cond.instanceMethod zX8_ordersOnWay.1 ∈ mm_tb ∧ Cond.selects zX8_ordersOnWay.1.cls zX8_ordersOnWay.1 zX8_ordersOnWay.1 ∈ mm_tb := ⟨mm_inl mm_sg5 (i := 22) (by decide +kernel) (by decide +kernel), mm_inl mm_sg5 (i := 23) (by decide +kernel) (by decide +kernel)⟩
def zX8_addOrder : mm_M := (yX8_addOrder, cX8_addOrder, 4, some .int)
theorem mzX8_addOrder : mm_Mz zX8_addOrder 2 := ⟨mm_inl mm_sg5 (i := 29) (by decide +kernel) (by decide +kernel), mm_inl mm_sg1 (i := 2) (by decide +kernel) (by decide +kernel), by decide +kernel, by decide +kernel, by decide +kernel⟩
theorem imX8_addOrder : Cond.instanceMethod zX8_addOrder.1 ∈ mm_tb ∧ Cond.selects zX8_addOrder.1.cls zX8_addOrder.1 zX8_addOrder.1 ∈ mm_tb := ⟨mm_inl mm_sg5 (i := 27) (by decide +kernel) (by decide +kernel), mm_inl mm_sg5 (i := 28) (by decide +kernel) (by decide +kernel)⟩
def zX11_order : mm_M := (yX11_order, cX11_order, 3, some .int)
theorem mzX11_order : mm_Mz zX11_order 2 := ⟨mm_inl mm_sg5 (i := 34) (by decide +kernel) (by decide +kernel), mm_inl mm_sg1 (i := 1) (by decide +kernel) (by decide +kernel), by decide +kernel, by decide +kernel, by decide +kernel⟩
theorem imX11_order : Cond.instanceMethod zX11_order.1 ∈ mm_tb ∧ Cond.selects zX11_order.1.cls zX11_order.1 zX11_order.1 ∈ mm_tb := ⟨mm_inl mm_sg5 (i := 32) (by decide +kernel) (by decide +kernel), mm_inl mm_sg5 (i := 33) (by decide +kernel) (by decide +kernel)⟩
def zX11_run : mm_M := (yX11_run, cX11_run, 3, some .int)
theorem mzX11_run : mm_Mz zX11_run 1 := ⟨mm_inl mm_sg5 (i := 38) (by decide +kernel) (by decide +kernel), mm_inl mm_sg1 (i := 1) (by decide +kernel) (by decide +kernel), by decide +kernel, by decide +kernel, by decide +kernel⟩
theorem imX11_run : Cond.instanceMethod zX11_run.1 ∈ mm_tb ∧ Cond.selects zX11_run.1.cls zX11_run.1 zX11_run.1 ∈ mm_tb := ⟨mm_inl mm_sg5 (i := 36) (by decide +kernel) (by decide +kernel), mm_inl mm_sg5 (i := 37) (by decide +kernel) (by decide +kernel)⟩
def zX6_passTick : mm_M := (yX6_passTick, cX6_passTick, 2, none)
theorem mzX6_passTick : mm_Mz zX6_passTick 0 := ⟨mm_inl mm_sg5 (i := 42) (by decide +kernel) (by decide +kernel), mm_inl mm_sg1 (i := 10) (by decide +kernel) (by decide +kernel), by decide +kernel, by decide +kernel, by decide +kernel⟩
theorem imX6_passTick : Cond.instanceMethod zX6_passTick.1 ∈ mm_tb ∧ Cond.selects zX6_passTick.1.cls zX6_passTick.1 zX6_passTick.1 ∈ mm_tb := ⟨mm_inl mm_sg5 (i := 40) (by decide +kernel) (by decide +kernel), mm_inl mm_sg5 (i := 41) (by decide +kernel) (by decide +kernel)⟩
def zX6_bringOrders : mm_M := (yX6_bringOrders, cX6_bringOrders, 4, none)
theorem mzX6_bringOrders : mm_Mz zX6_bringOrders 0 := ⟨mm_inl mm_sg5 (i := 46) (by decide +kernel) (by decide +kernel), mm_inl mm_sg1 (i := 10) (by decide +kernel) (by decide +kernel), by decide +kernel, by decide +kernel, by decide +kernel⟩
theorem imX6_bringOrders : Cond.instanceMethod zX6_bringOrders.1 ∈ mm_tb ∧ Cond.selects zX6_bringOrders.1.cls zX6_bringOrders.1 zX6_bringOrders.1 ∈ mm_tb := ⟨mm_inl mm_sg5 (i := 45) (by decide +kernel) (by decide +kernel), mm_inl mm_sgp (i := 22) (by decide +kernel) (by decide +kernel)⟩
def zX6_bringOrder : mm_M := (yX6_bringOrder, cX6_bringOrder, 4, none)
theorem mzX6_bringOrder : mm_Mz zX6_bringOrder 2 := ⟨mm_inl mm_sg5 (i := 53) (by decide +kernel) (by decide +kernel), mm_inl mm_sg1 (i := 10) (by decide +kernel) (by decide +kernel), by decide +kernel, by decide +kernel, by decide +kernel⟩
theorem imX6_bringOrder : Cond.instanceMethod zX6_bringOrder.1 ∈ mm_tb ∧ Cond.selects zX6_bringOrder.1.cls zX6_bringOrder.1 zX6_bringOrder.1 ∈ mm_tb := ⟨mm_inl mm_sg5 (i := 52) (by decide +kernel) (by decide +kernel), mm_inl mm_sgp (i := 23) (by decide +kernel) (by decide +kernel)⟩
def zX5_take : mm_M := (yX5_take, cX5_take, 5, none)
theorem mzX5_take : mm_Mz zX5_take 4 := ⟨mm_inl mm_sg5 (i := 60) (by decide +kernel) (by decide +kernel), mm_inl mm_sg1 (i := 4) (by decide +kernel) (by decide +kernel), by decide +kernel, by decide +kernel, by decide +kernel⟩
theorem imX5_take : Cond.instanceMethod zX5_take.1 ∈ mm_tb ∧ Cond.selects zX5_take.1.cls zX5_take.1 zX5_take.1 ∈ mm_tb := ⟨mm_inl mm_sg5 (i := 58) (by decide +kernel) (by decide +kernel), mm_inl mm_sg5 (i := 59) (by decide +kernel) (by decide +kernel)⟩
def zX6_bringReports : mm_M := (yX6_bringReports, cX6_bringReports, 4, none)
theorem mzX6_bringReports : mm_Mz zX6_bringReports 0 := ⟨mm_inl mm_sg5 (i := 65) (by decide +kernel) (by decide +kernel), mm_inl mm_sg1 (i := 10) (by decide +kernel) (by decide +kernel), by decide +kernel, by decide +kernel, by decide +kernel⟩
theorem imX6_bringReports : Cond.instanceMethod zX6_bringReports.1 ∈ mm_tb ∧ Cond.selects zX6_bringReports.1.cls zX6_bringReports.1 zX6_bringReports.1 ∈ mm_tb := ⟨mm_inl mm_sg5 (i := 64) (by decide +kernel) (by decide +kernel), mm_inl mm_sgp (i := 24) (by decide +kernel) (by decide +kernel)⟩
def zX0_learn : mm_M := (yX0_learn, cX0_learn, 7, none)
theorem mzX0_learn : mm_Mz zX0_learn 5 := ⟨mm_inl mm_sg5 (i := 69) (by decide +kernel) (by decide +kernel), mm_inl mm_sg1 (i := 3) (by decide +kernel) (by decide +kernel), by decide +kernel, by decide +kernel, by decide +kernel⟩
theorem imX0_learn : Cond.instanceMethod zX0_learn.1 ∈ mm_tb ∧ Cond.selects zX0_learn.1.cls zX0_learn.1 zX0_learn.1 ∈ mm_tb := ⟨mm_inl mm_sg5 (i := 67) (by decide +kernel) (by decide +kernel), mm_inl mm_sg5 (i := 68) (by decide +kernel) (by decide +kernel)⟩
def zX3_shine : mm_M := (yX3_shine, cX3_shine, 1, none)
theorem mzX3_shine : mm_Mz zX3_shine 0 := ⟨mm_inl mm_sg5 (i := 74) (by decide +kernel) (by decide +kernel), mm_inl mm_sg1 (i := 6) (by decide +kernel) (by decide +kernel), by decide +kernel, by decide +kernel, by decide +kernel⟩
theorem imX3_shine : Cond.instanceMethod zX3_shine.1 ∈ mm_tb ∧ Cond.selects zX3_shine.1.cls zX3_shine.1 zX3_shine.1 ∈ mm_tb := ⟨mm_inl mm_sg5 (i := 72) (by decide +kernel) (by decide +kernel), mm_inl mm_sg5 (i := 73) (by decide +kernel) (by decide +kernel)⟩
def zX6_chargeAll : mm_M := (yX6_chargeAll, cX6_chargeAll, 3, none)
theorem mzX6_chargeAll : mm_Mz zX6_chargeAll 0 := ⟨mm_inl mm_sg5 (i := 79) (by decide +kernel) (by decide +kernel), mm_inl mm_sg1 (i := 10) (by decide +kernel) (by decide +kernel), by decide +kernel, by decide +kernel, by decide +kernel⟩
theorem imX6_chargeAll : Cond.instanceMethod zX6_chargeAll.1 ∈ mm_tb ∧ Cond.selects zX6_chargeAll.1.cls zX6_chargeAll.1 zX6_chargeAll.1 ∈ mm_tb := ⟨mm_inl mm_sg5 (i := 78) (by decide +kernel) (by decide +kernel), mm_inl mm_sgp (i := 25) (by decide +kernel) (by decide +kernel)⟩
def zX1_addCharge : mm_M := (yX1_addCharge, cX1_addCharge, 2, none)
theorem mzX1_addCharge : mm_Mz zX1_addCharge 1 := ⟨mm_inl mm_sg5 (i := 84) (by decide +kernel) (by decide +kernel), mm_inl mm_sg1 (i := 8) (by decide +kernel) (by decide +kernel), by decide +kernel, by decide +kernel, by decide +kernel⟩
theorem imX1_addCharge : Cond.instanceMethod zX1_addCharge.1 ∈ mm_tb ∧ Cond.selects zX1_addCharge.1.cls zX1_addCharge.1 zX1_addCharge.1 ∈ mm_tb := ⟨mm_inl mm_sg5 (i := 82) (by decide +kernel) (by decide +kernel), mm_inl mm_sg5 (i := 83) (by decide +kernel) (by decide +kernel)⟩
def zX3_payLoads : mm_M := (yX3_payLoads, cX3_payLoads, 3, none)
theorem mzX3_payLoads : mm_Mz zX3_payLoads 0 := ⟨mm_inl mm_sg5 (i := 89) (by decide +kernel) (by decide +kernel), mm_inl mm_sg1 (i := 6) (by decide +kernel) (by decide +kernel), by decide +kernel, by decide +kernel, by decide +kernel⟩
theorem imX3_payLoads : Cond.instanceMethod zX3_payLoads.1 ∈ mm_tb ∧ Cond.selects zX3_payLoads.1.cls zX3_payLoads.1 zX3_payLoads.1 ∈ mm_tb := ⟨mm_inl mm_sg5 (i := 87) (by decide +kernel) (by decide +kernel), mm_inl mm_sg5 (i := 88) (by decide +kernel) (by decide +kernel)⟩
def zX3_taken : mm_M := (yX3_taken, cX3_taken, 4, some .int)
theorem mzX3_taken : mm_Mz zX3_taken 1 := ⟨mm_inl mm_sg5 (i := 93) (by decide +kernel) (by decide +kernel), mm_inl mm_sg1 (i := 6) (by decide +kernel) (by decide +kernel), by decide +kernel, by decide +kernel, by decide +kernel⟩
theorem imX3_taken : Cond.instanceMethod zX3_taken.1 ∈ mm_tb ∧ Cond.selects zX3_taken.1.cls zX3_taken.1 zX3_taken.1 ∈ mm_tb := ⟨mm_inl mm_sg5 (i := 91) (by decide +kernel) (by decide +kernel), mm_inl mm_sg5 (i := 92) (by decide +kernel) (by decide +kernel)⟩
def zX3_leastHarmful : mm_M := (yX3_leastHarmful, cX3_leastHarmful, 5, some .int)
theorem mzX3_leastHarmful : mm_Mz zX3_leastHarmful 1 := ⟨mm_inl mm_sg5 (i := 98) (by decide +kernel) (by decide +kernel), mm_inl mm_sg1 (i := 6) (by decide +kernel) (by decide +kernel), by decide +kernel, by decide +kernel, by decide +kernel⟩
theorem imX3_leastHarmful : Cond.instanceMethod zX3_leastHarmful.1 ∈ mm_tb ∧ Cond.selects zX3_leastHarmful.1.cls zX3_leastHarmful.1 zX3_leastHarmful.1 ∈ mm_tb := ⟨mm_inl mm_sg5 (i := 97) (by decide +kernel) (by decide +kernel), mm_inl mm_sgp (i := 26) (by decide +kernel) (by decide +kernel)⟩
def zX3_harmOf : mm_M := (yX3_harmOf, cX3_harmOf, 4, some .int)
theorem mzX3_harmOf : mm_Mz zX3_harmOf 1 := ⟨mm_inl mm_sg5 (i := 103) (by decide +kernel) (by decide +kernel), mm_inl mm_sg1 (i := 6) (by decide +kernel) (by decide +kernel), by decide +kernel, by decide +kernel, by decide +kernel⟩
theorem imX3_harmOf : Cond.instanceMethod zX3_harmOf.1 ∈ mm_tb ∧ Cond.selects zX3_harmOf.1.cls zX3_harmOf.1 zX3_harmOf.1 ∈ mm_tb := ⟨mm_inl mm_sg5 (i := 101) (by decide +kernel) (by decide +kernel), mm_inl mm_sg5 (i := 102) (by decide +kernel) (by decide +kernel)⟩
def zX6_runScript : mm_M := (yX6_runScript, cX6_runScript, 7, none)
theorem mzX6_runScript : mm_Mz zX6_runScript 1 := ⟨mm_inl mm_sg5 (i := 107) (by decide +kernel) (by decide +kernel), mm_inl mm_sg1 (i := 10) (by decide +kernel) (by decide +kernel), by decide +kernel, by decide +kernel, by decide +kernel⟩
theorem imX6_runScript : Cond.instanceMethod zX6_runScript.1 ∈ mm_tb ∧ Cond.selects zX6_runScript.1.cls zX6_runScript.1 zX6_runScript.1 ∈ mm_tb := ⟨mm_inl mm_sg5 (i := 106) (by decide +kernel) (by decide +kernel), mm_inl mm_sgp (i := 27) (by decide +kernel) (by decide +kernel)⟩
def zX6_steer : mm_M := (yX6_steer, cX6_steer, 6, some .int)
theorem mzX6_steer : mm_Mz zX6_steer 2 := ⟨mm_inl mm_sg5 (i := 112) (by decide +kernel) (by decide +kernel), mm_inl mm_sg1 (i := 10) (by decide +kernel) (by decide +kernel), by decide +kernel, by decide +kernel, by decide +kernel⟩
theorem imX6_steer : Cond.instanceMethod zX6_steer.1 ∈ mm_tb ∧ Cond.selects zX6_steer.1.cls zX6_steer.1 zX6_steer.1 ∈ mm_tb := ⟨mm_inl mm_sg5 (i := 111) (by decide +kernel) (by decide +kernel), mm_inl mm_sgp (i := 28) (by decide +kernel) (by decide +kernel)⟩
def zX4_first : mm_M := (yX4_first, cX4_first, 2, some .int)
theorem mzX4_first : mm_Mz zX4_first 1 := ⟨mm_inl mm_sg5 (i := 116) (by decide +kernel) (by decide +kernel), mm_inl mm_sg1 (i := 9) (by decide +kernel) (by decide +kernel), by decide +kernel, by decide +kernel, by decide +kernel⟩
theorem imX4_first : Cond.instanceMethod zX4_first.1 ∈ mm_tb ∧ Cond.selects zX4_first.1.cls zX4_first.1 zX4_first.1 ∈ mm_tb := ⟨mm_inl mm_sg5 (i := 114) (by decide +kernel) (by decide +kernel), mm_inl mm_sg5 (i := 115) (by decide +kernel) (by decide +kernel)⟩
def zX4_second : mm_M := (yX4_second, cX4_second, 2, some .int)
theorem mzX4_second : mm_Mz zX4_second 1 := ⟨mm_inl mm_sg5 (i := 120) (by decide +kernel) (by decide +kernel), mm_inl mm_sg1 (i := 9) (by decide +kernel) (by decide +kernel), by decide +kernel, by decide +kernel, by decide +kernel⟩
theorem imX4_second : Cond.instanceMethod zX4_second.1 ∈ mm_tb ∧ Cond.selects zX4_second.1.cls zX4_second.1 zX4_second.1 ∈ mm_tb := ⟨mm_inl mm_sg5 (i := 118) (by decide +kernel) (by decide +kernel), mm_inl mm_sg5 (i := 119) (by decide +kernel) (by decide +kernel)⟩
def zX6_worth : mm_M := (yX6_worth, cX6_worth, 8, some .int)
theorem mzX6_worth : mm_Mz zX6_worth 3 := ⟨mm_inl mm_sg5 (i := 126) (by decide +kernel) (by decide +kernel), mm_inl mm_sg1 (i := 10) (by decide +kernel) (by decide +kernel), by decide +kernel, by decide +kernel, by decide +kernel⟩
theorem imX6_worth : Cond.instanceMethod zX6_worth.1 ∈ mm_tb ∧ Cond.selects zX6_worth.1.cls zX6_worth.1 zX6_worth.1 ∈ mm_tb := ⟨mm_inl mm_sg5 (i := 125) (by decide +kernel) (by decide +kernel), mm_inl mm_sgp (i := 29) (by decide +kernel) (by decide +kernel)⟩
def zX6_sense : mm_M := (yX6_sense, cX6_sense, 4, some .int)
theorem mzX6_sense : mm_Mz zX6_sense 2 := ⟨mm_inl mm_sg5 (i := 133) (by decide +kernel) (by decide +kernel), mm_inl mm_sg1 (i := 10) (by decide +kernel) (by decide +kernel), by decide +kernel, by decide +kernel, by decide +kernel⟩
theorem imX6_sense : Cond.instanceMethod zX6_sense.1 ∈ mm_tb ∧ Cond.selects zX6_sense.1.cls zX6_sense.1 zX6_sense.1 ∈ mm_tb := ⟨mm_inl mm_sg5 (i := 132) (by decide +kernel) (by decide +kernel), mm_inl mm_sgp (i := 30) (by decide +kernel) (by decide +kernel)⟩
def zX6_join : mm_M := (yX6_join, cX6_join, 3, some .int)
theorem mzX6_join : mm_Mz zX6_join 3 := ⟨mm_inl mm_sg5 (i := 139) (by decide +kernel) (by decide +kernel), mm_inl mm_sg1 (i := 10) (by decide +kernel) (by decide +kernel), by decide +kernel, by decide +kernel, by decide +kernel⟩
theorem imX6_join : Cond.static zX6_join.1 ∈ mm_tb := mm_inl mm_sg5 (i := 138) (by decide +kernel) (by decide +kernel)
def zX6_isAt : mm_M := (yX6_isAt, cX6_isAt, 4, some .boolean)
theorem mzX6_isAt : mm_Mz zX6_isAt 3 := ⟨mm_inl mm_sg5 (i := 143) (by decide +kernel) (by decide +kernel), mm_inl mm_sg1 (i := 10) (by decide +kernel) (by decide +kernel), by decide +kernel, by decide +kernel, by decide +kernel⟩
theorem imX6_isAt : Cond.instanceMethod zX6_isAt.1 ∈ mm_tb ∧ Cond.selects zX6_isAt.1.cls zX6_isAt.1 zX6_isAt.1 ∈ mm_tb := ⟨mm_inl mm_sg5 (i := 142) (by decide +kernel) (by decide +kernel), mm_inl mm_sgp (i := 31) (by decide +kernel) (by decide +kernel)⟩
def zX6_go : mm_M := (yX6_go, cX6_go, 6, none)
theorem mzX6_go : mm_Mz zX6_go 3 := ⟨mm_inl mm_sg5 (i := 147) (by decide +kernel) (by decide +kernel), mm_inl mm_sg1 (i := 10) (by decide +kernel) (by decide +kernel), by decide +kernel, by decide +kernel, by decide +kernel⟩
theorem imX6_go : Cond.instanceMethod zX6_go.1 ∈ mm_tb ∧ Cond.selects zX6_go.1.cls zX6_go.1 zX6_go.1 ∈ mm_tb := ⟨mm_inl mm_sg5 (i := 146) (by decide +kernel) (by decide +kernel), mm_inl mm_sgp (i := 32) (by decide +kernel) (by decide +kernel)⟩
def zX0_stepTowards : mm_M := (yX0_stepTowards, cX0_stepTowards, 6, some .int)
theorem mzX0_stepTowards : mm_Mz zX0_stepTowards 2 := ⟨mm_inl mm_sg5 (i := 151) (by decide +kernel) (by decide +kernel), mm_inl mm_sg1 (i := 3) (by decide +kernel) (by decide +kernel), by decide +kernel, by decide +kernel, by decide +kernel⟩
theorem imX0_stepTowards : Cond.instanceMethod zX0_stepTowards.1 ∈ mm_tb ∧ Cond.selects zX0_stepTowards.1.cls zX0_stepTowards.1 zX0_stepTowards.1 ∈ mm_tb := ⟨mm_inl mm_sg5 (i := 149) (by decide +kernel) (by decide +kernel), mm_inl mm_sg5 (i := 150) (by decide +kernel) (by decide +kernel)⟩
def zX6_stepOnto : mm_M := (yX6_stepOnto, cX6_stepOnto, 5, none)
theorem mzX6_stepOnto : mm_Mz zX6_stepOnto 2 := ⟨mm_inl mm_sg5 (i := 156) (by decide +kernel) (by decide +kernel), mm_inl mm_sg1 (i := 10) (by decide +kernel) (by decide +kernel), by decide +kernel, by decide +kernel, by decide +kernel⟩
theorem imX6_stepOnto : Cond.instanceMethod zX6_stepOnto.1 ∈ mm_tb ∧ Cond.selects zX6_stepOnto.1.cls zX6_stepOnto.1 zX6_stepOnto.1 ∈ mm_tb := ⟨mm_inl mm_sg5 (i := 155) (by decide +kernel) (by decide +kernel), mm_inl mm_sgp (i := 33) (by decide +kernel) (by decide +kernel)⟩
def zX1_pay : mm_M := (yX1_pay, cX1_pay, 3, none)
theorem mzX1_pay : mm_Mz zX1_pay 2 := ⟨mm_inl mm_sg5 (i := 162) (by decide +kernel) (by decide +kernel), mm_inl mm_sg1 (i := 8) (by decide +kernel) (by decide +kernel), by decide +kernel, by decide +kernel, by decide +kernel⟩
theorem imX1_pay : Cond.instanceMethod zX1_pay.1 ∈ mm_tb ∧ Cond.selects zX1_pay.1.cls zX1_pay.1 zX1_pay.1 ∈ mm_tb := ⟨mm_inl mm_sg5 (i := 160) (by decide +kernel) (by decide +kernel), mm_inl mm_sg5 (i := 161) (by decide +kernel) (by decide +kernel)⟩
def zX1_addWear : mm_M := (yX1_addWear, cX1_addWear, 3, some .int)
theorem mzX1_addWear : mm_Mz zX1_addWear 1 := ⟨mm_inl mm_sg5 (i := 167) (by decide +kernel) (by decide +kernel), mm_inl mm_sg1 (i := 8) (by decide +kernel) (by decide +kernel), by decide +kernel, by decide +kernel, by decide +kernel⟩
theorem imX1_addWear : Cond.instanceMethod zX1_addWear.1 ∈ mm_tb ∧ Cond.selects zX1_addWear.1.cls zX1_addWear.1 zX1_addWear.1 ∈ mm_tb := ⟨mm_inl mm_sg5 (i := 165) (by decide +kernel) (by decide +kernel), mm_inl mm_sg5 (i := 166) (by decide +kernel) (by decide +kernel)⟩
def zX6_labour : mm_M := (yX6_labour, cX6_labour, 3, none)
theorem mzX6_labour : mm_Mz zX6_labour 2 := ⟨mm_inl mm_sg5 (i := 171) (by decide +kernel) (by decide +kernel), mm_inl mm_sg1 (i := 10) (by decide +kernel) (by decide +kernel), by decide +kernel, by decide +kernel, by decide +kernel⟩
theorem imX6_labour : Cond.instanceMethod zX6_labour.1 ∈ mm_tb ∧ Cond.selects zX6_labour.1.cls zX6_labour.1 zX6_labour.1 ∈ mm_tb := ⟨mm_inl mm_sg5 (i := 170) (by decide +kernel) (by decide +kernel), mm_inl mm_sgp (i := 34) (by decide +kernel) (by decide +kernel)⟩
def zX6_scoop : mm_M := (yX6_scoop, cX6_scoop, 7, none)
theorem mzX6_scoop : mm_Mz zX6_scoop 1 := ⟨mm_inl mm_sg5 (i := 175) (by decide +kernel) (by decide +kernel), mm_inl mm_sg1 (i := 10) (by decide +kernel) (by decide +kernel), by decide +kernel, by decide +kernel, by decide +kernel⟩
theorem imX6_scoop : Cond.instanceMethod zX6_scoop.1 ∈ mm_tb ∧ Cond.selects zX6_scoop.1.cls zX6_scoop.1 zX6_scoop.1 ∈ mm_tb := ⟨mm_inl mm_sg5 (i := 174) (by decide +kernel) (by decide +kernel), mm_inl mm_sgp (i := 35) (by decide +kernel) (by decide +kernel)⟩
def zX6_drop : mm_M := (yX6_drop, cX6_drop, 5, none)
theorem mzX6_drop : mm_Mz zX6_drop 1 := ⟨mm_inl mm_sg5 (i := 182) (by decide +kernel) (by decide +kernel), mm_inl mm_sg1 (i := 10) (by decide +kernel) (by decide +kernel), by decide +kernel, by decide +kernel, by decide +kernel⟩
theorem imX6_drop : Cond.instanceMethod zX6_drop.1 ∈ mm_tb ∧ Cond.selects zX6_drop.1.cls zX6_drop.1 zX6_drop.1 ∈ mm_tb := ⟨mm_inl mm_sg5 (i := 181) (by decide +kernel) (by decide +kernel), mm_inl mm_sgp (i := 36) (by decide +kernel) (by decide +kernel)⟩
def zX6_fuse : mm_M := (yX6_fuse, cX6_fuse, 5, none)
theorem mzX6_fuse : mm_Mz zX6_fuse 1 := ⟨mm_inl mm_sg5 (i := 186) (by decide +kernel) (by decide +kernel), mm_inl mm_sg1 (i := 10) (by decide +kernel) (by decide +kernel), by decide +kernel, by decide +kernel, by decide +kernel⟩
theorem imX6_fuse : Cond.instanceMethod zX6_fuse.1 ∈ mm_tb ∧ Cond.selects zX6_fuse.1.cls zX6_fuse.1 zX6_fuse.1 ∈ mm_tb := ⟨mm_inl mm_sg5 (i := 185) (by decide +kernel) (by decide +kernel), mm_inl mm_sgp (i := 37) (by decide +kernel) (by decide +kernel)⟩
def zX6_charge : mm_M := (yX6_charge, cX6_charge, 3, none)
theorem mzX6_charge : mm_Mz zX6_charge 1 := ⟨mm_inl mm_sg5 (i := 190) (by decide +kernel) (by decide +kernel), mm_inl mm_sg1 (i := 10) (by decide +kernel) (by decide +kernel), by decide +kernel, by decide +kernel, by decide +kernel⟩
theorem imX6_charge : Cond.instanceMethod zX6_charge.1 ∈ mm_tb ∧ Cond.selects zX6_charge.1.cls zX6_charge.1 zX6_charge.1 ∈ mm_tb := ⟨mm_inl mm_sg5 (i := 189) (by decide +kernel) (by decide +kernel), mm_inl mm_sgp (i := 38) (by decide +kernel) (by decide +kernel)⟩
def zX6_mend : mm_M := (yX6_mend, cX6_mend, 4, none)
theorem mzX6_mend : mm_Mz zX6_mend 1 := ⟨mm_inl mm_sg5 (i := 194) (by decide +kernel) (by decide +kernel), mm_inl mm_sg1 (i := 10) (by decide +kernel) (by decide +kernel), by decide +kernel, by decide +kernel, by decide +kernel⟩
theorem imX6_mend : Cond.instanceMethod zX6_mend.1 ∈ mm_tb ∧ Cond.selects zX6_mend.1.cls zX6_mend.1 zX6_mend.1 ∈ mm_tb := ⟨mm_inl mm_sg5 (i := 193) (by decide +kernel) (by decide +kernel), mm_inl mm_sgp (i := 39) (by decide +kernel) (by decide +kernel)⟩
def zX6_mostWornBeside : mm_M := (yX6_mostWornBeside, cX6_mostWornBeside, 6, some (.object "DarkBase$Machine"))
theorem mzX6_mostWornBeside : mm_Mz zX6_mostWornBeside 1 := ⟨mm_inl mm_sg5 (i := 198) (by decide +kernel) (by decide +kernel), mm_inl mm_sg1 (i := 10) (by decide +kernel) (by decide +kernel), by decide +kernel, by decide +kernel, by decide +kernel⟩
theorem imX6_mostWornBeside : Cond.instanceMethod zX6_mostWornBeside.1 ∈ mm_tb ∧ Cond.selects zX6_mostWornBeside.1.cls zX6_mostWornBeside.1 zX6_mostWornBeside.1 ∈ mm_tb := ⟨mm_inl mm_sg5 (i := 197) (by decide +kernel) (by decide +kernel), mm_inl mm_sgp (i := 40) (by decide +kernel) (by decide +kernel)⟩
def zX6_sendReport : mm_M := (yX6_sendReport, cX6_sendReport, 5, none)
theorem mzX6_sendReport : mm_Mz zX6_sendReport 1 := ⟨mm_inl mm_sg5 (i := 204) (by decide +kernel) (by decide +kernel), mm_inl mm_sg1 (i := 10) (by decide +kernel) (by decide +kernel), by decide +kernel, by decide +kernel, by decide +kernel⟩
theorem imX6_sendReport : Cond.instanceMethod zX6_sendReport.1 ∈ mm_tb ∧ Cond.selects zX6_sendReport.1.cls zX6_sendReport.1 zX6_sendReport.1 ∈ mm_tb := ⟨mm_inl mm_sg5 (i := 203) (by decide +kernel) (by decide +kernel), mm_inl mm_sgp (i := 41) (by decide +kernel) (by decide +kernel)⟩
def zX11_land : mm_M := (yX11_land, cX11_land, 4, some .int)
theorem mzX11_land : mm_Mz zX11_land 2 := ⟨mm_inl mm_sg5 (i := 208) (by decide +kernel) (by decide +kernel), mm_inl mm_sg1 (i := 1) (by decide +kernel) (by decide +kernel), by decide +kernel, by decide +kernel, by decide +kernel⟩
theorem imX11_land : Cond.instanceMethod zX11_land.1 ∈ mm_tb ∧ Cond.selects zX11_land.1.cls zX11_land.1 zX11_land.1 ∈ mm_tb := ⟨mm_inl mm_sg5 (i := 206) (by decide +kernel) (by decide +kernel), mm_inl mm_sg5 (i := 207) (by decide +kernel) (by decide +kernel)⟩
def zX0_blast : mm_M := (yX0_blast, cX0_blast, 4, none)
theorem mzX0_blast : mm_Mz zX0_blast 1 := ⟨mm_inl mm_sg5 (i := 212) (by decide +kernel) (by decide +kernel), mm_inl mm_sg1 (i := 3) (by decide +kernel) (by decide +kernel), by decide +kernel, by decide +kernel, by decide +kernel⟩
theorem imX0_blast : Cond.instanceMethod zX0_blast.1 ∈ mm_tb ∧ Cond.selects zX0_blast.1.cls zX0_blast.1 zX0_blast.1 ∈ mm_tb := ⟨mm_inl mm_sg5 (i := 210) (by decide +kernel) (by decide +kernel), mm_inl mm_sg5 (i := 211) (by decide +kernel) (by decide +kernel)⟩
def zX0_apart : mm_M := (yX0_apart, cX0_apart, 3, some .int)
theorem mzX0_apart : mm_Mz zX0_apart 2 := ⟨mm_inl mm_sg5 (i := 216) (by decide +kernel) (by decide +kernel), mm_inl mm_sg1 (i := 3) (by decide +kernel) (by decide +kernel), by decide +kernel, by decide +kernel, by decide +kernel⟩
theorem imX0_apart : Cond.instanceMethod zX0_apart.1 ∈ mm_tb ∧ Cond.selects zX0_apart.1.cls zX0_apart.1 zX0_apart.1 ∈ mm_tb := ⟨mm_inl mm_sg5 (i := 214) (by decide +kernel) (by decide +kernel), mm_inl mm_sg5 (i := 215) (by decide +kernel) (by decide +kernel)⟩
def zX8_shake : mm_M := (yX8_shake, cX8_shake, 5, some .int)
theorem mzX8_shake : mm_Mz zX8_shake 1 := ⟨mm_inl mm_sg5 (i := 223) (by decide +kernel) (by decide +kernel), mm_inl mm_sg1 (i := 2) (by decide +kernel) (by decide +kernel), by decide +kernel, by decide +kernel, by decide +kernel⟩
theorem imX8_shake : Cond.instanceMethod zX8_shake.1 ∈ mm_tb ∧ Cond.selects zX8_shake.1.cls zX8_shake.1 zX8_shake.1 ∈ mm_tb := ⟨mm_inl mm_sg5 (i := 221) (by decide +kernel) (by decide +kernel), mm_inl mm_sg5 (i := 222) (by decide +kernel) (by decide +kernel)⟩
def zX11_kilos : mm_M := (yX11_kilos, cX11_kilos, 3, some .int)
theorem mzX11_kilos : mm_Mz zX11_kilos 1 := ⟨mm_inl mm_sg5 (i := 229) (by decide +kernel) (by decide +kernel), mm_inl mm_sg1 (i := 1) (by decide +kernel) (by decide +kernel), by decide +kernel, by decide +kernel, by decide +kernel⟩
theorem imX11_kilos : Cond.instanceMethod zX11_kilos.1 ∈ mm_tb ∧ Cond.selects zX11_kilos.1.cls zX11_kilos.1 zX11_kilos.1 ∈ mm_tb := ⟨mm_inl mm_sg5 (i := 227) (by decide +kernel) (by decide +kernel), mm_inl mm_sg5 (i := 228) (by decide +kernel) (by decide +kernel)⟩
def zX5_sum : mm_M := (yX5_sum, cX5_sum, 4, some .int)
theorem mzX5_sum : mm_Mz zX5_sum 1 := ⟨mm_inl mm_sg5 (i := 233) (by decide +kernel) (by decide +kernel), mm_inl mm_sg1 (i := 4) (by decide +kernel) (by decide +kernel), by decide +kernel, by decide +kernel, by decide +kernel⟩
theorem imX5_sum : Cond.instanceMethod zX5_sum.1 ∈ mm_tb ∧ Cond.selects zX5_sum.1.cls zX5_sum.1 zX5_sum.1 ∈ mm_tb := ⟨mm_inl mm_sg5 (i := 231) (by decide +kernel) (by decide +kernel), mm_inl mm_sg5 (i := 232) (by decide +kernel) (by decide +kernel)⟩
def zX8_dustCarried : mm_M := (yX8_dustCarried, cX8_dustCarried, 4, some .int)
theorem mzX8_dustCarried : mm_Mz zX8_dustCarried 0 := ⟨mm_inl mm_sg5 (i := 237) (by decide +kernel) (by decide +kernel), mm_inl mm_sg1 (i := 2) (by decide +kernel) (by decide +kernel), by decide +kernel, by decide +kernel, by decide +kernel⟩
theorem imX8_dustCarried : Cond.instanceMethod zX8_dustCarried.1 ∈ mm_tb ∧ Cond.selects zX8_dustCarried.1.cls zX8_dustCarried.1 zX8_dustCarried.1 ∈ mm_tb := ⟨mm_inl mm_sg5 (i := 235) (by decide +kernel) (by decide +kernel), mm_inl mm_sg5 (i := 236) (by decide +kernel) (by decide +kernel)⟩
def zX11_night : mm_M := (yX11_night, cX11_night, 2, some .int)
theorem mzX11_night : mm_Mz zX11_night 1 := ⟨mm_inl mm_sg6 (i := 1) (by decide +kernel) (by decide +kernel), mm_inl mm_sg1 (i := 1) (by decide +kernel) (by decide +kernel), by decide +kernel, by decide +kernel, by decide +kernel⟩
theorem imX11_night : Cond.instanceMethod zX11_night.1 ∈ mm_tb ∧ Cond.selects zX11_night.1.cls zX11_night.1 zX11_night.1 ∈ mm_tb := ⟨mm_inl mm_sg5 (i := 239) (by decide +kernel) (by decide +kernel), mm_inl mm_sg6 (i := 0) (by decide +kernel) (by decide +kernel)⟩
def zX3_leastCut : mm_M := (yX3_leastCut, cX3_leastCut, 4, some .int)
theorem mzX3_leastCut : mm_Mz zX3_leastCut 1 := ⟨mm_inl mm_sg6 (i := 5) (by decide +kernel) (by decide +kernel), mm_inl mm_sg1 (i := 6) (by decide +kernel) (by decide +kernel), by decide +kernel, by decide +kernel, by decide +kernel⟩
theorem imX3_leastCut : Cond.instanceMethod zX3_leastCut.1 ∈ mm_tb ∧ Cond.selects zX3_leastCut.1.cls zX3_leastCut.1 zX3_leastCut.1 ∈ mm_tb := ⟨mm_inl mm_sg6 (i := 3) (by decide +kernel) (by decide +kernel), mm_inl mm_sg6 (i := 4) (by decide +kernel) (by decide +kernel)⟩
def zX3_isMilder : mm_M := (yX3_isMilder, cX3_isMilder, 5, some .boolean)
theorem mzX3_isMilder : mm_Mz zX3_isMilder 2 := ⟨mm_inl mm_sg6 (i := 9) (by decide +kernel) (by decide +kernel), mm_inl mm_sg1 (i := 6) (by decide +kernel) (by decide +kernel), by decide +kernel, by decide +kernel, by decide +kernel⟩
theorem imX3_isMilder : Cond.instanceMethod zX3_isMilder.1 ∈ mm_tb ∧ Cond.selects zX3_isMilder.1.cls zX3_isMilder.1 zX3_isMilder.1 ∈ mm_tb := ⟨mm_inl mm_sg6 (i := 8) (by decide +kernel) (by decide +kernel), mm_inl mm_sgp (i := 42) (by decide +kernel) (by decide +kernel)⟩
def zX11_cut : mm_M := (yX11_cut, cX11_cut, 2, some .int)
theorem mzX11_cut : mm_Mz zX11_cut 1 := ⟨mm_inl mm_sg6 (i := 20) (by decide +kernel) (by decide +kernel), mm_inl mm_sg1 (i := 1) (by decide +kernel) (by decide +kernel), by decide +kernel, by decide +kernel, by decide +kernel⟩
theorem imX11_cut : Cond.instanceMethod zX11_cut.1 ∈ mm_tb ∧ Cond.selects zX11_cut.1.cls zX11_cut.1 zX11_cut.1 ∈ mm_tb := ⟨mm_inl mm_sg6 (i := 18) (by decide +kernel) (by decide +kernel), mm_inl mm_sg6 (i := 19) (by decide +kernel) (by decide +kernel)⟩
def zX11_work : mm_M := (yX11_work, cX11_work, 6, some .int)
theorem mzX11_work : mm_Mz zX11_work 4 := ⟨mm_inl mm_sg6 (i := 24) (by decide +kernel) (by decide +kernel), mm_inl mm_sg1 (i := 1) (by decide +kernel) (by decide +kernel), by decide +kernel, by decide +kernel, by decide +kernel⟩
theorem imX11_work : Cond.instanceMethod zX11_work.1 ∈ mm_tb ∧ Cond.selects zX11_work.1.cls zX11_work.1 zX11_work.1 ∈ mm_tb := ⟨mm_inl mm_sg6 (i := 22) (by decide +kernel) (by decide +kernel), mm_inl mm_sg6 (i := 23) (by decide +kernel) (by decide +kernel)⟩
def zX10_many : mm_M := (yX10_many, cX10_many, 1, some .int)
theorem mzX10_many : mm_Mz zX10_many 0 := ⟨mm_inl mm_sg6 (i := 28) (by decide +kernel) (by decide +kernel), mm_inl mm_sg1 (i := 7) (by decide +kernel) (by decide +kernel), by decide +kernel, by decide +kernel, by decide +kernel⟩
theorem imX10_many : Cond.instanceMethod zX10_many.1 ∈ mm_tb ∧ Cond.selects zX10_many.1.cls zX10_many.1 zX10_many.1 ∈ mm_tb := ⟨mm_inl mm_sg6 (i := 26) (by decide +kernel) (by decide +kernel), mm_inl mm_sg6 (i := 27) (by decide +kernel) (by decide +kernel)⟩
def zX10_addWork : mm_M := (yX10_addWork, cX10_addWork, 5, some .int)
theorem mzX10_addWork : mm_Mz zX10_addWork 4 := ⟨mm_inl mm_sg6 (i := 33) (by decide +kernel) (by decide +kernel), mm_inl mm_sg1 (i := 7) (by decide +kernel) (by decide +kernel), by decide +kernel, by decide +kernel, by decide +kernel⟩
theorem imX10_addWork : Cond.instanceMethod zX10_addWork.1 ∈ mm_tb ∧ Cond.selects zX10_addWork.1.cls zX10_addWork.1 zX10_addWork.1 ∈ mm_tb := ⟨mm_inl mm_sg6 (i := 31) (by decide +kernel) (by decide +kernel), mm_inl mm_sg6 (i := 32) (by decide +kernel) (by decide +kernel)⟩
def zX11_clear : mm_M := (yX11_clear, cX11_clear, 2, some .int)
theorem mzX11_clear : mm_Mz zX11_clear 0 := ⟨mm_inl mm_sg6 (i := 39) (by decide +kernel) (by decide +kernel), mm_inl mm_sg1 (i := 1) (by decide +kernel) (by decide +kernel), by decide +kernel, by decide +kernel, by decide +kernel⟩
theorem imX11_clear : Cond.instanceMethod zX11_clear.1 ∈ mm_tb ∧ Cond.selects zX11_clear.1.cls zX11_clear.1 zX11_clear.1 ∈ mm_tb := ⟨mm_inl mm_sg6 (i := 37) (by decide +kernel) (by decide +kernel), mm_inl mm_sg6 (i := 38) (by decide +kernel) (by decide +kernel)⟩
def zX10_empty : mm_M := (yX10_empty, cX10_empty, 1, none)
theorem mzX10_empty : mm_Mz zX10_empty 0 := ⟨mm_inl mm_sg6 (i := 43) (by decide +kernel) (by decide +kernel), mm_inl mm_sg1 (i := 7) (by decide +kernel) (by decide +kernel), by decide +kernel, by decide +kernel, by decide +kernel⟩
theorem imX10_empty : Cond.instanceMethod zX10_empty.1 ∈ mm_tb ∧ Cond.selects zX10_empty.1.cls zX10_empty.1 zX10_empty.1 ∈ mm_tb := ⟨mm_inl mm_sg6 (i := 41) (by decide +kernel) (by decide +kernel), mm_inl mm_sg6 (i := 42) (by decide +kernel) (by decide +kernel)⟩
def zX11_plan : mm_M := (yX11_plan, cX11_plan, 3, some .int)
theorem mzX11_plan : mm_Mz zX11_plan 2 := ⟨mm_inl mm_sg6 (i := 48) (by decide +kernel) (by decide +kernel), mm_inl mm_sg1 (i := 1) (by decide +kernel) (by decide +kernel), by decide +kernel, by decide +kernel, by decide +kernel⟩
theorem imX11_plan : Cond.instanceMethod zX11_plan.1 ∈ mm_tb ∧ Cond.selects zX11_plan.1.cls zX11_plan.1 zX11_plan.1 ∈ mm_tb := ⟨mm_inl mm_sg6 (i := 46) (by decide +kernel) (by decide +kernel), mm_inl mm_sg6 (i := 47) (by decide +kernel) (by decide +kernel)⟩
def zX10_find : mm_M := (yX10_find, cX10_find, 4, some .int)
theorem mzX10_find : mm_Mz zX10_find 3 := ⟨mm_inl mm_sg6 (i := 52) (by decide +kernel) (by decide +kernel), mm_inl mm_sg1 (i := 7) (by decide +kernel) (by decide +kernel), by decide +kernel, by decide +kernel, by decide +kernel⟩
theorem imX10_find : Cond.instanceMethod zX10_find.1 ∈ mm_tb ∧ Cond.selects zX10_find.1.cls zX10_find.1 zX10_find.1 ∈ mm_tb := ⟨mm_inl mm_sg6 (i := 50) (by decide +kernel) (by decide +kernel), mm_inl mm_sg6 (i := 51) (by decide +kernel) (by decide +kernel)⟩
def zX10_seek : mm_M := (yX10_seek, cX10_seek, 6, none)
theorem mzX10_seek : mm_Mz zX10_seek 4 := ⟨mm_inl mm_sg6 (i := 57) (by decide +kernel) (by decide +kernel), mm_inl mm_sg1 (i := 7) (by decide +kernel) (by decide +kernel), by decide +kernel, by decide +kernel, by decide +kernel⟩
theorem imX10_seek : Cond.instanceMethod zX10_seek.1 ∈ mm_tb ∧ Cond.selects zX10_seek.1.cls zX10_seek.1 zX10_seek.1 ∈ mm_tb := ⟨mm_inl mm_sg6 (i := 56) (by decide +kernel) (by decide +kernel), mm_inl mm_sgp (i := 43) (by decide +kernel) (by decide +kernel)⟩
def zX10_weigh : mm_M := (yX10_weigh, cX10_weigh, 5, none)
theorem mzX10_weigh : mm_Mz zX10_weigh 3 := ⟨mm_inl mm_sg6 (i := 61) (by decide +kernel) (by decide +kernel), mm_inl mm_sg1 (i := 7) (by decide +kernel) (by decide +kernel), by decide +kernel, by decide +kernel, by decide +kernel⟩
theorem imX10_weigh : Cond.instanceMethod zX10_weigh.1 ∈ mm_tb ∧ Cond.selects zX10_weigh.1.cls zX10_weigh.1 zX10_weigh.1 ∈ mm_tb := ⟨mm_inl mm_sg6 (i := 60) (by decide +kernel) (by decide +kernel), mm_inl mm_sgp (i := 44) (by decide +kernel) (by decide +kernel)⟩
def zX10_live : mm_M := (yX10_live, cX10_live, 6, some .int)
theorem mzX10_live : mm_Mz zX10_live 4 := ⟨mm_inl mm_sg6 (i := 64) (by decide +kernel) (by decide +kernel), mm_inl mm_sg1 (i := 7) (by decide +kernel) (by decide +kernel), by decide +kernel, by decide +kernel, by decide +kernel⟩
theorem imX10_live : Cond.static zX10_live.1 ∈ mm_tb := mm_inl mm_sg6 (i := 63) (by decide +kernel) (by decide +kernel)
def zX10_canFollow : mm_M := (yX10_canFollow, cX10_canFollow, 6, some .boolean)
theorem mzX10_canFollow : mm_Mz zX10_canFollow 3 := ⟨mm_inl mm_sg6 (i := 71) (by decide +kernel) (by decide +kernel), mm_inl mm_sg1 (i := 7) (by decide +kernel) (by decide +kernel), by decide +kernel, by decide +kernel, by decide +kernel⟩
theorem imX10_canFollow : Cond.instanceMethod zX10_canFollow.1 ∈ mm_tb ∧ Cond.selects zX10_canFollow.1.cls zX10_canFollow.1 zX10_canFollow.1 ∈ mm_tb := ⟨mm_inl mm_sg6 (i := 70) (by decide +kernel) (by decide +kernel), mm_inl mm_sgp (i := 45) (by decide +kernel) (by decide +kernel)⟩
def zX10_tryWork : mm_M := (yX10_tryWork, cX10_tryWork, 7, none)
theorem mzX10_tryWork : mm_Mz zX10_tryWork 5 := ⟨mm_inl mm_sg6 (i := 76) (by decide +kernel) (by decide +kernel), mm_inl mm_sg1 (i := 7) (by decide +kernel) (by decide +kernel), by decide +kernel, by decide +kernel, by decide +kernel⟩
theorem imX10_tryWork : Cond.instanceMethod zX10_tryWork.1 ∈ mm_tb ∧ Cond.selects zX10_tryWork.1.cls zX10_tryWork.1 zX10_tryWork.1 ∈ mm_tb := ⟨mm_inl mm_sg6 (i := 75) (by decide +kernel) (by decide +kernel), mm_inl mm_sgp (i := 46) (by decide +kernel) (by decide +kernel)⟩
def zX11_planned : mm_M := (yX11_planned, cX11_planned, 5, some .int)
theorem mzX11_planned : mm_Mz zX11_planned 3 := ⟨mm_inl mm_sg6 (i := 83) (by decide +kernel) (by decide +kernel), mm_inl mm_sg1 (i := 1) (by decide +kernel) (by decide +kernel), by decide +kernel, by decide +kernel, by decide +kernel⟩
theorem imX11_planned : Cond.instanceMethod zX11_planned.1 ∈ mm_tb ∧ Cond.selects zX11_planned.1.cls zX11_planned.1 zX11_planned.1 ∈ mm_tb := ⟨mm_inl mm_sg6 (i := 81) (by decide +kernel) (by decide +kernel), mm_inl mm_sg6 (i := 82) (by decide +kernel) (by decide +kernel)⟩
def zX11_tell : mm_M := (yX11_tell, cX11_tell, 2, some .int)
theorem mzX11_tell : mm_Mz zX11_tell 1 := ⟨mm_inl mm_sg6 (i := 87) (by decide +kernel) (by decide +kernel), mm_inl mm_sg1 (i := 1) (by decide +kernel) (by decide +kernel), by decide +kernel, by decide +kernel, by decide +kernel⟩
theorem imX11_tell : Cond.instanceMethod zX11_tell.1 ∈ mm_tb ∧ Cond.selects zX11_tell.1.cls zX11_tell.1 zX11_tell.1 ∈ mm_tb := ⟨mm_inl mm_sg6 (i := 85) (by decide +kernel) (by decide +kernel), mm_inl mm_sg6 (i := 86) (by decide +kernel) (by decide +kernel)⟩
def zX11_check : mm_M := (yX11_check, cX11_check, 4, some .int)
theorem mzX11_check : mm_Mz zX11_check 2 := ⟨mm_inl mm_sg6 (i := 91) (by decide +kernel) (by decide +kernel), mm_inl mm_sg1 (i := 1) (by decide +kernel) (by decide +kernel), by decide +kernel, by decide +kernel, by decide +kernel⟩
theorem imX11_check : Cond.instanceMethod zX11_check.1 ∈ mm_tb ∧ Cond.selects zX11_check.1.cls zX11_check.1 zX11_check.1 ∈ mm_tb := ⟨mm_inl mm_sg6 (i := 89) (by decide +kernel) (by decide +kernel), mm_inl mm_sg6 (i := 90) (by decide +kernel) (by decide +kernel)⟩
def zX11_compareWaiting : mm_M := (yX11_compareWaiting, cX11_compareWaiting, 4, some .int)
theorem mzX11_compareWaiting : mm_Mz zX11_compareWaiting 2 := ⟨mm_inl mm_sg6 (i := 95) (by decide +kernel) (by decide +kernel), mm_inl mm_sg1 (i := 1) (by decide +kernel) (by decide +kernel), by decide +kernel, by decide +kernel, by decide +kernel⟩
theorem imX11_compareWaiting : Cond.instanceMethod zX11_compareWaiting.1 ∈ mm_tb ∧ Cond.selects zX11_compareWaiting.1.cls zX11_compareWaiting.1 zX11_compareWaiting.1 ∈ mm_tb := ⟨mm_inl mm_sg6 (i := 94) (by decide +kernel) (by decide +kernel), mm_inl mm_sgp (i := 47) (by decide +kernel) (by decide +kernel)⟩
def zX10_listRows : mm_M := (yX10_listRows, cX10_listRows, 9, none)
theorem mzX10_listRows : mm_Mz zX10_listRows 2 := ⟨mm_inl mm_sg6 (i := 99) (by decide +kernel) (by decide +kernel), mm_inl mm_sg1 (i := 7) (by decide +kernel) (by decide +kernel), by decide +kernel, by decide +kernel, by decide +kernel⟩
theorem imX10_listRows : Cond.instanceMethod zX10_listRows.1 ∈ mm_tb ∧ Cond.selects zX10_listRows.1.cls zX10_listRows.1 zX10_listRows.1 ∈ mm_tb := ⟨mm_inl mm_sg6 (i := 97) (by decide +kernel) (by decide +kernel), mm_inl mm_sg6 (i := 98) (by decide +kernel) (by decide +kernel)⟩
def zX3_listNight : mm_M := (yX3_listNight, cX3_listNight, 5, none)
theorem mzX3_listNight : mm_Mz zX3_listNight 2 := ⟨mm_inl mm_sg6 (i := 103) (by decide +kernel) (by decide +kernel), mm_inl mm_sg1 (i := 6) (by decide +kernel) (by decide +kernel), by decide +kernel, by decide +kernel, by decide +kernel⟩
theorem imX3_listNight : Cond.instanceMethod zX3_listNight.1 ∈ mm_tb ∧ Cond.selects zX3_listNight.1.cls zX3_listNight.1 zX3_listNight.1 ∈ mm_tb := ⟨mm_inl mm_sg6 (i := 101) (by decide +kernel) (by decide +kernel), mm_inl mm_sg6 (i := 102) (by decide +kernel) (by decide +kernel)⟩
def zX5_alike : mm_M := (yX5_alike, cX5_alike, 4, some .int)
theorem mzX5_alike : mm_Mz zX5_alike 1 := ⟨mm_inl mm_sg6 (i := 108) (by decide +kernel) (by decide +kernel), mm_inl mm_sg1 (i := 4) (by decide +kernel) (by decide +kernel), by decide +kernel, by decide +kernel, by decide +kernel⟩
theorem imX5_alike : Cond.instanceMethod zX5_alike.1 ∈ mm_tb ∧ Cond.selects zX5_alike.1.cls zX5_alike.1 zX5_alike.1 ∈ mm_tb := ⟨mm_inl mm_sg6 (i := 106) (by decide +kernel) (by decide +kernel), mm_inl mm_sg6 (i := 107) (by decide +kernel) (by decide +kernel)⟩
def zX11_keep : mm_M := (yX11_keep, cX11_keep, 1, some .int)
theorem mzX11_keep : mm_Mz zX11_keep 0 := ⟨mm_inl mm_sg6 (i := 112) (by decide +kernel) (by decide +kernel), mm_inl mm_sg1 (i := 1) (by decide +kernel) (by decide +kernel), by decide +kernel, by decide +kernel, by decide +kernel⟩
theorem imX11_keep : Cond.instanceMethod zX11_keep.1 ∈ mm_tb ∧ Cond.selects zX11_keep.1.cls zX11_keep.1 zX11_keep.1 ∈ mm_tb := ⟨mm_inl mm_sg6 (i := 110) (by decide +kernel) (by decide +kernel), mm_inl mm_sg6 (i := 111) (by decide +kernel) (by decide +kernel)⟩
def zX8_become : mm_M := (yX8_become, cX8_become, 5, none)
theorem mzX8_become : mm_Mz zX8_become 1 := ⟨mm_inl mm_sg6 (i := 116) (by decide +kernel) (by decide +kernel), mm_inl mm_sg1 (i := 2) (by decide +kernel) (by decide +kernel), by decide +kernel, by decide +kernel, by decide +kernel⟩
theorem imX8_become : Cond.instanceMethod zX8_become.1 ∈ mm_tb ∧ Cond.selects zX8_become.1.cls zX8_become.1 zX8_become.1 ∈ mm_tb := ⟨mm_inl mm_sg6 (i := 114) (by decide +kernel) (by decide +kernel), mm_inl mm_sg6 (i := 115) (by decide +kernel) (by decide +kernel)⟩
def zX0_become : mm_M := (yX0_become, cX0_become, 2, none)
theorem mzX0_become : mm_Mz zX0_become 1 := ⟨mm_inl mm_sg6 (i := 120) (by decide +kernel) (by decide +kernel), mm_inl mm_sg1 (i := 3) (by decide +kernel) (by decide +kernel), by decide +kernel, by decide +kernel, by decide +kernel⟩
theorem imX0_become : Cond.instanceMethod zX0_become.1 ∈ mm_tb ∧ Cond.selects zX0_become.1.cls zX0_become.1 zX0_become.1 ∈ mm_tb := ⟨mm_inl mm_sg6 (i := 118) (by decide +kernel) (by decide +kernel), mm_inl mm_sg6 (i := 119) (by decide +kernel) (by decide +kernel)⟩
def zX3_become : mm_M := (yX3_become, cX3_become, 2, none)
theorem mzX3_become : mm_Mz zX3_become 1 := ⟨mm_inl mm_sg6 (i := 125) (by decide +kernel) (by decide +kernel), mm_inl mm_sg1 (i := 6) (by decide +kernel) (by decide +kernel), by decide +kernel, by decide +kernel, by decide +kernel⟩
theorem imX3_become : Cond.instanceMethod zX3_become.1 ∈ mm_tb ∧ Cond.selects zX3_become.1.cls zX3_become.1 zX3_become.1 ∈ mm_tb := ⟨mm_inl mm_sg6 (i := 123) (by decide +kernel) (by decide +kernel), mm_inl mm_sg6 (i := 124) (by decide +kernel) (by decide +kernel)⟩
def zX10_become : mm_M := (yX10_become, cX10_become, 2, none)
theorem mzX10_become : mm_Mz zX10_become 1 := ⟨mm_inl mm_sg6 (i := 130) (by decide +kernel) (by decide +kernel), mm_inl mm_sg1 (i := 7) (by decide +kernel) (by decide +kernel), by decide +kernel, by decide +kernel, by decide +kernel⟩
theorem imX10_become : Cond.instanceMethod zX10_become.1 ∈ mm_tb ∧ Cond.selects zX10_become.1.cls zX10_become.1 zX10_become.1 ∈ mm_tb := ⟨mm_inl mm_sg6 (i := 128) (by decide +kernel) (by decide +kernel), mm_inl mm_sg6 (i := 129) (by decide +kernel) (by decide +kernel)⟩
def zX1_become : mm_M := (yX1_become, cX1_become, 2, none)
theorem mzX1_become : mm_Mz zX1_become 1 := ⟨mm_inl mm_sg6 (i := 134) (by decide +kernel) (by decide +kernel), mm_inl mm_sg1 (i := 8) (by decide +kernel) (by decide +kernel), by decide +kernel, by decide +kernel, by decide +kernel⟩
theorem imX1_become : Cond.instanceMethod zX1_become.1 ∈ mm_tb ∧ Cond.selects zX1_become.1.cls zX1_become.1 zX1_become.1 ∈ mm_tb := ⟨mm_inl mm_sg6 (i := 132) (by decide +kernel) (by decide +kernel), mm_inl mm_sg6 (i := 133) (by decide +kernel) (by decide +kernel)⟩
def zX11_back : mm_M := (yX11_back, cX11_back, 1, some .int)
theorem mzX11_back : mm_Mz zX11_back 0 := ⟨mm_inl mm_sg6 (i := 142) (by decide +kernel) (by decide +kernel), mm_inl mm_sg1 (i := 1) (by decide +kernel) (by decide +kernel), by decide +kernel, by decide +kernel, by decide +kernel⟩
theorem imX11_back : Cond.instanceMethod zX11_back.1 ∈ mm_tb ∧ Cond.selects zX11_back.1.cls zX11_back.1 zX11_back.1 ∈ mm_tb := ⟨mm_inl mm_sg6 (i := 140) (by decide +kernel) (by decide +kernel), mm_inl mm_sg6 (i := 141) (by decide +kernel) (by decide +kernel)⟩
def zX11_sheet : mm_M := (yX11_sheet, cX11_sheet, 3, some .int)
theorem mzX11_sheet : mm_Mz zX11_sheet 2 := ⟨mm_inl mm_sg6 (i := 146) (by decide +kernel) (by decide +kernel), mm_inl mm_sg1 (i := 1) (by decide +kernel) (by decide +kernel), by decide +kernel, by decide +kernel, by decide +kernel⟩
theorem imX11_sheet : Cond.instanceMethod zX11_sheet.1 ∈ mm_tb ∧ Cond.selects zX11_sheet.1.cls zX11_sheet.1 zX11_sheet.1 ∈ mm_tb := ⟨mm_inl mm_sg6 (i := 144) (by decide +kernel) (by decide +kernel), mm_inl mm_sg6 (i := 145) (by decide +kernel) (by decide +kernel)⟩
def zX7_begin : mm_M := (yX7_begin, cX7_begin, 3, none)
theorem mzX7_begin : mm_Mz zX7_begin 2 := ⟨mm_inl mm_sg6 (i := 151) (by decide +kernel) (by decide +kernel), mm_inl mm_sg1 (i := 13) (by decide +kernel) (by decide +kernel), by decide +kernel, by decide +kernel, by decide +kernel⟩
theorem imX7_begin : Cond.instanceMethod zX7_begin.1 ∈ mm_tb ∧ Cond.selects zX7_begin.1.cls zX7_begin.1 zX7_begin.1 ∈ mm_tb := ⟨mm_inl mm_sg6 (i := 149) (by decide +kernel) (by decide +kernel), mm_inl mm_sg6 (i := 150) (by decide +kernel) (by decide +kernel)⟩
def zX11_mark : mm_M := (yX11_mark, cX11_mark, 4, some .int)
theorem mzX11_mark : mm_Mz zX11_mark 3 := ⟨mm_inl mm_sg6 (i := 156) (by decide +kernel) (by decide +kernel), mm_inl mm_sg1 (i := 1) (by decide +kernel) (by decide +kernel), by decide +kernel, by decide +kernel, by decide +kernel⟩
theorem imX11_mark : Cond.instanceMethod zX11_mark.1 ∈ mm_tb ∧ Cond.selects zX11_mark.1.cls zX11_mark.1 zX11_mark.1 ∈ mm_tb := ⟨mm_inl mm_sg6 (i := 154) (by decide +kernel) (by decide +kernel), mm_inl mm_sg6 (i := 155) (by decide +kernel) (by decide +kernel)⟩
def zX7_swap : mm_M := (yX7_swap, cX7_swap, 4, some .int)
theorem mzX7_swap : mm_Mz zX7_swap 3 := ⟨mm_inl mm_sg6 (i := 161) (by decide +kernel) (by decide +kernel), mm_inl mm_sg1 (i := 13) (by decide +kernel) (by decide +kernel), by decide +kernel, by decide +kernel, by decide +kernel⟩
theorem imX7_swap : Cond.instanceMethod zX7_swap.1 ∈ mm_tb ∧ Cond.selects zX7_swap.1.cls zX7_swap.1 zX7_swap.1 ∈ mm_tb := ⟨mm_inl mm_sg6 (i := 159) (by decide +kernel) (by decide +kernel), mm_inl mm_sg6 (i := 160) (by decide +kernel) (by decide +kernel)⟩
def zX11_copy : mm_M := (yX11_copy, cX11_copy, 6, some .int)
theorem mzX11_copy : mm_Mz zX11_copy 5 := ⟨mm_inl mm_sg6 (i := 166) (by decide +kernel) (by decide +kernel), mm_inl mm_sg1 (i := 1) (by decide +kernel) (by decide +kernel), by decide +kernel, by decide +kernel, by decide +kernel⟩
theorem imX11_copy : Cond.instanceMethod zX11_copy.1 ∈ mm_tb ∧ Cond.selects zX11_copy.1.cls zX11_copy.1 zX11_copy.1 ∈ mm_tb := ⟨mm_inl mm_sg6 (i := 164) (by decide +kernel) (by decide +kernel), mm_inl mm_sg6 (i := 165) (by decide +kernel) (by decide +kernel)⟩
def zX7_hasPart : mm_M := (yX7_hasPart, cX7_hasPart, 4, some .boolean)
theorem mzX7_hasPart : mm_Mz zX7_hasPart 3 := ⟨mm_inl mm_sg6 (i := 170) (by decide +kernel) (by decide +kernel), mm_inl mm_sg1 (i := 13) (by decide +kernel) (by decide +kernel), by decide +kernel, by decide +kernel, by decide +kernel⟩
theorem imX7_hasPart : Cond.instanceMethod zX7_hasPart.1 ∈ mm_tb ∧ Cond.selects zX7_hasPart.1.cls zX7_hasPart.1 zX7_hasPart.1 ∈ mm_tb := ⟨mm_inl mm_sg6 (i := 168) (by decide +kernel) (by decide +kernel), mm_inl mm_sg6 (i := 169) (by decide +kernel) (by decide +kernel)⟩
def zX7_move : mm_M := (yX7_move, cX7_move, 6, none)
theorem mzX7_move : mm_Mz zX7_move 5 := ⟨mm_inl mm_sg6 (i := 175) (by decide +kernel) (by decide +kernel), mm_inl mm_sg1 (i := 13) (by decide +kernel) (by decide +kernel), by decide +kernel, by decide +kernel, by decide +kernel⟩
theorem imX7_move : Cond.instanceMethod zX7_move.1 ∈ mm_tb ∧ Cond.selects zX7_move.1.cls zX7_move.1 zX7_move.1 ∈ mm_tb := ⟨mm_inl mm_sg6 (i := 173) (by decide +kernel) (by decide +kernel), mm_inl mm_sg6 (i := 174) (by decide +kernel) (by decide +kernel)⟩
def zX11_count : mm_M := (yX11_count, cX11_count, 2, some .int)
theorem mzX11_count : mm_Mz zX11_count 1 := ⟨mm_inl mm_sg6 (i := 180) (by decide +kernel) (by decide +kernel), mm_inl mm_sg1 (i := 1) (by decide +kernel) (by decide +kernel), by decide +kernel, by decide +kernel, by decide +kernel⟩
theorem imX11_count : Cond.instanceMethod zX11_count.1 ∈ mm_tb ∧ Cond.selects zX11_count.1.cls zX11_count.1 zX11_count.1 ∈ mm_tb := ⟨mm_inl mm_sg6 (i := 178) (by decide +kernel) (by decide +kernel), mm_inl mm_sg6 (i := 179) (by decide +kernel) (by decide +kernel)⟩
def zX8_scriptsTold : mm_M := (yX8_scriptsTold, cX8_scriptsTold, 4, some .int)
theorem mzX8_scriptsTold : mm_Mz zX8_scriptsTold 0 := ⟨mm_inl mm_sg6 (i := 184) (by decide +kernel) (by decide +kernel), mm_inl mm_sg1 (i := 2) (by decide +kernel) (by decide +kernel), by decide +kernel, by decide +kernel, by decide +kernel⟩
theorem imX8_scriptsTold : Cond.instanceMethod zX8_scriptsTold.1 ∈ mm_tb ∧ Cond.selects zX8_scriptsTold.1.cls zX8_scriptsTold.1 zX8_scriptsTold.1 ∈ mm_tb := ⟨mm_inl mm_sg6 (i := 182) (by decide +kernel) (by decide +kernel), mm_inl mm_sg6 (i := 183) (by decide +kernel) (by decide +kernel)⟩
def zX8_reportsOnWay : mm_M := (yX8_reportsOnWay, cX8_reportsOnWay, 1, some .int)
theorem mzX8_reportsOnWay : mm_Mz zX8_reportsOnWay 0 := ⟨mm_inl mm_sg6 (i := 189) (by decide +kernel) (by decide +kernel), mm_inl mm_sg1 (i := 2) (by decide +kernel) (by decide +kernel), by decide +kernel, by decide +kernel, by decide +kernel⟩
theorem imX8_reportsOnWay : Cond.instanceMethod zX8_reportsOnWay.1 ∈ mm_tb ∧ Cond.selects zX8_reportsOnWay.1.cls zX8_reportsOnWay.1 zX8_reportsOnWay.1 ∈ mm_tb := ⟨mm_inl mm_sg6 (i := 187) (by decide +kernel) (by decide +kernel), mm_inl mm_sg6 (i := 188) (by decide +kernel) (by decide +kernel)⟩
def zX12_init : mm_M := (yX12_init, cX12_init, 1, none)
theorem mzX12_init : mm_Mz zX12_init 0 := ⟨mm_inl mm_sg6 (i := 194) (by decide +kernel) (by decide +kernel), mm_inl mm_sg1 (i := 14) (by decide +kernel) (by decide +kernel), by decide +kernel, by decide +kernel, by decide +kernel⟩
theorem imX12_init : Cond.instanceMethod zX12_init.1 ∈ mm_tb := mm_inl mm_sg6 (i := 193) (by decide +kernel) (by decide +kernel)
def zX12_layGround : mm_M := (yX12_layGround, cX12_layGround, 4, none)
theorem mzX12_layGround : mm_Mz zX12_layGround 2 := ⟨mm_inl mm_sg6 (i := 212) (by decide +kernel) (by decide +kernel), mm_inl mm_sg1 (i := 14) (by decide +kernel) (by decide +kernel), by decide +kernel, by decide +kernel, by decide +kernel⟩
theorem imX12_layGround : Cond.instanceMethod zX12_layGround.1 ∈ mm_tb ∧ Cond.selects zX12_layGround.1.cls zX12_layGround.1 zX12_layGround.1 ∈ mm_tb := ⟨mm_inl mm_sg6 (i := 211) (by decide +kernel) (by decide +kernel), mm_inl mm_sgp (i := 48) (by decide +kernel) (by decide +kernel)⟩
def zX12_ground : mm_M := (yX12_ground, cX12_ground, 3, some .int)
theorem mzX12_ground : mm_Mz zX12_ground 2 := ⟨mm_inl mm_sg7 (i := 70) (by decide +kernel) (by decide +kernel), mm_inl mm_sg1 (i := 14) (by decide +kernel) (by decide +kernel), by decide +kernel, by decide +kernel, by decide +kernel⟩
theorem imX12_ground : Cond.instanceMethod zX12_ground.1 ∈ mm_tb ∧ Cond.selects zX12_ground.1.cls zX12_ground.1 zX12_ground.1 ∈ mm_tb := ⟨mm_inl mm_sg7 (i := 68) (by decide +kernel) (by decide +kernel), mm_inl mm_sg7 (i := 69) (by decide +kernel) (by decide +kernel)⟩
def zX12_within : mm_M := (yX12_within, cX12_within, 3, some .boolean)
theorem mzX12_within : mm_Mz zX12_within 3 := ⟨mm_inl mm_sg7 (i := 73) (by decide +kernel) (by decide +kernel), mm_inl mm_sg1 (i := 14) (by decide +kernel) (by decide +kernel), by decide +kernel, by decide +kernel, by decide +kernel⟩
theorem imX12_within : Cond.static zX12_within.1 ∈ mm_tb := mm_inl mm_sg7 (i := 72) (by decide +kernel) (by decide +kernel)
def zX12_cells : mm_M := (yX12_cells, cX12_cells, 1, some .int)
theorem mzX12_cells : mm_Mz zX12_cells 0 := ⟨mm_inl mm_sg7 (i := 78) (by decide +kernel) (by decide +kernel), mm_inl mm_sg1 (i := 14) (by decide +kernel) (by decide +kernel), by decide +kernel, by decide +kernel, by decide +kernel⟩
theorem imX12_cells : Cond.instanceMethod zX12_cells.1 ∈ mm_tb ∧ Cond.selects zX12_cells.1.cls zX12_cells.1 zX12_cells.1 ∈ mm_tb := ⟨mm_inl mm_sg7 (i := 77) (by decide +kernel) (by decide +kernel), mm_inl mm_sgp (i := 49) (by decide +kernel) (by decide +kernel)⟩
def zX12_cell : mm_M := (yX12_cell, cX12_cell, 4, some .int)
theorem mzX12_cell : mm_Mz zX12_cell 2 := ⟨mm_inl mm_sg7 (i := 82) (by decide +kernel) (by decide +kernel), mm_inl mm_sg1 (i := 14) (by decide +kernel) (by decide +kernel), by decide +kernel, by decide +kernel, by decide +kernel⟩
theorem imX12_cell : Cond.instanceMethod zX12_cell.1 ∈ mm_tb ∧ Cond.selects zX12_cell.1.cls zX12_cell.1 zX12_cell.1 ∈ mm_tb := ⟨mm_inl mm_sg7 (i := 80) (by decide +kernel) (by decide +kernel), mm_inl mm_sg7 (i := 81) (by decide +kernel) (by decide +kernel)⟩
def zX12_isCell : mm_M := (yX12_isCell, cX12_isCell, 2, some .boolean)
theorem mzX12_isCell : mm_Mz zX12_isCell 1 := ⟨mm_inl mm_sg7 (i := 86) (by decide +kernel) (by decide +kernel), mm_inl mm_sg1 (i := 14) (by decide +kernel) (by decide +kernel), by decide +kernel, by decide +kernel, by decide +kernel⟩
theorem imX12_isCell : Cond.instanceMethod zX12_isCell.1 ∈ mm_tb ∧ Cond.selects zX12_isCell.1.cls zX12_isCell.1 zX12_isCell.1 ∈ mm_tb := ⟨mm_inl mm_sg7 (i := 85) (by decide +kernel) (by decide +kernel), mm_inl mm_sgp (i := 50) (by decide +kernel) (by decide +kernel)⟩
def zX12_machineOn : mm_M := (yX12_machineOn, cX12_machineOn, 4, some .int)
theorem mzX12_machineOn : mm_Mz zX12_machineOn 1 := ⟨mm_inl mm_sg7 (i := 90) (by decide +kernel) (by decide +kernel), mm_inl mm_sg1 (i := 14) (by decide +kernel) (by decide +kernel), by decide +kernel, by decide +kernel, by decide +kernel⟩
theorem imX12_machineOn : Cond.instanceMethod zX12_machineOn.1 ∈ mm_tb ∧ Cond.selects zX12_machineOn.1.cls zX12_machineOn.1 zX12_machineOn.1 ∈ mm_tb := ⟨mm_inl mm_sg7 (i := 89) (by decide +kernel) (by decide +kernel), mm_inl mm_sgp (i := 51) (by decide +kernel) (by decide +kernel)⟩
def zX12_of : mm_M := (yX12_of, cX12_of, 2, some .int)
theorem mzX12_of : mm_Mz zX12_of 2 := ⟨mm_inl mm_sg7 (i := 93) (by decide +kernel) (by decide +kernel), mm_inl mm_sg1 (i := 14) (by decide +kernel) (by decide +kernel), by decide +kernel, by decide +kernel, by decide +kernel⟩
theorem imX12_of : Cond.static zX12_of.1 ∈ mm_tb := mm_inl mm_sg7 (i := 92) (by decide +kernel) (by decide +kernel)
def zX12_put : mm_M := (yX12_put, cX12_put, 6, some .int)
theorem mzX12_put : mm_Mz zX12_put 3 := ⟨mm_inl mm_sg7 (i := 98) (by decide +kernel) (by decide +kernel), mm_inl mm_sg1 (i := 14) (by decide +kernel) (by decide +kernel), by decide +kernel, by decide +kernel, by decide +kernel⟩
theorem imX12_put : Cond.instanceMethod zX12_put.1 ∈ mm_tb ∧ Cond.selects zX12_put.1.cls zX12_put.1 zX12_put.1 ∈ mm_tb := ⟨mm_inl mm_sg7 (i := 96) (by decide +kernel) (by decide +kernel), mm_inl mm_sg7 (i := 97) (by decide +kernel) (by decide +kernel)⟩
def zX12_told : mm_M := (yX12_told, cX12_told, 4, some .int)
theorem mzX12_told : mm_Mz zX12_told 2 := ⟨mm_inl mm_sg7 (i := 102) (by decide +kernel) (by decide +kernel), mm_inl mm_sg1 (i := 14) (by decide +kernel) (by decide +kernel), by decide +kernel, by decide +kernel, by decide +kernel⟩
theorem imX12_told : Cond.instanceMethod zX12_told.1 ∈ mm_tb ∧ Cond.selects zX12_told.1.cls zX12_told.1 zX12_told.1 ∈ mm_tb := ⟨mm_inl mm_sg7 (i := 100) (by decide +kernel) (by decide +kernel), mm_inl mm_sg7 (i := 101) (by decide +kernel) (by decide +kernel)⟩
def zX12_isOf : mm_M := (yX12_isOf, cX12_isOf, 3, some .int)
theorem mzX12_isOf : mm_Mz zX12_isOf 2 := ⟨mm_inl mm_sg7 (i := 107) (by decide +kernel) (by decide +kernel), mm_inl mm_sg1 (i := 14) (by decide +kernel) (by decide +kernel), by decide +kernel, by decide +kernel, by decide +kernel⟩
theorem imX12_isOf : Cond.instanceMethod zX12_isOf.1 ∈ mm_tb ∧ Cond.selects zX12_isOf.1.cls zX12_isOf.1 zX12_isOf.1 ∈ mm_tb := ⟨mm_inl mm_sg7 (i := 105) (by decide +kernel) (by decide +kernel), mm_inl mm_sg7 (i := 106) (by decide +kernel) (by decide +kernel)⟩
def zX12_isOfKind : mm_M := (yX12_isOfKind, cX12_isOfKind, 4, some .boolean)
theorem mzX12_isOfKind : mm_Mz zX12_isOfKind 2 := ⟨mm_inl mm_sg7 (i := 111) (by decide +kernel) (by decide +kernel), mm_inl mm_sg1 (i := 14) (by decide +kernel) (by decide +kernel), by decide +kernel, by decide +kernel, by decide +kernel⟩
theorem imX12_isOfKind : Cond.instanceMethod zX12_isOfKind.1 ∈ mm_tb ∧ Cond.selects zX12_isOfKind.1.cls zX12_isOfKind.1 zX12_isOfKind.1 ∈ mm_tb := ⟨mm_inl mm_sg7 (i := 110) (by decide +kernel) (by decide +kernel), mm_inl mm_sgp (i := 52) (by decide +kernel) (by decide +kernel)⟩
def zX12_map : mm_M := (yX12_map, cX12_map, 3, some .int)
theorem mzX12_map : mm_Mz zX12_map 2 := ⟨mm_inl mm_sg7 (i := 115) (by decide +kernel) (by decide +kernel), mm_inl mm_sg1 (i := 14) (by decide +kernel) (by decide +kernel), by decide +kernel, by decide +kernel, by decide +kernel⟩
theorem imX12_map : Cond.instanceMethod zX12_map.1 ∈ mm_tb ∧ Cond.selects zX12_map.1.cls zX12_map.1 zX12_map.1 ∈ mm_tb := ⟨mm_inl mm_sg7 (i := 113) (by decide +kernel) (by decide +kernel), mm_inl mm_sg7 (i := 114) (by decide +kernel) (by decide +kernel)⟩
def zX12_lay : mm_M := (yX12_lay, cX12_lay, 5, some .int)
theorem mzX12_lay : mm_Mz zX12_lay 1 := ⟨mm_inl mm_sg7 (i := 119) (by decide +kernel) (by decide +kernel), mm_inl mm_sg1 (i := 14) (by decide +kernel) (by decide +kernel), by decide +kernel, by decide +kernel, by decide +kernel⟩
theorem imX12_lay : Cond.instanceMethod zX12_lay.1 ∈ mm_tb ∧ Cond.selects zX12_lay.1.cls zX12_lay.1 zX12_lay.1 ∈ mm_tb := ⟨mm_inl mm_sg7 (i := 117) (by decide +kernel) (by decide +kernel), mm_inl mm_sg7 (i := 118) (by decide +kernel) (by decide +kernel)⟩
def zX12_steps : mm_M := (yX12_steps, cX12_steps, 3, some .int)
theorem mzX12_steps : mm_Mz zX12_steps 2 := ⟨mm_inl mm_sg7 (i := 125) (by decide +kernel) (by decide +kernel), mm_inl mm_sg1 (i := 14) (by decide +kernel) (by decide +kernel), by decide +kernel, by decide +kernel, by decide +kernel⟩
theorem imX12_steps : Cond.instanceMethod zX12_steps.1 ∈ mm_tb ∧ Cond.selects zX12_steps.1.cls zX12_steps.1 zX12_steps.1 ∈ mm_tb := ⟨mm_inl mm_sg7 (i := 123) (by decide +kernel) (by decide +kernel), mm_inl mm_sg7 (i := 124) (by decide +kernel) (by decide +kernel)⟩
def zX12_findFar : mm_M := (yX12_findFar, cX12_findFar, 6, none)
theorem mzX12_findFar : mm_Mz zX12_findFar 1 := ⟨mm_inl mm_sg7 (i := 129) (by decide +kernel) (by decide +kernel), mm_inl mm_sg1 (i := 14) (by decide +kernel) (by decide +kernel), by decide +kernel, by decide +kernel, by decide +kernel⟩
theorem imX12_findFar : Cond.instanceMethod zX12_findFar.1 ∈ mm_tb ∧ Cond.selects zX12_findFar.1.cls zX12_findFar.1 zX12_findFar.1 ∈ mm_tb := ⟨mm_inl mm_sg7 (i := 128) (by decide +kernel) (by decide +kernel), mm_inl mm_sgp (i := 53) (by decide +kernel) (by decide +kernel)⟩
def zX12_beside : mm_M := (yX12_beside, cX12_beside, 5, some .int)
theorem mzX12_beside : mm_Mz zX12_beside 2 := ⟨mm_inl mm_sg7 (i := 133) (by decide +kernel) (by decide +kernel), mm_inl mm_sg1 (i := 14) (by decide +kernel) (by decide +kernel), by decide +kernel, by decide +kernel, by decide +kernel⟩
theorem imX12_beside : Cond.instanceMethod zX12_beside.1 ∈ mm_tb ∧ Cond.selects zX12_beside.1.cls zX12_beside.1 zX12_beside.1 ∈ mm_tb := ⟨mm_inl mm_sg7 (i := 132) (by decide +kernel) (by decide +kernel), mm_inl mm_sgp (i := 54) (by decide +kernel) (by decide +kernel)⟩
def zX12_store : mm_M := (yX12_store, cX12_store, 4, some .int)
theorem mzX12_store : mm_Mz zX12_store 2 := ⟨mm_inl mm_sg7 (i := 137) (by decide +kernel) (by decide +kernel), mm_inl mm_sg1 (i := 14) (by decide +kernel) (by decide +kernel), by decide +kernel, by decide +kernel, by decide +kernel⟩
theorem imX12_store : Cond.instanceMethod zX12_store.1 ∈ mm_tb ∧ Cond.selects zX12_store.1.cls zX12_store.1 zX12_store.1 ∈ mm_tb := ⟨mm_inl mm_sg7 (i := 135) (by decide +kernel) (by decide +kernel), mm_inl mm_sg7 (i := 136) (by decide +kernel) (by decide +kernel)⟩
def zX12_rule : mm_M := (yX12_rule, cX12_rule, 4, some .int)
theorem mzX12_rule : mm_Mz zX12_rule 2 := ⟨mm_inl mm_sg7 (i := 141) (by decide +kernel) (by decide +kernel), mm_inl mm_sg1 (i := 14) (by decide +kernel) (by decide +kernel), by decide +kernel, by decide +kernel, by decide +kernel⟩
theorem imX12_rule : Cond.instanceMethod zX12_rule.1 ∈ mm_tb ∧ Cond.selects zX12_rule.1.cls zX12_rule.1 zX12_rule.1 ∈ mm_tb := ⟨mm_inl mm_sg7 (i := 139) (by decide +kernel) (by decide +kernel), mm_inl mm_sg7 (i := 140) (by decide +kernel) (by decide +kernel)⟩
def zX12_isRule : mm_M := (yX12_isRule, cX12_isRule, 2, some .boolean)
theorem mzX12_isRule : mm_Mz zX12_isRule 2 := ⟨mm_inl mm_sg7 (i := 144) (by decide +kernel) (by decide +kernel), mm_inl mm_sg1 (i := 14) (by decide +kernel) (by decide +kernel), by decide +kernel, by decide +kernel, by decide +kernel⟩
theorem imX12_isRule : Cond.static zX12_isRule.1 ∈ mm_tb := mm_inl mm_sg7 (i := 143) (by decide +kernel) (by decide +kernel)
def zX12_load : mm_M := (yX12_load, cX12_load, 4, some .int)
theorem mzX12_load : mm_Mz zX12_load 2 := ⟨mm_inl mm_sg7 (i := 148) (by decide +kernel) (by decide +kernel), mm_inl mm_sg1 (i := 14) (by decide +kernel) (by decide +kernel), by decide +kernel, by decide +kernel, by decide +kernel⟩
theorem imX12_load : Cond.instanceMethod zX12_load.1 ∈ mm_tb ∧ Cond.selects zX12_load.1.cls zX12_load.1 zX12_load.1 ∈ mm_tb := ⟨mm_inl mm_sg7 (i := 146) (by decide +kernel) (by decide +kernel), mm_inl mm_sg7 (i := 147) (by decide +kernel) (by decide +kernel)⟩
def zX12_base : mm_M := (yX12_base, cX12_base, 2, some .int)
theorem mzX12_base : mm_Mz zX12_base 1 := ⟨mm_inl mm_sg7 (i := 153) (by decide +kernel) (by decide +kernel), mm_inl mm_sg1 (i := 14) (by decide +kernel) (by decide +kernel), by decide +kernel, by decide +kernel, by decide +kernel⟩
theorem imX12_base : Cond.instanceMethod zX12_base.1 ∈ mm_tb ∧ Cond.selects zX12_base.1.cls zX12_base.1 zX12_base.1 ∈ mm_tb := ⟨mm_inl mm_sg7 (i := 151) (by decide +kernel) (by decide +kernel), mm_inl mm_sg7 (i := 152) (by decide +kernel) (by decide +kernel)⟩
def zX12_isLight : mm_M := (yX12_isLight, cX12_isLight, 1, some .boolean)
theorem mzX12_isLight : mm_Mz zX12_isLight 0 := ⟨mm_inl mm_sg7 (i := 157) (by decide +kernel) (by decide +kernel), mm_inl mm_sg1 (i := 14) (by decide +kernel) (by decide +kernel), by decide +kernel, by decide +kernel, by decide +kernel⟩
theorem imX12_isLight : Cond.instanceMethod zX12_isLight.1 ∈ mm_tb ∧ Cond.selects zX12_isLight.1.cls zX12_isLight.1 zX12_isLight.1 ∈ mm_tb := ⟨mm_inl mm_sg7 (i := 156) (by decide +kernel) (by decide +kernel), mm_inl mm_sgp (i := 55) (by decide +kernel) (by decide +kernel)⟩
def zX12_restOfTick : mm_M := (yX12_restOfTick, cX12_restOfTick, 1, some .int)
theorem mzX12_restOfTick : mm_Mz zX12_restOfTick 0 := ⟨mm_inl mm_sg7 (i := 161) (by decide +kernel) (by decide +kernel), mm_inl mm_sg1 (i := 14) (by decide +kernel) (by decide +kernel), by decide +kernel, by decide +kernel, by decide +kernel⟩
theorem imX12_restOfTick : Cond.instanceMethod zX12_restOfTick.1 ∈ mm_tb ∧ Cond.selects zX12_restOfTick.1.cls zX12_restOfTick.1 zX12_restOfTick.1 ∈ mm_tb := ⟨mm_inl mm_sg7 (i := 160) (by decide +kernel) (by decide +kernel), mm_inl mm_sgp (i := 56) (by decide +kernel) (by decide +kernel)⟩
def zX12_machine : mm_M := (yX12_machine, cX12_machine, 4, some .int)
theorem mzX12_machine : mm_Mz zX12_machine 2 := ⟨mm_inl mm_sg7 (i := 165) (by decide +kernel) (by decide +kernel), mm_inl mm_sg1 (i := 14) (by decide +kernel) (by decide +kernel), by decide +kernel, by decide +kernel, by decide +kernel⟩
theorem imX12_machine : Cond.instanceMethod zX12_machine.1 ∈ mm_tb ∧ Cond.selects zX12_machine.1.cls zX12_machine.1 zX12_machine.1 ∈ mm_tb := ⟨mm_inl mm_sg7 (i := 163) (by decide +kernel) (by decide +kernel), mm_inl mm_sg7 (i := 164) (by decide +kernel) (by decide +kernel)⟩
def zX12_is : mm_M := (yX12_is, cX12_is, 3, some .int)
theorem mzX12_is : mm_Mz zX12_is 2 := ⟨mm_inl mm_sg7 (i := 169) (by decide +kernel) (by decide +kernel), mm_inl mm_sg1 (i := 14) (by decide +kernel) (by decide +kernel), by decide +kernel, by decide +kernel, by decide +kernel⟩
theorem imX12_is : Cond.instanceMethod zX12_is.1 ∈ mm_tb ∧ Cond.selects zX12_is.1.cls zX12_is.1 zX12_is.1 ∈ mm_tb := ⟨mm_inl mm_sg7 (i := 167) (by decide +kernel) (by decide +kernel), mm_inl mm_sg7 (i := 168) (by decide +kernel) (by decide +kernel)⟩
def zX12_isMachine : mm_M := (yX12_isMachine, cX12_isMachine, 2, some .boolean)
theorem mzX12_isMachine : mm_Mz zX12_isMachine 1 := ⟨mm_inl mm_sg7 (i := 173) (by decide +kernel) (by decide +kernel), mm_inl mm_sg1 (i := 14) (by decide +kernel) (by decide +kernel), by decide +kernel, by decide +kernel, by decide +kernel⟩
theorem imX12_isMachine : Cond.instanceMethod zX12_isMachine.1 ∈ mm_tb ∧ Cond.selects zX12_isMachine.1.cls zX12_isMachine.1 zX12_isMachine.1 ∈ mm_tb := ⟨mm_inl mm_sg7 (i := 172) (by decide +kernel) (by decide +kernel), mm_inl mm_sgp (i := 57) (by decide +kernel) (by decide +kernel)⟩
def zX12_isKind : mm_M := (yX12_isKind, cX12_isKind, 4, some .boolean)
theorem mzX12_isKind : mm_Mz zX12_isKind 2 := ⟨mm_inl mm_sg7 (i := 177) (by decide +kernel) (by decide +kernel), mm_inl mm_sg1 (i := 14) (by decide +kernel) (by decide +kernel), by decide +kernel, by decide +kernel, by decide +kernel⟩
theorem imX12_isKind : Cond.instanceMethod zX12_isKind.1 ∈ mm_tb ∧ Cond.selects zX12_isKind.1.cls zX12_isKind.1 zX12_isKind.1 ∈ mm_tb := ⟨mm_inl mm_sg7 (i := 176) (by decide +kernel) (by decide +kernel), mm_inl mm_sgp (i := 58) (by decide +kernel) (by decide +kernel)⟩
def zX12_tune : mm_M := (yX12_tune, cX12_tune, 6, some .int)
theorem mzX12_tune : mm_Mz zX12_tune 3 := ⟨mm_inl mm_sg7 (i := 181) (by decide +kernel) (by decide +kernel), mm_inl mm_sg1 (i := 14) (by decide +kernel) (by decide +kernel), by decide +kernel, by decide +kernel, by decide +kernel⟩
theorem imX12_tune : Cond.instanceMethod zX12_tune.1 ∈ mm_tb ∧ Cond.selects zX12_tune.1.cls zX12_tune.1 zX12_tune.1 ∈ mm_tb := ⟨mm_inl mm_sg7 (i := 179) (by decide +kernel) (by decide +kernel), mm_inl mm_sg7 (i := 180) (by decide +kernel) (by decide +kernel)⟩
def zX12_has : mm_M := (yX12_has, cX12_has, 3, some .int)
theorem mzX12_has : mm_Mz zX12_has 2 := ⟨mm_inl mm_sg7 (i := 185) (by decide +kernel) (by decide +kernel), mm_inl mm_sg1 (i := 14) (by decide +kernel) (by decide +kernel), by decide +kernel, by decide +kernel, by decide +kernel⟩
theorem imX12_has : Cond.instanceMethod zX12_has.1 ∈ mm_tb ∧ Cond.selects zX12_has.1.cls zX12_has.1 zX12_has.1 ∈ mm_tb := ⟨mm_inl mm_sg7 (i := 183) (by decide +kernel) (by decide +kernel), mm_inl mm_sg7 (i := 184) (by decide +kernel) (by decide +kernel)⟩
def zX12_isBroken : mm_M := (yX12_isBroken, cX12_isBroken, 2, some .boolean)
theorem mzX12_isBroken : mm_Mz zX12_isBroken 1 := ⟨mm_inl mm_sg7 (i := 189) (by decide +kernel) (by decide +kernel), mm_inl mm_sg1 (i := 14) (by decide +kernel) (by decide +kernel), by decide +kernel, by decide +kernel, by decide +kernel⟩
theorem imX12_isBroken : Cond.instanceMethod zX12_isBroken.1 ∈ mm_tb ∧ Cond.selects zX12_isBroken.1.cls zX12_isBroken.1 zX12_isBroken.1 ∈ mm_tb := ⟨mm_inl mm_sg7 (i := 188) (by decide +kernel) (by decide +kernel), mm_inl mm_sgp (i := 59) (by decide +kernel) (by decide +kernel)⟩
def zX12_feed : mm_M := (yX12_feed, cX12_feed, 6, some .int)
theorem mzX12_feed : mm_Mz zX12_feed 3 := ⟨mm_inl mm_sg7 (i := 193) (by decide +kernel) (by decide +kernel), mm_inl mm_sg1 (i := 14) (by decide +kernel) (by decide +kernel), by decide +kernel, by decide +kernel, by decide +kernel⟩
theorem imX12_feed : Cond.instanceMethod zX12_feed.1 ∈ mm_tb ∧ Cond.selects zX12_feed.1.cls zX12_feed.1 zX12_feed.1 ∈ mm_tb := ⟨mm_inl mm_sg7 (i := 191) (by decide +kernel) (by decide +kernel), mm_inl mm_sg7 (i := 192) (by decide +kernel) (by decide +kernel)⟩
def zX12_trim : mm_M := (yX12_trim, cX12_trim, 2, some .int)
theorem mzX12_trim : mm_Mz zX12_trim 1 := ⟨mm_inl mm_sg7 (i := 197) (by decide +kernel) (by decide +kernel), mm_inl mm_sg1 (i := 14) (by decide +kernel) (by decide +kernel), by decide +kernel, by decide +kernel, by decide +kernel⟩
theorem imX12_trim : Cond.instanceMethod zX12_trim.1 ∈ mm_tb ∧ Cond.selects zX12_trim.1.cls zX12_trim.1 zX12_trim.1 ∈ mm_tb := ⟨mm_inl mm_sg7 (i := 195) (by decide +kernel) (by decide +kernel), mm_inl mm_sg7 (i := 196) (by decide +kernel) (by decide +kernel)⟩
def zX12_program : mm_M := (yX12_program, cX12_program, 4, some .int)
theorem mzX12_program : mm_Mz zX12_program 1 := ⟨mm_inl mm_sg7 (i := 201) (by decide +kernel) (by decide +kernel), mm_inl mm_sg1 (i := 14) (by decide +kernel) (by decide +kernel), by decide +kernel, by decide +kernel, by decide +kernel⟩
theorem imX12_program : Cond.instanceMethod zX12_program.1 ∈ mm_tb ∧ Cond.selects zX12_program.1.cls zX12_program.1 zX12_program.1 ∈ mm_tb := ⟨mm_inl mm_sg7 (i := 199) (by decide +kernel) (by decide +kernel), mm_inl mm_sg7 (i := 200) (by decide +kernel) (by decide +kernel)⟩
def zX12_next : mm_M := (yX12_next, cX12_next, 3, none)
theorem mzX12_next : mm_Mz zX12_next 0 := ⟨mm_inl mm_sg7 (i := 205) (by decide +kernel) (by decide +kernel), mm_inl mm_sg1 (i := 14) (by decide +kernel) (by decide +kernel), by decide +kernel, by decide +kernel, by decide +kernel⟩
theorem imX12_next : Cond.instanceMethod zX12_next.1 ∈ mm_tb ∧ Cond.selects zX12_next.1.cls zX12_next.1 zX12_next.1 ∈ mm_tb := ⟨mm_inl mm_sg7 (i := 204) (by decide +kernel) (by decide +kernel), mm_inl mm_sgp (i := 60) (by decide +kernel) (by decide +kernel)⟩
def zX12_isLetter : mm_M := (yX12_isLetter, cX12_isLetter, 2, some .boolean)
theorem mzX12_isLetter : mm_Mz zX12_isLetter 1 := ⟨mm_inl mm_sg7 (i := 209) (by decide +kernel) (by decide +kernel), mm_inl mm_sg1 (i := 14) (by decide +kernel) (by decide +kernel), by decide +kernel, by decide +kernel, by decide +kernel⟩
theorem imX12_isLetter : Cond.instanceMethod zX12_isLetter.1 ∈ mm_tb ∧ Cond.selects zX12_isLetter.1.cls zX12_isLetter.1 zX12_isLetter.1 ∈ mm_tb := ⟨mm_inl mm_sg7 (i := 208) (by decide +kernel) (by decide +kernel), mm_inl mm_sgp (i := 61) (by decide +kernel) (by decide +kernel)⟩
def zX12_isDigit : mm_M := (yX12_isDigit, cX12_isDigit, 2, some .boolean)
theorem mzX12_isDigit : mm_Mz zX12_isDigit 1 := ⟨mm_inl mm_sg7 (i := 213) (by decide +kernel) (by decide +kernel), mm_inl mm_sg1 (i := 14) (by decide +kernel) (by decide +kernel), by decide +kernel, by decide +kernel, by decide +kernel⟩
theorem imX12_isDigit : Cond.instanceMethod zX12_isDigit.1 ∈ mm_tb ∧ Cond.selects zX12_isDigit.1.cls zX12_isDigit.1 zX12_isDigit.1 ∈ mm_tb := ⟨mm_inl mm_sg7 (i := 212) (by decide +kernel) (by decide +kernel), mm_inl mm_sgp (i := 62) (by decide +kernel) (by decide +kernel)⟩
def zX12_rowOfSteps : mm_M := (yX12_rowOfSteps, cX12_rowOfSteps, 6, some .int)
theorem mzX12_rowOfSteps : mm_Mz zX12_rowOfSteps 1 := ⟨mm_inl mm_sg7 (i := 217) (by decide +kernel) (by decide +kernel), mm_inl mm_sg1 (i := 14) (by decide +kernel) (by decide +kernel), by decide +kernel, by decide +kernel, by decide +kernel⟩
theorem imX12_rowOfSteps : Cond.instanceMethod zX12_rowOfSteps.1 ∈ mm_tb ∧ Cond.selects zX12_rowOfSteps.1.cls zX12_rowOfSteps.1 zX12_rowOfSteps.1 ∈ mm_tb := ⟨mm_inl mm_sg7 (i := 216) (by decide +kernel) (by decide +kernel), mm_inl mm_sgp (i := 63) (by decide +kernel) (by decide +kernel)⟩
def zX12_oneStep : mm_M := (yX12_oneStep, cX12_oneStep, 5, some .int)
theorem mzX12_oneStep : mm_Mz zX12_oneStep 1 := ⟨mm_inl mm_sg7 (i := 221) (by decide +kernel) (by decide +kernel), mm_inl mm_sg1 (i := 14) (by decide +kernel) (by decide +kernel), by decide +kernel, by decide +kernel, by decide +kernel⟩
theorem imX12_oneStep : Cond.instanceMethod zX12_oneStep.1 ∈ mm_tb ∧ Cond.selects zX12_oneStep.1.cls zX12_oneStep.1 zX12_oneStep.1 ∈ mm_tb := ⟨mm_inl mm_sg7 (i := 220) (by decide +kernel) (by decide +kernel), mm_inl mm_sgp (i := 64) (by decide +kernel) (by decide +kernel)⟩
def zX12_wordHere : mm_M := (yX12_wordHere, cX12_wordHere, 3, some .int)
theorem mzX12_wordHere : mm_Mz zX12_wordHere 0 := ⟨mm_inl mm_sg7 (i := 225) (by decide +kernel) (by decide +kernel), mm_inl mm_sg1 (i := 14) (by decide +kernel) (by decide +kernel), by decide +kernel, by decide +kernel, by decide +kernel⟩
theorem imX12_wordHere : Cond.instanceMethod zX12_wordHere.1 ∈ mm_tb ∧ Cond.selects zX12_wordHere.1.cls zX12_wordHere.1 zX12_wordHere.1 ∈ mm_tb := ⟨mm_inl mm_sg7 (i := 224) (by decide +kernel) (by decide +kernel), mm_inl mm_sgp (i := 65) (by decide +kernel) (by decide +kernel)⟩
def zX12_isWord : mm_M := (yX12_isWord, cX12_isWord, 4, some .boolean)
theorem mzX12_isWord : mm_Mz zX12_isWord 1 := ⟨mm_inl mm_sg7 (i := 229) (by decide +kernel) (by decide +kernel), mm_inl mm_sg1 (i := 14) (by decide +kernel) (by decide +kernel), by decide +kernel, by decide +kernel, by decide +kernel⟩
theorem imX12_isWord : Cond.instanceMethod zX12_isWord.1 ∈ mm_tb ∧ Cond.selects zX12_isWord.1.cls zX12_isWord.1 zX12_isWord.1 ∈ mm_tb := ⟨mm_inl mm_sg7 (i := 228) (by decide +kernel) (by decide +kernel), mm_inl mm_sgp (i := 66) (by decide +kernel) (by decide +kernel)⟩
def zX12_step : mm_M := (yX12_step, cX12_step, 3, some .int)
theorem mzX12_step : mm_Mz zX12_step 2 := ⟨mm_inl mm_sg7 (i := 235) (by decide +kernel) (by decide +kernel), mm_inl mm_sg1 (i := 14) (by decide +kernel) (by decide +kernel), by decide +kernel, by decide +kernel, by decide +kernel⟩
theorem imX12_step : Cond.instanceMethod zX12_step.1 ∈ mm_tb ∧ Cond.selects zX12_step.1.cls zX12_step.1 zX12_step.1 ∈ mm_tb := ⟨mm_inl mm_sg7 (i := 234) (by decide +kernel) (by decide +kernel), mm_inl mm_sgp (i := 67) (by decide +kernel) (by decide +kernel)⟩
def zX12_number : mm_M := (yX12_number, cX12_number, 3, some .int)
theorem mzX12_number : mm_Mz zX12_number 0 := ⟨mm_inl mm_sg7 (i := 239) (by decide +kernel) (by decide +kernel), mm_inl mm_sg1 (i := 14) (by decide +kernel) (by decide +kernel), by decide +kernel, by decide +kernel, by decide +kernel⟩
theorem imX12_number : Cond.instanceMethod zX12_number.1 ∈ mm_tb ∧ Cond.selects zX12_number.1.cls zX12_number.1 zX12_number.1 ∈ mm_tb := ⟨mm_inl mm_sg7 (i := 238) (by decide +kernel) (by decide +kernel), mm_inl mm_sgp (i := 68) (by decide +kernel) (by decide +kernel)⟩
def zX12_expression : mm_M := (yX12_expression, cX12_expression, 2, none)
theorem mzX12_expression : mm_Mz zX12_expression 1 := ⟨mm_inl mm_sg8 (i := 3) (by decide +kernel) (by decide +kernel), mm_inl mm_sg1 (i := 14) (by decide +kernel) (by decide +kernel), by decide +kernel, by decide +kernel, by decide +kernel⟩
theorem imX12_expression : Cond.instanceMethod zX12_expression.1 ∈ mm_tb ∧ Cond.selects zX12_expression.1.cls zX12_expression.1 zX12_expression.1 ∈ mm_tb := ⟨mm_inl mm_sg8 (i := 2) (by decide +kernel) (by decide +kernel), mm_inl mm_sgp (i := 69) (by decide +kernel) (by decide +kernel)⟩
def zX12_either : mm_M := (yX12_either, cX12_either, 1, none)
theorem mzX12_either : mm_Mz zX12_either 0 := ⟨mm_inl mm_sg8 (i := 7) (by decide +kernel) (by decide +kernel), mm_inl mm_sg1 (i := 14) (by decide +kernel) (by decide +kernel), by decide +kernel, by decide +kernel, by decide +kernel⟩
theorem imX12_either : Cond.instanceMethod zX12_either.1 ∈ mm_tb ∧ Cond.selects zX12_either.1.cls zX12_either.1 zX12_either.1 ∈ mm_tb := ⟨mm_inl mm_sg8 (i := 6) (by decide +kernel) (by decide +kernel), mm_inl mm_sgp (i := 70) (by decide +kernel) (by decide +kernel)⟩
def zX12_both : mm_M := (yX12_both, cX12_both, 1, none)
theorem mzX12_both : mm_Mz zX12_both 0 := ⟨mm_inl mm_sg8 (i := 11) (by decide +kernel) (by decide +kernel), mm_inl mm_sg1 (i := 14) (by decide +kernel) (by decide +kernel), by decide +kernel, by decide +kernel, by decide +kernel⟩
theorem imX12_both : Cond.instanceMethod zX12_both.1 ∈ mm_tb ∧ Cond.selects zX12_both.1.cls zX12_both.1 zX12_both.1 ∈ mm_tb := ⟨mm_inl mm_sg8 (i := 10) (by decide +kernel) (by decide +kernel), mm_inl mm_sgp (i := 71) (by decide +kernel) (by decide +kernel)⟩
def zX12_test : mm_M := (yX12_test, cX12_test, 2, none)
theorem mzX12_test : mm_Mz zX12_test 0 := ⟨mm_inl mm_sg8 (i := 15) (by decide +kernel) (by decide +kernel), mm_inl mm_sg1 (i := 14) (by decide +kernel) (by decide +kernel), by decide +kernel, by decide +kernel, by decide +kernel⟩
theorem imX12_test : Cond.instanceMethod zX12_test.1 ∈ mm_tb ∧ Cond.selects zX12_test.1.cls zX12_test.1 zX12_test.1 ∈ mm_tb := ⟨mm_inl mm_sg8 (i := 14) (by decide +kernel) (by decide +kernel), mm_inl mm_sgp (i := 72) (by decide +kernel) (by decide +kernel)⟩
def zX12_sum : mm_M := (yX12_sum, cX12_sum, 2, none)
theorem mzX12_sum : mm_Mz zX12_sum 0 := ⟨mm_inl mm_sg8 (i := 19) (by decide +kernel) (by decide +kernel), mm_inl mm_sg1 (i := 14) (by decide +kernel) (by decide +kernel), by decide +kernel, by decide +kernel, by decide +kernel⟩
theorem imX12_sum : Cond.instanceMethod zX12_sum.1 ∈ mm_tb ∧ Cond.selects zX12_sum.1.cls zX12_sum.1 zX12_sum.1 ∈ mm_tb := ⟨mm_inl mm_sg8 (i := 18) (by decide +kernel) (by decide +kernel), mm_inl mm_sgp (i := 73) (by decide +kernel) (by decide +kernel)⟩
def zX12_term : mm_M := (yX12_term, cX12_term, 1, none)
theorem mzX12_term : mm_Mz zX12_term 0 := ⟨mm_inl mm_sg8 (i := 23) (by decide +kernel) (by decide +kernel), mm_inl mm_sg1 (i := 14) (by decide +kernel) (by decide +kernel), by decide +kernel, by decide +kernel, by decide +kernel⟩
theorem imX12_term : Cond.instanceMethod zX12_term.1 ∈ mm_tb ∧ Cond.selects zX12_term.1.cls zX12_term.1 zX12_term.1 ∈ mm_tb := ⟨mm_inl mm_sg8 (i := 22) (by decide +kernel) (by decide +kernel), mm_inl mm_sgp (i := 74) (by decide +kernel) (by decide +kernel)⟩
def zX12_part : mm_M := (yX12_part, cX12_part, 1, none)
theorem mzX12_part : mm_Mz zX12_part 0 := ⟨mm_inl mm_sg8 (i := 27) (by decide +kernel) (by decide +kernel), mm_inl mm_sg1 (i := 14) (by decide +kernel) (by decide +kernel), by decide +kernel, by decide +kernel, by decide +kernel⟩
theorem imX12_part : Cond.instanceMethod zX12_part.1 ∈ mm_tb ∧ Cond.selects zX12_part.1.cls zX12_part.1 zX12_part.1 ∈ mm_tb := ⟨mm_inl mm_sg8 (i := 26) (by decide +kernel) (by decide +kernel), mm_inl mm_sgp (i := 75) (by decide +kernel) (by decide +kernel)⟩
def zX12_code : mm_M := (yX12_code, cX12_code, 3, none)
theorem mzX12_code : mm_Mz zX12_code 1 := ⟨mm_inl mm_sg8 (i := 31) (by decide +kernel) (by decide +kernel), mm_inl mm_sg1 (i := 14) (by decide +kernel) (by decide +kernel), by decide +kernel, by decide +kernel, by decide +kernel⟩
theorem imX12_code : Cond.instanceMethod zX12_code.1 ∈ mm_tb ∧ Cond.selects zX12_code.1.cls zX12_code.1 zX12_code.1 ∈ mm_tb := ⟨mm_inl mm_sg8 (i := 30) (by decide +kernel) (by decide +kernel), mm_inl mm_sgp (i := 76) (by decide +kernel) (by decide +kernel)⟩
def zX12_isSign : mm_M := (yX12_isSign, cX12_isSign, 2, some .boolean)
theorem mzX12_isSign : mm_Mz zX12_isSign 1 := ⟨mm_inl mm_sg8 (i := 37) (by decide +kernel) (by decide +kernel), mm_inl mm_sg1 (i := 14) (by decide +kernel) (by decide +kernel), by decide +kernel, by decide +kernel, by decide +kernel⟩
theorem imX12_isSign : Cond.instanceMethod zX12_isSign.1 ∈ mm_tb ∧ Cond.selects zX12_isSign.1.cls zX12_isSign.1 zX12_isSign.1 ∈ mm_tb := ⟨mm_inl mm_sg8 (i := 36) (by decide +kernel) (by decide +kernel), mm_inl mm_sgp (i := 77) (by decide +kernel) (by decide +kernel)⟩
def zX12_need : mm_M := (yX12_need, cX12_need, 2, none)
theorem mzX12_need : mm_Mz zX12_need 1 := ⟨mm_inl mm_sg8 (i := 41) (by decide +kernel) (by decide +kernel), mm_inl mm_sg1 (i := 14) (by decide +kernel) (by decide +kernel), by decide +kernel, by decide +kernel, by decide +kernel⟩
theorem imX12_need : Cond.instanceMethod zX12_need.1 ∈ mm_tb ∧ Cond.selects zX12_need.1.cls zX12_need.1 zX12_need.1 ∈ mm_tb := ⟨mm_inl mm_sg8 (i := 40) (by decide +kernel) (by decide +kernel), mm_inl mm_sgp (i := 78) (by decide +kernel) (by decide +kernel)⟩
def zX12_signHere : mm_M := (yX12_signHere, cX12_signHere, 5, some .int)
theorem mzX12_signHere : mm_Mz zX12_signHere 2 := ⟨mm_inl mm_sg8 (i := 45) (by decide +kernel) (by decide +kernel), mm_inl mm_sg1 (i := 14) (by decide +kernel) (by decide +kernel), by decide +kernel, by decide +kernel, by decide +kernel⟩
theorem imX12_signHere : Cond.instanceMethod zX12_signHere.1 ∈ mm_tb ∧ Cond.selects zX12_signHere.1.cls zX12_signHere.1 zX12_signHere.1 ∈ mm_tb := ⟨mm_inl mm_sg8 (i := 44) (by decide +kernel) (by decide +kernel), mm_inl mm_sgp (i := 79) (by decide +kernel) (by decide +kernel)⟩
def zX12_inBraces : mm_M := (yX12_inBraces, cX12_inBraces, 3, some .int)
theorem mzX12_inBraces : mm_Mz zX12_inBraces 1 := ⟨mm_inl mm_sg8 (i := 50) (by decide +kernel) (by decide +kernel), mm_inl mm_sg1 (i := 14) (by decide +kernel) (by decide +kernel), by decide +kernel, by decide +kernel, by decide +kernel⟩
theorem imX12_inBraces : Cond.instanceMethod zX12_inBraces.1 ∈ mm_tb ∧ Cond.selects zX12_inBraces.1.cls zX12_inBraces.1 zX12_inBraces.1 ∈ mm_tb := ⟨mm_inl mm_sg8 (i := 49) (by decide +kernel) (by decide +kernel), mm_inl mm_sgp (i := 80) (by decide +kernel) (by decide +kernel)⟩
def zX12_send : mm_M := (yX12_send, cX12_send, 4, some .int)
theorem mzX12_send : mm_Mz zX12_send 2 := ⟨mm_inl mm_sg8 (i := 55) (by decide +kernel) (by decide +kernel), mm_inl mm_sg1 (i := 14) (by decide +kernel) (by decide +kernel), by decide +kernel, by decide +kernel, by decide +kernel⟩
theorem imX12_send : Cond.instanceMethod zX12_send.1 ∈ mm_tb ∧ Cond.selects zX12_send.1.cls zX12_send.1 zX12_send.1 ∈ mm_tb := ⟨mm_inl mm_sg8 (i := 53) (by decide +kernel) (by decide +kernel), mm_inl mm_sg8 (i := 54) (by decide +kernel) (by decide +kernel)⟩
def zX12_isEmpty : mm_M := (yX12_isEmpty, cX12_isEmpty, 2, some .boolean)
theorem mzX12_isEmpty : mm_Mz zX12_isEmpty 1 := ⟨mm_inl mm_sg8 (i := 59) (by decide +kernel) (by decide +kernel), mm_inl mm_sg1 (i := 14) (by decide +kernel) (by decide +kernel), by decide +kernel, by decide +kernel, by decide +kernel⟩
theorem imX12_isEmpty : Cond.instanceMethod zX12_isEmpty.1 ∈ mm_tb ∧ Cond.selects zX12_isEmpty.1.cls zX12_isEmpty.1 zX12_isEmpty.1 ∈ mm_tb := ⟨mm_inl mm_sg8 (i := 58) (by decide +kernel) (by decide +kernel), mm_inl mm_sgp (i := 81) (by decide +kernel) (by decide +kernel)⟩
def zX12_ofOrder : mm_M := (yX12_ofOrder, cX12_ofOrder, 2, some .int)
theorem mzX12_ofOrder : mm_Mz zX12_ofOrder 2 := ⟨mm_inl mm_sg8 (i := 62) (by decide +kernel) (by decide +kernel), mm_inl mm_sg1 (i := 14) (by decide +kernel) (by decide +kernel), by decide +kernel, by decide +kernel, by decide +kernel⟩
theorem imX12_ofOrder : Cond.static zX12_ofOrder.1 ∈ mm_tb := mm_inl mm_sg8 (i := 61) (by decide +kernel) (by decide +kernel)
def zX12_order : mm_M := (yX12_order, cX12_order, 3, some .int)
theorem mzX12_order : mm_Mz zX12_order 2 := ⟨mm_inl mm_sg8 (i := 66) (by decide +kernel) (by decide +kernel), mm_inl mm_sg1 (i := 14) (by decide +kernel) (by decide +kernel), by decide +kernel, by decide +kernel, by decide +kernel⟩
theorem imX12_order : Cond.instanceMethod zX12_order.1 ∈ mm_tb ∧ Cond.selects zX12_order.1.cls zX12_order.1 zX12_order.1 ∈ mm_tb := ⟨mm_inl mm_sg8 (i := 64) (by decide +kernel) (by decide +kernel), mm_inl mm_sg8 (i := 65) (by decide +kernel) (by decide +kernel)⟩
def zX12_run : mm_M := (yX12_run, cX12_run, 3, some .int)
theorem mzX12_run : mm_Mz zX12_run 1 := ⟨mm_inl mm_sg8 (i := 70) (by decide +kernel) (by decide +kernel), mm_inl mm_sg1 (i := 14) (by decide +kernel) (by decide +kernel), by decide +kernel, by decide +kernel, by decide +kernel⟩
theorem imX12_run : Cond.instanceMethod zX12_run.1 ∈ mm_tb ∧ Cond.selects zX12_run.1.cls zX12_run.1 zX12_run.1 ∈ mm_tb := ⟨mm_inl mm_sg8 (i := 68) (by decide +kernel) (by decide +kernel), mm_inl mm_sg8 (i := 69) (by decide +kernel) (by decide +kernel)⟩
def zX12_tick : mm_M := (yX12_tick, cX12_tick, 2, none)
theorem mzX12_tick : mm_Mz zX12_tick 0 := ⟨mm_inl mm_sg8 (i := 74) (by decide +kernel) (by decide +kernel), mm_inl mm_sg1 (i := 14) (by decide +kernel) (by decide +kernel), by decide +kernel, by decide +kernel, by decide +kernel⟩
theorem imX12_tick : Cond.instanceMethod zX12_tick.1 ∈ mm_tb ∧ Cond.selects zX12_tick.1.cls zX12_tick.1 zX12_tick.1 ∈ mm_tb := ⟨mm_inl mm_sg8 (i := 73) (by decide +kernel) (by decide +kernel), mm_inl mm_sgp (i := 82) (by decide +kernel) (by decide +kernel)⟩
def zX12_ordersCome : mm_M := (yX12_ordersCome, cX12_ordersCome, 4, none)
theorem mzX12_ordersCome : mm_Mz zX12_ordersCome 0 := ⟨mm_inl mm_sg8 (i := 78) (by decide +kernel) (by decide +kernel), mm_inl mm_sg1 (i := 14) (by decide +kernel) (by decide +kernel), by decide +kernel, by decide +kernel, by decide +kernel⟩
theorem imX12_ordersCome : Cond.instanceMethod zX12_ordersCome.1 ∈ mm_tb ∧ Cond.selects zX12_ordersCome.1.cls zX12_ordersCome.1 zX12_ordersCome.1 ∈ mm_tb := ⟨mm_inl mm_sg8 (i := 77) (by decide +kernel) (by decide +kernel), mm_inl mm_sgp (i := 83) (by decide +kernel) (by decide +kernel)⟩
def zX12_begin : mm_M := (yX12_begin, cX12_begin, 4, none)
theorem mzX12_begin : mm_Mz zX12_begin 2 := ⟨mm_inl mm_sg8 (i := 82) (by decide +kernel) (by decide +kernel), mm_inl mm_sg1 (i := 14) (by decide +kernel) (by decide +kernel), by decide +kernel, by decide +kernel, by decide +kernel⟩
theorem imX12_begin : Cond.instanceMethod zX12_begin.1 ∈ mm_tb ∧ Cond.selects zX12_begin.1.cls zX12_begin.1 zX12_begin.1 ∈ mm_tb := ⟨mm_inl mm_sg8 (i := 81) (by decide +kernel) (by decide +kernel), mm_inl mm_sgp (i := 84) (by decide +kernel) (by decide +kernel)⟩
def zX12_reportsCome : mm_M := (yX12_reportsCome, cX12_reportsCome, 5, none)
theorem mzX12_reportsCome : mm_Mz zX12_reportsCome 0 := ⟨mm_inl mm_sg8 (i := 86) (by decide +kernel) (by decide +kernel), mm_inl mm_sg1 (i := 14) (by decide +kernel) (by decide +kernel), by decide +kernel, by decide +kernel, by decide +kernel⟩
theorem imX12_reportsCome : Cond.instanceMethod zX12_reportsCome.1 ∈ mm_tb ∧ Cond.selects zX12_reportsCome.1.cls zX12_reportsCome.1 zX12_reportsCome.1 ∈ mm_tb := ⟨mm_inl mm_sg8 (i := 85) (by decide +kernel) (by decide +kernel), mm_inl mm_sgp (i := 85) (by decide +kernel) (by decide +kernel)⟩
def zX12_powerComes : mm_M := (yX12_powerComes, cX12_powerComes, 5, none)
theorem mzX12_powerComes : mm_Mz zX12_powerComes 0 := ⟨mm_inl mm_sg8 (i := 90) (by decide +kernel) (by decide +kernel), mm_inl mm_sg1 (i := 14) (by decide +kernel) (by decide +kernel), by decide +kernel, by decide +kernel, by decide +kernel⟩
theorem imX12_powerComes : Cond.instanceMethod zX12_powerComes.1 ∈ mm_tb ∧ Cond.selects zX12_powerComes.1.cls zX12_powerComes.1 zX12_powerComes.1 ∈ mm_tb := ⟨mm_inl mm_sg8 (i := 89) (by decide +kernel) (by decide +kernel), mm_inl mm_sgp (i := 86) (by decide +kernel) (by decide +kernel)⟩
def zX12_goesOn : mm_M := (yX12_goesOn, cX12_goesOn, 6, none)
theorem mzX12_goesOn : mm_Mz zX12_goesOn 1 := ⟨mm_inl mm_sg8 (i := 94) (by decide +kernel) (by decide +kernel), mm_inl mm_sg1 (i := 14) (by decide +kernel) (by decide +kernel), by decide +kernel, by decide +kernel, by decide +kernel⟩
theorem imX12_goesOn : Cond.instanceMethod zX12_goesOn.1 ∈ mm_tb ∧ Cond.selects zX12_goesOn.1.cls zX12_goesOn.1 zX12_goesOn.1 ∈ mm_tb := ⟨mm_inl mm_sg8 (i := 93) (by decide +kernel) (by decide +kernel), mm_inl mm_sgp (i := 87) (by decide +kernel) (by decide +kernel)⟩
def zX12_ofStep : mm_M := (yX12_ofStep, cX12_ofStep, 4, some .int)
theorem mzX12_ofStep : mm_Mz zX12_ofStep 3 := ⟨mm_inl mm_sg8 (i := 98) (by decide +kernel) (by decide +kernel), mm_inl mm_sg1 (i := 14) (by decide +kernel) (by decide +kernel), by decide +kernel, by decide +kernel, by decide +kernel⟩
theorem imX12_ofStep : Cond.instanceMethod zX12_ofStep.1 ∈ mm_tb ∧ Cond.selects zX12_ofStep.1.cls zX12_ofStep.1 zX12_ofStep.1 ∈ mm_tb := ⟨mm_inl mm_sg8 (i := 97) (by decide +kernel) (by decide +kernel), mm_inl mm_sgp (i := 88) (by decide +kernel) (by decide +kernel)⟩
def zX12_acts : mm_M := (yX12_acts, cX12_acts, 5, some .boolean)
theorem mzX12_acts : mm_Mz zX12_acts 4 := ⟨mm_inl mm_sg8 (i := 102) (by decide +kernel) (by decide +kernel), mm_inl mm_sg1 (i := 14) (by decide +kernel) (by decide +kernel), by decide +kernel, by decide +kernel, by decide +kernel⟩
theorem imX12_acts : Cond.instanceMethod zX12_acts.1 ∈ mm_tb ∧ Cond.selects zX12_acts.1.cls zX12_acts.1 zX12_acts.1 ∈ mm_tb := ⟨mm_inl mm_sg8 (i := 101) (by decide +kernel) (by decide +kernel), mm_inl mm_sgp (i := 89) (by decide +kernel) (by decide +kernel)⟩
def zX12_goes : mm_M := (yX12_goes, cX12_goes, 13, some .boolean)
theorem mzX12_goes : mm_Mz zX12_goes 3 := ⟨mm_inl mm_sg8 (i := 106) (by decide +kernel) (by decide +kernel), mm_inl mm_sg1 (i := 14) (by decide +kernel) (by decide +kernel), by decide +kernel, by decide +kernel, by decide +kernel⟩
theorem imX12_goes : Cond.instanceMethod zX12_goes.1 ∈ mm_tb ∧ Cond.selects zX12_goes.1.cls zX12_goes.1 zX12_goes.1 ∈ mm_tb := ⟨mm_inl mm_sg8 (i := 105) (by decide +kernel) (by decide +kernel), mm_inl mm_sgp (i := 90) (by decide +kernel) (by decide +kernel)⟩
def zX12_behind : mm_M := (yX12_behind, cX12_behind, 4, some .int)
theorem mzX12_behind : mm_Mz zX12_behind 2 := ⟨mm_inl mm_sg8 (i := 110) (by decide +kernel) (by decide +kernel), mm_inl mm_sg1 (i := 14) (by decide +kernel) (by decide +kernel), by decide +kernel, by decide +kernel, by decide +kernel⟩
theorem imX12_behind : Cond.instanceMethod zX12_behind.1 ∈ mm_tb ∧ Cond.selects zX12_behind.1.cls zX12_behind.1 zX12_behind.1 ∈ mm_tb := ⟨mm_inl mm_sg8 (i := 109) (by decide +kernel) (by decide +kernel), mm_inl mm_sgp (i := 91) (by decide +kernel) (by decide +kernel)⟩
def zX12_costs : mm_M := (yX12_costs, cX12_costs, 4, none)
theorem mzX12_costs : mm_Mz zX12_costs 3 := ⟨mm_inl mm_sg8 (i := 114) (by decide +kernel) (by decide +kernel), mm_inl mm_sg1 (i := 14) (by decide +kernel) (by decide +kernel), by decide +kernel, by decide +kernel, by decide +kernel⟩
theorem imX12_costs : Cond.instanceMethod zX12_costs.1 ∈ mm_tb ∧ Cond.selects zX12_costs.1.cls zX12_costs.1 zX12_costs.1 ∈ mm_tb := ⟨mm_inl mm_sg8 (i := 113) (by decide +kernel) (by decide +kernel), mm_inl mm_sgp (i := 92) (by decide +kernel) (by decide +kernel)⟩
def zX12_scoops : mm_M := (yX12_scoops, cX12_scoops, 7, none)
theorem mzX12_scoops : mm_Mz zX12_scoops 1 := ⟨mm_inl mm_sg8 (i := 118) (by decide +kernel) (by decide +kernel), mm_inl mm_sg1 (i := 14) (by decide +kernel) (by decide +kernel), by decide +kernel, by decide +kernel, by decide +kernel⟩
theorem imX12_scoops : Cond.instanceMethod zX12_scoops.1 ∈ mm_tb ∧ Cond.selects zX12_scoops.1.cls zX12_scoops.1 zX12_scoops.1 ∈ mm_tb := ⟨mm_inl mm_sg8 (i := 117) (by decide +kernel) (by decide +kernel), mm_inl mm_sgp (i := 93) (by decide +kernel) (by decide +kernel)⟩
def zX12_drops : mm_M := (yX12_drops, cX12_drops, 5, none)
theorem mzX12_drops : mm_Mz zX12_drops 1 := ⟨mm_inl mm_sg8 (i := 122) (by decide +kernel) (by decide +kernel), mm_inl mm_sg1 (i := 14) (by decide +kernel) (by decide +kernel), by decide +kernel, by decide +kernel, by decide +kernel⟩
theorem imX12_drops : Cond.instanceMethod zX12_drops.1 ∈ mm_tb ∧ Cond.selects zX12_drops.1.cls zX12_drops.1 zX12_drops.1 ∈ mm_tb := ⟨mm_inl mm_sg8 (i := 121) (by decide +kernel) (by decide +kernel), mm_inl mm_sgp (i := 94) (by decide +kernel) (by decide +kernel)⟩
def zX12_fuses : mm_M := (yX12_fuses, cX12_fuses, 4, none)
theorem mzX12_fuses : mm_Mz zX12_fuses 1 := ⟨mm_inl mm_sg8 (i := 126) (by decide +kernel) (by decide +kernel), mm_inl mm_sg1 (i := 14) (by decide +kernel) (by decide +kernel), by decide +kernel, by decide +kernel, by decide +kernel⟩
theorem imX12_fuses : Cond.instanceMethod zX12_fuses.1 ∈ mm_tb ∧ Cond.selects zX12_fuses.1.cls zX12_fuses.1 zX12_fuses.1 ∈ mm_tb := ⟨mm_inl mm_sg8 (i := 125) (by decide +kernel) (by decide +kernel), mm_inl mm_sgp (i := 95) (by decide +kernel) (by decide +kernel)⟩
def zX12_charges : mm_M := (yX12_charges, cX12_charges, 3, none)
theorem mzX12_charges : mm_Mz zX12_charges 1 := ⟨mm_inl mm_sg8 (i := 130) (by decide +kernel) (by decide +kernel), mm_inl mm_sg1 (i := 14) (by decide +kernel) (by decide +kernel), by decide +kernel, by decide +kernel, by decide +kernel⟩
theorem imX12_charges : Cond.instanceMethod zX12_charges.1 ∈ mm_tb ∧ Cond.selects zX12_charges.1.cls zX12_charges.1 zX12_charges.1 ∈ mm_tb := ⟨mm_inl mm_sg8 (i := 129) (by decide +kernel) (by decide +kernel), mm_inl mm_sgp (i := 96) (by decide +kernel) (by decide +kernel)⟩
def zX12_mends : mm_M := (yX12_mends, cX12_mends, 8, none)
theorem mzX12_mends : mm_Mz zX12_mends 1 := ⟨mm_inl mm_sg8 (i := 134) (by decide +kernel) (by decide +kernel), mm_inl mm_sg1 (i := 14) (by decide +kernel) (by decide +kernel), by decide +kernel, by decide +kernel, by decide +kernel⟩
theorem imX12_mends : Cond.instanceMethod zX12_mends.1 ∈ mm_tb ∧ Cond.selects zX12_mends.1.cls zX12_mends.1 zX12_mends.1 ∈ mm_tb := ⟨mm_inl mm_sg8 (i := 133) (by decide +kernel) (by decide +kernel), mm_inl mm_sgp (i := 97) (by decide +kernel) (by decide +kernel)⟩
def zX12_valueOf : mm_M := (yX12_valueOf, cX12_valueOf, 7, some .int)
theorem mzX12_valueOf : mm_Mz zX12_valueOf 3 := ⟨mm_inl mm_sg8 (i := 139) (by decide +kernel) (by decide +kernel), mm_inl mm_sg1 (i := 14) (by decide +kernel) (by decide +kernel), by decide +kernel, by decide +kernel, by decide +kernel⟩
theorem imX12_valueOf : Cond.instanceMethod zX12_valueOf.1 ∈ mm_tb ∧ Cond.selects zX12_valueOf.1.cls zX12_valueOf.1 zX12_valueOf.1 ∈ mm_tb := ⟨mm_inl mm_sg8 (i := 138) (by decide +kernel) (by decide +kernel), mm_inl mm_sgp (i := 98) (by decide +kernel) (by decide +kernel)⟩
def zX12_named : mm_M := (yX12_named, cX12_named, 4, some .int)
theorem mzX12_named : mm_Mz zX12_named 2 := ⟨mm_inl mm_sg8 (i := 143) (by decide +kernel) (by decide +kernel), mm_inl mm_sg1 (i := 14) (by decide +kernel) (by decide +kernel), by decide +kernel, by decide +kernel, by decide +kernel⟩
theorem imX12_named : Cond.instanceMethod zX12_named.1 ∈ mm_tb ∧ Cond.selects zX12_named.1.cls zX12_named.1 zX12_named.1 ∈ mm_tb := ⟨mm_inl mm_sg8 (i := 142) (by decide +kernel) (by decide +kernel), mm_inl mm_sgp (i := 99) (by decide +kernel) (by decide +kernel)⟩
def zX12_done : mm_M := (yX12_done, cX12_done, 3, some .int)
theorem mzX12_done : mm_Mz zX12_done 3 := ⟨mm_inl mm_sg8 (i := 146) (by decide +kernel) (by decide +kernel), mm_inl mm_sg1 (i := 14) (by decide +kernel) (by decide +kernel), by decide +kernel, by decide +kernel, by decide +kernel⟩
theorem imX12_done : Cond.static zX12_done.1 ∈ mm_tb := mm_inl mm_sg8 (i := 145) (by decide +kernel) (by decide +kernel)
def zX12_inner : mm_M := (yX12_inner, cX12_inner, 7, some .int)
theorem mzX12_inner : mm_Mz zX12_inner 4 := ⟨mm_inl mm_sg8 (i := 150) (by decide +kernel) (by decide +kernel), mm_inl mm_sg1 (i := 14) (by decide +kernel) (by decide +kernel), by decide +kernel, by decide +kernel, by decide +kernel⟩
theorem imX12_inner : Cond.instanceMethod zX12_inner.1 ∈ mm_tb ∧ Cond.selects zX12_inner.1.cls zX12_inner.1 zX12_inner.1 ∈ mm_tb := ⟨mm_inl mm_sg8 (i := 149) (by decide +kernel) (by decide +kernel), mm_inl mm_sgp (i := 100) (by decide +kernel) (by decide +kernel)⟩
def zX12_reportsGo : mm_M := (yX12_reportsGo, cX12_reportsGo, 4, none)
theorem mzX12_reportsGo : mm_Mz zX12_reportsGo 0 := ⟨mm_inl mm_sg8 (i := 154) (by decide +kernel) (by decide +kernel), mm_inl mm_sg1 (i := 14) (by decide +kernel) (by decide +kernel), by decide +kernel, by decide +kernel, by decide +kernel⟩
theorem imX12_reportsGo : Cond.instanceMethod zX12_reportsGo.1 ∈ mm_tb ∧ Cond.selects zX12_reportsGo.1.cls zX12_reportsGo.1 zX12_reportsGo.1 ∈ mm_tb := ⟨mm_inl mm_sg8 (i := 153) (by decide +kernel) (by decide +kernel), mm_inl mm_sgp (i := 101) (by decide +kernel) (by decide +kernel)⟩
def zX12_land : mm_M := (yX12_land, cX12_land, 7, some .int)
theorem mzX12_land : mm_Mz zX12_land 2 := ⟨mm_inl mm_sg8 (i := 158) (by decide +kernel) (by decide +kernel), mm_inl mm_sg1 (i := 14) (by decide +kernel) (by decide +kernel), by decide +kernel, by decide +kernel, by decide +kernel⟩
theorem imX12_land : Cond.instanceMethod zX12_land.1 ∈ mm_tb ∧ Cond.selects zX12_land.1.cls zX12_land.1 zX12_land.1 ∈ mm_tb := ⟨mm_inl mm_sg8 (i := 156) (by decide +kernel) (by decide +kernel), mm_inl mm_sg8 (i := 157) (by decide +kernel) (by decide +kernel)⟩
def zX12_apart : mm_M := (yX12_apart, cX12_apart, 3, some .int)
theorem mzX12_apart : mm_Mz zX12_apart 2 := ⟨mm_inl mm_sg8 (i := 162) (by decide +kernel) (by decide +kernel), mm_inl mm_sg1 (i := 14) (by decide +kernel) (by decide +kernel), by decide +kernel, by decide +kernel, by decide +kernel⟩
theorem imX12_apart : Cond.instanceMethod zX12_apart.1 ∈ mm_tb ∧ Cond.selects zX12_apart.1.cls zX12_apart.1 zX12_apart.1 ∈ mm_tb := ⟨mm_inl mm_sg8 (i := 161) (by decide +kernel) (by decide +kernel), mm_inl mm_sgp (i := 102) (by decide +kernel) (by decide +kernel)⟩
def zX12_kilos : mm_M := (yX12_kilos, cX12_kilos, 4, some .int)
theorem mzX12_kilos : mm_Mz zX12_kilos 1 := ⟨mm_inl mm_sg8 (i := 167) (by decide +kernel) (by decide +kernel), mm_inl mm_sg1 (i := 14) (by decide +kernel) (by decide +kernel), by decide +kernel, by decide +kernel, by decide +kernel⟩
theorem imX12_kilos : Cond.instanceMethod zX12_kilos.1 ∈ mm_tb ∧ Cond.selects zX12_kilos.1.cls zX12_kilos.1 zX12_kilos.1 ∈ mm_tb := ⟨mm_inl mm_sg8 (i := 165) (by decide +kernel) (by decide +kernel), mm_inl mm_sg8 (i := 166) (by decide +kernel) (by decide +kernel)⟩
def zX12_kilosOf : mm_M := (yX12_kilosOf, cX12_kilosOf, 4, some .int)
theorem mzX12_kilosOf : mm_Mz zX12_kilosOf 1 := ⟨mm_inl mm_sg8 (i := 171) (by decide +kernel) (by decide +kernel), mm_inl mm_sg1 (i := 14) (by decide +kernel) (by decide +kernel), by decide +kernel, by decide +kernel, by decide +kernel⟩
theorem imX12_kilosOf : Cond.instanceMethod zX12_kilosOf.1 ∈ mm_tb ∧ Cond.selects zX12_kilosOf.1.cls zX12_kilosOf.1 zX12_kilosOf.1 ∈ mm_tb := ⟨mm_inl mm_sg8 (i := 170) (by decide +kernel) (by decide +kernel), mm_inl mm_sgp (i := 103) (by decide +kernel) (by decide +kernel)⟩
def zX12_night : mm_M := (yX12_night, cX12_night, 2, some .int)
theorem mzX12_night : mm_Mz zX12_night 1 := ⟨mm_inl mm_sg8 (i := 175) (by decide +kernel) (by decide +kernel), mm_inl mm_sg1 (i := 14) (by decide +kernel) (by decide +kernel), by decide +kernel, by decide +kernel, by decide +kernel⟩
theorem imX12_night : Cond.instanceMethod zX12_night.1 ∈ mm_tb ∧ Cond.selects zX12_night.1.cls zX12_night.1 zX12_night.1 ∈ mm_tb := ⟨mm_inl mm_sg8 (i := 173) (by decide +kernel) (by decide +kernel), mm_inl mm_sg8 (i := 174) (by decide +kernel) (by decide +kernel)⟩
def zX12_findCut : mm_M := (yX12_findCut, cX12_findCut, 5, some .int)
theorem mzX12_findCut : mm_Mz zX12_findCut 1 := ⟨mm_inl mm_sg8 (i := 179) (by decide +kernel) (by decide +kernel), mm_inl mm_sg1 (i := 14) (by decide +kernel) (by decide +kernel), by decide +kernel, by decide +kernel, by decide +kernel⟩
theorem imX12_findCut : Cond.instanceMethod zX12_findCut.1 ∈ mm_tb ∧ Cond.selects zX12_findCut.1.cls zX12_findCut.1 zX12_findCut.1 ∈ mm_tb := ⟨mm_inl mm_sg8 (i := 178) (by decide +kernel) (by decide +kernel), mm_inl mm_sgp (i := 104) (by decide +kernel) (by decide +kernel)⟩
def zX12_powerBut : mm_M := (yX12_powerBut, cX12_powerBut, 4, some .int)
theorem mzX12_powerBut : mm_Mz zX12_powerBut 1 := ⟨mm_inl mm_sg8 (i := 183) (by decide +kernel) (by decide +kernel), mm_inl mm_sg1 (i := 14) (by decide +kernel) (by decide +kernel), by decide +kernel, by decide +kernel, by decide +kernel⟩
theorem imX12_powerBut : Cond.instanceMethod zX12_powerBut.1 ∈ mm_tb ∧ Cond.selects zX12_powerBut.1.cls zX12_powerBut.1 zX12_powerBut.1 ∈ mm_tb := ⟨mm_inl mm_sg8 (i := 182) (by decide +kernel) (by decide +kernel), mm_inl mm_sgp (i := 105) (by decide +kernel) (by decide +kernel)⟩
def zX12_harmOf : mm_M := (yX12_harmOf, cX12_harmOf, 4, some .int)
theorem mzX12_harmOf : mm_Mz zX12_harmOf 1 := ⟨mm_inl mm_sg8 (i := 187) (by decide +kernel) (by decide +kernel), mm_inl mm_sg1 (i := 14) (by decide +kernel) (by decide +kernel), by decide +kernel, by decide +kernel, by decide +kernel⟩
theorem imX12_harmOf : Cond.instanceMethod zX12_harmOf.1 ∈ mm_tb ∧ Cond.selects zX12_harmOf.1.cls zX12_harmOf.1 zX12_harmOf.1 ∈ mm_tb := ⟨mm_inl mm_sg8 (i := 186) (by decide +kernel) (by decide +kernel), mm_inl mm_sgp (i := 106) (by decide +kernel) (by decide +kernel)⟩
def zX12_many : mm_M := (yX12_many, cX12_many, 3, some .int)
theorem mzX12_many : mm_Mz zX12_many 1 := ⟨mm_inl mm_sg8 (i := 190) (by decide +kernel) (by decide +kernel), mm_inl mm_sg1 (i := 14) (by decide +kernel) (by decide +kernel), by decide +kernel, by decide +kernel, by decide +kernel⟩
theorem imX12_many : Cond.static zX12_many.1 ∈ mm_tb := mm_inl mm_sg8 (i := 189) (by decide +kernel) (by decide +kernel)
def zX12_cut : mm_M := (yX12_cut, cX12_cut, 2, some .int)
theorem mzX12_cut : mm_Mz zX12_cut 1 := ⟨mm_inl mm_sg8 (i := 194) (by decide +kernel) (by decide +kernel), mm_inl mm_sg1 (i := 14) (by decide +kernel) (by decide +kernel), by decide +kernel, by decide +kernel, by decide +kernel⟩
theorem imX12_cut : Cond.instanceMethod zX12_cut.1 ∈ mm_tb ∧ Cond.selects zX12_cut.1.cls zX12_cut.1 zX12_cut.1 ∈ mm_tb := ⟨mm_inl mm_sg8 (i := 192) (by decide +kernel) (by decide +kernel), mm_inl mm_sg8 (i := 193) (by decide +kernel) (by decide +kernel)⟩
def zX12_work : mm_M := (yX12_work, cX12_work, 6, some .int)
theorem mzX12_work : mm_Mz zX12_work 4 := ⟨mm_inl mm_sg8 (i := 198) (by decide +kernel) (by decide +kernel), mm_inl mm_sg1 (i := 14) (by decide +kernel) (by decide +kernel), by decide +kernel, by decide +kernel, by decide +kernel⟩
theorem imX12_work : Cond.instanceMethod zX12_work.1 ∈ mm_tb ∧ Cond.selects zX12_work.1.cls zX12_work.1 zX12_work.1 ∈ mm_tb := ⟨mm_inl mm_sg8 (i := 196) (by decide +kernel) (by decide +kernel), mm_inl mm_sg8 (i := 197) (by decide +kernel) (by decide +kernel)⟩
def zX12_clear : mm_M := (yX12_clear, cX12_clear, 2, some .int)
theorem mzX12_clear : mm_Mz zX12_clear 0 := ⟨mm_inl mm_sg8 (i := 202) (by decide +kernel) (by decide +kernel), mm_inl mm_sg1 (i := 14) (by decide +kernel) (by decide +kernel), by decide +kernel, by decide +kernel, by decide +kernel⟩
theorem imX12_clear : Cond.instanceMethod zX12_clear.1 ∈ mm_tb ∧ Cond.selects zX12_clear.1.cls zX12_clear.1 zX12_clear.1 ∈ mm_tb := ⟨mm_inl mm_sg8 (i := 200) (by decide +kernel) (by decide +kernel), mm_inl mm_sg8 (i := 201) (by decide +kernel) (by decide +kernel)⟩
def zX12_plan : mm_M := (yX12_plan, cX12_plan, 4, some .int)
theorem mzX12_plan : mm_Mz zX12_plan 2 := ⟨mm_inl mm_sg8 (i := 206) (by decide +kernel) (by decide +kernel), mm_inl mm_sg1 (i := 14) (by decide +kernel) (by decide +kernel), by decide +kernel, by decide +kernel, by decide +kernel⟩
theorem imX12_plan : Cond.instanceMethod zX12_plan.1 ∈ mm_tb ∧ Cond.selects zX12_plan.1.cls zX12_plan.1 zX12_plan.1 ∈ mm_tb := ⟨mm_inl mm_sg8 (i := 204) (by decide +kernel) (by decide +kernel), mm_inl mm_sg8 (i := 205) (by decide +kernel) (by decide +kernel)⟩
def zX12_findPlan : mm_M := (yX12_findPlan, cX12_findPlan, 3, some .int)
theorem mzX12_findPlan : mm_Mz zX12_findPlan 2 := ⟨mm_inl mm_sg8 (i := 210) (by decide +kernel) (by decide +kernel), mm_inl mm_sg1 (i := 14) (by decide +kernel) (by decide +kernel), by decide +kernel, by decide +kernel, by decide +kernel⟩
theorem imX12_findPlan : Cond.instanceMethod zX12_findPlan.1 ∈ mm_tb ∧ Cond.selects zX12_findPlan.1.cls zX12_findPlan.1 zX12_findPlan.1 ∈ mm_tb := ⟨mm_inl mm_sg8 (i := 209) (by decide +kernel) (by decide +kernel), mm_inl mm_sgp (i := 107) (by decide +kernel) (by decide +kernel)⟩
def zX12_seek : mm_M := (yX12_seek, cX12_seek, 10, none)
theorem mzX12_seek : mm_Mz zX12_seek 5 := ⟨mm_inl mm_sg8 (i := 214) (by decide +kernel) (by decide +kernel), mm_inl mm_sg1 (i := 14) (by decide +kernel) (by decide +kernel), by decide +kernel, by decide +kernel, by decide +kernel⟩
theorem imX12_seek : Cond.instanceMethod zX12_seek.1 ∈ mm_tb ∧ Cond.selects zX12_seek.1.cls zX12_seek.1 zX12_seek.1 ∈ mm_tb := ⟨mm_inl mm_sg8 (i := 213) (by decide +kernel) (by decide +kernel), mm_inl mm_sgp (i := 108) (by decide +kernel) (by decide +kernel)⟩
def zX12_paid : mm_M := (yX12_paid, cX12_paid, 8, some .int)
theorem mzX12_paid : mm_Mz zX12_paid 4 := ⟨mm_inl mm_sg8 (i := 218) (by decide +kernel) (by decide +kernel), mm_inl mm_sg1 (i := 14) (by decide +kernel) (by decide +kernel), by decide +kernel, by decide +kernel, by decide +kernel⟩
theorem imX12_paid : Cond.instanceMethod zX12_paid.1 ∈ mm_tb ∧ Cond.selects zX12_paid.1.cls zX12_paid.1 zX12_paid.1 ∈ mm_tb := ⟨mm_inl mm_sg8 (i := 217) (by decide +kernel) (by decide +kernel), mm_inl mm_sgp (i := 109) (by decide +kernel) (by decide +kernel)⟩
def zX12_planned : mm_M := (yX12_planned, cX12_planned, 5, some .int)
theorem mzX12_planned : mm_Mz zX12_planned 3 := ⟨mm_inl mm_sg8 (i := 223) (by decide +kernel) (by decide +kernel), mm_inl mm_sg1 (i := 14) (by decide +kernel) (by decide +kernel), by decide +kernel, by decide +kernel, by decide +kernel⟩
theorem imX12_planned : Cond.instanceMethod zX12_planned.1 ∈ mm_tb ∧ Cond.selects zX12_planned.1.cls zX12_planned.1 zX12_planned.1 ∈ mm_tb := ⟨mm_inl mm_sg8 (i := 221) (by decide +kernel) (by decide +kernel), mm_inl mm_sg8 (i := 222) (by decide +kernel) (by decide +kernel)⟩
def zX12_tell : mm_M := (yX12_tell, cX12_tell, 2, some .int)
theorem mzX12_tell : mm_Mz zX12_tell 1 := ⟨mm_inl mm_sg8 (i := 227) (by decide +kernel) (by decide +kernel), mm_inl mm_sg1 (i := 14) (by decide +kernel) (by decide +kernel), by decide +kernel, by decide +kernel, by decide +kernel⟩
theorem imX12_tell : Cond.instanceMethod zX12_tell.1 ∈ mm_tb ∧ Cond.selects zX12_tell.1.cls zX12_tell.1 zX12_tell.1 ∈ mm_tb := ⟨mm_inl mm_sg8 (i := 225) (by decide +kernel) (by decide +kernel), mm_inl mm_sg8 (i := 226) (by decide +kernel) (by decide +kernel)⟩
def zX12_check : mm_M := (yX12_check, cX12_check, 6, some .int)
theorem mzX12_check : mm_Mz zX12_check 2 := ⟨mm_inl mm_sg8 (i := 231) (by decide +kernel) (by decide +kernel), mm_inl mm_sg1 (i := 14) (by decide +kernel) (by decide +kernel), by decide +kernel, by decide +kernel, by decide +kernel⟩
theorem imX12_check : Cond.instanceMethod zX12_check.1 ∈ mm_tb ∧ Cond.selects zX12_check.1.cls zX12_check.1 zX12_check.1 ∈ mm_tb := ⟨mm_inl mm_sg8 (i := 229) (by decide +kernel) (by decide +kernel), mm_inl mm_sg8 (i := 230) (by decide +kernel) (by decide +kernel)⟩
def zX12_holdPlan : mm_M := (yX12_holdPlan, cX12_holdPlan, 9, none)
theorem mzX12_holdPlan : mm_Mz zX12_holdPlan 2 := ⟨mm_inl mm_sg8 (i := 235) (by decide +kernel) (by decide +kernel), mm_inl mm_sg1 (i := 14) (by decide +kernel) (by decide +kernel), by decide +kernel, by decide +kernel, by decide +kernel⟩
theorem imX12_holdPlan : Cond.instanceMethod zX12_holdPlan.1 ∈ mm_tb ∧ Cond.selects zX12_holdPlan.1.cls zX12_holdPlan.1 zX12_holdPlan.1 ∈ mm_tb := ⟨mm_inl mm_sg8 (i := 234) (by decide +kernel) (by decide +kernel), mm_inl mm_sgp (i := 110) (by decide +kernel) (by decide +kernel)⟩
def zX12_hold : mm_M := (yX12_hold, cX12_hold, 3, none)
theorem mzX12_hold : mm_Mz zX12_hold 2 := ⟨mm_inl mm_sg8 (i := 239) (by decide +kernel) (by decide +kernel), mm_inl mm_sg1 (i := 14) (by decide +kernel) (by decide +kernel), by decide +kernel, by decide +kernel, by decide +kernel⟩
theorem imX12_hold : Cond.instanceMethod zX12_hold.1 ∈ mm_tb ∧ Cond.selects zX12_hold.1.cls zX12_hold.1 zX12_hold.1 ∈ mm_tb := ⟨mm_inl mm_sg8 (i := 238) (by decide +kernel) (by decide +kernel), mm_inl mm_sgp (i := 111) (by decide +kernel) (by decide +kernel)⟩
def zX12_keep : mm_M := (yX12_keep, cX12_keep, 2, some .int)
theorem mzX12_keep : mm_Mz zX12_keep 0 := ⟨mm_inl mm_sg9 (i := 3) (by decide +kernel) (by decide +kernel), mm_inl mm_sg1 (i := 14) (by decide +kernel) (by decide +kernel), by decide +kernel, by decide +kernel, by decide +kernel⟩
theorem imX12_keep : Cond.instanceMethod zX12_keep.1 ∈ mm_tb ∧ Cond.selects zX12_keep.1.cls zX12_keep.1 zX12_keep.1 ∈ mm_tb := ⟨mm_inl mm_sg9 (i := 1) (by decide +kernel) (by decide +kernel), mm_inl mm_sg9 (i := 2) (by decide +kernel) (by decide +kernel)⟩
def zX12_back : mm_M := (yX12_back, cX12_back, 2, some .int)
theorem mzX12_back : mm_Mz zX12_back 0 := ⟨mm_inl mm_sg9 (i := 7) (by decide +kernel) (by decide +kernel), mm_inl mm_sg1 (i := 14) (by decide +kernel) (by decide +kernel), by decide +kernel, by decide +kernel, by decide +kernel⟩
theorem imX12_back : Cond.instanceMethod zX12_back.1 ∈ mm_tb ∧ Cond.selects zX12_back.1.cls zX12_back.1 zX12_back.1 ∈ mm_tb := ⟨mm_inl mm_sg9 (i := 5) (by decide +kernel) (by decide +kernel), mm_inl mm_sg9 (i := 6) (by decide +kernel) (by decide +kernel)⟩
def zX12_sheet : mm_M := (yX12_sheet, cX12_sheet, 4, some .int)
theorem mzX12_sheet : mm_Mz zX12_sheet 2 := ⟨mm_inl mm_sg9 (i := 11) (by decide +kernel) (by decide +kernel), mm_inl mm_sg1 (i := 14) (by decide +kernel) (by decide +kernel), by decide +kernel, by decide +kernel, by decide +kernel⟩
theorem imX12_sheet : Cond.instanceMethod zX12_sheet.1 ∈ mm_tb ∧ Cond.selects zX12_sheet.1.cls zX12_sheet.1 zX12_sheet.1 ∈ mm_tb := ⟨mm_inl mm_sg9 (i := 9) (by decide +kernel) (by decide +kernel), mm_inl mm_sg9 (i := 10) (by decide +kernel) (by decide +kernel)⟩
def zX12_mark : mm_M := (yX12_mark, cX12_mark, 5, some .int)
theorem mzX12_mark : mm_Mz zX12_mark 3 := ⟨mm_inl mm_sg9 (i := 16) (by decide +kernel) (by decide +kernel), mm_inl mm_sg1 (i := 14) (by decide +kernel) (by decide +kernel), by decide +kernel, by decide +kernel, by decide +kernel⟩
theorem imX12_mark : Cond.instanceMethod zX12_mark.1 ∈ mm_tb ∧ Cond.selects zX12_mark.1.cls zX12_mark.1 zX12_mark.1 ∈ mm_tb := ⟨mm_inl mm_sg9 (i := 14) (by decide +kernel) (by decide +kernel), mm_inl mm_sg9 (i := 15) (by decide +kernel) (by decide +kernel)⟩
def zX12_copy : mm_M := (yX12_copy, cX12_copy, 7, some .int)
theorem mzX12_copy : mm_Mz zX12_copy 5 := ⟨mm_inl mm_sg9 (i := 21) (by decide +kernel) (by decide +kernel), mm_inl mm_sg1 (i := 14) (by decide +kernel) (by decide +kernel), by decide +kernel, by decide +kernel, by decide +kernel⟩
theorem imX12_copy : Cond.instanceMethod zX12_copy.1 ∈ mm_tb ∧ Cond.selects zX12_copy.1.cls zX12_copy.1 zX12_copy.1 ∈ mm_tb := ⟨mm_inl mm_sg9 (i := 19) (by decide +kernel) (by decide +kernel), mm_inl mm_sg9 (i := 20) (by decide +kernel) (by decide +kernel)⟩
def zX12_count : mm_M := (yX12_count, cX12_count, 4, some .int)
theorem mzX12_count : mm_Mz zX12_count 1 := ⟨mm_inl mm_sg9 (i := 25) (by decide +kernel) (by decide +kernel), mm_inl mm_sg1 (i := 14) (by decide +kernel) (by decide +kernel), by decide +kernel, by decide +kernel, by decide +kernel⟩
theorem imX12_count : Cond.instanceMethod zX12_count.1 ∈ mm_tb ∧ Cond.selects zX12_count.1.cls zX12_count.1 zX12_count.1 ∈ mm_tb := ⟨mm_inl mm_sg9 (i := 23) (by decide +kernel) (by decide +kernel), mm_inl mm_sg9 (i := 24) (by decide +kernel) (by decide +kernel)⟩
theorem cn_X0_9 : Cond.classLink RX0 9 RX5 ∈ mm_tb := mm_inl mm_sg1 (i := 42) (by decide +kernel) (by decide +kernel)
theorem cn_X1_9 : Cond.classLink RX1 9 RX5 ∈ mm_tb := mm_inl mm_sg1 (i := 227) (by decide +kernel) (by decide +kernel)
theorem cn_X2_20 : Cond.classLink RX2 20 RX4 ∈ mm_tb := mm_inl mm_sg2 (i := 152) (by decide +kernel) (by decide +kernel)
theorem cn_X2_27 : Cond.classLink RX2 27 RX5 ∈ mm_tb := mm_inl mm_sg2 (i := 154) (by decide +kernel) (by decide +kernel)
theorem cn_X2_9 : Cond.classLink RX2 9 RX9 ∈ mm_tb := mm_inl mm_sg2 (i := 128) (by decide +kernel) (by decide +kernel)
theorem cn_X3_9 : Cond.classLink RX3 9 RX5 ∈ mm_tb := mm_inl mm_sg1 (i := 132) (by decide +kernel) (by decide +kernel)
theorem cn_X4_9 : Cond.classLink RX4 9 RX5 ∈ mm_tb := mm_inl mm_sg2 (i := 52) (by decide +kernel) (by decide +kernel)
theorem cn_X6_15 : Cond.classLink RX6 15 RX5 ∈ mm_tb := mm_inl mm_sg2 (i := 111) (by decide +kernel) (by decide +kernel)
theorem cn_X7_9 : Cond.classLink RX7 9 RX5 ∈ mm_tb := mm_inl mm_sg2 (i := 185) (by decide +kernel) (by decide +kernel)
theorem cn_X8_18 : Cond.classLink RX8 18 RX3 ∈ mm_tb := mm_inl mm_sg1 (i := 126) (by decide +kernel) (by decide +kernel)
theorem cn_X8_25 : Cond.classLink RX8 25 RX10 ∈ mm_tb := mm_inl mm_sg1 (i := 177) (by decide +kernel) (by decide +kernel)
theorem cn_X8_32 : Cond.classLink RX8 32 RX1 ∈ mm_tb := mm_inl mm_sg1 (i := 220) (by decide +kernel) (by decide +kernel)
theorem cn_X8_43 : Cond.classLink RX8 43 RX4 ∈ mm_tb := mm_inl mm_sg2 (i := 45) (by decide +kernel) (by decide +kernel)
theorem cn_X8_50 : Cond.classLink RX8 50 RX5 ∈ mm_tb := mm_inl mm_sg2 (i := 68) (by decide +kernel) (by decide +kernel)
theorem cn_X8_9 : Cond.classLink RX8 9 RX0 ∈ mm_tb := mm_inl mm_sg1 (i := 36) (by decide +kernel) (by decide +kernel)
theorem cn_X9_15 : Cond.classLink RX9 15 RX5 ∈ mm_tb := mm_inl mm_sg2 (i := 134) (by decide +kernel) (by decide +kernel)
theorem cn_X10_9 : Cond.classLink RX10 9 RX5 ∈ mm_tb := mm_inl mm_sg1 (i := 183) (by decide +kernel) (by decide +kernel)
theorem cn_X11_23 : Cond.classLink RX11 23 RX6 ∈ mm_tb := mm_inl mm_sg2 (i := 105) (by decide +kernel) (by decide +kernel)
theorem cn_X11_32 : Cond.classLink RX11 32 RX5 ∈ mm_tb := mm_inl mm_sg2 (i := 120) (by decide +kernel) (by decide +kernel)
theorem cn_X11_41 : Cond.classLink RX11 41 RX2 ∈ mm_tb := mm_inl mm_sg2 (i := 122) (by decide +kernel) (by decide +kernel)
theorem cn_X11_56 : Cond.classLink RX11 56 RX7 ∈ mm_tb := mm_inl mm_sg2 (i := 179) (by decide +kernel) (by decide +kernel)
theorem cn_X11_7 : Cond.classLink RX11 7 RX8 ∈ mm_tb := mm_inl mm_sg1 (i := 30) (by decide +kernel) (by decide +kernel)
theorem cn_L_10 : Cond.classLink RL 10 RX12 ∈ mm_tb := mm_inl mm_sg6 (i := 190) (by decide +kernel) (by decide +kernel)
theorem cn_L_7 : Cond.classLink RL 7 RX11 ∈ mm_tb := mm_inl mm_sg1 (i := 22) (by decide +kernel) (by decide +kernel)
theorem cn_X12_34 : Cond.classLink RX12 34 RJ0 ∈ mm_tb := mm_inl mm_sg6 (i := 196) (by decide +kernel) (by decide +kernel)
theorem kc_X0_115 : Cond.constant RX0 115 (-1000000005) ∈ mm_tb := mm_inl mm_sg3 (i := 71) (by decide +kernel) (by decide +kernel)
theorem kc_X10_86 : Cond.constant RX10 86 (-1000000004) ∈ mm_tb := mm_inl mm_sg6 (i := 78) (by decide +kernel) (by decide +kernel)
theorem kc_X10_87 : Cond.constant RX10 87 (-1000000002) ∈ mm_tb := mm_inl mm_sg6 (i := 79) (by decide +kernel) (by decide +kernel)
theorem kc_X11_128 : Cond.constant RX11 128 (-1000000011) ∈ mm_tb := mm_inl mm_sg3 (i := 80) (by decide +kernel) (by decide +kernel)
theorem kc_X11_170 : Cond.constant RX11 170 (-1000000003) ∈ mm_tb := mm_inl mm_sg3 (i := 155) (by decide +kernel) (by decide +kernel)
theorem kc_X11_229 : Cond.constant RX11 229 (-1000000005) ∈ mm_tb := mm_inl mm_sg3 (i := 45) (by decide +kernel) (by decide +kernel)
theorem kc_X11_337 : Cond.constant RX11 337 (-1000000014) ∈ mm_tb := mm_inl mm_sg6 (i := 147) (by decide +kernel) (by decide +kernel)
theorem kc_X11_341 : Cond.constant RX11 341 (-1000000013) ∈ mm_tb := mm_inl mm_sg6 (i := 157) (by decide +kernel) (by decide +kernel)
theorem kc_X11_67 : Cond.constant RX11 67 (-1000000001) ∈ mm_tb := mm_inl mm_sg2 (i := 232) (by decide +kernel) (by decide +kernel)
theorem kc_X11_90 : Cond.constant RX11 90 (-1000000002) ∈ mm_tb := mm_inl mm_sg3 (i := 19) (by decide +kernel) (by decide +kernel)
theorem kc_X12_100 : Cond.constant RX12 100 (-1000000005) ∈ mm_tb := mm_inl mm_sg7 (i := 103) (by decide +kernel) (by decide +kernel)
theorem kc_X12_105 : Cond.constant RX12 105 (-1000000011) ∈ mm_tb := mm_inl mm_sg7 (i := 120) (by decide +kernel) (by decide +kernel)
theorem kc_X12_121 : Cond.constant RX12 121 (-1000000003) ∈ mm_tb := mm_inl mm_sg7 (i := 149) (by decide +kernel) (by decide +kernel)
theorem kc_X12_366 : Cond.constant RX12 366 (-1000000004) ∈ mm_tb := mm_inl mm_sg8 (i := 219) (by decide +kernel) (by decide +kernel)
theorem kc_X12_388 : Cond.constant RX12 388 (-1000000014) ∈ mm_tb := mm_inl mm_sg9 (i := 12) (by decide +kernel) (by decide +kernel)
theorem kc_X12_389 : Cond.constant RX12 389 (-1000000013) ∈ mm_tb := mm_inl mm_sg9 (i := 17) (by decide +kernel) (by decide +kernel)
theorem kc_X12_86 : Cond.constant RX12 86 (-1000000001) ∈ mm_tb := mm_inl mm_sg7 (i := 74) (by decide +kernel) (by decide +kernel)
theorem kc_X12_99 : Cond.constant RX12 99 (-1000000002) ∈ mm_tb := mm_inl mm_sg7 (i := 94) (by decide +kernel) (by decide +kernel)
theorem kc_J11_110 : Cond.constant RJ11 110 (55232) ∈ mm_tb := mm_inl mm_sg4 (i := 100) (by decide +kernel) (by decide +kernel)
theorem kc_J11_76 : Cond.constant RJ11 76 (56320) ∈ mm_tb := mm_inl mm_sg4 (i := 104) (by decide +kernel) (by decide +kernel)
theorem kc_J6_265 : Cond.constant RJ6 265 (1431655765) ∈ mm_tb := mm_inl mm_sg6 (i := 13) (by decide +kernel) (by decide +kernel)
theorem kc_J6_266 : Cond.constant RJ6 266 (858993459) ∈ mm_tb := mm_inl mm_sg6 (i := 14) (by decide +kernel) (by decide +kernel)
theorem kc_J6_267 : Cond.constant RJ6 267 (252645135) ∈ mm_tb := mm_inl mm_sg6 (i := 15) (by decide +kernel) (by decide +kernel)
theorem kc_J2_227 : Cond.constant RJ2 227 (65536) ∈ mm_tb := mm_inl mm_sg4 (i := 61) (by decide +kernel) (by decide +kernel)
theorem ml_X0_102 : Cond.methodLink RX0 102 zX5_size.1 ∈ mm_tb := mm_inl mm_sg3 (i := 117) (by decide +kernel) (by decide +kernel)
theorem ml_X0_105 : Cond.methodLink RX0 105 zX0_beside.1 ∈ mm_tb := mm_inl mm_sg3 (i := 118) (by decide +kernel) (by decide +kernel)
theorem ml_X0_109 : Cond.methodLink RX0 109 zX0_measure.1 ∈ mm_tb := mm_inl mm_sg5 (i := 152) (by decide +kernel) (by decide +kernel)
theorem ml_X0_11 : Cond.methodLink RX0 11 zX5_init.1 ∈ mm_tb := mm_inl mm_sg1 (i := 44) (by decide +kernel) (by decide +kernel)
theorem ml_X0_112 : Cond.methodLink RX0 112 zX0_apart.1 ∈ mm_tb := mm_inl mm_sg5 (i := 213) (by decide +kernel) (by decide +kernel)
theorem ml_X0_3 : Cond.methodLink RX0 3 Lib.objectInit ∈ mm_tb := mm_inl mm_sg1 (i := 41) (by decide +kernel) (by decide +kernel)
theorem ml_X0_38 : Cond.methodLink RX0 38 zX0_begin.1 ∈ mm_tb := mm_inl mm_sg1 (i := 59) (by decide +kernel) (by decide +kernel)
theorem ml_X0_49 : Cond.methodLink RX0 49 zX0_cells.1 ∈ mm_tb := mm_inl mm_sg1 (i := 63) (by decide +kernel) (by decide +kernel)
theorem ml_X0_53 : Cond.methodLink RX0 53 zX5_fill.1 ∈ mm_tb := mm_inl mm_sg1 (i := 67) (by decide +kernel) (by decide +kernel)
theorem ml_X0_56 : Cond.methodLink RX0 56 zX5_set.1 ∈ mm_tb := mm_inl mm_sg1 (i := 74) (by decide +kernel) (by decide +kernel)
theorem ml_X0_65 : Cond.methodLink RX0 65 zX5_become.1 ∈ mm_tb := mm_inl mm_sg6 (i := 121) (by decide +kernel) (by decide +kernel)
theorem ml_X0_73 : Cond.methodLink RX0 73 zX5_at.1 ∈ mm_tb := mm_inl mm_sg3 (i := 56) (by decide +kernel) (by decide +kernel)
theorem ml_X0_81 : Cond.methodLink RX0 81 zX0_column.1 ∈ mm_tb := mm_inl mm_sg3 (i := 122) (by decide +kernel) (by decide +kernel)
theorem ml_X0_84 : Cond.methodLink RX0 84 zX0_line.1 ∈ mm_tb := mm_inl mm_sg3 (i := 126) (by decide +kernel) (by decide +kernel)
theorem ml_X0_87 : Cond.methodLink RX0 87 Lib.Math.abs.name ∈ mm_tb := mm_inl mm_sg5 (i := 217) (by decide +kernel) (by decide +kernel)
theorem ml_X0_92 : Cond.methodLink RX0 92 zX5_shorten.1 ∈ mm_tb := mm_inl mm_sg3 (i := 108) (by decide +kernel) (by decide +kernel)
theorem ml_X0_95 : Cond.methodLink RX0 95 zX0_isOpen.1 ∈ mm_tb := mm_inl mm_sg3 (i := 109) (by decide +kernel) (by decide +kernel)
theorem ml_X0_99 : Cond.methodLink RX0 99 zX5_add.1 ∈ mm_tb := mm_inl mm_sg3 (i := 113) (by decide +kernel) (by decide +kernel)
theorem ml_X1_13 : Cond.methodLink RX1 13 zX5_init.1 ∈ mm_tb := mm_inl mm_sg1 (i := 228) (by decide +kernel) (by decide +kernel)
theorem ml_X1_22 : Cond.methodLink RX1 22 zX1_begin.1 ∈ mm_tb := mm_inl mm_sg1 (i := 229) (by decide +kernel) (by decide +kernel)
theorem ml_X1_3 : Cond.methodLink RX1 3 Lib.objectInit ∈ mm_tb := mm_inl mm_sg1 (i := 226) (by decide +kernel) (by decide +kernel)
theorem ml_X1_45 : Cond.methodLink RX1 45 zX1_beginScript.1 ∈ mm_tb := mm_inl mm_sg1 (i := 233) (by decide +kernel) (by decide +kernel)
theorem ml_X1_54 : Cond.methodLink RX1 54 zX5_become.1 ∈ mm_tb := mm_inl mm_sg6 (i := 135) (by decide +kernel) (by decide +kernel)
theorem ml_X1_66 : Cond.methodLink RX1 66 zX5_fill.1 ∈ mm_tb := mm_inl mm_sg1 (i := 237) (by decide +kernel) (by decide +kernel)
theorem ml_X1_69 : Cond.methodLink RX1 69 Lib.Math.min.name ∈ mm_tb := mm_inl mm_sg5 (i := 85) (by decide +kernel) (by decide +kernel)
theorem ml_X1_75 : Cond.methodLink RX1 75 Lib.Math.max.name ∈ mm_tb := mm_inl mm_sg5 (i := 163) (by decide +kernel) (by decide +kernel)
theorem ml_X1_78 : Cond.methodLink RX1 78 zX1_addWear.1 ∈ mm_tb := mm_inl mm_sg5 (i := 164) (by decide +kernel) (by decide +kernel)
theorem ml_X2_101 : Cond.methodLink RX2 101 zX4_code.1 ∈ mm_tb := mm_inl mm_sg4 (i := 175) (by decide +kernel) (by decide +kernel)
theorem ml_X2_104 : Cond.methodLink RX2 104 zX4_addAct.1 ∈ mm_tb := mm_inl mm_sg4 (i := 180) (by decide +kernel) (by decide +kernel)
theorem ml_X2_108 : Cond.methodLink RX2 108 zX4_leadPast.1 ∈ mm_tb := mm_inl mm_sg4 (i := 190) (by decide +kernel) (by decide +kernel)
theorem ml_X2_11 : Cond.methodLink RX2 11 zX9_init.1 ∈ mm_tb := mm_inl mm_sg2 (i := 130) (by decide +kernel) (by decide +kernel)
theorem ml_X2_111 : Cond.methodLink RX2 111 zX2_openBlock.1 ∈ mm_tb := mm_inl mm_sg4 (i := 195) (by decide +kernel) (by decide +kernel)
theorem ml_X2_117 : Cond.methodLink RX2 117 zX2_readGo.1 ∈ mm_tb := mm_inl mm_sg4 (i := 208) (by decide +kernel) (by decide +kernel)
theorem ml_X2_120 : Cond.methodLink RX2 120 zX2_readTest.1 ∈ mm_tb := mm_inl mm_sg4 (i := 220) (by decide +kernel) (by decide +kernel)
theorem ml_X2_123 : Cond.methodLink RX2 123 zX2_readNumber.1 ∈ mm_tb := mm_inl mm_sg4 (i := 212) (by decide +kernel) (by decide +kernel)
theorem ml_X2_129 : Cond.methodLink RX2 129 zX2_readSides.1 ∈ mm_tb := mm_inl mm_sg4 (i := 224) (by decide +kernel) (by decide +kernel)
theorem ml_X2_133 : Cond.methodLink RX2 133 zX2_readPart.1 ∈ mm_tb := mm_inl mm_sg4 (i := 228) (by decide +kernel) (by decide +kernel)
theorem ml_X2_137 : Cond.methodLink RX2 137 zX2_looseness.1 ∈ mm_tb := mm_inl mm_sg4 (i := 232) (by decide +kernel) (by decide +kernel)
theorem ml_X2_22 : Cond.methodLink RX2 22 zX4_init.1 ∈ mm_tb := mm_inl mm_sg2 (i := 153) (by decide +kernel) (by decide +kernel)
theorem ml_X2_29 : Cond.methodLink RX2 29 zX5_init.1 ∈ mm_tb := mm_inl mm_sg2 (i := 155) (by decide +kernel) (by decide +kernel)
theorem ml_X2_3 : Cond.methodLink RX2 3 Lib.objectInit ∈ mm_tb := mm_inl mm_sg2 (i := 127) (by decide +kernel) (by decide +kernel)
theorem ml_X2_36 : Cond.methodLink RX2 36 zX9_split.1 ∈ mm_tb := mm_inl mm_sg3 (i := 235) (by decide +kernel) (by decide +kernel)
theorem ml_X2_39 : Cond.methodLink RX2 39 zX4_empty.1 ∈ mm_tb := mm_inl mm_sg4 (i := 151) (by decide +kernel) (by decide +kernel)
theorem ml_X2_42 : Cond.methodLink RX2 42 zX5_shorten.1 ∈ mm_tb := mm_inl mm_sg4 (i := 156) (by decide +kernel) (by decide +kernel)
theorem ml_X2_56 : Cond.methodLink RX2 56 zX5_at.1 ∈ mm_tb := mm_inl mm_sg4 (i := 157) (by decide +kernel) (by decide +kernel)
theorem ml_X2_65 : Cond.methodLink RX2 65 zX2_isOver.1 ∈ mm_tb := mm_inl mm_sg4 (i := 158) (by decide +kernel) (by decide +kernel)
theorem ml_X2_69 : Cond.methodLink RX2 69 zX5_size.1 ∈ mm_tb := mm_inl mm_sg4 (i := 162) (by decide +kernel) (by decide +kernel)
theorem ml_X2_73 : Cond.methodLink RX2 73 zX2_closeBlock.1 ∈ mm_tb := mm_inl mm_sg4 (i := 163) (by decide +kernel) (by decide +kernel)
theorem ml_X2_76 : Cond.methodLink RX2 76 zX2_readOne.1 ∈ mm_tb := mm_inl mm_sg4 (i := 204) (by decide +kernel) (by decide +kernel)
theorem ml_X2_82 : Cond.methodLink RX2 82 zX2_advance.1 ∈ mm_tb := mm_inl mm_sg4 (i := 167) (by decide +kernel) (by decide +kernel)
theorem ml_X2_85 : Cond.methodLink RX2 85 zX2_fail.1 ∈ mm_tb := mm_inl mm_sg4 (i := 200) (by decide +kernel) (by decide +kernel)
theorem ml_X2_91 : Cond.methodLink RX2 91 zX2_expect.1 ∈ mm_tb := mm_inl mm_sg4 (i := 216) (by decide +kernel) (by decide +kernel)
theorem ml_X2_94 : Cond.methodLink RX2 94 zX5_add.1 ∈ mm_tb := mm_inl mm_sg4 (i := 199) (by decide +kernel) (by decide +kernel)
theorem ml_X2_98 : Cond.methodLink RX2 98 zX5_pop.1 ∈ mm_tb := mm_inl mm_sg4 (i := 171) (by decide +kernel) (by decide +kernel)
theorem ml_X3_11 : Cond.methodLink RX3 11 zX5_init.1 ∈ mm_tb := mm_inl mm_sg1 (i := 133) (by decide +kernel) (by decide +kernel)
theorem ml_X3_3 : Cond.methodLink RX3 3 Lib.objectInit ∈ mm_tb := mm_inl mm_sg1 (i := 131) (by decide +kernel) (by decide +kernel)
theorem ml_X3_48 : Cond.methodLink RX3 48 zX5_become.1 ∈ mm_tb := mm_inl mm_sg6 (i := 126) (by decide +kernel) (by decide +kernel)
theorem ml_X3_52 : Cond.methodLink RX3 52 zX3_hour.1 ∈ mm_tb := mm_inl mm_sg3 (i := 170) (by decide +kernel) (by decide +kernel)
theorem ml_X3_56 : Cond.methodLink RX3 56 zX5_size.1 ∈ mm_tb := mm_inl mm_sg3 (i := 154) (by decide +kernel) (by decide +kernel)
theorem ml_X3_59 : Cond.methodLink RX3 59 zX5_add.1 ∈ mm_tb := mm_inl mm_sg3 (i := 160) (by decide +kernel) (by decide +kernel)
theorem ml_X3_63 : Cond.methodLink RX3 63 zX3_loads.1 ∈ mm_tb := mm_inl mm_sg3 (i := 161) (by decide +kernel) (by decide +kernel)
theorem ml_X3_66 : Cond.methodLink RX3 66 zX5_at.1 ∈ mm_tb := mm_inl mm_sg5 (i := 94) (by decide +kernel) (by decide +kernel)
theorem ml_X3_70 : Cond.methodLink RX3 70 Lib.Math.min.name ∈ mm_tb := mm_inl mm_sg5 (i := 75) (by decide +kernel) (by decide +kernel)
theorem ml_X3_76 : Cond.methodLink RX3 76 zX3_taken.1 ∈ mm_tb := mm_inl mm_sg5 (i := 90) (by decide +kernel) (by decide +kernel)
theorem ml_X3_79 : Cond.methodLink RX3 79 zX3_leastHarmful.1 ∈ mm_tb := mm_inl mm_sg5 (i := 95) (by decide +kernel) (by decide +kernel)
theorem ml_X3_82 : Cond.methodLink RX3 82 zX3_harmOf.1 ∈ mm_tb := mm_inl mm_sg5 (i := 100) (by decide +kernel) (by decide +kernel)
theorem ml_X3_85 : Cond.methodLink RX3 85 Lib.Math.max.name ∈ mm_tb := mm_inl mm_sg5 (i := 99) (by decide +kernel) (by decide +kernel)
theorem ml_X3_88 : Cond.methodLink RX3 88 zX3_isMilder.1 ∈ mm_tb := mm_inl mm_sg6 (i := 6) (by decide +kernel) (by decide +kernel)
theorem ml_X3_92 : Cond.methodLink RX3 92 yJ6_bitCount_0f7a4 ∈ mm_tb := mm_inl mm_sg6 (i := 10) (by decide +kernel) (by decide +kernel)
theorem ml_X3_97 : Cond.methodLink RX3 97 zX3_leastCut.1 ∈ mm_tb := mm_inl mm_sg6 (i := 104) (by decide +kernel) (by decide +kernel)
theorem ml_X4_13 : Cond.methodLink RX4 13 zX5_init.1 ∈ mm_tb := mm_inl mm_sg2 (i := 53) (by decide +kernel) (by decide +kernel)
theorem ml_X4_27 : Cond.methodLink RX4 27 zX5_shorten.1 ∈ mm_tb := mm_inl mm_sg4 (i := 155) (by decide +kernel) (by decide +kernel)
theorem ml_X4_3 : Cond.methodLink RX4 3 Lib.objectInit ∈ mm_tb := mm_inl mm_sg2 (i := 51) (by decide +kernel) (by decide +kernel)
theorem ml_X4_30 : Cond.methodLink RX4 30 zX5_become.1 ∈ mm_tb := mm_inl mm_sg5 (i := 5) (by decide +kernel) (by decide +kernel)
theorem ml_X4_34 : Cond.methodLink RX4 34 zX5_size.1 ∈ mm_tb := mm_inl mm_sg4 (i := 189) (by decide +kernel) (by decide +kernel)
theorem ml_X4_38 : Cond.methodLink RX4 38 zX5_at.1 ∈ mm_tb := mm_inl mm_sg4 (i := 179) (by decide +kernel) (by decide +kernel)
theorem ml_X4_42 : Cond.methodLink RX4 42 zX5_add.1 ∈ mm_tb := mm_inl mm_sg4 (i := 184) (by decide +kernel) (by decide +kernel)
theorem ml_X4_46 : Cond.methodLink RX4 46 zX4_length.1 ∈ mm_tb := mm_inl mm_sg4 (i := 185) (by decide +kernel) (by decide +kernel)
theorem ml_X4_49 : Cond.methodLink RX4 49 zX5_set.1 ∈ mm_tb := mm_inl mm_sg4 (i := 194) (by decide +kernel) (by decide +kernel)
theorem ml_X5_1 : Cond.methodLink RX5 1 Lib.objectInit ∈ mm_tb := mm_inl mm_sg1 (i := 47) (by decide +kernel) (by decide +kernel)
theorem ml_X5_23 : Cond.methodLink RX5 23 zX5_at.1 ∈ mm_tb := mm_inl mm_sg3 (i := 24) (by decide +kernel) (by decide +kernel)
theorem ml_X5_27 : Cond.methodLink RX5 27 zX5_set.1 ∈ mm_tb := mm_inl mm_sg3 (i := 28) (by decide +kernel) (by decide +kernel)
theorem ml_X5_31 : Cond.methodLink RX5 31 Lib.Math.min.name ∈ mm_tb := mm_inl mm_sg1 (i := 71) (by decide +kernel) (by decide +kernel)
theorem ml_X5_34 : Cond.methodLink RX5 34 arraycopyName ∈ mm_tb := mm_inl mm_sg5 (i := 9) (by decide +kernel) (by decide +kernel)
theorem ml_X5_7 : Cond.methodLink RX5 7 Lib.Math.max.name ∈ mm_tb := mm_inl mm_sg1 (i := 48) (by decide +kernel) (by decide +kernel)
theorem ml_X6_100 : Cond.methodLink RX6 100 zX1_beginScript.1 ∈ mm_tb := mm_inl mm_sg5 (i := 56) (by decide +kernel) (by decide +kernel)
theorem ml_X6_112 : Cond.methodLink RX6 112 zX0_learn.1 ∈ mm_tb := mm_inl mm_sg5 (i := 66) (by decide +kernel) (by decide +kernel)
theorem ml_X6_118 : Cond.methodLink RX6 118 zX1_isBroken.1 ∈ mm_tb := mm_inl mm_sg5 (i := 80) (by decide +kernel) (by decide +kernel)
theorem ml_X6_121 : Cond.methodLink RX6 121 zX1_addCharge.1 ∈ mm_tb := mm_inl mm_sg5 (i := 81) (by decide +kernel) (by decide +kernel)
theorem ml_X6_139 : Cond.methodLink RX6 139 zX5_add.1 ∈ mm_tb := mm_inl mm_sg5 (i := 127) (by decide +kernel) (by decide +kernel)
theorem ml_X6_151 : Cond.methodLink RX6 151 zX4_length.1 ∈ mm_tb := mm_inl mm_sg5 (i := 108) (by decide +kernel) (by decide +kernel)
theorem ml_X6_154 : Cond.methodLink RX6 154 zX6_steer.1 ∈ mm_tb := mm_inl mm_sg5 (i := 109) (by decide +kernel) (by decide +kernel)
theorem ml_X6_158 : Cond.methodLink RX6 158 zX4_code.1 ∈ mm_tb := mm_inl mm_sg5 (i := 121) (by decide +kernel) (by decide +kernel)
theorem ml_X6_161 : Cond.methodLink RX6 161 zX4_first.1 ∈ mm_tb := mm_inl mm_sg5 (i := 113) (by decide +kernel) (by decide +kernel)
theorem ml_X6_164 : Cond.methodLink RX6 164 zX4_second.1 ∈ mm_tb := mm_inl mm_sg5 (i := 117) (by decide +kernel) (by decide +kernel)
theorem ml_X6_167 : Cond.methodLink RX6 167 zX6_go.1 ∈ mm_tb := mm_inl mm_sg5 (i := 144) (by decide +kernel) (by decide +kernel)
theorem ml_X6_17 : Cond.methodLink RX6 17 zX5_init.1 ∈ mm_tb := mm_inl mm_sg2 (i := 112) (by decide +kernel) (by decide +kernel)
theorem ml_X6_171 : Cond.methodLink RX6 171 zX6_labour.1 ∈ mm_tb := mm_inl mm_sg5 (i := 168) (by decide +kernel) (by decide +kernel)
theorem ml_X6_177 : Cond.methodLink RX6 177 zX5_set.1 ∈ mm_tb := mm_inl mm_sg5 (i := 122) (by decide +kernel) (by decide +kernel)
theorem ml_X6_181 : Cond.methodLink RX6 181 zX6_worth.1 ∈ mm_tb := mm_inl mm_sg5 (i := 123) (by decide +kernel) (by decide +kernel)
theorem ml_X6_185 : Cond.methodLink RX6 185 zX6_isAt.1 ∈ mm_tb := mm_inl mm_sg5 (i := 140) (by decide +kernel) (by decide +kernel)
theorem ml_X6_189 : Cond.methodLink RX6 189 zX0_column.1 ∈ mm_tb := mm_inl mm_sg5 (i := 135) (by decide +kernel) (by decide +kernel)
theorem ml_X6_192 : Cond.methodLink RX6 192 zX0_line.1 ∈ mm_tb := mm_inl mm_sg5 (i := 136) (by decide +kernel) (by decide +kernel)
theorem ml_X6_195 : Cond.methodLink RX6 195 zX6_scoop.1 ∈ mm_tb := mm_inl mm_sg5 (i := 172) (by decide +kernel) (by decide +kernel)
theorem ml_X6_198 : Cond.methodLink RX6 198 zX6_drop.1 ∈ mm_tb := mm_inl mm_sg5 (i := 179) (by decide +kernel) (by decide +kernel)
theorem ml_X6_201 : Cond.methodLink RX6 201 zX6_fuse.1 ∈ mm_tb := mm_inl mm_sg5 (i := 183) (by decide +kernel) (by decide +kernel)
theorem ml_X6_204 : Cond.methodLink RX6 204 zX6_charge.1 ∈ mm_tb := mm_inl mm_sg5 (i := 187) (by decide +kernel) (by decide +kernel)
theorem ml_X6_206 : Cond.methodLink RX6 206 zX6_mend.1 ∈ mm_tb := mm_inl mm_sg5 (i := 191) (by decide +kernel) (by decide +kernel)
theorem ml_X6_215 : Cond.methodLink RX6 215 zX0_stepTowards.1 ∈ mm_tb := mm_inl mm_sg5 (i := 148) (by decide +kernel) (by decide +kernel)
theorem ml_X6_219 : Cond.methodLink RX6 219 zX6_stepOnto.1 ∈ mm_tb := mm_inl mm_sg5 (i := 153) (by decide +kernel) (by decide +kernel)
theorem ml_X6_222 : Cond.methodLink RX6 222 zX0_isA.1 ∈ mm_tb := mm_inl mm_sg5 (i := 157) (by decide +kernel) (by decide +kernel)
theorem ml_X6_226 : Cond.methodLink RX6 226 zX8_machineOn.1 ∈ mm_tb := mm_inl mm_sg5 (i := 158) (by decide +kernel) (by decide +kernel)
theorem ml_X6_229 : Cond.methodLink RX6 229 zX1_pay.1 ∈ mm_tb := mm_inl mm_sg5 (i := 159) (by decide +kernel) (by decide +kernel)
theorem ml_X6_238 : Cond.methodLink RX6 238 zX1_isA.1 ∈ mm_tb := mm_inl mm_sg5 (i := 176) (by decide +kernel) (by decide +kernel)
theorem ml_X6_24 : Cond.methodLink RX6 24 zX6_bringOrders.1 ∈ mm_tb := mm_inl mm_sg5 (i := 43) (by decide +kernel) (by decide +kernel)
theorem ml_X6_240 : Cond.methodLink RX6 240 zX0_kilosOf.1 ∈ mm_tb := mm_inl mm_sg5 (i := 177) (by decide +kernel) (by decide +kernel)
theorem ml_X6_244 : Cond.methodLink RX6 244 Lib.Math.min.name ∈ mm_tb := mm_inl mm_sg5 (i := 178) (by decide +kernel) (by decide +kernel)
theorem ml_X6_258 : Cond.methodLink RX6 258 zX6_mostWornBeside.1 ∈ mm_tb := mm_inl mm_sg5 (i := 195) (by decide +kernel) (by decide +kernel)
theorem ml_X6_264 : Cond.methodLink RX6 264 Lib.Math.max.name ∈ mm_tb := mm_inl mm_sg5 (i := 200) (by decide +kernel) (by decide +kernel)
theorem ml_X6_267 : Cond.methodLink RX6 267 zX0_beside.1 ∈ mm_tb := mm_inl mm_sg5 (i := 199) (by decide +kernel) (by decide +kernel)
theorem ml_X6_27 : Cond.methodLink RX6 27 zX6_bringReports.1 ∈ mm_tb := mm_inl mm_sg5 (i := 62) (by decide +kernel) (by decide +kernel)
theorem ml_X6_273 : Cond.methodLink RX6 273 zX5_pop.1 ∈ mm_tb := mm_inl mm_sg5 (i := 128) (by decide +kernel) (by decide +kernel)
theorem ml_X6_280 : Cond.methodLink RX6 280 zX6_sense.1 ∈ mm_tb := mm_inl mm_sg5 (i := 130) (by decide +kernel) (by decide +kernel)
theorem ml_X6_284 : Cond.methodLink RX6 284 zX6_join.1 ∈ mm_tb := mm_inl mm_sg5 (i := 137) (by decide +kernel) (by decide +kernel)
theorem ml_X6_288 : Cond.methodLink RX6 288 zX3_hour.1 ∈ mm_tb := mm_inl mm_sg5 (i := 134) (by decide +kernel) (by decide +kernel)
theorem ml_X6_3 : Cond.methodLink RX6 3 Lib.objectInit ∈ mm_tb := mm_inl mm_sg2 (i := 110) (by decide +kernel) (by decide +kernel)
theorem ml_X6_36 : Cond.methodLink RX6 36 zX3_isLight.1 ∈ mm_tb := mm_inl mm_sg5 (i := 70) (by decide +kernel) (by decide +kernel)
theorem ml_X6_42 : Cond.methodLink RX6 42 zX3_shine.1 ∈ mm_tb := mm_inl mm_sg5 (i := 71) (by decide +kernel) (by decide +kernel)
theorem ml_X6_45 : Cond.methodLink RX6 45 zX6_chargeAll.1 ∈ mm_tb := mm_inl mm_sg5 (i := 76) (by decide +kernel) (by decide +kernel)
theorem ml_X6_48 : Cond.methodLink RX6 48 zX3_payLoads.1 ∈ mm_tb := mm_inl mm_sg5 (i := 86) (by decide +kernel) (by decide +kernel)
theorem ml_X6_55 : Cond.methodLink RX6 55 zX8_worker.1 ∈ mm_tb := mm_inl mm_sg5 (i := 49) (by decide +kernel) (by decide +kernel)
theorem ml_X6_59 : Cond.methodLink RX6 59 zX6_runScript.1 ∈ mm_tb := mm_inl mm_sg5 (i := 104) (by decide +kernel) (by decide +kernel)
theorem ml_X6_63 : Cond.methodLink RX6 63 zX6_sendReport.1 ∈ mm_tb := mm_inl mm_sg5 (i := 201) (by decide +kernel) (by decide +kernel)
theorem ml_X6_72 : Cond.methodLink RX6 72 zX5_size.1 ∈ mm_tb := mm_inl mm_sg5 (i := 47) (by decide +kernel) (by decide +kernel)
theorem ml_X6_76 : Cond.methodLink RX6 76 zX5_at.1 ∈ mm_tb := mm_inl mm_sg5 (i := 48) (by decide +kernel) (by decide +kernel)
theorem ml_X6_80 : Cond.methodLink RX6 80 zX6_bringOrder.1 ∈ mm_tb := mm_inl mm_sg5 (i := 50) (by decide +kernel) (by decide +kernel)
theorem ml_X6_84 : Cond.methodLink RX6 84 zX5_take.1 ∈ mm_tb := mm_inl mm_sg5 (i := 57) (by decide +kernel) (by decide +kernel)
theorem ml_X6_88 : Cond.methodLink RX6 88 zX5_shorten.1 ∈ mm_tb := mm_inl mm_sg5 (i := 61) (by decide +kernel) (by decide +kernel)
theorem ml_X6_91 : Cond.methodLink RX6 91 zX8_script.1 ∈ mm_tb := mm_inl mm_sg5 (i := 54) (by decide +kernel) (by decide +kernel)
theorem ml_X6_95 : Cond.methodLink RX6 95 zX4_isEmpty.1 ∈ mm_tb := mm_inl mm_sg5 (i := 55) (by decide +kernel) (by decide +kernel)
theorem ml_X7_11 : Cond.methodLink RX7 11 zX5_init.1 ∈ mm_tb := mm_inl mm_sg2 (i := 186) (by decide +kernel) (by decide +kernel)
theorem ml_X7_27 : Cond.methodLink RX7 27 zX7_row.1 ∈ mm_tb := mm_inl mm_sg3 (i := 85) (by decide +kernel) (by decide +kernel)
theorem ml_X7_3 : Cond.methodLink RX7 3 Lib.objectInit ∈ mm_tb := mm_inl mm_sg2 (i := 184) (by decide +kernel) (by decide +kernel)
theorem ml_X7_31 : Cond.methodLink RX7 31 zX5_fill.1 ∈ mm_tb := mm_inl mm_sg6 (i := 152) (by decide +kernel) (by decide +kernel)
theorem ml_X7_35 : Cond.methodLink RX7 35 zX5_size.1 ∈ mm_tb := mm_inl mm_sg3 (i := 89) (by decide +kernel) (by decide +kernel)
theorem ml_X7_39 : Cond.methodLink RX7 39 zX5_at.1 ∈ mm_tb := mm_inl mm_sg3 (i := 98) (by decide +kernel) (by decide +kernel)
theorem ml_X7_43 : Cond.methodLink RX7 43 zX5_swap.1 ∈ mm_tb := mm_inl mm_sg6 (i := 162) (by decide +kernel) (by decide +kernel)
theorem ml_X7_47 : Cond.methodLink RX7 47 zX7_places.1 ∈ mm_tb := mm_inl mm_sg6 (i := 171) (by decide +kernel) (by decide +kernel)
theorem ml_X7_50 : Cond.methodLink RX7 50 zX5_take.1 ∈ mm_tb := mm_inl mm_sg6 (i := 176) (by decide +kernel) (by decide +kernel)
theorem ml_X8_102 : Cond.methodLink RX8 102 zX1_beginScript.1 ∈ mm_tb := mm_inl mm_sg4 (i := 239) (by decide +kernel) (by decide +kernel)
theorem ml_X8_105 : Cond.methodLink RX8 105 zX4_isEmpty.1 ∈ mm_tb := mm_inl mm_sg6 (i := 185) (by decide +kernel) (by decide +kernel)
theorem ml_X8_109 : Cond.methodLink RX8 109 zX5_size.1 ∈ mm_tb := mm_inl mm_sg5 (i := 25) (by decide +kernel) (by decide +kernel)
theorem ml_X8_11 : Cond.methodLink RX8 11 zX0_init.1 ∈ mm_tb := mm_inl mm_sg1 (i := 38) (by decide +kernel) (by decide +kernel)
theorem ml_X8_119 : Cond.methodLink RX8 119 zX5_add.1 ∈ mm_tb := mm_inl mm_sg5 (i := 30) (by decide +kernel) (by decide +kernel)
theorem ml_X8_129 : Cond.methodLink RX8 129 zX0_apart.1 ∈ mm_tb := mm_inl mm_sg5 (i := 224) (by decide +kernel) (by decide +kernel)
theorem ml_X8_133 : Cond.methodLink RX8 133 zX1_addWear.1 ∈ mm_tb := mm_inl mm_sg5 (i := 225) (by decide +kernel) (by decide +kernel)
theorem ml_X8_20 : Cond.methodLink RX8 20 zX3_init.1 ∈ mm_tb := mm_inl mm_sg1 (i := 128) (by decide +kernel) (by decide +kernel)
theorem ml_X8_27 : Cond.methodLink RX8 27 zX10_init.1 ∈ mm_tb := mm_inl mm_sg1 (i := 179) (by decide +kernel) (by decide +kernel)
theorem ml_X8_3 : Cond.methodLink RX8 3 Lib.objectInit ∈ mm_tb := mm_inl mm_sg1 (i := 35) (by decide +kernel) (by decide +kernel)
theorem ml_X8_38 : Cond.methodLink RX8 38 zX1_init.1 ∈ mm_tb := mm_inl mm_sg1 (i := 223) (by decide +kernel) (by decide +kernel)
theorem ml_X8_49 : Cond.methodLink RX8 49 zX4_init.1 ∈ mm_tb := mm_inl mm_sg2 (i := 48) (by decide +kernel) (by decide +kernel)
theorem ml_X8_52 : Cond.methodLink RX8 52 zX5_init.1 ∈ mm_tb := mm_inl mm_sg2 (i := 69) (by decide +kernel) (by decide +kernel)
theorem ml_X8_62 : Cond.methodLink RX8 62 zX0_begin.1 ∈ mm_tb := mm_inl mm_sg2 (i := 237) (by decide +kernel) (by decide +kernel)
theorem ml_X8_66 : Cond.methodLink RX8 66 zX5_shorten.1 ∈ mm_tb := mm_inl mm_sg2 (i := 238) (by decide +kernel) (by decide +kernel)
theorem ml_X8_69 : Cond.methodLink RX8 69 zX0_become.1 ∈ mm_tb := mm_inl mm_sg6 (i := 117) (by decide +kernel) (by decide +kernel)
theorem ml_X8_73 : Cond.methodLink RX8 73 zX3_become.1 ∈ mm_tb := mm_inl mm_sg6 (i := 122) (by decide +kernel) (by decide +kernel)
theorem ml_X8_76 : Cond.methodLink RX8 76 zX10_become.1 ∈ mm_tb := mm_inl mm_sg6 (i := 127) (by decide +kernel) (by decide +kernel)
theorem ml_X8_79 : Cond.methodLink RX8 79 zX8_worker.1 ∈ mm_tb := mm_inl mm_sg3 (i := 15) (by decide +kernel) (by decide +kernel)
theorem ml_X8_83 : Cond.methodLink RX8 83 zX1_become.1 ∈ mm_tb := mm_inl mm_sg6 (i := 131) (by decide +kernel) (by decide +kernel)
theorem ml_X8_86 : Cond.methodLink RX8 86 zX8_script.1 ∈ mm_tb := mm_inl mm_sg6 (i := 136) (by decide +kernel) (by decide +kernel)
theorem ml_X8_90 : Cond.methodLink RX8 90 zX4_become.1 ∈ mm_tb := mm_inl mm_sg6 (i := 137) (by decide +kernel) (by decide +kernel)
theorem ml_X8_93 : Cond.methodLink RX8 93 zX5_become.1 ∈ mm_tb := mm_inl mm_sg6 (i := 138) (by decide +kernel) (by decide +kernel)
theorem ml_X8_99 : Cond.methodLink RX8 99 zX1_begin.1 ∈ mm_tb := mm_inl mm_sg3 (i := 183) (by decide +kernel) (by decide +kernel)
theorem ml_X9_104 : Cond.methodLink RX9 104 yJ0_length_8abf5 ∈ mm_tb := mm_inl mm_sg4 (i := 110) (by decide +kernel) (by decide +kernel)
theorem ml_X9_107 : Cond.methodLink RX9 107 yJ0_charAt_5068e ∈ mm_tb := mm_inl mm_sg4 (i := 111) (by decide +kernel) (by decide +kernel)
theorem ml_X9_17 : Cond.methodLink RX9 17 zX5_init.1 ∈ mm_tb := mm_inl mm_sg2 (i := 135) (by decide +kernel) (by decide +kernel)
theorem ml_X9_29 : Cond.methodLink RX9 29 zX5_shorten.1 ∈ mm_tb := mm_inl mm_sg3 (i := 239) (by decide +kernel) (by decide +kernel)
theorem ml_X9_3 : Cond.methodLink RX9 3 Lib.objectInit ∈ mm_tb := mm_inl mm_sg2 (i := 133) (by decide +kernel) (by decide +kernel)
theorem ml_X9_32 : Cond.methodLink RX9 32 zX5_size.1 ∈ mm_tb := mm_inl mm_sg4 (i := 0) (by decide +kernel) (by decide +kernel)
theorem ml_X9_36 : Cond.methodLink RX9 36 zX5_at.1 ∈ mm_tb := mm_inl mm_sg4 (i := 1) (by decide +kernel) (by decide +kernel)
theorem ml_X9_40 : Cond.methodLink RX9 40 zX9_splitAt.1 ∈ mm_tb := mm_inl mm_sg4 (i := 2) (by decide +kernel) (by decide +kernel)
theorem ml_X9_43 : Cond.methodLink RX9 43 zX9_addWord.1 ∈ mm_tb := mm_inl mm_sg4 (i := 142) (by decide +kernel) (by decide +kernel)
theorem ml_X9_47 : Cond.methodLink RX9 47 zX5_add.1 ∈ mm_tb := mm_inl mm_sg4 (i := 146) (by decide +kernel) (by decide +kernel)
theorem ml_X9_51 : Cond.methodLink RX9 51 zX9_isLetter.1 ∈ mm_tb := mm_inl mm_sg4 (i := 6) (by decide +kernel) (by decide +kernel)
theorem ml_X9_54 : Cond.methodLink RX9 54 zX9_isGlued.1 ∈ mm_tb := mm_inl mm_sg4 (i := 10) (by decide +kernel) (by decide +kernel)
theorem ml_X9_57 : Cond.methodLink RX9 57 zX9_wordKind.1 ∈ mm_tb := mm_inl mm_sg4 (i := 18) (by decide +kernel) (by decide +kernel)
theorem ml_X9_61 : Cond.methodLink RX9 61 zX9_isDigit.1 ∈ mm_tb := mm_inl mm_sg4 (i := 14) (by decide +kernel) (by decide +kernel)
theorem ml_X9_64 : Cond.methodLink RX9 64 zX9_numberAt.1 ∈ mm_tb := mm_inl mm_sg4 (i := 147) (by decide +kernel) (by decide +kernel)
theorem ml_X9_69 : Cond.methodLink RX9 69 yJ0_indexOf_0f7a4 ∈ mm_tb := mm_inl mm_sg4 (i := 23) (by decide +kernel) (by decide +kernel)
theorem ml_X9_76 : Cond.methodLink RX9 76 zX9_spells.1 ∈ mm_tb := mm_inl mm_sg4 (i := 106) (by decide +kernel) (by decide +kernel)
theorem ml_X10_100 : Cond.methodLink RX10 100 zX10_live.1 ∈ mm_tb := mm_inl mm_sg6 (i := 62) (by decide +kernel) (by decide +kernel)
theorem ml_X10_104 : Cond.methodLink RX10 104 zX5_at.1 ∈ mm_tb := mm_inl mm_sg6 (i := 72) (by decide +kernel) (by decide +kernel)
theorem ml_X10_107 : Cond.methodLink RX10 107 zX5_pop.1 ∈ mm_tb := mm_inl mm_sg6 (i := 77) (by decide +kernel) (by decide +kernel)
theorem ml_X10_11 : Cond.methodLink RX10 11 zX5_init.1 ∈ mm_tb := mm_inl mm_sg1 (i := 184) (by decide +kernel) (by decide +kernel)
theorem ml_X10_110 : Cond.methodLink RX10 110 Lib.Math.min.name ∈ mm_tb := mm_inl mm_sg6 (i := 65) (by decide +kernel) (by decide +kernel)
theorem ml_X10_116 : Cond.methodLink RX10 116 Lib.Math.max.name ∈ mm_tb := mm_inl mm_sg6 (i := 66) (by decide +kernel) (by decide +kernel)
theorem ml_X10_3 : Cond.methodLink RX10 3 Lib.objectInit ∈ mm_tb := mm_inl mm_sg1 (i := 182) (by decide +kernel) (by decide +kernel)
theorem ml_X10_35 : Cond.methodLink RX10 35 zX5_become.1 ∈ mm_tb := mm_inl mm_sg6 (i := 67) (by decide +kernel) (by decide +kernel)
theorem ml_X10_39 : Cond.methodLink RX10 39 zX5_shorten.1 ∈ mm_tb := mm_inl mm_sg6 (i := 44) (by decide +kernel) (by decide +kernel)
theorem ml_X10_42 : Cond.methodLink RX10 42 zX5_size.1 ∈ mm_tb := mm_inl mm_sg6 (i := 29) (by decide +kernel) (by decide +kernel)
theorem ml_X10_46 : Cond.methodLink RX10 46 zX5_add.1 ∈ mm_tb := mm_inl mm_sg6 (i := 34) (by decide +kernel) (by decide +kernel)
theorem ml_X10_50 : Cond.methodLink RX10 50 zX10_many.1 ∈ mm_tb := mm_inl mm_sg6 (i := 35) (by decide +kernel) (by decide +kernel)
theorem ml_X10_57 : Cond.methodLink RX10 57 zX3_taken.1 ∈ mm_tb := mm_inl mm_sg6 (i := 53) (by decide +kernel) (by decide +kernel)
theorem ml_X10_82 : Cond.methodLink RX10 82 zX10_seek.1 ∈ mm_tb := mm_inl mm_sg6 (i := 54) (by decide +kernel) (by decide +kernel)
theorem ml_X10_88 : Cond.methodLink RX10 88 zX10_weigh.1 ∈ mm_tb := mm_inl mm_sg6 (i := 58) (by decide +kernel) (by decide +kernel)
theorem ml_X10_92 : Cond.methodLink RX10 92 zX10_canFollow.1 ∈ mm_tb := mm_inl mm_sg6 (i := 68) (by decide +kernel) (by decide +kernel)
theorem ml_X10_96 : Cond.methodLink RX10 96 zX10_tryWork.1 ∈ mm_tb := mm_inl mm_sg6 (i := 73) (by decide +kernel) (by decide +kernel)
theorem ml_X11_1 : Cond.methodLink RX11 1 Lib.objectInit ∈ mm_tb := mm_inl mm_sg1 (i := 27) (by decide +kernel) (by decide +kernel)
theorem ml_X11_102 : Cond.methodLink RX11 102 zX5_at.1 ∈ mm_tb := mm_inl mm_sg3 (i := 41) (by decide +kernel) (by decide +kernel)
theorem ml_X11_111 : Cond.methodLink RX11 111 zX11_orNone.1 ∈ mm_tb := mm_inl mm_sg3 (i := 42) (by decide +kernel) (by decide +kernel)
theorem ml_X11_114 : Cond.methodLink RX11 114 zX0_isA.1 ∈ mm_tb := mm_inl mm_sg3 (i := 50) (by decide +kernel) (by decide +kernel)
theorem ml_X11_118 : Cond.methodLink RX11 118 zX11_asBit.1 ∈ mm_tb := mm_inl mm_sg3 (i := 60) (by decide +kernel) (by decide +kernel)
theorem ml_X11_122 : Cond.methodLink RX11 122 zX0_known.1 ∈ mm_tb := mm_inl mm_sg3 (i := 67) (by decide +kernel) (by decide +kernel)
theorem ml_X11_125 : Cond.methodLink RX11 125 zX7_isThere.1 ∈ mm_tb := mm_inl mm_sg3 (i := 76) (by decide +kernel) (by decide +kernel)
theorem ml_X11_129 : Cond.methodLink RX11 129 zX7_places.1 ∈ mm_tb := mm_inl mm_sg3 (i := 81) (by decide +kernel) (by decide +kernel)
theorem ml_X11_132 : Cond.methodLink RX11 132 Lib.Math.min.name ∈ mm_tb := mm_inl mm_sg3 (i := 93) (by decide +kernel) (by decide +kernel)
theorem ml_X11_137 : Cond.methodLink RX11 137 zX7_at.1 ∈ mm_tb := mm_inl mm_sg3 (i := 94) (by decide +kernel) (by decide +kernel)
theorem ml_X11_139 : Cond.methodLink RX11 139 zX5_set.1 ∈ mm_tb := mm_inl mm_sg3 (i := 99) (by decide +kernel) (by decide +kernel)
theorem ml_X11_142 : Cond.methodLink RX11 142 zX0_measure.1 ∈ mm_tb := mm_inl mm_sg3 (i := 104) (by decide +kernel) (by decide +kernel)
theorem ml_X11_162 : Cond.methodLink RX11 162 zX3_change.1 ∈ mm_tb := mm_inl mm_sg3 (i := 142) (by decide +kernel) (by decide +kernel)
theorem ml_X11_167 : Cond.methodLink RX11 167 zX3_loads.1 ∈ mm_tb := mm_inl mm_sg3 (i := 150) (by decide +kernel) (by decide +kernel)
theorem ml_X11_171 : Cond.methodLink RX11 171 zX3_addLoad.1 ∈ mm_tb := mm_inl mm_sg3 (i := 156) (by decide +kernel) (by decide +kernel)
theorem ml_X11_178 : Cond.methodLink RX11 178 zX3_isLight.1 ∈ mm_tb := mm_inl mm_sg3 (i := 166) (by decide +kernel) (by decide +kernel)
theorem ml_X11_194 : Cond.methodLink RX11 194 zX0_isOpen.1 ∈ mm_tb := mm_inl mm_sg3 (i := 178) (by decide +kernel) (by decide +kernel)
theorem ml_X11_200 : Cond.methodLink RX11 200 zX8_addMachine.1 ∈ mm_tb := mm_inl mm_sg3 (i := 179) (by decide +kernel) (by decide +kernel)
theorem ml_X11_203 : Cond.methodLink RX11 203 zX8_worker.1 ∈ mm_tb := mm_inl mm_sg3 (i := 188) (by decide +kernel) (by decide +kernel)
theorem ml_X11_207 : Cond.methodLink RX11 207 zX1_isA.1 ∈ mm_tb := mm_inl mm_sg3 (i := 189) (by decide +kernel) (by decide +kernel)
theorem ml_X11_233 : Cond.methodLink RX11 233 zX1_isBroken.1 ∈ mm_tb := mm_inl mm_sg3 (i := 204) (by decide +kernel) (by decide +kernel)
theorem ml_X11_236 : Cond.methodLink RX11 236 zX5_size.1 ∈ mm_tb := mm_inl mm_sg3 (i := 212) (by decide +kernel) (by decide +kernel)
theorem ml_X11_239 : Cond.methodLink RX11 239 zX11_addBytes.1 ∈ mm_tb := mm_inl mm_sg3 (i := 213) (by decide +kernel) (by decide +kernel)
theorem ml_X11_242 : Cond.methodLink RX11 242 zX5_shorten.1 ∈ mm_tb := mm_inl mm_sg3 (i := 222) (by decide +kernel) (by decide +kernel)
theorem ml_X11_245 : Cond.methodLink RX11 245 zX8_script.1 ∈ mm_tb := mm_inl mm_sg3 (i := 227) (by decide +kernel) (by decide +kernel)
theorem ml_X11_248 : Cond.methodLink RX11 248 zX2_read.1 ∈ mm_tb := mm_inl mm_sg3 (i := 231) (by decide +kernel) (by decide +kernel)
theorem ml_X11_25 : Cond.methodLink RX11 25 zX6_init.1 ∈ mm_tb := mm_inl mm_sg2 (i := 107) (by decide +kernel) (by decide +kernel)
theorem ml_X11_251 : Cond.methodLink RX11 251 zX8_endScript.1 ∈ mm_tb := mm_inl mm_sg4 (i := 235) (by decide +kernel) (by decide +kernel)
theorem ml_X11_254 : Cond.methodLink RX11 254 zX4_empty.1 ∈ mm_tb := mm_inl mm_sg5 (i := 0) (by decide +kernel) (by decide +kernel)
theorem ml_X11_263 : Cond.methodLink RX11 263 zX4_become.1 ∈ mm_tb := mm_inl mm_sg5 (i := 1) (by decide +kernel) (by decide +kernel)
theorem ml_X11_270 : Cond.methodLink RX11 270 zX4_isEmpty.1 ∈ mm_tb := mm_inl mm_sg5 (i := 17) (by decide +kernel) (by decide +kernel)
theorem ml_X11_273 : Cond.methodLink RX11 273 zX8_ordersOnWay.1 ∈ mm_tb := mm_inl mm_sg5 (i := 21) (by decide +kernel) (by decide +kernel)
theorem ml_X11_276 : Cond.methodLink RX11 276 zX8_addOrder.1 ∈ mm_tb := mm_inl mm_sg5 (i := 26) (by decide +kernel) (by decide +kernel)
theorem ml_X11_282 : Cond.methodLink RX11 282 zX6_passTick.1 ∈ mm_tb := mm_inl mm_sg5 (i := 39) (by decide +kernel) (by decide +kernel)
theorem ml_X11_285 : Cond.methodLink RX11 285 zX0_blast.1 ∈ mm_tb := mm_inl mm_sg5 (i := 209) (by decide +kernel) (by decide +kernel)
theorem ml_X11_288 : Cond.methodLink RX11 288 zX8_shake.1 ∈ mm_tb := mm_inl mm_sg5 (i := 220) (by decide +kernel) (by decide +kernel)
theorem ml_X11_291 : Cond.methodLink RX11 291 zX5_sum.1 ∈ mm_tb := mm_inl mm_sg5 (i := 230) (by decide +kernel) (by decide +kernel)
theorem ml_X11_294 : Cond.methodLink RX11 294 zX8_dustCarried.1 ∈ mm_tb := mm_inl mm_sg5 (i := 234) (by decide +kernel) (by decide +kernel)
theorem ml_X11_303 : Cond.methodLink RX11 303 zX3_leastCut.1 ∈ mm_tb := mm_inl mm_sg6 (i := 2) (by decide +kernel) (by decide +kernel)
theorem ml_X11_306 : Cond.methodLink RX11 306 zX3_harmOf.1 ∈ mm_tb := mm_inl mm_sg6 (i := 16) (by decide +kernel) (by decide +kernel)
theorem ml_X11_313 : Cond.methodLink RX11 313 zX10_many.1 ∈ mm_tb := mm_inl mm_sg6 (i := 25) (by decide +kernel) (by decide +kernel)
theorem ml_X11_317 : Cond.methodLink RX11 317 zX10_addWork.1 ∈ mm_tb := mm_inl mm_sg6 (i := 30) (by decide +kernel) (by decide +kernel)
theorem ml_X11_321 : Cond.methodLink RX11 321 zX10_empty.1 ∈ mm_tb := mm_inl mm_sg6 (i := 40) (by decide +kernel) (by decide +kernel)
theorem ml_X11_322 : Cond.methodLink RX11 322 zX10_find.1 ∈ mm_tb := mm_inl mm_sg6 (i := 49) (by decide +kernel) (by decide +kernel)
theorem ml_X11_329 : Cond.methodLink RX11 329 zX5_add.1 ∈ mm_tb := mm_inl mm_sg3 (i := 217) (by decide +kernel) (by decide +kernel)
theorem ml_X11_332 : Cond.methodLink RX11 332 zX11_compareWaiting.1 ∈ mm_tb := mm_inl mm_sg6 (i := 92) (by decide +kernel) (by decide +kernel)
theorem ml_X11_335 : Cond.methodLink RX11 335 zX8_become.1 ∈ mm_tb := mm_inl mm_sg6 (i := 113) (by decide +kernel) (by decide +kernel)
theorem ml_X11_338 : Cond.methodLink RX11 338 zX7_begin.1 ∈ mm_tb := mm_inl mm_sg6 (i := 148) (by decide +kernel) (by decide +kernel)
theorem ml_X11_34 : Cond.methodLink RX11 34 zX5_init.1 ∈ mm_tb := mm_inl mm_sg2 (i := 121) (by decide +kernel) (by decide +kernel)
theorem ml_X11_342 : Cond.methodLink RX11 342 zX7_swap.1 ∈ mm_tb := mm_inl mm_sg6 (i := 158) (by decide +kernel) (by decide +kernel)
theorem ml_X11_345 : Cond.methodLink RX11 345 zX7_hasPart.1 ∈ mm_tb := mm_inl mm_sg6 (i := 167) (by decide +kernel) (by decide +kernel)
theorem ml_X11_348 : Cond.methodLink RX11 348 zX7_move.1 ∈ mm_tb := mm_inl mm_sg6 (i := 172) (by decide +kernel) (by decide +kernel)
theorem ml_X11_352 : Cond.methodLink RX11 352 zX8_scriptsTold.1 ∈ mm_tb := mm_inl mm_sg6 (i := 181) (by decide +kernel) (by decide +kernel)
theorem ml_X11_355 : Cond.methodLink RX11 355 zX8_reportsOnWay.1 ∈ mm_tb := mm_inl mm_sg6 (i := 186) (by decide +kernel) (by decide +kernel)
theorem ml_X11_358 : Cond.methodLink RX11 358 zX10_listRows.1 ∈ mm_tb := mm_inl mm_sg6 (i := 96) (by decide +kernel) (by decide +kernel)
theorem ml_X11_362 : Cond.methodLink RX11 362 zX3_listNight.1 ∈ mm_tb := mm_inl mm_sg6 (i := 100) (by decide +kernel) (by decide +kernel)
theorem ml_X11_366 : Cond.methodLink RX11 366 zX5_alike.1 ∈ mm_tb := mm_inl mm_sg6 (i := 105) (by decide +kernel) (by decide +kernel)
theorem ml_X11_43 : Cond.methodLink RX11 43 zX2_init.1 ∈ mm_tb := mm_inl mm_sg2 (i := 124) (by decide +kernel) (by decide +kernel)
theorem ml_X11_58 : Cond.methodLink RX11 58 zX7_init.1 ∈ mm_tb := mm_inl mm_sg2 (i := 181) (by decide +kernel) (by decide +kernel)
theorem ml_X11_63 : Cond.methodLink RX11 63 zX11_within.1 ∈ mm_tb := mm_inl mm_sg2 (i := 229) (by decide +kernel) (by decide +kernel)
theorem ml_X11_68 : Cond.methodLink RX11 68 zX8_renew.1 ∈ mm_tb := mm_inl mm_sg2 (i := 233) (by decide +kernel) (by decide +kernel)
theorem ml_X11_76 : Cond.methodLink RX11 76 zX0_cells.1 ∈ mm_tb := mm_inl mm_sg3 (i := 2) (by decide +kernel) (by decide +kernel)
theorem ml_X11_82 : Cond.methodLink RX11 82 zX0_holds.1 ∈ mm_tb := mm_inl mm_sg3 (i := 7) (by decide +kernel) (by decide +kernel)
theorem ml_X11_86 : Cond.methodLink RX11 86 zX8_machineOn.1 ∈ mm_tb := mm_inl mm_sg3 (i := 11) (by decide +kernel) (by decide +kernel)
theorem ml_X11_9 : Cond.methodLink RX11 9 zX8_init.1 ∈ mm_tb := mm_inl mm_sg1 (i := 32) (by decide +kernel) (by decide +kernel)
theorem ml_X11_94 : Cond.methodLink RX11 94 zX5_swap.1 ∈ mm_tb := mm_inl mm_sg3 (i := 20) (by decide +kernel) (by decide +kernel)
theorem ml_X11_98 : Cond.methodLink RX11 98 zX0_kilosOf.1 ∈ mm_tb := mm_inl mm_sg3 (i := 33) (by decide +kernel) (by decide +kernel)
theorem ml_L_100 : Cond.methodLink RL 100 zX11_run.1 ∈ mm_tb := mm_inl mm_sg5 (i := 35) (by decide +kernel) (by decide +kernel)
theorem ml_L_103 : Cond.methodLink RL 103 zX12_run.1 ∈ mm_tb := mm_inl mm_sg8 (i := 67) (by decide +kernel) (by decide +kernel)
theorem ml_L_104 : Cond.methodLink RL 104 zX11_land.1 ∈ mm_tb := mm_inl mm_sg5 (i := 205) (by decide +kernel) (by decide +kernel)
theorem ml_L_107 : Cond.methodLink RL 107 zX12_land.1 ∈ mm_tb := mm_inl mm_sg8 (i := 155) (by decide +kernel) (by decide +kernel)
theorem ml_L_108 : Cond.methodLink RL 108 zX11_kilos.1 ∈ mm_tb := mm_inl mm_sg5 (i := 226) (by decide +kernel) (by decide +kernel)
theorem ml_L_111 : Cond.methodLink RL 111 zX12_kilos.1 ∈ mm_tb := mm_inl mm_sg8 (i := 164) (by decide +kernel) (by decide +kernel)
theorem ml_L_112 : Cond.methodLink RL 112 zX11_night.1 ∈ mm_tb := mm_inl mm_sg5 (i := 238) (by decide +kernel) (by decide +kernel)
theorem ml_L_115 : Cond.methodLink RL 115 zX12_night.1 ∈ mm_tb := mm_inl mm_sg8 (i := 172) (by decide +kernel) (by decide +kernel)
theorem ml_L_116 : Cond.methodLink RL 116 zX11_cut.1 ∈ mm_tb := mm_inl mm_sg6 (i := 17) (by decide +kernel) (by decide +kernel)
theorem ml_L_119 : Cond.methodLink RL 119 zX12_cut.1 ∈ mm_tb := mm_inl mm_sg8 (i := 191) (by decide +kernel) (by decide +kernel)
theorem ml_L_12 : Cond.methodLink RL 12 zX12_init.1 ∈ mm_tb := mm_inl mm_sg6 (i := 192) (by decide +kernel) (by decide +kernel)
theorem ml_L_120 : Cond.methodLink RL 120 zX11_work.1 ∈ mm_tb := mm_inl mm_sg6 (i := 21) (by decide +kernel) (by decide +kernel)
theorem ml_L_124 : Cond.methodLink RL 124 zX12_work.1 ∈ mm_tb := mm_inl mm_sg8 (i := 195) (by decide +kernel) (by decide +kernel)
theorem ml_L_125 : Cond.methodLink RL 125 zX11_clear.1 ∈ mm_tb := mm_inl mm_sg6 (i := 36) (by decide +kernel) (by decide +kernel)
theorem ml_L_129 : Cond.methodLink RL 129 zX12_clear.1 ∈ mm_tb := mm_inl mm_sg8 (i := 199) (by decide +kernel) (by decide +kernel)
theorem ml_L_13 : Cond.methodLink RL 13 zX11_ground.1 ∈ mm_tb := mm_inl mm_sg2 (i := 225) (by decide +kernel) (by decide +kernel)
theorem ml_L_130 : Cond.methodLink RL 130 zX11_plan.1 ∈ mm_tb := mm_inl mm_sg6 (i := 45) (by decide +kernel) (by decide +kernel)
theorem ml_L_133 : Cond.methodLink RL 133 zX12_plan.1 ∈ mm_tb := mm_inl mm_sg8 (i := 203) (by decide +kernel) (by decide +kernel)
theorem ml_L_134 : Cond.methodLink RL 134 zX11_planned.1 ∈ mm_tb := mm_inl mm_sg6 (i := 80) (by decide +kernel) (by decide +kernel)
theorem ml_L_137 : Cond.methodLink RL 137 zX12_planned.1 ∈ mm_tb := mm_inl mm_sg8 (i := 220) (by decide +kernel) (by decide +kernel)
theorem ml_L_138 : Cond.methodLink RL 138 zX11_tell.1 ∈ mm_tb := mm_inl mm_sg6 (i := 84) (by decide +kernel) (by decide +kernel)
theorem ml_L_141 : Cond.methodLink RL 141 zX12_tell.1 ∈ mm_tb := mm_inl mm_sg8 (i := 224) (by decide +kernel) (by decide +kernel)
theorem ml_L_142 : Cond.methodLink RL 142 zX11_check.1 ∈ mm_tb := mm_inl mm_sg6 (i := 88) (by decide +kernel) (by decide +kernel)
theorem ml_L_145 : Cond.methodLink RL 145 zX12_check.1 ∈ mm_tb := mm_inl mm_sg8 (i := 228) (by decide +kernel) (by decide +kernel)
theorem ml_L_146 : Cond.methodLink RL 146 zX11_keep.1 ∈ mm_tb := mm_inl mm_sg6 (i := 109) (by decide +kernel) (by decide +kernel)
theorem ml_L_149 : Cond.methodLink RL 149 zX12_keep.1 ∈ mm_tb := mm_inl mm_sg9 (i := 0) (by decide +kernel) (by decide +kernel)
theorem ml_L_150 : Cond.methodLink RL 150 zX11_back.1 ∈ mm_tb := mm_inl mm_sg6 (i := 139) (by decide +kernel) (by decide +kernel)
theorem ml_L_153 : Cond.methodLink RL 153 zX12_back.1 ∈ mm_tb := mm_inl mm_sg9 (i := 4) (by decide +kernel) (by decide +kernel)
theorem ml_L_154 : Cond.methodLink RL 154 zX11_sheet.1 ∈ mm_tb := mm_inl mm_sg6 (i := 143) (by decide +kernel) (by decide +kernel)
theorem ml_L_157 : Cond.methodLink RL 157 zX12_sheet.1 ∈ mm_tb := mm_inl mm_sg9 (i := 8) (by decide +kernel) (by decide +kernel)
theorem ml_L_158 : Cond.methodLink RL 158 zX11_mark.1 ∈ mm_tb := mm_inl mm_sg6 (i := 153) (by decide +kernel) (by decide +kernel)
theorem ml_L_161 : Cond.methodLink RL 161 zX12_mark.1 ∈ mm_tb := mm_inl mm_sg9 (i := 13) (by decide +kernel) (by decide +kernel)
theorem ml_L_162 : Cond.methodLink RL 162 zX11_copy.1 ∈ mm_tb := mm_inl mm_sg6 (i := 163) (by decide +kernel) (by decide +kernel)
theorem ml_L_166 : Cond.methodLink RL 166 zX12_copy.1 ∈ mm_tb := mm_inl mm_sg9 (i := 18) (by decide +kernel) (by decide +kernel)
theorem ml_L_167 : Cond.methodLink RL 167 zX11_count.1 ∈ mm_tb := mm_inl mm_sg6 (i := 177) (by decide +kernel) (by decide +kernel)
theorem ml_L_17 : Cond.methodLink RL 17 zX12_ground.1 ∈ mm_tb := mm_inl mm_sg7 (i := 67) (by decide +kernel) (by decide +kernel)
theorem ml_L_170 : Cond.methodLink RL 170 zX12_count.1 ∈ mm_tb := mm_inl mm_sg9 (i := 22) (by decide +kernel) (by decide +kernel)
theorem ml_L_18 : Cond.methodLink RL 18 zX11_cell.1 ∈ mm_tb := mm_inl mm_sg3 (i := 3) (by decide +kernel) (by decide +kernel)
theorem ml_L_21 : Cond.methodLink RL 21 zX12_cell.1 ∈ mm_tb := mm_inl mm_sg7 (i := 79) (by decide +kernel) (by decide +kernel)
theorem ml_L_22 : Cond.methodLink RL 22 zX11_put.1 ∈ mm_tb := mm_inl mm_sg3 (i := 29) (by decide +kernel) (by decide +kernel)
theorem ml_L_26 : Cond.methodLink RL 26 zX12_put.1 ∈ mm_tb := mm_inl mm_sg7 (i := 95) (by decide +kernel) (by decide +kernel)
theorem ml_L_27 : Cond.methodLink RL 27 zX11_told.1 ∈ mm_tb := mm_inl mm_sg3 (i := 37) (by decide +kernel) (by decide +kernel)
theorem ml_L_30 : Cond.methodLink RL 30 zX12_told.1 ∈ mm_tb := mm_inl mm_sg7 (i := 99) (by decide +kernel) (by decide +kernel)
theorem ml_L_31 : Cond.methodLink RL 31 zX11_isOf.1 ∈ mm_tb := mm_inl mm_sg3 (i := 46) (by decide +kernel) (by decide +kernel)
theorem ml_L_34 : Cond.methodLink RL 34 zX12_isOf.1 ∈ mm_tb := mm_inl mm_sg7 (i := 104) (by decide +kernel) (by decide +kernel)
theorem ml_L_35 : Cond.methodLink RL 35 zX11_map.1 ∈ mm_tb := mm_inl mm_sg3 (i := 63) (by decide +kernel) (by decide +kernel)
theorem ml_L_38 : Cond.methodLink RL 38 zX12_map.1 ∈ mm_tb := mm_inl mm_sg7 (i := 112) (by decide +kernel) (by decide +kernel)
theorem ml_L_39 : Cond.methodLink RL 39 zX11_lay.1 ∈ mm_tb := mm_inl mm_sg3 (i := 72) (by decide +kernel) (by decide +kernel)
theorem ml_L_43 : Cond.methodLink RL 43 zX12_lay.1 ∈ mm_tb := mm_inl mm_sg7 (i := 116) (by decide +kernel) (by decide +kernel)
theorem ml_L_44 : Cond.methodLink RL 44 zX11_steps.1 ∈ mm_tb := mm_inl mm_sg3 (i := 100) (by decide +kernel) (by decide +kernel)
theorem ml_L_47 : Cond.methodLink RL 47 zX12_steps.1 ∈ mm_tb := mm_inl mm_sg7 (i := 122) (by decide +kernel) (by decide +kernel)
theorem ml_L_48 : Cond.methodLink RL 48 zX11_store.1 ∈ mm_tb := mm_inl mm_sg3 (i := 130) (by decide +kernel) (by decide +kernel)
theorem ml_L_51 : Cond.methodLink RL 51 zX12_store.1 ∈ mm_tb := mm_inl mm_sg7 (i := 134) (by decide +kernel) (by decide +kernel)
theorem ml_L_52 : Cond.methodLink RL 52 zX11_rule.1 ∈ mm_tb := mm_inl mm_sg3 (i := 134) (by decide +kernel) (by decide +kernel)
theorem ml_L_55 : Cond.methodLink RL 55 zX12_rule.1 ∈ mm_tb := mm_inl mm_sg7 (i := 138) (by decide +kernel) (by decide +kernel)
theorem ml_L_56 : Cond.methodLink RL 56 zX11_load.1 ∈ mm_tb := mm_inl mm_sg3 (i := 146) (by decide +kernel) (by decide +kernel)
theorem ml_L_59 : Cond.methodLink RL 59 zX12_load.1 ∈ mm_tb := mm_inl mm_sg7 (i := 145) (by decide +kernel) (by decide +kernel)
theorem ml_L_60 : Cond.methodLink RL 60 zX11_base.1 ∈ mm_tb := mm_inl mm_sg3 (i := 162) (by decide +kernel) (by decide +kernel)
theorem ml_L_63 : Cond.methodLink RL 63 zX12_base.1 ∈ mm_tb := mm_inl mm_sg7 (i := 150) (by decide +kernel) (by decide +kernel)
theorem ml_L_64 : Cond.methodLink RL 64 zX11_machine.1 ∈ mm_tb := mm_inl mm_sg3 (i := 174) (by decide +kernel) (by decide +kernel)
theorem ml_L_67 : Cond.methodLink RL 67 zX12_machine.1 ∈ mm_tb := mm_inl mm_sg7 (i := 162) (by decide +kernel) (by decide +kernel)
theorem ml_L_68 : Cond.methodLink RL 68 zX11_is.1 ∈ mm_tb := mm_inl mm_sg3 (i := 184) (by decide +kernel) (by decide +kernel)
theorem ml_L_71 : Cond.methodLink RL 71 zX12_is.1 ∈ mm_tb := mm_inl mm_sg7 (i := 166) (by decide +kernel) (by decide +kernel)
theorem ml_L_72 : Cond.methodLink RL 72 zX11_tune.1 ∈ mm_tb := mm_inl mm_sg3 (i := 196) (by decide +kernel) (by decide +kernel)
theorem ml_L_75 : Cond.methodLink RL 75 zX12_tune.1 ∈ mm_tb := mm_inl mm_sg7 (i := 178) (by decide +kernel) (by decide +kernel)
theorem ml_L_76 : Cond.methodLink RL 76 zX11_has.1 ∈ mm_tb := mm_inl mm_sg3 (i := 200) (by decide +kernel) (by decide +kernel)
theorem ml_L_79 : Cond.methodLink RL 79 zX12_has.1 ∈ mm_tb := mm_inl mm_sg7 (i := 182) (by decide +kernel) (by decide +kernel)
theorem ml_L_80 : Cond.methodLink RL 80 zX11_feed.1 ∈ mm_tb := mm_inl mm_sg3 (i := 208) (by decide +kernel) (by decide +kernel)
theorem ml_L_83 : Cond.methodLink RL 83 zX12_feed.1 ∈ mm_tb := mm_inl mm_sg7 (i := 190) (by decide +kernel) (by decide +kernel)
theorem ml_L_84 : Cond.methodLink RL 84 zX11_trim.1 ∈ mm_tb := mm_inl mm_sg3 (i := 218) (by decide +kernel) (by decide +kernel)
theorem ml_L_87 : Cond.methodLink RL 87 zX12_trim.1 ∈ mm_tb := mm_inl mm_sg7 (i := 194) (by decide +kernel) (by decide +kernel)
theorem ml_L_88 : Cond.methodLink RL 88 zX11_program.1 ∈ mm_tb := mm_inl mm_sg3 (i := 223) (by decide +kernel) (by decide +kernel)
theorem ml_L_9 : Cond.methodLink RL 9 zX11_init.1 ∈ mm_tb := mm_inl mm_sg1 (i := 24) (by decide +kernel) (by decide +kernel)
theorem ml_L_91 : Cond.methodLink RL 91 zX12_program.1 ∈ mm_tb := mm_inl mm_sg7 (i := 198) (by decide +kernel) (by decide +kernel)
theorem ml_L_92 : Cond.methodLink RL 92 zX11_send.1 ∈ mm_tb := mm_inl mm_sg5 (i := 13) (by decide +kernel) (by decide +kernel)
theorem ml_L_95 : Cond.methodLink RL 95 zX12_send.1 ∈ mm_tb := mm_inl mm_sg8 (i := 52) (by decide +kernel) (by decide +kernel)
theorem ml_L_96 : Cond.methodLink RL 96 zX11_order.1 ∈ mm_tb := mm_inl mm_sg5 (i := 31) (by decide +kernel) (by decide +kernel)
theorem ml_L_99 : Cond.methodLink RL 99 zX12_order.1 ∈ mm_tb := mm_inl mm_sg8 (i := 63) (by decide +kernel) (by decide +kernel)
theorem ml_X12_1 : Cond.methodLink RX12 1 Lib.objectInit ∈ mm_tb := mm_inl mm_sg6 (i := 195) (by decide +kernel) (by decide +kernel)
theorem ml_X12_101 : Cond.methodLink RX12 101 zX12_isOfKind.1 ∈ mm_tb := mm_inl mm_sg7 (i := 108) (by decide +kernel) (by decide +kernel)
theorem ml_X12_106 : Cond.methodLink RX12 106 Lib.Math.min.name ∈ mm_tb := mm_inl mm_sg7 (i := 121) (by decide +kernel) (by decide +kernel)
theorem ml_X12_111 : Cond.methodLink RX12 111 zX12_beside.1 ∈ mm_tb := mm_inl mm_sg7 (i := 130) (by decide +kernel) (by decide +kernel)
theorem ml_X12_114 : Cond.methodLink RX12 114 zX12_findFar.1 ∈ mm_tb := mm_inl mm_sg7 (i := 126) (by decide +kernel) (by decide +kernel)
theorem ml_X12_118 : Cond.methodLink RX12 118 zX12_isRule.1 ∈ mm_tb := mm_inl mm_sg7 (i := 142) (by decide +kernel) (by decide +kernel)
theorem ml_X12_122 : Cond.methodLink RX12 122 zX12_restOfTick.1 ∈ mm_tb := mm_inl mm_sg7 (i := 158) (by decide +kernel) (by decide +kernel)
theorem ml_X12_125 : Cond.methodLink RX12 125 zX12_isLight.1 ∈ mm_tb := mm_inl mm_sg7 (i := 154) (by decide +kernel) (by decide +kernel)
theorem ml_X12_129 : Cond.methodLink RX12 129 zX12_isMachine.1 ∈ mm_tb := mm_inl mm_sg7 (i := 170) (by decide +kernel) (by decide +kernel)
theorem ml_X12_132 : Cond.methodLink RX12 132 zX12_isKind.1 ∈ mm_tb := mm_inl mm_sg7 (i := 174) (by decide +kernel) (by decide +kernel)
theorem ml_X12_135 : Cond.methodLink RX12 135 zX12_isBroken.1 ∈ mm_tb := mm_inl mm_sg7 (i := 186) (by decide +kernel) (by decide +kernel)
theorem ml_X12_151 : Cond.methodLink RX12 151 zX12_isLetter.1 ∈ mm_tb := mm_inl mm_sg7 (i := 206) (by decide +kernel) (by decide +kernel)
theorem ml_X12_154 : Cond.methodLink RX12 154 zX12_isDigit.1 ∈ mm_tb := mm_inl mm_sg7 (i := 210) (by decide +kernel) (by decide +kernel)
theorem ml_X12_157 : Cond.methodLink RX12 157 yJ0_length_8abf5 ∈ mm_tb := mm_inl mm_sg7 (i := 230) (by decide +kernel) (by decide +kernel)
theorem ml_X12_160 : Cond.methodLink RX12 160 yJ0_charAt_5068e ∈ mm_tb := mm_inl mm_sg7 (i := 231) (by decide +kernel) (by decide +kernel)
theorem ml_X12_168 : Cond.methodLink RX12 168 zX12_isSign.1 ∈ mm_tb := mm_inl mm_sg8 (i := 34) (by decide +kernel) (by decide +kernel)
theorem ml_X12_171 : Cond.methodLink RX12 171 zX12_next.1 ∈ mm_tb := mm_inl mm_sg7 (i := 202) (by decide +kernel) (by decide +kernel)
theorem ml_X12_179 : Cond.methodLink RX12 179 zX12_number.1 ∈ mm_tb := mm_inl mm_sg7 (i := 236) (by decide +kernel) (by decide +kernel)
theorem ml_X12_182 : Cond.methodLink RX12 182 zX12_code.1 ∈ mm_tb := mm_inl mm_sg8 (i := 28) (by decide +kernel) (by decide +kernel)
theorem ml_X12_187 : Cond.methodLink RX12 187 yJ0_indexOf_0f7a4 ∈ mm_tb := mm_inl mm_sg8 (i := 33) (by decide +kernel) (by decide +kernel)
theorem ml_X12_193 : Cond.methodLink RX12 193 zX12_part.1 ∈ mm_tb := mm_inl mm_sg8 (i := 24) (by decide +kernel) (by decide +kernel)
theorem ml_X12_199 : Cond.methodLink RX12 199 zX12_either.1 ∈ mm_tb := mm_inl mm_sg8 (i := 4) (by decide +kernel) (by decide +kernel)
theorem ml_X12_202 : Cond.methodLink RX12 202 zX12_need.1 ∈ mm_tb := mm_inl mm_sg8 (i := 38) (by decide +kernel) (by decide +kernel)
theorem ml_X12_205 : Cond.methodLink RX12 205 zX12_signHere.1 ∈ mm_tb := mm_inl mm_sg8 (i := 42) (by decide +kernel) (by decide +kernel)
theorem ml_X12_208 : Cond.methodLink RX12 208 zX12_term.1 ∈ mm_tb := mm_inl mm_sg8 (i := 20) (by decide +kernel) (by decide +kernel)
theorem ml_X12_211 : Cond.methodLink RX12 211 zX12_sum.1 ∈ mm_tb := mm_inl mm_sg8 (i := 16) (by decide +kernel) (by decide +kernel)
theorem ml_X12_214 : Cond.methodLink RX12 214 zX12_test.1 ∈ mm_tb := mm_inl mm_sg8 (i := 12) (by decide +kernel) (by decide +kernel)
theorem ml_X12_217 : Cond.methodLink RX12 217 zX12_both.1 ∈ mm_tb := mm_inl mm_sg8 (i := 8) (by decide +kernel) (by decide +kernel)
theorem ml_X12_220 : Cond.methodLink RX12 220 zX12_step.1 ∈ mm_tb := mm_inl mm_sg7 (i := 232) (by decide +kernel) (by decide +kernel)
theorem ml_X12_223 : Cond.methodLink RX12 223 zX12_isWord.1 ∈ mm_tb := mm_inl mm_sg7 (i := 226) (by decide +kernel) (by decide +kernel)
theorem ml_X12_230 : Cond.methodLink RX12 230 zX12_rowOfSteps.1 ∈ mm_tb := mm_inl mm_sg7 (i := 214) (by decide +kernel) (by decide +kernel)
theorem ml_X12_233 : Cond.methodLink RX12 233 zX12_oneStep.1 ∈ mm_tb := mm_inl mm_sg7 (i := 218) (by decide +kernel) (by decide +kernel)
theorem ml_X12_236 : Cond.methodLink RX12 236 zX12_wordHere.1 ∈ mm_tb := mm_inl mm_sg7 (i := 222) (by decide +kernel) (by decide +kernel)
theorem ml_X12_239 : Cond.methodLink RX12 239 zX12_expression.1 ∈ mm_tb := mm_inl mm_sg8 (i := 0) (by decide +kernel) (by decide +kernel)
theorem ml_X12_242 : Cond.methodLink RX12 242 zX12_inBraces.1 ∈ mm_tb := mm_inl mm_sg8 (i := 47) (by decide +kernel) (by decide +kernel)
theorem ml_X12_247 : Cond.methodLink RX12 247 zX12_isEmpty.1 ∈ mm_tb := mm_inl mm_sg8 (i := 56) (by decide +kernel) (by decide +kernel)
theorem ml_X12_250 : Cond.methodLink RX12 250 zX12_ofOrder.1 ∈ mm_tb := mm_inl mm_sg8 (i := 60) (by decide +kernel) (by decide +kernel)
theorem ml_X12_253 : Cond.methodLink RX12 253 zX12_begin.1 ∈ mm_tb := mm_inl mm_sg8 (i := 79) (by decide +kernel) (by decide +kernel)
theorem ml_X12_256 : Cond.methodLink RX12 256 zX12_named.1 ∈ mm_tb := mm_inl mm_sg8 (i := 140) (by decide +kernel) (by decide +kernel)
theorem ml_X12_259 : Cond.methodLink RX12 259 zX12_done.1 ∈ mm_tb := mm_inl mm_sg8 (i := 144) (by decide +kernel) (by decide +kernel)
theorem ml_X12_263 : Cond.methodLink RX12 263 zX12_ofStep.1 ∈ mm_tb := mm_inl mm_sg8 (i := 95) (by decide +kernel) (by decide +kernel)
theorem ml_X12_266 : Cond.methodLink RX12 266 zX12_acts.1 ∈ mm_tb := mm_inl mm_sg8 (i := 99) (by decide +kernel) (by decide +kernel)
theorem ml_X12_270 : Cond.methodLink RX12 270 zX12_valueOf.1 ∈ mm_tb := mm_inl mm_sg8 (i := 136) (by decide +kernel) (by decide +kernel)
theorem ml_X12_273 : Cond.methodLink RX12 273 zX12_behind.1 ∈ mm_tb := mm_inl mm_sg8 (i := 107) (by decide +kernel) (by decide +kernel)
theorem ml_X12_276 : Cond.methodLink RX12 276 zX12_inner.1 ∈ mm_tb := mm_inl mm_sg8 (i := 147) (by decide +kernel) (by decide +kernel)
theorem ml_X12_280 : Cond.methodLink RX12 280 zX12_goes.1 ∈ mm_tb := mm_inl mm_sg8 (i := 103) (by decide +kernel) (by decide +kernel)
theorem ml_X12_283 : Cond.methodLink RX12 283 zX12_scoops.1 ∈ mm_tb := mm_inl mm_sg8 (i := 115) (by decide +kernel) (by decide +kernel)
theorem ml_X12_286 : Cond.methodLink RX12 286 zX12_drops.1 ∈ mm_tb := mm_inl mm_sg8 (i := 119) (by decide +kernel) (by decide +kernel)
theorem ml_X12_289 : Cond.methodLink RX12 289 zX12_fuses.1 ∈ mm_tb := mm_inl mm_sg8 (i := 123) (by decide +kernel) (by decide +kernel)
theorem ml_X12_292 : Cond.methodLink RX12 292 zX12_charges.1 ∈ mm_tb := mm_inl mm_sg8 (i := 127) (by decide +kernel) (by decide +kernel)
theorem ml_X12_295 : Cond.methodLink RX12 295 zX12_mends.1 ∈ mm_tb := mm_inl mm_sg8 (i := 131) (by decide +kernel) (by decide +kernel)
theorem ml_X12_298 : Cond.methodLink RX12 298 zX12_costs.1 ∈ mm_tb := mm_inl mm_sg8 (i := 111) (by decide +kernel) (by decide +kernel)
theorem ml_X12_302 : Cond.methodLink RX12 302 Lib.Math.max.name ∈ mm_tb := mm_inl mm_sg8 (i := 135) (by decide +kernel) (by decide +kernel)
theorem ml_X12_305 : Cond.methodLink RX12 305 zX12_reportsCome.1 ∈ mm_tb := mm_inl mm_sg8 (i := 83) (by decide +kernel) (by decide +kernel)
theorem ml_X12_308 : Cond.methodLink RX12 308 zX12_ordersCome.1 ∈ mm_tb := mm_inl mm_sg8 (i := 75) (by decide +kernel) (by decide +kernel)
theorem ml_X12_311 : Cond.methodLink RX12 311 zX12_powerComes.1 ∈ mm_tb := mm_inl mm_sg8 (i := 87) (by decide +kernel) (by decide +kernel)
theorem ml_X12_314 : Cond.methodLink RX12 314 zX12_goesOn.1 ∈ mm_tb := mm_inl mm_sg8 (i := 91) (by decide +kernel) (by decide +kernel)
theorem ml_X12_317 : Cond.methodLink RX12 317 zX12_reportsGo.1 ∈ mm_tb := mm_inl mm_sg8 (i := 151) (by decide +kernel) (by decide +kernel)
theorem ml_X12_320 : Cond.methodLink RX12 320 zX12_tick.1 ∈ mm_tb := mm_inl mm_sg8 (i := 71) (by decide +kernel) (by decide +kernel)
theorem ml_X12_323 : Cond.methodLink RX12 323 zX12_apart.1 ∈ mm_tb := mm_inl mm_sg8 (i := 159) (by decide +kernel) (by decide +kernel)
theorem ml_X12_326 : Cond.methodLink RX12 326 Lib.Math.abs.name ∈ mm_tb := mm_inl mm_sg8 (i := 163) (by decide +kernel) (by decide +kernel)
theorem ml_X12_329 : Cond.methodLink RX12 329 zX12_kilosOf.1 ∈ mm_tb := mm_inl mm_sg8 (i := 168) (by decide +kernel) (by decide +kernel)
theorem ml_X12_332 : Cond.methodLink RX12 332 zX12_powerBut.1 ∈ mm_tb := mm_inl mm_sg8 (i := 180) (by decide +kernel) (by decide +kernel)
theorem ml_X12_335 : Cond.methodLink RX12 335 zX12_harmOf.1 ∈ mm_tb := mm_inl mm_sg8 (i := 184) (by decide +kernel) (by decide +kernel)
theorem ml_X12_338 : Cond.methodLink RX12 338 zX12_many.1 ∈ mm_tb := mm_inl mm_sg8 (i := 188) (by decide +kernel) (by decide +kernel)
theorem ml_X12_341 : Cond.methodLink RX12 341 zX12_findCut.1 ∈ mm_tb := mm_inl mm_sg8 (i := 176) (by decide +kernel) (by decide +kernel)
theorem ml_X12_347 : Cond.methodLink RX12 347 zX12_paid.1 ∈ mm_tb := mm_inl mm_sg8 (i := 215) (by decide +kernel) (by decide +kernel)
theorem ml_X12_362 : Cond.methodLink RX12 362 zX12_seek.1 ∈ mm_tb := mm_inl mm_sg8 (i := 211) (by decide +kernel) (by decide +kernel)
theorem ml_X12_367 : Cond.methodLink RX12 367 zX12_findPlan.1 ∈ mm_tb := mm_inl mm_sg8 (i := 207) (by decide +kernel) (by decide +kernel)
theorem ml_X12_379 : Cond.methodLink RX12 379 zX12_hold.1 ∈ mm_tb := mm_inl mm_sg8 (i := 236) (by decide +kernel) (by decide +kernel)
theorem ml_X12_382 : Cond.methodLink RX12 382 zX12_holdPlan.1 ∈ mm_tb := mm_inl mm_sg8 (i := 232) (by decide +kernel) (by decide +kernel)
theorem ml_X12_74 : Cond.methodLink RX12 74 zX12_layGround.1 ∈ mm_tb := mm_inl mm_sg6 (i := 209) (by decide +kernel) (by decide +kernel)
theorem ml_X12_78 : Cond.methodLink RX12 78 zX12_cells.1 ∈ mm_tb := mm_inl mm_sg7 (i := 75) (by decide +kernel) (by decide +kernel)
theorem ml_X12_82 : Cond.methodLink RX12 82 zX12_within.1 ∈ mm_tb := mm_inl mm_sg7 (i := 71) (by decide +kernel) (by decide +kernel)
theorem ml_X12_87 : Cond.methodLink RX12 87 zX12_of.1 ∈ mm_tb := mm_inl mm_sg7 (i := 91) (by decide +kernel) (by decide +kernel)
theorem ml_X12_91 : Cond.methodLink RX12 91 zX12_isCell.1 ∈ mm_tb := mm_inl mm_sg7 (i := 83) (by decide +kernel) (by decide +kernel)
theorem ml_X12_95 : Cond.methodLink RX12 95 zX12_machineOn.1 ∈ mm_tb := mm_inl mm_sg7 (i := 87) (by decide +kernel) (by decide +kernel)
theorem jm_max : Cond.static Lib.Math.max.name ∈ mm_tb ∧ Cond.initialized "java/lang/Math" ∈ mm_tb ∧ Cond.code Lib.Math.max.name Lib.Math.max.code 2 (some .int) ∈ mm_tb := ⟨mm_inl mm_sg1 (i := 49) (by decide +kernel) (by decide +kernel), mm_inl mm_sg1 (i := 5) (by decide +kernel) (by decide +kernel), mm_inl mm_sg1 (i := 50) (by decide +kernel) (by decide +kernel)⟩
theorem jm_min : Cond.static Lib.Math.min.name ∈ mm_tb ∧ Cond.initialized "java/lang/Math" ∈ mm_tb ∧ Cond.code Lib.Math.min.name Lib.Math.min.code 2 (some .int) ∈ mm_tb := ⟨mm_inl mm_sg1 (i := 72) (by decide +kernel) (by decide +kernel), mm_inl mm_sg1 (i := 5) (by decide +kernel) (by decide +kernel), mm_inl mm_sg1 (i := 73) (by decide +kernel) (by decide +kernel)⟩
theorem jm_abs : Cond.static Lib.Math.abs.name ∈ mm_tb ∧ Cond.initialized "java/lang/Math" ∈ mm_tb ∧ Cond.code Lib.Math.abs.name Lib.Math.abs.code 1 (some .int) ∈ mm_tb := ⟨mm_inl mm_sg5 (i := 218) (by decide +kernel) (by decide +kernel), mm_inl mm_sg1 (i := 5) (by decide +kernel) (by decide +kernel), mm_inl mm_sg5 (i := 219) (by decide +kernel) (by decide +kernel)⟩
theorem jm_copy : Cond.native arraycopyName ∈ mm_tb ∧ Cond.static arraycopyName ∈ mm_tb ∧ Cond.initialized "java/lang/System" ∈ mm_tb := ⟨mm_inl mm_sg5 (i := 11) (by decide +kernel) (by decide +kernel), mm_inl mm_sg5 (i := 10) (by decide +kernel) (by decide +kernel), mm_inl mm_sg1 (i := 20) (by decide +kernel) (by decide +kernel)⟩
theorem jm_obj : Cond.instanceMethod Lib.objectInit ∈ mm_tb ∧ Cond.code Lib.objectInit ⟨#[0xb1]⟩ 1 none ∈ mm_tb := ⟨mm_inl mm_sg1 (i := 28) (by decide +kernel) (by decide +kernel), mm_inl mm_sg1 (i := 29) (by decide +kernel) (by decide +kernel)⟩
theorem jm_arr : Cond.arrayClass .int ∈ mm_tb := mm_inl mm_sg1 (i := 58) (by decide +kernel) (by decide +kernel)
