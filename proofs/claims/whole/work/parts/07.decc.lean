theorem dX12_init_0 : decode cX12_init 0 = .ok (.aload_n 0, 1) := by decide +kernel
theorem dX12_init_1 : decode cX12_init 1 = .ok (.invokespecial 1, 3) := by decide +kernel
theorem dX12_init_4 : decode cX12_init 4 = .ok (.aload_n 0, 1) := by decide +kernel
theorem dX12_init_5 : decode cX12_init 5 = .ok (.sipush 3734, 3) := by decide +kernel
theorem dX12_init_8 : decode cX12_init 8 = .ok (.newarray .int, 2) := by decide +kernel
theorem dX12_init_10 : decode cX12_init 10 = .ok (.putfield 9, 3) := by decide +kernel
theorem dX12_init_13 : decode cX12_init 13 = .ok (.aload_n 0, 1) := by decide +kernel
theorem dX12_init_14 : decode cX12_init 14 = .ok (.sipush 3734, 3) := by decide +kernel
theorem dX12_init_17 : decode cX12_init 17 = .ok (.newarray .int, 2) := by decide +kernel
theorem dX12_init_19 : decode cX12_init 19 = .ok (.putfield 13, 3) := by decide +kernel
theorem dX12_init_22 : decode cX12_init 22 = .ok (.aload_n 0, 1) := by decide +kernel
theorem dX12_init_23 : decode cX12_init 23 = .ok (.bipush 96, 2) := by decide +kernel
theorem dX12_init_25 : decode cX12_init 25 = .ok (.newarray .int, 2) := by decide +kernel
theorem dX12_init_27 : decode cX12_init 27 = .ok (.putfield 16, 3) := by decide +kernel
theorem dX12_init_30 : decode cX12_init 30 = .ok (.aload_n 0, 1) := by decide +kernel
theorem dX12_init_31 : decode cX12_init 31 = .ok (.bipush 100, 2) := by decide +kernel
theorem dX12_init_33 : decode cX12_init 33 = .ok (.newarray .int, 2) := by decide +kernel
theorem dX12_init_35 : decode cX12_init 35 = .ok (.putfield 19, 3) := by decide +kernel
theorem dX12_init_38 : decode cX12_init 38 = .ok (.aload_n 0, 1) := by decide +kernel
theorem dX12_init_39 : decode cX12_init 39 = .ok (.iconst 2, 1) := by decide +kernel
theorem dX12_init_40 : decode cX12_init 40 = .ok (.newarray .int, 2) := by decide +kernel
theorem dX12_init_42 : decode cX12_init 42 = .ok (.dup, 1) := by decide +kernel
theorem dX12_init_43 : decode cX12_init 43 = .ok (.iconst 0, 1) := by decide +kernel
theorem dX12_init_44 : decode cX12_init 44 = .ok (.iconst (-1), 1) := by decide +kernel
theorem dX12_init_45 : decode cX12_init 45 = .ok (.iastore, 1) := by decide +kernel
theorem dX12_init_46 : decode cX12_init 46 = .ok (.dup, 1) := by decide +kernel
theorem dX12_init_47 : decode cX12_init 47 = .ok (.iconst 1, 1) := by decide +kernel
theorem dX12_init_48 : decode cX12_init 48 = .ok (.iconst (-1), 1) := by decide +kernel
theorem dX12_init_49 : decode cX12_init 49 = .ok (.iastore, 1) := by decide +kernel
theorem dX12_init_50 : decode cX12_init 50 = .ok (.putfield 22, 3) := by decide +kernel
theorem dX12_init_53 : decode cX12_init 53 = .ok (.aload_n 0, 1) := by decide +kernel
theorem dX12_init_54 : decode cX12_init 54 = .ok (.sipush 160, 3) := by decide +kernel
theorem dX12_init_57 : decode cX12_init 57 = .ok (.newarray .int, 2) := by decide +kernel
theorem dX12_init_59 : decode cX12_init 59 = .ok (.putfield 25, 3) := by decide +kernel
theorem dX12_init_62 : decode cX12_init 62 = .ok (.aload_n 0, 1) := by decide +kernel
theorem dX12_init_63 : decode cX12_init 63 = .ok (.bipush 80, 2) := by decide +kernel
theorem dX12_init_65 : decode cX12_init 65 = .ok (.newarray .int, 2) := by decide +kernel
theorem dX12_init_67 : decode cX12_init 67 = .ok (.putfield 28, 3) := by decide +kernel
theorem dX12_init_70 : decode cX12_init 70 = .ok (.aload_n 0, 1) := by decide +kernel
theorem dX12_init_71 : decode cX12_init 71 = .ok (.bipush 80, 2) := by decide +kernel
theorem dX12_init_73 : decode cX12_init 73 = .ok (.newarray .int, 2) := by decide +kernel
theorem dX12_init_75 : decode cX12_init 75 = .ok (.putfield 31, 3) := by decide +kernel
theorem dX12_init_78 : decode cX12_init 78 = .ok (.aload_n 0, 1) := by decide +kernel
theorem dX12_init_79 : decode cX12_init 79 = .ok (.bipush 11, 2) := by decide +kernel
theorem dX12_init_81 : decode cX12_init 81 = .ok (.anewarray 34, 3) := by decide +kernel
theorem dX12_init_84 : decode cX12_init 84 = .ok (.dup, 1) := by decide +kernel
theorem dX12_init_85 : decode cX12_init 85 = .ok (.iconst 0, 1) := by decide +kernel
theorem dX12_init_86 : decode cX12_init 86 = .ok (.ldc 36, 2) := by decide +kernel
theorem dX12_init_88 : decode cX12_init 88 = .ok (.aastore, 1) := by decide +kernel
theorem dX12_init_89 : decode cX12_init 89 = .ok (.dup, 1) := by decide +kernel
theorem dX12_init_90 : decode cX12_init 90 = .ok (.iconst 1, 1) := by decide +kernel
theorem dX12_init_91 : decode cX12_init 91 = .ok (.ldc 38, 2) := by decide +kernel
theorem dX12_init_93 : decode cX12_init 93 = .ok (.aastore, 1) := by decide +kernel
theorem dX12_init_94 : decode cX12_init 94 = .ok (.dup, 1) := by decide +kernel
theorem dX12_init_95 : decode cX12_init 95 = .ok (.iconst 2, 1) := by decide +kernel
theorem dX12_init_96 : decode cX12_init 96 = .ok (.ldc 40, 2) := by decide +kernel
theorem dX12_init_98 : decode cX12_init 98 = .ok (.aastore, 1) := by decide +kernel
theorem dX12_init_99 : decode cX12_init 99 = .ok (.dup, 1) := by decide +kernel
theorem dX12_init_100 : decode cX12_init 100 = .ok (.iconst 3, 1) := by decide +kernel
theorem dX12_init_101 : decode cX12_init 101 = .ok (.ldc 42, 2) := by decide +kernel
theorem dX12_init_103 : decode cX12_init 103 = .ok (.aastore, 1) := by decide +kernel
theorem dX12_init_104 : decode cX12_init 104 = .ok (.dup, 1) := by decide +kernel
theorem dX12_init_105 : decode cX12_init 105 = .ok (.iconst 4, 1) := by decide +kernel
theorem dX12_init_106 : decode cX12_init 106 = .ok (.ldc 44, 2) := by decide +kernel
theorem dX12_init_108 : decode cX12_init 108 = .ok (.aastore, 1) := by decide +kernel
theorem dX12_init_109 : decode cX12_init 109 = .ok (.dup, 1) := by decide +kernel
theorem dX12_init_110 : decode cX12_init 110 = .ok (.iconst 5, 1) := by decide +kernel
theorem dX12_init_111 : decode cX12_init 111 = .ok (.ldc 46, 2) := by decide +kernel
theorem dX12_init_113 : decode cX12_init 113 = .ok (.aastore, 1) := by decide +kernel
theorem dX12_init_114 : decode cX12_init 114 = .ok (.dup, 1) := by decide +kernel
theorem dX12_init_115 : decode cX12_init 115 = .ok (.bipush 6, 2) := by decide +kernel
theorem dX12_init_117 : decode cX12_init 117 = .ok (.ldc 48, 2) := by decide +kernel
theorem dX12_init_119 : decode cX12_init 119 = .ok (.aastore, 1) := by decide +kernel
theorem dX12_init_120 : decode cX12_init 120 = .ok (.dup, 1) := by decide +kernel
theorem dX12_init_121 : decode cX12_init 121 = .ok (.bipush 7, 2) := by decide +kernel
theorem dX12_init_123 : decode cX12_init 123 = .ok (.ldc 50, 2) := by decide +kernel
theorem dX12_init_125 : decode cX12_init 125 = .ok (.aastore, 1) := by decide +kernel
theorem dX12_init_126 : decode cX12_init 126 = .ok (.dup, 1) := by decide +kernel
theorem dX12_init_127 : decode cX12_init 127 = .ok (.bipush 8, 2) := by decide +kernel
theorem dX12_init_129 : decode cX12_init 129 = .ok (.ldc 52, 2) := by decide +kernel
theorem dX12_init_131 : decode cX12_init 131 = .ok (.aastore, 1) := by decide +kernel
theorem dX12_init_132 : decode cX12_init 132 = .ok (.dup, 1) := by decide +kernel
theorem dX12_init_133 : decode cX12_init 133 = .ok (.bipush 9, 2) := by decide +kernel
theorem dX12_init_135 : decode cX12_init 135 = .ok (.ldc 54, 2) := by decide +kernel
theorem dX12_init_137 : decode cX12_init 137 = .ok (.aastore, 1) := by decide +kernel
theorem dX12_init_138 : decode cX12_init 138 = .ok (.dup, 1) := by decide +kernel
theorem dX12_init_139 : decode cX12_init 139 = .ok (.bipush 10, 2) := by decide +kernel
theorem dX12_init_141 : decode cX12_init 141 = .ok (.ldc 56, 2) := by decide +kernel
theorem dX12_init_143 : decode cX12_init 143 = .ok (.aastore, 1) := by decide +kernel
theorem dX12_init_144 : decode cX12_init 144 = .ok (.putfield 58, 3) := by decide +kernel
theorem dX12_init_147 : decode cX12_init 147 = .ok (.aload_n 0, 1) := by decide +kernel
theorem dX12_init_148 : decode cX12_init 148 = .ok (.sipush 160, 3) := by decide +kernel
theorem dX12_init_151 : decode cX12_init 151 = .ok (.newarray .int, 2) := by decide +kernel
theorem dX12_init_153 : decode cX12_init 153 = .ok (.putfield 62, 3) := by decide +kernel
theorem dX12_init_156 : decode cX12_init 156 = .ok (.aload_n 0, 1) := by decide +kernel
theorem dX12_init_157 : decode cX12_init 157 = .ok (.bipush 6, 2) := by decide +kernel
theorem dX12_init_159 : decode cX12_init 159 = .ok (.newarray .int, 2) := by decide +kernel
theorem dX12_init_161 : decode cX12_init 161 = .ok (.putfield 65, 3) := by decide +kernel
theorem dX12_init_164 : decode cX12_init 164 = .ok (.aload_n 0, 1) := by decide +kernel
theorem dX12_init_165 : decode cX12_init 165 = .ok (.bipush 6, 2) := by decide +kernel
theorem dX12_init_167 : decode cX12_init 167 = .ok (.newarray .int, 2) := by decide +kernel
theorem dX12_init_169 : decode cX12_init 169 = .ok (.putfield 68, 3) := by decide +kernel
theorem dX12_init_172 : decode cX12_init 172 = .ok (.aload_n 0, 1) := by decide +kernel
theorem dX12_init_173 : decode cX12_init 173 = .ok (.bipush 80, 2) := by decide +kernel
theorem dX12_init_175 : decode cX12_init 175 = .ok (.newarray .int, 2) := by decide +kernel
theorem dX12_init_177 : decode cX12_init 177 = .ok (.putfield 71, 3) := by decide +kernel
theorem dX12_init_180 : decode cX12_init 180 = .ok (.aload_n 0, 1) := by decide +kernel
theorem dX12_init_181 : decode cX12_init 181 = .ok (.getfield 9, 3) := by decide +kernel
theorem dX12_init_184 : decode cX12_init 184 = .ok (.iconst 2, 1) := by decide +kernel
theorem dX12_init_185 : decode cX12_init 185 = .ok (.bipush 14, 2) := by decide +kernel
theorem dX12_init_187 : decode cX12_init 187 = .ok (.iastore, 1) := by decide +kernel
theorem dX12_init_188 : decode cX12_init 188 = .ok (.aload_n 0, 1) := by decide +kernel
theorem dX12_init_189 : decode cX12_init 189 = .ok (.getfield 9, 3) := by decide +kernel
theorem dX12_init_192 : decode cX12_init 192 = .ok (.iconst 3, 1) := by decide +kernel
theorem dX12_init_193 : decode cX12_init 193 = .ok (.bipush 14, 2) := by decide +kernel
theorem dX12_init_195 : decode cX12_init 195 = .ok (.iastore, 1) := by decide +kernel
theorem dX12_init_196 : decode cX12_init 196 = .ok (.aload_n 0, 1) := by decide +kernel
theorem dX12_init_197 : decode cX12_init 197 = .ok (.getfield 9, 3) := by decide +kernel
theorem dX12_init_200 : decode cX12_init 200 = .ok (.iconst 4, 1) := by decide +kernel
theorem dX12_init_201 : decode cX12_init 201 = .ok (.bipush 100, 2) := by decide +kernel
theorem dX12_init_203 : decode cX12_init 203 = .ok (.iastore, 1) := by decide +kernel
theorem dX12_init_204 : decode cX12_init 204 = .ok (.aload_n 0, 1) := by decide +kernel
theorem dX12_init_205 : decode cX12_init 205 = .ok (.getfield 9, 3) := by decide +kernel
theorem dX12_init_208 : decode cX12_init 208 = .ok (.iconst 5, 1) := by decide +kernel
theorem dX12_init_209 : decode cX12_init 209 = .ok (.bipush 10, 2) := by decide +kernel
theorem dX12_init_211 : decode cX12_init 211 = .ok (.iastore, 1) := by decide +kernel
theorem dX12_init_212 : decode cX12_init 212 = .ok (.aload_n 0, 1) := by decide +kernel
theorem dX12_init_213 : decode cX12_init 213 = .ok (.getfield 9, 3) := by decide +kernel
theorem dX12_init_216 : decode cX12_init 216 = .ok (.bipush 6, 2) := by decide +kernel
theorem dX12_init_218 : decode cX12_init 218 = .ok (.iconst 3, 1) := by decide +kernel
theorem dX12_init_219 : decode cX12_init 219 = .ok (.iastore, 1) := by decide +kernel
theorem dX12_init_220 : decode cX12_init 220 = .ok (.aload_n 0, 1) := by decide +kernel
theorem dX12_init_221 : decode cX12_init 221 = .ok (.bipush 6, 2) := by decide +kernel
theorem dX12_init_223 : decode cX12_init 223 = .ok (.iconst 4, 1) := by decide +kernel
theorem dX12_init_224 : decode cX12_init 224 = .ok (.invokevirtual 74, 3) := by decide +kernel
theorem dX12_init_227 : decode cX12_init 227 = .ok (.return_, 1) := by decide +kernel
theorem dX12_within_0 : decode cX12_within 0 = .ok (.iload_n 0, 1) := by decide +kernel
theorem dX12_within_1 : decode cX12_within 1 = .ok (.iload_n 1, 1) := by decide +kernel
theorem dX12_within_2 : decode cX12_within 2 = .ok (.if_icmp .lt 12, 3) := by decide +kernel
theorem dX12_within_5 : decode cX12_within 5 = .ok (.iload_n 0, 1) := by decide +kernel
theorem dX12_within_6 : decode cX12_within 6 = .ok (.iload_n 2, 1) := by decide +kernel
theorem dX12_within_7 : decode cX12_within 7 = .ok (.if_icmp .gt 7, 3) := by decide +kernel
theorem dX12_within_10 : decode cX12_within 10 = .ok (.iconst 1, 1) := by decide +kernel
theorem dX12_within_11 : decode cX12_within 11 = .ok (.goto 4, 3) := by decide +kernel
theorem dX12_within_14 : decode cX12_within 14 = .ok (.iconst 0, 1) := by decide +kernel
theorem dX12_within_15 : decode cX12_within 15 = .ok (.ireturn, 1) := by decide +kernel
theorem dX12_cells_0 : decode cX12_cells 0 = .ok (.aload_n 0, 1) := by decide +kernel
theorem dX12_cells_1 : decode cX12_cells 1 = .ok (.getfield 9, 3) := by decide +kernel
theorem dX12_cells_4 : decode cX12_cells 4 = .ok (.iconst 0, 1) := by decide +kernel
theorem dX12_cells_5 : decode cX12_cells 5 = .ok (.iaload, 1) := by decide +kernel
theorem dX12_cells_6 : decode cX12_cells 6 = .ok (.aload_n 0, 1) := by decide +kernel
theorem dX12_cells_7 : decode cX12_cells 7 = .ok (.getfield 9, 3) := by decide +kernel
theorem dX12_cells_10 : decode cX12_cells 10 = .ok (.iconst 1, 1) := by decide +kernel
theorem dX12_cells_11 : decode cX12_cells 11 = .ok (.iaload, 1) := by decide +kernel
theorem dX12_cells_12 : decode cX12_cells 12 = .ok (.imul, 1) := by decide +kernel
theorem dX12_cells_13 : decode cX12_cells 13 = .ok (.ireturn, 1) := by decide +kernel
theorem dX12_isCell_0 : decode cX12_isCell 0 = .ok (.iload_n 1, 1) := by decide +kernel
theorem dX12_isCell_1 : decode cX12_isCell 1 = .ok (.iconst 0, 1) := by decide +kernel
theorem dX12_isCell_2 : decode cX12_isCell 2 = .ok (.aload_n 0, 1) := by decide +kernel
theorem dX12_isCell_3 : decode cX12_isCell 3 = .ok (.invokevirtual 78, 3) := by decide +kernel
theorem dX12_isCell_6 : decode cX12_isCell 6 = .ok (.iconst 1, 1) := by decide +kernel
theorem dX12_isCell_7 : decode cX12_isCell 7 = .ok (.isub, 1) := by decide +kernel
theorem dX12_isCell_8 : decode cX12_isCell 8 = .ok (.invokestatic 82, 3) := by decide +kernel
theorem dX12_isCell_11 : decode cX12_isCell 11 = .ok (.ireturn, 1) := by decide +kernel
theorem dX12_isMachine_0 : decode cX12_isMachine 0 = .ok (.iload_n 1, 1) := by decide +kernel
theorem dX12_isMachine_1 : decode cX12_isMachine 1 = .ok (.iconst 0, 1) := by decide +kernel
theorem dX12_isMachine_2 : decode cX12_isMachine 2 = .ok (.aload_n 0, 1) := by decide +kernel
theorem dX12_isMachine_3 : decode cX12_isMachine 3 = .ok (.getfield 9, 3) := by decide +kernel
theorem dX12_isMachine_6 : decode cX12_isMachine 6 = .ok (.bipush 16, 2) := by decide +kernel
theorem dX12_isMachine_8 : decode cX12_isMachine 8 = .ok (.iaload, 1) := by decide +kernel
theorem dX12_isMachine_9 : decode cX12_isMachine 9 = .ok (.iconst 1, 1) := by decide +kernel
theorem dX12_isMachine_10 : decode cX12_isMachine 10 = .ok (.isub, 1) := by decide +kernel
theorem dX12_isMachine_11 : decode cX12_isMachine 11 = .ok (.invokestatic 82, 3) := by decide +kernel
theorem dX12_isMachine_14 : decode cX12_isMachine 14 = .ok (.ireturn, 1) := by decide +kernel
theorem dX12_of_0 : decode cX12_of 0 = .ok (.sipush 630, 3) := by decide +kernel
theorem dX12_of_3 : decode cX12_of 3 = .ok (.bipush 40, 2) := by decide +kernel
theorem dX12_of_5 : decode cX12_of 5 = .ok (.iload_n 0, 1) := by decide +kernel
theorem dX12_of_6 : decode cX12_of 6 = .ok (.imul, 1) := by decide +kernel
theorem dX12_of_7 : decode cX12_of 7 = .ok (.iadd, 1) := by decide +kernel
theorem dX12_of_8 : decode cX12_of 8 = .ok (.iload_n 1, 1) := by decide +kernel
theorem dX12_of_9 : decode cX12_of 9 = .ok (.iadd, 1) := by decide +kernel
theorem dX12_of_10 : decode cX12_of 10 = .ok (.ireturn, 1) := by decide +kernel
theorem dX12_layGround_0 : decode cX12_layGround 0 = .ok (.aload_n 0, 1) := by decide +kernel
theorem dX12_layGround_1 : decode cX12_layGround 1 = .ok (.getfield 9, 3) := by decide +kernel
theorem dX12_layGround_4 : decode cX12_layGround 4 = .ok (.iconst 0, 1) := by decide +kernel
theorem dX12_layGround_5 : decode cX12_layGround 5 = .ok (.iload_n 1, 1) := by decide +kernel
theorem dX12_layGround_6 : decode cX12_layGround 6 = .ok (.iastore, 1) := by decide +kernel
theorem dX12_layGround_7 : decode cX12_layGround 7 = .ok (.aload_n 0, 1) := by decide +kernel
theorem dX12_layGround_8 : decode cX12_layGround 8 = .ok (.getfield 9, 3) := by decide +kernel
theorem dX12_layGround_11 : decode cX12_layGround 11 = .ok (.iconst 1, 1) := by decide +kernel
theorem dX12_layGround_12 : decode cX12_layGround 12 = .ok (.iload_n 2, 1) := by decide +kernel
theorem dX12_layGround_13 : decode cX12_layGround 13 = .ok (.iastore, 1) := by decide +kernel
theorem dX12_layGround_14 : decode cX12_layGround 14 = .ok (.iconst 0, 1) := by decide +kernel
theorem dX12_layGround_15 : decode cX12_layGround 15 = .ok (.istore_n 3, 1) := by decide +kernel
theorem dX12_layGround_16 : decode cX12_layGround 16 = .ok (.iload_n 3, 1) := by decide +kernel
theorem dX12_layGround_17 : decode cX12_layGround 17 = .ok (.bipush 80, 2) := by decide +kernel
theorem dX12_layGround_19 : decode cX12_layGround 19 = .ok (.if_icmp .ge 79, 3) := by decide +kernel
theorem dX12_layGround_22 : decode cX12_layGround 22 = .ok (.aload_n 0, 1) := by decide +kernel
theorem dX12_layGround_23 : decode cX12_layGround 23 = .ok (.getfield 9, 3) := by decide +kernel
theorem dX12_layGround_26 : decode cX12_layGround 26 = .ok (.bipush 30, 2) := by decide +kernel
theorem dX12_layGround_28 : decode cX12_layGround 28 = .ok (.iload_n 3, 1) := by decide +kernel
theorem dX12_layGround_29 : decode cX12_layGround 29 = .ok (.iadd, 1) := by decide +kernel
theorem dX12_layGround_30 : decode cX12_layGround 30 = .ok (.iload_n 3, 1) := by decide +kernel
theorem dX12_layGround_31 : decode cX12_layGround 31 = .ok (.ifCond .ne 7, 3) := by decide +kernel
theorem dX12_layGround_34 : decode cX12_layGround 34 = .ok (.iconst 4, 1) := by decide +kernel
theorem dX12_layGround_35 : decode cX12_layGround 35 = .ok (.goto 4, 3) := by decide +kernel
theorem dX12_layGround_38 : decode cX12_layGround 38 = .ok (.iconst 0, 1) := by decide +kernel
theorem dX12_layGround_39 : decode cX12_layGround 39 = .ok (.iastore, 1) := by decide +kernel
theorem dX12_layGround_40 : decode cX12_layGround 40 = .ok (.aload_n 0, 1) := by decide +kernel
theorem dX12_layGround_41 : decode cX12_layGround 41 = .ok (.getfield 9, 3) := by decide +kernel
theorem dX12_layGround_44 : decode cX12_layGround 44 = .ok (.bipush 110, 2) := by decide +kernel
theorem dX12_layGround_46 : decode cX12_layGround 46 = .ok (.iload_n 3, 1) := by decide +kernel
theorem dX12_layGround_47 : decode cX12_layGround 47 = .ok (.iadd, 1) := by decide +kernel
theorem dX12_layGround_48 : decode cX12_layGround 48 = .ok (.iload_n 3, 1) := by decide +kernel
theorem dX12_layGround_49 : decode cX12_layGround 49 = .ok (.ifCond .eq 10, 3) := by decide +kernel
theorem dX12_layGround_52 : decode cX12_layGround 52 = .ok (.iload_n 3, 1) := by decide +kernel
theorem dX12_layGround_53 : decode cX12_layGround 53 = .ok (.iload_n 1, 1) := by decide +kernel
theorem dX12_layGround_54 : decode cX12_layGround 54 = .ok (.iload_n 2, 1) := by decide +kernel
theorem dX12_layGround_55 : decode cX12_layGround 55 = .ok (.imul, 1) := by decide +kernel
theorem dX12_layGround_56 : decode cX12_layGround 56 = .ok (.if_icmp .lt 7, 3) := by decide +kernel
theorem dX12_layGround_59 : decode cX12_layGround 59 = .ok (.iconst 0, 1) := by decide +kernel
theorem dX12_layGround_60 : decode cX12_layGround 60 = .ok (.goto 5, 3) := by decide +kernel
theorem dX12_layGround_63 : decode cX12_layGround 63 = .ok (.bipush 20, 2) := by decide +kernel
theorem dX12_layGround_65 : decode cX12_layGround 65 = .ok (.iastore, 1) := by decide +kernel
theorem dX12_layGround_66 : decode cX12_layGround 66 = .ok (.aload_n 0, 1) := by decide +kernel
theorem dX12_layGround_67 : decode cX12_layGround 67 = .ok (.getfield 9, 3) := by decide +kernel
theorem dX12_layGround_70 : decode cX12_layGround 70 = .ok (.sipush 190, 3) := by decide +kernel
theorem dX12_layGround_73 : decode cX12_layGround 73 = .ok (.iload_n 3, 1) := by decide +kernel
theorem dX12_layGround_74 : decode cX12_layGround 74 = .ok (.iadd, 1) := by decide +kernel
theorem dX12_layGround_75 : decode cX12_layGround 75 = .ok (.iconst 0, 1) := by decide +kernel
theorem dX12_layGround_76 : decode cX12_layGround 76 = .ok (.iastore, 1) := by decide +kernel
theorem dX12_layGround_77 : decode cX12_layGround 77 = .ok (.aload_n 0, 1) := by decide +kernel
theorem dX12_layGround_78 : decode cX12_layGround 78 = .ok (.getfield 9, 3) := by decide +kernel
theorem dX12_layGround_81 : decode cX12_layGround 81 = .ok (.sipush 270, 3) := by decide +kernel
theorem dX12_layGround_84 : decode cX12_layGround 84 = .ok (.iconst 4, 1) := by decide +kernel
theorem dX12_layGround_85 : decode cX12_layGround 85 = .ok (.iload_n 3, 1) := by decide +kernel
theorem dX12_layGround_86 : decode cX12_layGround 86 = .ok (.imul, 1) := by decide +kernel
theorem dX12_layGround_87 : decode cX12_layGround 87 = .ok (.iadd, 1) := by decide +kernel
theorem dX12_layGround_88 : decode cX12_layGround 88 = .ok (.iconst 3, 1) := by decide +kernel
theorem dX12_layGround_89 : decode cX12_layGround 89 = .ok (.iadd, 1) := by decide +kernel
theorem dX12_layGround_90 : decode cX12_layGround 90 = .ok (.iconst (-1), 1) := by decide +kernel
theorem dX12_layGround_91 : decode cX12_layGround 91 = .ok (.iastore, 1) := by decide +kernel
theorem dX12_layGround_92 : decode cX12_layGround 92 = .ok (.iinc 3 1, 3) := by decide +kernel
theorem dX12_layGround_95 : decode cX12_layGround 95 = .ok (.goto (-79), 3) := by decide +kernel
theorem dX12_layGround_98 : decode cX12_layGround 98 = .ok (.aload_n 0, 1) := by decide +kernel
theorem dX12_layGround_99 : decode cX12_layGround 99 = .ok (.getfield 9, 3) := by decide +kernel
theorem dX12_layGround_102 : decode cX12_layGround 102 = .ok (.bipush 16, 2) := by decide +kernel
theorem dX12_layGround_104 : decode cX12_layGround 104 = .ok (.iconst 0, 1) := by decide +kernel
theorem dX12_layGround_105 : decode cX12_layGround 105 = .ok (.iastore, 1) := by decide +kernel
theorem dX12_layGround_106 : decode cX12_layGround 106 = .ok (.aload_n 0, 1) := by decide +kernel
theorem dX12_layGround_107 : decode cX12_layGround 107 = .ok (.getfield 9, 3) := by decide +kernel
theorem dX12_layGround_110 : decode cX12_layGround 110 = .ok (.bipush 17, 2) := by decide +kernel
theorem dX12_layGround_112 : decode cX12_layGround 112 = .ok (.iconst 0, 1) := by decide +kernel
theorem dX12_layGround_113 : decode cX12_layGround 113 = .ok (.iastore, 1) := by decide +kernel
theorem dX12_layGround_114 : decode cX12_layGround 114 = .ok (.aload_n 0, 1) := by decide +kernel
theorem dX12_layGround_115 : decode cX12_layGround 115 = .ok (.getfield 9, 3) := by decide +kernel
theorem dX12_layGround_118 : decode cX12_layGround 118 = .ok (.bipush 18, 2) := by decide +kernel
theorem dX12_layGround_120 : decode cX12_layGround 120 = .ok (.iconst 0, 1) := by decide +kernel
theorem dX12_layGround_121 : decode cX12_layGround 121 = .ok (.iastore, 1) := by decide +kernel
theorem dX12_layGround_122 : decode cX12_layGround 122 = .ok (.aload_n 0, 1) := by decide +kernel
theorem dX12_layGround_123 : decode cX12_layGround 123 = .ok (.getfield 9, 3) := by decide +kernel
theorem dX12_layGround_126 : decode cX12_layGround 126 = .ok (.bipush 10, 2) := by decide +kernel
theorem dX12_layGround_128 : decode cX12_layGround 128 = .ok (.iconst 0, 1) := by decide +kernel
theorem dX12_layGround_129 : decode cX12_layGround 129 = .ok (.iastore, 1) := by decide +kernel
theorem dX12_layGround_130 : decode cX12_layGround 130 = .ok (.aload_n 0, 1) := by decide +kernel
theorem dX12_layGround_131 : decode cX12_layGround 131 = .ok (.getfield 9, 3) := by decide +kernel
theorem dX12_layGround_134 : decode cX12_layGround 134 = .ok (.bipush 11, 2) := by decide +kernel
theorem dX12_layGround_136 : decode cX12_layGround 136 = .ok (.iconst 0, 1) := by decide +kernel
theorem dX12_layGround_137 : decode cX12_layGround 137 = .ok (.iastore, 1) := by decide +kernel
theorem dX12_layGround_138 : decode cX12_layGround 138 = .ok (.aload_n 0, 1) := by decide +kernel
theorem dX12_layGround_139 : decode cX12_layGround 139 = .ok (.getfield 9, 3) := by decide +kernel
theorem dX12_layGround_142 : decode cX12_layGround 142 = .ok (.bipush 12, 2) := by decide +kernel
theorem dX12_layGround_144 : decode cX12_layGround 144 = .ok (.iconst 0, 1) := by decide +kernel
theorem dX12_layGround_145 : decode cX12_layGround 145 = .ok (.iastore, 1) := by decide +kernel
theorem dX12_layGround_146 : decode cX12_layGround 146 = .ok (.aload_n 0, 1) := by decide +kernel
theorem dX12_layGround_147 : decode cX12_layGround 147 = .ok (.getfield 9, 3) := by decide +kernel
theorem dX12_layGround_150 : decode cX12_layGround 150 = .ok (.bipush 13, 2) := by decide +kernel
theorem dX12_layGround_152 : decode cX12_layGround 152 = .ok (.iconst 0, 1) := by decide +kernel
theorem dX12_layGround_153 : decode cX12_layGround 153 = .ok (.iastore, 1) := by decide +kernel
theorem dX12_layGround_154 : decode cX12_layGround 154 = .ok (.aload_n 0, 1) := by decide +kernel
theorem dX12_layGround_155 : decode cX12_layGround 155 = .ok (.getfield 9, 3) := by decide +kernel
theorem dX12_layGround_158 : decode cX12_layGround 158 = .ok (.bipush 14, 2) := by decide +kernel
theorem dX12_layGround_160 : decode cX12_layGround 160 = .ok (.iconst 0, 1) := by decide +kernel
theorem dX12_layGround_161 : decode cX12_layGround 161 = .ok (.iastore, 1) := by decide +kernel
theorem dX12_layGround_162 : decode cX12_layGround 162 = .ok (.return_, 1) := by decide +kernel
theorem dX12_ground_0 : decode cX12_ground 0 = .ok (.iload_n 1, 1) := by decide +kernel
theorem dX12_ground_1 : decode cX12_ground 1 = .ok (.iconst 2, 1) := by decide +kernel
theorem dX12_ground_2 : decode cX12_ground 2 = .ok (.bipush 10, 2) := by decide +kernel
theorem dX12_ground_4 : decode cX12_ground 4 = .ok (.invokestatic 82, 3) := by decide +kernel
theorem dX12_ground_7 : decode cX12_ground 7 = .ok (.ifCond .eq 13, 3) := by decide +kernel
theorem dX12_ground_10 : decode cX12_ground 10 = .ok (.iload_n 2, 1) := by decide +kernel
theorem dX12_ground_11 : decode cX12_ground 11 = .ok (.iconst 2, 1) := by decide +kernel
theorem dX12_ground_12 : decode cX12_ground 12 = .ok (.bipush 8, 2) := by decide +kernel
theorem dX12_ground_14 : decode cX12_ground 14 = .ok (.invokestatic 82, 3) := by decide +kernel
theorem dX12_ground_17 : decode cX12_ground 17 = .ok (.ifCond .ne 6, 3) := by decide +kernel
theorem dX12_ground_20 : decode cX12_ground 20 = .ok (.ldc 86, 2) := by decide +kernel
theorem dX12_ground_22 : decode cX12_ground 22 = .ok (.ireturn, 1) := by decide +kernel
theorem dX12_ground_23 : decode cX12_ground 23 = .ok (.aload_n 0, 1) := by decide +kernel
theorem dX12_ground_24 : decode cX12_ground 24 = .ok (.iload_n 1, 1) := by decide +kernel
theorem dX12_ground_25 : decode cX12_ground 25 = .ok (.iload_n 2, 1) := by decide +kernel
theorem dX12_ground_26 : decode cX12_ground 26 = .ok (.invokevirtual 74, 3) := by decide +kernel
theorem dX12_ground_29 : decode cX12_ground 29 = .ok (.aload_n 0, 1) := by decide +kernel
theorem dX12_ground_30 : decode cX12_ground 30 = .ok (.invokevirtual 78, 3) := by decide +kernel
theorem dX12_ground_33 : decode cX12_ground 33 = .ok (.ireturn, 1) := by decide +kernel
theorem dX12_machineOn_0 : decode cX12_machineOn 0 = .ok (.iconst (-1), 1) := by decide +kernel
theorem dX12_machineOn_1 : decode cX12_machineOn 1 = .ok (.istore_n 2, 1) := by decide +kernel
theorem dX12_machineOn_2 : decode cX12_machineOn 2 = .ok (.iconst 0, 1) := by decide +kernel
theorem dX12_machineOn_3 : decode cX12_machineOn 3 = .ok (.istore_n 3, 1) := by decide +kernel
theorem dX12_machineOn_4 : decode cX12_machineOn 4 = .ok (.iload_n 3, 1) := by decide +kernel
theorem dX12_machineOn_5 : decode cX12_machineOn 5 = .ok (.aload_n 0, 1) := by decide +kernel
theorem dX12_machineOn_6 : decode cX12_machineOn 6 = .ok (.getfield 9, 3) := by decide +kernel
theorem dX12_machineOn_9 : decode cX12_machineOn 9 = .ok (.bipush 16, 2) := by decide +kernel
theorem dX12_machineOn_11 : decode cX12_machineOn 11 = .ok (.iaload, 1) := by decide +kernel
theorem dX12_machineOn_12 : decode cX12_machineOn 12 = .ok (.if_icmp .ge 29, 3) := by decide +kernel
theorem dX12_machineOn_15 : decode cX12_machineOn 15 = .ok (.aload_n 0, 1) := by decide +kernel
theorem dX12_machineOn_16 : decode cX12_machineOn 16 = .ok (.getfield 9, 3) := by decide +kernel
theorem dX12_machineOn_19 : decode cX12_machineOn 19 = .ok (.iload_n 3, 1) := by decide +kernel
theorem dX12_machineOn_20 : decode cX12_machineOn 20 = .ok (.iconst 1, 1) := by decide +kernel
theorem dX12_machineOn_21 : decode cX12_machineOn 21 = .ok (.invokestatic 87, 3) := by decide +kernel
theorem dX12_machineOn_24 : decode cX12_machineOn 24 = .ok (.iaload, 1) := by decide +kernel
theorem dX12_machineOn_25 : decode cX12_machineOn 25 = .ok (.iload_n 1, 1) := by decide +kernel
theorem dX12_machineOn_26 : decode cX12_machineOn 26 = .ok (.if_icmp .ne 7, 3) := by decide +kernel
theorem dX12_machineOn_29 : decode cX12_machineOn 29 = .ok (.iload_n 3, 1) := by decide +kernel
theorem dX12_machineOn_30 : decode cX12_machineOn 30 = .ok (.goto 4, 3) := by decide +kernel
theorem dX12_machineOn_33 : decode cX12_machineOn 33 = .ok (.iload_n 2, 1) := by decide +kernel
theorem dX12_machineOn_34 : decode cX12_machineOn 34 = .ok (.istore_n 2, 1) := by decide +kernel
theorem dX12_machineOn_35 : decode cX12_machineOn 35 = .ok (.iinc 3 1, 3) := by decide +kernel
theorem dX12_machineOn_38 : decode cX12_machineOn 38 = .ok (.goto (-34), 3) := by decide +kernel
theorem dX12_machineOn_41 : decode cX12_machineOn 41 = .ok (.iload_n 2, 1) := by decide +kernel
theorem dX12_machineOn_42 : decode cX12_machineOn 42 = .ok (.ireturn, 1) := by decide +kernel
theorem dX12_cell_0 : decode cX12_cell 0 = .ok (.aload_n 0, 1) := by decide +kernel
theorem dX12_cell_1 : decode cX12_cell 1 = .ok (.iload_n 1, 1) := by decide +kernel
theorem dX12_cell_2 : decode cX12_cell 2 = .ok (.invokevirtual 91, 3) := by decide +kernel
theorem dX12_cell_5 : decode cX12_cell 5 = .ok (.ifCond .eq 16, 3) := by decide +kernel
theorem dX12_cell_8 : decode cX12_cell 8 = .ok (.iload_n 1, 1) := by decide +kernel
theorem dX12_cell_9 : decode cX12_cell 9 = .ok (.ifCond .eq 12, 3) := by decide +kernel
theorem dX12_cell_12 : decode cX12_cell 12 = .ok (.iload_n 2, 1) := by decide +kernel
theorem dX12_cell_13 : decode cX12_cell 13 = .ok (.iconst 0, 1) := by decide +kernel
theorem dX12_cell_14 : decode cX12_cell 14 = .ok (.iconst 3, 1) := by decide +kernel
theorem dX12_cell_15 : decode cX12_cell 15 = .ok (.invokestatic 82, 3) := by decide +kernel
theorem dX12_cell_18 : decode cX12_cell 18 = .ok (.ifCond .ne 6, 3) := by decide +kernel
theorem dX12_cell_21 : decode cX12_cell 21 = .ok (.ldc 86, 2) := by decide +kernel
theorem dX12_cell_23 : decode cX12_cell 23 = .ok (.ireturn, 1) := by decide +kernel
theorem dX12_cell_24 : decode cX12_cell 24 = .ok (.iload_n 2, 1) := by decide +kernel
theorem dX12_cell_25 : decode cX12_cell 25 = .ok (.iconst 1, 1) := by decide +kernel
theorem dX12_cell_26 : decode cX12_cell 26 = .ok (.if_icmp .ne 14, 3) := by decide +kernel
theorem dX12_cell_29 : decode cX12_cell 29 = .ok (.aload_n 0, 1) := by decide +kernel
theorem dX12_cell_30 : decode cX12_cell 30 = .ok (.iload_n 1, 1) := by decide +kernel
theorem dX12_cell_31 : decode cX12_cell 31 = .ok (.invokevirtual 95, 3) := by decide +kernel
theorem dX12_cell_34 : decode cX12_cell 34 = .ok (.ifCond .lt 6, 3) := by decide +kernel
theorem dX12_cell_37 : decode cX12_cell 37 = .ok (.ldc 99, 2) := by decide +kernel
theorem dX12_cell_39 : decode cX12_cell 39 = .ok (.ireturn, 1) := by decide +kernel
theorem dX12_cell_40 : decode cX12_cell 40 = .ok (.aload_n 0, 1) := by decide +kernel
theorem dX12_cell_41 : decode cX12_cell 41 = .ok (.getfield 9, 3) := by decide +kernel
theorem dX12_cell_44 : decode cX12_cell 44 = .ok (.bipush 30, 2) := by decide +kernel
theorem dX12_cell_46 : decode cX12_cell 46 = .ok (.iload_n 1, 1) := by decide +kernel
theorem dX12_cell_47 : decode cX12_cell 47 = .ok (.iadd, 1) := by decide +kernel
theorem dX12_cell_48 : decode cX12_cell 48 = .ok (.iaload, 1) := by decide +kernel
theorem dX12_cell_49 : decode cX12_cell 49 = .ok (.istore_n 3, 1) := by decide +kernel
theorem dX12_cell_50 : decode cX12_cell 50 = .ok (.aload_n 0, 1) := by decide +kernel
theorem dX12_cell_51 : decode cX12_cell 51 = .ok (.getfield 9, 3) := by decide +kernel
theorem dX12_cell_54 : decode cX12_cell 54 = .ok (.bipush 30, 2) := by decide +kernel
theorem dX12_cell_56 : decode cX12_cell 56 = .ok (.iload_n 1, 1) := by decide +kernel
theorem dX12_cell_57 : decode cX12_cell 57 = .ok (.iadd, 1) := by decide +kernel
theorem dX12_cell_58 : decode cX12_cell 58 = .ok (.iload_n 2, 1) := by decide +kernel
theorem dX12_cell_59 : decode cX12_cell 59 = .ok (.iastore, 1) := by decide +kernel
theorem dX12_cell_60 : decode cX12_cell 60 = .ok (.iload_n 3, 1) := by decide +kernel
theorem dX12_cell_61 : decode cX12_cell 61 = .ok (.ireturn, 1) := by decide +kernel
theorem dX12_put_0 : decode cX12_put 0 = .ok (.aload_n 0, 1) := by decide +kernel
theorem dX12_put_1 : decode cX12_put 1 = .ok (.iload_n 1, 1) := by decide +kernel
theorem dX12_put_2 : decode cX12_put 2 = .ok (.invokevirtual 91, 3) := by decide +kernel
theorem dX12_put_5 : decode cX12_put 5 = .ok (.ifCond .eq 23, 3) := by decide +kernel
theorem dX12_put_8 : decode cX12_put 8 = .ok (.iload_n 2, 1) := by decide +kernel
theorem dX12_put_9 : decode cX12_put 9 = .ok (.iconst 0, 1) := by decide +kernel
theorem dX12_put_10 : decode cX12_put 10 = .ok (.iconst 1, 1) := by decide +kernel
theorem dX12_put_11 : decode cX12_put 11 = .ok (.invokestatic 82, 3) := by decide +kernel
theorem dX12_put_14 : decode cX12_put 14 = .ok (.ifCond .eq 14, 3) := by decide +kernel
theorem dX12_put_17 : decode cX12_put 17 = .ok (.iload_n 3, 1) := by decide +kernel
theorem dX12_put_18 : decode cX12_put 18 = .ok (.iconst 0, 1) := by decide +kernel
theorem dX12_put_19 : decode cX12_put 19 = .ok (.sipush 999, 3) := by decide +kernel
theorem dX12_put_22 : decode cX12_put 22 = .ok (.invokestatic 82, 3) := by decide +kernel
theorem dX12_put_25 : decode cX12_put 25 = .ok (.ifCond .ne 6, 3) := by decide +kernel
theorem dX12_put_28 : decode cX12_put 28 = .ok (.ldc 86, 2) := by decide +kernel
theorem dX12_put_30 : decode cX12_put 30 = .ok (.ireturn, 1) := by decide +kernel
theorem dX12_put_31 : decode cX12_put 31 = .ok (.iload_n 2, 1) := by decide +kernel
theorem dX12_put_32 : decode cX12_put 32 = .ok (.ifCond .ne 10, 3) := by decide +kernel
theorem dX12_put_35 : decode cX12_put 35 = .ok (.bipush 110, 2) := by decide +kernel
theorem dX12_put_37 : decode cX12_put 37 = .ok (.iload_n 1, 1) := by decide +kernel
theorem dX12_put_38 : decode cX12_put 38 = .ok (.iadd, 1) := by decide +kernel
theorem dX12_put_39 : decode cX12_put 39 = .ok (.goto 8, 3) := by decide +kernel
theorem dX12_put_42 : decode cX12_put 42 = .ok (.sipush 190, 3) := by decide +kernel
theorem dX12_put_45 : decode cX12_put 45 = .ok (.iload_n 1, 1) := by decide +kernel
theorem dX12_put_46 : decode cX12_put 46 = .ok (.iadd, 1) := by decide +kernel
theorem dX12_put_47 : decode cX12_put 47 = .ok (.istore 4, 2) := by decide +kernel
theorem dX12_put_49 : decode cX12_put 49 = .ok (.aload_n 0, 1) := by decide +kernel
theorem dX12_put_50 : decode cX12_put 50 = .ok (.getfield 9, 3) := by decide +kernel
theorem dX12_put_53 : decode cX12_put 53 = .ok (.iload 4, 2) := by decide +kernel
theorem dX12_put_55 : decode cX12_put 55 = .ok (.iaload, 1) := by decide +kernel
theorem dX12_put_56 : decode cX12_put 56 = .ok (.istore 5, 2) := by decide +kernel
theorem dX12_put_58 : decode cX12_put 58 = .ok (.aload_n 0, 1) := by decide +kernel
theorem dX12_put_59 : decode cX12_put 59 = .ok (.getfield 9, 3) := by decide +kernel
theorem dX12_put_62 : decode cX12_put 62 = .ok (.iload 4, 2) := by decide +kernel
theorem dX12_put_64 : decode cX12_put 64 = .ok (.iload_n 3, 1) := by decide +kernel
theorem dX12_put_65 : decode cX12_put 65 = .ok (.iastore, 1) := by decide +kernel
theorem dX12_put_66 : decode cX12_put 66 = .ok (.iload 5, 2) := by decide +kernel
theorem dX12_put_68 : decode cX12_put 68 = .ok (.ireturn, 1) := by decide +kernel
theorem dX12_told_0 : decode cX12_told 0 = .ok (.aload_n 0, 1) := by decide +kernel
theorem dX12_told_1 : decode cX12_told 1 = .ok (.iload_n 1, 1) := by decide +kernel
theorem dX12_told_2 : decode cX12_told 2 = .ok (.invokevirtual 91, 3) := by decide +kernel
theorem dX12_told_5 : decode cX12_told 5 = .ok (.ifCond .eq 12, 3) := by decide +kernel
theorem dX12_told_8 : decode cX12_told 8 = .ok (.iload_n 2, 1) := by decide +kernel
theorem dX12_told_9 : decode cX12_told 9 = .ok (.iconst 0, 1) := by decide +kernel
theorem dX12_told_10 : decode cX12_told 10 = .ok (.iconst 3, 1) := by decide +kernel
theorem dX12_told_11 : decode cX12_told 11 = .ok (.invokestatic 82, 3) := by decide +kernel
theorem dX12_told_14 : decode cX12_told 14 = .ok (.ifCond .ne 6, 3) := by decide +kernel
theorem dX12_told_17 : decode cX12_told 17 = .ok (.ldc 86, 2) := by decide +kernel
theorem dX12_told_19 : decode cX12_told 19 = .ok (.ireturn, 1) := by decide +kernel
theorem dX12_told_20 : decode cX12_told 20 = .ok (.aload_n 0, 1) := by decide +kernel
theorem dX12_told_21 : decode cX12_told 21 = .ok (.iload_n 1, 1) := by decide +kernel
theorem dX12_told_22 : decode cX12_told 22 = .ok (.invokevirtual 95, 3) := by decide +kernel
theorem dX12_told_25 : decode cX12_told 25 = .ok (.istore_n 3, 1) := by decide +kernel
theorem dX12_told_26 : decode cX12_told 26 = .ok (.iload_n 2, 1) := by decide +kernel
theorem dX12_told_27 : decode cX12_told 27 = .ok (.ifCond .ne 15, 3) := by decide +kernel
theorem dX12_told_30 : decode cX12_told 30 = .ok (.aload_n 0, 1) := by decide +kernel
theorem dX12_told_31 : decode cX12_told 31 = .ok (.getfield 9, 3) := by decide +kernel
theorem dX12_told_34 : decode cX12_told 34 = .ok (.bipush 30, 2) := by decide +kernel
theorem dX12_told_36 : decode cX12_told 36 = .ok (.iload_n 1, 1) := by decide +kernel
theorem dX12_told_37 : decode cX12_told 37 = .ok (.iadd, 1) := by decide +kernel
theorem dX12_told_38 : decode cX12_told 38 = .ok (.iaload, 1) := by decide +kernel
theorem dX12_told_39 : decode cX12_told 39 = .ok (.goto 48, 3) := by decide +kernel
theorem dX12_told_42 : decode cX12_told 42 = .ok (.iload_n 2, 1) := by decide +kernel
theorem dX12_told_43 : decode cX12_told 43 = .ok (.iconst 1, 1) := by decide +kernel
theorem dX12_told_44 : decode cX12_told 44 = .ok (.if_icmp .ne 15, 3) := by decide +kernel
theorem dX12_told_47 : decode cX12_told 47 = .ok (.aload_n 0, 1) := by decide +kernel
theorem dX12_told_48 : decode cX12_told 48 = .ok (.getfield 9, 3) := by decide +kernel
theorem dX12_told_51 : decode cX12_told 51 = .ok (.bipush 110, 2) := by decide +kernel
theorem dX12_told_53 : decode cX12_told 53 = .ok (.iload_n 1, 1) := by decide +kernel
theorem dX12_told_54 : decode cX12_told 54 = .ok (.iadd, 1) := by decide +kernel
theorem dX12_told_55 : decode cX12_told 55 = .ok (.iaload, 1) := by decide +kernel
theorem dX12_told_56 : decode cX12_told 56 = .ok (.goto 31, 3) := by decide +kernel
theorem dX12_told_59 : decode cX12_told 59 = .ok (.iload_n 2, 1) := by decide +kernel
theorem dX12_told_60 : decode cX12_told 60 = .ok (.iconst 2, 1) := by decide +kernel
theorem dX12_told_61 : decode cX12_told 61 = .ok (.if_icmp .ne 16, 3) := by decide +kernel
theorem dX12_told_64 : decode cX12_told 64 = .ok (.aload_n 0, 1) := by decide +kernel
theorem dX12_told_65 : decode cX12_told 65 = .ok (.getfield 9, 3) := by decide +kernel
theorem dX12_told_68 : decode cX12_told 68 = .ok (.sipush 190, 3) := by decide +kernel
theorem dX12_told_71 : decode cX12_told 71 = .ok (.iload_n 1, 1) := by decide +kernel
theorem dX12_told_72 : decode cX12_told 72 = .ok (.iadd, 1) := by decide +kernel
theorem dX12_told_73 : decode cX12_told 73 = .ok (.iaload, 1) := by decide +kernel
theorem dX12_told_74 : decode cX12_told 74 = .ok (.goto 13, 3) := by decide +kernel
theorem dX12_told_77 : decode cX12_told 77 = .ok (.iload_n 3, 1) := by decide +kernel
theorem dX12_told_78 : decode cX12_told 78 = .ok (.ifCond .ge 8, 3) := by decide +kernel
theorem dX12_told_81 : decode cX12_told 81 = .ok (.ldc 100, 2) := by decide +kernel
theorem dX12_told_83 : decode cX12_told 83 = .ok (.goto 4, 3) := by decide +kernel
theorem dX12_told_86 : decode cX12_told 86 = .ok (.iload_n 3, 1) := by decide +kernel
theorem dX12_told_87 : decode cX12_told 87 = .ok (.ireturn, 1) := by decide +kernel
theorem dX12_isOfKind_0 : decode cX12_isOfKind 0 = .ok (.aload_n 0, 1) := by decide +kernel
theorem dX12_isOfKind_1 : decode cX12_isOfKind 1 = .ok (.getfield 9, 3) := by decide +kernel
theorem dX12_isOfKind_4 : decode cX12_isOfKind 4 = .ok (.bipush 30, 2) := by decide +kernel
theorem dX12_isOfKind_6 : decode cX12_isOfKind 6 = .ok (.iload_n 1, 1) := by decide +kernel
theorem dX12_isOfKind_7 : decode cX12_isOfKind 7 = .ok (.iadd, 1) := by decide +kernel
theorem dX12_isOfKind_8 : decode cX12_isOfKind 8 = .ok (.iaload, 1) := by decide +kernel
theorem dX12_isOfKind_9 : decode cX12_isOfKind 9 = .ok (.istore_n 3, 1) := by decide +kernel
theorem dX12_isOfKind_10 : decode cX12_isOfKind 10 = .ok (.iload_n 3, 1) := by decide +kernel
theorem dX12_isOfKind_11 : decode cX12_isOfKind 11 = .ok (.iload_n 2, 1) := by decide +kernel
theorem dX12_isOfKind_12 : decode cX12_isOfKind 12 = .ok (.if_icmp .eq 22, 3) := by decide +kernel
theorem dX12_isOfKind_15 : decode cX12_isOfKind 15 = .ok (.iload_n 2, 1) := by decide +kernel
theorem dX12_isOfKind_16 : decode cX12_isOfKind 16 = .ok (.ifCond .ne 8, 3) := by decide +kernel
theorem dX12_isOfKind_19 : decode cX12_isOfKind 19 = .ok (.iload_n 3, 1) := by decide +kernel
theorem dX12_isOfKind_20 : decode cX12_isOfKind 20 = .ok (.iconst 1, 1) := by decide +kernel
theorem dX12_isOfKind_21 : decode cX12_isOfKind 21 = .ok (.if_icmp .ne 13, 3) := by decide +kernel
theorem dX12_isOfKind_24 : decode cX12_isOfKind 24 = .ok (.iload_n 2, 1) := by decide +kernel
theorem dX12_isOfKind_25 : decode cX12_isOfKind 25 = .ok (.iconst 3, 1) := by decide +kernel
theorem dX12_isOfKind_26 : decode cX12_isOfKind 26 = .ok (.if_icmp .ne 12, 3) := by decide +kernel
theorem dX12_isOfKind_29 : decode cX12_isOfKind 29 = .ok (.iload_n 3, 1) := by decide +kernel
theorem dX12_isOfKind_30 : decode cX12_isOfKind 30 = .ok (.iconst 4, 1) := by decide +kernel
theorem dX12_isOfKind_31 : decode cX12_isOfKind 31 = .ok (.if_icmp .ne 7, 3) := by decide +kernel
theorem dX12_isOfKind_34 : decode cX12_isOfKind 34 = .ok (.iconst 1, 1) := by decide +kernel
theorem dX12_isOfKind_35 : decode cX12_isOfKind 35 = .ok (.goto 4, 3) := by decide +kernel
theorem dX12_isOfKind_38 : decode cX12_isOfKind 38 = .ok (.iconst 0, 1) := by decide +kernel
theorem dX12_isOfKind_39 : decode cX12_isOfKind 39 = .ok (.ireturn, 1) := by decide +kernel
theorem dX12_isOf_0 : decode cX12_isOf 0 = .ok (.aload_n 0, 1) := by decide +kernel
theorem dX12_isOf_1 : decode cX12_isOf 1 = .ok (.iload_n 1, 1) := by decide +kernel
theorem dX12_isOf_2 : decode cX12_isOf 2 = .ok (.invokevirtual 91, 3) := by decide +kernel
theorem dX12_isOf_5 : decode cX12_isOf 5 = .ok (.ifCond .eq 12, 3) := by decide +kernel
theorem dX12_isOf_8 : decode cX12_isOf 8 = .ok (.iload_n 2, 1) := by decide +kernel
theorem dX12_isOf_9 : decode cX12_isOf 9 = .ok (.iconst 0, 1) := by decide +kernel
theorem dX12_isOf_10 : decode cX12_isOf 10 = .ok (.iconst 4, 1) := by decide +kernel
theorem dX12_isOf_11 : decode cX12_isOf 11 = .ok (.invokestatic 82, 3) := by decide +kernel
theorem dX12_isOf_14 : decode cX12_isOf 14 = .ok (.ifCond .ne 8, 3) := by decide +kernel
theorem dX12_isOf_17 : decode cX12_isOf 17 = .ok (.ldc 86, 2) := by decide +kernel
theorem dX12_isOf_19 : decode cX12_isOf 19 = .ok (.goto 17, 3) := by decide +kernel
theorem dX12_isOf_22 : decode cX12_isOf 22 = .ok (.aload_n 0, 1) := by decide +kernel
theorem dX12_isOf_23 : decode cX12_isOf 23 = .ok (.iload_n 1, 1) := by decide +kernel
theorem dX12_isOf_24 : decode cX12_isOf 24 = .ok (.iload_n 2, 1) := by decide +kernel
theorem dX12_isOf_25 : decode cX12_isOf 25 = .ok (.invokevirtual 101, 3) := by decide +kernel
theorem dX12_isOf_28 : decode cX12_isOf 28 = .ok (.ifCond .eq 7, 3) := by decide +kernel
theorem dX12_isOf_31 : decode cX12_isOf 31 = .ok (.iconst 1, 1) := by decide +kernel
theorem dX12_isOf_32 : decode cX12_isOf 32 = .ok (.goto 4, 3) := by decide +kernel
theorem dX12_isOf_35 : decode cX12_isOf 35 = .ok (.iconst 0, 1) := by decide +kernel
theorem dX12_isOf_36 : decode cX12_isOf 36 = .ok (.ireturn, 1) := by decide +kernel
theorem dX12_map_0 : decode cX12_map 0 = .ok (.aload_n 0, 1) := by decide +kernel
theorem dX12_map_1 : decode cX12_map 1 = .ok (.iload_n 1, 1) := by decide +kernel
theorem dX12_map_2 : decode cX12_map 2 = .ok (.invokevirtual 91, 3) := by decide +kernel
theorem dX12_map_5 : decode cX12_map 5 = .ok (.ifCond .eq 12, 3) := by decide +kernel
theorem dX12_map_8 : decode cX12_map 8 = .ok (.iload_n 2, 1) := by decide +kernel
theorem dX12_map_9 : decode cX12_map 9 = .ok (.iconst 0, 1) := by decide +kernel
theorem dX12_map_10 : decode cX12_map 10 = .ok (.iconst 3, 1) := by decide +kernel
theorem dX12_map_11 : decode cX12_map 11 = .ok (.invokestatic 82, 3) := by decide +kernel
theorem dX12_map_14 : decode cX12_map 14 = .ok (.ifCond .ne 6, 3) := by decide +kernel
theorem dX12_map_17 : decode cX12_map 17 = .ok (.ldc 86, 2) := by decide +kernel
theorem dX12_map_19 : decode cX12_map 19 = .ok (.ireturn, 1) := by decide +kernel
theorem dX12_map_20 : decode cX12_map 20 = .ok (.aload_n 0, 1) := by decide +kernel
theorem dX12_map_21 : decode cX12_map 21 = .ok (.getfield 9, 3) := by decide +kernel
theorem dX12_map_24 : decode cX12_map 24 = .ok (.sipush 270, 3) := by decide +kernel
theorem dX12_map_27 : decode cX12_map 27 = .ok (.iconst 4, 1) := by decide +kernel
theorem dX12_map_28 : decode cX12_map 28 = .ok (.iload_n 1, 1) := by decide +kernel
theorem dX12_map_29 : decode cX12_map 29 = .ok (.imul, 1) := by decide +kernel
theorem dX12_map_30 : decode cX12_map 30 = .ok (.iadd, 1) := by decide +kernel
theorem dX12_map_31 : decode cX12_map 31 = .ok (.iconst 3, 1) := by decide +kernel
theorem dX12_map_32 : decode cX12_map 32 = .ok (.iadd, 1) := by decide +kernel
theorem dX12_map_33 : decode cX12_map 33 = .ok (.iaload, 1) := by decide +kernel
theorem dX12_map_34 : decode cX12_map 34 = .ok (.ifCond .ge 8, 3) := by decide +kernel
theorem dX12_map_37 : decode cX12_map 37 = .ok (.ldc 100, 2) := by decide +kernel
theorem dX12_map_39 : decode cX12_map 39 = .ok (.goto 17, 3) := by decide +kernel
theorem dX12_map_42 : decode cX12_map 42 = .ok (.aload_n 0, 1) := by decide +kernel
theorem dX12_map_43 : decode cX12_map 43 = .ok (.getfield 9, 3) := by decide +kernel
theorem dX12_map_46 : decode cX12_map 46 = .ok (.sipush 270, 3) := by decide +kernel
theorem dX12_map_49 : decode cX12_map 49 = .ok (.iconst 4, 1) := by decide +kernel
theorem dX12_map_50 : decode cX12_map 50 = .ok (.iload_n 1, 1) := by decide +kernel
theorem dX12_map_51 : decode cX12_map 51 = .ok (.imul, 1) := by decide +kernel
theorem dX12_map_52 : decode cX12_map 52 = .ok (.iadd, 1) := by decide +kernel
theorem dX12_map_53 : decode cX12_map 53 = .ok (.iload_n 2, 1) := by decide +kernel
theorem dX12_map_54 : decode cX12_map 54 = .ok (.iadd, 1) := by decide +kernel
theorem dX12_map_55 : decode cX12_map 55 = .ok (.iaload, 1) := by decide +kernel
theorem dX12_map_56 : decode cX12_map 56 = .ok (.ireturn, 1) := by decide +kernel
theorem dX12_lay_0 : decode cX12_lay 0 = .ok (.iload_n 1, 1) := by decide +kernel
theorem dX12_lay_1 : decode cX12_lay 1 = .ok (.iconst 0, 1) := by decide +kernel
theorem dX12_lay_2 : decode cX12_lay 2 = .ok (.iconst 1, 1) := by decide +kernel
theorem dX12_lay_3 : decode cX12_lay 3 = .ok (.invokestatic 82, 3) := by decide +kernel
theorem dX12_lay_6 : decode cX12_lay 6 = .ok (.ifCond .ne 6, 3) := by decide +kernel
theorem dX12_lay_9 : decode cX12_lay 9 = .ok (.ldc 86, 2) := by decide +kernel
theorem dX12_lay_11 : decode cX12_lay 11 = .ok (.ireturn, 1) := by decide +kernel
theorem dX12_lay_12 : decode cX12_lay 12 = .ok (.aload_n 0, 1) := by decide +kernel
theorem dX12_lay_13 : decode cX12_lay 13 = .ok (.getfield 22, 3) := by decide +kernel
theorem dX12_lay_16 : decode cX12_lay 16 = .ok (.iload_n 1, 1) := by decide +kernel
theorem dX12_lay_17 : decode cX12_lay 17 = .ok (.iaload, 1) := by decide +kernel
theorem dX12_lay_18 : decode cX12_lay 18 = .ok (.ifCond .ge 6, 3) := by decide +kernel
theorem dX12_lay_21 : decode cX12_lay 21 = .ok (.ldc 105, 2) := by decide +kernel
theorem dX12_lay_23 : decode cX12_lay 23 = .ok (.ireturn, 1) := by decide +kernel
theorem dX12_lay_24 : decode cX12_lay 24 = .ok (.aload_n 0, 1) := by decide +kernel
theorem dX12_lay_25 : decode cX12_lay 25 = .ok (.getfield 22, 3) := by decide +kernel
theorem dX12_lay_28 : decode cX12_lay 28 = .ok (.iload_n 1, 1) := by decide +kernel
theorem dX12_lay_29 : decode cX12_lay 29 = .ok (.iaload, 1) := by decide +kernel
theorem dX12_lay_30 : decode cX12_lay 30 = .ok (.aload_n 0, 1) := by decide +kernel
theorem dX12_lay_31 : decode cX12_lay 31 = .ok (.invokevirtual 78, 3) := by decide +kernel
theorem dX12_lay_34 : decode cX12_lay 34 = .ok (.invokestatic 106, 3) := by decide +kernel
theorem dX12_lay_37 : decode cX12_lay 37 = .ok (.istore_n 2, 1) := by decide +kernel
theorem dX12_lay_38 : decode cX12_lay 38 = .ok (.iconst 0, 1) := by decide +kernel
theorem dX12_lay_39 : decode cX12_lay 39 = .ok (.istore_n 3, 1) := by decide +kernel
theorem dX12_lay_40 : decode cX12_lay 40 = .ok (.iload_n 3, 1) := by decide +kernel
theorem dX12_lay_41 : decode cX12_lay 41 = .ok (.iload_n 2, 1) := by decide +kernel
theorem dX12_lay_42 : decode cX12_lay 42 = .ok (.if_icmp .ge 49, 3) := by decide +kernel
theorem dX12_lay_45 : decode cX12_lay 45 = .ok (.aload_n 0, 1) := by decide +kernel
theorem dX12_lay_46 : decode cX12_lay 46 = .ok (.getfield 25, 3) := by decide +kernel
theorem dX12_lay_49 : decode cX12_lay 49 = .ok (.bipush 80, 2) := by decide +kernel
theorem dX12_lay_51 : decode cX12_lay 51 = .ok (.iload_n 1, 1) := by decide +kernel
theorem dX12_lay_52 : decode cX12_lay 52 = .ok (.imul, 1) := by decide +kernel
theorem dX12_lay_53 : decode cX12_lay 53 = .ok (.iload_n 3, 1) := by decide +kernel
theorem dX12_lay_54 : decode cX12_lay 54 = .ok (.iadd, 1) := by decide +kernel
theorem dX12_lay_55 : decode cX12_lay 55 = .ok (.iaload, 1) := by decide +kernel
theorem dX12_lay_56 : decode cX12_lay 56 = .ok (.istore 4, 2) := by decide +kernel
theorem dX12_lay_58 : decode cX12_lay 58 = .ok (.aload_n 0, 1) := by decide +kernel
theorem dX12_lay_59 : decode cX12_lay 59 = .ok (.getfield 9, 3) := by decide +kernel
theorem dX12_lay_62 : decode cX12_lay 62 = .ok (.bipush 110, 2) := by decide +kernel
theorem dX12_lay_64 : decode cX12_lay 64 = .ok (.iload_n 3, 1) := by decide +kernel
theorem dX12_lay_65 : decode cX12_lay 65 = .ok (.iadd, 1) := by decide +kernel
theorem dX12_lay_66 : decode cX12_lay 66 = .ok (.iload 4, 2) := by decide +kernel
theorem dX12_lay_68 : decode cX12_lay 68 = .ok (.iconst 0, 1) := by decide +kernel
theorem dX12_lay_69 : decode cX12_lay 69 = .ok (.sipush 999, 3) := by decide +kernel
theorem dX12_lay_72 : decode cX12_lay 72 = .ok (.invokestatic 82, 3) := by decide +kernel
theorem dX12_lay_75 : decode cX12_lay 75 = .ok (.ifCond .eq 8, 3) := by decide +kernel
theorem dX12_lay_78 : decode cX12_lay 78 = .ok (.iload 4, 2) := by decide +kernel
theorem dX12_lay_80 : decode cX12_lay 80 = .ok (.goto 4, 3) := by decide +kernel
theorem dX12_lay_83 : decode cX12_lay 83 = .ok (.iconst 0, 1) := by decide +kernel
theorem dX12_lay_84 : decode cX12_lay 84 = .ok (.iastore, 1) := by decide +kernel
theorem dX12_lay_85 : decode cX12_lay 85 = .ok (.iinc 3 1, 3) := by decide +kernel
theorem dX12_lay_88 : decode cX12_lay 88 = .ok (.goto (-48), 3) := by decide +kernel
theorem dX12_lay_91 : decode cX12_lay 91 = .ok (.iload_n 2, 1) := by decide +kernel
theorem dX12_lay_92 : decode cX12_lay 92 = .ok (.ireturn, 1) := by decide +kernel
theorem dX12_beside_0 : decode cX12_beside 0 = .ok (.iload_n 1, 1) := by decide +kernel
theorem dX12_beside_1 : decode cX12_beside 1 = .ok (.aload_n 0, 1) := by decide +kernel
theorem dX12_beside_2 : decode cX12_beside 2 = .ok (.getfield 9, 3) := by decide +kernel
theorem dX12_beside_5 : decode cX12_beside 5 = .ok (.iconst 0, 1) := by decide +kernel
theorem dX12_beside_6 : decode cX12_beside 6 = .ok (.iaload, 1) := by decide +kernel
theorem dX12_beside_7 : decode cX12_beside 7 = .ok (.irem, 1) := by decide +kernel
theorem dX12_beside_8 : decode cX12_beside 8 = .ok (.iload_n 2, 1) := by decide +kernel
theorem dX12_beside_9 : decode cX12_beside 9 = .ok (.ifCond .ne 7, 3) := by decide +kernel
theorem dX12_beside_12 : decode cX12_beside 12 = .ok (.iconst 1, 1) := by decide +kernel
theorem dX12_beside_13 : decode cX12_beside 13 = .ok (.goto 13, 3) := by decide +kernel
theorem dX12_beside_16 : decode cX12_beside 16 = .ok (.iload_n 2, 1) := by decide +kernel
theorem dX12_beside_17 : decode cX12_beside 17 = .ok (.iconst 1, 1) := by decide +kernel
theorem dX12_beside_18 : decode cX12_beside 18 = .ok (.if_icmp .ne 7, 3) := by decide +kernel
theorem dX12_beside_21 : decode cX12_beside 21 = .ok (.iconst (-1), 1) := by decide +kernel
theorem dX12_beside_22 : decode cX12_beside 22 = .ok (.goto 4, 3) := by decide +kernel
theorem dX12_beside_25 : decode cX12_beside 25 = .ok (.iconst 0, 1) := by decide +kernel
theorem dX12_beside_26 : decode cX12_beside 26 = .ok (.iadd, 1) := by decide +kernel
theorem dX12_beside_27 : decode cX12_beside 27 = .ok (.istore_n 3, 1) := by decide +kernel
theorem dX12_beside_28 : decode cX12_beside 28 = .ok (.iload_n 1, 1) := by decide +kernel
theorem dX12_beside_29 : decode cX12_beside 29 = .ok (.aload_n 0, 1) := by decide +kernel
theorem dX12_beside_30 : decode cX12_beside 30 = .ok (.getfield 9, 3) := by decide +kernel
theorem dX12_beside_33 : decode cX12_beside 33 = .ok (.iconst 0, 1) := by decide +kernel
theorem dX12_beside_34 : decode cX12_beside 34 = .ok (.iaload, 1) := by decide +kernel
theorem dX12_beside_35 : decode cX12_beside 35 = .ok (.idiv, 1) := by decide +kernel
theorem dX12_beside_36 : decode cX12_beside 36 = .ok (.iload_n 2, 1) := by decide +kernel
theorem dX12_beside_37 : decode cX12_beside 37 = .ok (.iconst 2, 1) := by decide +kernel
theorem dX12_beside_38 : decode cX12_beside 38 = .ok (.if_icmp .ne 7, 3) := by decide +kernel
theorem dX12_beside_41 : decode cX12_beside 41 = .ok (.iconst 1, 1) := by decide +kernel
theorem dX12_beside_42 : decode cX12_beside 42 = .ok (.goto 13, 3) := by decide +kernel
theorem dX12_beside_45 : decode cX12_beside 45 = .ok (.iload_n 2, 1) := by decide +kernel
theorem dX12_beside_46 : decode cX12_beside 46 = .ok (.iconst 3, 1) := by decide +kernel
theorem dX12_beside_47 : decode cX12_beside 47 = .ok (.if_icmp .ne 7, 3) := by decide +kernel
theorem dX12_beside_50 : decode cX12_beside 50 = .ok (.iconst (-1), 1) := by decide +kernel
theorem dX12_beside_51 : decode cX12_beside 51 = .ok (.goto 4, 3) := by decide +kernel
theorem dX12_beside_54 : decode cX12_beside 54 = .ok (.iconst 0, 1) := by decide +kernel
theorem dX12_beside_55 : decode cX12_beside 55 = .ok (.iadd, 1) := by decide +kernel
theorem dX12_beside_56 : decode cX12_beside 56 = .ok (.istore 4, 2) := by decide +kernel
theorem dX12_beside_58 : decode cX12_beside 58 = .ok (.iload_n 3, 1) := by decide +kernel
theorem dX12_beside_59 : decode cX12_beside 59 = .ok (.iconst 0, 1) := by decide +kernel
theorem dX12_beside_60 : decode cX12_beside 60 = .ok (.aload_n 0, 1) := by decide +kernel
theorem dX12_beside_61 : decode cX12_beside 61 = .ok (.getfield 9, 3) := by decide +kernel
theorem dX12_beside_64 : decode cX12_beside 64 = .ok (.iconst 0, 1) := by decide +kernel
theorem dX12_beside_65 : decode cX12_beside 65 = .ok (.iaload, 1) := by decide +kernel
theorem dX12_beside_66 : decode cX12_beside 66 = .ok (.iconst 1, 1) := by decide +kernel
theorem dX12_beside_67 : decode cX12_beside 67 = .ok (.isub, 1) := by decide +kernel
theorem dX12_beside_68 : decode cX12_beside 68 = .ok (.invokestatic 82, 3) := by decide +kernel
theorem dX12_beside_71 : decode cX12_beside 71 = .ok (.ifCond .eq 34, 3) := by decide +kernel
theorem dX12_beside_74 : decode cX12_beside 74 = .ok (.iload 4, 2) := by decide +kernel
theorem dX12_beside_76 : decode cX12_beside 76 = .ok (.iconst 0, 1) := by decide +kernel
theorem dX12_beside_77 : decode cX12_beside 77 = .ok (.aload_n 0, 1) := by decide +kernel
theorem dX12_beside_78 : decode cX12_beside 78 = .ok (.getfield 9, 3) := by decide +kernel
theorem dX12_beside_81 : decode cX12_beside 81 = .ok (.iconst 1, 1) := by decide +kernel
theorem dX12_beside_82 : decode cX12_beside 82 = .ok (.iaload, 1) := by decide +kernel
theorem dX12_beside_83 : decode cX12_beside 83 = .ok (.iconst 1, 1) := by decide +kernel
theorem dX12_beside_84 : decode cX12_beside 84 = .ok (.isub, 1) := by decide +kernel
theorem dX12_beside_85 : decode cX12_beside 85 = .ok (.invokestatic 82, 3) := by decide +kernel
theorem dX12_beside_88 : decode cX12_beside 88 = .ok (.ifCond .eq 17, 3) := by decide +kernel
theorem dX12_beside_91 : decode cX12_beside 91 = .ok (.iload 4, 2) := by decide +kernel
theorem dX12_beside_93 : decode cX12_beside 93 = .ok (.aload_n 0, 1) := by decide +kernel
theorem dX12_beside_94 : decode cX12_beside 94 = .ok (.getfield 9, 3) := by decide +kernel
theorem dX12_beside_97 : decode cX12_beside 97 = .ok (.iconst 0, 1) := by decide +kernel
theorem dX12_beside_98 : decode cX12_beside 98 = .ok (.iaload, 1) := by decide +kernel
theorem dX12_beside_99 : decode cX12_beside 99 = .ok (.imul, 1) := by decide +kernel
theorem dX12_beside_100 : decode cX12_beside 100 = .ok (.iload_n 3, 1) := by decide +kernel
theorem dX12_beside_101 : decode cX12_beside 101 = .ok (.iadd, 1) := by decide +kernel
theorem dX12_beside_102 : decode cX12_beside 102 = .ok (.goto 4, 3) := by decide +kernel
theorem dX12_beside_105 : decode cX12_beside 105 = .ok (.iconst (-1), 1) := by decide +kernel
theorem dX12_beside_106 : decode cX12_beside 106 = .ok (.ireturn, 1) := by decide +kernel
theorem dX12_findFar_0 : decode cX12_findFar 0 = .ok (.iconst 0, 1) := by decide +kernel
theorem dX12_findFar_1 : decode cX12_findFar 1 = .ok (.istore_n 2, 1) := by decide +kernel
theorem dX12_findFar_2 : decode cX12_findFar 2 = .ok (.iload_n 2, 1) := by decide +kernel
theorem dX12_findFar_3 : decode cX12_findFar 3 = .ok (.bipush 80, 2) := by decide +kernel
theorem dX12_findFar_5 : decode cX12_findFar 5 = .ok (.if_icmp .ge 16, 3) := by decide +kernel
theorem dX12_findFar_8 : decode cX12_findFar 8 = .ok (.aload_n 0, 1) := by decide +kernel
theorem dX12_findFar_9 : decode cX12_findFar 9 = .ok (.getfield 28, 3) := by decide +kernel
theorem dX12_findFar_12 : decode cX12_findFar 12 = .ok (.iload_n 2, 1) := by decide +kernel
theorem dX12_findFar_13 : decode cX12_findFar 13 = .ok (.iconst (-1), 1) := by decide +kernel
theorem dX12_findFar_14 : decode cX12_findFar 14 = .ok (.iastore, 1) := by decide +kernel
theorem dX12_findFar_15 : decode cX12_findFar 15 = .ok (.iinc 2 1, 3) := by decide +kernel
theorem dX12_findFar_18 : decode cX12_findFar 18 = .ok (.goto (-16), 3) := by decide +kernel
theorem dX12_findFar_21 : decode cX12_findFar 21 = .ok (.iconst 0, 1) := by decide +kernel
theorem dX12_findFar_22 : decode cX12_findFar 22 = .ok (.istore_n 2, 1) := by decide +kernel
theorem dX12_findFar_23 : decode cX12_findFar 23 = .ok (.aload_n 0, 1) := by decide +kernel
theorem dX12_findFar_24 : decode cX12_findFar 24 = .ok (.getfield 9, 3) := by decide +kernel
theorem dX12_findFar_27 : decode cX12_findFar 27 = .ok (.bipush 30, 2) := by decide +kernel
theorem dX12_findFar_29 : decode cX12_findFar 29 = .ok (.iload_n 1, 1) := by decide +kernel
theorem dX12_findFar_30 : decode cX12_findFar 30 = .ok (.iadd, 1) := by decide +kernel
theorem dX12_findFar_31 : decode cX12_findFar 31 = .ok (.iaload, 1) := by decide +kernel
theorem dX12_findFar_32 : decode cX12_findFar 32 = .ok (.iconst 1, 1) := by decide +kernel
theorem dX12_findFar_33 : decode cX12_findFar 33 = .ok (.if_icmp .eq 19, 3) := by decide +kernel
theorem dX12_findFar_36 : decode cX12_findFar 36 = .ok (.aload_n 0, 1) := by decide +kernel
theorem dX12_findFar_37 : decode cX12_findFar 37 = .ok (.getfield 28, 3) := by decide +kernel
theorem dX12_findFar_40 : decode cX12_findFar 40 = .ok (.iload_n 1, 1) := by decide +kernel
theorem dX12_findFar_41 : decode cX12_findFar 41 = .ok (.iconst 0, 1) := by decide +kernel
theorem dX12_findFar_42 : decode cX12_findFar 42 = .ok (.iastore, 1) := by decide +kernel
theorem dX12_findFar_43 : decode cX12_findFar 43 = .ok (.aload_n 0, 1) := by decide +kernel
theorem dX12_findFar_44 : decode cX12_findFar 44 = .ok (.getfield 31, 3) := by decide +kernel
theorem dX12_findFar_47 : decode cX12_findFar 47 = .ok (.iconst 0, 1) := by decide +kernel
theorem dX12_findFar_48 : decode cX12_findFar 48 = .ok (.iload_n 1, 1) := by decide +kernel
theorem dX12_findFar_49 : decode cX12_findFar 49 = .ok (.iastore, 1) := by decide +kernel
theorem dX12_findFar_50 : decode cX12_findFar 50 = .ok (.iconst 1, 1) := by decide +kernel
theorem dX12_findFar_51 : decode cX12_findFar 51 = .ok (.istore_n 2, 1) := by decide +kernel
theorem dX12_findFar_52 : decode cX12_findFar 52 = .ok (.iconst 0, 1) := by decide +kernel
theorem dX12_findFar_53 : decode cX12_findFar 53 = .ok (.istore_n 3, 1) := by decide +kernel
theorem dX12_findFar_54 : decode cX12_findFar 54 = .ok (.iload_n 3, 1) := by decide +kernel
theorem dX12_findFar_55 : decode cX12_findFar 55 = .ok (.iload_n 2, 1) := by decide +kernel
theorem dX12_findFar_56 : decode cX12_findFar 56 = .ok (.if_icmp .ge 98, 3) := by decide +kernel
theorem dX12_findFar_59 : decode cX12_findFar 59 = .ok (.iconst 0, 1) := by decide +kernel
theorem dX12_findFar_60 : decode cX12_findFar 60 = .ok (.istore 4, 2) := by decide +kernel
theorem dX12_findFar_62 : decode cX12_findFar 62 = .ok (.iload 4, 2) := by decide +kernel
theorem dX12_findFar_64 : decode cX12_findFar 64 = .ok (.iconst 4, 1) := by decide +kernel
theorem dX12_findFar_65 : decode cX12_findFar 65 = .ok (.if_icmp .ge 83, 3) := by decide +kernel
theorem dX12_findFar_68 : decode cX12_findFar 68 = .ok (.aload_n 0, 1) := by decide +kernel
theorem dX12_findFar_69 : decode cX12_findFar 69 = .ok (.aload_n 0, 1) := by decide +kernel
theorem dX12_findFar_70 : decode cX12_findFar 70 = .ok (.getfield 31, 3) := by decide +kernel
theorem dX12_findFar_73 : decode cX12_findFar 73 = .ok (.iload_n 3, 1) := by decide +kernel
theorem dX12_findFar_74 : decode cX12_findFar 74 = .ok (.iaload, 1) := by decide +kernel
theorem dX12_findFar_75 : decode cX12_findFar 75 = .ok (.iload 4, 2) := by decide +kernel
theorem dX12_findFar_77 : decode cX12_findFar 77 = .ok (.invokevirtual 111, 3) := by decide +kernel
theorem dX12_findFar_80 : decode cX12_findFar 80 = .ok (.istore 5, 2) := by decide +kernel
theorem dX12_findFar_82 : decode cX12_findFar 82 = .ok (.iload 5, 2) := by decide +kernel
theorem dX12_findFar_84 : decode cX12_findFar 84 = .ok (.ifCond .lt 58, 3) := by decide +kernel
theorem dX12_findFar_87 : decode cX12_findFar 87 = .ok (.aload_n 0, 1) := by decide +kernel
theorem dX12_findFar_88 : decode cX12_findFar 88 = .ok (.getfield 9, 3) := by decide +kernel
theorem dX12_findFar_91 : decode cX12_findFar 91 = .ok (.bipush 30, 2) := by decide +kernel
theorem dX12_findFar_93 : decode cX12_findFar 93 = .ok (.iload 5, 2) := by decide +kernel
theorem dX12_findFar_95 : decode cX12_findFar 95 = .ok (.iadd, 1) := by decide +kernel
theorem dX12_findFar_96 : decode cX12_findFar 96 = .ok (.iaload, 1) := by decide +kernel
theorem dX12_findFar_97 : decode cX12_findFar 97 = .ok (.iconst 1, 1) := by decide +kernel
theorem dX12_findFar_98 : decode cX12_findFar 98 = .ok (.if_icmp .eq 44, 3) := by decide +kernel
theorem dX12_findFar_101 : decode cX12_findFar 101 = .ok (.aload_n 0, 1) := by decide +kernel
theorem dX12_findFar_102 : decode cX12_findFar 102 = .ok (.getfield 28, 3) := by decide +kernel
theorem dX12_findFar_105 : decode cX12_findFar 105 = .ok (.iload 5, 2) := by decide +kernel
theorem dX12_findFar_107 : decode cX12_findFar 107 = .ok (.iaload, 1) := by decide +kernel
theorem dX12_findFar_108 : decode cX12_findFar 108 = .ok (.ifCond .ge 34, 3) := by decide +kernel
theorem dX12_findFar_111 : decode cX12_findFar 111 = .ok (.aload_n 0, 1) := by decide +kernel
theorem dX12_findFar_112 : decode cX12_findFar 112 = .ok (.getfield 28, 3) := by decide +kernel
theorem dX12_findFar_115 : decode cX12_findFar 115 = .ok (.iload 5, 2) := by decide +kernel
theorem dX12_findFar_117 : decode cX12_findFar 117 = .ok (.aload_n 0, 1) := by decide +kernel
theorem dX12_findFar_118 : decode cX12_findFar 118 = .ok (.getfield 28, 3) := by decide +kernel
theorem dX12_findFar_121 : decode cX12_findFar 121 = .ok (.aload_n 0, 1) := by decide +kernel
theorem dX12_findFar_122 : decode cX12_findFar 122 = .ok (.getfield 31, 3) := by decide +kernel
theorem dX12_findFar_125 : decode cX12_findFar 125 = .ok (.iload_n 3, 1) := by decide +kernel
theorem dX12_findFar_126 : decode cX12_findFar 126 = .ok (.iaload, 1) := by decide +kernel
theorem dX12_findFar_127 : decode cX12_findFar 127 = .ok (.iaload, 1) := by decide +kernel
theorem dX12_findFar_128 : decode cX12_findFar 128 = .ok (.iconst 1, 1) := by decide +kernel
theorem dX12_findFar_129 : decode cX12_findFar 129 = .ok (.iadd, 1) := by decide +kernel
theorem dX12_findFar_130 : decode cX12_findFar 130 = .ok (.iastore, 1) := by decide +kernel
theorem dX12_findFar_131 : decode cX12_findFar 131 = .ok (.aload_n 0, 1) := by decide +kernel
theorem dX12_findFar_132 : decode cX12_findFar 132 = .ok (.getfield 31, 3) := by decide +kernel
theorem dX12_findFar_135 : decode cX12_findFar 135 = .ok (.iload_n 2, 1) := by decide +kernel
theorem dX12_findFar_136 : decode cX12_findFar 136 = .ok (.iload 5, 2) := by decide +kernel
theorem dX12_findFar_138 : decode cX12_findFar 138 = .ok (.iastore, 1) := by decide +kernel
theorem dX12_findFar_139 : decode cX12_findFar 139 = .ok (.iinc 2 1, 3) := by decide +kernel
theorem dX12_findFar_142 : decode cX12_findFar 142 = .ok (.iinc 4 1, 3) := by decide +kernel
theorem dX12_findFar_145 : decode cX12_findFar 145 = .ok (.goto (-83), 3) := by decide +kernel
theorem dX12_findFar_148 : decode cX12_findFar 148 = .ok (.iinc 3 1, 3) := by decide +kernel
theorem dX12_findFar_151 : decode cX12_findFar 151 = .ok (.goto (-97), 3) := by decide +kernel
theorem dX12_findFar_154 : decode cX12_findFar 154 = .ok (.return_, 1) := by decide +kernel
theorem dX12_steps_0 : decode cX12_steps 0 = .ok (.aload_n 0, 1) := by decide +kernel
theorem dX12_steps_1 : decode cX12_steps 1 = .ok (.iload_n 1, 1) := by decide +kernel
theorem dX12_steps_2 : decode cX12_steps 2 = .ok (.invokevirtual 91, 3) := by decide +kernel
theorem dX12_steps_5 : decode cX12_steps 5 = .ok (.ifCond .eq 11, 3) := by decide +kernel
theorem dX12_steps_8 : decode cX12_steps 8 = .ok (.aload_n 0, 1) := by decide +kernel
theorem dX12_steps_9 : decode cX12_steps 9 = .ok (.iload_n 2, 1) := by decide +kernel
theorem dX12_steps_10 : decode cX12_steps 10 = .ok (.invokevirtual 91, 3) := by decide +kernel
theorem dX12_steps_13 : decode cX12_steps 13 = .ok (.ifCond .ne 6, 3) := by decide +kernel
theorem dX12_steps_16 : decode cX12_steps 16 = .ok (.ldc 86, 2) := by decide +kernel
theorem dX12_steps_18 : decode cX12_steps 18 = .ok (.ireturn, 1) := by decide +kernel
theorem dX12_steps_19 : decode cX12_steps 19 = .ok (.aload_n 0, 1) := by decide +kernel
theorem dX12_steps_20 : decode cX12_steps 20 = .ok (.iload_n 2, 1) := by decide +kernel
theorem dX12_steps_21 : decode cX12_steps 21 = .ok (.invokevirtual 114, 3) := by decide +kernel
theorem dX12_steps_24 : decode cX12_steps 24 = .ok (.aload_n 0, 1) := by decide +kernel
theorem dX12_steps_25 : decode cX12_steps 25 = .ok (.getfield 28, 3) := by decide +kernel
theorem dX12_steps_28 : decode cX12_steps 28 = .ok (.iload_n 1, 1) := by decide +kernel
theorem dX12_steps_29 : decode cX12_steps 29 = .ok (.iaload, 1) := by decide +kernel
theorem dX12_steps_30 : decode cX12_steps 30 = .ok (.ifCond .ge 8, 3) := by decide +kernel
theorem dX12_steps_33 : decode cX12_steps 33 = .ok (.ldc 100, 2) := by decide +kernel
theorem dX12_steps_35 : decode cX12_steps 35 = .ok (.goto 9, 3) := by decide +kernel
theorem dX12_steps_38 : decode cX12_steps 38 = .ok (.aload_n 0, 1) := by decide +kernel
theorem dX12_steps_39 : decode cX12_steps 39 = .ok (.getfield 28, 3) := by decide +kernel
theorem dX12_steps_42 : decode cX12_steps 42 = .ok (.iload_n 1, 1) := by decide +kernel
theorem dX12_steps_43 : decode cX12_steps 43 = .ok (.iaload, 1) := by decide +kernel
theorem dX12_steps_44 : decode cX12_steps 44 = .ok (.ireturn, 1) := by decide +kernel
theorem dX12_store_0 : decode cX12_store 0 = .ok (.iload_n 1, 1) := by decide +kernel
theorem dX12_store_1 : decode cX12_store 1 = .ok (.iconst 0, 1) := by decide +kernel
theorem dX12_store_2 : decode cX12_store 2 = .ok (.iconst 2, 1) := by decide +kernel
theorem dX12_store_3 : decode cX12_store 3 = .ok (.invokestatic 82, 3) := by decide +kernel
theorem dX12_store_6 : decode cX12_store 6 = .ok (.ifCond .eq 14, 3) := by decide +kernel
theorem dX12_store_9 : decode cX12_store 9 = .ok (.iload_n 2, 1) := by decide +kernel
theorem dX12_store_10 : decode cX12_store 10 = .ok (.iconst 0, 1) := by decide +kernel
theorem dX12_store_11 : decode cX12_store 11 = .ok (.sipush 9999, 3) := by decide +kernel
theorem dX12_store_14 : decode cX12_store 14 = .ok (.invokestatic 82, 3) := by decide +kernel
theorem dX12_store_17 : decode cX12_store 17 = .ok (.ifCond .ne 6, 3) := by decide +kernel
theorem dX12_store_20 : decode cX12_store 20 = .ok (.ldc 86, 2) := by decide +kernel
theorem dX12_store_22 : decode cX12_store 22 = .ok (.ireturn, 1) := by decide +kernel
theorem dX12_store_23 : decode cX12_store 23 = .ok (.aload_n 0, 1) := by decide +kernel
theorem dX12_store_24 : decode cX12_store 24 = .ok (.getfield 9, 3) := by decide +kernel
theorem dX12_store_27 : decode cX12_store 27 = .ok (.bipush 10, 2) := by decide +kernel
theorem dX12_store_29 : decode cX12_store 29 = .ok (.iload_n 1, 1) := by decide +kernel
theorem dX12_store_30 : decode cX12_store 30 = .ok (.iadd, 1) := by decide +kernel
theorem dX12_store_31 : decode cX12_store 31 = .ok (.iaload, 1) := by decide +kernel
theorem dX12_store_32 : decode cX12_store 32 = .ok (.istore_n 3, 1) := by decide +kernel
theorem dX12_store_33 : decode cX12_store 33 = .ok (.aload_n 0, 1) := by decide +kernel
theorem dX12_store_34 : decode cX12_store 34 = .ok (.getfield 9, 3) := by decide +kernel
theorem dX12_store_37 : decode cX12_store 37 = .ok (.bipush 10, 2) := by decide +kernel
theorem dX12_store_39 : decode cX12_store 39 = .ok (.iload_n 1, 1) := by decide +kernel
theorem dX12_store_40 : decode cX12_store 40 = .ok (.iadd, 1) := by decide +kernel
theorem dX12_store_41 : decode cX12_store 41 = .ok (.iload_n 2, 1) := by decide +kernel
theorem dX12_store_42 : decode cX12_store 42 = .ok (.iastore, 1) := by decide +kernel
theorem dX12_store_43 : decode cX12_store 43 = .ok (.iload_n 3, 1) := by decide +kernel
theorem dX12_store_44 : decode cX12_store 44 = .ok (.ireturn, 1) := by decide +kernel
theorem dX12_isRule_0 : decode cX12_isRule 0 = .ok (.iload_n 0, 1) := by decide +kernel
theorem dX12_isRule_1 : decode cX12_isRule 1 = .ok (.tableswitch 64 0 3 #[31, 39, 47, 56], 31) := by decide +kernel
theorem dX12_isRule_32 : decode cX12_isRule 32 = .ok (.iload_n 1, 1) := by decide +kernel
theorem dX12_isRule_33 : decode cX12_isRule 33 = .ok (.iconst 1, 1) := by decide +kernel
theorem dX12_isRule_34 : decode cX12_isRule 34 = .ok (.bipush 24, 2) := by decide +kernel
theorem dX12_isRule_36 : decode cX12_isRule 36 = .ok (.invokestatic 82, 3) := by decide +kernel
theorem dX12_isRule_39 : decode cX12_isRule 39 = .ok (.ireturn, 1) := by decide +kernel
theorem dX12_isRule_40 : decode cX12_isRule 40 = .ok (.iload_n 1, 1) := by decide +kernel
theorem dX12_isRule_41 : decode cX12_isRule 41 = .ok (.iconst 0, 1) := by decide +kernel
theorem dX12_isRule_42 : decode cX12_isRule 42 = .ok (.bipush 24, 2) := by decide +kernel
theorem dX12_isRule_44 : decode cX12_isRule 44 = .ok (.invokestatic 82, 3) := by decide +kernel
theorem dX12_isRule_47 : decode cX12_isRule 47 = .ok (.ireturn, 1) := by decide +kernel
theorem dX12_isRule_48 : decode cX12_isRule 48 = .ok (.iload_n 1, 1) := by decide +kernel
theorem dX12_isRule_49 : decode cX12_isRule 49 = .ok (.iconst 0, 1) := by decide +kernel
theorem dX12_isRule_50 : decode cX12_isRule 50 = .ok (.sipush 9999, 3) := by decide +kernel
theorem dX12_isRule_53 : decode cX12_isRule 53 = .ok (.invokestatic 82, 3) := by decide +kernel
theorem dX12_isRule_56 : decode cX12_isRule 56 = .ok (.ireturn, 1) := by decide +kernel
theorem dX12_isRule_57 : decode cX12_isRule 57 = .ok (.iload_n 1, 1) := by decide +kernel
theorem dX12_isRule_58 : decode cX12_isRule 58 = .ok (.iconst 0, 1) := by decide +kernel
theorem dX12_isRule_59 : decode cX12_isRule 59 = .ok (.bipush 99, 2) := by decide +kernel
theorem dX12_isRule_61 : decode cX12_isRule 61 = .ok (.invokestatic 82, 3) := by decide +kernel
theorem dX12_isRule_64 : decode cX12_isRule 64 = .ok (.ireturn, 1) := by decide +kernel
theorem dX12_isRule_65 : decode cX12_isRule 65 = .ok (.iload_n 0, 1) := by decide +kernel
theorem dX12_isRule_66 : decode cX12_isRule 66 = .ok (.iconst 4, 1) := by decide +kernel
theorem dX12_isRule_67 : decode cX12_isRule 67 = .ok (.if_icmp .ne 17, 3) := by decide +kernel
theorem dX12_isRule_70 : decode cX12_isRule 70 = .ok (.iload_n 1, 1) := by decide +kernel
theorem dX12_isRule_71 : decode cX12_isRule 71 = .ok (.iconst 0, 1) := by decide +kernel
theorem dX12_isRule_72 : decode cX12_isRule 72 = .ok (.bipush 9, 2) := by decide +kernel
theorem dX12_isRule_74 : decode cX12_isRule 74 = .ok (.invokestatic 82, 3) := by decide +kernel
theorem dX12_isRule_77 : decode cX12_isRule 77 = .ok (.ifCond .eq 7, 3) := by decide +kernel
theorem dX12_isRule_80 : decode cX12_isRule 80 = .ok (.iconst 1, 1) := by decide +kernel
theorem dX12_isRule_81 : decode cX12_isRule 81 = .ok (.goto 4, 3) := by decide +kernel
theorem dX12_isRule_84 : decode cX12_isRule 84 = .ok (.iconst 0, 1) := by decide +kernel
theorem dX12_isRule_85 : decode cX12_isRule 85 = .ok (.ireturn, 1) := by decide +kernel
theorem dX12_rule_0 : decode cX12_rule 0 = .ok (.iload_n 1, 1) := by decide +kernel
theorem dX12_rule_1 : decode cX12_rule 1 = .ok (.iload_n 2, 1) := by decide +kernel
theorem dX12_rule_2 : decode cX12_rule 2 = .ok (.invokestatic 118, 3) := by decide +kernel
theorem dX12_rule_5 : decode cX12_rule 5 = .ok (.ifCond .ne 6, 3) := by decide +kernel
theorem dX12_rule_8 : decode cX12_rule 8 = .ok (.ldc 86, 2) := by decide +kernel
theorem dX12_rule_10 : decode cX12_rule 10 = .ok (.ireturn, 1) := by decide +kernel
theorem dX12_rule_11 : decode cX12_rule 11 = .ok (.aload_n 0, 1) := by decide +kernel
theorem dX12_rule_12 : decode cX12_rule 12 = .ok (.getfield 9, 3) := by decide +kernel
theorem dX12_rule_15 : decode cX12_rule 15 = .ok (.iconst 2, 1) := by decide +kernel
theorem dX12_rule_16 : decode cX12_rule 16 = .ok (.iload_n 1, 1) := by decide +kernel
theorem dX12_rule_17 : decode cX12_rule 17 = .ok (.iadd, 1) := by decide +kernel
theorem dX12_rule_18 : decode cX12_rule 18 = .ok (.iaload, 1) := by decide +kernel
theorem dX12_rule_19 : decode cX12_rule 19 = .ok (.istore_n 3, 1) := by decide +kernel
theorem dX12_rule_20 : decode cX12_rule 20 = .ok (.aload_n 0, 1) := by decide +kernel
theorem dX12_rule_21 : decode cX12_rule 21 = .ok (.getfield 9, 3) := by decide +kernel
theorem dX12_rule_24 : decode cX12_rule 24 = .ok (.iconst 2, 1) := by decide +kernel
theorem dX12_rule_25 : decode cX12_rule 25 = .ok (.iload_n 1, 1) := by decide +kernel
theorem dX12_rule_26 : decode cX12_rule 26 = .ok (.iadd, 1) := by decide +kernel
theorem dX12_rule_27 : decode cX12_rule 27 = .ok (.iload_n 2, 1) := by decide +kernel
theorem dX12_rule_28 : decode cX12_rule 28 = .ok (.iastore, 1) := by decide +kernel
theorem dX12_rule_29 : decode cX12_rule 29 = .ok (.iload_n 3, 1) := by decide +kernel
theorem dX12_rule_30 : decode cX12_rule 30 = .ok (.ireturn, 1) := by decide +kernel
theorem dX12_load_0 : decode cX12_load 0 = .ok (.iload_n 1, 1) := by decide +kernel
theorem dX12_load_1 : decode cX12_load 1 = .ok (.iconst 1, 1) := by decide +kernel
theorem dX12_load_2 : decode cX12_load 2 = .ok (.bipush 50, 2) := by decide +kernel
theorem dX12_load_4 : decode cX12_load 4 = .ok (.invokestatic 82, 3) := by decide +kernel
theorem dX12_load_7 : decode cX12_load 7 = .ok (.ifCond .eq 13, 3) := by decide +kernel
theorem dX12_load_10 : decode cX12_load 10 = .ok (.iload_n 2, 1) := by decide +kernel
theorem dX12_load_11 : decode cX12_load 11 = .ok (.iconst 1, 1) := by decide +kernel
theorem dX12_load_12 : decode cX12_load 12 = .ok (.bipush 99, 2) := by decide +kernel
theorem dX12_load_14 : decode cX12_load 14 = .ok (.invokestatic 82, 3) := by decide +kernel
theorem dX12_load_17 : decode cX12_load 17 = .ok (.ifCond .ne 6, 3) := by decide +kernel
theorem dX12_load_20 : decode cX12_load 20 = .ok (.ldc 86, 2) := by decide +kernel
theorem dX12_load_22 : decode cX12_load 22 = .ok (.ireturn, 1) := by decide +kernel
theorem dX12_load_23 : decode cX12_load 23 = .ok (.aload_n 0, 1) := by decide +kernel
theorem dX12_load_24 : decode cX12_load 24 = .ok (.getfield 9, 3) := by decide +kernel
theorem dX12_load_27 : decode cX12_load 27 = .ok (.bipush 15, 2) := by decide +kernel
theorem dX12_load_29 : decode cX12_load 29 = .ok (.iaload, 1) := by decide +kernel
theorem dX12_load_30 : decode cX12_load 30 = .ok (.istore_n 3, 1) := by decide +kernel
theorem dX12_load_31 : decode cX12_load 31 = .ok (.iload_n 3, 1) := by decide +kernel
theorem dX12_load_32 : decode cX12_load 32 = .ok (.bipush 8, 2) := by decide +kernel
theorem dX12_load_34 : decode cX12_load 34 = .ok (.if_icmp .ne 6, 3) := by decide +kernel
theorem dX12_load_37 : decode cX12_load 37 = .ok (.ldc 121, 2) := by decide +kernel
theorem dX12_load_39 : decode cX12_load 39 = .ok (.ireturn, 1) := by decide +kernel
theorem dX12_load_40 : decode cX12_load 40 = .ok (.aload_n 0, 1) := by decide +kernel
theorem dX12_load_41 : decode cX12_load 41 = .ok (.getfield 9, 3) := by decide +kernel
theorem dX12_load_44 : decode cX12_load 44 = .ok (.sipush 590, 3) := by decide +kernel
theorem dX12_load_47 : decode cX12_load 47 = .ok (.iload_n 3, 1) := by decide +kernel
theorem dX12_load_48 : decode cX12_load 48 = .ok (.iadd, 1) := by decide +kernel
theorem dX12_load_49 : decode cX12_load 49 = .ok (.iload_n 1, 1) := by decide +kernel
theorem dX12_load_50 : decode cX12_load 50 = .ok (.iastore, 1) := by decide +kernel
theorem dX12_load_51 : decode cX12_load 51 = .ok (.aload_n 0, 1) := by decide +kernel
theorem dX12_load_52 : decode cX12_load 52 = .ok (.getfield 9, 3) := by decide +kernel
theorem dX12_load_55 : decode cX12_load 55 = .ok (.sipush 598, 3) := by decide +kernel
theorem dX12_load_58 : decode cX12_load 58 = .ok (.iload_n 3, 1) := by decide +kernel
theorem dX12_load_59 : decode cX12_load 59 = .ok (.iadd, 1) := by decide +kernel
theorem dX12_load_60 : decode cX12_load 60 = .ok (.iload_n 2, 1) := by decide +kernel
theorem dX12_load_61 : decode cX12_load 61 = .ok (.iastore, 1) := by decide +kernel
theorem dX12_load_62 : decode cX12_load 62 = .ok (.aload_n 0, 1) := by decide +kernel
theorem dX12_load_63 : decode cX12_load 63 = .ok (.getfield 9, 3) := by decide +kernel
theorem dX12_load_66 : decode cX12_load 66 = .ok (.bipush 15, 2) := by decide +kernel
theorem dX12_load_68 : decode cX12_load 68 = .ok (.dup2, 1) := by decide +kernel
theorem dX12_load_69 : decode cX12_load 69 = .ok (.iaload, 1) := by decide +kernel
theorem dX12_load_70 : decode cX12_load 70 = .ok (.iconst 1, 1) := by decide +kernel
theorem dX12_load_71 : decode cX12_load 71 = .ok (.iadd, 1) := by decide +kernel
theorem dX12_load_72 : decode cX12_load 72 = .ok (.iastore, 1) := by decide +kernel
theorem dX12_load_73 : decode cX12_load 73 = .ok (.iload_n 3, 1) := by decide +kernel
theorem dX12_load_74 : decode cX12_load 74 = .ok (.ireturn, 1) := by decide +kernel
theorem dX12_restOfTick_0 : decode cX12_restOfTick 0 = .ok (.aload_n 0, 1) := by decide +kernel
theorem dX12_restOfTick_1 : decode cX12_restOfTick 1 = .ok (.getfield 9, 3) := by decide +kernel
theorem dX12_restOfTick_4 : decode cX12_restOfTick 4 = .ok (.bipush 7, 2) := by decide +kernel
theorem dX12_restOfTick_6 : decode cX12_restOfTick 6 = .ok (.iaload, 1) := by decide +kernel
theorem dX12_restOfTick_7 : decode cX12_restOfTick 7 = .ok (.aload_n 0, 1) := by decide +kernel
theorem dX12_restOfTick_8 : decode cX12_restOfTick 8 = .ok (.getfield 9, 3) := by decide +kernel
theorem dX12_restOfTick_11 : decode cX12_restOfTick 11 = .ok (.iconst 2, 1) := by decide +kernel
theorem dX12_restOfTick_12 : decode cX12_restOfTick 12 = .ok (.iaload, 1) := by decide +kernel
theorem dX12_restOfTick_13 : decode cX12_restOfTick 13 = .ok (.aload_n 0, 1) := by decide +kernel
theorem dX12_restOfTick_14 : decode cX12_restOfTick 14 = .ok (.getfield 9, 3) := by decide +kernel
theorem dX12_restOfTick_17 : decode cX12_restOfTick 17 = .ok (.iconst 3, 1) := by decide +kernel
theorem dX12_restOfTick_18 : decode cX12_restOfTick 18 = .ok (.iaload, 1) := by decide +kernel
theorem dX12_restOfTick_19 : decode cX12_restOfTick 19 = .ok (.iadd, 1) := by decide +kernel
theorem dX12_restOfTick_20 : decode cX12_restOfTick 20 = .ok (.irem, 1) := by decide +kernel
theorem dX12_restOfTick_21 : decode cX12_restOfTick 21 = .ok (.ireturn, 1) := by decide +kernel
theorem dX12_isLight_0 : decode cX12_isLight 0 = .ok (.aload_n 0, 1) := by decide +kernel
theorem dX12_isLight_1 : decode cX12_isLight 1 = .ok (.invokevirtual 122, 3) := by decide +kernel
theorem dX12_isLight_4 : decode cX12_isLight 4 = .ok (.aload_n 0, 1) := by decide +kernel
theorem dX12_isLight_5 : decode cX12_isLight 5 = .ok (.getfield 9, 3) := by decide +kernel
theorem dX12_isLight_8 : decode cX12_isLight 8 = .ok (.iconst 2, 1) := by decide +kernel
theorem dX12_isLight_9 : decode cX12_isLight 9 = .ok (.iaload, 1) := by decide +kernel
theorem dX12_isLight_10 : decode cX12_isLight 10 = .ok (.if_icmp .ge 7, 3) := by decide +kernel
theorem dX12_isLight_13 : decode cX12_isLight 13 = .ok (.iconst 1, 1) := by decide +kernel
theorem dX12_isLight_14 : decode cX12_isLight 14 = .ok (.goto 4, 3) := by decide +kernel
theorem dX12_isLight_17 : decode cX12_isLight 17 = .ok (.iconst 0, 1) := by decide +kernel
theorem dX12_isLight_18 : decode cX12_isLight 18 = .ok (.ireturn, 1) := by decide +kernel
theorem dX12_base_0 : decode cX12_base 0 = .ok (.iload_n 1, 1) := by decide +kernel
theorem dX12_base_1 : decode cX12_base 1 = .ok (.tableswitch 115 0 8 #[51, 59, 72, 79, 86, 94, 102, 102, 102], 51) := by decide +kernel
theorem dX12_base_52 : decode cX12_base 52 = .ok (.aload_n 0, 1) := by decide +kernel
theorem dX12_base_53 : decode cX12_base 53 = .ok (.getfield 9, 3) := by decide +kernel
theorem dX12_base_56 : decode cX12_base 56 = .ok (.bipush 7, 2) := by decide +kernel
theorem dX12_base_58 : decode cX12_base 58 = .ok (.iaload, 1) := by decide +kernel
theorem dX12_base_59 : decode cX12_base 59 = .ok (.ireturn, 1) := by decide +kernel
theorem dX12_base_60 : decode cX12_base 60 = .ok (.aload_n 0, 1) := by decide +kernel
theorem dX12_base_61 : decode cX12_base 61 = .ok (.invokevirtual 125, 3) := by decide +kernel
theorem dX12_base_64 : decode cX12_base 64 = .ok (.ifCond .eq 7, 3) := by decide +kernel
theorem dX12_base_67 : decode cX12_base 67 = .ok (.iconst 1, 1) := by decide +kernel
theorem dX12_base_68 : decode cX12_base 68 = .ok (.goto 4, 3) := by decide +kernel
theorem dX12_base_71 : decode cX12_base 71 = .ok (.iconst 0, 1) := by decide +kernel
theorem dX12_base_72 : decode cX12_base 72 = .ok (.ireturn, 1) := by decide +kernel
theorem dX12_base_73 : decode cX12_base 73 = .ok (.aload_n 0, 1) := by decide +kernel
theorem dX12_base_74 : decode cX12_base 74 = .ok (.getfield 9, 3) := by decide +kernel
theorem dX12_base_77 : decode cX12_base 77 = .ok (.iconst 4, 1) := by decide +kernel
theorem dX12_base_78 : decode cX12_base 78 = .ok (.iaload, 1) := by decide +kernel
theorem dX12_base_79 : decode cX12_base 79 = .ok (.ireturn, 1) := by decide +kernel
theorem dX12_base_80 : decode cX12_base 80 = .ok (.aload_n 0, 1) := by decide +kernel
theorem dX12_base_81 : decode cX12_base 81 = .ok (.getfield 9, 3) := by decide +kernel
theorem dX12_base_84 : decode cX12_base 84 = .ok (.iconst 5, 1) := by decide +kernel
theorem dX12_base_85 : decode cX12_base 85 = .ok (.iaload, 1) := by decide +kernel
theorem dX12_base_86 : decode cX12_base 86 = .ok (.ireturn, 1) := by decide +kernel
theorem dX12_base_87 : decode cX12_base 87 = .ok (.aload_n 0, 1) := by decide +kernel
theorem dX12_base_88 : decode cX12_base 88 = .ok (.getfield 9, 3) := by decide +kernel
theorem dX12_base_91 : decode cX12_base 91 = .ok (.bipush 8, 2) := by decide +kernel
theorem dX12_base_93 : decode cX12_base 93 = .ok (.iaload, 1) := by decide +kernel
theorem dX12_base_94 : decode cX12_base 94 = .ok (.ireturn, 1) := by decide +kernel
theorem dX12_base_95 : decode cX12_base 95 = .ok (.aload_n 0, 1) := by decide +kernel
theorem dX12_base_96 : decode cX12_base 96 = .ok (.getfield 9, 3) := by decide +kernel
theorem dX12_base_99 : decode cX12_base 99 = .ok (.bipush 9, 2) := by decide +kernel
theorem dX12_base_101 : decode cX12_base 101 = .ok (.iaload, 1) := by decide +kernel
theorem dX12_base_102 : decode cX12_base 102 = .ok (.ireturn, 1) := by decide +kernel
theorem dX12_base_103 : decode cX12_base 103 = .ok (.aload_n 0, 1) := by decide +kernel
theorem dX12_base_104 : decode cX12_base 104 = .ok (.getfield 9, 3) := by decide +kernel
theorem dX12_base_107 : decode cX12_base 107 = .ok (.bipush 10, 2) := by decide +kernel
theorem dX12_base_109 : decode cX12_base 109 = .ok (.iload_n 1, 1) := by decide +kernel
theorem dX12_base_110 : decode cX12_base 110 = .ok (.iadd, 1) := by decide +kernel
theorem dX12_base_111 : decode cX12_base 111 = .ok (.bipush 6, 2) := by decide +kernel
theorem dX12_base_113 : decode cX12_base 113 = .ok (.isub, 1) := by decide +kernel
theorem dX12_base_114 : decode cX12_base 114 = .ok (.iaload, 1) := by decide +kernel
theorem dX12_base_115 : decode cX12_base 115 = .ok (.ireturn, 1) := by decide +kernel
theorem dX12_base_116 : decode cX12_base 116 = .ok (.ldc 86, 2) := by decide +kernel
theorem dX12_base_118 : decode cX12_base 118 = .ok (.ireturn, 1) := by decide +kernel
theorem dX12_machine_0 : decode cX12_machine 0 = .ok (.iload_n 1, 1) := by decide +kernel
theorem dX12_machine_1 : decode cX12_machine 1 = .ok (.iconst 0, 1) := by decide +kernel
theorem dX12_machine_2 : decode cX12_machine 2 = .ok (.iconst 3, 1) := by decide +kernel
theorem dX12_machine_3 : decode cX12_machine 3 = .ok (.invokestatic 82, 3) := by decide +kernel
theorem dX12_machine_6 : decode cX12_machine 6 = .ok (.ifCond .eq 11, 3) := by decide +kernel
theorem dX12_machine_9 : decode cX12_machine 9 = .ok (.aload_n 0, 1) := by decide +kernel
theorem dX12_machine_10 : decode cX12_machine 10 = .ok (.iload_n 2, 1) := by decide +kernel
theorem dX12_machine_11 : decode cX12_machine 11 = .ok (.invokevirtual 91, 3) := by decide +kernel
theorem dX12_machine_14 : decode cX12_machine 14 = .ok (.ifCond .ne 6, 3) := by decide +kernel
theorem dX12_machine_17 : decode cX12_machine 17 = .ok (.ldc 86, 2) := by decide +kernel
theorem dX12_machine_19 : decode cX12_machine 19 = .ok (.ireturn, 1) := by decide +kernel
theorem dX12_machine_20 : decode cX12_machine 20 = .ok (.aload_n 0, 1) := by decide +kernel
theorem dX12_machine_21 : decode cX12_machine 21 = .ok (.getfield 9, 3) := by decide +kernel
theorem dX12_machine_24 : decode cX12_machine 24 = .ok (.bipush 30, 2) := by decide +kernel
theorem dX12_machine_26 : decode cX12_machine 26 = .ok (.iload_n 2, 1) := by decide +kernel
theorem dX12_machine_27 : decode cX12_machine 27 = .ok (.iadd, 1) := by decide +kernel
theorem dX12_machine_28 : decode cX12_machine 28 = .ok (.iaload, 1) := by decide +kernel
theorem dX12_machine_29 : decode cX12_machine 29 = .ok (.iconst 1, 1) := by decide +kernel
theorem dX12_machine_30 : decode cX12_machine 30 = .ok (.if_icmp .eq 11, 3) := by decide +kernel
theorem dX12_machine_33 : decode cX12_machine 33 = .ok (.aload_n 0, 1) := by decide +kernel
theorem dX12_machine_34 : decode cX12_machine 34 = .ok (.iload_n 2, 1) := by decide +kernel
theorem dX12_machine_35 : decode cX12_machine 35 = .ok (.invokevirtual 95, 3) := by decide +kernel
theorem dX12_machine_38 : decode cX12_machine 38 = .ok (.ifCond .lt 6, 3) := by decide +kernel
theorem dX12_machine_41 : decode cX12_machine 41 = .ok (.ldc 99, 2) := by decide +kernel
theorem dX12_machine_43 : decode cX12_machine 43 = .ok (.ireturn, 1) := by decide +kernel
theorem dX12_machine_44 : decode cX12_machine 44 = .ok (.aload_n 0, 1) := by decide +kernel
theorem dX12_machine_45 : decode cX12_machine 45 = .ok (.getfield 9, 3) := by decide +kernel
theorem dX12_machine_48 : decode cX12_machine 48 = .ok (.bipush 16, 2) := by decide +kernel
theorem dX12_machine_50 : decode cX12_machine 50 = .ok (.iaload, 1) := by decide +kernel
theorem dX12_machine_51 : decode cX12_machine 51 = .ok (.istore_n 3, 1) := by decide +kernel
theorem dX12_machine_52 : decode cX12_machine 52 = .ok (.iload_n 3, 1) := by decide +kernel
theorem dX12_machine_53 : decode cX12_machine 53 = .ok (.iconst 5, 1) := by decide +kernel
theorem dX12_machine_54 : decode cX12_machine 54 = .ok (.if_icmp .ne 6, 3) := by decide +kernel
theorem dX12_machine_57 : decode cX12_machine 57 = .ok (.ldc 121, 2) := by decide +kernel
theorem dX12_machine_59 : decode cX12_machine 59 = .ok (.ireturn, 1) := by decide +kernel
theorem dX12_machine_60 : decode cX12_machine 60 = .ok (.aload_n 0, 1) := by decide +kernel
theorem dX12_machine_61 : decode cX12_machine 61 = .ok (.getfield 9, 3) := by decide +kernel
theorem dX12_machine_64 : decode cX12_machine 64 = .ok (.iload_n 3, 1) := by decide +kernel
theorem dX12_machine_65 : decode cX12_machine 65 = .ok (.iconst 0, 1) := by decide +kernel
theorem dX12_machine_66 : decode cX12_machine 66 = .ok (.invokestatic 87, 3) := by decide +kernel
theorem dX12_machine_69 : decode cX12_machine 69 = .ok (.iload_n 1, 1) := by decide +kernel
theorem dX12_machine_70 : decode cX12_machine 70 = .ok (.iastore, 1) := by decide +kernel
theorem dX12_machine_71 : decode cX12_machine 71 = .ok (.aload_n 0, 1) := by decide +kernel
theorem dX12_machine_72 : decode cX12_machine 72 = .ok (.getfield 9, 3) := by decide +kernel
theorem dX12_machine_75 : decode cX12_machine 75 = .ok (.iload_n 3, 1) := by decide +kernel
theorem dX12_machine_76 : decode cX12_machine 76 = .ok (.iconst 1, 1) := by decide +kernel
theorem dX12_machine_77 : decode cX12_machine 77 = .ok (.invokestatic 87, 3) := by decide +kernel
theorem dX12_machine_80 : decode cX12_machine 80 = .ok (.iload_n 2, 1) := by decide +kernel
theorem dX12_machine_81 : decode cX12_machine 81 = .ok (.iastore, 1) := by decide +kernel
theorem dX12_machine_82 : decode cX12_machine 82 = .ok (.aload_n 0, 1) := by decide +kernel
theorem dX12_machine_83 : decode cX12_machine 83 = .ok (.getfield 9, 3) := by decide +kernel
theorem dX12_machine_86 : decode cX12_machine 86 = .ok (.iload_n 3, 1) := by decide +kernel
theorem dX12_machine_87 : decode cX12_machine 87 = .ok (.iconst 2, 1) := by decide +kernel
theorem dX12_machine_88 : decode cX12_machine 88 = .ok (.invokestatic 87, 3) := by decide +kernel
theorem dX12_machine_91 : decode cX12_machine 91 = .ok (.bipush 50, 2) := by decide +kernel
theorem dX12_machine_93 : decode cX12_machine 93 = .ok (.iastore, 1) := by decide +kernel
theorem dX12_machine_94 : decode cX12_machine 94 = .ok (.aload_n 0, 1) := by decide +kernel
theorem dX12_machine_95 : decode cX12_machine 95 = .ok (.getfield 9, 3) := by decide +kernel
theorem dX12_machine_98 : decode cX12_machine 98 = .ok (.iload_n 3, 1) := by decide +kernel
theorem dX12_machine_99 : decode cX12_machine 99 = .ok (.iconst 3, 1) := by decide +kernel
theorem dX12_machine_100 : decode cX12_machine 100 = .ok (.invokestatic 87, 3) := by decide +kernel
theorem dX12_machine_103 : decode cX12_machine 103 = .ok (.iconst 0, 1) := by decide +kernel
theorem dX12_machine_104 : decode cX12_machine 104 = .ok (.iastore, 1) := by decide +kernel
theorem dX12_machine_105 : decode cX12_machine 105 = .ok (.aload_n 0, 1) := by decide +kernel
theorem dX12_machine_106 : decode cX12_machine 106 = .ok (.getfield 9, 3) := by decide +kernel
theorem dX12_machine_109 : decode cX12_machine 109 = .ok (.iload_n 3, 1) := by decide +kernel
theorem dX12_machine_110 : decode cX12_machine 110 = .ok (.iconst 4, 1) := by decide +kernel
theorem dX12_machine_111 : decode cX12_machine 111 = .ok (.invokestatic 87, 3) := by decide +kernel
theorem dX12_machine_114 : decode cX12_machine 114 = .ok (.iconst 0, 1) := by decide +kernel
theorem dX12_machine_115 : decode cX12_machine 115 = .ok (.iastore, 1) := by decide +kernel
theorem dX12_machine_116 : decode cX12_machine 116 = .ok (.aload_n 0, 1) := by decide +kernel
theorem dX12_machine_117 : decode cX12_machine 117 = .ok (.getfield 9, 3) := by decide +kernel
theorem dX12_machine_120 : decode cX12_machine 120 = .ok (.iload_n 3, 1) := by decide +kernel
theorem dX12_machine_121 : decode cX12_machine 121 = .ok (.iconst 5, 1) := by decide +kernel
theorem dX12_machine_122 : decode cX12_machine 122 = .ok (.invokestatic 87, 3) := by decide +kernel
theorem dX12_machine_125 : decode cX12_machine 125 = .ok (.iconst 0, 1) := by decide +kernel
theorem dX12_machine_126 : decode cX12_machine 126 = .ok (.iastore, 1) := by decide +kernel
theorem dX12_machine_127 : decode cX12_machine 127 = .ok (.aload_n 0, 1) := by decide +kernel
theorem dX12_machine_128 : decode cX12_machine 128 = .ok (.getfield 9, 3) := by decide +kernel
theorem dX12_machine_131 : decode cX12_machine 131 = .ok (.iload_n 3, 1) := by decide +kernel
theorem dX12_machine_132 : decode cX12_machine 132 = .ok (.bipush 6, 2) := by decide +kernel
theorem dX12_machine_134 : decode cX12_machine 134 = .ok (.invokestatic 87, 3) := by decide +kernel
theorem dX12_machine_137 : decode cX12_machine 137 = .ok (.iconst (-1), 1) := by decide +kernel
theorem dX12_machine_138 : decode cX12_machine 138 = .ok (.iastore, 1) := by decide +kernel
theorem dX12_machine_139 : decode cX12_machine 139 = .ok (.aload_n 0, 1) := by decide +kernel
theorem dX12_machine_140 : decode cX12_machine 140 = .ok (.getfield 9, 3) := by decide +kernel
theorem dX12_machine_143 : decode cX12_machine 143 = .ok (.bipush 16, 2) := by decide +kernel
theorem dX12_machine_145 : decode cX12_machine 145 = .ok (.dup2, 1) := by decide +kernel
theorem dX12_machine_146 : decode cX12_machine 146 = .ok (.iaload, 1) := by decide +kernel
theorem dX12_machine_147 : decode cX12_machine 147 = .ok (.iconst 1, 1) := by decide +kernel
theorem dX12_machine_148 : decode cX12_machine 148 = .ok (.iadd, 1) := by decide +kernel
theorem dX12_machine_149 : decode cX12_machine 149 = .ok (.iastore, 1) := by decide +kernel
theorem dX12_machine_150 : decode cX12_machine 150 = .ok (.iload_n 3, 1) := by decide +kernel
theorem dX12_machine_151 : decode cX12_machine 151 = .ok (.ireturn, 1) := by decide +kernel
theorem dX12_isKind_0 : decode cX12_isKind 0 = .ok (.aload_n 0, 1) := by decide +kernel
theorem dX12_isKind_1 : decode cX12_isKind 1 = .ok (.getfield 9, 3) := by decide +kernel
theorem dX12_isKind_4 : decode cX12_isKind 4 = .ok (.iload_n 1, 1) := by decide +kernel
theorem dX12_isKind_5 : decode cX12_isKind 5 = .ok (.iconst 0, 1) := by decide +kernel
theorem dX12_isKind_6 : decode cX12_isKind 6 = .ok (.invokestatic 87, 3) := by decide +kernel
theorem dX12_isKind_9 : decode cX12_isKind 9 = .ok (.iaload, 1) := by decide +kernel
theorem dX12_isKind_10 : decode cX12_isKind 10 = .ok (.istore_n 3, 1) := by decide +kernel
theorem dX12_isKind_11 : decode cX12_isKind 11 = .ok (.iload_n 2, 1) := by decide +kernel
theorem dX12_isKind_12 : decode cX12_isKind 12 = .ok (.ifCond .eq 18, 3) := by decide +kernel
theorem dX12_isKind_15 : decode cX12_isKind 15 = .ok (.iload_n 3, 1) := by decide +kernel
theorem dX12_isKind_16 : decode cX12_isKind 16 = .ok (.iload_n 2, 1) := by decide +kernel
theorem dX12_isKind_17 : decode cX12_isKind 17 = .ok (.if_icmp .eq 13, 3) := by decide +kernel
theorem dX12_isKind_20 : decode cX12_isKind 20 = .ok (.iload_n 2, 1) := by decide +kernel
theorem dX12_isKind_21 : decode cX12_isKind 21 = .ok (.iconst 1, 1) := by decide +kernel
theorem dX12_isKind_22 : decode cX12_isKind 22 = .ok (.if_icmp .ne 12, 3) := by decide +kernel
theorem dX12_isKind_25 : decode cX12_isKind 25 = .ok (.iload_n 3, 1) := by decide +kernel
theorem dX12_isKind_26 : decode cX12_isKind 26 = .ok (.iconst 2, 1) := by decide +kernel
theorem dX12_isKind_27 : decode cX12_isKind 27 = .ok (.if_icmp .ne 7, 3) := by decide +kernel
theorem dX12_isKind_30 : decode cX12_isKind 30 = .ok (.iconst 1, 1) := by decide +kernel
theorem dX12_isKind_31 : decode cX12_isKind 31 = .ok (.goto 4, 3) := by decide +kernel
theorem dX12_isKind_34 : decode cX12_isKind 34 = .ok (.iconst 0, 1) := by decide +kernel
theorem dX12_isKind_35 : decode cX12_isKind 35 = .ok (.ireturn, 1) := by decide +kernel
theorem dX12_is_0 : decode cX12_is 0 = .ok (.aload_n 0, 1) := by decide +kernel
theorem dX12_is_1 : decode cX12_is 1 = .ok (.iload_n 1, 1) := by decide +kernel
theorem dX12_is_2 : decode cX12_is 2 = .ok (.invokevirtual 129, 3) := by decide +kernel
theorem dX12_is_5 : decode cX12_is 5 = .ok (.ifCond .eq 12, 3) := by decide +kernel
theorem dX12_is_8 : decode cX12_is 8 = .ok (.iload_n 2, 1) := by decide +kernel
theorem dX12_is_9 : decode cX12_is 9 = .ok (.iconst 0, 1) := by decide +kernel
theorem dX12_is_10 : decode cX12_is 10 = .ok (.iconst 3, 1) := by decide +kernel
theorem dX12_is_11 : decode cX12_is 11 = .ok (.invokestatic 82, 3) := by decide +kernel
theorem dX12_is_14 : decode cX12_is 14 = .ok (.ifCond .ne 8, 3) := by decide +kernel
theorem dX12_is_17 : decode cX12_is 17 = .ok (.ldc 86, 2) := by decide +kernel
theorem dX12_is_19 : decode cX12_is 19 = .ok (.goto 17, 3) := by decide +kernel
theorem dX12_is_22 : decode cX12_is 22 = .ok (.aload_n 0, 1) := by decide +kernel
theorem dX12_is_23 : decode cX12_is 23 = .ok (.iload_n 1, 1) := by decide +kernel
theorem dX12_is_24 : decode cX12_is 24 = .ok (.iload_n 2, 1) := by decide +kernel
theorem dX12_is_25 : decode cX12_is 25 = .ok (.invokevirtual 132, 3) := by decide +kernel
theorem dX12_is_28 : decode cX12_is 28 = .ok (.ifCond .eq 7, 3) := by decide +kernel
theorem dX12_is_31 : decode cX12_is 31 = .ok (.iconst 1, 1) := by decide +kernel
theorem dX12_is_32 : decode cX12_is 32 = .ok (.goto 4, 3) := by decide +kernel
theorem dX12_is_35 : decode cX12_is 35 = .ok (.iconst 0, 1) := by decide +kernel
theorem dX12_is_36 : decode cX12_is 36 = .ok (.ireturn, 1) := by decide +kernel
theorem dX12_tune_0 : decode cX12_tune 0 = .ok (.aload_n 0, 1) := by decide +kernel
theorem dX12_tune_1 : decode cX12_tune 1 = .ok (.iload_n 1, 1) := by decide +kernel
theorem dX12_tune_2 : decode cX12_tune 2 = .ok (.invokevirtual 129, 3) := by decide +kernel
theorem dX12_tune_5 : decode cX12_tune 5 = .ok (.ifCond .eq 22, 3) := by decide +kernel
theorem dX12_tune_8 : decode cX12_tune 8 = .ok (.iload_n 2, 1) := by decide +kernel
theorem dX12_tune_9 : decode cX12_tune 9 = .ok (.iconst 0, 1) := by decide +kernel
theorem dX12_tune_10 : decode cX12_tune 10 = .ok (.iconst 1, 1) := by decide +kernel
theorem dX12_tune_11 : decode cX12_tune 11 = .ok (.invokestatic 82, 3) := by decide +kernel
theorem dX12_tune_14 : decode cX12_tune 14 = .ok (.ifCond .eq 13, 3) := by decide +kernel
theorem dX12_tune_17 : decode cX12_tune 17 = .ok (.iload_n 3, 1) := by decide +kernel
theorem dX12_tune_18 : decode cX12_tune 18 = .ok (.iconst 0, 1) := by decide +kernel
theorem dX12_tune_19 : decode cX12_tune 19 = .ok (.bipush 100, 2) := by decide +kernel
theorem dX12_tune_21 : decode cX12_tune 21 = .ok (.invokestatic 82, 3) := by decide +kernel
theorem dX12_tune_24 : decode cX12_tune 24 = .ok (.ifCond .ne 6, 3) := by decide +kernel
theorem dX12_tune_27 : decode cX12_tune 27 = .ok (.ldc 86, 2) := by decide +kernel
theorem dX12_tune_29 : decode cX12_tune 29 = .ok (.ireturn, 1) := by decide +kernel
theorem dX12_tune_30 : decode cX12_tune 30 = .ok (.iload_n 1, 1) := by decide +kernel
theorem dX12_tune_31 : decode cX12_tune 31 = .ok (.iconst 2, 1) := by decide +kernel
theorem dX12_tune_32 : decode cX12_tune 32 = .ok (.iload_n 2, 1) := by decide +kernel
theorem dX12_tune_33 : decode cX12_tune 33 = .ok (.iadd, 1) := by decide +kernel
theorem dX12_tune_34 : decode cX12_tune 34 = .ok (.invokestatic 87, 3) := by decide +kernel
theorem dX12_tune_37 : decode cX12_tune 37 = .ok (.istore 4, 2) := by decide +kernel
theorem dX12_tune_39 : decode cX12_tune 39 = .ok (.aload_n 0, 1) := by decide +kernel
theorem dX12_tune_40 : decode cX12_tune 40 = .ok (.getfield 9, 3) := by decide +kernel
theorem dX12_tune_43 : decode cX12_tune 43 = .ok (.iload 4, 2) := by decide +kernel
theorem dX12_tune_45 : decode cX12_tune 45 = .ok (.iaload, 1) := by decide +kernel
theorem dX12_tune_46 : decode cX12_tune 46 = .ok (.istore 5, 2) := by decide +kernel
theorem dX12_tune_48 : decode cX12_tune 48 = .ok (.aload_n 0, 1) := by decide +kernel
theorem dX12_tune_49 : decode cX12_tune 49 = .ok (.getfield 9, 3) := by decide +kernel
theorem dX12_tune_52 : decode cX12_tune 52 = .ok (.iload 4, 2) := by decide +kernel
theorem dX12_tune_54 : decode cX12_tune 54 = .ok (.iload_n 3, 1) := by decide +kernel
theorem dX12_tune_55 : decode cX12_tune 55 = .ok (.iastore, 1) := by decide +kernel
theorem dX12_tune_56 : decode cX12_tune 56 = .ok (.iload 5, 2) := by decide +kernel
theorem dX12_tune_58 : decode cX12_tune 58 = .ok (.ireturn, 1) := by decide +kernel
theorem dX12_isBroken_0 : decode cX12_isBroken 0 = .ok (.aload_n 0, 1) := by decide +kernel
theorem dX12_isBroken_1 : decode cX12_isBroken 1 = .ok (.getfield 9, 3) := by decide +kernel
theorem dX12_isBroken_4 : decode cX12_isBroken 4 = .ok (.iload_n 1, 1) := by decide +kernel
theorem dX12_isBroken_5 : decode cX12_isBroken 5 = .ok (.iconst 3, 1) := by decide +kernel
theorem dX12_isBroken_6 : decode cX12_isBroken 6 = .ok (.invokestatic 87, 3) := by decide +kernel
theorem dX12_isBroken_9 : decode cX12_isBroken 9 = .ok (.iaload, 1) := by decide +kernel
theorem dX12_isBroken_10 : decode cX12_isBroken 10 = .ok (.bipush 100, 2) := by decide +kernel
theorem dX12_isBroken_12 : decode cX12_isBroken 12 = .ok (.if_icmp .ne 7, 3) := by decide +kernel
theorem dX12_isBroken_15 : decode cX12_isBroken 15 = .ok (.iconst 1, 1) := by decide +kernel
theorem dX12_isBroken_16 : decode cX12_isBroken 16 = .ok (.goto 4, 3) := by decide +kernel
theorem dX12_isBroken_19 : decode cX12_isBroken 19 = .ok (.iconst 0, 1) := by decide +kernel
theorem dX12_isBroken_20 : decode cX12_isBroken 20 = .ok (.ireturn, 1) := by decide +kernel
theorem dX12_has_0 : decode cX12_has 0 = .ok (.aload_n 0, 1) := by decide +kernel
theorem dX12_has_1 : decode cX12_has 1 = .ok (.iload_n 1, 1) := by decide +kernel
theorem dX12_has_2 : decode cX12_has 2 = .ok (.invokevirtual 129, 3) := by decide +kernel
theorem dX12_has_5 : decode cX12_has 5 = .ok (.ifCond .ne 6, 3) := by decide +kernel
theorem dX12_has_8 : decode cX12_has 8 = .ok (.ldc 86, 2) := by decide +kernel
theorem dX12_has_10 : decode cX12_has 10 = .ok (.ireturn, 1) := by decide +kernel
theorem dX12_has_11 : decode cX12_has 11 = .ok (.iload_n 2, 1) := by decide +kernel
theorem dX12_has_12 : decode cX12_has 12 = .ok (.tableswitch 133 0 7 #[48, 48, 48, 48, 48, 59, 88, 119], 48) := by decide +kernel
theorem dX12_has_60 : decode cX12_has 60 = .ok (.aload_n 0, 1) := by decide +kernel
theorem dX12_has_61 : decode cX12_has 61 = .ok (.getfield 9, 3) := by decide +kernel
theorem dX12_has_64 : decode cX12_has 64 = .ok (.iload_n 1, 1) := by decide +kernel
theorem dX12_has_65 : decode cX12_has 65 = .ok (.iload_n 2, 1) := by decide +kernel
theorem dX12_has_66 : decode cX12_has 66 = .ok (.invokestatic 87, 3) := by decide +kernel
theorem dX12_has_69 : decode cX12_has 69 = .ok (.iaload, 1) := by decide +kernel
theorem dX12_has_70 : decode cX12_has 70 = .ok (.ireturn, 1) := by decide +kernel
theorem dX12_has_71 : decode cX12_has 71 = .ok (.aload_n 0, 1) := by decide +kernel
theorem dX12_has_72 : decode cX12_has 72 = .ok (.getfield 9, 3) := by decide +kernel
theorem dX12_has_75 : decode cX12_has 75 = .ok (.iload_n 1, 1) := by decide +kernel
theorem dX12_has_76 : decode cX12_has 76 = .ok (.iconst 4, 1) := by decide +kernel
theorem dX12_has_77 : decode cX12_has 77 = .ok (.invokestatic 87, 3) := by decide +kernel
theorem dX12_has_80 : decode cX12_has 80 = .ok (.iaload, 1) := by decide +kernel
theorem dX12_has_81 : decode cX12_has 81 = .ok (.ifCond .ne 8, 3) := by decide +kernel
theorem dX12_has_84 : decode cX12_has 84 = .ok (.ldc 100, 2) := by decide +kernel
theorem dX12_has_86 : decode cX12_has 86 = .ok (.goto 13, 3) := by decide +kernel
theorem dX12_has_89 : decode cX12_has 89 = .ok (.aload_n 0, 1) := by decide +kernel
theorem dX12_has_90 : decode cX12_has 90 = .ok (.getfield 9, 3) := by decide +kernel
theorem dX12_has_93 : decode cX12_has 93 = .ok (.iload_n 1, 1) := by decide +kernel
theorem dX12_has_94 : decode cX12_has 94 = .ok (.iconst 5, 1) := by decide +kernel
theorem dX12_has_95 : decode cX12_has 95 = .ok (.invokestatic 87, 3) := by decide +kernel
theorem dX12_has_98 : decode cX12_has 98 = .ok (.iaload, 1) := by decide +kernel
theorem dX12_has_99 : decode cX12_has 99 = .ok (.ireturn, 1) := by decide +kernel
theorem dX12_has_100 : decode cX12_has 100 = .ok (.aload_n 0, 1) := by decide +kernel
theorem dX12_has_101 : decode cX12_has 101 = .ok (.getfield 9, 3) := by decide +kernel
theorem dX12_has_104 : decode cX12_has 104 = .ok (.iload_n 1, 1) := by decide +kernel
theorem dX12_has_105 : decode cX12_has 105 = .ok (.bipush 6, 2) := by decide +kernel
theorem dX12_has_107 : decode cX12_has 107 = .ok (.invokestatic 87, 3) := by decide +kernel
theorem dX12_has_110 : decode cX12_has 110 = .ok (.iaload, 1) := by decide +kernel
theorem dX12_has_111 : decode cX12_has 111 = .ok (.ifCond .ge 8, 3) := by decide +kernel
theorem dX12_has_114 : decode cX12_has 114 = .ok (.ldc 100, 2) := by decide +kernel
theorem dX12_has_116 : decode cX12_has 116 = .ok (.goto 14, 3) := by decide +kernel
theorem dX12_has_119 : decode cX12_has 119 = .ok (.aload_n 0, 1) := by decide +kernel
theorem dX12_has_120 : decode cX12_has 120 = .ok (.getfield 9, 3) := by decide +kernel
theorem dX12_has_123 : decode cX12_has 123 = .ok (.iload_n 1, 1) := by decide +kernel
theorem dX12_has_124 : decode cX12_has 124 = .ok (.bipush 6, 2) := by decide +kernel
theorem dX12_has_126 : decode cX12_has 126 = .ok (.invokestatic 87, 3) := by decide +kernel
theorem dX12_has_129 : decode cX12_has 129 = .ok (.iaload, 1) := by decide +kernel
theorem dX12_has_130 : decode cX12_has 130 = .ok (.ireturn, 1) := by decide +kernel
theorem dX12_has_131 : decode cX12_has 131 = .ok (.aload_n 0, 1) := by decide +kernel
theorem dX12_has_132 : decode cX12_has 132 = .ok (.iload_n 1, 1) := by decide +kernel
theorem dX12_has_133 : decode cX12_has 133 = .ok (.invokevirtual 135, 3) := by decide +kernel
theorem dX12_has_136 : decode cX12_has 136 = .ok (.ifCond .eq 7, 3) := by decide +kernel
theorem dX12_has_139 : decode cX12_has 139 = .ok (.iconst 1, 1) := by decide +kernel
theorem dX12_has_140 : decode cX12_has 140 = .ok (.goto 4, 3) := by decide +kernel
theorem dX12_has_143 : decode cX12_has 143 = .ok (.iconst 0, 1) := by decide +kernel
theorem dX12_has_144 : decode cX12_has 144 = .ok (.ireturn, 1) := by decide +kernel
theorem dX12_has_145 : decode cX12_has 145 = .ok (.ldc 86, 2) := by decide +kernel
theorem dX12_has_147 : decode cX12_has 147 = .ok (.ireturn, 1) := by decide +kernel
theorem dX12_feed_0 : decode cX12_feed 0 = .ok (.aload_n 0, 1) := by decide +kernel
theorem dX12_feed_1 : decode cX12_feed 1 = .ok (.getfield 138, 3) := by decide +kernel
theorem dX12_feed_4 : decode cX12_feed 4 = .ok (.bipush 12, 2) := by decide +kernel
theorem dX12_feed_6 : decode cX12_feed 6 = .ok (.iadd, 1) := by decide +kernel
theorem dX12_feed_7 : decode cX12_feed 7 = .ok (.bipush 96, 2) := by decide +kernel
theorem dX12_feed_9 : decode cX12_feed 9 = .ok (.if_icmp .le 6, 3) := by decide +kernel
theorem dX12_feed_12 : decode cX12_feed 12 = .ok (.ldc 121, 2) := by decide +kernel
theorem dX12_feed_14 : decode cX12_feed 14 = .ok (.ireturn, 1) := by decide +kernel
theorem dX12_feed_15 : decode cX12_feed 15 = .ok (.iconst 0, 1) := by decide +kernel
theorem dX12_feed_16 : decode cX12_feed 16 = .ok (.istore 4, 2) := by decide +kernel
theorem dX12_feed_18 : decode cX12_feed 18 = .ok (.iload 4, 2) := by decide +kernel
theorem dX12_feed_20 : decode cX12_feed 20 = .ok (.bipush 12, 2) := by decide +kernel
theorem dX12_feed_22 : decode cX12_feed 22 = .ok (.if_icmp .ge 69, 3) := by decide +kernel
theorem dX12_feed_25 : decode cX12_feed 25 = .ok (.iload 4, 2) := by decide +kernel
theorem dX12_feed_27 : decode cX12_feed 27 = .ok (.iconst 4, 1) := by decide +kernel
theorem dX12_feed_28 : decode cX12_feed 28 = .ok (.if_icmp .ge 7, 3) := by decide +kernel
theorem dX12_feed_31 : decode cX12_feed 31 = .ok (.iload_n 1, 1) := by decide +kernel
theorem dX12_feed_32 : decode cX12_feed 32 = .ok (.goto 15, 3) := by decide +kernel
theorem dX12_feed_35 : decode cX12_feed 35 = .ok (.iload 4, 2) := by decide +kernel
theorem dX12_feed_37 : decode cX12_feed 37 = .ok (.bipush 8, 2) := by decide +kernel
theorem dX12_feed_39 : decode cX12_feed 39 = .ok (.if_icmp .ge 7, 3) := by decide +kernel
theorem dX12_feed_42 : decode cX12_feed 42 = .ok (.iload_n 2, 1) := by decide +kernel
theorem dX12_feed_43 : decode cX12_feed 43 = .ok (.goto 4, 3) := by decide +kernel
theorem dX12_feed_46 : decode cX12_feed 46 = .ok (.iload_n 3, 1) := by decide +kernel
theorem dX12_feed_47 : decode cX12_feed 47 = .ok (.istore 5, 2) := by decide +kernel
theorem dX12_feed_49 : decode cX12_feed 49 = .ok (.aload_n 0, 1) := by decide +kernel
theorem dX12_feed_50 : decode cX12_feed 50 = .ok (.getfield 16, 3) := by decide +kernel
theorem dX12_feed_53 : decode cX12_feed 53 = .ok (.aload_n 0, 1) := by decide +kernel
theorem dX12_feed_54 : decode cX12_feed 54 = .ok (.getfield 138, 3) := by decide +kernel
theorem dX12_feed_57 : decode cX12_feed 57 = .ok (.iload 5, 2) := by decide +kernel
theorem dX12_feed_59 : decode cX12_feed 59 = .ok (.bipush 24, 2) := by decide +kernel
theorem dX12_feed_61 : decode cX12_feed 61 = .ok (.bipush 8, 2) := by decide +kernel
theorem dX12_feed_63 : decode cX12_feed 63 = .ok (.iload 4, 2) := by decide +kernel
theorem dX12_feed_65 : decode cX12_feed 65 = .ok (.iconst 4, 1) := by decide +kernel
theorem dX12_feed_66 : decode cX12_feed 66 = .ok (.irem, 1) := by decide +kernel
theorem dX12_feed_67 : decode cX12_feed 67 = .ok (.imul, 1) := by decide +kernel
theorem dX12_feed_68 : decode cX12_feed 68 = .ok (.isub, 1) := by decide +kernel
theorem dX12_feed_69 : decode cX12_feed 69 = .ok (.ishr, 1) := by decide +kernel
theorem dX12_feed_70 : decode cX12_feed 70 = .ok (.sipush 255, 3) := by decide +kernel
theorem dX12_feed_73 : decode cX12_feed 73 = .ok (.iand, 1) := by decide +kernel
theorem dX12_feed_74 : decode cX12_feed 74 = .ok (.iastore, 1) := by decide +kernel
theorem dX12_feed_75 : decode cX12_feed 75 = .ok (.aload_n 0, 1) := by decide +kernel
theorem dX12_feed_76 : decode cX12_feed 76 = .ok (.dup, 1) := by decide +kernel
theorem dX12_feed_77 : decode cX12_feed 77 = .ok (.getfield 138, 3) := by decide +kernel
theorem dX12_feed_80 : decode cX12_feed 80 = .ok (.iconst 1, 1) := by decide +kernel
theorem dX12_feed_81 : decode cX12_feed 81 = .ok (.iadd, 1) := by decide +kernel
theorem dX12_feed_82 : decode cX12_feed 82 = .ok (.putfield 138, 3) := by decide +kernel
theorem dX12_feed_85 : decode cX12_feed 85 = .ok (.iinc 4 1, 3) := by decide +kernel
theorem dX12_feed_88 : decode cX12_feed 88 = .ok (.goto (-70), 3) := by decide +kernel
theorem dX12_feed_91 : decode cX12_feed 91 = .ok (.aload_n 0, 1) := by decide +kernel
theorem dX12_feed_92 : decode cX12_feed 92 = .ok (.getfield 138, 3) := by decide +kernel
theorem dX12_feed_95 : decode cX12_feed 95 = .ok (.ireturn, 1) := by decide +kernel
theorem dX12_trim_0 : decode cX12_trim 0 = .ok (.iload_n 1, 1) := by decide +kernel
theorem dX12_trim_1 : decode cX12_trim 1 = .ok (.iconst 0, 1) := by decide +kernel
theorem dX12_trim_2 : decode cX12_trim 2 = .ok (.aload_n 0, 1) := by decide +kernel
theorem dX12_trim_3 : decode cX12_trim 3 = .ok (.getfield 138, 3) := by decide +kernel
theorem dX12_trim_6 : decode cX12_trim 6 = .ok (.invokestatic 82, 3) := by decide +kernel
theorem dX12_trim_9 : decode cX12_trim 9 = .ok (.ifCond .ne 6, 3) := by decide +kernel
theorem dX12_trim_12 : decode cX12_trim 12 = .ok (.ldc 86, 2) := by decide +kernel
theorem dX12_trim_14 : decode cX12_trim 14 = .ok (.ireturn, 1) := by decide +kernel
theorem dX12_trim_15 : decode cX12_trim 15 = .ok (.aload_n 0, 1) := by decide +kernel
theorem dX12_trim_16 : decode cX12_trim 16 = .ok (.iload_n 1, 1) := by decide +kernel
theorem dX12_trim_17 : decode cX12_trim 17 = .ok (.putfield 138, 3) := by decide +kernel
theorem dX12_trim_20 : decode cX12_trim 20 = .ok (.iload_n 1, 1) := by decide +kernel
theorem dX12_trim_21 : decode cX12_trim 21 = .ok (.ireturn, 1) := by decide +kernel
theorem dX12_isLetter_0 : decode cX12_isLetter 0 = .ok (.iload_n 1, 1) := by decide +kernel
theorem dX12_isLetter_1 : decode cX12_isLetter 1 = .ok (.aload_n 0, 1) := by decide +kernel
theorem dX12_isLetter_2 : decode cX12_isLetter 2 = .ok (.getfield 138, 3) := by decide +kernel
theorem dX12_isLetter_5 : decode cX12_isLetter 5 = .ok (.if_icmp .ge 29, 3) := by decide +kernel
theorem dX12_isLetter_8 : decode cX12_isLetter 8 = .ok (.aload_n 0, 1) := by decide +kernel
theorem dX12_isLetter_9 : decode cX12_isLetter 9 = .ok (.getfield 16, 3) := by decide +kernel
theorem dX12_isLetter_12 : decode cX12_isLetter 12 = .ok (.iload_n 1, 1) := by decide +kernel
theorem dX12_isLetter_13 : decode cX12_isLetter 13 = .ok (.iaload, 1) := by decide +kernel
theorem dX12_isLetter_14 : decode cX12_isLetter 14 = .ok (.bipush 97, 2) := by decide +kernel
theorem dX12_isLetter_16 : decode cX12_isLetter 16 = .ok (.if_icmp .lt 18, 3) := by decide +kernel
theorem dX12_isLetter_19 : decode cX12_isLetter 19 = .ok (.aload_n 0, 1) := by decide +kernel
theorem dX12_isLetter_20 : decode cX12_isLetter 20 = .ok (.getfield 16, 3) := by decide +kernel
theorem dX12_isLetter_23 : decode cX12_isLetter 23 = .ok (.iload_n 1, 1) := by decide +kernel
theorem dX12_isLetter_24 : decode cX12_isLetter 24 = .ok (.iaload, 1) := by decide +kernel
theorem dX12_isLetter_25 : decode cX12_isLetter 25 = .ok (.bipush 122, 2) := by decide +kernel
theorem dX12_isLetter_27 : decode cX12_isLetter 27 = .ok (.if_icmp .gt 7, 3) := by decide +kernel
theorem dX12_isLetter_30 : decode cX12_isLetter 30 = .ok (.iconst 1, 1) := by decide +kernel
theorem dX12_isLetter_31 : decode cX12_isLetter 31 = .ok (.goto 4, 3) := by decide +kernel
theorem dX12_isLetter_34 : decode cX12_isLetter 34 = .ok (.iconst 0, 1) := by decide +kernel
theorem dX12_isLetter_35 : decode cX12_isLetter 35 = .ok (.ireturn, 1) := by decide +kernel
theorem dX12_isDigit_0 : decode cX12_isDigit 0 = .ok (.iload_n 1, 1) := by decide +kernel
theorem dX12_isDigit_1 : decode cX12_isDigit 1 = .ok (.aload_n 0, 1) := by decide +kernel
theorem dX12_isDigit_2 : decode cX12_isDigit 2 = .ok (.getfield 138, 3) := by decide +kernel
theorem dX12_isDigit_5 : decode cX12_isDigit 5 = .ok (.if_icmp .ge 29, 3) := by decide +kernel
theorem dX12_isDigit_8 : decode cX12_isDigit 8 = .ok (.aload_n 0, 1) := by decide +kernel
theorem dX12_isDigit_9 : decode cX12_isDigit 9 = .ok (.getfield 16, 3) := by decide +kernel
theorem dX12_isDigit_12 : decode cX12_isDigit 12 = .ok (.iload_n 1, 1) := by decide +kernel
theorem dX12_isDigit_13 : decode cX12_isDigit 13 = .ok (.iaload, 1) := by decide +kernel
theorem dX12_isDigit_14 : decode cX12_isDigit 14 = .ok (.bipush 48, 2) := by decide +kernel
theorem dX12_isDigit_16 : decode cX12_isDigit 16 = .ok (.if_icmp .lt 18, 3) := by decide +kernel
theorem dX12_isDigit_19 : decode cX12_isDigit 19 = .ok (.aload_n 0, 1) := by decide +kernel
theorem dX12_isDigit_20 : decode cX12_isDigit 20 = .ok (.getfield 16, 3) := by decide +kernel
theorem dX12_isDigit_23 : decode cX12_isDigit 23 = .ok (.iload_n 1, 1) := by decide +kernel
theorem dX12_isDigit_24 : decode cX12_isDigit 24 = .ok (.iaload, 1) := by decide +kernel
theorem dX12_isDigit_25 : decode cX12_isDigit 25 = .ok (.bipush 57, 2) := by decide +kernel
theorem dX12_isDigit_27 : decode cX12_isDigit 27 = .ok (.if_icmp .gt 7, 3) := by decide +kernel
theorem dX12_isDigit_30 : decode cX12_isDigit 30 = .ok (.iconst 1, 1) := by decide +kernel
theorem dX12_isDigit_31 : decode cX12_isDigit 31 = .ok (.goto 4, 3) := by decide +kernel
theorem dX12_isDigit_34 : decode cX12_isDigit 34 = .ok (.iconst 0, 1) := by decide +kernel
theorem dX12_isDigit_35 : decode cX12_isDigit 35 = .ok (.ireturn, 1) := by decide +kernel
theorem dX12_next_0 : decode cX12_next 0 = .ok (.aload_n 0, 1) := by decide +kernel
theorem dX12_next_1 : decode cX12_next 1 = .ok (.getfield 142, 3) := by decide +kernel
theorem dX12_next_4 : decode cX12_next 4 = .ok (.iconst 1, 1) := by decide +kernel
theorem dX12_next_5 : decode cX12_next 5 = .ok (.if_icmp .eq 11, 3) := by decide +kernel
theorem dX12_next_8 : decode cX12_next 8 = .ok (.aload_n 0, 1) := by decide +kernel
theorem dX12_next_9 : decode cX12_next 9 = .ok (.getfield 142, 3) := by decide +kernel
theorem dX12_next_12 : decode cX12_next 12 = .ok (.iconst 2, 1) := by decide +kernel
theorem dX12_next_13 : decode cX12_next 13 = .ok (.if_icmp .ne 7, 3) := by decide +kernel
theorem dX12_next_16 : decode cX12_next 16 = .ok (.iconst 1, 1) := by decide +kernel
theorem dX12_next_17 : decode cX12_next 17 = .ok (.goto 4, 3) := by decide +kernel
theorem dX12_next_20 : decode cX12_next 20 = .ok (.iconst 0, 1) := by decide +kernel
theorem dX12_next_21 : decode cX12_next 21 = .ok (.istore_n 1, 1) := by decide +kernel
theorem dX12_next_22 : decode cX12_next 22 = .ok (.aload_n 0, 1) := by decide +kernel
theorem dX12_next_23 : decode cX12_next 23 = .ok (.getfield 145, 3) := by decide +kernel
theorem dX12_next_26 : decode cX12_next 26 = .ok (.istore_n 2, 1) := by decide +kernel
theorem dX12_next_27 : decode cX12_next 27 = .ok (.aload_n 0, 1) := by decide +kernel
theorem dX12_next_28 : decode cX12_next 28 = .ok (.aload_n 0, 1) := by decide +kernel
theorem dX12_next_29 : decode cX12_next 29 = .ok (.getfield 145, 3) := by decide +kernel
theorem dX12_next_32 : decode cX12_next 32 = .ok (.putfield 148, 3) := by decide +kernel
theorem dX12_next_35 : decode cX12_next 35 = .ok (.aload_n 0, 1) := by decide +kernel
theorem dX12_next_36 : decode cX12_next 36 = .ok (.getfield 148, 3) := by decide +kernel
theorem dX12_next_39 : decode cX12_next 39 = .ok (.aload_n 0, 1) := by decide +kernel
theorem dX12_next_40 : decode cX12_next 40 = .ok (.getfield 138, 3) := by decide +kernel
theorem dX12_next_43 : decode cX12_next 43 = .ok (.if_icmp .ge 30, 3) := by decide +kernel
theorem dX12_next_46 : decode cX12_next 46 = .ok (.aload_n 0, 1) := by decide +kernel
theorem dX12_next_47 : decode cX12_next 47 = .ok (.getfield 16, 3) := by decide +kernel
theorem dX12_next_50 : decode cX12_next 50 = .ok (.aload_n 0, 1) := by decide +kernel
theorem dX12_next_51 : decode cX12_next 51 = .ok (.getfield 148, 3) := by decide +kernel
theorem dX12_next_54 : decode cX12_next 54 = .ok (.iaload, 1) := by decide +kernel
theorem dX12_next_55 : decode cX12_next 55 = .ok (.bipush 32, 2) := by decide +kernel
theorem dX12_next_57 : decode cX12_next 57 = .ok (.if_icmp .ne 16, 3) := by decide +kernel
theorem dX12_next_60 : decode cX12_next 60 = .ok (.aload_n 0, 1) := by decide +kernel
theorem dX12_next_61 : decode cX12_next 61 = .ok (.dup, 1) := by decide +kernel
theorem dX12_next_62 : decode cX12_next 62 = .ok (.getfield 148, 3) := by decide +kernel
theorem dX12_next_65 : decode cX12_next 65 = .ok (.iconst 1, 1) := by decide +kernel
theorem dX12_next_66 : decode cX12_next 66 = .ok (.iadd, 1) := by decide +kernel
theorem dX12_next_67 : decode cX12_next 67 = .ok (.putfield 148, 3) := by decide +kernel
theorem dX12_next_70 : decode cX12_next 70 = .ok (.goto (-35), 3) := by decide +kernel
theorem dX12_next_73 : decode cX12_next 73 = .ok (.aload_n 0, 1) := by decide +kernel
theorem dX12_next_74 : decode cX12_next 74 = .ok (.aload_n 0, 1) := by decide +kernel
theorem dX12_next_75 : decode cX12_next 75 = .ok (.getfield 148, 3) := by decide +kernel
theorem dX12_next_78 : decode cX12_next 78 = .ok (.putfield 145, 3) := by decide +kernel
theorem dX12_next_81 : decode cX12_next 81 = .ok (.aload_n 0, 1) := by decide +kernel
theorem dX12_next_82 : decode cX12_next 82 = .ok (.getfield 148, 3) := by decide +kernel
theorem dX12_next_85 : decode cX12_next 85 = .ok (.aload_n 0, 1) := by decide +kernel
theorem dX12_next_86 : decode cX12_next 86 = .ok (.getfield 138, 3) := by decide +kernel
theorem dX12_next_89 : decode cX12_next 89 = .ok (.if_icmp .ne 9, 3) := by decide +kernel
theorem dX12_next_92 : decode cX12_next 92 = .ok (.aload_n 0, 1) := by decide +kernel
theorem dX12_next_93 : decode cX12_next 93 = .ok (.iconst 0, 1) := by decide +kernel
theorem dX12_next_94 : decode cX12_next 94 = .ok (.putfield 142, 3) := by decide +kernel
theorem dX12_next_97 : decode cX12_next 97 = .ok (.return_, 1) := by decide +kernel
theorem dX12_next_98 : decode cX12_next 98 = .ok (.aload_n 0, 1) := by decide +kernel
theorem dX12_next_99 : decode cX12_next 99 = .ok (.aload_n 0, 1) := by decide +kernel
theorem dX12_next_100 : decode cX12_next 100 = .ok (.aload_n 0, 1) := by decide +kernel
theorem dX12_next_101 : decode cX12_next 101 = .ok (.getfield 148, 3) := by decide +kernel
theorem dX12_next_104 : decode cX12_next 104 = .ok (.invokevirtual 151, 3) := by decide +kernel
theorem dX12_next_107 : decode cX12_next 107 = .ok (.ifCond .eq 7, 3) := by decide +kernel
theorem dX12_next_110 : decode cX12_next 110 = .ok (.iconst 1, 1) := by decide +kernel
theorem dX12_next_111 : decode cX12_next 111 = .ok (.goto 19, 3) := by decide +kernel
theorem dX12_next_114 : decode cX12_next 114 = .ok (.aload_n 0, 1) := by decide +kernel
theorem dX12_next_115 : decode cX12_next 115 = .ok (.aload_n 0, 1) := by decide +kernel
theorem dX12_next_116 : decode cX12_next 116 = .ok (.getfield 148, 3) := by decide +kernel
theorem dX12_next_119 : decode cX12_next 119 = .ok (.invokevirtual 154, 3) := by decide +kernel
theorem dX12_next_122 : decode cX12_next 122 = .ok (.ifCond .eq 7, 3) := by decide +kernel
theorem dX12_next_125 : decode cX12_next 125 = .ok (.iconst 2, 1) := by decide +kernel
theorem dX12_next_126 : decode cX12_next 126 = .ok (.goto 4, 3) := by decide +kernel
theorem dX12_next_129 : decode cX12_next 129 = .ok (.iconst 3, 1) := by decide +kernel
theorem dX12_next_130 : decode cX12_next 130 = .ok (.putfield 142, 3) := by decide +kernel
theorem dX12_next_133 : decode cX12_next 133 = .ok (.aload_n 0, 1) := by decide +kernel
theorem dX12_next_134 : decode cX12_next 134 = .ok (.dup, 1) := by decide +kernel
theorem dX12_next_135 : decode cX12_next 135 = .ok (.getfield 145, 3) := by decide +kernel
theorem dX12_next_138 : decode cX12_next 138 = .ok (.iconst 1, 1) := by decide +kernel
theorem dX12_next_139 : decode cX12_next 139 = .ok (.iadd, 1) := by decide +kernel
theorem dX12_next_140 : decode cX12_next 140 = .ok (.putfield 145, 3) := by decide +kernel
theorem dX12_next_143 : decode cX12_next 143 = .ok (.aload_n 0, 1) := by decide +kernel
theorem dX12_next_144 : decode cX12_next 144 = .ok (.getfield 142, 3) := by decide +kernel
theorem dX12_next_147 : decode cX12_next 147 = .ok (.iconst 1, 1) := by decide +kernel
theorem dX12_next_148 : decode cX12_next 148 = .ok (.if_icmp .ne 14, 3) := by decide +kernel
theorem dX12_next_151 : decode cX12_next 151 = .ok (.aload_n 0, 1) := by decide +kernel
theorem dX12_next_152 : decode cX12_next 152 = .ok (.aload_n 0, 1) := by decide +kernel
theorem dX12_next_153 : decode cX12_next 153 = .ok (.getfield 145, 3) := by decide +kernel
theorem dX12_next_156 : decode cX12_next 156 = .ok (.invokevirtual 151, 3) := by decide +kernel
theorem dX12_next_159 : decode cX12_next 159 = .ok (.ifCond .ne 22, 3) := by decide +kernel
theorem dX12_next_162 : decode cX12_next 162 = .ok (.aload_n 0, 1) := by decide +kernel
theorem dX12_next_163 : decode cX12_next 163 = .ok (.getfield 142, 3) := by decide +kernel
theorem dX12_next_166 : decode cX12_next 166 = .ok (.iconst 2, 1) := by decide +kernel
theorem dX12_next_167 : decode cX12_next 167 = .ok (.if_icmp .ne 27, 3) := by decide +kernel
theorem dX12_next_170 : decode cX12_next 170 = .ok (.aload_n 0, 1) := by decide +kernel
theorem dX12_next_171 : decode cX12_next 171 = .ok (.aload_n 0, 1) := by decide +kernel
theorem dX12_next_172 : decode cX12_next 172 = .ok (.getfield 145, 3) := by decide +kernel
theorem dX12_next_175 : decode cX12_next 175 = .ok (.invokevirtual 154, 3) := by decide +kernel
theorem dX12_next_178 : decode cX12_next 178 = .ok (.ifCond .eq 16, 3) := by decide +kernel
theorem dX12_next_181 : decode cX12_next 181 = .ok (.aload_n 0, 1) := by decide +kernel
theorem dX12_next_182 : decode cX12_next 182 = .ok (.dup, 1) := by decide +kernel
theorem dX12_next_183 : decode cX12_next 183 = .ok (.getfield 145, 3) := by decide +kernel
theorem dX12_next_186 : decode cX12_next 186 = .ok (.iconst 1, 1) := by decide +kernel
theorem dX12_next_187 : decode cX12_next 187 = .ok (.iadd, 1) := by decide +kernel
theorem dX12_next_188 : decode cX12_next 188 = .ok (.putfield 145, 3) := by decide +kernel
theorem dX12_next_191 : decode cX12_next 191 = .ok (.goto (-48), 3) := by decide +kernel
theorem dX12_next_194 : decode cX12_next 194 = .ok (.aload_n 0, 1) := by decide +kernel
theorem dX12_next_195 : decode cX12_next 195 = .ok (.getfield 142, 3) := by decide +kernel
theorem dX12_next_198 : decode cX12_next 198 = .ok (.iconst 3, 1) := by decide +kernel
theorem dX12_next_199 : decode cX12_next 199 = .ok (.if_icmp .eq 15, 3) := by decide +kernel
theorem dX12_next_202 : decode cX12_next 202 = .ok (.iload_n 1, 1) := by decide +kernel
theorem dX12_next_203 : decode cX12_next 203 = .ok (.ifCond .eq 11, 3) := by decide +kernel
theorem dX12_next_206 : decode cX12_next 206 = .ok (.aload_n 0, 1) := by decide +kernel
theorem dX12_next_207 : decode cX12_next 207 = .ok (.getfield 148, 3) := by decide +kernel
theorem dX12_next_210 : decode cX12_next 210 = .ok (.iload_n 2, 1) := by decide +kernel
theorem dX12_next_211 : decode cX12_next 211 = .ok (.if_icmp .eq 24, 3) := by decide +kernel
theorem dX12_next_214 : decode cX12_next 214 = .ok (.aload_n 0, 1) := by decide +kernel
theorem dX12_next_215 : decode cX12_next 215 = .ok (.getfield 142, 3) := by decide +kernel
theorem dX12_next_218 : decode cX12_next 218 = .ok (.iconst 2, 1) := by decide +kernel
theorem dX12_next_219 : decode cX12_next 219 = .ok (.if_icmp .ne 21, 3) := by decide +kernel
theorem dX12_next_222 : decode cX12_next 222 = .ok (.aload_n 0, 1) := by decide +kernel
theorem dX12_next_223 : decode cX12_next 223 = .ok (.getfield 145, 3) := by decide +kernel
theorem dX12_next_226 : decode cX12_next 226 = .ok (.aload_n 0, 1) := by decide +kernel
theorem dX12_next_227 : decode cX12_next 227 = .ok (.getfield 148, 3) := by decide +kernel
theorem dX12_next_230 : decode cX12_next 230 = .ok (.isub, 1) := by decide +kernel
theorem dX12_next_231 : decode cX12_next 231 = .ok (.iconst 4, 1) := by decide +kernel
theorem dX12_next_232 : decode cX12_next 232 = .ok (.if_icmp .le 8, 3) := by decide +kernel
theorem dX12_next_235 : decode cX12_next 235 = .ok (.aload_n 0, 1) := by decide +kernel
theorem dX12_next_236 : decode cX12_next 236 = .ok (.iconst 4, 1) := by decide +kernel
theorem dX12_next_237 : decode cX12_next 237 = .ok (.putfield 142, 3) := by decide +kernel
theorem dX12_next_240 : decode cX12_next 240 = .ok (.return_, 1) := by decide +kernel
theorem dX12_isSign_0 : decode cX12_isSign 0 = .ok (.aload_n 0, 1) := by decide +kernel
theorem dX12_isSign_1 : decode cX12_isSign 1 = .ok (.getfield 142, 3) := by decide +kernel
theorem dX12_isSign_4 : decode cX12_isSign 4 = .ok (.iconst 3, 1) := by decide +kernel
theorem dX12_isSign_5 : decode cX12_isSign 5 = .ok (.if_icmp .ne 20, 3) := by decide +kernel
theorem dX12_isSign_8 : decode cX12_isSign 8 = .ok (.aload_n 0, 1) := by decide +kernel
theorem dX12_isSign_9 : decode cX12_isSign 9 = .ok (.getfield 16, 3) := by decide +kernel
theorem dX12_isSign_12 : decode cX12_isSign 12 = .ok (.aload_n 0, 1) := by decide +kernel
theorem dX12_isSign_13 : decode cX12_isSign 13 = .ok (.getfield 148, 3) := by decide +kernel
theorem dX12_isSign_16 : decode cX12_isSign 16 = .ok (.iaload, 1) := by decide +kernel
theorem dX12_isSign_17 : decode cX12_isSign 17 = .ok (.iload_n 1, 1) := by decide +kernel
theorem dX12_isSign_18 : decode cX12_isSign 18 = .ok (.if_icmp .ne 7, 3) := by decide +kernel
theorem dX12_isSign_21 : decode cX12_isSign 21 = .ok (.iconst 1, 1) := by decide +kernel
theorem dX12_isSign_22 : decode cX12_isSign 22 = .ok (.goto 4, 3) := by decide +kernel
theorem dX12_isSign_25 : decode cX12_isSign 25 = .ok (.iconst 0, 1) := by decide +kernel
theorem dX12_isSign_26 : decode cX12_isSign 26 = .ok (.ireturn, 1) := by decide +kernel
theorem dX12_isWord_0 : decode cX12_isWord 0 = .ok (.aload_n 0, 1) := by decide +kernel
theorem dX12_isWord_1 : decode cX12_isWord 1 = .ok (.getfield 142, 3) := by decide +kernel
theorem dX12_isWord_4 : decode cX12_isWord 4 = .ok (.iconst 1, 1) := by decide +kernel
theorem dX12_isWord_5 : decode cX12_isWord 5 = .ok (.if_icmp .ne 23, 3) := by decide +kernel
theorem dX12_isWord_8 : decode cX12_isWord 8 = .ok (.aload_n 0, 1) := by decide +kernel
theorem dX12_isWord_9 : decode cX12_isWord 9 = .ok (.getfield 145, 3) := by decide +kernel
theorem dX12_isWord_12 : decode cX12_isWord 12 = .ok (.aload_n 0, 1) := by decide +kernel
theorem dX12_isWord_13 : decode cX12_isWord 13 = .ok (.getfield 148, 3) := by decide +kernel
theorem dX12_isWord_16 : decode cX12_isWord 16 = .ok (.isub, 1) := by decide +kernel
theorem dX12_isWord_17 : decode cX12_isWord 17 = .ok (.aload_n 1, 1) := by decide +kernel
theorem dX12_isWord_18 : decode cX12_isWord 18 = .ok (.invokevirtual 157, 3) := by decide +kernel
theorem dX12_isWord_21 : decode cX12_isWord 21 = .ok (.if_icmp .ne 7, 3) := by decide +kernel
theorem dX12_isWord_24 : decode cX12_isWord 24 = .ok (.iconst 1, 1) := by decide +kernel
theorem dX12_isWord_25 : decode cX12_isWord 25 = .ok (.goto 4, 3) := by decide +kernel
theorem dX12_isWord_28 : decode cX12_isWord 28 = .ok (.iconst 0, 1) := by decide +kernel
theorem dX12_isWord_29 : decode cX12_isWord 29 = .ok (.istore_n 2, 1) := by decide +kernel
theorem dX12_isWord_30 : decode cX12_isWord 30 = .ok (.iconst 0, 1) := by decide +kernel
theorem dX12_isWord_31 : decode cX12_isWord 31 = .ok (.istore_n 3, 1) := by decide +kernel
theorem dX12_isWord_32 : decode cX12_isWord 32 = .ok (.iload_n 2, 1) := by decide +kernel
theorem dX12_isWord_33 : decode cX12_isWord 33 = .ok (.ifCond .eq 42, 3) := by decide +kernel
theorem dX12_isWord_36 : decode cX12_isWord 36 = .ok (.iload_n 3, 1) := by decide +kernel
theorem dX12_isWord_37 : decode cX12_isWord 37 = .ok (.aload_n 1, 1) := by decide +kernel
theorem dX12_isWord_38 : decode cX12_isWord 38 = .ok (.invokevirtual 157, 3) := by decide +kernel
theorem dX12_isWord_41 : decode cX12_isWord 41 = .ok (.if_icmp .ge 34, 3) := by decide +kernel
theorem dX12_isWord_44 : decode cX12_isWord 44 = .ok (.aload_n 0, 1) := by decide +kernel
theorem dX12_isWord_45 : decode cX12_isWord 45 = .ok (.getfield 16, 3) := by decide +kernel
theorem dX12_isWord_48 : decode cX12_isWord 48 = .ok (.aload_n 0, 1) := by decide +kernel
theorem dX12_isWord_49 : decode cX12_isWord 49 = .ok (.getfield 148, 3) := by decide +kernel
theorem dX12_isWord_52 : decode cX12_isWord 52 = .ok (.iload_n 3, 1) := by decide +kernel
theorem dX12_isWord_53 : decode cX12_isWord 53 = .ok (.iadd, 1) := by decide +kernel
theorem dX12_isWord_54 : decode cX12_isWord 54 = .ok (.iaload, 1) := by decide +kernel
theorem dX12_isWord_55 : decode cX12_isWord 55 = .ok (.aload_n 1, 1) := by decide +kernel
theorem dX12_isWord_56 : decode cX12_isWord 56 = .ok (.iload_n 3, 1) := by decide +kernel
theorem dX12_isWord_57 : decode cX12_isWord 57 = .ok (.invokevirtual 160, 3) := by decide +kernel
theorem dX12_isWord_60 : decode cX12_isWord 60 = .ok (.if_icmp .ne 7, 3) := by decide +kernel
theorem dX12_isWord_63 : decode cX12_isWord 63 = .ok (.iconst 1, 1) := by decide +kernel
theorem dX12_isWord_64 : decode cX12_isWord 64 = .ok (.goto 4, 3) := by decide +kernel
theorem dX12_isWord_67 : decode cX12_isWord 67 = .ok (.iconst 0, 1) := by decide +kernel
theorem dX12_isWord_68 : decode cX12_isWord 68 = .ok (.istore_n 2, 1) := by decide +kernel
theorem dX12_isWord_69 : decode cX12_isWord 69 = .ok (.iinc 3 1, 3) := by decide +kernel
theorem dX12_isWord_72 : decode cX12_isWord 72 = .ok (.goto (-40), 3) := by decide +kernel
theorem dX12_isWord_75 : decode cX12_isWord 75 = .ok (.iload_n 2, 1) := by decide +kernel
theorem dX12_isWord_76 : decode cX12_isWord 76 = .ok (.ireturn, 1) := by decide +kernel
theorem dX12_need_0 : decode cX12_need 0 = .ok (.aload_n 0, 1) := by decide +kernel
theorem dX12_need_1 : decode cX12_need 1 = .ok (.aload_n 0, 1) := by decide +kernel
theorem dX12_need_2 : decode cX12_need 2 = .ok (.getfield 164, 3) := by decide +kernel
theorem dX12_need_5 : decode cX12_need 5 = .ok (.ifCond .ne 11, 3) := by decide +kernel
theorem dX12_need_8 : decode cX12_need 8 = .ok (.aload_n 0, 1) := by decide +kernel
theorem dX12_need_9 : decode cX12_need 9 = .ok (.iload_n 1, 1) := by decide +kernel
theorem dX12_need_10 : decode cX12_need 10 = .ok (.invokevirtual 168, 3) := by decide +kernel
theorem dX12_need_13 : decode cX12_need 13 = .ok (.ifCond .ne 7, 3) := by decide +kernel
theorem dX12_need_16 : decode cX12_need 16 = .ok (.iconst 1, 1) := by decide +kernel
theorem dX12_need_17 : decode cX12_need 17 = .ok (.goto 4, 3) := by decide +kernel
theorem dX12_need_20 : decode cX12_need 20 = .ok (.iconst 0, 1) := by decide +kernel
theorem dX12_need_21 : decode cX12_need 21 = .ok (.putfield 164, 3) := by decide +kernel
theorem dX12_need_24 : decode cX12_need 24 = .ok (.aload_n 0, 1) := by decide +kernel
theorem dX12_need_25 : decode cX12_need 25 = .ok (.getfield 164, 3) := by decide +kernel
theorem dX12_need_28 : decode cX12_need 28 = .ok (.ifCond .ne 7, 3) := by decide +kernel
theorem dX12_need_31 : decode cX12_need 31 = .ok (.aload_n 0, 1) := by decide +kernel
theorem dX12_need_32 : decode cX12_need 32 = .ok (.invokevirtual 171, 3) := by decide +kernel
theorem dX12_need_35 : decode cX12_need 35 = .ok (.return_, 1) := by decide +kernel
theorem dX12_number_0 : decode cX12_number 0 = .ok (.aload_n 0, 1) := by decide +kernel
theorem dX12_number_1 : decode cX12_number 1 = .ok (.aload_n 0, 1) := by decide +kernel
theorem dX12_number_2 : decode cX12_number 2 = .ok (.getfield 164, 3) := by decide +kernel
theorem dX12_number_5 : decode cX12_number 5 = .ok (.ifCond .ne 11, 3) := by decide +kernel
theorem dX12_number_8 : decode cX12_number 8 = .ok (.aload_n 0, 1) := by decide +kernel
theorem dX12_number_9 : decode cX12_number 9 = .ok (.getfield 142, 3) := by decide +kernel
theorem dX12_number_12 : decode cX12_number 12 = .ok (.iconst 2, 1) := by decide +kernel
theorem dX12_number_13 : decode cX12_number 13 = .ok (.if_icmp .eq 7, 3) := by decide +kernel
theorem dX12_number_16 : decode cX12_number 16 = .ok (.iconst 1, 1) := by decide +kernel
theorem dX12_number_17 : decode cX12_number 17 = .ok (.goto 4, 3) := by decide +kernel
theorem dX12_number_20 : decode cX12_number 20 = .ok (.iconst 0, 1) := by decide +kernel
theorem dX12_number_21 : decode cX12_number 21 = .ok (.putfield 164, 3) := by decide +kernel
theorem dX12_number_24 : decode cX12_number 24 = .ok (.iconst 0, 1) := by decide +kernel
theorem dX12_number_25 : decode cX12_number 25 = .ok (.istore_n 1, 1) := by decide +kernel
theorem dX12_number_26 : decode cX12_number 26 = .ok (.aload_n 0, 1) := by decide +kernel
theorem dX12_number_27 : decode cX12_number 27 = .ok (.getfield 148, 3) := by decide +kernel
theorem dX12_number_30 : decode cX12_number 30 = .ok (.istore_n 2, 1) := by decide +kernel
theorem dX12_number_31 : decode cX12_number 31 = .ok (.iload_n 2, 1) := by decide +kernel
theorem dX12_number_32 : decode cX12_number 32 = .ok (.aload_n 0, 1) := by decide +kernel
theorem dX12_number_33 : decode cX12_number 33 = .ok (.getfield 145, 3) := by decide +kernel
theorem dX12_number_36 : decode cX12_number 36 = .ok (.if_icmp .ge 31, 3) := by decide +kernel
theorem dX12_number_39 : decode cX12_number 39 = .ok (.aload_n 0, 1) := by decide +kernel
theorem dX12_number_40 : decode cX12_number 40 = .ok (.getfield 164, 3) := by decide +kernel
theorem dX12_number_43 : decode cX12_number 43 = .ok (.ifCond .ne 24, 3) := by decide +kernel
theorem dX12_number_46 : decode cX12_number 46 = .ok (.bipush 10, 2) := by decide +kernel
theorem dX12_number_48 : decode cX12_number 48 = .ok (.iload_n 1, 1) := by decide +kernel
theorem dX12_number_49 : decode cX12_number 49 = .ok (.imul, 1) := by decide +kernel
theorem dX12_number_50 : decode cX12_number 50 = .ok (.aload_n 0, 1) := by decide +kernel
theorem dX12_number_51 : decode cX12_number 51 = .ok (.getfield 16, 3) := by decide +kernel
theorem dX12_number_54 : decode cX12_number 54 = .ok (.iload_n 2, 1) := by decide +kernel
theorem dX12_number_55 : decode cX12_number 55 = .ok (.iaload, 1) := by decide +kernel
theorem dX12_number_56 : decode cX12_number 56 = .ok (.iadd, 1) := by decide +kernel
theorem dX12_number_57 : decode cX12_number 57 = .ok (.bipush 48, 2) := by decide +kernel
theorem dX12_number_59 : decode cX12_number 59 = .ok (.isub, 1) := by decide +kernel
theorem dX12_number_60 : decode cX12_number 60 = .ok (.istore_n 1, 1) := by decide +kernel
theorem dX12_number_61 : decode cX12_number 61 = .ok (.iinc 2 1, 3) := by decide +kernel
theorem dX12_number_64 : decode cX12_number 64 = .ok (.goto (-33), 3) := by decide +kernel
theorem dX12_number_67 : decode cX12_number 67 = .ok (.aload_n 0, 1) := by decide +kernel
theorem dX12_number_68 : decode cX12_number 68 = .ok (.getfield 164, 3) := by decide +kernel
theorem dX12_number_71 : decode cX12_number 71 = .ok (.ifCond .ne 7, 3) := by decide +kernel
theorem dX12_number_74 : decode cX12_number 74 = .ok (.aload_n 0, 1) := by decide +kernel
theorem dX12_number_75 : decode cX12_number 75 = .ok (.invokevirtual 171, 3) := by decide +kernel
theorem dX12_number_78 : decode cX12_number 78 = .ok (.iload_n 1, 1) := by decide +kernel
theorem dX12_number_79 : decode cX12_number 79 = .ok (.ireturn, 1) := by decide +kernel
theorem dX12_code_0 : decode cX12_code 0 = .ok (.sipush 1226, 3) := by decide +kernel
theorem dX12_code_3 : decode cX12_code 3 = .ok (.sipush 418, 3) := by decide +kernel
theorem dX12_code_6 : decode cX12_code 6 = .ok (.aload_n 0, 1) := by decide +kernel
theorem dX12_code_7 : decode cX12_code 7 = .ok (.getfield 174, 3) := by decide +kernel
theorem dX12_code_10 : decode cX12_code 10 = .ok (.imul, 1) := by decide +kernel
theorem dX12_code_11 : decode cX12_code 11 = .ok (.iadd, 1) := by decide +kernel
theorem dX12_code_12 : decode cX12_code 12 = .ok (.istore_n 2, 1) := by decide +kernel
theorem dX12_code_13 : decode cX12_code 13 = .ok (.aload_n 0, 1) := by decide +kernel
theorem dX12_code_14 : decode cX12_code 14 = .ok (.getfield 9, 3) := by decide +kernel
theorem dX12_code_17 : decode cX12_code 17 = .ok (.iload_n 2, 1) := by decide +kernel
theorem dX12_code_18 : decode cX12_code 18 = .ok (.sipush 258, 3) := by decide +kernel
theorem dX12_code_21 : decode cX12_code 21 = .ok (.iadd, 1) := by decide +kernel
theorem dX12_code_22 : decode cX12_code 22 = .ok (.aload_n 0, 1) := by decide +kernel
theorem dX12_code_23 : decode cX12_code 23 = .ok (.getfield 9, 3) := by decide +kernel
theorem dX12_code_26 : decode cX12_code 26 = .ok (.iload_n 2, 1) := by decide +kernel
theorem dX12_code_27 : decode cX12_code 27 = .ok (.sipush 257, 3) := by decide +kernel
theorem dX12_code_30 : decode cX12_code 30 = .ok (.iadd, 1) := by decide +kernel
theorem dX12_code_31 : decode cX12_code 31 = .ok (.iaload, 1) := by decide +kernel
theorem dX12_code_32 : decode cX12_code 32 = .ok (.iadd, 1) := by decide +kernel
theorem dX12_code_33 : decode cX12_code 33 = .ok (.iload_n 1, 1) := by decide +kernel
theorem dX12_code_34 : decode cX12_code 34 = .ok (.iastore, 1) := by decide +kernel
theorem dX12_code_35 : decode cX12_code 35 = .ok (.aload_n 0, 1) := by decide +kernel
theorem dX12_code_36 : decode cX12_code 36 = .ok (.getfield 9, 3) := by decide +kernel
theorem dX12_code_39 : decode cX12_code 39 = .ok (.iload_n 2, 1) := by decide +kernel
theorem dX12_code_40 : decode cX12_code 40 = .ok (.sipush 257, 3) := by decide +kernel
theorem dX12_code_43 : decode cX12_code 43 = .ok (.iadd, 1) := by decide +kernel
theorem dX12_code_44 : decode cX12_code 44 = .ok (.dup2, 1) := by decide +kernel
theorem dX12_code_45 : decode cX12_code 45 = .ok (.iaload, 1) := by decide +kernel
theorem dX12_code_46 : decode cX12_code 46 = .ok (.iconst 1, 1) := by decide +kernel
theorem dX12_code_47 : decode cX12_code 47 = .ok (.iadd, 1) := by decide +kernel
theorem dX12_code_48 : decode cX12_code 48 = .ok (.iastore, 1) := by decide +kernel
theorem dX12_code_49 : decode cX12_code 49 = .ok (.return_, 1) := by decide +kernel
theorem dX12_signHere_0 : decode cX12_signHere 0 = .ok (.iconst (-1), 1) := by decide +kernel
theorem dX12_signHere_1 : decode cX12_signHere 1 = .ok (.istore_n 3, 1) := by decide +kernel
theorem dX12_signHere_2 : decode cX12_signHere 2 = .ok (.iload_n 1, 1) := by decide +kernel
theorem dX12_signHere_3 : decode cX12_signHere 3 = .ok (.istore 4, 2) := by decide +kernel
theorem dX12_signHere_5 : decode cX12_signHere 5 = .ok (.iload 4, 2) := by decide +kernel
theorem dX12_signHere_7 : decode cX12_signHere 7 = .ok (.iload_n 2, 1) := by decide +kernel
theorem dX12_signHere_8 : decode cX12_signHere 8 = .ok (.if_icmp .gt 30, 3) := by decide +kernel
theorem dX12_signHere_11 : decode cX12_signHere 11 = .ok (.aload_n 0, 1) := by decide +kernel
theorem dX12_signHere_12 : decode cX12_signHere 12 = .ok (.ldc 177, 2) := by decide +kernel
theorem dX12_signHere_14 : decode cX12_signHere 14 = .ok (.iload 4, 2) := by decide +kernel
theorem dX12_signHere_16 : decode cX12_signHere 16 = .ok (.invokevirtual 160, 3) := by decide +kernel
theorem dX12_signHere_19 : decode cX12_signHere 19 = .ok (.invokevirtual 168, 3) := by decide +kernel
theorem dX12_signHere_22 : decode cX12_signHere 22 = .ok (.ifCond .eq 8, 3) := by decide +kernel
theorem dX12_signHere_25 : decode cX12_signHere 25 = .ok (.iload 4, 2) := by decide +kernel
theorem dX12_signHere_27 : decode cX12_signHere 27 = .ok (.goto 4, 3) := by decide +kernel
theorem dX12_signHere_30 : decode cX12_signHere 30 = .ok (.iload_n 3, 1) := by decide +kernel
theorem dX12_signHere_31 : decode cX12_signHere 31 = .ok (.istore_n 3, 1) := by decide +kernel
theorem dX12_signHere_32 : decode cX12_signHere 32 = .ok (.iinc 4 1, 3) := by decide +kernel
theorem dX12_signHere_35 : decode cX12_signHere 35 = .ok (.goto (-30), 3) := by decide +kernel
theorem dX12_signHere_38 : decode cX12_signHere 38 = .ok (.aload_n 0, 1) := by decide +kernel
theorem dX12_signHere_39 : decode cX12_signHere 39 = .ok (.getfield 164, 3) := by decide +kernel
theorem dX12_signHere_42 : decode cX12_signHere 42 = .ok (.ifCond .eq 7, 3) := by decide +kernel
theorem dX12_signHere_45 : decode cX12_signHere 45 = .ok (.iconst (-1), 1) := by decide +kernel
theorem dX12_signHere_46 : decode cX12_signHere 46 = .ok (.goto 4, 3) := by decide +kernel
theorem dX12_signHere_49 : decode cX12_signHere 49 = .ok (.iload_n 3, 1) := by decide +kernel
theorem dX12_signHere_50 : decode cX12_signHere 50 = .ok (.ireturn, 1) := by decide +kernel
theorem dX12_part_0 : decode cX12_part 0 = .ok (.aload_n 0, 1) := by decide +kernel
theorem dX12_part_1 : decode cX12_part 1 = .ok (.getfield 164, 3) := by decide +kernel
theorem dX12_part_4 : decode cX12_part 4 = .ok (.ifCond .eq 4, 3) := by decide +kernel
theorem dX12_part_7 : decode cX12_part 7 = .ok (.return_, 1) := by decide +kernel
theorem dX12_part_8 : decode cX12_part 8 = .ok (.aload_n 0, 1) := by decide +kernel
theorem dX12_part_9 : decode cX12_part 9 = .ok (.getfield 142, 3) := by decide +kernel
theorem dX12_part_12 : decode cX12_part 12 = .ok (.iconst 2, 1) := by decide +kernel
theorem dX12_part_13 : decode cX12_part 13 = .ok (.if_icmp .ne 14, 3) := by decide +kernel
theorem dX12_part_16 : decode cX12_part 16 = .ok (.aload_n 0, 1) := by decide +kernel
theorem dX12_part_17 : decode cX12_part 17 = .ok (.aload_n 0, 1) := by decide +kernel
theorem dX12_part_18 : decode cX12_part 18 = .ok (.invokevirtual 179, 3) := by decide +kernel
theorem dX12_part_21 : decode cX12_part 21 = .ok (.invokevirtual 182, 3) := by decide +kernel
theorem dX12_part_24 : decode cX12_part 24 = .ok (.goto 186, 3) := by decide +kernel
theorem dX12_part_27 : decode cX12_part 27 = .ok (.aload_n 0, 1) := by decide +kernel
theorem dX12_part_28 : decode cX12_part 28 = .ok (.getfield 142, 3) := by decide +kernel
theorem dX12_part_31 : decode cX12_part 31 = .ok (.iconst 1, 1) := by decide +kernel
theorem dX12_part_32 : decode cX12_part 32 = .ok (.if_icmp .ne 62, 3) := by decide +kernel
theorem dX12_part_35 : decode cX12_part 35 = .ok (.aload_n 0, 1) := by decide +kernel
theorem dX12_part_36 : decode cX12_part 36 = .ok (.getfield 145, 3) := by decide +kernel
theorem dX12_part_39 : decode cX12_part 39 = .ok (.aload_n 0, 1) := by decide +kernel
theorem dX12_part_40 : decode cX12_part 40 = .ok (.getfield 148, 3) := by decide +kernel
theorem dX12_part_43 : decode cX12_part 43 = .ok (.isub, 1) := by decide +kernel
theorem dX12_part_44 : decode cX12_part 44 = .ok (.iconst 1, 1) := by decide +kernel
theorem dX12_part_45 : decode cX12_part 45 = .ok (.if_icmp .ne 49, 3) := by decide +kernel
theorem dX12_part_48 : decode cX12_part 48 = .ok (.ldc 185, 2) := by decide +kernel
theorem dX12_part_50 : decode cX12_part 50 = .ok (.aload_n 0, 1) := by decide +kernel
theorem dX12_part_51 : decode cX12_part 51 = .ok (.getfield 16, 3) := by decide +kernel
theorem dX12_part_54 : decode cX12_part 54 = .ok (.aload_n 0, 1) := by decide +kernel
theorem dX12_part_55 : decode cX12_part 55 = .ok (.getfield 148, 3) := by decide +kernel
theorem dX12_part_58 : decode cX12_part 58 = .ok (.iaload, 1) := by decide +kernel
theorem dX12_part_59 : decode cX12_part 59 = .ok (.invokevirtual 187, 3) := by decide +kernel
theorem dX12_part_62 : decode cX12_part 62 = .ok (.ifCond .lt 32, 3) := by decide +kernel
theorem dX12_part_65 : decode cX12_part 65 = .ok (.aload_n 0, 1) := by decide +kernel
theorem dX12_part_66 : decode cX12_part 66 = .ok (.sipush 10000, 3) := by decide +kernel
theorem dX12_part_69 : decode cX12_part 69 = .ok (.ldc 185, 2) := by decide +kernel
theorem dX12_part_71 : decode cX12_part 71 = .ok (.aload_n 0, 1) := by decide +kernel
theorem dX12_part_72 : decode cX12_part 72 = .ok (.getfield 16, 3) := by decide +kernel
theorem dX12_part_75 : decode cX12_part 75 = .ok (.aload_n 0, 1) := by decide +kernel
theorem dX12_part_76 : decode cX12_part 76 = .ok (.getfield 148, 3) := by decide +kernel
theorem dX12_part_79 : decode cX12_part 79 = .ok (.iaload, 1) := by decide +kernel
theorem dX12_part_80 : decode cX12_part 80 = .ok (.invokevirtual 187, 3) := by decide +kernel
theorem dX12_part_83 : decode cX12_part 83 = .ok (.iadd, 1) := by decide +kernel
theorem dX12_part_84 : decode cX12_part 84 = .ok (.invokevirtual 182, 3) := by decide +kernel
theorem dX12_part_87 : decode cX12_part 87 = .ok (.aload_n 0, 1) := by decide +kernel
theorem dX12_part_88 : decode cX12_part 88 = .ok (.invokevirtual 171, 3) := by decide +kernel
theorem dX12_part_91 : decode cX12_part 91 = .ok (.goto 119, 3) := by decide +kernel
theorem dX12_part_94 : decode cX12_part 94 = .ok (.aload_n 0, 1) := by decide +kernel
theorem dX12_part_95 : decode cX12_part 95 = .ok (.bipush 33, 2) := by decide +kernel
theorem dX12_part_97 : decode cX12_part 97 = .ok (.invokevirtual 168, 3) := by decide +kernel
theorem dX12_part_100 : decode cX12_part 100 = .ok (.ifCond .eq 50, 3) := by decide +kernel
theorem dX12_part_103 : decode cX12_part 103 = .ok (.aload_n 0, 1) := by decide +kernel
theorem dX12_part_104 : decode cX12_part 104 = .ok (.getfield 190, 3) := by decide +kernel
theorem dX12_part_107 : decode cX12_part 107 = .ok (.bipush 8, 2) := by decide +kernel
theorem dX12_part_109 : decode cX12_part 109 = .ok (.if_icmp .ge 41, 3) := by decide +kernel
theorem dX12_part_112 : decode cX12_part 112 = .ok (.aload_n 0, 1) := by decide +kernel
theorem dX12_part_113 : decode cX12_part 113 = .ok (.dup, 1) := by decide +kernel
theorem dX12_part_114 : decode cX12_part 114 = .ok (.getfield 190, 3) := by decide +kernel
theorem dX12_part_117 : decode cX12_part 117 = .ok (.iconst 1, 1) := by decide +kernel
theorem dX12_part_118 : decode cX12_part 118 = .ok (.iadd, 1) := by decide +kernel
theorem dX12_part_119 : decode cX12_part 119 = .ok (.putfield 190, 3) := by decide +kernel
theorem dX12_part_122 : decode cX12_part 122 = .ok (.aload_n 0, 1) := by decide +kernel
theorem dX12_part_123 : decode cX12_part 123 = .ok (.invokevirtual 171, 3) := by decide +kernel
theorem dX12_part_126 : decode cX12_part 126 = .ok (.aload_n 0, 1) := by decide +kernel
theorem dX12_part_127 : decode cX12_part 127 = .ok (.invokevirtual 193, 3) := by decide +kernel
theorem dX12_part_130 : decode cX12_part 130 = .ok (.aload_n 0, 1) := by decide +kernel
theorem dX12_part_131 : decode cX12_part 131 = .ok (.dup, 1) := by decide +kernel
theorem dX12_part_132 : decode cX12_part 132 = .ok (.getfield 190, 3) := by decide +kernel
theorem dX12_part_135 : decode cX12_part 135 = .ok (.iconst 1, 1) := by decide +kernel
theorem dX12_part_136 : decode cX12_part 136 = .ok (.isub, 1) := by decide +kernel
theorem dX12_part_137 : decode cX12_part 137 = .ok (.putfield 190, 3) := by decide +kernel
theorem dX12_part_140 : decode cX12_part 140 = .ok (.aload_n 0, 1) := by decide +kernel
theorem dX12_part_141 : decode cX12_part 141 = .ok (.sipush 20008, 3) := by decide +kernel
theorem dX12_part_144 : decode cX12_part 144 = .ok (.invokevirtual 182, 3) := by decide +kernel
theorem dX12_part_147 : decode cX12_part 147 = .ok (.goto 63, 3) := by decide +kernel
theorem dX12_part_150 : decode cX12_part 150 = .ok (.aload_n 0, 1) := by decide +kernel
theorem dX12_part_151 : decode cX12_part 151 = .ok (.bipush 40, 2) := by decide +kernel
theorem dX12_part_153 : decode cX12_part 153 = .ok (.invokevirtual 168, 3) := by decide +kernel
theorem dX12_part_156 : decode cX12_part 156 = .ok (.ifCond .eq 49, 3) := by decide +kernel
theorem dX12_part_159 : decode cX12_part 159 = .ok (.aload_n 0, 1) := by decide +kernel
theorem dX12_part_160 : decode cX12_part 160 = .ok (.getfield 196, 3) := by decide +kernel
theorem dX12_part_163 : decode cX12_part 163 = .ok (.bipush 8, 2) := by decide +kernel
theorem dX12_part_165 : decode cX12_part 165 = .ok (.if_icmp .ge 40, 3) := by decide +kernel
theorem dX12_part_168 : decode cX12_part 168 = .ok (.aload_n 0, 1) := by decide +kernel
theorem dX12_part_169 : decode cX12_part 169 = .ok (.dup, 1) := by decide +kernel
theorem dX12_part_170 : decode cX12_part 170 = .ok (.getfield 196, 3) := by decide +kernel
theorem dX12_part_173 : decode cX12_part 173 = .ok (.iconst 1, 1) := by decide +kernel
theorem dX12_part_174 : decode cX12_part 174 = .ok (.iadd, 1) := by decide +kernel
theorem dX12_part_175 : decode cX12_part 175 = .ok (.putfield 196, 3) := by decide +kernel
theorem dX12_part_178 : decode cX12_part 178 = .ok (.aload_n 0, 1) := by decide +kernel
theorem dX12_part_179 : decode cX12_part 179 = .ok (.invokevirtual 171, 3) := by decide +kernel
theorem dX12_part_182 : decode cX12_part 182 = .ok (.aload_n 0, 1) := by decide +kernel
theorem dX12_part_183 : decode cX12_part 183 = .ok (.invokevirtual 199, 3) := by decide +kernel
theorem dX12_part_186 : decode cX12_part 186 = .ok (.aload_n 0, 1) := by decide +kernel
theorem dX12_part_187 : decode cX12_part 187 = .ok (.bipush 41, 2) := by decide +kernel
theorem dX12_part_189 : decode cX12_part 189 = .ok (.invokevirtual 202, 3) := by decide +kernel
theorem dX12_part_192 : decode cX12_part 192 = .ok (.aload_n 0, 1) := by decide +kernel
theorem dX12_part_193 : decode cX12_part 193 = .ok (.dup, 1) := by decide +kernel
theorem dX12_part_194 : decode cX12_part 194 = .ok (.getfield 196, 3) := by decide +kernel
theorem dX12_part_197 : decode cX12_part 197 = .ok (.iconst 1, 1) := by decide +kernel
theorem dX12_part_198 : decode cX12_part 198 = .ok (.isub, 1) := by decide +kernel
theorem dX12_part_199 : decode cX12_part 199 = .ok (.putfield 196, 3) := by decide +kernel
theorem dX12_part_202 : decode cX12_part 202 = .ok (.goto 8, 3) := by decide +kernel
theorem dX12_part_205 : decode cX12_part 205 = .ok (.aload_n 0, 1) := by decide +kernel
theorem dX12_part_206 : decode cX12_part 206 = .ok (.iconst 1, 1) := by decide +kernel
theorem dX12_part_207 : decode cX12_part 207 = .ok (.putfield 164, 3) := by decide +kernel
theorem dX12_part_210 : decode cX12_part 210 = .ok (.return_, 1) := by decide +kernel
theorem dX12_term_0 : decode cX12_term 0 = .ok (.aload_n 0, 1) := by decide +kernel
theorem dX12_term_1 : decode cX12_term 1 = .ok (.invokevirtual 193, 3) := by decide +kernel
theorem dX12_term_4 : decode cX12_term 4 = .ok (.aload_n 0, 1) := by decide +kernel
theorem dX12_term_5 : decode cX12_term 5 = .ok (.bipush 7, 2) := by decide +kernel
theorem dX12_term_7 : decode cX12_term 7 = .ok (.bipush 7, 2) := by decide +kernel
theorem dX12_term_9 : decode cX12_term 9 = .ok (.invokevirtual 205, 3) := by decide +kernel
theorem dX12_term_12 : decode cX12_term 12 = .ok (.ifCond .lt 21, 3) := by decide +kernel
theorem dX12_term_15 : decode cX12_term 15 = .ok (.aload_n 0, 1) := by decide +kernel
theorem dX12_term_16 : decode cX12_term 16 = .ok (.invokevirtual 171, 3) := by decide +kernel
theorem dX12_term_19 : decode cX12_term 19 = .ok (.aload_n 0, 1) := by decide +kernel
theorem dX12_term_20 : decode cX12_term 20 = .ok (.invokevirtual 193, 3) := by decide +kernel
theorem dX12_term_23 : decode cX12_term 23 = .ok (.aload_n 0, 1) := by decide +kernel
theorem dX12_term_24 : decode cX12_term 24 = .ok (.sipush 20007, 3) := by decide +kernel
theorem dX12_term_27 : decode cX12_term 27 = .ok (.invokevirtual 182, 3) := by decide +kernel
theorem dX12_term_30 : decode cX12_term 30 = .ok (.goto (-26), 3) := by decide +kernel
theorem dX12_term_33 : decode cX12_term 33 = .ok (.return_, 1) := by decide +kernel
theorem dX12_sum_0 : decode cX12_sum 0 = .ok (.aload_n 0, 1) := by decide +kernel
theorem dX12_sum_1 : decode cX12_sum 1 = .ok (.invokevirtual 208, 3) := by decide +kernel
theorem dX12_sum_4 : decode cX12_sum 4 = .ok (.aload_n 0, 1) := by decide +kernel
theorem dX12_sum_5 : decode cX12_sum 5 = .ok (.iconst 5, 1) := by decide +kernel
theorem dX12_sum_6 : decode cX12_sum 6 = .ok (.bipush 6, 2) := by decide +kernel
theorem dX12_sum_8 : decode cX12_sum 8 = .ok (.invokevirtual 205, 3) := by decide +kernel
theorem dX12_sum_11 : decode cX12_sum 11 = .ok (.istore_n 1, 1) := by decide +kernel
theorem dX12_sum_12 : decode cX12_sum 12 = .ok (.iload_n 1, 1) := by decide +kernel
theorem dX12_sum_13 : decode cX12_sum 13 = .ok (.ifCond .lt 31, 3) := by decide +kernel
theorem dX12_sum_16 : decode cX12_sum 16 = .ok (.aload_n 0, 1) := by decide +kernel
theorem dX12_sum_17 : decode cX12_sum 17 = .ok (.invokevirtual 171, 3) := by decide +kernel
theorem dX12_sum_20 : decode cX12_sum 20 = .ok (.aload_n 0, 1) := by decide +kernel
theorem dX12_sum_21 : decode cX12_sum 21 = .ok (.invokevirtual 208, 3) := by decide +kernel
theorem dX12_sum_24 : decode cX12_sum 24 = .ok (.aload_n 0, 1) := by decide +kernel
theorem dX12_sum_25 : decode cX12_sum 25 = .ok (.sipush 20000, 3) := by decide +kernel
theorem dX12_sum_28 : decode cX12_sum 28 = .ok (.iload_n 1, 1) := by decide +kernel
theorem dX12_sum_29 : decode cX12_sum 29 = .ok (.iadd, 1) := by decide +kernel
theorem dX12_sum_30 : decode cX12_sum 30 = .ok (.invokevirtual 182, 3) := by decide +kernel
theorem dX12_sum_33 : decode cX12_sum 33 = .ok (.aload_n 0, 1) := by decide +kernel
theorem dX12_sum_34 : decode cX12_sum 34 = .ok (.iconst 5, 1) := by decide +kernel
theorem dX12_sum_35 : decode cX12_sum 35 = .ok (.bipush 6, 2) := by decide +kernel
theorem dX12_sum_37 : decode cX12_sum 37 = .ok (.invokevirtual 205, 3) := by decide +kernel
theorem dX12_sum_40 : decode cX12_sum 40 = .ok (.istore_n 1, 1) := by decide +kernel
theorem dX12_sum_41 : decode cX12_sum 41 = .ok (.goto (-29), 3) := by decide +kernel
theorem dX12_sum_44 : decode cX12_sum 44 = .ok (.return_, 1) := by decide +kernel
theorem dX12_test_0 : decode cX12_test 0 = .ok (.aload_n 0, 1) := by decide +kernel
theorem dX12_test_1 : decode cX12_test 1 = .ok (.invokevirtual 211, 3) := by decide +kernel
theorem dX12_test_4 : decode cX12_test 4 = .ok (.aload_n 0, 1) := by decide +kernel
theorem dX12_test_5 : decode cX12_test 5 = .ok (.iconst 2, 1) := by decide +kernel
theorem dX12_test_6 : decode cX12_test 6 = .ok (.iconst 4, 1) := by decide +kernel
theorem dX12_test_7 : decode cX12_test 7 = .ok (.invokevirtual 205, 3) := by decide +kernel
theorem dX12_test_10 : decode cX12_test 10 = .ok (.istore_n 1, 1) := by decide +kernel
theorem dX12_test_11 : decode cX12_test 11 = .ok (.iload_n 1, 1) := by decide +kernel
theorem dX12_test_12 : decode cX12_test 12 = .ok (.ifCond .lt 20, 3) := by decide +kernel
theorem dX12_test_15 : decode cX12_test 15 = .ok (.aload_n 0, 1) := by decide +kernel
theorem dX12_test_16 : decode cX12_test 16 = .ok (.invokevirtual 171, 3) := by decide +kernel
theorem dX12_test_19 : decode cX12_test 19 = .ok (.aload_n 0, 1) := by decide +kernel
theorem dX12_test_20 : decode cX12_test 20 = .ok (.invokevirtual 211, 3) := by decide +kernel
theorem dX12_test_23 : decode cX12_test 23 = .ok (.aload_n 0, 1) := by decide +kernel
theorem dX12_test_24 : decode cX12_test 24 = .ok (.sipush 20000, 3) := by decide +kernel
theorem dX12_test_27 : decode cX12_test 27 = .ok (.iload_n 1, 1) := by decide +kernel
theorem dX12_test_28 : decode cX12_test 28 = .ok (.iadd, 1) := by decide +kernel
theorem dX12_test_29 : decode cX12_test 29 = .ok (.invokevirtual 182, 3) := by decide +kernel
theorem dX12_test_32 : decode cX12_test 32 = .ok (.return_, 1) := by decide +kernel
theorem dX12_both_0 : decode cX12_both 0 = .ok (.aload_n 0, 1) := by decide +kernel
theorem dX12_both_1 : decode cX12_both 1 = .ok (.invokevirtual 214, 3) := by decide +kernel
theorem dX12_both_4 : decode cX12_both 4 = .ok (.aload_n 0, 1) := by decide +kernel
theorem dX12_both_5 : decode cX12_both 5 = .ok (.iconst 1, 1) := by decide +kernel
theorem dX12_both_6 : decode cX12_both 6 = .ok (.iconst 1, 1) := by decide +kernel
theorem dX12_both_7 : decode cX12_both 7 = .ok (.invokevirtual 205, 3) := by decide +kernel
theorem dX12_both_10 : decode cX12_both 10 = .ok (.ifCond .lt 21, 3) := by decide +kernel
theorem dX12_both_13 : decode cX12_both 13 = .ok (.aload_n 0, 1) := by decide +kernel
theorem dX12_both_14 : decode cX12_both 14 = .ok (.invokevirtual 171, 3) := by decide +kernel
theorem dX12_both_17 : decode cX12_both 17 = .ok (.aload_n 0, 1) := by decide +kernel
theorem dX12_both_18 : decode cX12_both 18 = .ok (.invokevirtual 214, 3) := by decide +kernel
theorem dX12_both_21 : decode cX12_both 21 = .ok (.aload_n 0, 1) := by decide +kernel
theorem dX12_both_22 : decode cX12_both 22 = .ok (.sipush 20001, 3) := by decide +kernel
theorem dX12_both_25 : decode cX12_both 25 = .ok (.invokevirtual 182, 3) := by decide +kernel
theorem dX12_both_28 : decode cX12_both 28 = .ok (.goto (-24), 3) := by decide +kernel
theorem dX12_both_31 : decode cX12_both 31 = .ok (.return_, 1) := by decide +kernel
theorem dX12_either_0 : decode cX12_either 0 = .ok (.aload_n 0, 1) := by decide +kernel
theorem dX12_either_1 : decode cX12_either 1 = .ok (.invokevirtual 217, 3) := by decide +kernel
theorem dX12_either_4 : decode cX12_either 4 = .ok (.aload_n 0, 1) := by decide +kernel
theorem dX12_either_5 : decode cX12_either 5 = .ok (.iconst 0, 1) := by decide +kernel
theorem dX12_either_6 : decode cX12_either 6 = .ok (.iconst 0, 1) := by decide +kernel
theorem dX12_either_7 : decode cX12_either 7 = .ok (.invokevirtual 205, 3) := by decide +kernel
theorem dX12_either_10 : decode cX12_either 10 = .ok (.ifCond .lt 21, 3) := by decide +kernel
theorem dX12_either_13 : decode cX12_either 13 = .ok (.aload_n 0, 1) := by decide +kernel
theorem dX12_either_14 : decode cX12_either 14 = .ok (.invokevirtual 171, 3) := by decide +kernel
theorem dX12_either_17 : decode cX12_either 17 = .ok (.aload_n 0, 1) := by decide +kernel
theorem dX12_either_18 : decode cX12_either 18 = .ok (.invokevirtual 217, 3) := by decide +kernel
theorem dX12_either_21 : decode cX12_either 21 = .ok (.aload_n 0, 1) := by decide +kernel
theorem dX12_either_22 : decode cX12_either 22 = .ok (.sipush 20000, 3) := by decide +kernel
theorem dX12_either_25 : decode cX12_either 25 = .ok (.invokevirtual 182, 3) := by decide +kernel
theorem dX12_either_28 : decode cX12_either 28 = .ok (.goto (-24), 3) := by decide +kernel
theorem dX12_either_31 : decode cX12_either 31 = .ok (.return_, 1) := by decide +kernel
theorem dX12_step_0 : decode cX12_step 0 = .ok (.sipush 1226, 3) := by decide +kernel
theorem dX12_step_3 : decode cX12_step 3 = .ok (.sipush 418, 3) := by decide +kernel
theorem dX12_step_6 : decode cX12_step 6 = .ok (.aload_n 0, 1) := by decide +kernel
theorem dX12_step_7 : decode cX12_step 7 = .ok (.getfield 174, 3) := by decide +kernel
theorem dX12_step_10 : decode cX12_step 10 = .ok (.imul, 1) := by decide +kernel
theorem dX12_step_11 : decode cX12_step 11 = .ok (.iadd, 1) := by decide +kernel
theorem dX12_step_12 : decode cX12_step 12 = .ok (.iconst 1, 1) := by decide +kernel
theorem dX12_step_13 : decode cX12_step 13 = .ok (.iadd, 1) := by decide +kernel
theorem dX12_step_14 : decode cX12_step 14 = .ok (.bipush 8, 2) := by decide +kernel
theorem dX12_step_16 : decode cX12_step 16 = .ok (.iload_n 1, 1) := by decide +kernel
theorem dX12_step_17 : decode cX12_step 17 = .ok (.imul, 1) := by decide +kernel
theorem dX12_step_18 : decode cX12_step 18 = .ok (.iadd, 1) := by decide +kernel
theorem dX12_step_19 : decode cX12_step 19 = .ok (.iload_n 2, 1) := by decide +kernel
theorem dX12_step_20 : decode cX12_step 20 = .ok (.iadd, 1) := by decide +kernel
theorem dX12_step_21 : decode cX12_step 21 = .ok (.ireturn, 1) := by decide +kernel
theorem dX12_expression_0 : decode cX12_expression 0 = .ok (.aload_n 0, 1) := by decide +kernel
theorem dX12_expression_1 : decode cX12_expression 1 = .ok (.getfield 9, 3) := by decide +kernel
theorem dX12_expression_4 : decode cX12_expression 4 = .ok (.aload_n 0, 1) := by decide +kernel
theorem dX12_expression_5 : decode cX12_expression 5 = .ok (.iload_n 1, 1) := by decide +kernel
theorem dX12_expression_6 : decode cX12_expression 6 = .ok (.iconst 3, 1) := by decide +kernel
theorem dX12_expression_7 : decode cX12_expression 7 = .ok (.invokevirtual 220, 3) := by decide +kernel
theorem dX12_expression_10 : decode cX12_expression 10 = .ok (.aload_n 0, 1) := by decide +kernel
theorem dX12_expression_11 : decode cX12_expression 11 = .ok (.getfield 9, 3) := by decide +kernel
theorem dX12_expression_14 : decode cX12_expression 14 = .ok (.sipush 1226, 3) := by decide +kernel
theorem dX12_expression_17 : decode cX12_expression 17 = .ok (.sipush 418, 3) := by decide +kernel
theorem dX12_expression_20 : decode cX12_expression 20 = .ok (.aload_n 0, 1) := by decide +kernel
theorem dX12_expression_21 : decode cX12_expression 21 = .ok (.getfield 174, 3) := by decide +kernel
theorem dX12_expression_24 : decode cX12_expression 24 = .ok (.imul, 1) := by decide +kernel
theorem dX12_expression_25 : decode cX12_expression 25 = .ok (.iadd, 1) := by decide +kernel
theorem dX12_expression_26 : decode cX12_expression 26 = .ok (.sipush 257, 3) := by decide +kernel
theorem dX12_expression_29 : decode cX12_expression 29 = .ok (.iadd, 1) := by decide +kernel
theorem dX12_expression_30 : decode cX12_expression 30 = .ok (.iaload, 1) := by decide +kernel
theorem dX12_expression_31 : decode cX12_expression 31 = .ok (.iastore, 1) := by decide +kernel
theorem dX12_expression_32 : decode cX12_expression 32 = .ok (.aload_n 0, 1) := by decide +kernel
theorem dX12_expression_33 : decode cX12_expression 33 = .ok (.invokevirtual 199, 3) := by decide +kernel
theorem dX12_expression_36 : decode cX12_expression 36 = .ok (.aload_n 0, 1) := by decide +kernel
theorem dX12_expression_37 : decode cX12_expression 37 = .ok (.sipush 30000, 3) := by decide +kernel
theorem dX12_expression_40 : decode cX12_expression 40 = .ok (.invokevirtual 182, 3) := by decide +kernel
theorem dX12_expression_43 : decode cX12_expression 43 = .ok (.return_, 1) := by decide +kernel
theorem dX12_wordHere_0 : decode cX12_wordHere 0 = .ok (.iconst (-1), 1) := by decide +kernel
theorem dX12_wordHere_1 : decode cX12_wordHere 1 = .ok (.istore_n 1, 1) := by decide +kernel
theorem dX12_wordHere_2 : decode cX12_wordHere 2 = .ok (.iconst 0, 1) := by decide +kernel
theorem dX12_wordHere_3 : decode cX12_wordHere 3 = .ok (.istore_n 2, 1) := by decide +kernel
theorem dX12_wordHere_4 : decode cX12_wordHere 4 = .ok (.iload_n 2, 1) := by decide +kernel
theorem dX12_wordHere_5 : decode cX12_wordHere 5 = .ok (.aload_n 0, 1) := by decide +kernel
theorem dX12_wordHere_6 : decode cX12_wordHere 6 = .ok (.getfield 58, 3) := by decide +kernel
theorem dX12_wordHere_9 : decode cX12_wordHere 9 = .ok (.arraylength, 1) := by decide +kernel
theorem dX12_wordHere_10 : decode cX12_wordHere 10 = .ok (.if_icmp .ge 28, 3) := by decide +kernel
theorem dX12_wordHere_13 : decode cX12_wordHere 13 = .ok (.aload_n 0, 1) := by decide +kernel
theorem dX12_wordHere_14 : decode cX12_wordHere 14 = .ok (.aload_n 0, 1) := by decide +kernel
theorem dX12_wordHere_15 : decode cX12_wordHere 15 = .ok (.getfield 58, 3) := by decide +kernel
theorem dX12_wordHere_18 : decode cX12_wordHere 18 = .ok (.iload_n 2, 1) := by decide +kernel
theorem dX12_wordHere_19 : decode cX12_wordHere 19 = .ok (.aaload, 1) := by decide +kernel
theorem dX12_wordHere_20 : decode cX12_wordHere 20 = .ok (.invokevirtual 223, 3) := by decide +kernel
theorem dX12_wordHere_23 : decode cX12_wordHere 23 = .ok (.ifCond .eq 7, 3) := by decide +kernel
theorem dX12_wordHere_26 : decode cX12_wordHere 26 = .ok (.iload_n 2, 1) := by decide +kernel
theorem dX12_wordHere_27 : decode cX12_wordHere 27 = .ok (.goto 4, 3) := by decide +kernel
theorem dX12_wordHere_30 : decode cX12_wordHere 30 = .ok (.iload_n 1, 1) := by decide +kernel
theorem dX12_wordHere_31 : decode cX12_wordHere 31 = .ok (.istore_n 1, 1) := by decide +kernel
theorem dX12_wordHere_32 : decode cX12_wordHere 32 = .ok (.iinc 2 1, 3) := by decide +kernel
theorem dX12_wordHere_35 : decode cX12_wordHere 35 = .ok (.goto (-31), 3) := by decide +kernel
theorem dX12_wordHere_38 : decode cX12_wordHere 38 = .ok (.iload_n 1, 1) := by decide +kernel
theorem dX12_wordHere_39 : decode cX12_wordHere 39 = .ok (.ireturn, 1) := by decide +kernel
theorem dX12_inBraces_0 : decode cX12_inBraces 0 = .ok (.aload_n 0, 1) := by decide +kernel
theorem dX12_inBraces_1 : decode cX12_inBraces 1 = .ok (.getfield 164, 3) := by decide +kernel
theorem dX12_inBraces_4 : decode cX12_inBraces 4 = .ok (.ifCond .ne 20, 3) := by decide +kernel
theorem dX12_inBraces_7 : decode cX12_inBraces 7 = .ok (.aload_n 0, 1) := by decide +kernel
theorem dX12_inBraces_8 : decode cX12_inBraces 8 = .ok (.bipush 123, 2) := by decide +kernel
theorem dX12_inBraces_10 : decode cX12_inBraces 10 = .ok (.invokevirtual 168, 3) := by decide +kernel
theorem dX12_inBraces_13 : decode cX12_inBraces 13 = .ok (.ifCond .eq 11, 3) := by decide +kernel
theorem dX12_inBraces_16 : decode cX12_inBraces 16 = .ok (.aload_n 0, 1) := by decide +kernel
theorem dX12_inBraces_17 : decode cX12_inBraces 17 = .ok (.getfield 227, 3) := by decide +kernel
theorem dX12_inBraces_20 : decode cX12_inBraces 20 = .ok (.iconst 4, 1) := by decide +kernel
theorem dX12_inBraces_21 : decode cX12_inBraces 21 = .ok (.if_icmp .ne 10, 3) := by decide +kernel
theorem dX12_inBraces_24 : decode cX12_inBraces 24 = .ok (.aload_n 0, 1) := by decide +kernel
theorem dX12_inBraces_25 : decode cX12_inBraces 25 = .ok (.iconst 1, 1) := by decide +kernel
theorem dX12_inBraces_26 : decode cX12_inBraces 26 = .ok (.putfield 164, 3) := by decide +kernel
theorem dX12_inBraces_29 : decode cX12_inBraces 29 = .ok (.iconst (-1), 1) := by decide +kernel
theorem dX12_inBraces_30 : decode cX12_inBraces 30 = .ok (.ireturn, 1) := by decide +kernel
theorem dX12_inBraces_31 : decode cX12_inBraces 31 = .ok (.aload_n 0, 1) := by decide +kernel
theorem dX12_inBraces_32 : decode cX12_inBraces 32 = .ok (.dup, 1) := by decide +kernel
theorem dX12_inBraces_33 : decode cX12_inBraces 33 = .ok (.getfield 227, 3) := by decide +kernel
theorem dX12_inBraces_36 : decode cX12_inBraces 36 = .ok (.iconst 1, 1) := by decide +kernel
theorem dX12_inBraces_37 : decode cX12_inBraces 37 = .ok (.iadd, 1) := by decide +kernel
theorem dX12_inBraces_38 : decode cX12_inBraces 38 = .ok (.putfield 227, 3) := by decide +kernel
theorem dX12_inBraces_41 : decode cX12_inBraces 41 = .ok (.aload_n 0, 1) := by decide +kernel
theorem dX12_inBraces_42 : decode cX12_inBraces 42 = .ok (.invokevirtual 171, 3) := by decide +kernel
theorem dX12_inBraces_45 : decode cX12_inBraces 45 = .ok (.aload_n 0, 1) := by decide +kernel
theorem dX12_inBraces_46 : decode cX12_inBraces 46 = .ok (.iload_n 1, 1) := by decide +kernel
theorem dX12_inBraces_47 : decode cX12_inBraces 47 = .ok (.invokevirtual 230, 3) := by decide +kernel
theorem dX12_inBraces_50 : decode cX12_inBraces 50 = .ok (.istore_n 2, 1) := by decide +kernel
theorem dX12_inBraces_51 : decode cX12_inBraces 51 = .ok (.aload_n 0, 1) := by decide +kernel
theorem dX12_inBraces_52 : decode cX12_inBraces 52 = .ok (.bipush 125, 2) := by decide +kernel
theorem dX12_inBraces_54 : decode cX12_inBraces 54 = .ok (.invokevirtual 202, 3) := by decide +kernel
theorem dX12_inBraces_57 : decode cX12_inBraces 57 = .ok (.aload_n 0, 1) := by decide +kernel
theorem dX12_inBraces_58 : decode cX12_inBraces 58 = .ok (.dup, 1) := by decide +kernel
theorem dX12_inBraces_59 : decode cX12_inBraces 59 = .ok (.getfield 227, 3) := by decide +kernel
theorem dX12_inBraces_62 : decode cX12_inBraces 62 = .ok (.iconst 1, 1) := by decide +kernel
theorem dX12_inBraces_63 : decode cX12_inBraces 63 = .ok (.isub, 1) := by decide +kernel
theorem dX12_inBraces_64 : decode cX12_inBraces 64 = .ok (.putfield 227, 3) := by decide +kernel
theorem dX12_inBraces_67 : decode cX12_inBraces 67 = .ok (.iload_n 2, 1) := by decide +kernel
theorem dX12_inBraces_68 : decode cX12_inBraces 68 = .ok (.ireturn, 1) := by decide +kernel
theorem dX12_rowOfSteps_0 : decode cX12_rowOfSteps 0 = .ok (.iconst (-1), 1) := by decide +kernel
theorem dX12_rowOfSteps_1 : decode cX12_rowOfSteps 1 = .ok (.istore_n 2, 1) := by decide +kernel
theorem dX12_rowOfSteps_2 : decode cX12_rowOfSteps 2 = .ok (.iconst (-1), 1) := by decide +kernel
theorem dX12_rowOfSteps_3 : decode cX12_rowOfSteps 3 = .ok (.istore_n 3, 1) := by decide +kernel
theorem dX12_rowOfSteps_4 : decode cX12_rowOfSteps 4 = .ok (.iconst 1, 1) := by decide +kernel
theorem dX12_rowOfSteps_5 : decode cX12_rowOfSteps 5 = .ok (.istore 4, 2) := by decide +kernel
theorem dX12_rowOfSteps_7 : decode cX12_rowOfSteps 7 = .ok (.iload 4, 2) := by decide +kernel
theorem dX12_rowOfSteps_9 : decode cX12_rowOfSteps 9 = .ok (.ifCond .eq 68, 3) := by decide +kernel
theorem dX12_rowOfSteps_12 : decode cX12_rowOfSteps 12 = .ok (.aload_n 0, 1) := by decide +kernel
theorem dX12_rowOfSteps_13 : decode cX12_rowOfSteps 13 = .ok (.iload_n 1, 1) := by decide +kernel
theorem dX12_rowOfSteps_14 : decode cX12_rowOfSteps 14 = .ok (.invokevirtual 233, 3) := by decide +kernel
theorem dX12_rowOfSteps_17 : decode cX12_rowOfSteps 17 = .ok (.istore 5, 2) := by decide +kernel
theorem dX12_rowOfSteps_19 : decode cX12_rowOfSteps 19 = .ok (.iload_n 2, 1) := by decide +kernel
theorem dX12_rowOfSteps_20 : decode cX12_rowOfSteps 20 = .ok (.ifCond .ge 9, 3) := by decide +kernel
theorem dX12_rowOfSteps_23 : decode cX12_rowOfSteps 23 = .ok (.iload 5, 2) := by decide +kernel
theorem dX12_rowOfSteps_25 : decode cX12_rowOfSteps 25 = .ok (.istore_n 2, 1) := by decide +kernel
theorem dX12_rowOfSteps_26 : decode cX12_rowOfSteps 26 = .ok (.goto 24, 3) := by decide +kernel
theorem dX12_rowOfSteps_29 : decode cX12_rowOfSteps 29 = .ok (.aload_n 0, 1) := by decide +kernel
theorem dX12_rowOfSteps_30 : decode cX12_rowOfSteps 30 = .ok (.getfield 164, 3) := by decide +kernel
theorem dX12_rowOfSteps_33 : decode cX12_rowOfSteps 33 = .ok (.ifCond .ne 17, 3) := by decide +kernel
theorem dX12_rowOfSteps_36 : decode cX12_rowOfSteps 36 = .ok (.aload_n 0, 1) := by decide +kernel
theorem dX12_rowOfSteps_37 : decode cX12_rowOfSteps 37 = .ok (.getfield 9, 3) := by decide +kernel
theorem dX12_rowOfSteps_40 : decode cX12_rowOfSteps 40 = .ok (.aload_n 0, 1) := by decide +kernel
theorem dX12_rowOfSteps_41 : decode cX12_rowOfSteps 41 = .ok (.iload_n 3, 1) := by decide +kernel
theorem dX12_rowOfSteps_42 : decode cX12_rowOfSteps 42 = .ok (.bipush 6, 2) := by decide +kernel
theorem dX12_rowOfSteps_44 : decode cX12_rowOfSteps 44 = .ok (.invokevirtual 220, 3) := by decide +kernel
theorem dX12_rowOfSteps_47 : decode cX12_rowOfSteps 47 = .ok (.iload 5, 2) := by decide +kernel
theorem dX12_rowOfSteps_49 : decode cX12_rowOfSteps 49 = .ok (.iastore, 1) := by decide +kernel
theorem dX12_rowOfSteps_50 : decode cX12_rowOfSteps 50 = .ok (.iload 5, 2) := by decide +kernel
theorem dX12_rowOfSteps_52 : decode cX12_rowOfSteps 52 = .ok (.istore_n 3, 1) := by decide +kernel
theorem dX12_rowOfSteps_53 : decode cX12_rowOfSteps 53 = .ok (.aload_n 0, 1) := by decide +kernel
theorem dX12_rowOfSteps_54 : decode cX12_rowOfSteps 54 = .ok (.getfield 164, 3) := by decide +kernel
theorem dX12_rowOfSteps_57 : decode cX12_rowOfSteps 57 = .ok (.ifCond .ne 14, 3) := by decide +kernel
theorem dX12_rowOfSteps_60 : decode cX12_rowOfSteps 60 = .ok (.aload_n 0, 1) := by decide +kernel
theorem dX12_rowOfSteps_61 : decode cX12_rowOfSteps 61 = .ok (.invokevirtual 236, 3) := by decide +kernel
theorem dX12_rowOfSteps_64 : decode cX12_rowOfSteps 64 = .ok (.ifCond .lt 7, 3) := by decide +kernel
theorem dX12_rowOfSteps_67 : decode cX12_rowOfSteps 67 = .ok (.iconst 1, 1) := by decide +kernel
theorem dX12_rowOfSteps_68 : decode cX12_rowOfSteps 68 = .ok (.goto 4, 3) := by decide +kernel
theorem dX12_rowOfSteps_71 : decode cX12_rowOfSteps 71 = .ok (.iconst 0, 1) := by decide +kernel
theorem dX12_rowOfSteps_72 : decode cX12_rowOfSteps 72 = .ok (.istore 4, 2) := by decide +kernel
theorem dX12_rowOfSteps_74 : decode cX12_rowOfSteps 74 = .ok (.goto (-67), 3) := by decide +kernel
theorem dX12_rowOfSteps_77 : decode cX12_rowOfSteps 77 = .ok (.iload_n 2, 1) := by decide +kernel
theorem dX12_rowOfSteps_78 : decode cX12_rowOfSteps 78 = .ok (.ireturn, 1) := by decide +kernel
theorem dX12_oneStep_0 : decode cX12_oneStep 0 = .ok (.aload_n 0, 1) := by decide +kernel
theorem dX12_oneStep_1 : decode cX12_oneStep 1 = .ok (.getfield 164, 3) := by decide +kernel
theorem dX12_oneStep_4 : decode cX12_oneStep 4 = .ok (.ifCond .eq 7, 3) := by decide +kernel
theorem dX12_oneStep_7 : decode cX12_oneStep 7 = .ok (.iconst (-1), 1) := by decide +kernel
theorem dX12_oneStep_8 : decode cX12_oneStep 8 = .ok (.goto 7, 3) := by decide +kernel
theorem dX12_oneStep_11 : decode cX12_oneStep 11 = .ok (.aload_n 0, 1) := by decide +kernel
theorem dX12_oneStep_12 : decode cX12_oneStep 12 = .ok (.invokevirtual 236, 3) := by decide +kernel
theorem dX12_oneStep_15 : decode cX12_oneStep 15 = .ok (.istore_n 2, 1) := by decide +kernel
theorem dX12_oneStep_16 : decode cX12_oneStep 16 = .ok (.iload_n 2, 1) := by decide +kernel
theorem dX12_oneStep_17 : decode cX12_oneStep 17 = .ok (.ifCond .ge 10, 3) := by decide +kernel
theorem dX12_oneStep_20 : decode cX12_oneStep 20 = .ok (.aload_n 0, 1) := by decide +kernel
theorem dX12_oneStep_21 : decode cX12_oneStep 21 = .ok (.iconst 1, 1) := by decide +kernel
theorem dX12_oneStep_22 : decode cX12_oneStep 22 = .ok (.putfield 164, 3) := by decide +kernel
theorem dX12_oneStep_25 : decode cX12_oneStep 25 = .ok (.iconst (-1), 1) := by decide +kernel
theorem dX12_oneStep_26 : decode cX12_oneStep 26 = .ok (.ireturn, 1) := by decide +kernel
theorem dX12_oneStep_27 : decode cX12_oneStep 27 = .ok (.sipush 1226, 3) := by decide +kernel
theorem dX12_oneStep_30 : decode cX12_oneStep 30 = .ok (.sipush 418, 3) := by decide +kernel
theorem dX12_oneStep_33 : decode cX12_oneStep 33 = .ok (.aload_n 0, 1) := by decide +kernel
theorem dX12_oneStep_34 : decode cX12_oneStep 34 = .ok (.getfield 174, 3) := by decide +kernel
theorem dX12_oneStep_37 : decode cX12_oneStep 37 = .ok (.imul, 1) := by decide +kernel
theorem dX12_oneStep_38 : decode cX12_oneStep 38 = .ok (.iadd, 1) := by decide +kernel
theorem dX12_oneStep_39 : decode cX12_oneStep 39 = .ok (.istore_n 3, 1) := by decide +kernel
theorem dX12_oneStep_40 : decode cX12_oneStep 40 = .ok (.aload_n 0, 1) := by decide +kernel
theorem dX12_oneStep_41 : decode cX12_oneStep 41 = .ok (.getfield 9, 3) := by decide +kernel
theorem dX12_oneStep_44 : decode cX12_oneStep 44 = .ok (.iload_n 3, 1) := by decide +kernel
theorem dX12_oneStep_45 : decode cX12_oneStep 45 = .ok (.iaload, 1) := by decide +kernel
theorem dX12_oneStep_46 : decode cX12_oneStep 46 = .ok (.istore 4, 2) := by decide +kernel
theorem dX12_oneStep_48 : decode cX12_oneStep 48 = .ok (.aload_n 0, 1) := by decide +kernel
theorem dX12_oneStep_49 : decode cX12_oneStep 49 = .ok (.getfield 9, 3) := by decide +kernel
theorem dX12_oneStep_52 : decode cX12_oneStep 52 = .ok (.iload_n 3, 1) := by decide +kernel
theorem dX12_oneStep_53 : decode cX12_oneStep 53 = .ok (.dup2, 1) := by decide +kernel
theorem dX12_oneStep_54 : decode cX12_oneStep 54 = .ok (.iaload, 1) := by decide +kernel
theorem dX12_oneStep_55 : decode cX12_oneStep 55 = .ok (.iconst 1, 1) := by decide +kernel
theorem dX12_oneStep_56 : decode cX12_oneStep 56 = .ok (.iadd, 1) := by decide +kernel
theorem dX12_oneStep_57 : decode cX12_oneStep 57 = .ok (.iastore, 1) := by decide +kernel
theorem dX12_oneStep_58 : decode cX12_oneStep 58 = .ok (.aload_n 0, 1) := by decide +kernel
theorem dX12_oneStep_59 : decode cX12_oneStep 59 = .ok (.getfield 9, 3) := by decide +kernel
theorem dX12_oneStep_62 : decode cX12_oneStep 62 = .ok (.aload_n 0, 1) := by decide +kernel
theorem dX12_oneStep_63 : decode cX12_oneStep 63 = .ok (.iload 4, 2) := by decide +kernel
theorem dX12_oneStep_65 : decode cX12_oneStep 65 = .ok (.iconst 0, 1) := by decide +kernel
theorem dX12_oneStep_66 : decode cX12_oneStep 66 = .ok (.invokevirtual 220, 3) := by decide +kernel
theorem dX12_oneStep_69 : decode cX12_oneStep 69 = .ok (.iload_n 2, 1) := by decide +kernel
theorem dX12_oneStep_70 : decode cX12_oneStep 70 = .ok (.iastore, 1) := by decide +kernel
theorem dX12_oneStep_71 : decode cX12_oneStep 71 = .ok (.aload_n 0, 1) := by decide +kernel
theorem dX12_oneStep_72 : decode cX12_oneStep 72 = .ok (.getfield 9, 3) := by decide +kernel
theorem dX12_oneStep_75 : decode cX12_oneStep 75 = .ok (.aload_n 0, 1) := by decide +kernel
theorem dX12_oneStep_76 : decode cX12_oneStep 76 = .ok (.iload 4, 2) := by decide +kernel
theorem dX12_oneStep_78 : decode cX12_oneStep 78 = .ok (.iconst 4, 1) := by decide +kernel
theorem dX12_oneStep_79 : decode cX12_oneStep 79 = .ok (.invokevirtual 220, 3) := by decide +kernel
theorem dX12_oneStep_82 : decode cX12_oneStep 82 = .ok (.iconst (-1), 1) := by decide +kernel
theorem dX12_oneStep_83 : decode cX12_oneStep 83 = .ok (.iastore, 1) := by decide +kernel
theorem dX12_oneStep_84 : decode cX12_oneStep 84 = .ok (.aload_n 0, 1) := by decide +kernel
theorem dX12_oneStep_85 : decode cX12_oneStep 85 = .ok (.getfield 9, 3) := by decide +kernel
theorem dX12_oneStep_88 : decode cX12_oneStep 88 = .ok (.aload_n 0, 1) := by decide +kernel
theorem dX12_oneStep_89 : decode cX12_oneStep 89 = .ok (.iload 4, 2) := by decide +kernel
theorem dX12_oneStep_91 : decode cX12_oneStep 91 = .ok (.iconst 5, 1) := by decide +kernel
theorem dX12_oneStep_92 : decode cX12_oneStep 92 = .ok (.invokevirtual 220, 3) := by decide +kernel
theorem dX12_oneStep_95 : decode cX12_oneStep 95 = .ok (.iconst (-1), 1) := by decide +kernel
theorem dX12_oneStep_96 : decode cX12_oneStep 96 = .ok (.iastore, 1) := by decide +kernel
theorem dX12_oneStep_97 : decode cX12_oneStep 97 = .ok (.aload_n 0, 1) := by decide +kernel
theorem dX12_oneStep_98 : decode cX12_oneStep 98 = .ok (.getfield 9, 3) := by decide +kernel
theorem dX12_oneStep_101 : decode cX12_oneStep 101 = .ok (.aload_n 0, 1) := by decide +kernel
theorem dX12_oneStep_102 : decode cX12_oneStep 102 = .ok (.iload 4, 2) := by decide +kernel
theorem dX12_oneStep_104 : decode cX12_oneStep 104 = .ok (.bipush 6, 2) := by decide +kernel
theorem dX12_oneStep_106 : decode cX12_oneStep 106 = .ok (.invokevirtual 220, 3) := by decide +kernel
theorem dX12_oneStep_109 : decode cX12_oneStep 109 = .ok (.iconst (-1), 1) := by decide +kernel
theorem dX12_oneStep_110 : decode cX12_oneStep 110 = .ok (.iastore, 1) := by decide +kernel
theorem dX12_oneStep_111 : decode cX12_oneStep 111 = .ok (.aload_n 0, 1) := by decide +kernel
theorem dX12_oneStep_112 : decode cX12_oneStep 112 = .ok (.getfield 9, 3) := by decide +kernel
theorem dX12_oneStep_115 : decode cX12_oneStep 115 = .ok (.aload_n 0, 1) := by decide +kernel
theorem dX12_oneStep_116 : decode cX12_oneStep 116 = .ok (.iload 4, 2) := by decide +kernel
theorem dX12_oneStep_118 : decode cX12_oneStep 118 = .ok (.bipush 7, 2) := by decide +kernel
theorem dX12_oneStep_120 : decode cX12_oneStep 120 = .ok (.invokevirtual 220, 3) := by decide +kernel
theorem dX12_oneStep_123 : decode cX12_oneStep 123 = .ok (.iload_n 1, 1) := by decide +kernel
theorem dX12_oneStep_124 : decode cX12_oneStep 124 = .ok (.iastore, 1) := by decide +kernel
theorem dX12_oneStep_125 : decode cX12_oneStep 125 = .ok (.aload_n 0, 1) := by decide +kernel
theorem dX12_oneStep_126 : decode cX12_oneStep 126 = .ok (.invokevirtual 171, 3) := by decide +kernel
theorem dX12_oneStep_129 : decode cX12_oneStep 129 = .ok (.iload_n 2, 1) := by decide +kernel
theorem dX12_oneStep_130 : decode cX12_oneStep 130 = .ok (.ifCond .eq 9, 3) := by decide +kernel
theorem dX12_oneStep_133 : decode cX12_oneStep 133 = .ok (.iload_n 2, 1) := by decide +kernel
theorem dX12_oneStep_134 : decode cX12_oneStep 134 = .ok (.bipush 10, 2) := by decide +kernel
theorem dX12_oneStep_136 : decode cX12_oneStep 136 = .ok (.if_icmp .ne 19, 3) := by decide +kernel
theorem dX12_oneStep_139 : decode cX12_oneStep 139 = .ok (.aload_n 0, 1) := by decide +kernel
theorem dX12_oneStep_140 : decode cX12_oneStep 140 = .ok (.getfield 9, 3) := by decide +kernel
theorem dX12_oneStep_143 : decode cX12_oneStep 143 = .ok (.aload_n 0, 1) := by decide +kernel
theorem dX12_oneStep_144 : decode cX12_oneStep 144 = .ok (.iload 4, 2) := by decide +kernel
theorem dX12_oneStep_146 : decode cX12_oneStep 146 = .ok (.iconst 1, 1) := by decide +kernel
theorem dX12_oneStep_147 : decode cX12_oneStep 147 = .ok (.invokevirtual 220, 3) := by decide +kernel
theorem dX12_oneStep_150 : decode cX12_oneStep 150 = .ok (.aload_n 0, 1) := by decide +kernel
theorem dX12_oneStep_151 : decode cX12_oneStep 151 = .ok (.invokevirtual 179, 3) := by decide +kernel
theorem dX12_oneStep_154 : decode cX12_oneStep 154 = .ok (.iastore, 1) := by decide +kernel
theorem dX12_oneStep_155 : decode cX12_oneStep 155 = .ok (.iload_n 2, 1) := by decide +kernel
theorem dX12_oneStep_156 : decode cX12_oneStep 156 = .ok (.ifCond .ne 19, 3) := by decide +kernel
theorem dX12_oneStep_159 : decode cX12_oneStep 159 = .ok (.aload_n 0, 1) := by decide +kernel
theorem dX12_oneStep_160 : decode cX12_oneStep 160 = .ok (.getfield 9, 3) := by decide +kernel
theorem dX12_oneStep_163 : decode cX12_oneStep 163 = .ok (.aload_n 0, 1) := by decide +kernel
theorem dX12_oneStep_164 : decode cX12_oneStep 164 = .ok (.iload 4, 2) := by decide +kernel
theorem dX12_oneStep_166 : decode cX12_oneStep 166 = .ok (.iconst 2, 1) := by decide +kernel
theorem dX12_oneStep_167 : decode cX12_oneStep 167 = .ok (.invokevirtual 220, 3) := by decide +kernel
theorem dX12_oneStep_170 : decode cX12_oneStep 170 = .ok (.aload_n 0, 1) := by decide +kernel
theorem dX12_oneStep_171 : decode cX12_oneStep 171 = .ok (.invokevirtual 179, 3) := by decide +kernel
theorem dX12_oneStep_174 : decode cX12_oneStep 174 = .ok (.iastore, 1) := by decide +kernel
theorem dX12_oneStep_175 : decode cX12_oneStep 175 = .ok (.iload_n 2, 1) := by decide +kernel
theorem dX12_oneStep_176 : decode cX12_oneStep 176 = .ok (.bipush 7, 2) := by decide +kernel
theorem dX12_oneStep_178 : decode cX12_oneStep 178 = .ok (.if_icmp .eq 15, 3) := by decide +kernel
theorem dX12_oneStep_181 : decode cX12_oneStep 181 = .ok (.iload_n 2, 1) := by decide +kernel
theorem dX12_oneStep_182 : decode cX12_oneStep 182 = .ok (.bipush 8, 2) := by decide +kernel
theorem dX12_oneStep_184 : decode cX12_oneStep 184 = .ok (.if_icmp .eq 9, 3) := by decide +kernel
theorem dX12_oneStep_187 : decode cX12_oneStep 187 = .ok (.iload_n 2, 1) := by decide +kernel
theorem dX12_oneStep_188 : decode cX12_oneStep 188 = .ok (.bipush 9, 2) := by decide +kernel
theorem dX12_oneStep_190 : decode cX12_oneStep 190 = .ok (.if_icmp .ne 9, 3) := by decide +kernel
theorem dX12_oneStep_193 : decode cX12_oneStep 193 = .ok (.aload_n 0, 1) := by decide +kernel
theorem dX12_oneStep_194 : decode cX12_oneStep 194 = .ok (.iload 4, 2) := by decide +kernel
theorem dX12_oneStep_196 : decode cX12_oneStep 196 = .ok (.invokevirtual 239, 3) := by decide +kernel
theorem dX12_oneStep_199 : decode cX12_oneStep 199 = .ok (.iload_n 2, 1) := by decide +kernel
theorem dX12_oneStep_200 : decode cX12_oneStep 200 = .ok (.bipush 8, 2) := by decide +kernel
theorem dX12_oneStep_202 : decode cX12_oneStep 202 = .ok (.if_icmp .lt 21, 3) := by decide +kernel
theorem dX12_oneStep_205 : decode cX12_oneStep 205 = .ok (.aload_n 0, 1) := by decide +kernel
theorem dX12_oneStep_206 : decode cX12_oneStep 206 = .ok (.getfield 9, 3) := by decide +kernel
theorem dX12_oneStep_209 : decode cX12_oneStep 209 = .ok (.aload_n 0, 1) := by decide +kernel
theorem dX12_oneStep_210 : decode cX12_oneStep 210 = .ok (.iload 4, 2) := by decide +kernel
theorem dX12_oneStep_212 : decode cX12_oneStep 212 = .ok (.iconst 4, 1) := by decide +kernel
theorem dX12_oneStep_213 : decode cX12_oneStep 213 = .ok (.invokevirtual 220, 3) := by decide +kernel
theorem dX12_oneStep_216 : decode cX12_oneStep 216 = .ok (.aload_n 0, 1) := by decide +kernel
theorem dX12_oneStep_217 : decode cX12_oneStep 217 = .ok (.iload 4, 2) := by decide +kernel
theorem dX12_oneStep_219 : decode cX12_oneStep 219 = .ok (.invokevirtual 242, 3) := by decide +kernel
theorem dX12_oneStep_222 : decode cX12_oneStep 222 = .ok (.iastore, 1) := by decide +kernel
theorem dX12_oneStep_223 : decode cX12_oneStep 223 = .ok (.iload_n 2, 1) := by decide +kernel
theorem dX12_oneStep_224 : decode cX12_oneStep 224 = .ok (.bipush 8, 2) := by decide +kernel
theorem dX12_oneStep_226 : decode cX12_oneStep 226 = .ok (.if_icmp .ne 41, 3) := by decide +kernel
theorem dX12_oneStep_229 : decode cX12_oneStep 229 = .ok (.aload_n 0, 1) := by decide +kernel
theorem dX12_oneStep_230 : decode cX12_oneStep 230 = .ok (.getfield 164, 3) := by decide +kernel
theorem dX12_oneStep_233 : decode cX12_oneStep 233 = .ok (.ifCond .ne 34, 3) := by decide +kernel
theorem dX12_oneStep_236 : decode cX12_oneStep 236 = .ok (.aload_n 0, 1) := by decide +kernel
theorem dX12_oneStep_237 : decode cX12_oneStep 237 = .ok (.ldc 245, 2) := by decide +kernel
theorem dX12_oneStep_239 : decode cX12_oneStep 239 = .ok (.invokevirtual 223, 3) := by decide +kernel
theorem dX12_oneStep_242 : decode cX12_oneStep 242 = .ok (.ifCond .eq 25, 3) := by decide +kernel
theorem dX12_oneStep_245 : decode cX12_oneStep 245 = .ok (.aload_n 0, 1) := by decide +kernel
theorem dX12_oneStep_246 : decode cX12_oneStep 246 = .ok (.invokevirtual 171, 3) := by decide +kernel
theorem dX12_oneStep_249 : decode cX12_oneStep 249 = .ok (.aload_n 0, 1) := by decide +kernel
theorem dX12_oneStep_250 : decode cX12_oneStep 250 = .ok (.getfield 9, 3) := by decide +kernel
theorem dX12_oneStep_253 : decode cX12_oneStep 253 = .ok (.aload_n 0, 1) := by decide +kernel
theorem dX12_oneStep_254 : decode cX12_oneStep 254 = .ok (.iload 4, 2) := by decide +kernel
theorem dX12_oneStep_256 : decode cX12_oneStep 256 = .ok (.iconst 5, 1) := by decide +kernel
theorem dX12_oneStep_257 : decode cX12_oneStep 257 = .ok (.invokevirtual 220, 3) := by decide +kernel
theorem dX12_oneStep_260 : decode cX12_oneStep 260 = .ok (.aload_n 0, 1) := by decide +kernel
theorem dX12_oneStep_261 : decode cX12_oneStep 261 = .ok (.iload 4, 2) := by decide +kernel
theorem dX12_oneStep_263 : decode cX12_oneStep 263 = .ok (.invokevirtual 242, 3) := by decide +kernel
theorem dX12_oneStep_266 : decode cX12_oneStep 266 = .ok (.iastore, 1) := by decide +kernel
theorem dX12_oneStep_267 : decode cX12_oneStep 267 = .ok (.iload 4, 2) := by decide +kernel
theorem dX12_oneStep_269 : decode cX12_oneStep 269 = .ok (.ireturn, 1) := by decide +kernel
theorem dX12_program_0 : decode cX12_program 0 = .ok (.iload_n 1, 1) := by decide +kernel
theorem dX12_program_1 : decode cX12_program 1 = .ok (.iconst 0, 1) := by decide +kernel
theorem dX12_program_2 : decode cX12_program 2 = .ok (.iconst 5, 1) := by decide +kernel
theorem dX12_program_3 : decode cX12_program 3 = .ok (.invokestatic 82, 3) := by decide +kernel
theorem dX12_program_6 : decode cX12_program 6 = .ok (.ifCond .ne 11, 3) := by decide +kernel
theorem dX12_program_9 : decode cX12_program 9 = .ok (.aload_n 0, 1) := by decide +kernel
theorem dX12_program_10 : decode cX12_program 10 = .ok (.iconst 0, 1) := by decide +kernel
theorem dX12_program_11 : decode cX12_program 11 = .ok (.putfield 138, 3) := by decide +kernel
theorem dX12_program_14 : decode cX12_program 14 = .ok (.ldc 86, 2) := by decide +kernel
theorem dX12_program_16 : decode cX12_program 16 = .ok (.ireturn, 1) := by decide +kernel
theorem dX12_program_17 : decode cX12_program 17 = .ok (.aload_n 0, 1) := by decide +kernel
theorem dX12_program_18 : decode cX12_program 18 = .ok (.iload_n 1, 1) := by decide +kernel
theorem dX12_program_19 : decode cX12_program 19 = .ok (.putfield 174, 3) := by decide +kernel
theorem dX12_program_22 : decode cX12_program 22 = .ok (.iconst 0, 1) := by decide +kernel
theorem dX12_program_23 : decode cX12_program 23 = .ok (.istore_n 2, 1) := by decide +kernel
theorem dX12_program_24 : decode cX12_program 24 = .ok (.iload_n 2, 1) := by decide +kernel
theorem dX12_program_25 : decode cX12_program 25 = .ok (.aload_n 0, 1) := by decide +kernel
theorem dX12_program_26 : decode cX12_program 26 = .ok (.getfield 9, 3) := by decide +kernel
theorem dX12_program_29 : decode cX12_program 29 = .ok (.bipush 16, 2) := by decide +kernel
theorem dX12_program_31 : decode cX12_program 31 = .ok (.iaload, 1) := by decide +kernel
theorem dX12_program_32 : decode cX12_program 32 = .ok (.if_icmp .ge 50, 3) := by decide +kernel
theorem dX12_program_35 : decode cX12_program 35 = .ok (.aload_n 0, 1) := by decide +kernel
theorem dX12_program_36 : decode cX12_program 36 = .ok (.getfield 9, 3) := by decide +kernel
theorem dX12_program_39 : decode cX12_program 39 = .ok (.iload_n 2, 1) := by decide +kernel
theorem dX12_program_40 : decode cX12_program 40 = .ok (.bipush 6, 2) := by decide +kernel
theorem dX12_program_42 : decode cX12_program 42 = .ok (.invokestatic 87, 3) := by decide +kernel
theorem dX12_program_45 : decode cX12_program 45 = .ok (.aload_n 0, 1) := by decide +kernel
theorem dX12_program_46 : decode cX12_program 46 = .ok (.getfield 9, 3) := by decide +kernel
theorem dX12_program_49 : decode cX12_program 49 = .ok (.iload_n 2, 1) := by decide +kernel
theorem dX12_program_50 : decode cX12_program 50 = .ok (.bipush 6, 2) := by decide +kernel
theorem dX12_program_52 : decode cX12_program 52 = .ok (.invokestatic 87, 3) := by decide +kernel
theorem dX12_program_55 : decode cX12_program 55 = .ok (.iaload, 1) := by decide +kernel
theorem dX12_program_56 : decode cX12_program 56 = .ok (.iload_n 1, 1) := by decide +kernel
theorem dX12_program_57 : decode cX12_program 57 = .ok (.if_icmp .ne 7, 3) := by decide +kernel
theorem dX12_program_60 : decode cX12_program 60 = .ok (.iconst (-1), 1) := by decide +kernel
theorem dX12_program_61 : decode cX12_program 61 = .ok (.goto 14, 3) := by decide +kernel
theorem dX12_program_64 : decode cX12_program 64 = .ok (.aload_n 0, 1) := by decide +kernel
theorem dX12_program_65 : decode cX12_program 65 = .ok (.getfield 9, 3) := by decide +kernel
theorem dX12_program_68 : decode cX12_program 68 = .ok (.iload_n 2, 1) := by decide +kernel
theorem dX12_program_69 : decode cX12_program 69 = .ok (.bipush 6, 2) := by decide +kernel
theorem dX12_program_71 : decode cX12_program 71 = .ok (.invokestatic 87, 3) := by decide +kernel
theorem dX12_program_74 : decode cX12_program 74 = .ok (.iaload, 1) := by decide +kernel
theorem dX12_program_75 : decode cX12_program 75 = .ok (.iastore, 1) := by decide +kernel
theorem dX12_program_76 : decode cX12_program 76 = .ok (.iinc 2 1, 3) := by decide +kernel
theorem dX12_program_79 : decode cX12_program 79 = .ok (.goto (-55), 3) := by decide +kernel
theorem dX12_program_82 : decode cX12_program 82 = .ok (.sipush 1226, 3) := by decide +kernel
theorem dX12_program_85 : decode cX12_program 85 = .ok (.sipush 418, 3) := by decide +kernel
theorem dX12_program_88 : decode cX12_program 88 = .ok (.iload_n 1, 1) := by decide +kernel
theorem dX12_program_89 : decode cX12_program 89 = .ok (.imul, 1) := by decide +kernel
theorem dX12_program_90 : decode cX12_program 90 = .ok (.iadd, 1) := by decide +kernel
theorem dX12_program_91 : decode cX12_program 91 = .ok (.istore_n 2, 1) := by decide +kernel
theorem dX12_program_92 : decode cX12_program 92 = .ok (.aload_n 0, 1) := by decide +kernel
theorem dX12_program_93 : decode cX12_program 93 = .ok (.getfield 9, 3) := by decide +kernel
theorem dX12_program_96 : decode cX12_program 96 = .ok (.iload_n 2, 1) := by decide +kernel
theorem dX12_program_97 : decode cX12_program 97 = .ok (.iconst 0, 1) := by decide +kernel
theorem dX12_program_98 : decode cX12_program 98 = .ok (.iastore, 1) := by decide +kernel
theorem dX12_program_99 : decode cX12_program 99 = .ok (.aload_n 0, 1) := by decide +kernel
theorem dX12_program_100 : decode cX12_program 100 = .ok (.getfield 9, 3) := by decide +kernel
theorem dX12_program_103 : decode cX12_program 103 = .ok (.iload_n 2, 1) := by decide +kernel
theorem dX12_program_104 : decode cX12_program 104 = .ok (.sipush 257, 3) := by decide +kernel
theorem dX12_program_107 : decode cX12_program 107 = .ok (.iadd, 1) := by decide +kernel
theorem dX12_program_108 : decode cX12_program 108 = .ok (.iconst 0, 1) := by decide +kernel
theorem dX12_program_109 : decode cX12_program 109 = .ok (.iastore, 1) := by decide +kernel
theorem dX12_program_110 : decode cX12_program 110 = .ok (.aload_n 0, 1) := by decide +kernel
theorem dX12_program_111 : decode cX12_program 111 = .ok (.iconst 0, 1) := by decide +kernel
theorem dX12_program_112 : decode cX12_program 112 = .ok (.putfield 145, 3) := by decide +kernel
theorem dX12_program_115 : decode cX12_program 115 = .ok (.aload_n 0, 1) := by decide +kernel
theorem dX12_program_116 : decode cX12_program 116 = .ok (.iconst 0, 1) := by decide +kernel
theorem dX12_program_117 : decode cX12_program 117 = .ok (.putfield 142, 3) := by decide +kernel
theorem dX12_program_120 : decode cX12_program 120 = .ok (.aload_n 0, 1) := by decide +kernel
theorem dX12_program_121 : decode cX12_program 121 = .ok (.iconst 0, 1) := by decide +kernel
theorem dX12_program_122 : decode cX12_program 122 = .ok (.putfield 164, 3) := by decide +kernel
theorem dX12_program_125 : decode cX12_program 125 = .ok (.aload_n 0, 1) := by decide +kernel
theorem dX12_program_126 : decode cX12_program 126 = .ok (.iconst 0, 1) := by decide +kernel
theorem dX12_program_127 : decode cX12_program 127 = .ok (.putfield 227, 3) := by decide +kernel
theorem dX12_program_130 : decode cX12_program 130 = .ok (.aload_n 0, 1) := by decide +kernel
theorem dX12_program_131 : decode cX12_program 131 = .ok (.iconst 0, 1) := by decide +kernel
theorem dX12_program_132 : decode cX12_program 132 = .ok (.putfield 196, 3) := by decide +kernel
theorem dX12_program_135 : decode cX12_program 135 = .ok (.aload_n 0, 1) := by decide +kernel
theorem dX12_program_136 : decode cX12_program 136 = .ok (.iconst 0, 1) := by decide +kernel
theorem dX12_program_137 : decode cX12_program 137 = .ok (.putfield 190, 3) := by decide +kernel
theorem dX12_program_140 : decode cX12_program 140 = .ok (.aload_n 0, 1) := by decide +kernel
theorem dX12_program_141 : decode cX12_program 141 = .ok (.invokevirtual 171, 3) := by decide +kernel
theorem dX12_program_144 : decode cX12_program 144 = .ok (.aload_n 0, 1) := by decide +kernel
theorem dX12_program_145 : decode cX12_program 145 = .ok (.iconst (-1), 1) := by decide +kernel
theorem dX12_program_146 : decode cX12_program 146 = .ok (.invokevirtual 230, 3) := by decide +kernel
theorem dX12_program_149 : decode cX12_program 149 = .ok (.istore_n 3, 1) := by decide +kernel
theorem dX12_program_150 : decode cX12_program 150 = .ok (.aload_n 0, 1) := by decide +kernel
theorem dX12_program_151 : decode cX12_program 151 = .ok (.aload_n 0, 1) := by decide +kernel
theorem dX12_program_152 : decode cX12_program 152 = .ok (.getfield 164, 3) := by decide +kernel
theorem dX12_program_155 : decode cX12_program 155 = .ok (.ifCond .ne 10, 3) := by decide +kernel
theorem dX12_program_158 : decode cX12_program 158 = .ok (.aload_n 0, 1) := by decide +kernel
theorem dX12_program_159 : decode cX12_program 159 = .ok (.getfield 142, 3) := by decide +kernel
theorem dX12_program_162 : decode cX12_program 162 = .ok (.ifCond .eq 7, 3) := by decide +kernel
theorem dX12_program_165 : decode cX12_program 165 = .ok (.iconst 1, 1) := by decide +kernel
theorem dX12_program_166 : decode cX12_program 166 = .ok (.goto 4, 3) := by decide +kernel
theorem dX12_program_169 : decode cX12_program 169 = .ok (.iconst 0, 1) := by decide +kernel
theorem dX12_program_170 : decode cX12_program 170 = .ok (.putfield 164, 3) := by decide +kernel
theorem dX12_program_173 : decode cX12_program 173 = .ok (.aload_n 0, 1) := by decide +kernel
theorem dX12_program_174 : decode cX12_program 174 = .ok (.iconst 0, 1) := by decide +kernel
theorem dX12_program_175 : decode cX12_program 175 = .ok (.putfield 138, 3) := by decide +kernel
theorem dX12_program_178 : decode cX12_program 178 = .ok (.aload_n 0, 1) := by decide +kernel
theorem dX12_program_179 : decode cX12_program 179 = .ok (.getfield 164, 3) := by decide +kernel
theorem dX12_program_182 : decode cX12_program 182 = .ok (.ifCond .eq 18, 3) := by decide +kernel
theorem dX12_program_185 : decode cX12_program 185 = .ok (.aload_n 0, 1) := by decide +kernel
theorem dX12_program_186 : decode cX12_program 186 = .ok (.getfield 9, 3) := by decide +kernel
theorem dX12_program_189 : decode cX12_program 189 = .ok (.iload_n 2, 1) := by decide +kernel
theorem dX12_program_190 : decode cX12_program 190 = .ok (.iconst 0, 1) := by decide +kernel
theorem dX12_program_191 : decode cX12_program 191 = .ok (.iastore, 1) := by decide +kernel
theorem dX12_program_192 : decode cX12_program 192 = .ok (.bipush (-100), 2) := by decide +kernel
theorem dX12_program_194 : decode cX12_program 194 = .ok (.aload_n 0, 1) := by decide +kernel
theorem dX12_program_195 : decode cX12_program 195 = .ok (.getfield 148, 3) := by decide +kernel
theorem dX12_program_198 : decode cX12_program 198 = .ok (.isub, 1) := by decide +kernel
theorem dX12_program_199 : decode cX12_program 199 = .ok (.ireturn, 1) := by decide +kernel
theorem dX12_program_200 : decode cX12_program 200 = .ok (.aload_n 0, 1) := by decide +kernel
theorem dX12_program_201 : decode cX12_program 201 = .ok (.getfield 9, 3) := by decide +kernel
theorem dX12_program_204 : decode cX12_program 204 = .ok (.iload_n 2, 1) := by decide +kernel
theorem dX12_program_205 : decode cX12_program 205 = .ok (.iaload, 1) := by decide +kernel
theorem dX12_program_206 : decode cX12_program 206 = .ok (.ireturn, 1) := by decide +kernel
theorem dX12_ofOrder_0 : decode cX12_ofOrder 0 = .ok (.sipush 830, 3) := by decide +kernel
theorem dX12_ofOrder_3 : decode cX12_ofOrder 3 = .ok (.iconst 3, 1) := by decide +kernel
theorem dX12_ofOrder_4 : decode cX12_ofOrder 4 = .ok (.iload_n 0, 1) := by decide +kernel
theorem dX12_ofOrder_5 : decode cX12_ofOrder 5 = .ok (.imul, 1) := by decide +kernel
theorem dX12_ofOrder_6 : decode cX12_ofOrder 6 = .ok (.iadd, 1) := by decide +kernel
theorem dX12_ofOrder_7 : decode cX12_ofOrder 7 = .ok (.iload_n 1, 1) := by decide +kernel
theorem dX12_ofOrder_8 : decode cX12_ofOrder 8 = .ok (.iadd, 1) := by decide +kernel
theorem dX12_ofOrder_9 : decode cX12_ofOrder 9 = .ok (.ireturn, 1) := by decide +kernel
theorem dX12_isEmpty_0 : decode cX12_isEmpty 0 = .ok (.aload_n 0, 1) := by decide +kernel
theorem dX12_isEmpty_1 : decode cX12_isEmpty 1 = .ok (.getfield 9, 3) := by decide +kernel
theorem dX12_isEmpty_4 : decode cX12_isEmpty 4 = .ok (.sipush 1226, 3) := by decide +kernel
theorem dX12_isEmpty_7 : decode cX12_isEmpty 7 = .ok (.sipush 418, 3) := by decide +kernel
theorem dX12_isEmpty_10 : decode cX12_isEmpty 10 = .ok (.iload_n 1, 1) := by decide +kernel
theorem dX12_isEmpty_11 : decode cX12_isEmpty 11 = .ok (.imul, 1) := by decide +kernel
theorem dX12_isEmpty_12 : decode cX12_isEmpty 12 = .ok (.iadd, 1) := by decide +kernel
theorem dX12_isEmpty_13 : decode cX12_isEmpty 13 = .ok (.iaload, 1) := by decide +kernel
theorem dX12_isEmpty_14 : decode cX12_isEmpty 14 = .ok (.ifCond .ne 7, 3) := by decide +kernel
theorem dX12_isEmpty_17 : decode cX12_isEmpty 17 = .ok (.iconst 1, 1) := by decide +kernel
theorem dX12_isEmpty_18 : decode cX12_isEmpty 18 = .ok (.goto 4, 3) := by decide +kernel
theorem dX12_isEmpty_21 : decode cX12_isEmpty 21 = .ok (.iconst 0, 1) := by decide +kernel
theorem dX12_isEmpty_22 : decode cX12_isEmpty 22 = .ok (.ireturn, 1) := by decide +kernel
theorem dX12_send_0 : decode cX12_send 0 = .ok (.aload_n 0, 1) := by decide +kernel
theorem dX12_send_1 : decode cX12_send 1 = .ok (.iload_n 1, 1) := by decide +kernel
theorem dX12_send_2 : decode cX12_send 2 = .ok (.invokevirtual 129, 3) := by decide +kernel
theorem dX12_send_5 : decode cX12_send 5 = .ok (.ifCond .eq 12, 3) := by decide +kernel
theorem dX12_send_8 : decode cX12_send 8 = .ok (.iload_n 2, 1) := by decide +kernel
theorem dX12_send_9 : decode cX12_send 9 = .ok (.iconst 0, 1) := by decide +kernel
theorem dX12_send_10 : decode cX12_send 10 = .ok (.iconst 5, 1) := by decide +kernel
theorem dX12_send_11 : decode cX12_send 11 = .ok (.invokestatic 82, 3) := by decide +kernel
theorem dX12_send_14 : decode cX12_send 14 = .ok (.ifCond .ne 6, 3) := by decide +kernel
theorem dX12_send_17 : decode cX12_send 17 = .ok (.ldc 86, 2) := by decide +kernel
theorem dX12_send_19 : decode cX12_send 19 = .ok (.ireturn, 1) := by decide +kernel
theorem dX12_send_20 : decode cX12_send 20 = .ok (.aload_n 0, 1) := by decide +kernel
theorem dX12_send_21 : decode cX12_send 21 = .ok (.iload_n 2, 1) := by decide +kernel
theorem dX12_send_22 : decode cX12_send 22 = .ok (.invokevirtual 247, 3) := by decide +kernel
theorem dX12_send_25 : decode cX12_send 25 = .ok (.ifCond .eq 6, 3) := by decide +kernel
theorem dX12_send_28 : decode cX12_send 28 = .ok (.ldc 99, 2) := by decide +kernel
theorem dX12_send_30 : decode cX12_send 30 = .ok (.ireturn, 1) := by decide +kernel
theorem dX12_send_31 : decode cX12_send 31 = .ok (.aload_n 0, 1) := by decide +kernel
theorem dX12_send_32 : decode cX12_send 32 = .ok (.getfield 9, 3) := by decide +kernel
theorem dX12_send_35 : decode cX12_send 35 = .ok (.bipush 17, 2) := by decide +kernel
theorem dX12_send_37 : decode cX12_send 37 = .ok (.iaload, 1) := by decide +kernel
theorem dX12_send_38 : decode cX12_send 38 = .ok (.istore_n 3, 1) := by decide +kernel
theorem dX12_send_39 : decode cX12_send 39 = .ok (.iload_n 3, 1) := by decide +kernel
theorem dX12_send_40 : decode cX12_send 40 = .ok (.bipush 12, 2) := by decide +kernel
theorem dX12_send_42 : decode cX12_send 42 = .ok (.if_icmp .ne 6, 3) := by decide +kernel
theorem dX12_send_45 : decode cX12_send 45 = .ok (.ldc 121, 2) := by decide +kernel
theorem dX12_send_47 : decode cX12_send 47 = .ok (.ireturn, 1) := by decide +kernel
theorem dX12_send_48 : decode cX12_send 48 = .ok (.aload_n 0, 1) := by decide +kernel
theorem dX12_send_49 : decode cX12_send 49 = .ok (.getfield 9, 3) := by decide +kernel
theorem dX12_send_52 : decode cX12_send 52 = .ok (.iload_n 3, 1) := by decide +kernel
theorem dX12_send_53 : decode cX12_send 53 = .ok (.iconst 0, 1) := by decide +kernel
theorem dX12_send_54 : decode cX12_send 54 = .ok (.invokestatic 250, 3) := by decide +kernel
theorem dX12_send_57 : decode cX12_send 57 = .ok (.iload_n 1, 1) := by decide +kernel
theorem dX12_send_58 : decode cX12_send 58 = .ok (.iastore, 1) := by decide +kernel
theorem dX12_send_59 : decode cX12_send 59 = .ok (.aload_n 0, 1) := by decide +kernel
theorem dX12_send_60 : decode cX12_send 60 = .ok (.getfield 9, 3) := by decide +kernel
theorem dX12_send_63 : decode cX12_send 63 = .ok (.iload_n 3, 1) := by decide +kernel
theorem dX12_send_64 : decode cX12_send 64 = .ok (.iconst 1, 1) := by decide +kernel
theorem dX12_send_65 : decode cX12_send 65 = .ok (.invokestatic 250, 3) := by decide +kernel
theorem dX12_send_68 : decode cX12_send 68 = .ok (.iload_n 2, 1) := by decide +kernel
theorem dX12_send_69 : decode cX12_send 69 = .ok (.iastore, 1) := by decide +kernel
theorem dX12_send_70 : decode cX12_send 70 = .ok (.aload_n 0, 1) := by decide +kernel
theorem dX12_send_71 : decode cX12_send 71 = .ok (.getfield 9, 3) := by decide +kernel
theorem dX12_send_74 : decode cX12_send 74 = .ok (.iload_n 3, 1) := by decide +kernel
theorem dX12_send_75 : decode cX12_send 75 = .ok (.iconst 2, 1) := by decide +kernel
theorem dX12_send_76 : decode cX12_send 76 = .ok (.invokestatic 250, 3) := by decide +kernel
theorem dX12_send_79 : decode cX12_send 79 = .ok (.aload_n 0, 1) := by decide +kernel
theorem dX12_send_80 : decode cX12_send 80 = .ok (.getfield 9, 3) := by decide +kernel
theorem dX12_send_83 : decode cX12_send 83 = .ok (.bipush 7, 2) := by decide +kernel
theorem dX12_send_85 : decode cX12_send 85 = .ok (.iaload, 1) := by decide +kernel
theorem dX12_send_86 : decode cX12_send 86 = .ok (.aload_n 0, 1) := by decide +kernel
theorem dX12_send_87 : decode cX12_send 87 = .ok (.getfield 9, 3) := by decide +kernel
theorem dX12_send_90 : decode cX12_send 90 = .ok (.bipush 6, 2) := by decide +kernel
theorem dX12_send_92 : decode cX12_send 92 = .ok (.iaload, 1) := by decide +kernel
theorem dX12_send_93 : decode cX12_send 93 = .ok (.iadd, 1) := by decide +kernel
theorem dX12_send_94 : decode cX12_send 94 = .ok (.iastore, 1) := by decide +kernel
theorem dX12_send_95 : decode cX12_send 95 = .ok (.aload_n 0, 1) := by decide +kernel
theorem dX12_send_96 : decode cX12_send 96 = .ok (.getfield 9, 3) := by decide +kernel
theorem dX12_send_99 : decode cX12_send 99 = .ok (.bipush 17, 2) := by decide +kernel
theorem dX12_send_101 : decode cX12_send 101 = .ok (.dup2, 1) := by decide +kernel
theorem dX12_send_102 : decode cX12_send 102 = .ok (.iaload, 1) := by decide +kernel
theorem dX12_send_103 : decode cX12_send 103 = .ok (.iconst 1, 1) := by decide +kernel
theorem dX12_send_104 : decode cX12_send 104 = .ok (.iadd, 1) := by decide +kernel
theorem dX12_send_105 : decode cX12_send 105 = .ok (.iastore, 1) := by decide +kernel
theorem dX12_send_106 : decode cX12_send 106 = .ok (.aload_n 0, 1) := by decide +kernel
theorem dX12_send_107 : decode cX12_send 107 = .ok (.getfield 9, 3) := by decide +kernel
theorem dX12_send_110 : decode cX12_send 110 = .ok (.iload_n 3, 1) := by decide +kernel
theorem dX12_send_111 : decode cX12_send 111 = .ok (.iconst 2, 1) := by decide +kernel
theorem dX12_send_112 : decode cX12_send 112 = .ok (.invokestatic 250, 3) := by decide +kernel
theorem dX12_send_115 : decode cX12_send 115 = .ok (.iaload, 1) := by decide +kernel
theorem dX12_send_116 : decode cX12_send 116 = .ok (.ireturn, 1) := by decide +kernel
theorem dX12_order_0 : decode cX12_order 0 = .ok (.iload_n 1, 1) := by decide +kernel
theorem dX12_order_1 : decode cX12_order 1 = .ok (.ifCond .lt 12, 3) := by decide +kernel
theorem dX12_order_4 : decode cX12_order 4 = .ok (.iload_n 2, 1) := by decide +kernel
theorem dX12_order_5 : decode cX12_order 5 = .ok (.iconst 0, 1) := by decide +kernel
theorem dX12_order_6 : decode cX12_order 6 = .ok (.iconst 2, 1) := by decide +kernel
theorem dX12_order_7 : decode cX12_order 7 = .ok (.invokestatic 82, 3) := by decide +kernel
theorem dX12_order_10 : decode cX12_order 10 = .ok (.ifCond .ne 6, 3) := by decide +kernel
theorem dX12_order_13 : decode cX12_order 13 = .ok (.ldc 86, 2) := by decide +kernel
theorem dX12_order_15 : decode cX12_order 15 = .ok (.ireturn, 1) := by decide +kernel
theorem dX12_order_16 : decode cX12_order 16 = .ok (.iload_n 1, 1) := by decide +kernel
theorem dX12_order_17 : decode cX12_order 17 = .ok (.aload_n 0, 1) := by decide +kernel
theorem dX12_order_18 : decode cX12_order 18 = .ok (.getfield 9, 3) := by decide +kernel
theorem dX12_order_21 : decode cX12_order 21 = .ok (.bipush 17, 2) := by decide +kernel
theorem dX12_order_23 : decode cX12_order 23 = .ok (.iaload, 1) := by decide +kernel
theorem dX12_order_24 : decode cX12_order 24 = .ok (.if_icmp .ge 16, 3) := by decide +kernel
theorem dX12_order_27 : decode cX12_order 27 = .ok (.aload_n 0, 1) := by decide +kernel
theorem dX12_order_28 : decode cX12_order 28 = .ok (.getfield 9, 3) := by decide +kernel
theorem dX12_order_31 : decode cX12_order 31 = .ok (.iload_n 1, 1) := by decide +kernel
theorem dX12_order_32 : decode cX12_order 32 = .ok (.iload_n 2, 1) := by decide +kernel
theorem dX12_order_33 : decode cX12_order 33 = .ok (.invokestatic 250, 3) := by decide +kernel
theorem dX12_order_36 : decode cX12_order 36 = .ok (.iaload, 1) := by decide +kernel
theorem dX12_order_37 : decode cX12_order 37 = .ok (.goto 5, 3) := by decide +kernel
theorem dX12_order_40 : decode cX12_order 40 = .ok (.ldc 100, 2) := by decide +kernel
theorem dX12_order_42 : decode cX12_order 42 = .ok (.ireturn, 1) := by decide +kernel
theorem dX12_begin_0 : decode cX12_begin 0 = .ok (.aload_n 0, 1) := by decide +kernel
theorem dX12_begin_1 : decode cX12_begin 1 = .ok (.getfield 9, 3) := by decide +kernel
theorem dX12_begin_4 : decode cX12_begin 4 = .ok (.iload_n 1, 1) := by decide +kernel
theorem dX12_begin_5 : decode cX12_begin 5 = .ok (.bipush 6, 2) := by decide +kernel
theorem dX12_begin_7 : decode cX12_begin 7 = .ok (.invokestatic 87, 3) := by decide +kernel
theorem dX12_begin_10 : decode cX12_begin 10 = .ok (.aload_n 0, 1) := by decide +kernel
theorem dX12_begin_11 : decode cX12_begin 11 = .ok (.iload_n 2, 1) := by decide +kernel
theorem dX12_begin_12 : decode cX12_begin 12 = .ok (.invokevirtual 247, 3) := by decide +kernel
theorem dX12_begin_15 : decode cX12_begin 15 = .ok (.ifCond .eq 7, 3) := by decide +kernel
theorem dX12_begin_18 : decode cX12_begin 18 = .ok (.iconst (-1), 1) := by decide +kernel
theorem dX12_begin_19 : decode cX12_begin 19 = .ok (.goto 4, 3) := by decide +kernel
theorem dX12_begin_22 : decode cX12_begin 22 = .ok (.iload_n 2, 1) := by decide +kernel
theorem dX12_begin_23 : decode cX12_begin 23 = .ok (.iastore, 1) := by decide +kernel
theorem dX12_begin_24 : decode cX12_begin 24 = .ok (.aload_n 0, 1) := by decide +kernel
theorem dX12_begin_25 : decode cX12_begin 25 = .ok (.getfield 9, 3) := by decide +kernel
theorem dX12_begin_28 : decode cX12_begin 28 = .ok (.iload_n 1, 1) := by decide +kernel
theorem dX12_begin_29 : decode cX12_begin 29 = .ok (.bipush 7, 2) := by decide +kernel
theorem dX12_begin_31 : decode cX12_begin 31 = .ok (.invokestatic 87, 3) := by decide +kernel
theorem dX12_begin_34 : decode cX12_begin 34 = .ok (.iconst 0, 1) := by decide +kernel
theorem dX12_begin_35 : decode cX12_begin 35 = .ok (.iastore, 1) := by decide +kernel
theorem dX12_begin_36 : decode cX12_begin 36 = .ok (.iconst 0, 1) := by decide +kernel
theorem dX12_begin_37 : decode cX12_begin 37 = .ok (.istore_n 3, 1) := by decide +kernel
theorem dX12_begin_38 : decode cX12_begin 38 = .ok (.iload_n 3, 1) := by decide +kernel
theorem dX12_begin_39 : decode cX12_begin 39 = .ok (.bipush 32, 2) := by decide +kernel
theorem dX12_begin_41 : decode cX12_begin 41 = .ok (.if_icmp .ge 23, 3) := by decide +kernel
theorem dX12_begin_44 : decode cX12_begin 44 = .ok (.aload_n 0, 1) := by decide +kernel
theorem dX12_begin_45 : decode cX12_begin 45 = .ok (.getfield 9, 3) := by decide +kernel
theorem dX12_begin_48 : decode cX12_begin 48 = .ok (.iload_n 1, 1) := by decide +kernel
theorem dX12_begin_49 : decode cX12_begin 49 = .ok (.bipush 8, 2) := by decide +kernel
theorem dX12_begin_51 : decode cX12_begin 51 = .ok (.iload_n 3, 1) := by decide +kernel
theorem dX12_begin_52 : decode cX12_begin 52 = .ok (.iadd, 1) := by decide +kernel
theorem dX12_begin_53 : decode cX12_begin 53 = .ok (.invokestatic 87, 3) := by decide +kernel
theorem dX12_begin_56 : decode cX12_begin 56 = .ok (.iconst (-1), 1) := by decide +kernel
theorem dX12_begin_57 : decode cX12_begin 57 = .ok (.iastore, 1) := by decide +kernel
theorem dX12_begin_58 : decode cX12_begin 58 = .ok (.iinc 3 1, 3) := by decide +kernel
theorem dX12_begin_61 : decode cX12_begin 61 = .ok (.goto (-23), 3) := by decide +kernel
theorem dX12_begin_64 : decode cX12_begin 64 = .ok (.return_, 1) := by decide +kernel
theorem dX12_ordersCome_0 : decode cX12_ordersCome 0 = .ok (.iconst 0, 1) := by decide +kernel
theorem dX12_ordersCome_1 : decode cX12_ordersCome 1 = .ok (.istore_n 1, 1) := by decide +kernel
theorem dX12_ordersCome_2 : decode cX12_ordersCome 2 = .ok (.iconst 0, 1) := by decide +kernel
theorem dX12_ordersCome_3 : decode cX12_ordersCome 3 = .ok (.istore_n 2, 1) := by decide +kernel
theorem dX12_ordersCome_4 : decode cX12_ordersCome 4 = .ok (.iload_n 2, 1) := by decide +kernel
theorem dX12_ordersCome_5 : decode cX12_ordersCome 5 = .ok (.aload_n 0, 1) := by decide +kernel
theorem dX12_ordersCome_6 : decode cX12_ordersCome 6 = .ok (.getfield 9, 3) := by decide +kernel
theorem dX12_ordersCome_9 : decode cX12_ordersCome 9 = .ok (.bipush 17, 2) := by decide +kernel
theorem dX12_ordersCome_11 : decode cX12_ordersCome 11 = .ok (.iaload, 1) := by decide +kernel
theorem dX12_ordersCome_12 : decode cX12_ordersCome 12 = .ok (.if_icmp .ge 92, 3) := by decide +kernel
theorem dX12_ordersCome_15 : decode cX12_ordersCome 15 = .ok (.aload_n 0, 1) := by decide +kernel
theorem dX12_ordersCome_16 : decode cX12_ordersCome 16 = .ok (.getfield 9, 3) := by decide +kernel
theorem dX12_ordersCome_19 : decode cX12_ordersCome 19 = .ok (.iload_n 2, 1) := by decide +kernel
theorem dX12_ordersCome_20 : decode cX12_ordersCome 20 = .ok (.iconst 2, 1) := by decide +kernel
theorem dX12_ordersCome_21 : decode cX12_ordersCome 21 = .ok (.invokestatic 250, 3) := by decide +kernel
theorem dX12_ordersCome_24 : decode cX12_ordersCome 24 = .ok (.iaload, 1) := by decide +kernel
theorem dX12_ordersCome_25 : decode cX12_ordersCome 25 = .ok (.aload_n 0, 1) := by decide +kernel
theorem dX12_ordersCome_26 : decode cX12_ordersCome 26 = .ok (.getfield 9, 3) := by decide +kernel
theorem dX12_ordersCome_29 : decode cX12_ordersCome 29 = .ok (.bipush 7, 2) := by decide +kernel
theorem dX12_ordersCome_31 : decode cX12_ordersCome 31 = .ok (.iaload, 1) := by decide +kernel
theorem dX12_ordersCome_32 : decode cX12_ordersCome 32 = .ok (.if_icmp .ne 30, 3) := by decide +kernel
theorem dX12_ordersCome_35 : decode cX12_ordersCome 35 = .ok (.aload_n 0, 1) := by decide +kernel
theorem dX12_ordersCome_36 : decode cX12_ordersCome 36 = .ok (.aload_n 0, 1) := by decide +kernel
theorem dX12_ordersCome_37 : decode cX12_ordersCome 37 = .ok (.getfield 9, 3) := by decide +kernel
theorem dX12_ordersCome_40 : decode cX12_ordersCome 40 = .ok (.iload_n 2, 1) := by decide +kernel
theorem dX12_ordersCome_41 : decode cX12_ordersCome 41 = .ok (.iconst 0, 1) := by decide +kernel
theorem dX12_ordersCome_42 : decode cX12_ordersCome 42 = .ok (.invokestatic 250, 3) := by decide +kernel
theorem dX12_ordersCome_45 : decode cX12_ordersCome 45 = .ok (.iaload, 1) := by decide +kernel
theorem dX12_ordersCome_46 : decode cX12_ordersCome 46 = .ok (.aload_n 0, 1) := by decide +kernel
theorem dX12_ordersCome_47 : decode cX12_ordersCome 47 = .ok (.getfield 9, 3) := by decide +kernel
theorem dX12_ordersCome_50 : decode cX12_ordersCome 50 = .ok (.iload_n 2, 1) := by decide +kernel
theorem dX12_ordersCome_51 : decode cX12_ordersCome 51 = .ok (.iconst 1, 1) := by decide +kernel
theorem dX12_ordersCome_52 : decode cX12_ordersCome 52 = .ok (.invokestatic 250, 3) := by decide +kernel
theorem dX12_ordersCome_55 : decode cX12_ordersCome 55 = .ok (.iaload, 1) := by decide +kernel
theorem dX12_ordersCome_56 : decode cX12_ordersCome 56 = .ok (.invokevirtual 253, 3) := by decide +kernel
theorem dX12_ordersCome_59 : decode cX12_ordersCome 59 = .ok (.goto 39, 3) := by decide +kernel
theorem dX12_ordersCome_62 : decode cX12_ordersCome 62 = .ok (.iconst 0, 1) := by decide +kernel
theorem dX12_ordersCome_63 : decode cX12_ordersCome 63 = .ok (.istore_n 3, 1) := by decide +kernel
theorem dX12_ordersCome_64 : decode cX12_ordersCome 64 = .ok (.iload_n 3, 1) := by decide +kernel
theorem dX12_ordersCome_65 : decode cX12_ordersCome 65 = .ok (.iconst 3, 1) := by decide +kernel
theorem dX12_ordersCome_66 : decode cX12_ordersCome 66 = .ok (.if_icmp .ge 29, 3) := by decide +kernel
theorem dX12_ordersCome_69 : decode cX12_ordersCome 69 = .ok (.aload_n 0, 1) := by decide +kernel
theorem dX12_ordersCome_70 : decode cX12_ordersCome 70 = .ok (.getfield 9, 3) := by decide +kernel
theorem dX12_ordersCome_73 : decode cX12_ordersCome 73 = .ok (.iload_n 1, 1) := by decide +kernel
theorem dX12_ordersCome_74 : decode cX12_ordersCome 74 = .ok (.iload_n 3, 1) := by decide +kernel
theorem dX12_ordersCome_75 : decode cX12_ordersCome 75 = .ok (.invokestatic 250, 3) := by decide +kernel
theorem dX12_ordersCome_78 : decode cX12_ordersCome 78 = .ok (.aload_n 0, 1) := by decide +kernel
theorem dX12_ordersCome_79 : decode cX12_ordersCome 79 = .ok (.getfield 9, 3) := by decide +kernel
theorem dX12_ordersCome_82 : decode cX12_ordersCome 82 = .ok (.iload_n 2, 1) := by decide +kernel
theorem dX12_ordersCome_83 : decode cX12_ordersCome 83 = .ok (.iload_n 3, 1) := by decide +kernel
theorem dX12_ordersCome_84 : decode cX12_ordersCome 84 = .ok (.invokestatic 250, 3) := by decide +kernel
theorem dX12_ordersCome_87 : decode cX12_ordersCome 87 = .ok (.iaload, 1) := by decide +kernel
theorem dX12_ordersCome_88 : decode cX12_ordersCome 88 = .ok (.iastore, 1) := by decide +kernel
theorem dX12_ordersCome_89 : decode cX12_ordersCome 89 = .ok (.iinc 3 1, 3) := by decide +kernel
theorem dX12_ordersCome_92 : decode cX12_ordersCome 92 = .ok (.goto (-28), 3) := by decide +kernel
theorem dX12_ordersCome_95 : decode cX12_ordersCome 95 = .ok (.iinc 1 1, 3) := by decide +kernel
theorem dX12_ordersCome_98 : decode cX12_ordersCome 98 = .ok (.iinc 2 1, 3) := by decide +kernel
theorem dX12_ordersCome_101 : decode cX12_ordersCome 101 = .ok (.goto (-97), 3) := by decide +kernel
theorem dX12_ordersCome_104 : decode cX12_ordersCome 104 = .ok (.aload_n 0, 1) := by decide +kernel
theorem dX12_ordersCome_105 : decode cX12_ordersCome 105 = .ok (.getfield 9, 3) := by decide +kernel
theorem dX12_ordersCome_108 : decode cX12_ordersCome 108 = .ok (.bipush 17, 2) := by decide +kernel
theorem dX12_ordersCome_110 : decode cX12_ordersCome 110 = .ok (.iload_n 1, 1) := by decide +kernel
theorem dX12_ordersCome_111 : decode cX12_ordersCome 111 = .ok (.iastore, 1) := by decide +kernel
theorem dX12_ordersCome_112 : decode cX12_ordersCome 112 = .ok (.return_, 1) := by decide +kernel
theorem dX12_reportsCome_0 : decode cX12_reportsCome 0 = .ok (.iconst 0, 1) := by decide +kernel
theorem dX12_reportsCome_1 : decode cX12_reportsCome 1 = .ok (.istore_n 1, 1) := by decide +kernel
theorem dX12_reportsCome_2 : decode cX12_reportsCome 2 = .ok (.iconst 0, 1) := by decide +kernel
theorem dX12_reportsCome_3 : decode cX12_reportsCome 3 = .ok (.istore_n 2, 1) := by decide +kernel
theorem dX12_reportsCome_4 : decode cX12_reportsCome 4 = .ok (.iload_n 2, 1) := by decide +kernel
theorem dX12_reportsCome_5 : decode cX12_reportsCome 5 = .ok (.aload_n 0, 1) := by decide +kernel
theorem dX12_reportsCome_6 : decode cX12_reportsCome 6 = .ok (.getfield 9, 3) := by decide +kernel
theorem dX12_reportsCome_9 : decode cX12_reportsCome 9 = .ok (.bipush 18, 2) := by decide +kernel
theorem dX12_reportsCome_11 : decode cX12_reportsCome 11 = .ok (.iaload, 1) := by decide +kernel
theorem dX12_reportsCome_12 : decode cX12_reportsCome 12 = .ok (.if_icmp .ge 129, 3) := by decide +kernel
theorem dX12_reportsCome_15 : decode cX12_reportsCome 15 = .ok (.sipush 866, 3) := by decide +kernel
theorem dX12_reportsCome_18 : decode cX12_reportsCome 18 = .ok (.bipush 6, 2) := by decide +kernel
theorem dX12_reportsCome_20 : decode cX12_reportsCome 20 = .ok (.iload_n 2, 1) := by decide +kernel
theorem dX12_reportsCome_21 : decode cX12_reportsCome 21 = .ok (.imul, 1) := by decide +kernel
theorem dX12_reportsCome_22 : decode cX12_reportsCome 22 = .ok (.iadd, 1) := by decide +kernel
theorem dX12_reportsCome_23 : decode cX12_reportsCome 23 = .ok (.istore_n 3, 1) := by decide +kernel
theorem dX12_reportsCome_24 : decode cX12_reportsCome 24 = .ok (.aload_n 0, 1) := by decide +kernel
theorem dX12_reportsCome_25 : decode cX12_reportsCome 25 = .ok (.getfield 9, 3) := by decide +kernel
theorem dX12_reportsCome_28 : decode cX12_reportsCome 28 = .ok (.iload_n 3, 1) := by decide +kernel
theorem dX12_reportsCome_29 : decode cX12_reportsCome 29 = .ok (.iconst 5, 1) := by decide +kernel
theorem dX12_reportsCome_30 : decode cX12_reportsCome 30 = .ok (.iadd, 1) := by decide +kernel
theorem dX12_reportsCome_31 : decode cX12_reportsCome 31 = .ok (.iaload, 1) := by decide +kernel
theorem dX12_reportsCome_32 : decode cX12_reportsCome 32 = .ok (.aload_n 0, 1) := by decide +kernel
theorem dX12_reportsCome_33 : decode cX12_reportsCome 33 = .ok (.getfield 9, 3) := by decide +kernel
theorem dX12_reportsCome_36 : decode cX12_reportsCome 36 = .ok (.bipush 7, 2) := by decide +kernel
theorem dX12_reportsCome_38 : decode cX12_reportsCome 38 = .ok (.iaload, 1) := by decide +kernel
theorem dX12_reportsCome_39 : decode cX12_reportsCome 39 = .ok (.if_icmp .ne 52, 3) := by decide +kernel
theorem dX12_reportsCome_42 : decode cX12_reportsCome 42 = .ok (.iconst 0, 1) := by decide +kernel
theorem dX12_reportsCome_43 : decode cX12_reportsCome 43 = .ok (.istore 4, 2) := by decide +kernel
theorem dX12_reportsCome_45 : decode cX12_reportsCome 45 = .ok (.iload 4, 2) := by decide +kernel
theorem dX12_reportsCome_47 : decode cX12_reportsCome 47 = .ok (.iconst 4, 1) := by decide +kernel
theorem dX12_reportsCome_48 : decode cX12_reportsCome 48 = .ok (.if_icmp .ge 40, 3) := by decide +kernel
theorem dX12_reportsCome_51 : decode cX12_reportsCome 51 = .ok (.aload_n 0, 1) := by decide +kernel
theorem dX12_reportsCome_52 : decode cX12_reportsCome 52 = .ok (.getfield 9, 3) := by decide +kernel
theorem dX12_reportsCome_55 : decode cX12_reportsCome 55 = .ok (.sipush 270, 3) := by decide +kernel
theorem dX12_reportsCome_58 : decode cX12_reportsCome 58 = .ok (.iconst 4, 1) := by decide +kernel
theorem dX12_reportsCome_59 : decode cX12_reportsCome 59 = .ok (.aload_n 0, 1) := by decide +kernel
theorem dX12_reportsCome_60 : decode cX12_reportsCome 60 = .ok (.getfield 9, 3) := by decide +kernel
theorem dX12_reportsCome_63 : decode cX12_reportsCome 63 = .ok (.iload_n 3, 1) := by decide +kernel
theorem dX12_reportsCome_64 : decode cX12_reportsCome 64 = .ok (.iaload, 1) := by decide +kernel
theorem dX12_reportsCome_65 : decode cX12_reportsCome 65 = .ok (.imul, 1) := by decide +kernel
theorem dX12_reportsCome_66 : decode cX12_reportsCome 66 = .ok (.iadd, 1) := by decide +kernel
theorem dX12_reportsCome_67 : decode cX12_reportsCome 67 = .ok (.iload 4, 2) := by decide +kernel
theorem dX12_reportsCome_69 : decode cX12_reportsCome 69 = .ok (.iadd, 1) := by decide +kernel
theorem dX12_reportsCome_70 : decode cX12_reportsCome 70 = .ok (.aload_n 0, 1) := by decide +kernel
theorem dX12_reportsCome_71 : decode cX12_reportsCome 71 = .ok (.getfield 9, 3) := by decide +kernel
theorem dX12_reportsCome_74 : decode cX12_reportsCome 74 = .ok (.iload_n 3, 1) := by decide +kernel
theorem dX12_reportsCome_75 : decode cX12_reportsCome 75 = .ok (.iconst 1, 1) := by decide +kernel
theorem dX12_reportsCome_76 : decode cX12_reportsCome 76 = .ok (.iadd, 1) := by decide +kernel
theorem dX12_reportsCome_77 : decode cX12_reportsCome 77 = .ok (.iload 4, 2) := by decide +kernel
theorem dX12_reportsCome_79 : decode cX12_reportsCome 79 = .ok (.iadd, 1) := by decide +kernel
theorem dX12_reportsCome_80 : decode cX12_reportsCome 80 = .ok (.iaload, 1) := by decide +kernel
theorem dX12_reportsCome_81 : decode cX12_reportsCome 81 = .ok (.iastore, 1) := by decide +kernel
theorem dX12_reportsCome_82 : decode cX12_reportsCome 82 = .ok (.iinc 4 1, 3) := by decide +kernel
theorem dX12_reportsCome_85 : decode cX12_reportsCome 85 = .ok (.goto (-40), 3) := by decide +kernel
theorem dX12_reportsCome_88 : decode cX12_reportsCome 88 = .ok (.goto 47, 3) := by decide +kernel
theorem dX12_reportsCome_91 : decode cX12_reportsCome 91 = .ok (.iconst 0, 1) := by decide +kernel
theorem dX12_reportsCome_92 : decode cX12_reportsCome 92 = .ok (.istore 4, 2) := by decide +kernel
theorem dX12_reportsCome_94 : decode cX12_reportsCome 94 = .ok (.iload 4, 2) := by decide +kernel
theorem dX12_reportsCome_96 : decode cX12_reportsCome 96 = .ok (.bipush 6, 2) := by decide +kernel
theorem dX12_reportsCome_98 : decode cX12_reportsCome 98 = .ok (.if_icmp .ge 34, 3) := by decide +kernel
theorem dX12_reportsCome_101 : decode cX12_reportsCome 101 = .ok (.aload_n 0, 1) := by decide +kernel
theorem dX12_reportsCome_102 : decode cX12_reportsCome 102 = .ok (.getfield 9, 3) := by decide +kernel
theorem dX12_reportsCome_105 : decode cX12_reportsCome 105 = .ok (.sipush 866, 3) := by decide +kernel
theorem dX12_reportsCome_108 : decode cX12_reportsCome 108 = .ok (.bipush 6, 2) := by decide +kernel
theorem dX12_reportsCome_110 : decode cX12_reportsCome 110 = .ok (.iload_n 1, 1) := by decide +kernel
theorem dX12_reportsCome_111 : decode cX12_reportsCome 111 = .ok (.imul, 1) := by decide +kernel
theorem dX12_reportsCome_112 : decode cX12_reportsCome 112 = .ok (.iadd, 1) := by decide +kernel
theorem dX12_reportsCome_113 : decode cX12_reportsCome 113 = .ok (.iload 4, 2) := by decide +kernel
theorem dX12_reportsCome_115 : decode cX12_reportsCome 115 = .ok (.iadd, 1) := by decide +kernel
theorem dX12_reportsCome_116 : decode cX12_reportsCome 116 = .ok (.aload_n 0, 1) := by decide +kernel
theorem dX12_reportsCome_117 : decode cX12_reportsCome 117 = .ok (.getfield 9, 3) := by decide +kernel
theorem dX12_reportsCome_120 : decode cX12_reportsCome 120 = .ok (.iload_n 3, 1) := by decide +kernel
theorem dX12_reportsCome_121 : decode cX12_reportsCome 121 = .ok (.iload 4, 2) := by decide +kernel
theorem dX12_reportsCome_123 : decode cX12_reportsCome 123 = .ok (.iadd, 1) := by decide +kernel
theorem dX12_reportsCome_124 : decode cX12_reportsCome 124 = .ok (.iaload, 1) := by decide +kernel
theorem dX12_reportsCome_125 : decode cX12_reportsCome 125 = .ok (.iastore, 1) := by decide +kernel
theorem dX12_reportsCome_126 : decode cX12_reportsCome 126 = .ok (.iinc 4 1, 3) := by decide +kernel
theorem dX12_reportsCome_129 : decode cX12_reportsCome 129 = .ok (.goto (-35), 3) := by decide +kernel
theorem dX12_reportsCome_132 : decode cX12_reportsCome 132 = .ok (.iinc 1 1, 3) := by decide +kernel
theorem dX12_reportsCome_135 : decode cX12_reportsCome 135 = .ok (.iinc 2 1, 3) := by decide +kernel
theorem dX12_reportsCome_138 : decode cX12_reportsCome 138 = .ok (.goto (-134), 3) := by decide +kernel
theorem dX12_reportsCome_141 : decode cX12_reportsCome 141 = .ok (.aload_n 0, 1) := by decide +kernel
theorem dX12_reportsCome_142 : decode cX12_reportsCome 142 = .ok (.getfield 9, 3) := by decide +kernel
theorem dX12_reportsCome_145 : decode cX12_reportsCome 145 = .ok (.bipush 18, 2) := by decide +kernel
theorem dX12_reportsCome_147 : decode cX12_reportsCome 147 = .ok (.iload_n 1, 1) := by decide +kernel
theorem dX12_reportsCome_148 : decode cX12_reportsCome 148 = .ok (.iastore, 1) := by decide +kernel
theorem dX12_reportsCome_149 : decode cX12_reportsCome 149 = .ok (.return_, 1) := by decide +kernel
theorem dX12_powerComes_0 : decode cX12_powerComes 0 = .ok (.aload_n 0, 1) := by decide +kernel
theorem dX12_powerComes_1 : decode cX12_powerComes 1 = .ok (.invokevirtual 125, 3) := by decide +kernel
theorem dX12_powerComes_4 : decode cX12_powerComes 4 = .ok (.ifCond .eq 82, 3) := by decide +kernel
theorem dX12_powerComes_7 : decode cX12_powerComes 7 = .ok (.aload_n 0, 1) := by decide +kernel
theorem dX12_powerComes_8 : decode cX12_powerComes 8 = .ok (.getfield 9, 3) := by decide +kernel
theorem dX12_powerComes_11 : decode cX12_powerComes 11 = .ok (.iconst 4, 1) := by decide +kernel
theorem dX12_powerComes_12 : decode cX12_powerComes 12 = .ok (.sipush 9999, 3) := by decide +kernel
theorem dX12_powerComes_15 : decode cX12_powerComes 15 = .ok (.aload_n 0, 1) := by decide +kernel
theorem dX12_powerComes_16 : decode cX12_powerComes 16 = .ok (.getfield 9, 3) := by decide +kernel
theorem dX12_powerComes_19 : decode cX12_powerComes 19 = .ok (.iconst 4, 1) := by decide +kernel
theorem dX12_powerComes_20 : decode cX12_powerComes 20 = .ok (.iaload, 1) := by decide +kernel
theorem dX12_powerComes_21 : decode cX12_powerComes 21 = .ok (.aload_n 0, 1) := by decide +kernel
theorem dX12_powerComes_22 : decode cX12_powerComes 22 = .ok (.getfield 9, 3) := by decide +kernel
theorem dX12_powerComes_25 : decode cX12_powerComes 25 = .ok (.iconst 5, 1) := by decide +kernel
theorem dX12_powerComes_26 : decode cX12_powerComes 26 = .ok (.iaload, 1) := by decide +kernel
theorem dX12_powerComes_27 : decode cX12_powerComes 27 = .ok (.iadd, 1) := by decide +kernel
theorem dX12_powerComes_28 : decode cX12_powerComes 28 = .ok (.invokestatic 106, 3) := by decide +kernel
theorem dX12_powerComes_31 : decode cX12_powerComes 31 = .ok (.iastore, 1) := by decide +kernel
theorem dX12_powerComes_32 : decode cX12_powerComes 32 = .ok (.iconst 0, 1) := by decide +kernel
theorem dX12_powerComes_33 : decode cX12_powerComes 33 = .ok (.istore_n 1, 1) := by decide +kernel
theorem dX12_powerComes_34 : decode cX12_powerComes 34 = .ok (.iload_n 1, 1) := by decide +kernel
theorem dX12_powerComes_35 : decode cX12_powerComes 35 = .ok (.aload_n 0, 1) := by decide +kernel
theorem dX12_powerComes_36 : decode cX12_powerComes 36 = .ok (.getfield 9, 3) := by decide +kernel
theorem dX12_powerComes_39 : decode cX12_powerComes 39 = .ok (.bipush 16, 2) := by decide +kernel
theorem dX12_powerComes_41 : decode cX12_powerComes 41 = .ok (.iaload, 1) := by decide +kernel
theorem dX12_powerComes_42 : decode cX12_powerComes 42 = .ok (.if_icmp .ge 44, 3) := by decide +kernel
theorem dX12_powerComes_45 : decode cX12_powerComes 45 = .ok (.aload_n 0, 1) := by decide +kernel
theorem dX12_powerComes_46 : decode cX12_powerComes 46 = .ok (.iload_n 1, 1) := by decide +kernel
theorem dX12_powerComes_47 : decode cX12_powerComes 47 = .ok (.invokevirtual 135, 3) := by decide +kernel
theorem dX12_powerComes_50 : decode cX12_powerComes 50 = .ok (.ifCond .ne 30, 3) := by decide +kernel
theorem dX12_powerComes_53 : decode cX12_powerComes 53 = .ok (.aload_n 0, 1) := by decide +kernel
theorem dX12_powerComes_54 : decode cX12_powerComes 54 = .ok (.getfield 9, 3) := by decide +kernel
theorem dX12_powerComes_57 : decode cX12_powerComes 57 = .ok (.iload_n 1, 1) := by decide +kernel
theorem dX12_powerComes_58 : decode cX12_powerComes 58 = .ok (.iconst 2, 1) := by decide +kernel
theorem dX12_powerComes_59 : decode cX12_powerComes 59 = .ok (.invokestatic 87, 3) := by decide +kernel
theorem dX12_powerComes_62 : decode cX12_powerComes 62 = .ok (.bipush 100, 2) := by decide +kernel
theorem dX12_powerComes_64 : decode cX12_powerComes 64 = .ok (.aload_n 0, 1) := by decide +kernel
theorem dX12_powerComes_65 : decode cX12_powerComes 65 = .ok (.getfield 9, 3) := by decide +kernel
theorem dX12_powerComes_68 : decode cX12_powerComes 68 = .ok (.iload_n 1, 1) := by decide +kernel
theorem dX12_powerComes_69 : decode cX12_powerComes 69 = .ok (.iconst 2, 1) := by decide +kernel
theorem dX12_powerComes_70 : decode cX12_powerComes 70 = .ok (.invokestatic 87, 3) := by decide +kernel
theorem dX12_powerComes_73 : decode cX12_powerComes 73 = .ok (.iaload, 1) := by decide +kernel
theorem dX12_powerComes_74 : decode cX12_powerComes 74 = .ok (.iconst 3, 1) := by decide +kernel
theorem dX12_powerComes_75 : decode cX12_powerComes 75 = .ok (.iadd, 1) := by decide +kernel
theorem dX12_powerComes_76 : decode cX12_powerComes 76 = .ok (.invokestatic 106, 3) := by decide +kernel
theorem dX12_powerComes_79 : decode cX12_powerComes 79 = .ok (.iastore, 1) := by decide +kernel
theorem dX12_powerComes_80 : decode cX12_powerComes 80 = .ok (.iinc 1 1, 3) := by decide +kernel
theorem dX12_powerComes_83 : decode cX12_powerComes 83 = .ok (.goto (-49), 3) := by decide +kernel
theorem dX12_powerComes_86 : decode cX12_powerComes 86 = .ok (.iconst 0, 1) := by decide +kernel
theorem dX12_powerComes_87 : decode cX12_powerComes 87 = .ok (.istore_n 1, 1) := by decide +kernel
theorem dX12_powerComes_88 : decode cX12_powerComes 88 = .ok (.iconst 0, 1) := by decide +kernel
theorem dX12_powerComes_89 : decode cX12_powerComes 89 = .ok (.istore_n 2, 1) := by decide +kernel
theorem dX12_powerComes_90 : decode cX12_powerComes 90 = .ok (.iload_n 2, 1) := by decide +kernel
theorem dX12_powerComes_91 : decode cX12_powerComes 91 = .ok (.aload_n 0, 1) := by decide +kernel
theorem dX12_powerComes_92 : decode cX12_powerComes 92 = .ok (.getfield 9, 3) := by decide +kernel
theorem dX12_powerComes_95 : decode cX12_powerComes 95 = .ok (.bipush 15, 2) := by decide +kernel
theorem dX12_powerComes_97 : decode cX12_powerComes 97 = .ok (.iaload, 1) := by decide +kernel
theorem dX12_powerComes_98 : decode cX12_powerComes 98 = .ok (.if_icmp .ge 22, 3) := by decide +kernel
theorem dX12_powerComes_101 : decode cX12_powerComes 101 = .ok (.iload_n 1, 1) := by decide +kernel
theorem dX12_powerComes_102 : decode cX12_powerComes 102 = .ok (.aload_n 0, 1) := by decide +kernel
theorem dX12_powerComes_103 : decode cX12_powerComes 103 = .ok (.getfield 9, 3) := by decide +kernel
theorem dX12_powerComes_106 : decode cX12_powerComes 106 = .ok (.sipush 590, 3) := by decide +kernel
theorem dX12_powerComes_109 : decode cX12_powerComes 109 = .ok (.iload_n 2, 1) := by decide +kernel
theorem dX12_powerComes_110 : decode cX12_powerComes 110 = .ok (.iadd, 1) := by decide +kernel
theorem dX12_powerComes_111 : decode cX12_powerComes 111 = .ok (.iaload, 1) := by decide +kernel
theorem dX12_powerComes_112 : decode cX12_powerComes 112 = .ok (.iadd, 1) := by decide +kernel
theorem dX12_powerComes_113 : decode cX12_powerComes 113 = .ok (.istore_n 1, 1) := by decide +kernel
theorem dX12_powerComes_114 : decode cX12_powerComes 114 = .ok (.iinc 2 1, 3) := by decide +kernel
theorem dX12_powerComes_117 : decode cX12_powerComes 117 = .ok (.goto (-27), 3) := by decide +kernel
theorem dX12_powerComes_120 : decode cX12_powerComes 120 = .ok (.aload_n 0, 1) := by decide +kernel
theorem dX12_powerComes_121 : decode cX12_powerComes 121 = .ok (.getfield 9, 3) := by decide +kernel
theorem dX12_powerComes_124 : decode cX12_powerComes 124 = .ok (.bipush 9, 2) := by decide +kernel
theorem dX12_powerComes_126 : decode cX12_powerComes 126 = .ok (.iconst 0, 1) := by decide +kernel
theorem dX12_powerComes_127 : decode cX12_powerComes 127 = .ok (.iastore, 1) := by decide +kernel
theorem dX12_powerComes_128 : decode cX12_powerComes 128 = .ok (.aload_n 0, 1) := by decide +kernel
theorem dX12_powerComes_129 : decode cX12_powerComes 129 = .ok (.getfield 9, 3) := by decide +kernel
theorem dX12_powerComes_132 : decode cX12_powerComes 132 = .ok (.iconst 4, 1) := by decide +kernel
theorem dX12_powerComes_133 : decode cX12_powerComes 133 = .ok (.iaload, 1) := by decide +kernel
theorem dX12_powerComes_134 : decode cX12_powerComes 134 = .ok (.iload_n 1, 1) := by decide +kernel
theorem dX12_powerComes_135 : decode cX12_powerComes 135 = .ok (.if_icmp .ge 132, 3) := by decide +kernel
theorem dX12_powerComes_138 : decode cX12_powerComes 138 = .ok (.iconst (-1), 1) := by decide +kernel
theorem dX12_powerComes_139 : decode cX12_powerComes 139 = .ok (.istore_n 2, 1) := by decide +kernel
theorem dX12_powerComes_140 : decode cX12_powerComes 140 = .ok (.iconst 0, 1) := by decide +kernel
theorem dX12_powerComes_141 : decode cX12_powerComes 141 = .ok (.istore_n 3, 1) := by decide +kernel
theorem dX12_powerComes_142 : decode cX12_powerComes 142 = .ok (.iload_n 3, 1) := by decide +kernel
theorem dX12_powerComes_143 : decode cX12_powerComes 143 = .ok (.aload_n 0, 1) := by decide +kernel
theorem dX12_powerComes_144 : decode cX12_powerComes 144 = .ok (.getfield 9, 3) := by decide +kernel
theorem dX12_powerComes_147 : decode cX12_powerComes 147 = .ok (.bipush 15, 2) := by decide +kernel
theorem dX12_powerComes_149 : decode cX12_powerComes 149 = .ok (.iaload, 1) := by decide +kernel
theorem dX12_powerComes_150 : decode cX12_powerComes 150 = .ok (.if_icmp .ge 68, 3) := by decide +kernel
theorem dX12_powerComes_153 : decode cX12_powerComes 153 = .ok (.aload_n 0, 1) := by decide +kernel
theorem dX12_powerComes_154 : decode cX12_powerComes 154 = .ok (.getfield 9, 3) := by decide +kernel
theorem dX12_powerComes_157 : decode cX12_powerComes 157 = .ok (.bipush 9, 2) := by decide +kernel
theorem dX12_powerComes_159 : decode cX12_powerComes 159 = .ok (.iaload, 1) := by decide +kernel
theorem dX12_powerComes_160 : decode cX12_powerComes 160 = .ok (.iload_n 3, 1) := by decide +kernel
theorem dX12_powerComes_161 : decode cX12_powerComes 161 = .ok (.ishr, 1) := by decide +kernel
theorem dX12_powerComes_162 : decode cX12_powerComes 162 = .ok (.iconst 1, 1) := by decide +kernel
theorem dX12_powerComes_163 : decode cX12_powerComes 163 = .ok (.iand, 1) := by decide +kernel
theorem dX12_powerComes_164 : decode cX12_powerComes 164 = .ok (.ifCond .ne 7, 3) := by decide +kernel
theorem dX12_powerComes_167 : decode cX12_powerComes 167 = .ok (.iconst 1, 1) := by decide +kernel
theorem dX12_powerComes_168 : decode cX12_powerComes 168 = .ok (.goto 4, 3) := by decide +kernel
theorem dX12_powerComes_171 : decode cX12_powerComes 171 = .ok (.iconst 0, 1) := by decide +kernel
theorem dX12_powerComes_172 : decode cX12_powerComes 172 = .ok (.istore 4, 2) := by decide +kernel
theorem dX12_powerComes_174 : decode cX12_powerComes 174 = .ok (.iload 4, 2) := by decide +kernel
theorem dX12_powerComes_176 : decode cX12_powerComes 176 = .ok (.ifCond .eq 34, 3) := by decide +kernel
theorem dX12_powerComes_179 : decode cX12_powerComes 179 = .ok (.iload_n 2, 1) := by decide +kernel
theorem dX12_powerComes_180 : decode cX12_powerComes 180 = .ok (.ifCond .lt 26, 3) := by decide +kernel
theorem dX12_powerComes_183 : decode cX12_powerComes 183 = .ok (.aload_n 0, 1) := by decide +kernel
theorem dX12_powerComes_184 : decode cX12_powerComes 184 = .ok (.getfield 9, 3) := by decide +kernel
theorem dX12_powerComes_187 : decode cX12_powerComes 187 = .ok (.sipush 598, 3) := by decide +kernel
theorem dX12_powerComes_190 : decode cX12_powerComes 190 = .ok (.iload_n 3, 1) := by decide +kernel
theorem dX12_powerComes_191 : decode cX12_powerComes 191 = .ok (.iadd, 1) := by decide +kernel
theorem dX12_powerComes_192 : decode cX12_powerComes 192 = .ok (.iaload, 1) := by decide +kernel
theorem dX12_powerComes_193 : decode cX12_powerComes 193 = .ok (.aload_n 0, 1) := by decide +kernel
theorem dX12_powerComes_194 : decode cX12_powerComes 194 = .ok (.getfield 9, 3) := by decide +kernel
theorem dX12_powerComes_197 : decode cX12_powerComes 197 = .ok (.sipush 598, 3) := by decide +kernel
theorem dX12_powerComes_200 : decode cX12_powerComes 200 = .ok (.iload_n 2, 1) := by decide +kernel
theorem dX12_powerComes_201 : decode cX12_powerComes 201 = .ok (.iadd, 1) := by decide +kernel
theorem dX12_powerComes_202 : decode cX12_powerComes 202 = .ok (.iaload, 1) := by decide +kernel
theorem dX12_powerComes_203 : decode cX12_powerComes 203 = .ok (.if_icmp .ge 7, 3) := by decide +kernel
theorem dX12_powerComes_206 : decode cX12_powerComes 206 = .ok (.iload_n 3, 1) := by decide +kernel
theorem dX12_powerComes_207 : decode cX12_powerComes 207 = .ok (.goto 4, 3) := by decide +kernel
theorem dX12_powerComes_210 : decode cX12_powerComes 210 = .ok (.iload_n 2, 1) := by decide +kernel
theorem dX12_powerComes_211 : decode cX12_powerComes 211 = .ok (.istore_n 2, 1) := by decide +kernel
theorem dX12_powerComes_212 : decode cX12_powerComes 212 = .ok (.iinc 3 1, 3) := by decide +kernel
theorem dX12_powerComes_215 : decode cX12_powerComes 215 = .ok (.goto (-73), 3) := by decide +kernel
theorem dX12_powerComes_218 : decode cX12_powerComes 218 = .ok (.aload_n 0, 1) := by decide +kernel
theorem dX12_powerComes_219 : decode cX12_powerComes 219 = .ok (.getfield 9, 3) := by decide +kernel
theorem dX12_powerComes_222 : decode cX12_powerComes 222 = .ok (.bipush 9, 2) := by decide +kernel
theorem dX12_powerComes_224 : decode cX12_powerComes 224 = .ok (.dup2, 1) := by decide +kernel
theorem dX12_powerComes_225 : decode cX12_powerComes 225 = .ok (.iaload, 1) := by decide +kernel
theorem dX12_powerComes_226 : decode cX12_powerComes 226 = .ok (.iconst 1, 1) := by decide +kernel
theorem dX12_powerComes_227 : decode cX12_powerComes 227 = .ok (.iload_n 2, 1) := by decide +kernel
theorem dX12_powerComes_228 : decode cX12_powerComes 228 = .ok (.ishl, 1) := by decide +kernel
theorem dX12_powerComes_229 : decode cX12_powerComes 229 = .ok (.ior, 1) := by decide +kernel
theorem dX12_powerComes_230 : decode cX12_powerComes 230 = .ok (.iastore, 1) := by decide +kernel
theorem dX12_powerComes_231 : decode cX12_powerComes 231 = .ok (.aload_n 0, 1) := by decide +kernel
theorem dX12_powerComes_232 : decode cX12_powerComes 232 = .ok (.getfield 9, 3) := by decide +kernel
theorem dX12_powerComes_235 : decode cX12_powerComes 235 = .ok (.bipush 8, 2) := by decide +kernel
theorem dX12_powerComes_237 : decode cX12_powerComes 237 = .ok (.dup2, 1) := by decide +kernel
theorem dX12_powerComes_238 : decode cX12_powerComes 238 = .ok (.iaload, 1) := by decide +kernel
theorem dX12_powerComes_239 : decode cX12_powerComes 239 = .ok (.aload_n 0, 1) := by decide +kernel
theorem dX12_powerComes_240 : decode cX12_powerComes 240 = .ok (.getfield 9, 3) := by decide +kernel
theorem dX12_powerComes_243 : decode cX12_powerComes 243 = .ok (.sipush 598, 3) := by decide +kernel
theorem dX12_powerComes_246 : decode cX12_powerComes 246 = .ok (.iload_n 2, 1) := by decide +kernel
theorem dX12_powerComes_247 : decode cX12_powerComes 247 = .ok (.iadd, 1) := by decide +kernel
theorem dX12_powerComes_248 : decode cX12_powerComes 248 = .ok (.iaload, 1) := by decide +kernel
theorem dX12_powerComes_249 : decode cX12_powerComes 249 = .ok (.iadd, 1) := by decide +kernel
theorem dX12_powerComes_250 : decode cX12_powerComes 250 = .ok (.iastore, 1) := by decide +kernel
theorem dX12_powerComes_251 : decode cX12_powerComes 251 = .ok (.iload_n 1, 1) := by decide +kernel
theorem dX12_powerComes_252 : decode cX12_powerComes 252 = .ok (.aload_n 0, 1) := by decide +kernel
theorem dX12_powerComes_253 : decode cX12_powerComes 253 = .ok (.getfield 9, 3) := by decide +kernel
theorem dX12_powerComes_256 : decode cX12_powerComes 256 = .ok (.sipush 590, 3) := by decide +kernel
theorem dX12_powerComes_259 : decode cX12_powerComes 259 = .ok (.iload_n 2, 1) := by decide +kernel
theorem dX12_powerComes_260 : decode cX12_powerComes 260 = .ok (.iadd, 1) := by decide +kernel
theorem dX12_powerComes_261 : decode cX12_powerComes 261 = .ok (.iaload, 1) := by decide +kernel
theorem dX12_powerComes_262 : decode cX12_powerComes 262 = .ok (.isub, 1) := by decide +kernel
theorem dX12_powerComes_263 : decode cX12_powerComes 263 = .ok (.istore_n 1, 1) := by decide +kernel
theorem dX12_powerComes_264 : decode cX12_powerComes 264 = .ok (.goto (-136), 3) := by decide +kernel
theorem dX12_powerComes_267 : decode cX12_powerComes 267 = .ok (.aload_n 0, 1) := by decide +kernel
theorem dX12_powerComes_268 : decode cX12_powerComes 268 = .ok (.getfield 9, 3) := by decide +kernel
theorem dX12_powerComes_271 : decode cX12_powerComes 271 = .ok (.iconst 4, 1) := by decide +kernel
theorem dX12_powerComes_272 : decode cX12_powerComes 272 = .ok (.dup2, 1) := by decide +kernel
theorem dX12_powerComes_273 : decode cX12_powerComes 273 = .ok (.iaload, 1) := by decide +kernel
theorem dX12_powerComes_274 : decode cX12_powerComes 274 = .ok (.iload_n 1, 1) := by decide +kernel
theorem dX12_powerComes_275 : decode cX12_powerComes 275 = .ok (.isub, 1) := by decide +kernel
theorem dX12_powerComes_276 : decode cX12_powerComes 276 = .ok (.iastore, 1) := by decide +kernel
theorem dX12_powerComes_277 : decode cX12_powerComes 277 = .ok (.return_, 1) := by decide +kernel
theorem dX12_named_0 : decode cX12_named 0 = .ok (.aload_n 0, 1) := by decide +kernel
theorem dX12_named_1 : decode cX12_named 1 = .ok (.getfield 9, 3) := by decide +kernel
theorem dX12_named_4 : decode cX12_named 4 = .ok (.iload_n 1, 1) := by decide +kernel
theorem dX12_named_5 : decode cX12_named 5 = .ok (.iconst 1, 1) := by decide +kernel
theorem dX12_named_6 : decode cX12_named 6 = .ok (.invokestatic 87, 3) := by decide +kernel
theorem dX12_named_9 : decode cX12_named 9 = .ok (.iaload, 1) := by decide +kernel
theorem dX12_named_10 : decode cX12_named 10 = .ok (.istore_n 3, 1) := by decide +kernel
theorem dX12_named_11 : decode cX12_named 11 = .ok (.iload_n 2, 1) := by decide +kernel
theorem dX12_named_12 : decode cX12_named 12 = .ok (.tableswitch 140 0 8 #[52, 63, 74, 85, 98, 108, 119, 126, 131], 52) := by decide +kernel
theorem dX12_named_64 : decode cX12_named 64 = .ok (.aload_n 0, 1) := by decide +kernel
theorem dX12_named_65 : decode cX12_named 65 = .ok (.getfield 9, 3) := by decide +kernel
theorem dX12_named_68 : decode cX12_named 68 = .ok (.iload_n 1, 1) := by decide +kernel
theorem dX12_named_69 : decode cX12_named 69 = .ok (.iconst 2, 1) := by decide +kernel
theorem dX12_named_70 : decode cX12_named 70 = .ok (.invokestatic 87, 3) := by decide +kernel
theorem dX12_named_73 : decode cX12_named 73 = .ok (.iaload, 1) := by decide +kernel
theorem dX12_named_74 : decode cX12_named 74 = .ok (.ireturn, 1) := by decide +kernel
theorem dX12_named_75 : decode cX12_named 75 = .ok (.aload_n 0, 1) := by decide +kernel
theorem dX12_named_76 : decode cX12_named 76 = .ok (.getfield 9, 3) := by decide +kernel
theorem dX12_named_79 : decode cX12_named 79 = .ok (.iload_n 1, 1) := by decide +kernel
theorem dX12_named_80 : decode cX12_named 80 = .ok (.iconst 4, 1) := by decide +kernel
theorem dX12_named_81 : decode cX12_named 81 = .ok (.invokestatic 87, 3) := by decide +kernel
theorem dX12_named_84 : decode cX12_named 84 = .ok (.iaload, 1) := by decide +kernel
theorem dX12_named_85 : decode cX12_named 85 = .ok (.ireturn, 1) := by decide +kernel
theorem dX12_named_86 : decode cX12_named 86 = .ok (.aload_n 0, 1) := by decide +kernel
theorem dX12_named_87 : decode cX12_named 87 = .ok (.getfield 9, 3) := by decide +kernel
theorem dX12_named_90 : decode cX12_named 90 = .ok (.iload_n 1, 1) := by decide +kernel
theorem dX12_named_91 : decode cX12_named 91 = .ok (.iconst 3, 1) := by decide +kernel
theorem dX12_named_92 : decode cX12_named 92 = .ok (.invokestatic 87, 3) := by decide +kernel
theorem dX12_named_95 : decode cX12_named 95 = .ok (.iaload, 1) := by decide +kernel
theorem dX12_named_96 : decode cX12_named 96 = .ok (.ireturn, 1) := by decide +kernel
theorem dX12_named_97 : decode cX12_named 97 = .ok (.aload_n 0, 1) := by decide +kernel
theorem dX12_named_98 : decode cX12_named 98 = .ok (.invokevirtual 125, 3) := by decide +kernel
theorem dX12_named_101 : decode cX12_named 101 = .ok (.ifCond .eq 7, 3) := by decide +kernel
theorem dX12_named_104 : decode cX12_named 104 = .ok (.iconst 1, 1) := by decide +kernel
theorem dX12_named_105 : decode cX12_named 105 = .ok (.goto 4, 3) := by decide +kernel
theorem dX12_named_108 : decode cX12_named 108 = .ok (.iconst 0, 1) := by decide +kernel
theorem dX12_named_109 : decode cX12_named 109 = .ok (.ireturn, 1) := by decide +kernel
theorem dX12_named_110 : decode cX12_named 110 = .ok (.aload_n 0, 1) := by decide +kernel
theorem dX12_named_111 : decode cX12_named 111 = .ok (.getfield 9, 3) := by decide +kernel
theorem dX12_named_114 : decode cX12_named 114 = .ok (.bipush 110, 2) := by decide +kernel
theorem dX12_named_116 : decode cX12_named 116 = .ok (.iload_n 3, 1) := by decide +kernel
theorem dX12_named_117 : decode cX12_named 117 = .ok (.iadd, 1) := by decide +kernel
theorem dX12_named_118 : decode cX12_named 118 = .ok (.iaload, 1) := by decide +kernel
theorem dX12_named_119 : decode cX12_named 119 = .ok (.ireturn, 1) := by decide +kernel
theorem dX12_named_120 : decode cX12_named 120 = .ok (.aload_n 0, 1) := by decide +kernel
theorem dX12_named_121 : decode cX12_named 121 = .ok (.getfield 9, 3) := by decide +kernel
theorem dX12_named_124 : decode cX12_named 124 = .ok (.sipush 190, 3) := by decide +kernel
theorem dX12_named_127 : decode cX12_named 127 = .ok (.iload_n 3, 1) := by decide +kernel
theorem dX12_named_128 : decode cX12_named 128 = .ok (.iadd, 1) := by decide +kernel
theorem dX12_named_129 : decode cX12_named 129 = .ok (.iaload, 1) := by decide +kernel
theorem dX12_named_130 : decode cX12_named 130 = .ok (.ireturn, 1) := by decide +kernel
theorem dX12_named_131 : decode cX12_named 131 = .ok (.aload_n 0, 1) := by decide +kernel
theorem dX12_named_132 : decode cX12_named 132 = .ok (.getfield 9, 3) := by decide +kernel
theorem dX12_named_135 : decode cX12_named 135 = .ok (.iconst 4, 1) := by decide +kernel
theorem dX12_named_136 : decode cX12_named 136 = .ok (.iaload, 1) := by decide +kernel
theorem dX12_named_137 : decode cX12_named 137 = .ok (.ireturn, 1) := by decide +kernel
theorem dX12_named_138 : decode cX12_named 138 = .ok (.aload_n 0, 1) := by decide +kernel
theorem dX12_named_139 : decode cX12_named 139 = .ok (.invokevirtual 122, 3) := by decide +kernel
theorem dX12_named_142 : decode cX12_named 142 = .ok (.ireturn, 1) := by decide +kernel
theorem dX12_named_143 : decode cX12_named 143 = .ok (.iload_n 3, 1) := by decide +kernel
theorem dX12_named_144 : decode cX12_named 144 = .ok (.aload_n 0, 1) := by decide +kernel
theorem dX12_named_145 : decode cX12_named 145 = .ok (.getfield 9, 3) := by decide +kernel
theorem dX12_named_148 : decode cX12_named 148 = .ok (.iconst 0, 1) := by decide +kernel
theorem dX12_named_149 : decode cX12_named 149 = .ok (.iaload, 1) := by decide +kernel
theorem dX12_named_150 : decode cX12_named 150 = .ok (.irem, 1) := by decide +kernel
theorem dX12_named_151 : decode cX12_named 151 = .ok (.ireturn, 1) := by decide +kernel
theorem dX12_named_152 : decode cX12_named 152 = .ok (.iload_n 3, 1) := by decide +kernel
theorem dX12_named_153 : decode cX12_named 153 = .ok (.aload_n 0, 1) := by decide +kernel
theorem dX12_named_154 : decode cX12_named 154 = .ok (.getfield 9, 3) := by decide +kernel
theorem dX12_named_157 : decode cX12_named 157 = .ok (.iconst 0, 1) := by decide +kernel
theorem dX12_named_158 : decode cX12_named 158 = .ok (.iaload, 1) := by decide +kernel
theorem dX12_named_159 : decode cX12_named 159 = .ok (.idiv, 1) := by decide +kernel
theorem dX12_named_160 : decode cX12_named 160 = .ok (.ireturn, 1) := by decide +kernel
theorem dX12_done_0 : decode cX12_done 0 = .ok (.iload_n 0, 1) := by decide +kernel
theorem dX12_done_1 : decode cX12_done 1 = .ok (.tableswitch 112 0 6 #[43, 57, 71, 82, 93, 104, 108], 43) := by decide +kernel
theorem dX12_done_44 : decode cX12_done 44 = .ok (.iload_n 1, 1) := by decide +kernel
theorem dX12_done_45 : decode cX12_done 45 = .ok (.ifCond .ne 7, 3) := by decide +kernel
theorem dX12_done_48 : decode cX12_done 48 = .ok (.iload_n 2, 1) := by decide +kernel
theorem dX12_done_49 : decode cX12_done 49 = .ok (.ifCond .eq 7, 3) := by decide +kernel
theorem dX12_done_52 : decode cX12_done 52 = .ok (.iconst 1, 1) := by decide +kernel
theorem dX12_done_53 : decode cX12_done 53 = .ok (.goto 4, 3) := by decide +kernel
theorem dX12_done_56 : decode cX12_done 56 = .ok (.iconst 0, 1) := by decide +kernel
theorem dX12_done_57 : decode cX12_done 57 = .ok (.ireturn, 1) := by decide +kernel
theorem dX12_done_58 : decode cX12_done 58 = .ok (.iload_n 1, 1) := by decide +kernel
theorem dX12_done_59 : decode cX12_done 59 = .ok (.ifCond .eq 11, 3) := by decide +kernel
theorem dX12_done_62 : decode cX12_done 62 = .ok (.iload_n 2, 1) := by decide +kernel
theorem dX12_done_63 : decode cX12_done 63 = .ok (.ifCond .eq 7, 3) := by decide +kernel
theorem dX12_done_66 : decode cX12_done 66 = .ok (.iconst 1, 1) := by decide +kernel
theorem dX12_done_67 : decode cX12_done 67 = .ok (.goto 4, 3) := by decide +kernel
theorem dX12_done_70 : decode cX12_done 70 = .ok (.iconst 0, 1) := by decide +kernel
theorem dX12_done_71 : decode cX12_done 71 = .ok (.ireturn, 1) := by decide +kernel
theorem dX12_done_72 : decode cX12_done 72 = .ok (.iload_n 1, 1) := by decide +kernel
theorem dX12_done_73 : decode cX12_done 73 = .ok (.iload_n 2, 1) := by decide +kernel
theorem dX12_done_74 : decode cX12_done 74 = .ok (.if_icmp .ge 7, 3) := by decide +kernel
theorem dX12_done_77 : decode cX12_done 77 = .ok (.iconst 1, 1) := by decide +kernel
theorem dX12_done_78 : decode cX12_done 78 = .ok (.goto 4, 3) := by decide +kernel
theorem dX12_done_81 : decode cX12_done 81 = .ok (.iconst 0, 1) := by decide +kernel
theorem dX12_done_82 : decode cX12_done 82 = .ok (.ireturn, 1) := by decide +kernel
theorem dX12_done_83 : decode cX12_done 83 = .ok (.iload_n 1, 1) := by decide +kernel
theorem dX12_done_84 : decode cX12_done 84 = .ok (.iload_n 2, 1) := by decide +kernel
theorem dX12_done_85 : decode cX12_done 85 = .ok (.if_icmp .ne 7, 3) := by decide +kernel
theorem dX12_done_88 : decode cX12_done 88 = .ok (.iconst 1, 1) := by decide +kernel
theorem dX12_done_89 : decode cX12_done 89 = .ok (.goto 4, 3) := by decide +kernel
theorem dX12_done_92 : decode cX12_done 92 = .ok (.iconst 0, 1) := by decide +kernel
theorem dX12_done_93 : decode cX12_done 93 = .ok (.ireturn, 1) := by decide +kernel
theorem dX12_done_94 : decode cX12_done 94 = .ok (.iload_n 1, 1) := by decide +kernel
theorem dX12_done_95 : decode cX12_done 95 = .ok (.iload_n 2, 1) := by decide +kernel
theorem dX12_done_96 : decode cX12_done 96 = .ok (.if_icmp .le 7, 3) := by decide +kernel
theorem dX12_done_99 : decode cX12_done 99 = .ok (.iconst 1, 1) := by decide +kernel
theorem dX12_done_100 : decode cX12_done 100 = .ok (.goto 4, 3) := by decide +kernel
theorem dX12_done_103 : decode cX12_done 103 = .ok (.iconst 0, 1) := by decide +kernel
theorem dX12_done_104 : decode cX12_done 104 = .ok (.ireturn, 1) := by decide +kernel
theorem dX12_done_105 : decode cX12_done 105 = .ok (.iload_n 1, 1) := by decide +kernel
theorem dX12_done_106 : decode cX12_done 106 = .ok (.iload_n 2, 1) := by decide +kernel
theorem dX12_done_107 : decode cX12_done 107 = .ok (.iadd, 1) := by decide +kernel
theorem dX12_done_108 : decode cX12_done 108 = .ok (.ireturn, 1) := by decide +kernel
theorem dX12_done_109 : decode cX12_done 109 = .ok (.iload_n 1, 1) := by decide +kernel
theorem dX12_done_110 : decode cX12_done 110 = .ok (.iload_n 2, 1) := by decide +kernel
theorem dX12_done_111 : decode cX12_done 111 = .ok (.isub, 1) := by decide +kernel
theorem dX12_done_112 : decode cX12_done 112 = .ok (.ireturn, 1) := by decide +kernel
theorem dX12_done_113 : decode cX12_done 113 = .ok (.iload_n 1, 1) := by decide +kernel
theorem dX12_done_114 : decode cX12_done 114 = .ok (.iload_n 2, 1) := by decide +kernel
theorem dX12_done_115 : decode cX12_done 115 = .ok (.imul, 1) := by decide +kernel
theorem dX12_done_116 : decode cX12_done 116 = .ok (.ireturn, 1) := by decide +kernel
theorem dX12_valueOf_0 : decode cX12_valueOf 0 = .ok (.iconst 0, 1) := by decide +kernel
theorem dX12_valueOf_1 : decode cX12_valueOf 1 = .ok (.istore 4, 2) := by decide +kernel
theorem dX12_valueOf_3 : decode cX12_valueOf 3 = .ok (.sipush 1226, 3) := by decide +kernel
theorem dX12_valueOf_6 : decode cX12_valueOf 6 = .ok (.sipush 418, 3) := by decide +kernel
theorem dX12_valueOf_9 : decode cX12_valueOf 9 = .ok (.iload_n 2, 1) := by decide +kernel
theorem dX12_valueOf_10 : decode cX12_valueOf 10 = .ok (.imul, 1) := by decide +kernel
theorem dX12_valueOf_11 : decode cX12_valueOf 11 = .ok (.iadd, 1) := by decide +kernel
theorem dX12_valueOf_12 : decode cX12_valueOf 12 = .ok (.sipush 258, 3) := by decide +kernel
theorem dX12_valueOf_15 : decode cX12_valueOf 15 = .ok (.iadd, 1) := by decide +kernel
theorem dX12_valueOf_16 : decode cX12_valueOf 16 = .ok (.iload_n 3, 1) := by decide +kernel
theorem dX12_valueOf_17 : decode cX12_valueOf 17 = .ok (.iadd, 1) := by decide +kernel
theorem dX12_valueOf_18 : decode cX12_valueOf 18 = .ok (.istore 5, 2) := by decide +kernel
theorem dX12_valueOf_20 : decode cX12_valueOf 20 = .ok (.aload_n 0, 1) := by decide +kernel
theorem dX12_valueOf_21 : decode cX12_valueOf 21 = .ok (.getfield 9, 3) := by decide +kernel
theorem dX12_valueOf_24 : decode cX12_valueOf 24 = .ok (.iload 5, 2) := by decide +kernel
theorem dX12_valueOf_26 : decode cX12_valueOf 26 = .ok (.iaload, 1) := by decide +kernel
theorem dX12_valueOf_27 : decode cX12_valueOf 27 = .ok (.sipush 30000, 3) := by decide +kernel
theorem dX12_valueOf_30 : decode cX12_valueOf 30 = .ok (.if_icmp .eq 137, 3) := by decide +kernel
theorem dX12_valueOf_33 : decode cX12_valueOf 33 = .ok (.aload_n 0, 1) := by decide +kernel
theorem dX12_valueOf_34 : decode cX12_valueOf 34 = .ok (.getfield 9, 3) := by decide +kernel
theorem dX12_valueOf_37 : decode cX12_valueOf 37 = .ok (.iload 5, 2) := by decide +kernel
theorem dX12_valueOf_39 : decode cX12_valueOf 39 = .ok (.iaload, 1) := by decide +kernel
theorem dX12_valueOf_40 : decode cX12_valueOf 40 = .ok (.istore 6, 2) := by decide +kernel
theorem dX12_valueOf_42 : decode cX12_valueOf 42 = .ok (.iinc 5 1, 3) := by decide +kernel
theorem dX12_valueOf_45 : decode cX12_valueOf 45 = .ok (.iload 6, 2) := by decide +kernel
theorem dX12_valueOf_47 : decode cX12_valueOf 47 = .ok (.sipush 20000, 3) := by decide +kernel
theorem dX12_valueOf_50 : decode cX12_valueOf 50 = .ok (.if_icmp .ge 40, 3) := by decide +kernel
theorem dX12_valueOf_53 : decode cX12_valueOf 53 = .ok (.aload_n 0, 1) := by decide +kernel
theorem dX12_valueOf_54 : decode cX12_valueOf 54 = .ok (.getfield 62, 3) := by decide +kernel
theorem dX12_valueOf_57 : decode cX12_valueOf 57 = .ok (.iload 4, 2) := by decide +kernel
theorem dX12_valueOf_59 : decode cX12_valueOf 59 = .ok (.iload 6, 2) := by decide +kernel
theorem dX12_valueOf_61 : decode cX12_valueOf 61 = .ok (.sipush 10000, 3) := by decide +kernel
theorem dX12_valueOf_64 : decode cX12_valueOf 64 = .ok (.if_icmp .ge 8, 3) := by decide +kernel
theorem dX12_valueOf_67 : decode cX12_valueOf 67 = .ok (.iload 6, 2) := by decide +kernel
theorem dX12_valueOf_69 : decode cX12_valueOf 69 = .ok (.goto 14, 3) := by decide +kernel
theorem dX12_valueOf_72 : decode cX12_valueOf 72 = .ok (.aload_n 0, 1) := by decide +kernel
theorem dX12_valueOf_73 : decode cX12_valueOf 73 = .ok (.iload_n 1, 1) := by decide +kernel
theorem dX12_valueOf_74 : decode cX12_valueOf 74 = .ok (.iload 6, 2) := by decide +kernel
theorem dX12_valueOf_76 : decode cX12_valueOf 76 = .ok (.sipush 10000, 3) := by decide +kernel
theorem dX12_valueOf_79 : decode cX12_valueOf 79 = .ok (.isub, 1) := by decide +kernel
theorem dX12_valueOf_80 : decode cX12_valueOf 80 = .ok (.invokevirtual 256, 3) := by decide +kernel
theorem dX12_valueOf_83 : decode cX12_valueOf 83 = .ok (.iastore, 1) := by decide +kernel
theorem dX12_valueOf_84 : decode cX12_valueOf 84 = .ok (.iinc 4 1, 3) := by decide +kernel
theorem dX12_valueOf_87 : decode cX12_valueOf 87 = .ok (.goto 77, 3) := by decide +kernel
theorem dX12_valueOf_90 : decode cX12_valueOf 90 = .ok (.iload 6, 2) := by decide +kernel
theorem dX12_valueOf_92 : decode cX12_valueOf 92 = .ok (.sipush 20008, 3) := by decide +kernel
theorem dX12_valueOf_95 : decode cX12_valueOf 95 = .ok (.if_icmp .ne 32, 3) := by decide +kernel
theorem dX12_valueOf_98 : decode cX12_valueOf 98 = .ok (.aload_n 0, 1) := by decide +kernel
theorem dX12_valueOf_99 : decode cX12_valueOf 99 = .ok (.getfield 62, 3) := by decide +kernel
theorem dX12_valueOf_102 : decode cX12_valueOf 102 = .ok (.iload 4, 2) := by decide +kernel
theorem dX12_valueOf_104 : decode cX12_valueOf 104 = .ok (.iconst 1, 1) := by decide +kernel
theorem dX12_valueOf_105 : decode cX12_valueOf 105 = .ok (.isub, 1) := by decide +kernel
theorem dX12_valueOf_106 : decode cX12_valueOf 106 = .ok (.aload_n 0, 1) := by decide +kernel
theorem dX12_valueOf_107 : decode cX12_valueOf 107 = .ok (.getfield 62, 3) := by decide +kernel
theorem dX12_valueOf_110 : decode cX12_valueOf 110 = .ok (.iload 4, 2) := by decide +kernel
theorem dX12_valueOf_112 : decode cX12_valueOf 112 = .ok (.iconst 1, 1) := by decide +kernel
theorem dX12_valueOf_113 : decode cX12_valueOf 113 = .ok (.isub, 1) := by decide +kernel
theorem dX12_valueOf_114 : decode cX12_valueOf 114 = .ok (.iaload, 1) := by decide +kernel
theorem dX12_valueOf_115 : decode cX12_valueOf 115 = .ok (.ifCond .ne 7, 3) := by decide +kernel
theorem dX12_valueOf_118 : decode cX12_valueOf 118 = .ok (.iconst 1, 1) := by decide +kernel
theorem dX12_valueOf_119 : decode cX12_valueOf 119 = .ok (.goto 4, 3) := by decide +kernel
theorem dX12_valueOf_122 : decode cX12_valueOf 122 = .ok (.iconst 0, 1) := by decide +kernel
theorem dX12_valueOf_123 : decode cX12_valueOf 123 = .ok (.iastore, 1) := by decide +kernel
theorem dX12_valueOf_124 : decode cX12_valueOf 124 = .ok (.goto 40, 3) := by decide +kernel
theorem dX12_valueOf_127 : decode cX12_valueOf 127 = .ok (.iinc 4 (-1), 3) := by decide +kernel
theorem dX12_valueOf_130 : decode cX12_valueOf 130 = .ok (.aload_n 0, 1) := by decide +kernel
theorem dX12_valueOf_131 : decode cX12_valueOf 131 = .ok (.getfield 62, 3) := by decide +kernel
theorem dX12_valueOf_134 : decode cX12_valueOf 134 = .ok (.iload 4, 2) := by decide +kernel
theorem dX12_valueOf_136 : decode cX12_valueOf 136 = .ok (.iconst 1, 1) := by decide +kernel
theorem dX12_valueOf_137 : decode cX12_valueOf 137 = .ok (.isub, 1) := by decide +kernel
theorem dX12_valueOf_138 : decode cX12_valueOf 138 = .ok (.iload 6, 2) := by decide +kernel
theorem dX12_valueOf_140 : decode cX12_valueOf 140 = .ok (.sipush 20000, 3) := by decide +kernel
theorem dX12_valueOf_143 : decode cX12_valueOf 143 = .ok (.isub, 1) := by decide +kernel
theorem dX12_valueOf_144 : decode cX12_valueOf 144 = .ok (.aload_n 0, 1) := by decide +kernel
theorem dX12_valueOf_145 : decode cX12_valueOf 145 = .ok (.getfield 62, 3) := by decide +kernel
theorem dX12_valueOf_148 : decode cX12_valueOf 148 = .ok (.iload 4, 2) := by decide +kernel
theorem dX12_valueOf_150 : decode cX12_valueOf 150 = .ok (.iconst 1, 1) := by decide +kernel
theorem dX12_valueOf_151 : decode cX12_valueOf 151 = .ok (.isub, 1) := by decide +kernel
theorem dX12_valueOf_152 : decode cX12_valueOf 152 = .ok (.iaload, 1) := by decide +kernel
theorem dX12_valueOf_153 : decode cX12_valueOf 153 = .ok (.aload_n 0, 1) := by decide +kernel
theorem dX12_valueOf_154 : decode cX12_valueOf 154 = .ok (.getfield 62, 3) := by decide +kernel
theorem dX12_valueOf_157 : decode cX12_valueOf 157 = .ok (.iload 4, 2) := by decide +kernel
theorem dX12_valueOf_159 : decode cX12_valueOf 159 = .ok (.iaload, 1) := by decide +kernel
theorem dX12_valueOf_160 : decode cX12_valueOf 160 = .ok (.invokestatic 259, 3) := by decide +kernel
theorem dX12_valueOf_163 : decode cX12_valueOf 163 = .ok (.iastore, 1) := by decide +kernel
theorem dX12_valueOf_164 : decode cX12_valueOf 164 = .ok (.goto (-144), 3) := by decide +kernel
theorem dX12_valueOf_167 : decode cX12_valueOf 167 = .ok (.aload_n 0, 1) := by decide +kernel
theorem dX12_valueOf_168 : decode cX12_valueOf 168 = .ok (.getfield 62, 3) := by decide +kernel
theorem dX12_valueOf_171 : decode cX12_valueOf 171 = .ok (.iconst 0, 1) := by decide +kernel
theorem dX12_valueOf_172 : decode cX12_valueOf 172 = .ok (.iaload, 1) := by decide +kernel
theorem dX12_valueOf_173 : decode cX12_valueOf 173 = .ok (.ireturn, 1) := by decide +kernel
theorem dX12_ofStep_0 : decode cX12_ofStep 0 = .ok (.aload_n 0, 1) := by decide +kernel
theorem dX12_ofStep_1 : decode cX12_ofStep 1 = .ok (.getfield 9, 3) := by decide +kernel
theorem dX12_ofStep_4 : decode cX12_ofStep 4 = .ok (.sipush 1226, 3) := by decide +kernel
theorem dX12_ofStep_7 : decode cX12_ofStep 7 = .ok (.sipush 418, 3) := by decide +kernel
theorem dX12_ofStep_10 : decode cX12_ofStep 10 = .ok (.iload_n 1, 1) := by decide +kernel
theorem dX12_ofStep_11 : decode cX12_ofStep 11 = .ok (.imul, 1) := by decide +kernel
theorem dX12_ofStep_12 : decode cX12_ofStep 12 = .ok (.iadd, 1) := by decide +kernel
theorem dX12_ofStep_13 : decode cX12_ofStep 13 = .ok (.iconst 1, 1) := by decide +kernel
theorem dX12_ofStep_14 : decode cX12_ofStep 14 = .ok (.iadd, 1) := by decide +kernel
theorem dX12_ofStep_15 : decode cX12_ofStep 15 = .ok (.bipush 8, 2) := by decide +kernel
theorem dX12_ofStep_17 : decode cX12_ofStep 17 = .ok (.iload_n 2, 1) := by decide +kernel
theorem dX12_ofStep_18 : decode cX12_ofStep 18 = .ok (.imul, 1) := by decide +kernel
theorem dX12_ofStep_19 : decode cX12_ofStep 19 = .ok (.iadd, 1) := by decide +kernel
theorem dX12_ofStep_20 : decode cX12_ofStep 20 = .ok (.iload_n 3, 1) := by decide +kernel
theorem dX12_ofStep_21 : decode cX12_ofStep 21 = .ok (.iadd, 1) := by decide +kernel
theorem dX12_ofStep_22 : decode cX12_ofStep 22 = .ok (.iaload, 1) := by decide +kernel
theorem dX12_ofStep_23 : decode cX12_ofStep 23 = .ok (.ireturn, 1) := by decide +kernel
theorem dX12_behind_0 : decode cX12_behind 0 = .ok (.iload_n 2, 1) := by decide +kernel
theorem dX12_behind_1 : decode cX12_behind 1 = .ok (.istore_n 3, 1) := by decide +kernel
theorem dX12_behind_2 : decode cX12_behind 2 = .ok (.aload_n 0, 1) := by decide +kernel
theorem dX12_behind_3 : decode cX12_behind 3 = .ok (.iload_n 1, 1) := by decide +kernel
theorem dX12_behind_4 : decode cX12_behind 4 = .ok (.iload_n 3, 1) := by decide +kernel
theorem dX12_behind_5 : decode cX12_behind 5 = .ok (.bipush 6, 2) := by decide +kernel
theorem dX12_behind_7 : decode cX12_behind 7 = .ok (.invokevirtual 263, 3) := by decide +kernel
theorem dX12_behind_10 : decode cX12_behind 10 = .ok (.ifCond .lt 12, 3) := by decide +kernel
theorem dX12_behind_13 : decode cX12_behind 13 = .ok (.aload_n 0, 1) := by decide +kernel
theorem dX12_behind_14 : decode cX12_behind 14 = .ok (.iload_n 1, 1) := by decide +kernel
theorem dX12_behind_15 : decode cX12_behind 15 = .ok (.iload_n 3, 1) := by decide +kernel
theorem dX12_behind_16 : decode cX12_behind 16 = .ok (.bipush 6, 2) := by decide +kernel
theorem dX12_behind_18 : decode cX12_behind 18 = .ok (.invokevirtual 263, 3) := by decide +kernel
theorem dX12_behind_21 : decode cX12_behind 21 = .ok (.ireturn, 1) := by decide +kernel
theorem dX12_behind_22 : decode cX12_behind 22 = .ok (.aload_n 0, 1) := by decide +kernel
theorem dX12_behind_23 : decode cX12_behind 23 = .ok (.iload_n 1, 1) := by decide +kernel
theorem dX12_behind_24 : decode cX12_behind 24 = .ok (.iload_n 3, 1) := by decide +kernel
theorem dX12_behind_25 : decode cX12_behind 25 = .ok (.bipush 7, 2) := by decide +kernel
theorem dX12_behind_27 : decode cX12_behind 27 = .ok (.invokevirtual 263, 3) := by decide +kernel
theorem dX12_behind_30 : decode cX12_behind 30 = .ok (.istore_n 3, 1) := by decide +kernel
theorem dX12_behind_31 : decode cX12_behind 31 = .ok (.iload_n 3, 1) := by decide +kernel
theorem dX12_behind_32 : decode cX12_behind 32 = .ok (.ifCond .lt 15, 3) := by decide +kernel
theorem dX12_behind_35 : decode cX12_behind 35 = .ok (.aload_n 0, 1) := by decide +kernel
theorem dX12_behind_36 : decode cX12_behind 36 = .ok (.iload_n 1, 1) := by decide +kernel
theorem dX12_behind_37 : decode cX12_behind 37 = .ok (.iload_n 3, 1) := by decide +kernel
theorem dX12_behind_38 : decode cX12_behind 38 = .ok (.iconst 0, 1) := by decide +kernel
theorem dX12_behind_39 : decode cX12_behind 39 = .ok (.invokevirtual 263, 3) := by decide +kernel
theorem dX12_behind_42 : decode cX12_behind 42 = .ok (.bipush 9, 2) := by decide +kernel
theorem dX12_behind_44 : decode cX12_behind 44 = .ok (.if_icmp .lt (-42), 3) := by decide +kernel
theorem dX12_behind_47 : decode cX12_behind 47 = .ok (.iload_n 3, 1) := by decide +kernel
theorem dX12_behind_48 : decode cX12_behind 48 = .ok (.ireturn, 1) := by decide +kernel
theorem dX12_goesOn_0 : decode cX12_goesOn 0 = .ok (.iconst 0, 1) := by decide +kernel
theorem dX12_goesOn_1 : decode cX12_goesOn 1 = .ok (.istore_n 2, 1) := by decide +kernel
theorem dX12_goesOn_2 : decode cX12_goesOn 2 = .ok (.iload_n 2, 1) := by decide +kernel
theorem dX12_goesOn_3 : decode cX12_goesOn 3 = .ok (.bipush 50, 2) := by decide +kernel
theorem dX12_goesOn_5 : decode cX12_goesOn 5 = .ok (.if_icmp .ge 148, 3) := by decide +kernel
theorem dX12_goesOn_8 : decode cX12_goesOn 8 = .ok (.aload_n 0, 1) := by decide +kernel
theorem dX12_goesOn_9 : decode cX12_goesOn 9 = .ok (.getfield 9, 3) := by decide +kernel
theorem dX12_goesOn_12 : decode cX12_goesOn 12 = .ok (.iload_n 1, 1) := by decide +kernel
theorem dX12_goesOn_13 : decode cX12_goesOn 13 = .ok (.bipush 6, 2) := by decide +kernel
theorem dX12_goesOn_15 : decode cX12_goesOn 15 = .ok (.invokestatic 87, 3) := by decide +kernel
theorem dX12_goesOn_18 : decode cX12_goesOn 18 = .ok (.iaload, 1) := by decide +kernel
theorem dX12_goesOn_19 : decode cX12_goesOn 19 = .ok (.istore_n 3, 1) := by decide +kernel
theorem dX12_goesOn_20 : decode cX12_goesOn 20 = .ok (.aload_n 0, 1) := by decide +kernel
theorem dX12_goesOn_21 : decode cX12_goesOn 21 = .ok (.getfield 9, 3) := by decide +kernel
theorem dX12_goesOn_24 : decode cX12_goesOn 24 = .ok (.iload_n 1, 1) := by decide +kernel
theorem dX12_goesOn_25 : decode cX12_goesOn 25 = .ok (.bipush 7, 2) := by decide +kernel
theorem dX12_goesOn_27 : decode cX12_goesOn 27 = .ok (.invokestatic 87, 3) := by decide +kernel
theorem dX12_goesOn_30 : decode cX12_goesOn 30 = .ok (.iaload, 1) := by decide +kernel
theorem dX12_goesOn_31 : decode cX12_goesOn 31 = .ok (.istore 4, 2) := by decide +kernel
theorem dX12_goesOn_33 : decode cX12_goesOn 33 = .ok (.iload 4, 2) := by decide +kernel
theorem dX12_goesOn_35 : decode cX12_goesOn 35 = .ok (.ifCond .ge 16, 3) := by decide +kernel
theorem dX12_goesOn_38 : decode cX12_goesOn 38 = .ok (.aload_n 0, 1) := by decide +kernel
theorem dX12_goesOn_39 : decode cX12_goesOn 39 = .ok (.getfield 9, 3) := by decide +kernel
theorem dX12_goesOn_42 : decode cX12_goesOn 42 = .ok (.iload_n 1, 1) := by decide +kernel
theorem dX12_goesOn_43 : decode cX12_goesOn 43 = .ok (.bipush 6, 2) := by decide +kernel
theorem dX12_goesOn_45 : decode cX12_goesOn 45 = .ok (.invokestatic 87, 3) := by decide +kernel
theorem dX12_goesOn_48 : decode cX12_goesOn 48 = .ok (.iconst (-1), 1) := by decide +kernel
theorem dX12_goesOn_49 : decode cX12_goesOn 49 = .ok (.iastore, 1) := by decide +kernel
theorem dX12_goesOn_50 : decode cX12_goesOn 50 = .ok (.return_, 1) := by decide +kernel
theorem dX12_goesOn_51 : decode cX12_goesOn 51 = .ok (.aload_n 0, 1) := by decide +kernel
theorem dX12_goesOn_52 : decode cX12_goesOn 52 = .ok (.iload_n 3, 1) := by decide +kernel
theorem dX12_goesOn_53 : decode cX12_goesOn 53 = .ok (.iload 4, 2) := by decide +kernel
theorem dX12_goesOn_55 : decode cX12_goesOn 55 = .ok (.iconst 0, 1) := by decide +kernel
theorem dX12_goesOn_56 : decode cX12_goesOn 56 = .ok (.invokevirtual 263, 3) := by decide +kernel
theorem dX12_goesOn_59 : decode cX12_goesOn 59 = .ok (.istore 5, 2) := by decide +kernel
theorem dX12_goesOn_61 : decode cX12_goesOn 61 = .ok (.iload 5, 2) := by decide +kernel
theorem dX12_goesOn_63 : decode cX12_goesOn 63 = .ok (.bipush 7, 2) := by decide +kernel
theorem dX12_goesOn_65 : decode cX12_goesOn 65 = .ok (.if_icmp .ge 19, 3) := by decide +kernel
theorem dX12_goesOn_68 : decode cX12_goesOn 68 = .ok (.aload_n 0, 1) := by decide +kernel
theorem dX12_goesOn_69 : decode cX12_goesOn 69 = .ok (.iload_n 1, 1) := by decide +kernel
theorem dX12_goesOn_70 : decode cX12_goesOn 70 = .ok (.iload_n 3, 1) := by decide +kernel
theorem dX12_goesOn_71 : decode cX12_goesOn 71 = .ok (.iload 4, 2) := by decide +kernel
theorem dX12_goesOn_73 : decode cX12_goesOn 73 = .ok (.iload 5, 2) := by decide +kernel
theorem dX12_goesOn_75 : decode cX12_goesOn 75 = .ok (.invokevirtual 266, 3) := by decide +kernel
theorem dX12_goesOn_78 : decode cX12_goesOn 78 = .ok (.ifCond .eq 31, 3) := by decide +kernel
theorem dX12_goesOn_81 : decode cX12_goesOn 81 = .ok (.goto 27, 3) := by decide +kernel
theorem dX12_goesOn_84 : decode cX12_goesOn 84 = .ok (.iload 5, 2) := by decide +kernel
theorem dX12_goesOn_86 : decode cX12_goesOn 86 = .ok (.bipush 7, 2) := by decide +kernel
theorem dX12_goesOn_88 : decode cX12_goesOn 88 = .ok (.if_icmp .ne 21, 3) := by decide +kernel
theorem dX12_goesOn_91 : decode cX12_goesOn 91 = .ok (.aload_n 0, 1) := by decide +kernel
theorem dX12_goesOn_92 : decode cX12_goesOn 92 = .ok (.iload_n 1, 1) := by decide +kernel
theorem dX12_goesOn_93 : decode cX12_goesOn 93 = .ok (.iload_n 3, 1) := by decide +kernel
theorem dX12_goesOn_94 : decode cX12_goesOn 94 = .ok (.aload_n 0, 1) := by decide +kernel
theorem dX12_goesOn_95 : decode cX12_goesOn 95 = .ok (.iload_n 3, 1) := by decide +kernel
theorem dX12_goesOn_96 : decode cX12_goesOn 96 = .ok (.iload 4, 2) := by decide +kernel
theorem dX12_goesOn_98 : decode cX12_goesOn 98 = .ok (.iconst 3, 1) := by decide +kernel
theorem dX12_goesOn_99 : decode cX12_goesOn 99 = .ok (.invokevirtual 263, 3) := by decide +kernel
theorem dX12_goesOn_102 : decode cX12_goesOn 102 = .ok (.invokevirtual 270, 3) := by decide +kernel
theorem dX12_goesOn_105 : decode cX12_goesOn 105 = .ok (.ifCond .ne 4, 3) := by decide +kernel
theorem dX12_goesOn_108 : decode cX12_goesOn 108 = .ok (.return_, 1) := by decide +kernel
theorem dX12_goesOn_109 : decode cX12_goesOn 109 = .ok (.aload_n 0, 1) := by decide +kernel
theorem dX12_goesOn_110 : decode cX12_goesOn 110 = .ok (.getfield 9, 3) := by decide +kernel
theorem dX12_goesOn_113 : decode cX12_goesOn 113 = .ok (.iload_n 1, 1) := by decide +kernel
theorem dX12_goesOn_114 : decode cX12_goesOn 114 = .ok (.bipush 7, 2) := by decide +kernel
theorem dX12_goesOn_116 : decode cX12_goesOn 116 = .ok (.invokestatic 87, 3) := by decide +kernel
theorem dX12_goesOn_119 : decode cX12_goesOn 119 = .ok (.iload 5, 2) := by decide +kernel
theorem dX12_goesOn_121 : decode cX12_goesOn 121 = .ok (.bipush 8, 2) := by decide +kernel
theorem dX12_goesOn_123 : decode cX12_goesOn 123 = .ok (.if_icmp .ge 13, 3) := by decide +kernel
theorem dX12_goesOn_126 : decode cX12_goesOn 126 = .ok (.aload_n 0, 1) := by decide +kernel
theorem dX12_goesOn_127 : decode cX12_goesOn 127 = .ok (.iload_n 3, 1) := by decide +kernel
theorem dX12_goesOn_128 : decode cX12_goesOn 128 = .ok (.iload 4, 2) := by decide +kernel
theorem dX12_goesOn_130 : decode cX12_goesOn 130 = .ok (.invokevirtual 273, 3) := by decide +kernel
theorem dX12_goesOn_133 : decode cX12_goesOn 133 = .ok (.goto 13, 3) := by decide +kernel
theorem dX12_goesOn_136 : decode cX12_goesOn 136 = .ok (.aload_n 0, 1) := by decide +kernel
theorem dX12_goesOn_137 : decode cX12_goesOn 137 = .ok (.iload_n 1, 1) := by decide +kernel
theorem dX12_goesOn_138 : decode cX12_goesOn 138 = .ok (.iload_n 3, 1) := by decide +kernel
theorem dX12_goesOn_139 : decode cX12_goesOn 139 = .ok (.iload 4, 2) := by decide +kernel
theorem dX12_goesOn_141 : decode cX12_goesOn 141 = .ok (.iload 5, 2) := by decide +kernel
theorem dX12_goesOn_143 : decode cX12_goesOn 143 = .ok (.invokevirtual 276, 3) := by decide +kernel
theorem dX12_goesOn_146 : decode cX12_goesOn 146 = .ok (.iastore, 1) := by decide +kernel
theorem dX12_goesOn_147 : decode cX12_goesOn 147 = .ok (.iinc 2 1, 3) := by decide +kernel
theorem dX12_goesOn_150 : decode cX12_goesOn 150 = .ok (.goto (-148), 3) := by decide +kernel
theorem dX12_goesOn_153 : decode cX12_goesOn 153 = .ok (.return_, 1) := by decide +kernel
theorem dX12_inner_0 : decode cX12_inner 0 = .ok (.iload 4, 2) := by decide +kernel
theorem dX12_inner_2 : decode cX12_inner 2 = .ok (.bipush 10, 2) := by decide +kernel
theorem dX12_inner_4 : decode cX12_inner 4 = .ok (.if_icmp .ne 69, 3) := by decide +kernel
theorem dX12_inner_7 : decode cX12_inner 7 = .ok (.aload_n 0, 1) := by decide +kernel
theorem dX12_inner_8 : decode cX12_inner 8 = .ok (.getfield 9, 3) := by decide +kernel
theorem dX12_inner_11 : decode cX12_inner 11 = .ok (.iload_n 1, 1) := by decide +kernel
theorem dX12_inner_12 : decode cX12_inner 12 = .ok (.bipush 8, 2) := by decide +kernel
theorem dX12_inner_14 : decode cX12_inner 14 = .ok (.iload_n 3, 1) := by decide +kernel
theorem dX12_inner_15 : decode cX12_inner 15 = .ok (.iadd, 1) := by decide +kernel
theorem dX12_inner_16 : decode cX12_inner 16 = .ok (.invokestatic 87, 3) := by decide +kernel
theorem dX12_inner_19 : decode cX12_inner 19 = .ok (.iaload, 1) := by decide +kernel
theorem dX12_inner_20 : decode cX12_inner 20 = .ok (.istore 6, 2) := by decide +kernel
theorem dX12_inner_22 : decode cX12_inner 22 = .ok (.iload 6, 2) := by decide +kernel
theorem dX12_inner_24 : decode cX12_inner 24 = .ok (.ifCond .ge 13, 3) := by decide +kernel
theorem dX12_inner_27 : decode cX12_inner 27 = .ok (.aload_n 0, 1) := by decide +kernel
theorem dX12_inner_28 : decode cX12_inner 28 = .ok (.iload_n 2, 1) := by decide +kernel
theorem dX12_inner_29 : decode cX12_inner 29 = .ok (.iload_n 3, 1) := by decide +kernel
theorem dX12_inner_30 : decode cX12_inner 30 = .ok (.iconst 1, 1) := by decide +kernel
theorem dX12_inner_31 : decode cX12_inner 31 = .ok (.invokevirtual 263, 3) := by decide +kernel
theorem dX12_inner_34 : decode cX12_inner 34 = .ok (.goto 5, 3) := by decide +kernel
theorem dX12_inner_37 : decode cX12_inner 37 = .ok (.iload 6, 2) := by decide +kernel
theorem dX12_inner_39 : decode cX12_inner 39 = .ok (.istore 6, 2) := by decide +kernel
theorem dX12_inner_41 : decode cX12_inner 41 = .ok (.iload 6, 2) := by decide +kernel
theorem dX12_inner_43 : decode cX12_inner 43 = .ok (.ifCond .le 7, 3) := by decide +kernel
theorem dX12_inner_46 : decode cX12_inner 46 = .ok (.iconst 1, 1) := by decide +kernel
theorem dX12_inner_47 : decode cX12_inner 47 = .ok (.goto 4, 3) := by decide +kernel
theorem dX12_inner_50 : decode cX12_inner 50 = .ok (.iconst 0, 1) := by decide +kernel
theorem dX12_inner_51 : decode cX12_inner 51 = .ok (.istore 5, 2) := by decide +kernel
theorem dX12_inner_53 : decode cX12_inner 53 = .ok (.aload_n 0, 1) := by decide +kernel
theorem dX12_inner_54 : decode cX12_inner 54 = .ok (.getfield 9, 3) := by decide +kernel
theorem dX12_inner_57 : decode cX12_inner 57 = .ok (.iload_n 1, 1) := by decide +kernel
theorem dX12_inner_58 : decode cX12_inner 58 = .ok (.bipush 8, 2) := by decide +kernel
theorem dX12_inner_60 : decode cX12_inner 60 = .ok (.iload_n 3, 1) := by decide +kernel
theorem dX12_inner_61 : decode cX12_inner 61 = .ok (.iadd, 1) := by decide +kernel
theorem dX12_inner_62 : decode cX12_inner 62 = .ok (.invokestatic 87, 3) := by decide +kernel
theorem dX12_inner_65 : decode cX12_inner 65 = .ok (.iload 6, 2) := by decide +kernel
theorem dX12_inner_67 : decode cX12_inner 67 = .ok (.iconst 1, 1) := by decide +kernel
theorem dX12_inner_68 : decode cX12_inner 68 = .ok (.isub, 1) := by decide +kernel
theorem dX12_inner_69 : decode cX12_inner 69 = .ok (.iastore, 1) := by decide +kernel
theorem dX12_inner_70 : decode cX12_inner 70 = .ok (.goto 26, 3) := by decide +kernel
theorem dX12_inner_73 : decode cX12_inner 73 = .ok (.aload_n 0, 1) := by decide +kernel
theorem dX12_inner_74 : decode cX12_inner 74 = .ok (.iload_n 1, 1) := by decide +kernel
theorem dX12_inner_75 : decode cX12_inner 75 = .ok (.iload_n 2, 1) := by decide +kernel
theorem dX12_inner_76 : decode cX12_inner 76 = .ok (.aload_n 0, 1) := by decide +kernel
theorem dX12_inner_77 : decode cX12_inner 77 = .ok (.iload_n 2, 1) := by decide +kernel
theorem dX12_inner_78 : decode cX12_inner 78 = .ok (.iload_n 3, 1) := by decide +kernel
theorem dX12_inner_79 : decode cX12_inner 79 = .ok (.iconst 3, 1) := by decide +kernel
theorem dX12_inner_80 : decode cX12_inner 80 = .ok (.invokevirtual 263, 3) := by decide +kernel
theorem dX12_inner_83 : decode cX12_inner 83 = .ok (.invokevirtual 270, 3) := by decide +kernel
theorem dX12_inner_86 : decode cX12_inner 86 = .ok (.ifCond .eq 7, 3) := by decide +kernel
theorem dX12_inner_89 : decode cX12_inner 89 = .ok (.iconst 1, 1) := by decide +kernel
theorem dX12_inner_90 : decode cX12_inner 90 = .ok (.goto 4, 3) := by decide +kernel
theorem dX12_inner_93 : decode cX12_inner 93 = .ok (.iconst 0, 1) := by decide +kernel
theorem dX12_inner_94 : decode cX12_inner 94 = .ok (.istore 5, 2) := by decide +kernel
theorem dX12_inner_96 : decode cX12_inner 96 = .ok (.iload 5, 2) := by decide +kernel
theorem dX12_inner_98 : decode cX12_inner 98 = .ok (.ifCond .eq 13, 3) := by decide +kernel
theorem dX12_inner_101 : decode cX12_inner 101 = .ok (.aload_n 0, 1) := by decide +kernel
theorem dX12_inner_102 : decode cX12_inner 102 = .ok (.iload_n 2, 1) := by decide +kernel
theorem dX12_inner_103 : decode cX12_inner 103 = .ok (.iload_n 3, 1) := by decide +kernel
theorem dX12_inner_104 : decode cX12_inner 104 = .ok (.iconst 4, 1) := by decide +kernel
theorem dX12_inner_105 : decode cX12_inner 105 = .ok (.invokevirtual 263, 3) := by decide +kernel
theorem dX12_inner_108 : decode cX12_inner 108 = .ok (.goto 10, 3) := by decide +kernel
theorem dX12_inner_111 : decode cX12_inner 111 = .ok (.aload_n 0, 1) := by decide +kernel
theorem dX12_inner_112 : decode cX12_inner 112 = .ok (.iload_n 2, 1) := by decide +kernel
theorem dX12_inner_113 : decode cX12_inner 113 = .ok (.iload_n 3, 1) := by decide +kernel
theorem dX12_inner_114 : decode cX12_inner 114 = .ok (.iconst 5, 1) := by decide +kernel
theorem dX12_inner_115 : decode cX12_inner 115 = .ok (.invokevirtual 263, 3) := by decide +kernel
theorem dX12_inner_118 : decode cX12_inner 118 = .ok (.istore 6, 2) := by decide +kernel
theorem dX12_inner_120 : decode cX12_inner 120 = .ok (.iload 6, 2) := by decide +kernel
theorem dX12_inner_122 : decode cX12_inner 122 = .ok (.ifCond .lt 8, 3) := by decide +kernel
theorem dX12_inner_125 : decode cX12_inner 125 = .ok (.iload 6, 2) := by decide +kernel
theorem dX12_inner_127 : decode cX12_inner 127 = .ok (.goto 9, 3) := by decide +kernel
theorem dX12_inner_130 : decode cX12_inner 130 = .ok (.aload_n 0, 1) := by decide +kernel
theorem dX12_inner_131 : decode cX12_inner 131 = .ok (.iload_n 2, 1) := by decide +kernel
theorem dX12_inner_132 : decode cX12_inner 132 = .ok (.iload_n 3, 1) := by decide +kernel
theorem dX12_inner_133 : decode cX12_inner 133 = .ok (.invokevirtual 273, 3) := by decide +kernel
theorem dX12_inner_136 : decode cX12_inner 136 = .ok (.ireturn, 1) := by decide +kernel
theorem dX12_costs_0 : decode cX12_costs 0 = .ok (.aload_n 0, 1) := by decide +kernel
theorem dX12_costs_1 : decode cX12_costs 1 = .ok (.getfield 9, 3) := by decide +kernel
theorem dX12_costs_4 : decode cX12_costs 4 = .ok (.iload_n 1, 1) := by decide +kernel
theorem dX12_costs_5 : decode cX12_costs 5 = .ok (.iconst 2, 1) := by decide +kernel
theorem dX12_costs_6 : decode cX12_costs 6 = .ok (.invokestatic 87, 3) := by decide +kernel
theorem dX12_costs_9 : decode cX12_costs 9 = .ok (.dup2, 1) := by decide +kernel
theorem dX12_costs_10 : decode cX12_costs 10 = .ok (.iaload, 1) := by decide +kernel
theorem dX12_costs_11 : decode cX12_costs 11 = .ok (.iload_n 2, 1) := by decide +kernel
theorem dX12_costs_12 : decode cX12_costs 12 = .ok (.isub, 1) := by decide +kernel
theorem dX12_costs_13 : decode cX12_costs 13 = .ok (.iastore, 1) := by decide +kernel
theorem dX12_costs_14 : decode cX12_costs 14 = .ok (.aload_n 0, 1) := by decide +kernel
theorem dX12_costs_15 : decode cX12_costs 15 = .ok (.getfield 9, 3) := by decide +kernel
theorem dX12_costs_18 : decode cX12_costs 18 = .ok (.iload_n 1, 1) := by decide +kernel
theorem dX12_costs_19 : decode cX12_costs 19 = .ok (.iconst 3, 1) := by decide +kernel
theorem dX12_costs_20 : decode cX12_costs 20 = .ok (.invokestatic 87, 3) := by decide +kernel
theorem dX12_costs_23 : decode cX12_costs 23 = .ok (.bipush 100, 2) := by decide +kernel
theorem dX12_costs_25 : decode cX12_costs 25 = .ok (.aload_n 0, 1) := by decide +kernel
theorem dX12_costs_26 : decode cX12_costs 26 = .ok (.getfield 9, 3) := by decide +kernel
theorem dX12_costs_29 : decode cX12_costs 29 = .ok (.iload_n 1, 1) := by decide +kernel
theorem dX12_costs_30 : decode cX12_costs 30 = .ok (.iconst 3, 1) := by decide +kernel
theorem dX12_costs_31 : decode cX12_costs 31 = .ok (.invokestatic 87, 3) := by decide +kernel
theorem dX12_costs_34 : decode cX12_costs 34 = .ok (.iaload, 1) := by decide +kernel
theorem dX12_costs_35 : decode cX12_costs 35 = .ok (.iload_n 3, 1) := by decide +kernel
theorem dX12_costs_36 : decode cX12_costs 36 = .ok (.iadd, 1) := by decide +kernel
theorem dX12_costs_37 : decode cX12_costs 37 = .ok (.invokestatic 106, 3) := by decide +kernel
theorem dX12_costs_40 : decode cX12_costs 40 = .ok (.iastore, 1) := by decide +kernel
theorem dX12_costs_41 : decode cX12_costs 41 = .ok (.return_, 1) := by decide +kernel
theorem dX12_acts_0 : decode cX12_acts 0 = .ok (.iload 4, 2) := by decide +kernel
theorem dX12_acts_2 : decode cX12_acts 2 = .ok (.ifCond .ne 11, 3) := by decide +kernel
theorem dX12_acts_5 : decode cX12_acts 5 = .ok (.aload_n 0, 1) := by decide +kernel
theorem dX12_acts_6 : decode cX12_acts 6 = .ok (.iload_n 1, 1) := by decide +kernel
theorem dX12_acts_7 : decode cX12_acts 7 = .ok (.iload_n 2, 1) := by decide +kernel
theorem dX12_acts_8 : decode cX12_acts 8 = .ok (.iload_n 3, 1) := by decide +kernel
theorem dX12_acts_9 : decode cX12_acts 9 = .ok (.invokevirtual 280, 3) := by decide +kernel
theorem dX12_acts_12 : decode cX12_acts 12 = .ok (.ireturn, 1) := by decide +kernel
theorem dX12_acts_13 : decode cX12_acts 13 = .ok (.aload_n 0, 1) := by decide +kernel
theorem dX12_acts_14 : decode cX12_acts 14 = .ok (.getfield 9, 3) := by decide +kernel
theorem dX12_acts_17 : decode cX12_acts 17 = .ok (.iload_n 1, 1) := by decide +kernel
theorem dX12_acts_18 : decode cX12_acts 18 = .ok (.bipush 7, 2) := by decide +kernel
theorem dX12_acts_20 : decode cX12_acts 20 = .ok (.invokestatic 87, 3) := by decide +kernel
theorem dX12_acts_23 : decode cX12_acts 23 = .ok (.aload_n 0, 1) := by decide +kernel
theorem dX12_acts_24 : decode cX12_acts 24 = .ok (.iload_n 2, 1) := by decide +kernel
theorem dX12_acts_25 : decode cX12_acts 25 = .ok (.iload_n 3, 1) := by decide +kernel
theorem dX12_acts_26 : decode cX12_acts 26 = .ok (.invokevirtual 273, 3) := by decide +kernel
theorem dX12_acts_29 : decode cX12_acts 29 = .ok (.iastore, 1) := by decide +kernel
theorem dX12_acts_30 : decode cX12_acts 30 = .ok (.iload 4, 2) := by decide +kernel
theorem dX12_acts_32 : decode cX12_acts 32 = .ok (.tableswitch 76 1 5 #[36, 44, 52, 60, 68], 36) := by decide +kernel
theorem dX12_acts_68 : decode cX12_acts 68 = .ok (.aload_n 0, 1) := by decide +kernel
theorem dX12_acts_69 : decode cX12_acts 69 = .ok (.iload_n 1, 1) := by decide +kernel
theorem dX12_acts_70 : decode cX12_acts 70 = .ok (.invokevirtual 283, 3) := by decide +kernel
theorem dX12_acts_73 : decode cX12_acts 73 = .ok (.goto 35, 3) := by decide +kernel
theorem dX12_acts_76 : decode cX12_acts 76 = .ok (.aload_n 0, 1) := by decide +kernel
theorem dX12_acts_77 : decode cX12_acts 77 = .ok (.iload_n 1, 1) := by decide +kernel
theorem dX12_acts_78 : decode cX12_acts 78 = .ok (.invokevirtual 286, 3) := by decide +kernel
theorem dX12_acts_81 : decode cX12_acts 81 = .ok (.goto 27, 3) := by decide +kernel
theorem dX12_acts_84 : decode cX12_acts 84 = .ok (.aload_n 0, 1) := by decide +kernel
theorem dX12_acts_85 : decode cX12_acts 85 = .ok (.iload_n 1, 1) := by decide +kernel
theorem dX12_acts_86 : decode cX12_acts 86 = .ok (.invokevirtual 289, 3) := by decide +kernel
theorem dX12_acts_89 : decode cX12_acts 89 = .ok (.goto 19, 3) := by decide +kernel
theorem dX12_acts_92 : decode cX12_acts 92 = .ok (.aload_n 0, 1) := by decide +kernel
theorem dX12_acts_93 : decode cX12_acts 93 = .ok (.iload_n 1, 1) := by decide +kernel
theorem dX12_acts_94 : decode cX12_acts 94 = .ok (.invokevirtual 292, 3) := by decide +kernel
theorem dX12_acts_97 : decode cX12_acts 97 = .ok (.goto 11, 3) := by decide +kernel
theorem dX12_acts_100 : decode cX12_acts 100 = .ok (.aload_n 0, 1) := by decide +kernel
theorem dX12_acts_101 : decode cX12_acts 101 = .ok (.iload_n 1, 1) := by decide +kernel
theorem dX12_acts_102 : decode cX12_acts 102 = .ok (.invokevirtual 295, 3) := by decide +kernel
theorem dX12_acts_105 : decode cX12_acts 105 = .ok (.goto 3, 3) := by decide +kernel
theorem dX12_acts_108 : decode cX12_acts 108 = .ok (.iconst 1, 1) := by decide +kernel
theorem dX12_acts_109 : decode cX12_acts 109 = .ok (.ireturn, 1) := by decide +kernel
theorem dX12_goes_0 : decode cX12_goes 0 = .ok (.aload_n 0, 1) := by decide +kernel
theorem dX12_goes_1 : decode cX12_goes 1 = .ok (.iload_n 2, 1) := by decide +kernel
theorem dX12_goes_2 : decode cX12_goes 2 = .ok (.iload_n 3, 1) := by decide +kernel
theorem dX12_goes_3 : decode cX12_goes 3 = .ok (.iconst 1, 1) := by decide +kernel
theorem dX12_goes_4 : decode cX12_goes 4 = .ok (.invokevirtual 263, 3) := by decide +kernel
theorem dX12_goes_7 : decode cX12_goes 7 = .ok (.istore 4, 2) := by decide +kernel
theorem dX12_goes_9 : decode cX12_goes 9 = .ok (.aload_n 0, 1) := by decide +kernel
theorem dX12_goes_10 : decode cX12_goes 10 = .ok (.iload_n 2, 1) := by decide +kernel
theorem dX12_goes_11 : decode cX12_goes 11 = .ok (.iload_n 3, 1) := by decide +kernel
theorem dX12_goes_12 : decode cX12_goes 12 = .ok (.iconst 2, 1) := by decide +kernel
theorem dX12_goes_13 : decode cX12_goes 13 = .ok (.invokevirtual 263, 3) := by decide +kernel
theorem dX12_goes_16 : decode cX12_goes 16 = .ok (.istore 5, 2) := by decide +kernel
theorem dX12_goes_18 : decode cX12_goes 18 = .ok (.aload_n 0, 1) := by decide +kernel
theorem dX12_goes_19 : decode cX12_goes 19 = .ok (.getfield 9, 3) := by decide +kernel
theorem dX12_goes_22 : decode cX12_goes 22 = .ok (.iload_n 1, 1) := by decide +kernel
theorem dX12_goes_23 : decode cX12_goes 23 = .ok (.iconst 1, 1) := by decide +kernel
theorem dX12_goes_24 : decode cX12_goes 24 = .ok (.invokestatic 87, 3) := by decide +kernel
theorem dX12_goes_27 : decode cX12_goes 27 = .ok (.iaload, 1) := by decide +kernel
theorem dX12_goes_28 : decode cX12_goes 28 = .ok (.istore 6, 2) := by decide +kernel
theorem dX12_goes_30 : decode cX12_goes 30 = .ok (.iload 4, 2) := by decide +kernel
theorem dX12_goes_32 : decode cX12_goes 32 = .ok (.aload_n 0, 1) := by decide +kernel
theorem dX12_goes_33 : decode cX12_goes 33 = .ok (.getfield 9, 3) := by decide +kernel
theorem dX12_goes_36 : decode cX12_goes 36 = .ok (.iconst 0, 1) := by decide +kernel
theorem dX12_goes_37 : decode cX12_goes 37 = .ok (.iaload, 1) := by decide +kernel
theorem dX12_goes_38 : decode cX12_goes 38 = .ok (.if_icmp .ge 18, 3) := by decide +kernel
theorem dX12_goes_41 : decode cX12_goes 41 = .ok (.iload 5, 2) := by decide +kernel
theorem dX12_goes_43 : decode cX12_goes 43 = .ok (.aload_n 0, 1) := by decide +kernel
theorem dX12_goes_44 : decode cX12_goes 44 = .ok (.getfield 9, 3) := by decide +kernel
theorem dX12_goes_47 : decode cX12_goes 47 = .ok (.iconst 1, 1) := by decide +kernel
theorem dX12_goes_48 : decode cX12_goes 48 = .ok (.iaload, 1) := by decide +kernel
theorem dX12_goes_49 : decode cX12_goes 49 = .ok (.if_icmp .ge 7, 3) := by decide +kernel
theorem dX12_goes_52 : decode cX12_goes 52 = .ok (.iconst 1, 1) := by decide +kernel
theorem dX12_goes_53 : decode cX12_goes 53 = .ok (.goto 4, 3) := by decide +kernel
theorem dX12_goes_56 : decode cX12_goes 56 = .ok (.iconst 0, 1) := by decide +kernel
theorem dX12_goes_57 : decode cX12_goes 57 = .ok (.istore 7, 2) := by decide +kernel
theorem dX12_goes_59 : decode cX12_goes 59 = .ok (.iload 5, 2) := by decide +kernel
theorem dX12_goes_61 : decode cX12_goes 61 = .ok (.aload_n 0, 1) := by decide +kernel
theorem dX12_goes_62 : decode cX12_goes 62 = .ok (.getfield 9, 3) := by decide +kernel
theorem dX12_goes_65 : decode cX12_goes 65 = .ok (.iconst 0, 1) := by decide +kernel
theorem dX12_goes_66 : decode cX12_goes 66 = .ok (.iaload, 1) := by decide +kernel
theorem dX12_goes_67 : decode cX12_goes 67 = .ok (.imul, 1) := by decide +kernel
theorem dX12_goes_68 : decode cX12_goes 68 = .ok (.iload 4, 2) := by decide +kernel
theorem dX12_goes_70 : decode cX12_goes 70 = .ok (.iadd, 1) := by decide +kernel
theorem dX12_goes_71 : decode cX12_goes 71 = .ok (.istore 8, 2) := by decide +kernel
theorem dX12_goes_73 : decode cX12_goes 73 = .ok (.iload 7, 2) := by decide +kernel
theorem dX12_goes_75 : decode cX12_goes 75 = .ok (.ifCond .eq 12, 3) := by decide +kernel
theorem dX12_goes_78 : decode cX12_goes 78 = .ok (.iload 8, 2) := by decide +kernel
theorem dX12_goes_80 : decode cX12_goes 80 = .ok (.iload 6, 2) := by decide +kernel
theorem dX12_goes_82 : decode cX12_goes 82 = .ok (.if_icmp .ne 5, 3) := by decide +kernel
theorem dX12_goes_85 : decode cX12_goes 85 = .ok (.iconst 0, 1) := by decide +kernel
theorem dX12_goes_86 : decode cX12_goes 86 = .ok (.ireturn, 1) := by decide +kernel
theorem dX12_goes_87 : decode cX12_goes 87 = .ok (.iconst (-1), 1) := by decide +kernel
theorem dX12_goes_88 : decode cX12_goes 88 = .ok (.istore 9, 2) := by decide +kernel
theorem dX12_goes_90 : decode cX12_goes 90 = .ok (.iload 7, 2) := by decide +kernel
theorem dX12_goes_92 : decode cX12_goes 92 = .ok (.ifCond .eq 92, 3) := by decide +kernel
theorem dX12_goes_95 : decode cX12_goes 95 = .ok (.aload_n 0, 1) := by decide +kernel
theorem dX12_goes_96 : decode cX12_goes 96 = .ok (.iload 8, 2) := by decide +kernel
theorem dX12_goes_98 : decode cX12_goes 98 = .ok (.invokevirtual 114, 3) := by decide +kernel
theorem dX12_goes_101 : decode cX12_goes 101 = .ok (.iconst 0, 1) := by decide +kernel
theorem dX12_goes_102 : decode cX12_goes 102 = .ok (.istore 10, 2) := by decide +kernel
theorem dX12_goes_104 : decode cX12_goes 104 = .ok (.iload 10, 2) := by decide +kernel
theorem dX12_goes_106 : decode cX12_goes 106 = .ok (.iconst 4, 1) := by decide +kernel
theorem dX12_goes_107 : decode cX12_goes 107 = .ok (.if_icmp .ge 77, 3) := by decide +kernel
theorem dX12_goes_110 : decode cX12_goes 110 = .ok (.aload_n 0, 1) := by decide +kernel
theorem dX12_goes_111 : decode cX12_goes 111 = .ok (.iload 6, 2) := by decide +kernel
theorem dX12_goes_113 : decode cX12_goes 113 = .ok (.iload 10, 2) := by decide +kernel
theorem dX12_goes_115 : decode cX12_goes 115 = .ok (.invokevirtual 111, 3) := by decide +kernel
theorem dX12_goes_118 : decode cX12_goes 118 = .ok (.istore 11, 2) := by decide +kernel
theorem dX12_goes_120 : decode cX12_goes 120 = .ok (.iload 11, 2) := by decide +kernel
theorem dX12_goes_122 : decode cX12_goes 122 = .ok (.ifCond .lt 17, 3) := by decide +kernel
theorem dX12_goes_125 : decode cX12_goes 125 = .ok (.aload_n 0, 1) := by decide +kernel
theorem dX12_goes_126 : decode cX12_goes 126 = .ok (.getfield 28, 3) := by decide +kernel
theorem dX12_goes_129 : decode cX12_goes 129 = .ok (.iload 11, 2) := by decide +kernel
theorem dX12_goes_131 : decode cX12_goes 131 = .ok (.iaload, 1) := by decide +kernel
theorem dX12_goes_132 : decode cX12_goes 132 = .ok (.ifCond .lt 7, 3) := by decide +kernel
theorem dX12_goes_135 : decode cX12_goes 135 = .ok (.iconst 1, 1) := by decide +kernel
theorem dX12_goes_136 : decode cX12_goes 136 = .ok (.goto 4, 3) := by decide +kernel
theorem dX12_goes_139 : decode cX12_goes 139 = .ok (.iconst 0, 1) := by decide +kernel
theorem dX12_goes_140 : decode cX12_goes 140 = .ok (.istore 12, 2) := by decide +kernel
theorem dX12_goes_142 : decode cX12_goes 142 = .ok (.iload 12, 2) := by decide +kernel
theorem dX12_goes_144 : decode cX12_goes 144 = .ok (.ifCond .eq 30, 3) := by decide +kernel
theorem dX12_goes_147 : decode cX12_goes 147 = .ok (.iload 9, 2) := by decide +kernel
theorem dX12_goes_149 : decode cX12_goes 149 = .ok (.ifCond .lt 20, 3) := by decide +kernel
theorem dX12_goes_152 : decode cX12_goes 152 = .ok (.aload_n 0, 1) := by decide +kernel
theorem dX12_goes_153 : decode cX12_goes 153 = .ok (.getfield 28, 3) := by decide +kernel
theorem dX12_goes_156 : decode cX12_goes 156 = .ok (.iload 11, 2) := by decide +kernel
theorem dX12_goes_158 : decode cX12_goes 158 = .ok (.iaload, 1) := by decide +kernel
theorem dX12_goes_159 : decode cX12_goes 159 = .ok (.aload_n 0, 1) := by decide +kernel
theorem dX12_goes_160 : decode cX12_goes 160 = .ok (.getfield 28, 3) := by decide +kernel
theorem dX12_goes_163 : decode cX12_goes 163 = .ok (.iload 9, 2) := by decide +kernel
theorem dX12_goes_165 : decode cX12_goes 165 = .ok (.iaload, 1) := by decide +kernel
theorem dX12_goes_166 : decode cX12_goes 166 = .ok (.if_icmp .ge 8, 3) := by decide +kernel
theorem dX12_goes_169 : decode cX12_goes 169 = .ok (.iload 11, 2) := by decide +kernel
theorem dX12_goes_171 : decode cX12_goes 171 = .ok (.goto 5, 3) := by decide +kernel
theorem dX12_goes_174 : decode cX12_goes 174 = .ok (.iload 9, 2) := by decide +kernel
theorem dX12_goes_176 : decode cX12_goes 176 = .ok (.istore 9, 2) := by decide +kernel
theorem dX12_goes_178 : decode cX12_goes 178 = .ok (.iinc 10 1, 3) := by decide +kernel
theorem dX12_goes_181 : decode cX12_goes 181 = .ok (.goto (-77), 3) := by decide +kernel
theorem dX12_goes_184 : decode cX12_goes 184 = .ok (.iload 9, 2) := by decide +kernel
theorem dX12_goes_186 : decode cX12_goes 186 = .ok (.ifCond .ge 22, 3) := by decide +kernel
theorem dX12_goes_189 : decode cX12_goes 189 = .ok (.aload_n 0, 1) := by decide +kernel
theorem dX12_goes_190 : decode cX12_goes 190 = .ok (.getfield 9, 3) := by decide +kernel
theorem dX12_goes_193 : decode cX12_goes 193 = .ok (.iload_n 1, 1) := by decide +kernel
theorem dX12_goes_194 : decode cX12_goes 194 = .ok (.bipush 7, 2) := by decide +kernel
theorem dX12_goes_196 : decode cX12_goes 196 = .ok (.invokestatic 87, 3) := by decide +kernel
theorem dX12_goes_199 : decode cX12_goes 199 = .ok (.aload_n 0, 1) := by decide +kernel
theorem dX12_goes_200 : decode cX12_goes 200 = .ok (.iload_n 2, 1) := by decide +kernel
theorem dX12_goes_201 : decode cX12_goes 201 = .ok (.iload_n 3, 1) := by decide +kernel
theorem dX12_goes_202 : decode cX12_goes 202 = .ok (.invokevirtual 273, 3) := by decide +kernel
theorem dX12_goes_205 : decode cX12_goes 205 = .ok (.iastore, 1) := by decide +kernel
theorem dX12_goes_206 : decode cX12_goes 206 = .ok (.iconst 1, 1) := by decide +kernel
theorem dX12_goes_207 : decode cX12_goes 207 = .ok (.ireturn, 1) := by decide +kernel
theorem dX12_goes_208 : decode cX12_goes 208 = .ok (.aload_n 0, 1) := by decide +kernel
theorem dX12_goes_209 : decode cX12_goes 209 = .ok (.iload 9, 2) := by decide +kernel
theorem dX12_goes_211 : decode cX12_goes 211 = .ok (.iconst 3, 1) := by decide +kernel
theorem dX12_goes_212 : decode cX12_goes 212 = .ok (.invokevirtual 101, 3) := by decide +kernel
theorem dX12_goes_215 : decode cX12_goes 215 = .ok (.ifCond .eq 7, 3) := by decide +kernel
theorem dX12_goes_218 : decode cX12_goes 218 = .ok (.iconst 1, 1) := by decide +kernel
theorem dX12_goes_219 : decode cX12_goes 219 = .ok (.goto 4, 3) := by decide +kernel
theorem dX12_goes_222 : decode cX12_goes 222 = .ok (.iconst 2, 1) := by decide +kernel
theorem dX12_goes_223 : decode cX12_goes 223 = .ok (.istore 10, 2) := by decide +kernel
theorem dX12_goes_225 : decode cX12_goes 225 = .ok (.aload_n 0, 1) := by decide +kernel
theorem dX12_goes_226 : decode cX12_goes 226 = .ok (.iload 9, 2) := by decide +kernel
theorem dX12_goes_228 : decode cX12_goes 228 = .ok (.invokevirtual 95, 3) := by decide +kernel
theorem dX12_goes_231 : decode cX12_goes 231 = .ok (.ifCond .ge 41, 3) := by decide +kernel
theorem dX12_goes_234 : decode cX12_goes 234 = .ok (.aload_n 0, 1) := by decide +kernel
theorem dX12_goes_235 : decode cX12_goes 235 = .ok (.getfield 9, 3) := by decide +kernel
theorem dX12_goes_238 : decode cX12_goes 238 = .ok (.iload_n 1, 1) := by decide +kernel
theorem dX12_goes_239 : decode cX12_goes 239 = .ok (.iconst 2, 1) := by decide +kernel
theorem dX12_goes_240 : decode cX12_goes 240 = .ok (.invokestatic 87, 3) := by decide +kernel
theorem dX12_goes_243 : decode cX12_goes 243 = .ok (.iaload, 1) := by decide +kernel
theorem dX12_goes_244 : decode cX12_goes 244 = .ok (.iload 10, 2) := by decide +kernel
theorem dX12_goes_246 : decode cX12_goes 246 = .ok (.if_icmp .lt 26, 3) := by decide +kernel
theorem dX12_goes_249 : decode cX12_goes 249 = .ok (.aload_n 0, 1) := by decide +kernel
theorem dX12_goes_250 : decode cX12_goes 250 = .ok (.getfield 9, 3) := by decide +kernel
theorem dX12_goes_253 : decode cX12_goes 253 = .ok (.iload_n 1, 1) := by decide +kernel
theorem dX12_goes_254 : decode cX12_goes 254 = .ok (.iconst 1, 1) := by decide +kernel
theorem dX12_goes_255 : decode cX12_goes 255 = .ok (.invokestatic 87, 3) := by decide +kernel
theorem dX12_goes_258 : decode cX12_goes 258 = .ok (.iload 9, 2) := by decide +kernel
theorem dX12_goes_260 : decode cX12_goes 260 = .ok (.iastore, 1) := by decide +kernel
theorem dX12_goes_261 : decode cX12_goes 261 = .ok (.aload_n 0, 1) := by decide +kernel
theorem dX12_goes_262 : decode cX12_goes 262 = .ok (.iload_n 1, 1) := by decide +kernel
theorem dX12_goes_263 : decode cX12_goes 263 = .ok (.iload 10, 2) := by decide +kernel
theorem dX12_goes_265 : decode cX12_goes 265 = .ok (.iload 10, 2) := by decide +kernel
theorem dX12_goes_267 : decode cX12_goes 267 = .ok (.iconst 1, 1) := by decide +kernel
theorem dX12_goes_268 : decode cX12_goes 268 = .ok (.isub, 1) := by decide +kernel
theorem dX12_goes_269 : decode cX12_goes 269 = .ok (.invokevirtual 298, 3) := by decide +kernel
theorem dX12_goes_272 : decode cX12_goes 272 = .ok (.iconst 1, 1) := by decide +kernel
theorem dX12_goes_273 : decode cX12_goes 273 = .ok (.ireturn, 1) := by decide +kernel
theorem dX12_scoops_0 : decode cX12_scoops 0 = .ok (.aload_n 0, 1) := by decide +kernel
theorem dX12_scoops_1 : decode cX12_scoops 1 = .ok (.getfield 9, 3) := by decide +kernel
theorem dX12_scoops_4 : decode cX12_scoops 4 = .ok (.iload_n 1, 1) := by decide +kernel
theorem dX12_scoops_5 : decode cX12_scoops 5 = .ok (.iconst 1, 1) := by decide +kernel
theorem dX12_scoops_6 : decode cX12_scoops 6 = .ok (.invokestatic 87, 3) := by decide +kernel
theorem dX12_scoops_9 : decode cX12_scoops 9 = .ok (.iaload, 1) := by decide +kernel
theorem dX12_scoops_10 : decode cX12_scoops 10 = .ok (.istore_n 2, 1) := by decide +kernel
theorem dX12_scoops_11 : decode cX12_scoops 11 = .ok (.aload_n 0, 1) := by decide +kernel
theorem dX12_scoops_12 : decode cX12_scoops 12 = .ok (.getfield 9, 3) := by decide +kernel
theorem dX12_scoops_15 : decode cX12_scoops 15 = .ok (.bipush 30, 2) := by decide +kernel
theorem dX12_scoops_17 : decode cX12_scoops 17 = .ok (.iload_n 2, 1) := by decide +kernel
theorem dX12_scoops_18 : decode cX12_scoops 18 = .ok (.iadd, 1) := by decide +kernel
theorem dX12_scoops_19 : decode cX12_scoops 19 = .ok (.iaload, 1) := by decide +kernel
theorem dX12_scoops_20 : decode cX12_scoops 20 = .ok (.iconst 2, 1) := by decide +kernel
theorem dX12_scoops_21 : decode cX12_scoops 21 = .ok (.if_icmp .ne 7, 3) := by decide +kernel
theorem dX12_scoops_24 : decode cX12_scoops 24 = .ok (.iconst 1, 1) := by decide +kernel
theorem dX12_scoops_25 : decode cX12_scoops 25 = .ok (.goto 4, 3) := by decide +kernel
theorem dX12_scoops_28 : decode cX12_scoops 28 = .ok (.iconst 0, 1) := by decide +kernel
theorem dX12_scoops_29 : decode cX12_scoops 29 = .ok (.istore_n 3, 1) := by decide +kernel
theorem dX12_scoops_30 : decode cX12_scoops 30 = .ok (.iload_n 3, 1) := by decide +kernel
theorem dX12_scoops_31 : decode cX12_scoops 31 = .ok (.ifCond .ne 10, 3) := by decide +kernel
theorem dX12_scoops_34 : decode cX12_scoops 34 = .ok (.bipush 110, 2) := by decide +kernel
theorem dX12_scoops_36 : decode cX12_scoops 36 = .ok (.iload_n 2, 1) := by decide +kernel
theorem dX12_scoops_37 : decode cX12_scoops 37 = .ok (.iadd, 1) := by decide +kernel
theorem dX12_scoops_38 : decode cX12_scoops 38 = .ok (.goto 8, 3) := by decide +kernel
theorem dX12_scoops_41 : decode cX12_scoops 41 = .ok (.sipush 190, 3) := by decide +kernel
theorem dX12_scoops_44 : decode cX12_scoops 44 = .ok (.iload_n 2, 1) := by decide +kernel
theorem dX12_scoops_45 : decode cX12_scoops 45 = .ok (.iadd, 1) := by decide +kernel
theorem dX12_scoops_46 : decode cX12_scoops 46 = .ok (.istore 4, 2) := by decide +kernel
theorem dX12_scoops_48 : decode cX12_scoops 48 = .ok (.aload_n 0, 1) := by decide +kernel
theorem dX12_scoops_49 : decode cX12_scoops 49 = .ok (.getfield 9, 3) := by decide +kernel
theorem dX12_scoops_52 : decode cX12_scoops 52 = .ok (.iload_n 1, 1) := by decide +kernel
theorem dX12_scoops_53 : decode cX12_scoops 53 = .ok (.iconst 4, 1) := by decide +kernel
theorem dX12_scoops_54 : decode cX12_scoops 54 = .ok (.invokestatic 87, 3) := by decide +kernel
theorem dX12_scoops_57 : decode cX12_scoops 57 = .ok (.iaload, 1) := by decide +kernel
theorem dX12_scoops_58 : decode cX12_scoops 58 = .ok (.istore 5, 2) := by decide +kernel
theorem dX12_scoops_60 : decode cX12_scoops 60 = .ok (.iconst 5, 1) := by decide +kernel
theorem dX12_scoops_61 : decode cX12_scoops 61 = .ok (.aload_n 0, 1) := by decide +kernel
theorem dX12_scoops_62 : decode cX12_scoops 62 = .ok (.getfield 9, 3) := by decide +kernel
theorem dX12_scoops_65 : decode cX12_scoops 65 = .ok (.iload 4, 2) := by decide +kernel
theorem dX12_scoops_67 : decode cX12_scoops 67 = .ok (.iaload, 1) := by decide +kernel
theorem dX12_scoops_68 : decode cX12_scoops 68 = .ok (.invokestatic 106, 3) := by decide +kernel
theorem dX12_scoops_71 : decode cX12_scoops 71 = .ok (.bipush 10, 2) := by decide +kernel
theorem dX12_scoops_73 : decode cX12_scoops 73 = .ok (.iload 5, 2) := by decide +kernel
theorem dX12_scoops_75 : decode cX12_scoops 75 = .ok (.isub, 1) := by decide +kernel
theorem dX12_scoops_76 : decode cX12_scoops 76 = .ok (.invokestatic 106, 3) := by decide +kernel
theorem dX12_scoops_79 : decode cX12_scoops 79 = .ok (.istore 6, 2) := by decide +kernel
theorem dX12_scoops_81 : decode cX12_scoops 81 = .ok (.aload_n 0, 1) := by decide +kernel
theorem dX12_scoops_82 : decode cX12_scoops 82 = .ok (.iload_n 1, 1) := by decide +kernel
theorem dX12_scoops_83 : decode cX12_scoops 83 = .ok (.iconst 1, 1) := by decide +kernel
theorem dX12_scoops_84 : decode cX12_scoops 84 = .ok (.invokevirtual 132, 3) := by decide +kernel
theorem dX12_scoops_87 : decode cX12_scoops 87 = .ok (.ifCond .eq 41, 3) := by decide +kernel
theorem dX12_scoops_90 : decode cX12_scoops 90 = .ok (.iload 5, 2) := by decide +kernel
theorem dX12_scoops_92 : decode cX12_scoops 92 = .ok (.ifCond .le 17, 3) := by decide +kernel
theorem dX12_scoops_95 : decode cX12_scoops 95 = .ok (.aload_n 0, 1) := by decide +kernel
theorem dX12_scoops_96 : decode cX12_scoops 96 = .ok (.getfield 9, 3) := by decide +kernel
theorem dX12_scoops_99 : decode cX12_scoops 99 = .ok (.iload_n 1, 1) := by decide +kernel
theorem dX12_scoops_100 : decode cX12_scoops 100 = .ok (.iconst 5, 1) := by decide +kernel
theorem dX12_scoops_101 : decode cX12_scoops 101 = .ok (.invokestatic 87, 3) := by decide +kernel
theorem dX12_scoops_104 : decode cX12_scoops 104 = .ok (.iaload, 1) := by decide +kernel
theorem dX12_scoops_105 : decode cX12_scoops 105 = .ok (.iload_n 3, 1) := by decide +kernel
theorem dX12_scoops_106 : decode cX12_scoops 106 = .ok (.if_icmp .ne 22, 3) := by decide +kernel
theorem dX12_scoops_109 : decode cX12_scoops 109 = .ok (.aload_n 0, 1) := by decide +kernel
theorem dX12_scoops_110 : decode cX12_scoops 110 = .ok (.getfield 9, 3) := by decide +kernel
theorem dX12_scoops_113 : decode cX12_scoops 113 = .ok (.iload_n 1, 1) := by decide +kernel
theorem dX12_scoops_114 : decode cX12_scoops 114 = .ok (.iconst 2, 1) := by decide +kernel
theorem dX12_scoops_115 : decode cX12_scoops 115 = .ok (.invokestatic 87, 3) := by decide +kernel
theorem dX12_scoops_118 : decode cX12_scoops 118 = .ok (.iaload, 1) := by decide +kernel
theorem dX12_scoops_119 : decode cX12_scoops 119 = .ok (.iconst 3, 1) := by decide +kernel
theorem dX12_scoops_120 : decode cX12_scoops 120 = .ok (.if_icmp .lt 8, 3) := by decide +kernel
theorem dX12_scoops_123 : decode cX12_scoops 123 = .ok (.iload 6, 2) := by decide +kernel
theorem dX12_scoops_125 : decode cX12_scoops 125 = .ok (.ifCond .gt 4, 3) := by decide +kernel
theorem dX12_scoops_128 : decode cX12_scoops 128 = .ok (.return_, 1) := by decide +kernel
theorem dX12_scoops_129 : decode cX12_scoops 129 = .ok (.aload_n 0, 1) := by decide +kernel
theorem dX12_scoops_130 : decode cX12_scoops 130 = .ok (.getfield 9, 3) := by decide +kernel
theorem dX12_scoops_133 : decode cX12_scoops 133 = .ok (.iload 4, 2) := by decide +kernel
theorem dX12_scoops_135 : decode cX12_scoops 135 = .ok (.dup2, 1) := by decide +kernel
theorem dX12_scoops_136 : decode cX12_scoops 136 = .ok (.iaload, 1) := by decide +kernel
theorem dX12_scoops_137 : decode cX12_scoops 137 = .ok (.iload 6, 2) := by decide +kernel
theorem dX12_scoops_139 : decode cX12_scoops 139 = .ok (.isub, 1) := by decide +kernel
theorem dX12_scoops_140 : decode cX12_scoops 140 = .ok (.iastore, 1) := by decide +kernel
theorem dX12_scoops_141 : decode cX12_scoops 141 = .ok (.aload_n 0, 1) := by decide +kernel
theorem dX12_scoops_142 : decode cX12_scoops 142 = .ok (.getfield 9, 3) := by decide +kernel
theorem dX12_scoops_145 : decode cX12_scoops 145 = .ok (.iload_n 1, 1) := by decide +kernel
theorem dX12_scoops_146 : decode cX12_scoops 146 = .ok (.iconst 4, 1) := by decide +kernel
theorem dX12_scoops_147 : decode cX12_scoops 147 = .ok (.invokestatic 87, 3) := by decide +kernel
theorem dX12_scoops_150 : decode cX12_scoops 150 = .ok (.dup2, 1) := by decide +kernel
theorem dX12_scoops_151 : decode cX12_scoops 151 = .ok (.iaload, 1) := by decide +kernel
theorem dX12_scoops_152 : decode cX12_scoops 152 = .ok (.iload 6, 2) := by decide +kernel
theorem dX12_scoops_154 : decode cX12_scoops 154 = .ok (.iadd, 1) := by decide +kernel
theorem dX12_scoops_155 : decode cX12_scoops 155 = .ok (.iastore, 1) := by decide +kernel
theorem dX12_scoops_156 : decode cX12_scoops 156 = .ok (.aload_n 0, 1) := by decide +kernel
theorem dX12_scoops_157 : decode cX12_scoops 157 = .ok (.getfield 9, 3) := by decide +kernel
theorem dX12_scoops_160 : decode cX12_scoops 160 = .ok (.iload_n 1, 1) := by decide +kernel
theorem dX12_scoops_161 : decode cX12_scoops 161 = .ok (.iconst 5, 1) := by decide +kernel
theorem dX12_scoops_162 : decode cX12_scoops 162 = .ok (.invokestatic 87, 3) := by decide +kernel
theorem dX12_scoops_165 : decode cX12_scoops 165 = .ok (.iload_n 3, 1) := by decide +kernel
theorem dX12_scoops_166 : decode cX12_scoops 166 = .ok (.iastore, 1) := by decide +kernel
theorem dX12_scoops_167 : decode cX12_scoops 167 = .ok (.aload_n 0, 1) := by decide +kernel
theorem dX12_scoops_168 : decode cX12_scoops 168 = .ok (.iload_n 1, 1) := by decide +kernel
theorem dX12_scoops_169 : decode cX12_scoops 169 = .ok (.iconst 3, 1) := by decide +kernel
theorem dX12_scoops_170 : decode cX12_scoops 170 = .ok (.iconst 2, 1) := by decide +kernel
theorem dX12_scoops_171 : decode cX12_scoops 171 = .ok (.invokevirtual 298, 3) := by decide +kernel
theorem dX12_scoops_174 : decode cX12_scoops 174 = .ok (.return_, 1) := by decide +kernel
theorem dX12_drops_0 : decode cX12_drops 0 = .ok (.aload_n 0, 1) := by decide +kernel
theorem dX12_drops_1 : decode cX12_drops 1 = .ok (.getfield 9, 3) := by decide +kernel
theorem dX12_drops_4 : decode cX12_drops 4 = .ok (.iload_n 1, 1) := by decide +kernel
theorem dX12_drops_5 : decode cX12_drops 5 = .ok (.iconst 4, 1) := by decide +kernel
theorem dX12_drops_6 : decode cX12_drops 6 = .ok (.invokestatic 87, 3) := by decide +kernel
theorem dX12_drops_9 : decode cX12_drops 9 = .ok (.iaload, 1) := by decide +kernel
theorem dX12_drops_10 : decode cX12_drops 10 = .ok (.istore_n 2, 1) := by decide +kernel
theorem dX12_drops_11 : decode cX12_drops 11 = .ok (.iload_n 2, 1) := by decide +kernel
theorem dX12_drops_12 : decode cX12_drops 12 = .ok (.ifCond .ne 4, 3) := by decide +kernel
theorem dX12_drops_15 : decode cX12_drops 15 = .ok (.return_, 1) := by decide +kernel
theorem dX12_drops_16 : decode cX12_drops 16 = .ok (.aload_n 0, 1) := by decide +kernel
theorem dX12_drops_17 : decode cX12_drops 17 = .ok (.getfield 9, 3) := by decide +kernel
theorem dX12_drops_20 : decode cX12_drops 20 = .ok (.iload_n 1, 1) := by decide +kernel
theorem dX12_drops_21 : decode cX12_drops 21 = .ok (.iconst 1, 1) := by decide +kernel
theorem dX12_drops_22 : decode cX12_drops 22 = .ok (.invokestatic 87, 3) := by decide +kernel
theorem dX12_drops_25 : decode cX12_drops 25 = .ok (.iaload, 1) := by decide +kernel
theorem dX12_drops_26 : decode cX12_drops 26 = .ok (.istore_n 3, 1) := by decide +kernel
theorem dX12_drops_27 : decode cX12_drops 27 = .ok (.aload_n 0, 1) := by decide +kernel
theorem dX12_drops_28 : decode cX12_drops 28 = .ok (.getfield 9, 3) := by decide +kernel
theorem dX12_drops_31 : decode cX12_drops 31 = .ok (.iload_n 1, 1) := by decide +kernel
theorem dX12_drops_32 : decode cX12_drops 32 = .ok (.iconst 5, 1) := by decide +kernel
theorem dX12_drops_33 : decode cX12_drops 33 = .ok (.invokestatic 87, 3) := by decide +kernel
theorem dX12_drops_36 : decode cX12_drops 36 = .ok (.iaload, 1) := by decide +kernel
theorem dX12_drops_37 : decode cX12_drops 37 = .ok (.istore 4, 2) := by decide +kernel
theorem dX12_drops_39 : decode cX12_drops 39 = .ok (.aload_n 0, 1) := by decide +kernel
theorem dX12_drops_40 : decode cX12_drops 40 = .ok (.getfield 9, 3) := by decide +kernel
theorem dX12_drops_43 : decode cX12_drops 43 = .ok (.aload_n 0, 1) := by decide +kernel
theorem dX12_drops_44 : decode cX12_drops 44 = .ok (.getfield 9, 3) := by decide +kernel
theorem dX12_drops_47 : decode cX12_drops 47 = .ok (.bipush 30, 2) := by decide +kernel
theorem dX12_drops_49 : decode cX12_drops 49 = .ok (.iload_n 3, 1) := by decide +kernel
theorem dX12_drops_50 : decode cX12_drops 50 = .ok (.iadd, 1) := by decide +kernel
theorem dX12_drops_51 : decode cX12_drops 51 = .ok (.iaload, 1) := by decide +kernel
theorem dX12_drops_52 : decode cX12_drops 52 = .ok (.iconst 4, 1) := by decide +kernel
theorem dX12_drops_53 : decode cX12_drops 53 = .ok (.if_icmp .ne 11, 3) := by decide +kernel
theorem dX12_drops_56 : decode cX12_drops 56 = .ok (.bipush 10, 2) := by decide +kernel
theorem dX12_drops_58 : decode cX12_drops 58 = .ok (.iload 4, 2) := by decide +kernel
theorem dX12_drops_60 : decode cX12_drops 60 = .ok (.iadd, 1) := by decide +kernel
theorem dX12_drops_61 : decode cX12_drops 61 = .ok (.goto 20, 3) := by decide +kernel
theorem dX12_drops_64 : decode cX12_drops 64 = .ok (.iload 4, 2) := by decide +kernel
theorem dX12_drops_66 : decode cX12_drops 66 = .ok (.ifCond .ne 10, 3) := by decide +kernel
theorem dX12_drops_69 : decode cX12_drops 69 = .ok (.bipush 110, 2) := by decide +kernel
theorem dX12_drops_71 : decode cX12_drops 71 = .ok (.iload_n 3, 1) := by decide +kernel
theorem dX12_drops_72 : decode cX12_drops 72 = .ok (.iadd, 1) := by decide +kernel
theorem dX12_drops_73 : decode cX12_drops 73 = .ok (.goto 8, 3) := by decide +kernel
theorem dX12_drops_76 : decode cX12_drops 76 = .ok (.sipush 190, 3) := by decide +kernel
theorem dX12_drops_79 : decode cX12_drops 79 = .ok (.iload_n 3, 1) := by decide +kernel
theorem dX12_drops_80 : decode cX12_drops 80 = .ok (.iadd, 1) := by decide +kernel
theorem dX12_drops_81 : decode cX12_drops 81 = .ok (.dup2, 1) := by decide +kernel
theorem dX12_drops_82 : decode cX12_drops 82 = .ok (.iaload, 1) := by decide +kernel
theorem dX12_drops_83 : decode cX12_drops 83 = .ok (.iload_n 2, 1) := by decide +kernel
theorem dX12_drops_84 : decode cX12_drops 84 = .ok (.iadd, 1) := by decide +kernel
theorem dX12_drops_85 : decode cX12_drops 85 = .ok (.iastore, 1) := by decide +kernel
theorem dX12_drops_86 : decode cX12_drops 86 = .ok (.aload_n 0, 1) := by decide +kernel
theorem dX12_drops_87 : decode cX12_drops 87 = .ok (.getfield 9, 3) := by decide +kernel
theorem dX12_drops_90 : decode cX12_drops 90 = .ok (.iload_n 1, 1) := by decide +kernel
theorem dX12_drops_91 : decode cX12_drops 91 = .ok (.iconst 4, 1) := by decide +kernel
theorem dX12_drops_92 : decode cX12_drops 92 = .ok (.invokestatic 87, 3) := by decide +kernel
theorem dX12_drops_95 : decode cX12_drops 95 = .ok (.iconst 0, 1) := by decide +kernel
theorem dX12_drops_96 : decode cX12_drops 96 = .ok (.iastore, 1) := by decide +kernel
theorem dX12_drops_97 : decode cX12_drops 97 = .ok (.aload_n 0, 1) := by decide +kernel
theorem dX12_drops_98 : decode cX12_drops 98 = .ok (.iload_n 1, 1) := by decide +kernel
theorem dX12_drops_99 : decode cX12_drops 99 = .ok (.iconst 1, 1) := by decide +kernel
theorem dX12_drops_100 : decode cX12_drops 100 = .ok (.iconst 0, 1) := by decide +kernel
theorem dX12_drops_101 : decode cX12_drops 101 = .ok (.invokevirtual 298, 3) := by decide +kernel
theorem dX12_drops_104 : decode cX12_drops 104 = .ok (.return_, 1) := by decide +kernel
theorem dX12_fuses_0 : decode cX12_fuses 0 = .ok (.aload_n 0, 1) := by decide +kernel
theorem dX12_fuses_1 : decode cX12_fuses 1 = .ok (.getfield 9, 3) := by decide +kernel
theorem dX12_fuses_4 : decode cX12_fuses 4 = .ok (.iload_n 1, 1) := by decide +kernel
theorem dX12_fuses_5 : decode cX12_fuses 5 = .ok (.iconst 1, 1) := by decide +kernel
theorem dX12_fuses_6 : decode cX12_fuses 6 = .ok (.invokestatic 87, 3) := by decide +kernel
theorem dX12_fuses_9 : decode cX12_fuses 9 = .ok (.iaload, 1) := by decide +kernel
theorem dX12_fuses_10 : decode cX12_fuses 10 = .ok (.istore_n 2, 1) := by decide +kernel
theorem dX12_fuses_11 : decode cX12_fuses 11 = .ok (.aload_n 0, 1) := by decide +kernel
theorem dX12_fuses_12 : decode cX12_fuses 12 = .ok (.getfield 9, 3) := by decide +kernel
theorem dX12_fuses_15 : decode cX12_fuses 15 = .ok (.iload_n 1, 1) := by decide +kernel
theorem dX12_fuses_16 : decode cX12_fuses 16 = .ok (.iconst 0, 1) := by decide +kernel
theorem dX12_fuses_17 : decode cX12_fuses 17 = .ok (.invokestatic 87, 3) := by decide +kernel
theorem dX12_fuses_20 : decode cX12_fuses 20 = .ok (.iaload, 1) := by decide +kernel
theorem dX12_fuses_21 : decode cX12_fuses 21 = .ok (.iconst 2, 1) := by decide +kernel
theorem dX12_fuses_22 : decode cX12_fuses 22 = .ok (.if_icmp .ne 48, 3) := by decide +kernel
theorem dX12_fuses_25 : decode cX12_fuses 25 = .ok (.aload_n 0, 1) := by decide +kernel
theorem dX12_fuses_26 : decode cX12_fuses 26 = .ok (.getfield 9, 3) := by decide +kernel
theorem dX12_fuses_29 : decode cX12_fuses 29 = .ok (.iload_n 1, 1) := by decide +kernel
theorem dX12_fuses_30 : decode cX12_fuses 30 = .ok (.iconst 2, 1) := by decide +kernel
theorem dX12_fuses_31 : decode cX12_fuses 31 = .ok (.invokestatic 87, 3) := by decide +kernel
theorem dX12_fuses_34 : decode cX12_fuses 34 = .ok (.iaload, 1) := by decide +kernel
theorem dX12_fuses_35 : decode cX12_fuses 35 = .ok (.bipush 6, 2) := by decide +kernel
theorem dX12_fuses_37 : decode cX12_fuses 37 = .ok (.if_icmp .lt 33, 3) := by decide +kernel
theorem dX12_fuses_40 : decode cX12_fuses 40 = .ok (.aload_n 0, 1) := by decide +kernel
theorem dX12_fuses_41 : decode cX12_fuses 41 = .ok (.getfield 9, 3) := by decide +kernel
theorem dX12_fuses_44 : decode cX12_fuses 44 = .ok (.bipush 30, 2) := by decide +kernel
theorem dX12_fuses_46 : decode cX12_fuses 46 = .ok (.iload_n 2, 1) := by decide +kernel
theorem dX12_fuses_47 : decode cX12_fuses 47 = .ok (.iadd, 1) := by decide +kernel
theorem dX12_fuses_48 : decode cX12_fuses 48 = .ok (.iaload, 1) := by decide +kernel
theorem dX12_fuses_49 : decode cX12_fuses 49 = .ok (.ifCond .ne 21, 3) := by decide +kernel
theorem dX12_fuses_52 : decode cX12_fuses 52 = .ok (.aload_n 0, 1) := by decide +kernel
theorem dX12_fuses_53 : decode cX12_fuses 53 = .ok (.getfield 9, 3) := by decide +kernel
theorem dX12_fuses_56 : decode cX12_fuses 56 = .ok (.bipush 110, 2) := by decide +kernel
theorem dX12_fuses_58 : decode cX12_fuses 58 = .ok (.iload_n 2, 1) := by decide +kernel
theorem dX12_fuses_59 : decode cX12_fuses 59 = .ok (.iadd, 1) := by decide +kernel
theorem dX12_fuses_60 : decode cX12_fuses 60 = .ok (.iaload, 1) := by decide +kernel
theorem dX12_fuses_61 : decode cX12_fuses 61 = .ok (.bipush 10, 2) := by decide +kernel
theorem dX12_fuses_63 : decode cX12_fuses 63 = .ok (.if_icmp .lt 7, 3) := by decide +kernel
theorem dX12_fuses_66 : decode cX12_fuses 66 = .ok (.iconst 1, 1) := by decide +kernel
theorem dX12_fuses_67 : decode cX12_fuses 67 = .ok (.goto 4, 3) := by decide +kernel
theorem dX12_fuses_70 : decode cX12_fuses 70 = .ok (.iconst 0, 1) := by decide +kernel
theorem dX12_fuses_71 : decode cX12_fuses 71 = .ok (.istore_n 3, 1) := by decide +kernel
theorem dX12_fuses_72 : decode cX12_fuses 72 = .ok (.iload_n 3, 1) := by decide +kernel
theorem dX12_fuses_73 : decode cX12_fuses 73 = .ok (.ifCond .eq 47, 3) := by decide +kernel
theorem dX12_fuses_76 : decode cX12_fuses 76 = .ok (.aload_n 0, 1) := by decide +kernel
theorem dX12_fuses_77 : decode cX12_fuses 77 = .ok (.getfield 9, 3) := by decide +kernel
theorem dX12_fuses_80 : decode cX12_fuses 80 = .ok (.bipush 30, 2) := by decide +kernel
theorem dX12_fuses_82 : decode cX12_fuses 82 = .ok (.iload_n 2, 1) := by decide +kernel
theorem dX12_fuses_83 : decode cX12_fuses 83 = .ok (.iadd, 1) := by decide +kernel
theorem dX12_fuses_84 : decode cX12_fuses 84 = .ok (.iconst 3, 1) := by decide +kernel
theorem dX12_fuses_85 : decode cX12_fuses 85 = .ok (.iastore, 1) := by decide +kernel
theorem dX12_fuses_86 : decode cX12_fuses 86 = .ok (.aload_n 0, 1) := by decide +kernel
theorem dX12_fuses_87 : decode cX12_fuses 87 = .ok (.getfield 9, 3) := by decide +kernel
theorem dX12_fuses_90 : decode cX12_fuses 90 = .ok (.bipush 110, 2) := by decide +kernel
theorem dX12_fuses_92 : decode cX12_fuses 92 = .ok (.iload_n 2, 1) := by decide +kernel
theorem dX12_fuses_93 : decode cX12_fuses 93 = .ok (.iadd, 1) := by decide +kernel
theorem dX12_fuses_94 : decode cX12_fuses 94 = .ok (.dup2, 1) := by decide +kernel
theorem dX12_fuses_95 : decode cX12_fuses 95 = .ok (.iaload, 1) := by decide +kernel
theorem dX12_fuses_96 : decode cX12_fuses 96 = .ok (.bipush 10, 2) := by decide +kernel
theorem dX12_fuses_98 : decode cX12_fuses 98 = .ok (.isub, 1) := by decide +kernel
theorem dX12_fuses_99 : decode cX12_fuses 99 = .ok (.iastore, 1) := by decide +kernel
theorem dX12_fuses_100 : decode cX12_fuses 100 = .ok (.aload_n 0, 1) := by decide +kernel
theorem dX12_fuses_101 : decode cX12_fuses 101 = .ok (.getfield 9, 3) := by decide +kernel
theorem dX12_fuses_104 : decode cX12_fuses 104 = .ok (.bipush 14, 2) := by decide +kernel
theorem dX12_fuses_106 : decode cX12_fuses 106 = .ok (.dup2, 1) := by decide +kernel
theorem dX12_fuses_107 : decode cX12_fuses 107 = .ok (.iaload, 1) := by decide +kernel
theorem dX12_fuses_108 : decode cX12_fuses 108 = .ok (.bipush 10, 2) := by decide +kernel
theorem dX12_fuses_110 : decode cX12_fuses 110 = .ok (.iadd, 1) := by decide +kernel
theorem dX12_fuses_111 : decode cX12_fuses 111 = .ok (.iastore, 1) := by decide +kernel
theorem dX12_fuses_112 : decode cX12_fuses 112 = .ok (.aload_n 0, 1) := by decide +kernel
theorem dX12_fuses_113 : decode cX12_fuses 113 = .ok (.iload_n 1, 1) := by decide +kernel
theorem dX12_fuses_114 : decode cX12_fuses 114 = .ok (.bipush 6, 2) := by decide +kernel
theorem dX12_fuses_116 : decode cX12_fuses 116 = .ok (.iconst 3, 1) := by decide +kernel
theorem dX12_fuses_117 : decode cX12_fuses 117 = .ok (.invokevirtual 298, 3) := by decide +kernel
theorem dX12_fuses_120 : decode cX12_fuses 120 = .ok (.return_, 1) := by decide +kernel
theorem dX12_charges_0 : decode cX12_charges 0 = .ok (.aload_n 0, 1) := by decide +kernel
theorem dX12_charges_1 : decode cX12_charges 1 = .ok (.getfield 9, 3) := by decide +kernel
theorem dX12_charges_4 : decode cX12_charges 4 = .ok (.bipush 30, 2) := by decide +kernel
theorem dX12_charges_6 : decode cX12_charges 6 = .ok (.aload_n 0, 1) := by decide +kernel
theorem dX12_charges_7 : decode cX12_charges 7 = .ok (.getfield 9, 3) := by decide +kernel
theorem dX12_charges_10 : decode cX12_charges 10 = .ok (.iload_n 1, 1) := by decide +kernel
theorem dX12_charges_11 : decode cX12_charges 11 = .ok (.iconst 1, 1) := by decide +kernel
theorem dX12_charges_12 : decode cX12_charges 12 = .ok (.invokestatic 87, 3) := by decide +kernel
theorem dX12_charges_15 : decode cX12_charges 15 = .ok (.iaload, 1) := by decide +kernel
theorem dX12_charges_16 : decode cX12_charges 16 = .ok (.iadd, 1) := by decide +kernel
theorem dX12_charges_17 : decode cX12_charges 17 = .ok (.iaload, 1) := by decide +kernel
theorem dX12_charges_18 : decode cX12_charges 18 = .ok (.iconst 4, 1) := by decide +kernel
theorem dX12_charges_19 : decode cX12_charges 19 = .ok (.if_icmp .ne 55, 3) := by decide +kernel
theorem dX12_charges_22 : decode cX12_charges 22 = .ok (.bipush 20, 2) := by decide +kernel
theorem dX12_charges_24 : decode cX12_charges 24 = .ok (.aload_n 0, 1) := by decide +kernel
theorem dX12_charges_25 : decode cX12_charges 25 = .ok (.getfield 9, 3) := by decide +kernel
theorem dX12_charges_28 : decode cX12_charges 28 = .ok (.iconst 4, 1) := by decide +kernel
theorem dX12_charges_29 : decode cX12_charges 29 = .ok (.iaload, 1) := by decide +kernel
theorem dX12_charges_30 : decode cX12_charges 30 = .ok (.bipush 100, 2) := by decide +kernel
theorem dX12_charges_32 : decode cX12_charges 32 = .ok (.aload_n 0, 1) := by decide +kernel
theorem dX12_charges_33 : decode cX12_charges 33 = .ok (.getfield 9, 3) := by decide +kernel
theorem dX12_charges_36 : decode cX12_charges 36 = .ok (.iload_n 1, 1) := by decide +kernel
theorem dX12_charges_37 : decode cX12_charges 37 = .ok (.iconst 2, 1) := by decide +kernel
theorem dX12_charges_38 : decode cX12_charges 38 = .ok (.invokestatic 87, 3) := by decide +kernel
theorem dX12_charges_41 : decode cX12_charges 41 = .ok (.iaload, 1) := by decide +kernel
theorem dX12_charges_42 : decode cX12_charges 42 = .ok (.isub, 1) := by decide +kernel
theorem dX12_charges_43 : decode cX12_charges 43 = .ok (.invokestatic 106, 3) := by decide +kernel
theorem dX12_charges_46 : decode cX12_charges 46 = .ok (.invokestatic 106, 3) := by decide +kernel
theorem dX12_charges_49 : decode cX12_charges 49 = .ok (.istore_n 2, 1) := by decide +kernel
theorem dX12_charges_50 : decode cX12_charges 50 = .ok (.aload_n 0, 1) := by decide +kernel
theorem dX12_charges_51 : decode cX12_charges 51 = .ok (.getfield 9, 3) := by decide +kernel
theorem dX12_charges_54 : decode cX12_charges 54 = .ok (.iconst 4, 1) := by decide +kernel
theorem dX12_charges_55 : decode cX12_charges 55 = .ok (.dup2, 1) := by decide +kernel
theorem dX12_charges_56 : decode cX12_charges 56 = .ok (.iaload, 1) := by decide +kernel
theorem dX12_charges_57 : decode cX12_charges 57 = .ok (.iload_n 2, 1) := by decide +kernel
theorem dX12_charges_58 : decode cX12_charges 58 = .ok (.isub, 1) := by decide +kernel
theorem dX12_charges_59 : decode cX12_charges 59 = .ok (.iastore, 1) := by decide +kernel
theorem dX12_charges_60 : decode cX12_charges 60 = .ok (.aload_n 0, 1) := by decide +kernel
theorem dX12_charges_61 : decode cX12_charges 61 = .ok (.getfield 9, 3) := by decide +kernel
theorem dX12_charges_64 : decode cX12_charges 64 = .ok (.iload_n 1, 1) := by decide +kernel
theorem dX12_charges_65 : decode cX12_charges 65 = .ok (.iconst 2, 1) := by decide +kernel
theorem dX12_charges_66 : decode cX12_charges 66 = .ok (.invokestatic 87, 3) := by decide +kernel
theorem dX12_charges_69 : decode cX12_charges 69 = .ok (.dup2, 1) := by decide +kernel
theorem dX12_charges_70 : decode cX12_charges 70 = .ok (.iaload, 1) := by decide +kernel
theorem dX12_charges_71 : decode cX12_charges 71 = .ok (.iload_n 2, 1) := by decide +kernel
theorem dX12_charges_72 : decode cX12_charges 72 = .ok (.iadd, 1) := by decide +kernel
theorem dX12_charges_73 : decode cX12_charges 73 = .ok (.iastore, 1) := by decide +kernel
theorem dX12_charges_74 : decode cX12_charges 74 = .ok (.return_, 1) := by decide +kernel
theorem dX12_mends_0 : decode cX12_mends 0 = .ok (.aload_n 0, 1) := by decide +kernel
theorem dX12_mends_1 : decode cX12_mends 1 = .ok (.getfield 9, 3) := by decide +kernel
theorem dX12_mends_4 : decode cX12_mends 4 = .ok (.iload_n 1, 1) := by decide +kernel
theorem dX12_mends_5 : decode cX12_mends 5 = .ok (.iconst 0, 1) := by decide +kernel
theorem dX12_mends_6 : decode cX12_mends 6 = .ok (.invokestatic 87, 3) := by decide +kernel
theorem dX12_mends_9 : decode cX12_mends 9 = .ok (.iaload, 1) := by decide +kernel
theorem dX12_mends_10 : decode cX12_mends 10 = .ok (.iconst 3, 1) := by decide +kernel
theorem dX12_mends_11 : decode cX12_mends 11 = .ok (.if_icmp .ne 27, 3) := by decide +kernel
theorem dX12_mends_14 : decode cX12_mends 14 = .ok (.aload_n 0, 1) := by decide +kernel
theorem dX12_mends_15 : decode cX12_mends 15 = .ok (.getfield 9, 3) := by decide +kernel
theorem dX12_mends_18 : decode cX12_mends 18 = .ok (.iload_n 1, 1) := by decide +kernel
theorem dX12_mends_19 : decode cX12_mends 19 = .ok (.iconst 2, 1) := by decide +kernel
theorem dX12_mends_20 : decode cX12_mends 20 = .ok (.invokestatic 87, 3) := by decide +kernel
theorem dX12_mends_23 : decode cX12_mends 23 = .ok (.iaload, 1) := by decide +kernel
theorem dX12_mends_24 : decode cX12_mends 24 = .ok (.iconst 4, 1) := by decide +kernel
theorem dX12_mends_25 : decode cX12_mends 25 = .ok (.if_icmp .lt 13, 3) := by decide +kernel
theorem dX12_mends_28 : decode cX12_mends 28 = .ok (.aload_n 0, 1) := by decide +kernel
theorem dX12_mends_29 : decode cX12_mends 29 = .ok (.getfield 9, 3) := by decide +kernel
theorem dX12_mends_32 : decode cX12_mends 32 = .ok (.bipush 12, 2) := by decide +kernel
theorem dX12_mends_34 : decode cX12_mends 34 = .ok (.iaload, 1) := by decide +kernel
theorem dX12_mends_35 : decode cX12_mends 35 = .ok (.ifCond .ne 4, 3) := by decide +kernel
theorem dX12_mends_38 : decode cX12_mends 38 = .ok (.return_, 1) := by decide +kernel
theorem dX12_mends_39 : decode cX12_mends 39 = .ok (.iconst (-1), 1) := by decide +kernel
theorem dX12_mends_40 : decode cX12_mends 40 = .ok (.istore_n 2, 1) := by decide +kernel
theorem dX12_mends_41 : decode cX12_mends 41 = .ok (.iconst 0, 1) := by decide +kernel
theorem dX12_mends_42 : decode cX12_mends 42 = .ok (.istore_n 3, 1) := by decide +kernel
theorem dX12_mends_43 : decode cX12_mends 43 = .ok (.iload_n 3, 1) := by decide +kernel
theorem dX12_mends_44 : decode cX12_mends 44 = .ok (.iconst 4, 1) := by decide +kernel
theorem dX12_mends_45 : decode cX12_mends 45 = .ok (.if_icmp .ge 124, 3) := by decide +kernel
theorem dX12_mends_48 : decode cX12_mends 48 = .ok (.aload_n 0, 1) := by decide +kernel
theorem dX12_mends_49 : decode cX12_mends 49 = .ok (.aload_n 0, 1) := by decide +kernel
theorem dX12_mends_50 : decode cX12_mends 50 = .ok (.getfield 9, 3) := by decide +kernel
theorem dX12_mends_53 : decode cX12_mends 53 = .ok (.iload_n 1, 1) := by decide +kernel
theorem dX12_mends_54 : decode cX12_mends 54 = .ok (.iconst 1, 1) := by decide +kernel
theorem dX12_mends_55 : decode cX12_mends 55 = .ok (.invokestatic 87, 3) := by decide +kernel
theorem dX12_mends_58 : decode cX12_mends 58 = .ok (.iaload, 1) := by decide +kernel
theorem dX12_mends_59 : decode cX12_mends 59 = .ok (.iload_n 3, 1) := by decide +kernel
theorem dX12_mends_60 : decode cX12_mends 60 = .ok (.invokevirtual 111, 3) := by decide +kernel
theorem dX12_mends_63 : decode cX12_mends 63 = .ok (.istore 4, 2) := by decide +kernel
theorem dX12_mends_65 : decode cX12_mends 65 = .ok (.iconst 0, 1) := by decide +kernel
theorem dX12_mends_66 : decode cX12_mends 66 = .ok (.istore 5, 2) := by decide +kernel
theorem dX12_mends_68 : decode cX12_mends 68 = .ok (.iload 5, 2) := by decide +kernel
theorem dX12_mends_70 : decode cX12_mends 70 = .ok (.aload_n 0, 1) := by decide +kernel
theorem dX12_mends_71 : decode cX12_mends 71 = .ok (.getfield 9, 3) := by decide +kernel
theorem dX12_mends_74 : decode cX12_mends 74 = .ok (.bipush 16, 2) := by decide +kernel
theorem dX12_mends_76 : decode cX12_mends 76 = .ok (.iaload, 1) := by decide +kernel
theorem dX12_mends_77 : decode cX12_mends 77 = .ok (.if_icmp .ge 86, 3) := by decide +kernel
theorem dX12_mends_80 : decode cX12_mends 80 = .ok (.iload 4, 2) := by decide +kernel
theorem dX12_mends_82 : decode cX12_mends 82 = .ok (.ifCond .lt 23, 3) := by decide +kernel
theorem dX12_mends_85 : decode cX12_mends 85 = .ok (.iload 4, 2) := by decide +kernel
theorem dX12_mends_87 : decode cX12_mends 87 = .ok (.aload_n 0, 1) := by decide +kernel
theorem dX12_mends_88 : decode cX12_mends 88 = .ok (.getfield 9, 3) := by decide +kernel
theorem dX12_mends_91 : decode cX12_mends 91 = .ok (.iload 5, 2) := by decide +kernel
theorem dX12_mends_93 : decode cX12_mends 93 = .ok (.iconst 1, 1) := by decide +kernel
theorem dX12_mends_94 : decode cX12_mends 94 = .ok (.invokestatic 87, 3) := by decide +kernel
theorem dX12_mends_97 : decode cX12_mends 97 = .ok (.iaload, 1) := by decide +kernel
theorem dX12_mends_98 : decode cX12_mends 98 = .ok (.if_icmp .ne 7, 3) := by decide +kernel
theorem dX12_mends_101 : decode cX12_mends 101 = .ok (.iconst 1, 1) := by decide +kernel
theorem dX12_mends_102 : decode cX12_mends 102 = .ok (.goto 4, 3) := by decide +kernel
theorem dX12_mends_105 : decode cX12_mends 105 = .ok (.iconst 0, 1) := by decide +kernel
theorem dX12_mends_106 : decode cX12_mends 106 = .ok (.istore 6, 2) := by decide +kernel
theorem dX12_mends_108 : decode cX12_mends 108 = .ok (.aload_n 0, 1) := by decide +kernel
theorem dX12_mends_109 : decode cX12_mends 109 = .ok (.getfield 9, 3) := by decide +kernel
theorem dX12_mends_112 : decode cX12_mends 112 = .ok (.iload 5, 2) := by decide +kernel
theorem dX12_mends_114 : decode cX12_mends 114 = .ok (.iconst 3, 1) := by decide +kernel
theorem dX12_mends_115 : decode cX12_mends 115 = .ok (.invokestatic 87, 3) := by decide +kernel
theorem dX12_mends_118 : decode cX12_mends 118 = .ok (.iaload, 1) := by decide +kernel
theorem dX12_mends_119 : decode cX12_mends 119 = .ok (.istore 7, 2) := by decide +kernel
theorem dX12_mends_121 : decode cX12_mends 121 = .ok (.iload 6, 2) := by decide +kernel
theorem dX12_mends_123 : decode cX12_mends 123 = .ok (.ifCond .eq 32, 3) := by decide +kernel
theorem dX12_mends_126 : decode cX12_mends 126 = .ok (.iload 7, 2) := by decide +kernel
theorem dX12_mends_128 : decode cX12_mends 128 = .ok (.ifCond .le 27, 3) := by decide +kernel
theorem dX12_mends_131 : decode cX12_mends 131 = .ok (.iload_n 2, 1) := by decide +kernel
theorem dX12_mends_132 : decode cX12_mends 132 = .ok (.ifCond .lt 18, 3) := by decide +kernel
theorem dX12_mends_135 : decode cX12_mends 135 = .ok (.iload 7, 2) := by decide +kernel
theorem dX12_mends_137 : decode cX12_mends 137 = .ok (.aload_n 0, 1) := by decide +kernel
theorem dX12_mends_138 : decode cX12_mends 138 = .ok (.getfield 9, 3) := by decide +kernel
theorem dX12_mends_141 : decode cX12_mends 141 = .ok (.iload_n 2, 1) := by decide +kernel
theorem dX12_mends_142 : decode cX12_mends 142 = .ok (.iconst 3, 1) := by decide +kernel
theorem dX12_mends_143 : decode cX12_mends 143 = .ok (.invokestatic 87, 3) := by decide +kernel
theorem dX12_mends_146 : decode cX12_mends 146 = .ok (.iaload, 1) := by decide +kernel
theorem dX12_mends_147 : decode cX12_mends 147 = .ok (.if_icmp .le 8, 3) := by decide +kernel
theorem dX12_mends_150 : decode cX12_mends 150 = .ok (.iload 5, 2) := by decide +kernel
theorem dX12_mends_152 : decode cX12_mends 152 = .ok (.goto 4, 3) := by decide +kernel
theorem dX12_mends_155 : decode cX12_mends 155 = .ok (.iload_n 2, 1) := by decide +kernel
theorem dX12_mends_156 : decode cX12_mends 156 = .ok (.istore_n 2, 1) := by decide +kernel
theorem dX12_mends_157 : decode cX12_mends 157 = .ok (.iinc 5 1, 3) := by decide +kernel
theorem dX12_mends_160 : decode cX12_mends 160 = .ok (.goto (-92), 3) := by decide +kernel
theorem dX12_mends_163 : decode cX12_mends 163 = .ok (.iinc 3 1, 3) := by decide +kernel
theorem dX12_mends_166 : decode cX12_mends 166 = .ok (.goto (-123), 3) := by decide +kernel
theorem dX12_mends_169 : decode cX12_mends 169 = .ok (.iload_n 2, 1) := by decide +kernel
theorem dX12_mends_170 : decode cX12_mends 170 = .ok (.ifCond .lt 48, 3) := by decide +kernel
theorem dX12_mends_173 : decode cX12_mends 173 = .ok (.aload_n 0, 1) := by decide +kernel
theorem dX12_mends_174 : decode cX12_mends 174 = .ok (.getfield 9, 3) := by decide +kernel
theorem dX12_mends_177 : decode cX12_mends 177 = .ok (.iload_n 2, 1) := by decide +kernel
theorem dX12_mends_178 : decode cX12_mends 178 = .ok (.iconst 3, 1) := by decide +kernel
theorem dX12_mends_179 : decode cX12_mends 179 = .ok (.invokestatic 87, 3) := by decide +kernel
theorem dX12_mends_182 : decode cX12_mends 182 = .ok (.iconst 0, 1) := by decide +kernel
theorem dX12_mends_183 : decode cX12_mends 183 = .ok (.aload_n 0, 1) := by decide +kernel
theorem dX12_mends_184 : decode cX12_mends 184 = .ok (.getfield 9, 3) := by decide +kernel
theorem dX12_mends_187 : decode cX12_mends 187 = .ok (.iload_n 2, 1) := by decide +kernel
theorem dX12_mends_188 : decode cX12_mends 188 = .ok (.iconst 3, 1) := by decide +kernel
theorem dX12_mends_189 : decode cX12_mends 189 = .ok (.invokestatic 87, 3) := by decide +kernel
theorem dX12_mends_192 : decode cX12_mends 192 = .ok (.iaload, 1) := by decide +kernel
theorem dX12_mends_193 : decode cX12_mends 193 = .ok (.bipush 30, 2) := by decide +kernel
theorem dX12_mends_195 : decode cX12_mends 195 = .ok (.isub, 1) := by decide +kernel
theorem dX12_mends_196 : decode cX12_mends 196 = .ok (.invokestatic 302, 3) := by decide +kernel
theorem dX12_mends_199 : decode cX12_mends 199 = .ok (.iastore, 1) := by decide +kernel
theorem dX12_mends_200 : decode cX12_mends 200 = .ok (.aload_n 0, 1) := by decide +kernel
theorem dX12_mends_201 : decode cX12_mends 201 = .ok (.getfield 9, 3) := by decide +kernel
theorem dX12_mends_204 : decode cX12_mends 204 = .ok (.bipush 12, 2) := by decide +kernel
theorem dX12_mends_206 : decode cX12_mends 206 = .ok (.dup2, 1) := by decide +kernel
theorem dX12_mends_207 : decode cX12_mends 207 = .ok (.iaload, 1) := by decide +kernel
theorem dX12_mends_208 : decode cX12_mends 208 = .ok (.iconst 1, 1) := by decide +kernel
theorem dX12_mends_209 : decode cX12_mends 209 = .ok (.isub, 1) := by decide +kernel
theorem dX12_mends_210 : decode cX12_mends 210 = .ok (.iastore, 1) := by decide +kernel
theorem dX12_mends_211 : decode cX12_mends 211 = .ok (.aload_n 0, 1) := by decide +kernel
theorem dX12_mends_212 : decode cX12_mends 212 = .ok (.iload_n 1, 1) := by decide +kernel
theorem dX12_mends_213 : decode cX12_mends 213 = .ok (.iconst 4, 1) := by decide +kernel
theorem dX12_mends_214 : decode cX12_mends 214 = .ok (.iconst 0, 1) := by decide +kernel
theorem dX12_mends_215 : decode cX12_mends 215 = .ok (.invokevirtual 298, 3) := by decide +kernel
theorem dX12_mends_218 : decode cX12_mends 218 = .ok (.return_, 1) := by decide +kernel
theorem dX12_reportsGo_0 : decode cX12_reportsGo 0 = .ok (.iconst 0, 1) := by decide +kernel
theorem dX12_reportsGo_1 : decode cX12_reportsGo 1 = .ok (.istore_n 1, 1) := by decide +kernel
theorem dX12_reportsGo_2 : decode cX12_reportsGo 2 = .ok (.iload_n 1, 1) := by decide +kernel
theorem dX12_reportsGo_3 : decode cX12_reportsGo 3 = .ok (.aload_n 0, 1) := by decide +kernel
theorem dX12_reportsGo_4 : decode cX12_reportsGo 4 = .ok (.getfield 9, 3) := by decide +kernel
theorem dX12_reportsGo_7 : decode cX12_reportsGo 7 = .ok (.bipush 16, 2) := by decide +kernel
theorem dX12_reportsGo_9 : decode cX12_reportsGo 9 = .ok (.iaload, 1) := by decide +kernel
theorem dX12_reportsGo_10 : decode cX12_reportsGo 10 = .ok (.if_icmp .ge 154, 3) := by decide +kernel
theorem dX12_reportsGo_13 : decode cX12_reportsGo 13 = .ok (.aload_n 0, 1) := by decide +kernel
theorem dX12_reportsGo_14 : decode cX12_reportsGo 14 = .ok (.iload_n 1, 1) := by decide +kernel
theorem dX12_reportsGo_15 : decode cX12_reportsGo 15 = .ok (.invokevirtual 135, 3) := by decide +kernel
theorem dX12_reportsGo_18 : decode cX12_reportsGo 18 = .ok (.ifCond .eq 6, 3) := by decide +kernel
theorem dX12_reportsGo_21 : decode cX12_reportsGo 21 = .ok (.goto 137, 3) := by decide +kernel
theorem dX12_reportsGo_24 : decode cX12_reportsGo 24 = .ok (.aload_n 0, 1) := by decide +kernel
theorem dX12_reportsGo_25 : decode cX12_reportsGo 25 = .ok (.getfield 9, 3) := by decide +kernel
theorem dX12_reportsGo_28 : decode cX12_reportsGo 28 = .ok (.iload_n 1, 1) := by decide +kernel
theorem dX12_reportsGo_29 : decode cX12_reportsGo 29 = .ok (.iconst 1, 1) := by decide +kernel
theorem dX12_reportsGo_30 : decode cX12_reportsGo 30 = .ok (.invokestatic 87, 3) := by decide +kernel
theorem dX12_reportsGo_33 : decode cX12_reportsGo 33 = .ok (.iaload, 1) := by decide +kernel
theorem dX12_reportsGo_34 : decode cX12_reportsGo 34 = .ok (.istore_n 2, 1) := by decide +kernel
theorem dX12_reportsGo_35 : decode cX12_reportsGo 35 = .ok (.sipush 866, 3) := by decide +kernel
theorem dX12_reportsGo_38 : decode cX12_reportsGo 38 = .ok (.bipush 6, 2) := by decide +kernel
theorem dX12_reportsGo_40 : decode cX12_reportsGo 40 = .ok (.aload_n 0, 1) := by decide +kernel
theorem dX12_reportsGo_41 : decode cX12_reportsGo 41 = .ok (.getfield 9, 3) := by decide +kernel
theorem dX12_reportsGo_44 : decode cX12_reportsGo 44 = .ok (.bipush 18, 2) := by decide +kernel
theorem dX12_reportsGo_46 : decode cX12_reportsGo 46 = .ok (.iaload, 1) := by decide +kernel
theorem dX12_reportsGo_47 : decode cX12_reportsGo 47 = .ok (.imul, 1) := by decide +kernel
theorem dX12_reportsGo_48 : decode cX12_reportsGo 48 = .ok (.iadd, 1) := by decide +kernel
theorem dX12_reportsGo_49 : decode cX12_reportsGo 49 = .ok (.istore_n 3, 1) := by decide +kernel
theorem dX12_reportsGo_50 : decode cX12_reportsGo 50 = .ok (.aload_n 0, 1) := by decide +kernel
theorem dX12_reportsGo_51 : decode cX12_reportsGo 51 = .ok (.getfield 9, 3) := by decide +kernel
theorem dX12_reportsGo_54 : decode cX12_reportsGo 54 = .ok (.iload_n 3, 1) := by decide +kernel
theorem dX12_reportsGo_55 : decode cX12_reportsGo 55 = .ok (.iload_n 2, 1) := by decide +kernel
theorem dX12_reportsGo_56 : decode cX12_reportsGo 56 = .ok (.iastore, 1) := by decide +kernel
theorem dX12_reportsGo_57 : decode cX12_reportsGo 57 = .ok (.aload_n 0, 1) := by decide +kernel
theorem dX12_reportsGo_58 : decode cX12_reportsGo 58 = .ok (.getfield 9, 3) := by decide +kernel
theorem dX12_reportsGo_61 : decode cX12_reportsGo 61 = .ok (.iload_n 3, 1) := by decide +kernel
theorem dX12_reportsGo_62 : decode cX12_reportsGo 62 = .ok (.iconst 1, 1) := by decide +kernel
theorem dX12_reportsGo_63 : decode cX12_reportsGo 63 = .ok (.iadd, 1) := by decide +kernel
theorem dX12_reportsGo_64 : decode cX12_reportsGo 64 = .ok (.aload_n 0, 1) := by decide +kernel
theorem dX12_reportsGo_65 : decode cX12_reportsGo 65 = .ok (.getfield 9, 3) := by decide +kernel
theorem dX12_reportsGo_68 : decode cX12_reportsGo 68 = .ok (.bipush 30, 2) := by decide +kernel
theorem dX12_reportsGo_70 : decode cX12_reportsGo 70 = .ok (.iload_n 2, 1) := by decide +kernel
theorem dX12_reportsGo_71 : decode cX12_reportsGo 71 = .ok (.iadd, 1) := by decide +kernel
theorem dX12_reportsGo_72 : decode cX12_reportsGo 72 = .ok (.iaload, 1) := by decide +kernel
theorem dX12_reportsGo_73 : decode cX12_reportsGo 73 = .ok (.iastore, 1) := by decide +kernel
theorem dX12_reportsGo_74 : decode cX12_reportsGo 74 = .ok (.aload_n 0, 1) := by decide +kernel
theorem dX12_reportsGo_75 : decode cX12_reportsGo 75 = .ok (.getfield 9, 3) := by decide +kernel
theorem dX12_reportsGo_78 : decode cX12_reportsGo 78 = .ok (.iload_n 3, 1) := by decide +kernel
theorem dX12_reportsGo_79 : decode cX12_reportsGo 79 = .ok (.iconst 2, 1) := by decide +kernel
theorem dX12_reportsGo_80 : decode cX12_reportsGo 80 = .ok (.iadd, 1) := by decide +kernel
theorem dX12_reportsGo_81 : decode cX12_reportsGo 81 = .ok (.aload_n 0, 1) := by decide +kernel
theorem dX12_reportsGo_82 : decode cX12_reportsGo 82 = .ok (.getfield 9, 3) := by decide +kernel
theorem dX12_reportsGo_85 : decode cX12_reportsGo 85 = .ok (.bipush 110, 2) := by decide +kernel
theorem dX12_reportsGo_87 : decode cX12_reportsGo 87 = .ok (.iload_n 2, 1) := by decide +kernel
theorem dX12_reportsGo_88 : decode cX12_reportsGo 88 = .ok (.iadd, 1) := by decide +kernel
theorem dX12_reportsGo_89 : decode cX12_reportsGo 89 = .ok (.iaload, 1) := by decide +kernel
theorem dX12_reportsGo_90 : decode cX12_reportsGo 90 = .ok (.iastore, 1) := by decide +kernel
theorem dX12_reportsGo_91 : decode cX12_reportsGo 91 = .ok (.aload_n 0, 1) := by decide +kernel
theorem dX12_reportsGo_92 : decode cX12_reportsGo 92 = .ok (.getfield 9, 3) := by decide +kernel
theorem dX12_reportsGo_95 : decode cX12_reportsGo 95 = .ok (.iload_n 3, 1) := by decide +kernel
theorem dX12_reportsGo_96 : decode cX12_reportsGo 96 = .ok (.iconst 3, 1) := by decide +kernel
theorem dX12_reportsGo_97 : decode cX12_reportsGo 97 = .ok (.iadd, 1) := by decide +kernel
theorem dX12_reportsGo_98 : decode cX12_reportsGo 98 = .ok (.aload_n 0, 1) := by decide +kernel
theorem dX12_reportsGo_99 : decode cX12_reportsGo 99 = .ok (.getfield 9, 3) := by decide +kernel
theorem dX12_reportsGo_102 : decode cX12_reportsGo 102 = .ok (.sipush 190, 3) := by decide +kernel
theorem dX12_reportsGo_105 : decode cX12_reportsGo 105 = .ok (.iload_n 2, 1) := by decide +kernel
theorem dX12_reportsGo_106 : decode cX12_reportsGo 106 = .ok (.iadd, 1) := by decide +kernel
theorem dX12_reportsGo_107 : decode cX12_reportsGo 107 = .ok (.iaload, 1) := by decide +kernel
theorem dX12_reportsGo_108 : decode cX12_reportsGo 108 = .ok (.iastore, 1) := by decide +kernel
theorem dX12_reportsGo_109 : decode cX12_reportsGo 109 = .ok (.aload_n 0, 1) := by decide +kernel
theorem dX12_reportsGo_110 : decode cX12_reportsGo 110 = .ok (.getfield 9, 3) := by decide +kernel
theorem dX12_reportsGo_113 : decode cX12_reportsGo 113 = .ok (.iload_n 3, 1) := by decide +kernel
theorem dX12_reportsGo_114 : decode cX12_reportsGo 114 = .ok (.iconst 4, 1) := by decide +kernel
theorem dX12_reportsGo_115 : decode cX12_reportsGo 115 = .ok (.iadd, 1) := by decide +kernel
theorem dX12_reportsGo_116 : decode cX12_reportsGo 116 = .ok (.aload_n 0, 1) := by decide +kernel
theorem dX12_reportsGo_117 : decode cX12_reportsGo 117 = .ok (.getfield 9, 3) := by decide +kernel
theorem dX12_reportsGo_120 : decode cX12_reportsGo 120 = .ok (.bipush 7, 2) := by decide +kernel
theorem dX12_reportsGo_122 : decode cX12_reportsGo 122 = .ok (.iaload, 1) := by decide +kernel
theorem dX12_reportsGo_123 : decode cX12_reportsGo 123 = .ok (.iastore, 1) := by decide +kernel
theorem dX12_reportsGo_124 : decode cX12_reportsGo 124 = .ok (.aload_n 0, 1) := by decide +kernel
theorem dX12_reportsGo_125 : decode cX12_reportsGo 125 = .ok (.getfield 9, 3) := by decide +kernel
theorem dX12_reportsGo_128 : decode cX12_reportsGo 128 = .ok (.iload_n 3, 1) := by decide +kernel
theorem dX12_reportsGo_129 : decode cX12_reportsGo 129 = .ok (.iconst 5, 1) := by decide +kernel
theorem dX12_reportsGo_130 : decode cX12_reportsGo 130 = .ok (.iadd, 1) := by decide +kernel
theorem dX12_reportsGo_131 : decode cX12_reportsGo 131 = .ok (.aload_n 0, 1) := by decide +kernel
theorem dX12_reportsGo_132 : decode cX12_reportsGo 132 = .ok (.getfield 9, 3) := by decide +kernel
theorem dX12_reportsGo_135 : decode cX12_reportsGo 135 = .ok (.bipush 7, 2) := by decide +kernel
theorem dX12_reportsGo_137 : decode cX12_reportsGo 137 = .ok (.iaload, 1) := by decide +kernel
theorem dX12_reportsGo_138 : decode cX12_reportsGo 138 = .ok (.aload_n 0, 1) := by decide +kernel
theorem dX12_reportsGo_139 : decode cX12_reportsGo 139 = .ok (.getfield 9, 3) := by decide +kernel
theorem dX12_reportsGo_142 : decode cX12_reportsGo 142 = .ok (.bipush 6, 2) := by decide +kernel
theorem dX12_reportsGo_144 : decode cX12_reportsGo 144 = .ok (.iaload, 1) := by decide +kernel
theorem dX12_reportsGo_145 : decode cX12_reportsGo 145 = .ok (.iadd, 1) := by decide +kernel
theorem dX12_reportsGo_146 : decode cX12_reportsGo 146 = .ok (.iastore, 1) := by decide +kernel
theorem dX12_reportsGo_147 : decode cX12_reportsGo 147 = .ok (.aload_n 0, 1) := by decide +kernel
theorem dX12_reportsGo_148 : decode cX12_reportsGo 148 = .ok (.getfield 9, 3) := by decide +kernel
theorem dX12_reportsGo_151 : decode cX12_reportsGo 151 = .ok (.bipush 18, 2) := by decide +kernel
theorem dX12_reportsGo_153 : decode cX12_reportsGo 153 = .ok (.dup2, 1) := by decide +kernel
theorem dX12_reportsGo_154 : decode cX12_reportsGo 154 = .ok (.iaload, 1) := by decide +kernel
theorem dX12_reportsGo_155 : decode cX12_reportsGo 155 = .ok (.iconst 1, 1) := by decide +kernel
theorem dX12_reportsGo_156 : decode cX12_reportsGo 156 = .ok (.iadd, 1) := by decide +kernel
theorem dX12_reportsGo_157 : decode cX12_reportsGo 157 = .ok (.iastore, 1) := by decide +kernel
theorem dX12_reportsGo_158 : decode cX12_reportsGo 158 = .ok (.iinc 1 1, 3) := by decide +kernel
theorem dX12_reportsGo_161 : decode cX12_reportsGo 161 = .ok (.goto (-159), 3) := by decide +kernel
theorem dX12_reportsGo_164 : decode cX12_reportsGo 164 = .ok (.aload_n 0, 1) := by decide +kernel
theorem dX12_reportsGo_165 : decode cX12_reportsGo 165 = .ok (.getfield 9, 3) := by decide +kernel
theorem dX12_reportsGo_168 : decode cX12_reportsGo 168 = .ok (.bipush 6, 2) := by decide +kernel
theorem dX12_reportsGo_170 : decode cX12_reportsGo 170 = .ok (.iaload, 1) := by decide +kernel
theorem dX12_reportsGo_171 : decode cX12_reportsGo 171 = .ok (.ifCond .ne 7, 3) := by decide +kernel
theorem dX12_reportsGo_174 : decode cX12_reportsGo 174 = .ok (.aload_n 0, 1) := by decide +kernel
theorem dX12_reportsGo_175 : decode cX12_reportsGo 175 = .ok (.invokevirtual 305, 3) := by decide +kernel
theorem dX12_reportsGo_178 : decode cX12_reportsGo 178 = .ok (.return_, 1) := by decide +kernel
theorem dX12_tick_0 : decode cX12_tick 0 = .ok (.aload_n 0, 1) := by decide +kernel
theorem dX12_tick_1 : decode cX12_tick 1 = .ok (.invokevirtual 308, 3) := by decide +kernel
theorem dX12_tick_4 : decode cX12_tick 4 = .ok (.aload_n 0, 1) := by decide +kernel
theorem dX12_tick_5 : decode cX12_tick 5 = .ok (.invokevirtual 305, 3) := by decide +kernel
theorem dX12_tick_8 : decode cX12_tick 8 = .ok (.aload_n 0, 1) := by decide +kernel
theorem dX12_tick_9 : decode cX12_tick 9 = .ok (.invokevirtual 311, 3) := by decide +kernel
theorem dX12_tick_12 : decode cX12_tick 12 = .ok (.iconst 0, 1) := by decide +kernel
theorem dX12_tick_13 : decode cX12_tick 13 = .ok (.istore_n 1, 1) := by decide +kernel
theorem dX12_tick_14 : decode cX12_tick 14 = .ok (.iload_n 1, 1) := by decide +kernel
theorem dX12_tick_15 : decode cX12_tick 15 = .ok (.aload_n 0, 1) := by decide +kernel
theorem dX12_tick_16 : decode cX12_tick 16 = .ok (.getfield 9, 3) := by decide +kernel
theorem dX12_tick_19 : decode cX12_tick 19 = .ok (.bipush 16, 2) := by decide +kernel
theorem dX12_tick_21 : decode cX12_tick 21 = .ok (.iaload, 1) := by decide +kernel
theorem dX12_tick_22 : decode cX12_tick 22 = .ok (.if_icmp .ge 49, 3) := by decide +kernel
theorem dX12_tick_25 : decode cX12_tick 25 = .ok (.aload_n 0, 1) := by decide +kernel
theorem dX12_tick_26 : decode cX12_tick 26 = .ok (.iload_n 1, 1) := by decide +kernel
theorem dX12_tick_27 : decode cX12_tick 27 = .ok (.invokevirtual 135, 3) := by decide +kernel
theorem dX12_tick_30 : decode cX12_tick 30 = .ok (.ifCond .ne 35, 3) := by decide +kernel
theorem dX12_tick_33 : decode cX12_tick 33 = .ok (.aload_n 0, 1) := by decide +kernel
theorem dX12_tick_34 : decode cX12_tick 34 = .ok (.getfield 9, 3) := by decide +kernel
theorem dX12_tick_37 : decode cX12_tick 37 = .ok (.iload_n 1, 1) := by decide +kernel
theorem dX12_tick_38 : decode cX12_tick 38 = .ok (.iconst 2, 1) := by decide +kernel
theorem dX12_tick_39 : decode cX12_tick 39 = .ok (.invokestatic 87, 3) := by decide +kernel
theorem dX12_tick_42 : decode cX12_tick 42 = .ok (.iaload, 1) := by decide +kernel
theorem dX12_tick_43 : decode cX12_tick 43 = .ok (.ifCond .le 22, 3) := by decide +kernel
theorem dX12_tick_46 : decode cX12_tick 46 = .ok (.aload_n 0, 1) := by decide +kernel
theorem dX12_tick_47 : decode cX12_tick 47 = .ok (.getfield 9, 3) := by decide +kernel
theorem dX12_tick_50 : decode cX12_tick 50 = .ok (.iload_n 1, 1) := by decide +kernel
theorem dX12_tick_51 : decode cX12_tick 51 = .ok (.bipush 6, 2) := by decide +kernel
theorem dX12_tick_53 : decode cX12_tick 53 = .ok (.invokestatic 87, 3) := by decide +kernel
theorem dX12_tick_56 : decode cX12_tick 56 = .ok (.iaload, 1) := by decide +kernel
theorem dX12_tick_57 : decode cX12_tick 57 = .ok (.ifCond .lt 8, 3) := by decide +kernel
theorem dX12_tick_60 : decode cX12_tick 60 = .ok (.aload_n 0, 1) := by decide +kernel
theorem dX12_tick_61 : decode cX12_tick 61 = .ok (.iload_n 1, 1) := by decide +kernel
theorem dX12_tick_62 : decode cX12_tick 62 = .ok (.invokevirtual 314, 3) := by decide +kernel
theorem dX12_tick_65 : decode cX12_tick 65 = .ok (.iinc 1 1, 3) := by decide +kernel
theorem dX12_tick_68 : decode cX12_tick 68 = .ok (.goto (-54), 3) := by decide +kernel
theorem dX12_tick_71 : decode cX12_tick 71 = .ok (.aload_n 0, 1) := by decide +kernel
theorem dX12_tick_72 : decode cX12_tick 72 = .ok (.invokevirtual 317, 3) := by decide +kernel
theorem dX12_tick_75 : decode cX12_tick 75 = .ok (.aload_n 0, 1) := by decide +kernel
theorem dX12_tick_76 : decode cX12_tick 76 = .ok (.getfield 9, 3) := by decide +kernel
theorem dX12_tick_79 : decode cX12_tick 79 = .ok (.bipush 7, 2) := by decide +kernel
theorem dX12_tick_81 : decode cX12_tick 81 = .ok (.dup2, 1) := by decide +kernel
theorem dX12_tick_82 : decode cX12_tick 82 = .ok (.iaload, 1) := by decide +kernel
theorem dX12_tick_83 : decode cX12_tick 83 = .ok (.iconst 1, 1) := by decide +kernel
theorem dX12_tick_84 : decode cX12_tick 84 = .ok (.iadd, 1) := by decide +kernel
theorem dX12_tick_85 : decode cX12_tick 85 = .ok (.iastore, 1) := by decide +kernel
theorem dX12_tick_86 : decode cX12_tick 86 = .ok (.return_, 1) := by decide +kernel
theorem dX12_run_0 : decode cX12_run 0 = .ok (.iload_n 1, 1) := by decide +kernel
theorem dX12_run_1 : decode cX12_run 1 = .ok (.iconst 1, 1) := by decide +kernel
theorem dX12_run_2 : decode cX12_run 2 = .ok (.bipush 30, 2) := by decide +kernel
theorem dX12_run_4 : decode cX12_run 4 = .ok (.invokestatic 82, 3) := by decide +kernel
theorem dX12_run_7 : decode cX12_run 7 = .ok (.ifCond .ne 6, 3) := by decide +kernel
theorem dX12_run_10 : decode cX12_run 10 = .ok (.ldc 86, 2) := by decide +kernel
theorem dX12_run_12 : decode cX12_run 12 = .ok (.ireturn, 1) := by decide +kernel
theorem dX12_run_13 : decode cX12_run 13 = .ok (.aload_n 0, 1) := by decide +kernel
theorem dX12_run_14 : decode cX12_run 14 = .ok (.getfield 9, 3) := by decide +kernel
theorem dX12_run_17 : decode cX12_run 17 = .ok (.bipush 7, 2) := by decide +kernel
theorem dX12_run_19 : decode cX12_run 19 = .ok (.iaload, 1) := by decide +kernel
theorem dX12_run_20 : decode cX12_run 20 = .ok (.iload_n 1, 1) := by decide +kernel
theorem dX12_run_21 : decode cX12_run 21 = .ok (.iadd, 1) := by decide +kernel
theorem dX12_run_22 : decode cX12_run 22 = .ok (.sipush 2000, 3) := by decide +kernel
theorem dX12_run_25 : decode cX12_run 25 = .ok (.if_icmp .le 6, 3) := by decide +kernel
theorem dX12_run_28 : decode cX12_run 28 = .ok (.ldc 121, 2) := by decide +kernel
theorem dX12_run_30 : decode cX12_run 30 = .ok (.ireturn, 1) := by decide +kernel
theorem dX12_run_31 : decode cX12_run 31 = .ok (.iconst 0, 1) := by decide +kernel
theorem dX12_run_32 : decode cX12_run 32 = .ok (.istore_n 2, 1) := by decide +kernel
theorem dX12_run_33 : decode cX12_run 33 = .ok (.iload_n 2, 1) := by decide +kernel
theorem dX12_run_34 : decode cX12_run 34 = .ok (.iload_n 1, 1) := by decide +kernel
theorem dX12_run_35 : decode cX12_run 35 = .ok (.if_icmp .ge 13, 3) := by decide +kernel
theorem dX12_run_38 : decode cX12_run 38 = .ok (.aload_n 0, 1) := by decide +kernel
theorem dX12_run_39 : decode cX12_run 39 = .ok (.invokevirtual 320, 3) := by decide +kernel
theorem dX12_run_42 : decode cX12_run 42 = .ok (.iinc 2 1, 3) := by decide +kernel
theorem dX12_run_45 : decode cX12_run 45 = .ok (.goto (-12), 3) := by decide +kernel
theorem dX12_run_48 : decode cX12_run 48 = .ok (.aload_n 0, 1) := by decide +kernel
theorem dX12_run_49 : decode cX12_run 49 = .ok (.getfield 9, 3) := by decide +kernel
theorem dX12_run_52 : decode cX12_run 52 = .ok (.bipush 7, 2) := by decide +kernel
theorem dX12_run_54 : decode cX12_run 54 = .ok (.iaload, 1) := by decide +kernel
theorem dX12_run_55 : decode cX12_run 55 = .ok (.ireturn, 1) := by decide +kernel
theorem dX12_land_0 : decode cX12_land 0 = .ok (.aload_n 0, 1) := by decide +kernel
theorem dX12_land_1 : decode cX12_land 1 = .ok (.iload_n 1, 1) := by decide +kernel
theorem dX12_land_2 : decode cX12_land 2 = .ok (.invokevirtual 91, 3) := by decide +kernel
theorem dX12_land_5 : decode cX12_land 5 = .ok (.ifCond .eq 13, 3) := by decide +kernel
theorem dX12_land_8 : decode cX12_land 8 = .ok (.iload_n 2, 1) := by decide +kernel
theorem dX12_land_9 : decode cX12_land 9 = .ok (.iconst 0, 1) := by decide +kernel
theorem dX12_land_10 : decode cX12_land 10 = .ok (.bipush 99, 2) := by decide +kernel
theorem dX12_land_12 : decode cX12_land 12 = .ok (.invokestatic 82, 3) := by decide +kernel
theorem dX12_land_15 : decode cX12_land 15 = .ok (.ifCond .ne 6, 3) := by decide +kernel
theorem dX12_land_18 : decode cX12_land 18 = .ok (.ldc 86, 2) := by decide +kernel
theorem dX12_land_20 : decode cX12_land 20 = .ok (.ireturn, 1) := by decide +kernel
theorem dX12_land_21 : decode cX12_land 21 = .ok (.aload_n 0, 1) := by decide +kernel
theorem dX12_land_22 : decode cX12_land 22 = .ok (.getfield 9, 3) := by decide +kernel
theorem dX12_land_25 : decode cX12_land 25 = .ok (.bipush 30, 2) := by decide +kernel
theorem dX12_land_27 : decode cX12_land 27 = .ok (.iload_n 1, 1) := by decide +kernel
theorem dX12_land_28 : decode cX12_land 28 = .ok (.iadd, 1) := by decide +kernel
theorem dX12_land_29 : decode cX12_land 29 = .ok (.iaload, 1) := by decide +kernel
theorem dX12_land_30 : decode cX12_land 30 = .ok (.iconst 1, 1) := by decide +kernel
theorem dX12_land_31 : decode cX12_land 31 = .ok (.if_icmp .eq 24, 3) := by decide +kernel
theorem dX12_land_34 : decode cX12_land 34 = .ok (.aload_n 0, 1) := by decide +kernel
theorem dX12_land_35 : decode cX12_land 35 = .ok (.getfield 9, 3) := by decide +kernel
theorem dX12_land_38 : decode cX12_land 38 = .ok (.bipush 30, 2) := by decide +kernel
theorem dX12_land_40 : decode cX12_land 40 = .ok (.iload_n 1, 1) := by decide +kernel
theorem dX12_land_41 : decode cX12_land 41 = .ok (.iadd, 1) := by decide +kernel
theorem dX12_land_42 : decode cX12_land 42 = .ok (.iaload, 1) := by decide +kernel
theorem dX12_land_43 : decode cX12_land 43 = .ok (.iconst 4, 1) := by decide +kernel
theorem dX12_land_44 : decode cX12_land 44 = .ok (.if_icmp .eq 11, 3) := by decide +kernel
theorem dX12_land_47 : decode cX12_land 47 = .ok (.aload_n 0, 1) := by decide +kernel
theorem dX12_land_48 : decode cX12_land 48 = .ok (.iload_n 1, 1) := by decide +kernel
theorem dX12_land_49 : decode cX12_land 49 = .ok (.invokevirtual 95, 3) := by decide +kernel
theorem dX12_land_52 : decode cX12_land 52 = .ok (.ifCond .lt 6, 3) := by decide +kernel
theorem dX12_land_55 : decode cX12_land 55 = .ok (.ldc 99, 2) := by decide +kernel
theorem dX12_land_57 : decode cX12_land 57 = .ok (.ireturn, 1) := by decide +kernel
theorem dX12_land_58 : decode cX12_land 58 = .ok (.iconst 0, 1) := by decide +kernel
theorem dX12_land_59 : decode cX12_land 59 = .ok (.istore_n 3, 1) := by decide +kernel
theorem dX12_land_60 : decode cX12_land 60 = .ok (.iconst 0, 1) := by decide +kernel
theorem dX12_land_61 : decode cX12_land 61 = .ok (.istore 4, 2) := by decide +kernel
theorem dX12_land_63 : decode cX12_land 63 = .ok (.iload 4, 2) := by decide +kernel
theorem dX12_land_65 : decode cX12_land 65 = .ok (.aload_n 0, 1) := by decide +kernel
theorem dX12_land_66 : decode cX12_land 66 = .ok (.getfield 9, 3) := by decide +kernel
theorem dX12_land_69 : decode cX12_land 69 = .ok (.bipush 16, 2) := by decide +kernel
theorem dX12_land_71 : decode cX12_land 71 = .ok (.iaload, 1) := by decide +kernel
theorem dX12_land_72 : decode cX12_land 72 = .ok (.if_icmp .ge 89, 3) := by decide +kernel
theorem dX12_land_75 : decode cX12_land 75 = .ok (.aload_n 0, 1) := by decide +kernel
theorem dX12_land_76 : decode cX12_land 76 = .ok (.iload_n 1, 1) := by decide +kernel
theorem dX12_land_77 : decode cX12_land 77 = .ok (.aload_n 0, 1) := by decide +kernel
theorem dX12_land_78 : decode cX12_land 78 = .ok (.getfield 9, 3) := by decide +kernel
theorem dX12_land_81 : decode cX12_land 81 = .ok (.iload 4, 2) := by decide +kernel
theorem dX12_land_83 : decode cX12_land 83 = .ok (.iconst 1, 1) := by decide +kernel
theorem dX12_land_84 : decode cX12_land 84 = .ok (.invokestatic 87, 3) := by decide +kernel
theorem dX12_land_87 : decode cX12_land 87 = .ok (.iaload, 1) := by decide +kernel
theorem dX12_land_88 : decode cX12_land 88 = .ok (.invokevirtual 323, 3) := by decide +kernel
theorem dX12_land_91 : decode cX12_land 91 = .ok (.istore 5, 2) := by decide +kernel
theorem dX12_land_93 : decode cX12_land 93 = .ok (.aload_n 0, 1) := by decide +kernel
theorem dX12_land_94 : decode cX12_land 94 = .ok (.getfield 9, 3) := by decide +kernel
theorem dX12_land_97 : decode cX12_land 97 = .ok (.iload 4, 2) := by decide +kernel
theorem dX12_land_99 : decode cX12_land 99 = .ok (.iconst 3, 1) := by decide +kernel
theorem dX12_land_100 : decode cX12_land 100 = .ok (.invokestatic 87, 3) := by decide +kernel
theorem dX12_land_103 : decode cX12_land 103 = .ok (.iaload, 1) := by decide +kernel
theorem dX12_land_104 : decode cX12_land 104 = .ok (.istore 6, 2) := by decide +kernel
theorem dX12_land_106 : decode cX12_land 106 = .ok (.iload 5, 2) := by decide +kernel
theorem dX12_land_108 : decode cX12_land 108 = .ok (.iconst 3, 1) := by decide +kernel
theorem dX12_land_109 : decode cX12_land 109 = .ok (.if_icmp .ge 46, 3) := by decide +kernel
theorem dX12_land_112 : decode cX12_land 112 = .ok (.aload_n 0, 1) := by decide +kernel
theorem dX12_land_113 : decode cX12_land 113 = .ok (.getfield 9, 3) := by decide +kernel
theorem dX12_land_116 : decode cX12_land 116 = .ok (.iload 4, 2) := by decide +kernel
theorem dX12_land_118 : decode cX12_land 118 = .ok (.iconst 3, 1) := by decide +kernel
theorem dX12_land_119 : decode cX12_land 119 = .ok (.invokestatic 87, 3) := by decide +kernel
theorem dX12_land_122 : decode cX12_land 122 = .ok (.bipush 100, 2) := by decide +kernel
theorem dX12_land_124 : decode cX12_land 124 = .ok (.iload 6, 2) := by decide +kernel
theorem dX12_land_126 : decode cX12_land 126 = .ok (.bipush 20, 2) := by decide +kernel
theorem dX12_land_128 : decode cX12_land 128 = .ok (.iadd, 1) := by decide +kernel
theorem dX12_land_129 : decode cX12_land 129 = .ok (.iconst 5, 1) := by decide +kernel
theorem dX12_land_130 : decode cX12_land 130 = .ok (.iload 5, 2) := by decide +kernel
theorem dX12_land_132 : decode cX12_land 132 = .ok (.imul, 1) := by decide +kernel
theorem dX12_land_133 : decode cX12_land 133 = .ok (.isub, 1) := by decide +kernel
theorem dX12_land_134 : decode cX12_land 134 = .ok (.invokestatic 106, 3) := by decide +kernel
theorem dX12_land_137 : decode cX12_land 137 = .ok (.iastore, 1) := by decide +kernel
theorem dX12_land_138 : decode cX12_land 138 = .ok (.iload_n 3, 1) := by decide +kernel
theorem dX12_land_139 : decode cX12_land 139 = .ok (.aload_n 0, 1) := by decide +kernel
theorem dX12_land_140 : decode cX12_land 140 = .ok (.getfield 9, 3) := by decide +kernel
theorem dX12_land_143 : decode cX12_land 143 = .ok (.iload 4, 2) := by decide +kernel
theorem dX12_land_145 : decode cX12_land 145 = .ok (.iconst 3, 1) := by decide +kernel
theorem dX12_land_146 : decode cX12_land 146 = .ok (.invokestatic 87, 3) := by decide +kernel
theorem dX12_land_149 : decode cX12_land 149 = .ok (.iaload, 1) := by decide +kernel
theorem dX12_land_150 : decode cX12_land 150 = .ok (.iload 6, 2) := by decide +kernel
theorem dX12_land_152 : decode cX12_land 152 = .ok (.isub, 1) := by decide +kernel
theorem dX12_land_153 : decode cX12_land 153 = .ok (.iadd, 1) := by decide +kernel
theorem dX12_land_154 : decode cX12_land 154 = .ok (.istore_n 3, 1) := by decide +kernel
theorem dX12_land_155 : decode cX12_land 155 = .ok (.iinc 4 1, 3) := by decide +kernel
theorem dX12_land_158 : decode cX12_land 158 = .ok (.goto (-95), 3) := by decide +kernel
theorem dX12_land_161 : decode cX12_land 161 = .ok (.iconst 0, 1) := by decide +kernel
theorem dX12_land_162 : decode cX12_land 162 = .ok (.istore 4, 2) := by decide +kernel
theorem dX12_land_164 : decode cX12_land 164 = .ok (.iload 4, 2) := by decide +kernel
theorem dX12_land_166 : decode cX12_land 166 = .ok (.aload_n 0, 1) := by decide +kernel
theorem dX12_land_167 : decode cX12_land 167 = .ok (.invokevirtual 78, 3) := by decide +kernel
theorem dX12_land_170 : decode cX12_land 170 = .ok (.if_icmp .ge 74, 3) := by decide +kernel
theorem dX12_land_173 : decode cX12_land 173 = .ok (.aload_n 0, 1) := by decide +kernel
theorem dX12_land_174 : decode cX12_land 174 = .ok (.getfield 9, 3) := by decide +kernel
theorem dX12_land_177 : decode cX12_land 177 = .ok (.bipush 30, 2) := by decide +kernel
theorem dX12_land_179 : decode cX12_land 179 = .ok (.iload 4, 2) := by decide +kernel
theorem dX12_land_181 : decode cX12_land 181 = .ok (.iadd, 1) := by decide +kernel
theorem dX12_land_182 : decode cX12_land 182 = .ok (.iaload, 1) := by decide +kernel
theorem dX12_land_183 : decode cX12_land 183 = .ok (.ifCond .ne 55, 3) := by decide +kernel
theorem dX12_land_186 : decode cX12_land 186 = .ok (.aload_n 0, 1) := by decide +kernel
theorem dX12_land_187 : decode cX12_land 187 = .ok (.iload_n 1, 1) := by decide +kernel
theorem dX12_land_188 : decode cX12_land 188 = .ok (.iload 4, 2) := by decide +kernel
theorem dX12_land_190 : decode cX12_land 190 = .ok (.invokevirtual 323, 3) := by decide +kernel
theorem dX12_land_193 : decode cX12_land 193 = .ok (.iconst 1, 1) := by decide +kernel
theorem dX12_land_194 : decode cX12_land 194 = .ok (.if_icmp .gt 44, 3) := by decide +kernel
theorem dX12_land_197 : decode cX12_land 197 = .ok (.aload_n 0, 1) := by decide +kernel
theorem dX12_land_198 : decode cX12_land 198 = .ok (.getfield 9, 3) := by decide +kernel
theorem dX12_land_201 : decode cX12_land 201 = .ok (.bipush 110, 2) := by decide +kernel
theorem dX12_land_203 : decode cX12_land 203 = .ok (.iload 4, 2) := by decide +kernel
theorem dX12_land_205 : decode cX12_land 205 = .ok (.iadd, 1) := by decide +kernel
theorem dX12_land_206 : decode cX12_land 206 = .ok (.iaload, 1) := by decide +kernel
theorem dX12_land_207 : decode cX12_land 207 = .ok (.iconst 2, 1) := by decide +kernel
theorem dX12_land_208 : decode cX12_land 208 = .ok (.idiv, 1) := by decide +kernel
theorem dX12_land_209 : decode cX12_land 209 = .ok (.istore 5, 2) := by decide +kernel
theorem dX12_land_211 : decode cX12_land 211 = .ok (.aload_n 0, 1) := by decide +kernel
theorem dX12_land_212 : decode cX12_land 212 = .ok (.getfield 9, 3) := by decide +kernel
theorem dX12_land_215 : decode cX12_land 215 = .ok (.bipush 110, 2) := by decide +kernel
theorem dX12_land_217 : decode cX12_land 217 = .ok (.iload 4, 2) := by decide +kernel
theorem dX12_land_219 : decode cX12_land 219 = .ok (.iadd, 1) := by decide +kernel
theorem dX12_land_220 : decode cX12_land 220 = .ok (.dup2, 1) := by decide +kernel
theorem dX12_land_221 : decode cX12_land 221 = .ok (.iaload, 1) := by decide +kernel
theorem dX12_land_222 : decode cX12_land 222 = .ok (.iload 5, 2) := by decide +kernel
theorem dX12_land_224 : decode cX12_land 224 = .ok (.isub, 1) := by decide +kernel
theorem dX12_land_225 : decode cX12_land 225 = .ok (.iastore, 1) := by decide +kernel
theorem dX12_land_226 : decode cX12_land 226 = .ok (.aload_n 0, 1) := by decide +kernel
theorem dX12_land_227 : decode cX12_land 227 = .ok (.getfield 9, 3) := by decide +kernel
theorem dX12_land_230 : decode cX12_land 230 = .ok (.bipush 13, 2) := by decide +kernel
theorem dX12_land_232 : decode cX12_land 232 = .ok (.dup2, 1) := by decide +kernel
theorem dX12_land_233 : decode cX12_land 233 = .ok (.iaload, 1) := by decide +kernel
theorem dX12_land_234 : decode cX12_land 234 = .ok (.iload 5, 2) := by decide +kernel
theorem dX12_land_236 : decode cX12_land 236 = .ok (.iadd, 1) := by decide +kernel
theorem dX12_land_237 : decode cX12_land 237 = .ok (.iastore, 1) := by decide +kernel
theorem dX12_land_238 : decode cX12_land 238 = .ok (.iinc 4 1, 3) := by decide +kernel
theorem dX12_land_241 : decode cX12_land 241 = .ok (.goto (-77), 3) := by decide +kernel
theorem dX12_land_244 : decode cX12_land 244 = .ok (.aload_n 0, 1) := by decide +kernel
theorem dX12_land_245 : decode cX12_land 245 = .ok (.getfield 9, 3) := by decide +kernel
theorem dX12_land_248 : decode cX12_land 248 = .ok (.bipush 12, 2) := by decide +kernel
theorem dX12_land_250 : decode cX12_land 250 = .ok (.sipush 9999, 3) := by decide +kernel
theorem dX12_land_253 : decode cX12_land 253 = .ok (.aload_n 0, 1) := by decide +kernel
theorem dX12_land_254 : decode cX12_land 254 = .ok (.getfield 9, 3) := by decide +kernel
theorem dX12_land_257 : decode cX12_land 257 = .ok (.bipush 12, 2) := by decide +kernel
theorem dX12_land_259 : decode cX12_land 259 = .ok (.iaload, 1) := by decide +kernel
theorem dX12_land_260 : decode cX12_land 260 = .ok (.iload_n 2, 1) := by decide +kernel
theorem dX12_land_261 : decode cX12_land 261 = .ok (.iadd, 1) := by decide +kernel
theorem dX12_land_262 : decode cX12_land 262 = .ok (.invokestatic 106, 3) := by decide +kernel
theorem dX12_land_265 : decode cX12_land 265 = .ok (.iastore, 1) := by decide +kernel
theorem dX12_land_266 : decode cX12_land 266 = .ok (.iload_n 3, 1) := by decide +kernel
theorem dX12_land_267 : decode cX12_land 267 = .ok (.ireturn, 1) := by decide +kernel
theorem dX12_apart_0 : decode cX12_apart 0 = .ok (.iload_n 1, 1) := by decide +kernel
theorem dX12_apart_1 : decode cX12_apart 1 = .ok (.aload_n 0, 1) := by decide +kernel
theorem dX12_apart_2 : decode cX12_apart 2 = .ok (.getfield 9, 3) := by decide +kernel
theorem dX12_apart_5 : decode cX12_apart 5 = .ok (.iconst 0, 1) := by decide +kernel
theorem dX12_apart_6 : decode cX12_apart 6 = .ok (.iaload, 1) := by decide +kernel
theorem dX12_apart_7 : decode cX12_apart 7 = .ok (.irem, 1) := by decide +kernel
theorem dX12_apart_8 : decode cX12_apart 8 = .ok (.iload_n 2, 1) := by decide +kernel
theorem dX12_apart_9 : decode cX12_apart 9 = .ok (.aload_n 0, 1) := by decide +kernel
theorem dX12_apart_10 : decode cX12_apart 10 = .ok (.getfield 9, 3) := by decide +kernel
theorem dX12_apart_13 : decode cX12_apart 13 = .ok (.iconst 0, 1) := by decide +kernel
theorem dX12_apart_14 : decode cX12_apart 14 = .ok (.iaload, 1) := by decide +kernel
theorem dX12_apart_15 : decode cX12_apart 15 = .ok (.irem, 1) := by decide +kernel
theorem dX12_apart_16 : decode cX12_apart 16 = .ok (.isub, 1) := by decide +kernel
theorem dX12_apart_17 : decode cX12_apart 17 = .ok (.invokestatic 326, 3) := by decide +kernel
theorem dX12_apart_20 : decode cX12_apart 20 = .ok (.iload_n 1, 1) := by decide +kernel
theorem dX12_apart_21 : decode cX12_apart 21 = .ok (.aload_n 0, 1) := by decide +kernel
theorem dX12_apart_22 : decode cX12_apart 22 = .ok (.getfield 9, 3) := by decide +kernel
theorem dX12_apart_25 : decode cX12_apart 25 = .ok (.iconst 0, 1) := by decide +kernel
theorem dX12_apart_26 : decode cX12_apart 26 = .ok (.iaload, 1) := by decide +kernel
theorem dX12_apart_27 : decode cX12_apart 27 = .ok (.idiv, 1) := by decide +kernel
theorem dX12_apart_28 : decode cX12_apart 28 = .ok (.iload_n 2, 1) := by decide +kernel
theorem dX12_apart_29 : decode cX12_apart 29 = .ok (.aload_n 0, 1) := by decide +kernel
theorem dX12_apart_30 : decode cX12_apart 30 = .ok (.getfield 9, 3) := by decide +kernel
theorem dX12_apart_33 : decode cX12_apart 33 = .ok (.iconst 0, 1) := by decide +kernel
theorem dX12_apart_34 : decode cX12_apart 34 = .ok (.iaload, 1) := by decide +kernel
theorem dX12_apart_35 : decode cX12_apart 35 = .ok (.idiv, 1) := by decide +kernel
theorem dX12_apart_36 : decode cX12_apart 36 = .ok (.isub, 1) := by decide +kernel
theorem dX12_apart_37 : decode cX12_apart 37 = .ok (.invokestatic 326, 3) := by decide +kernel
theorem dX12_apart_40 : decode cX12_apart 40 = .ok (.iadd, 1) := by decide +kernel
theorem dX12_apart_41 : decode cX12_apart 41 = .ok (.ireturn, 1) := by decide +kernel
theorem dX12_kilosOf_0 : decode cX12_kilosOf 0 = .ok (.iconst 0, 1) := by decide +kernel
theorem dX12_kilosOf_1 : decode cX12_kilosOf 1 = .ok (.istore_n 2, 1) := by decide +kernel
theorem dX12_kilosOf_2 : decode cX12_kilosOf 2 = .ok (.iload_n 1, 1) := by decide +kernel
theorem dX12_kilosOf_3 : decode cX12_kilosOf 3 = .ok (.tableswitch 126 0 3 #[29, 59, 110, 118], 29) := by decide +kernel
theorem dX12_kilosOf_32 : decode cX12_kilosOf 32 = .ok (.iconst 0, 1) := by decide +kernel
theorem dX12_kilosOf_33 : decode cX12_kilosOf 33 = .ok (.istore_n 3, 1) := by decide +kernel
theorem dX12_kilosOf_34 : decode cX12_kilosOf 34 = .ok (.iload_n 3, 1) := by decide +kernel
theorem dX12_kilosOf_35 : decode cX12_kilosOf 35 = .ok (.aload_n 0, 1) := by decide +kernel
theorem dX12_kilosOf_36 : decode cX12_kilosOf 36 = .ok (.invokevirtual 78, 3) := by decide +kernel
theorem dX12_kilosOf_39 : decode cX12_kilosOf 39 = .ok (.if_icmp .ge 21, 3) := by decide +kernel
theorem dX12_kilosOf_42 : decode cX12_kilosOf 42 = .ok (.iload_n 2, 1) := by decide +kernel
theorem dX12_kilosOf_43 : decode cX12_kilosOf 43 = .ok (.aload_n 0, 1) := by decide +kernel
theorem dX12_kilosOf_44 : decode cX12_kilosOf 44 = .ok (.getfield 9, 3) := by decide +kernel
theorem dX12_kilosOf_47 : decode cX12_kilosOf 47 = .ok (.bipush 110, 2) := by decide +kernel
theorem dX12_kilosOf_49 : decode cX12_kilosOf 49 = .ok (.iload_n 3, 1) := by decide +kernel
theorem dX12_kilosOf_50 : decode cX12_kilosOf 50 = .ok (.iadd, 1) := by decide +kernel
theorem dX12_kilosOf_51 : decode cX12_kilosOf 51 = .ok (.iaload, 1) := by decide +kernel
theorem dX12_kilosOf_52 : decode cX12_kilosOf 52 = .ok (.iadd, 1) := by decide +kernel
theorem dX12_kilosOf_53 : decode cX12_kilosOf 53 = .ok (.istore_n 2, 1) := by decide +kernel
theorem dX12_kilosOf_54 : decode cX12_kilosOf 54 = .ok (.iinc 3 1, 3) := by decide +kernel
theorem dX12_kilosOf_57 : decode cX12_kilosOf 57 = .ok (.goto (-23), 3) := by decide +kernel
theorem dX12_kilosOf_60 : decode cX12_kilosOf 60 = .ok (.iload_n 2, 1) := by decide +kernel
theorem dX12_kilosOf_61 : decode cX12_kilosOf 61 = .ok (.ireturn, 1) := by decide +kernel
theorem dX12_kilosOf_62 : decode cX12_kilosOf 62 = .ok (.iconst 0, 1) := by decide +kernel
theorem dX12_kilosOf_63 : decode cX12_kilosOf 63 = .ok (.istore_n 3, 1) := by decide +kernel
theorem dX12_kilosOf_64 : decode cX12_kilosOf 64 = .ok (.iload_n 3, 1) := by decide +kernel
theorem dX12_kilosOf_65 : decode cX12_kilosOf 65 = .ok (.aload_n 0, 1) := by decide +kernel
theorem dX12_kilosOf_66 : decode cX12_kilosOf 66 = .ok (.getfield 9, 3) := by decide +kernel
theorem dX12_kilosOf_69 : decode cX12_kilosOf 69 = .ok (.bipush 16, 2) := by decide +kernel
theorem dX12_kilosOf_71 : decode cX12_kilosOf 71 = .ok (.iaload, 1) := by decide +kernel
theorem dX12_kilosOf_72 : decode cX12_kilosOf 72 = .ok (.if_icmp .ge 39, 3) := by decide +kernel
theorem dX12_kilosOf_75 : decode cX12_kilosOf 75 = .ok (.iload_n 2, 1) := by decide +kernel
theorem dX12_kilosOf_76 : decode cX12_kilosOf 76 = .ok (.aload_n 0, 1) := by decide +kernel
theorem dX12_kilosOf_77 : decode cX12_kilosOf 77 = .ok (.getfield 9, 3) := by decide +kernel
theorem dX12_kilosOf_80 : decode cX12_kilosOf 80 = .ok (.iload_n 3, 1) := by decide +kernel
theorem dX12_kilosOf_81 : decode cX12_kilosOf 81 = .ok (.iconst 5, 1) := by decide +kernel
theorem dX12_kilosOf_82 : decode cX12_kilosOf 82 = .ok (.invokestatic 87, 3) := by decide +kernel
theorem dX12_kilosOf_85 : decode cX12_kilosOf 85 = .ok (.iaload, 1) := by decide +kernel
theorem dX12_kilosOf_86 : decode cX12_kilosOf 86 = .ok (.ifCond .ne 16, 3) := by decide +kernel
theorem dX12_kilosOf_89 : decode cX12_kilosOf 89 = .ok (.aload_n 0, 1) := by decide +kernel
theorem dX12_kilosOf_90 : decode cX12_kilosOf 90 = .ok (.getfield 9, 3) := by decide +kernel
theorem dX12_kilosOf_93 : decode cX12_kilosOf 93 = .ok (.iload_n 3, 1) := by decide +kernel
theorem dX12_kilosOf_94 : decode cX12_kilosOf 94 = .ok (.iconst 4, 1) := by decide +kernel
theorem dX12_kilosOf_95 : decode cX12_kilosOf 95 = .ok (.invokestatic 87, 3) := by decide +kernel
theorem dX12_kilosOf_98 : decode cX12_kilosOf 98 = .ok (.iaload, 1) := by decide +kernel
theorem dX12_kilosOf_99 : decode cX12_kilosOf 99 = .ok (.goto 4, 3) := by decide +kernel
theorem dX12_kilosOf_102 : decode cX12_kilosOf 102 = .ok (.iconst 0, 1) := by decide +kernel
theorem dX12_kilosOf_103 : decode cX12_kilosOf 103 = .ok (.iadd, 1) := by decide +kernel
theorem dX12_kilosOf_104 : decode cX12_kilosOf 104 = .ok (.istore_n 2, 1) := by decide +kernel
theorem dX12_kilosOf_105 : decode cX12_kilosOf 105 = .ok (.iinc 3 1, 3) := by decide +kernel
theorem dX12_kilosOf_108 : decode cX12_kilosOf 108 = .ok (.goto (-44), 3) := by decide +kernel
theorem dX12_kilosOf_111 : decode cX12_kilosOf 111 = .ok (.iload_n 2, 1) := by decide +kernel
theorem dX12_kilosOf_112 : decode cX12_kilosOf 112 = .ok (.ireturn, 1) := by decide +kernel
theorem dX12_kilosOf_113 : decode cX12_kilosOf 113 = .ok (.aload_n 0, 1) := by decide +kernel
theorem dX12_kilosOf_114 : decode cX12_kilosOf 114 = .ok (.getfield 9, 3) := by decide +kernel
theorem dX12_kilosOf_117 : decode cX12_kilosOf 117 = .ok (.bipush 10, 2) := by decide +kernel
theorem dX12_kilosOf_119 : decode cX12_kilosOf 119 = .ok (.iaload, 1) := by decide +kernel
theorem dX12_kilosOf_120 : decode cX12_kilosOf 120 = .ok (.ireturn, 1) := by decide +kernel
theorem dX12_kilosOf_121 : decode cX12_kilosOf 121 = .ok (.aload_n 0, 1) := by decide +kernel
theorem dX12_kilosOf_122 : decode cX12_kilosOf 122 = .ok (.getfield 9, 3) := by decide +kernel
theorem dX12_kilosOf_125 : decode cX12_kilosOf 125 = .ok (.bipush 14, 2) := by decide +kernel
theorem dX12_kilosOf_127 : decode cX12_kilosOf 127 = .ok (.iaload, 1) := by decide +kernel
theorem dX12_kilosOf_128 : decode cX12_kilosOf 128 = .ok (.ireturn, 1) := by decide +kernel
theorem dX12_kilosOf_129 : decode cX12_kilosOf 129 = .ok (.aload_n 0, 1) := by decide +kernel
theorem dX12_kilosOf_130 : decode cX12_kilosOf 130 = .ok (.getfield 9, 3) := by decide +kernel
theorem dX12_kilosOf_133 : decode cX12_kilosOf 133 = .ok (.bipush 13, 2) := by decide +kernel
theorem dX12_kilosOf_135 : decode cX12_kilosOf 135 = .ok (.iaload, 1) := by decide +kernel
theorem dX12_kilosOf_136 : decode cX12_kilosOf 136 = .ok (.ireturn, 1) := by decide +kernel
theorem dX12_kilos_0 : decode cX12_kilos 0 = .ok (.iload_n 1, 1) := by decide +kernel
theorem dX12_kilos_1 : decode cX12_kilos 1 = .ok (.iconst 0, 1) := by decide +kernel
theorem dX12_kilos_2 : decode cX12_kilos 2 = .ok (.iconst 5, 1) := by decide +kernel
theorem dX12_kilos_3 : decode cX12_kilos 3 = .ok (.invokestatic 82, 3) := by decide +kernel
theorem dX12_kilos_6 : decode cX12_kilos 6 = .ok (.ifCond .ne 6, 3) := by decide +kernel
theorem dX12_kilos_9 : decode cX12_kilos 9 = .ok (.ldc 86, 2) := by decide +kernel
theorem dX12_kilos_11 : decode cX12_kilos 11 = .ok (.ireturn, 1) := by decide +kernel
theorem dX12_kilos_12 : decode cX12_kilos 12 = .ok (.iconst 0, 1) := by decide +kernel
theorem dX12_kilos_13 : decode cX12_kilos 13 = .ok (.istore_n 2, 1) := by decide +kernel
theorem dX12_kilos_14 : decode cX12_kilos 14 = .ok (.iconst 0, 1) := by decide +kernel
theorem dX12_kilos_15 : decode cX12_kilos 15 = .ok (.istore_n 3, 1) := by decide +kernel
theorem dX12_kilos_16 : decode cX12_kilos 16 = .ok (.iload_n 3, 1) := by decide +kernel
theorem dX12_kilos_17 : decode cX12_kilos 17 = .ok (.iconst 5, 1) := by decide +kernel
theorem dX12_kilos_18 : decode cX12_kilos 18 = .ok (.if_icmp .ge 31, 3) := by decide +kernel
theorem dX12_kilos_21 : decode cX12_kilos 21 = .ok (.iload_n 2, 1) := by decide +kernel
theorem dX12_kilos_22 : decode cX12_kilos 22 = .ok (.iload_n 1, 1) := by decide +kernel
theorem dX12_kilos_23 : decode cX12_kilos 23 = .ok (.iconst 5, 1) := by decide +kernel
theorem dX12_kilos_24 : decode cX12_kilos 24 = .ok (.if_icmp .eq 8, 3) := by decide +kernel
theorem dX12_kilos_27 : decode cX12_kilos 27 = .ok (.iload_n 1, 1) := by decide +kernel
theorem dX12_kilos_28 : decode cX12_kilos 28 = .ok (.iload_n 3, 1) := by decide +kernel
theorem dX12_kilos_29 : decode cX12_kilos 29 = .ok (.if_icmp .ne 11, 3) := by decide +kernel
theorem dX12_kilos_32 : decode cX12_kilos 32 = .ok (.aload_n 0, 1) := by decide +kernel
theorem dX12_kilos_33 : decode cX12_kilos 33 = .ok (.iload_n 3, 1) := by decide +kernel
theorem dX12_kilos_34 : decode cX12_kilos 34 = .ok (.invokevirtual 329, 3) := by decide +kernel
theorem dX12_kilos_37 : decode cX12_kilos 37 = .ok (.goto 4, 3) := by decide +kernel
theorem dX12_kilos_40 : decode cX12_kilos 40 = .ok (.iconst 0, 1) := by decide +kernel
theorem dX12_kilos_41 : decode cX12_kilos 41 = .ok (.iadd, 1) := by decide +kernel
theorem dX12_kilos_42 : decode cX12_kilos 42 = .ok (.istore_n 2, 1) := by decide +kernel
theorem dX12_kilos_43 : decode cX12_kilos 43 = .ok (.iinc 3 1, 3) := by decide +kernel
theorem dX12_kilos_46 : decode cX12_kilos 46 = .ok (.goto (-30), 3) := by decide +kernel
theorem dX12_kilos_49 : decode cX12_kilos 49 = .ok (.iload_n 2, 1) := by decide +kernel
theorem dX12_kilos_50 : decode cX12_kilos 50 = .ok (.ireturn, 1) := by decide +kernel
theorem dX12_powerBut_0 : decode cX12_powerBut 0 = .ok (.iconst 0, 1) := by decide +kernel
theorem dX12_powerBut_1 : decode cX12_powerBut 1 = .ok (.istore_n 2, 1) := by decide +kernel
theorem dX12_powerBut_2 : decode cX12_powerBut 2 = .ok (.iconst 0, 1) := by decide +kernel
theorem dX12_powerBut_3 : decode cX12_powerBut 3 = .ok (.istore_n 3, 1) := by decide +kernel
theorem dX12_powerBut_4 : decode cX12_powerBut 4 = .ok (.iload_n 3, 1) := by decide +kernel
theorem dX12_powerBut_5 : decode cX12_powerBut 5 = .ok (.aload_n 0, 1) := by decide +kernel
theorem dX12_powerBut_6 : decode cX12_powerBut 6 = .ok (.getfield 9, 3) := by decide +kernel
theorem dX12_powerBut_9 : decode cX12_powerBut 9 = .ok (.bipush 15, 2) := by decide +kernel
theorem dX12_powerBut_11 : decode cX12_powerBut 11 = .ok (.iaload, 1) := by decide +kernel
theorem dX12_powerBut_12 : decode cX12_powerBut 12 = .ok (.if_icmp .ge 34, 3) := by decide +kernel
theorem dX12_powerBut_15 : decode cX12_powerBut 15 = .ok (.iload_n 2, 1) := by decide +kernel
theorem dX12_powerBut_16 : decode cX12_powerBut 16 = .ok (.iload_n 1, 1) := by decide +kernel
theorem dX12_powerBut_17 : decode cX12_powerBut 17 = .ok (.iload_n 3, 1) := by decide +kernel
theorem dX12_powerBut_18 : decode cX12_powerBut 18 = .ok (.ishr, 1) := by decide +kernel
theorem dX12_powerBut_19 : decode cX12_powerBut 19 = .ok (.iconst 1, 1) := by decide +kernel
theorem dX12_powerBut_20 : decode cX12_powerBut 20 = .ok (.iand, 1) := by decide +kernel
theorem dX12_powerBut_21 : decode cX12_powerBut 21 = .ok (.ifCond .ne 16, 3) := by decide +kernel
theorem dX12_powerBut_24 : decode cX12_powerBut 24 = .ok (.aload_n 0, 1) := by decide +kernel
theorem dX12_powerBut_25 : decode cX12_powerBut 25 = .ok (.getfield 9, 3) := by decide +kernel
theorem dX12_powerBut_28 : decode cX12_powerBut 28 = .ok (.sipush 590, 3) := by decide +kernel
theorem dX12_powerBut_31 : decode cX12_powerBut 31 = .ok (.iload_n 3, 1) := by decide +kernel
theorem dX12_powerBut_32 : decode cX12_powerBut 32 = .ok (.iadd, 1) := by decide +kernel
theorem dX12_powerBut_33 : decode cX12_powerBut 33 = .ok (.iaload, 1) := by decide +kernel
theorem dX12_powerBut_34 : decode cX12_powerBut 34 = .ok (.goto 4, 3) := by decide +kernel
theorem dX12_powerBut_37 : decode cX12_powerBut 37 = .ok (.iconst 0, 1) := by decide +kernel
theorem dX12_powerBut_38 : decode cX12_powerBut 38 = .ok (.iadd, 1) := by decide +kernel
theorem dX12_powerBut_39 : decode cX12_powerBut 39 = .ok (.istore_n 2, 1) := by decide +kernel
theorem dX12_powerBut_40 : decode cX12_powerBut 40 = .ok (.iinc 3 1, 3) := by decide +kernel
theorem dX12_powerBut_43 : decode cX12_powerBut 43 = .ok (.goto (-39), 3) := by decide +kernel
theorem dX12_powerBut_46 : decode cX12_powerBut 46 = .ok (.iload_n 2, 1) := by decide +kernel
theorem dX12_powerBut_47 : decode cX12_powerBut 47 = .ok (.ireturn, 1) := by decide +kernel
theorem dX12_harmOf_0 : decode cX12_harmOf 0 = .ok (.iconst 0, 1) := by decide +kernel
theorem dX12_harmOf_1 : decode cX12_harmOf 1 = .ok (.istore_n 2, 1) := by decide +kernel
theorem dX12_harmOf_2 : decode cX12_harmOf 2 = .ok (.iconst 0, 1) := by decide +kernel
theorem dX12_harmOf_3 : decode cX12_harmOf 3 = .ok (.istore_n 3, 1) := by decide +kernel
theorem dX12_harmOf_4 : decode cX12_harmOf 4 = .ok (.iload_n 3, 1) := by decide +kernel
theorem dX12_harmOf_5 : decode cX12_harmOf 5 = .ok (.aload_n 0, 1) := by decide +kernel
theorem dX12_harmOf_6 : decode cX12_harmOf 6 = .ok (.getfield 9, 3) := by decide +kernel
theorem dX12_harmOf_9 : decode cX12_harmOf 9 = .ok (.bipush 15, 2) := by decide +kernel
theorem dX12_harmOf_11 : decode cX12_harmOf 11 = .ok (.iaload, 1) := by decide +kernel
theorem dX12_harmOf_12 : decode cX12_harmOf 12 = .ok (.if_icmp .ge 28, 3) := by decide +kernel
theorem dX12_harmOf_15 : decode cX12_harmOf 15 = .ok (.iload_n 2, 1) := by decide +kernel
theorem dX12_harmOf_16 : decode cX12_harmOf 16 = .ok (.iload_n 1, 1) := by decide +kernel
theorem dX12_harmOf_17 : decode cX12_harmOf 17 = .ok (.iload_n 3, 1) := by decide +kernel
theorem dX12_harmOf_18 : decode cX12_harmOf 18 = .ok (.ishr, 1) := by decide +kernel
theorem dX12_harmOf_19 : decode cX12_harmOf 19 = .ok (.iconst 1, 1) := by decide +kernel
theorem dX12_harmOf_20 : decode cX12_harmOf 20 = .ok (.iand, 1) := by decide +kernel
theorem dX12_harmOf_21 : decode cX12_harmOf 21 = .ok (.aload_n 0, 1) := by decide +kernel
theorem dX12_harmOf_22 : decode cX12_harmOf 22 = .ok (.getfield 9, 3) := by decide +kernel
theorem dX12_harmOf_25 : decode cX12_harmOf 25 = .ok (.sipush 598, 3) := by decide +kernel
theorem dX12_harmOf_28 : decode cX12_harmOf 28 = .ok (.iload_n 3, 1) := by decide +kernel
theorem dX12_harmOf_29 : decode cX12_harmOf 29 = .ok (.iadd, 1) := by decide +kernel
theorem dX12_harmOf_30 : decode cX12_harmOf 30 = .ok (.iaload, 1) := by decide +kernel
theorem dX12_harmOf_31 : decode cX12_harmOf 31 = .ok (.imul, 1) := by decide +kernel
theorem dX12_harmOf_32 : decode cX12_harmOf 32 = .ok (.iadd, 1) := by decide +kernel
theorem dX12_harmOf_33 : decode cX12_harmOf 33 = .ok (.istore_n 2, 1) := by decide +kernel
theorem dX12_harmOf_34 : decode cX12_harmOf 34 = .ok (.iinc 3 1, 3) := by decide +kernel
theorem dX12_harmOf_37 : decode cX12_harmOf 37 = .ok (.goto (-33), 3) := by decide +kernel
theorem dX12_harmOf_40 : decode cX12_harmOf 40 = .ok (.iload_n 2, 1) := by decide +kernel
theorem dX12_harmOf_41 : decode cX12_harmOf 41 = .ok (.ireturn, 1) := by decide +kernel
theorem dX12_many_0 : decode cX12_many 0 = .ok (.iconst 0, 1) := by decide +kernel
theorem dX12_many_1 : decode cX12_many 1 = .ok (.istore_n 1, 1) := by decide +kernel
theorem dX12_many_2 : decode cX12_many 2 = .ok (.iconst 0, 1) := by decide +kernel
theorem dX12_many_3 : decode cX12_many 3 = .ok (.istore_n 2, 1) := by decide +kernel
theorem dX12_many_4 : decode cX12_many 4 = .ok (.iload_n 2, 1) := by decide +kernel
theorem dX12_many_5 : decode cX12_many 5 = .ok (.bipush 8, 2) := by decide +kernel
theorem dX12_many_7 : decode cX12_many 7 = .ok (.if_icmp .ge 17, 3) := by decide +kernel
theorem dX12_many_10 : decode cX12_many 10 = .ok (.iload_n 1, 1) := by decide +kernel
theorem dX12_many_11 : decode cX12_many 11 = .ok (.iload_n 0, 1) := by decide +kernel
theorem dX12_many_12 : decode cX12_many 12 = .ok (.iload_n 2, 1) := by decide +kernel
theorem dX12_many_13 : decode cX12_many 13 = .ok (.ishr, 1) := by decide +kernel
theorem dX12_many_14 : decode cX12_many 14 = .ok (.iconst 1, 1) := by decide +kernel
theorem dX12_many_15 : decode cX12_many 15 = .ok (.iand, 1) := by decide +kernel
theorem dX12_many_16 : decode cX12_many 16 = .ok (.iadd, 1) := by decide +kernel
theorem dX12_many_17 : decode cX12_many 17 = .ok (.istore_n 1, 1) := by decide +kernel
theorem dX12_many_18 : decode cX12_many 18 = .ok (.iinc 2 1, 3) := by decide +kernel
theorem dX12_many_21 : decode cX12_many 21 = .ok (.goto (-17), 3) := by decide +kernel
theorem dX12_many_24 : decode cX12_many 24 = .ok (.iload_n 1, 1) := by decide +kernel
theorem dX12_many_25 : decode cX12_many 25 = .ok (.ireturn, 1) := by decide +kernel
theorem dX12_findCut_0 : decode cX12_findCut 0 = .ok (.iconst (-1), 1) := by decide +kernel
theorem dX12_findCut_1 : decode cX12_findCut 1 = .ok (.istore_n 2, 1) := by decide +kernel
theorem dX12_findCut_2 : decode cX12_findCut 2 = .ok (.iconst 0, 1) := by decide +kernel
theorem dX12_findCut_3 : decode cX12_findCut 3 = .ok (.istore_n 3, 1) := by decide +kernel
theorem dX12_findCut_4 : decode cX12_findCut 4 = .ok (.iload_n 3, 1) := by decide +kernel
theorem dX12_findCut_5 : decode cX12_findCut 5 = .ok (.iconst 1, 1) := by decide +kernel
theorem dX12_findCut_6 : decode cX12_findCut 6 = .ok (.aload_n 0, 1) := by decide +kernel
theorem dX12_findCut_7 : decode cX12_findCut 7 = .ok (.getfield 9, 3) := by decide +kernel
theorem dX12_findCut_10 : decode cX12_findCut 10 = .ok (.bipush 15, 2) := by decide +kernel
theorem dX12_findCut_12 : decode cX12_findCut 12 = .ok (.iaload, 1) := by decide +kernel
theorem dX12_findCut_13 : decode cX12_findCut 13 = .ok (.ishl, 1) := by decide +kernel
theorem dX12_findCut_14 : decode cX12_findCut 14 = .ok (.if_icmp .ge 87, 3) := by decide +kernel
theorem dX12_findCut_17 : decode cX12_findCut 17 = .ok (.aload_n 0, 1) := by decide +kernel
theorem dX12_findCut_18 : decode cX12_findCut 18 = .ok (.iload_n 3, 1) := by decide +kernel
theorem dX12_findCut_19 : decode cX12_findCut 19 = .ok (.invokevirtual 332, 3) := by decide +kernel
theorem dX12_findCut_22 : decode cX12_findCut 22 = .ok (.iload_n 1, 1) := by decide +kernel
theorem dX12_findCut_23 : decode cX12_findCut 23 = .ok (.imul, 1) := by decide +kernel
theorem dX12_findCut_24 : decode cX12_findCut 24 = .ok (.aload_n 0, 1) := by decide +kernel
theorem dX12_findCut_25 : decode cX12_findCut 25 = .ok (.getfield 9, 3) := by decide +kernel
theorem dX12_findCut_28 : decode cX12_findCut 28 = .ok (.iconst 4, 1) := by decide +kernel
theorem dX12_findCut_29 : decode cX12_findCut 29 = .ok (.iaload, 1) := by decide +kernel
theorem dX12_findCut_30 : decode cX12_findCut 30 = .ok (.if_icmp .le 6, 3) := by decide +kernel
theorem dX12_findCut_33 : decode cX12_findCut 33 = .ok (.goto 62, 3) := by decide +kernel
theorem dX12_findCut_36 : decode cX12_findCut 36 = .ok (.iload_n 2, 1) := by decide +kernel
theorem dX12_findCut_37 : decode cX12_findCut 37 = .ok (.ifCond .lt 40, 3) := by decide +kernel
theorem dX12_findCut_40 : decode cX12_findCut 40 = .ok (.aload_n 0, 1) := by decide +kernel
theorem dX12_findCut_41 : decode cX12_findCut 41 = .ok (.iload_n 3, 1) := by decide +kernel
theorem dX12_findCut_42 : decode cX12_findCut 42 = .ok (.invokevirtual 335, 3) := by decide +kernel
theorem dX12_findCut_45 : decode cX12_findCut 45 = .ok (.aload_n 0, 1) := by decide +kernel
theorem dX12_findCut_46 : decode cX12_findCut 46 = .ok (.iload_n 2, 1) := by decide +kernel
theorem dX12_findCut_47 : decode cX12_findCut 47 = .ok (.invokevirtual 335, 3) := by decide +kernel
theorem dX12_findCut_50 : decode cX12_findCut 50 = .ok (.if_icmp .lt 27, 3) := by decide +kernel
theorem dX12_findCut_53 : decode cX12_findCut 53 = .ok (.aload_n 0, 1) := by decide +kernel
theorem dX12_findCut_54 : decode cX12_findCut 54 = .ok (.iload_n 3, 1) := by decide +kernel
theorem dX12_findCut_55 : decode cX12_findCut 55 = .ok (.invokevirtual 335, 3) := by decide +kernel
theorem dX12_findCut_58 : decode cX12_findCut 58 = .ok (.aload_n 0, 1) := by decide +kernel
theorem dX12_findCut_59 : decode cX12_findCut 59 = .ok (.iload_n 2, 1) := by decide +kernel
theorem dX12_findCut_60 : decode cX12_findCut 60 = .ok (.invokevirtual 335, 3) := by decide +kernel
theorem dX12_findCut_63 : decode cX12_findCut 63 = .ok (.if_icmp .ne 18, 3) := by decide +kernel
theorem dX12_findCut_66 : decode cX12_findCut 66 = .ok (.iload_n 3, 1) := by decide +kernel
theorem dX12_findCut_67 : decode cX12_findCut 67 = .ok (.invokestatic 338, 3) := by decide +kernel
theorem dX12_findCut_70 : decode cX12_findCut 70 = .ok (.iload_n 2, 1) := by decide +kernel
theorem dX12_findCut_71 : decode cX12_findCut 71 = .ok (.invokestatic 338, 3) := by decide +kernel
theorem dX12_findCut_74 : decode cX12_findCut 74 = .ok (.if_icmp .ge 7, 3) := by decide +kernel
theorem dX12_findCut_77 : decode cX12_findCut 77 = .ok (.iconst 1, 1) := by decide +kernel
theorem dX12_findCut_78 : decode cX12_findCut 78 = .ok (.goto 4, 3) := by decide +kernel
theorem dX12_findCut_81 : decode cX12_findCut 81 = .ok (.iconst 0, 1) := by decide +kernel
theorem dX12_findCut_82 : decode cX12_findCut 82 = .ok (.istore 4, 2) := by decide +kernel
theorem dX12_findCut_84 : decode cX12_findCut 84 = .ok (.iload 4, 2) := by decide +kernel
theorem dX12_findCut_86 : decode cX12_findCut 86 = .ok (.ifCond .eq 7, 3) := by decide +kernel
theorem dX12_findCut_89 : decode cX12_findCut 89 = .ok (.iload_n 3, 1) := by decide +kernel
theorem dX12_findCut_90 : decode cX12_findCut 90 = .ok (.goto 4, 3) := by decide +kernel
theorem dX12_findCut_93 : decode cX12_findCut 93 = .ok (.iload_n 2, 1) := by decide +kernel
theorem dX12_findCut_94 : decode cX12_findCut 94 = .ok (.istore_n 2, 1) := by decide +kernel
theorem dX12_findCut_95 : decode cX12_findCut 95 = .ok (.iinc 3 1, 3) := by decide +kernel
theorem dX12_findCut_98 : decode cX12_findCut 98 = .ok (.goto (-94), 3) := by decide +kernel
theorem dX12_findCut_101 : decode cX12_findCut 101 = .ok (.iload_n 2, 1) := by decide +kernel
theorem dX12_findCut_102 : decode cX12_findCut 102 = .ok (.ireturn, 1) := by decide +kernel
theorem dX12_night_0 : decode cX12_night 0 = .ok (.iload_n 1, 1) := by decide +kernel
theorem dX12_night_1 : decode cX12_night 1 = .ok (.iconst 1, 1) := by decide +kernel
theorem dX12_night_2 : decode cX12_night 2 = .ok (.bipush 24, 2) := by decide +kernel
theorem dX12_night_4 : decode cX12_night 4 = .ok (.invokestatic 82, 3) := by decide +kernel
theorem dX12_night_7 : decode cX12_night 7 = .ok (.ifCond .eq 15, 3) := by decide +kernel
theorem dX12_night_10 : decode cX12_night 10 = .ok (.aload_n 0, 1) := by decide +kernel
theorem dX12_night_11 : decode cX12_night 11 = .ok (.aload_n 0, 1) := by decide +kernel
theorem dX12_night_12 : decode cX12_night 12 = .ok (.iload_n 1, 1) := by decide +kernel
theorem dX12_night_13 : decode cX12_night 13 = .ok (.invokevirtual 341, 3) := by decide +kernel
theorem dX12_night_16 : decode cX12_night 16 = .ok (.invokevirtual 335, 3) := by decide +kernel
theorem dX12_night_19 : decode cX12_night 19 = .ok (.goto 5, 3) := by decide +kernel
theorem dX12_night_22 : decode cX12_night 22 = .ok (.ldc 86, 2) := by decide +kernel
theorem dX12_night_24 : decode cX12_night 24 = .ok (.ireturn, 1) := by decide +kernel
theorem dX12_cut_0 : decode cX12_cut 0 = .ok (.iload_n 1, 1) := by decide +kernel
theorem dX12_cut_1 : decode cX12_cut 1 = .ok (.iconst 1, 1) := by decide +kernel
theorem dX12_cut_2 : decode cX12_cut 2 = .ok (.bipush 24, 2) := by decide +kernel
theorem dX12_cut_4 : decode cX12_cut 4 = .ok (.invokestatic 82, 3) := by decide +kernel
theorem dX12_cut_7 : decode cX12_cut 7 = .ok (.ifCond .eq 11, 3) := by decide +kernel
theorem dX12_cut_10 : decode cX12_cut 10 = .ok (.aload_n 0, 1) := by decide +kernel
theorem dX12_cut_11 : decode cX12_cut 11 = .ok (.iload_n 1, 1) := by decide +kernel
theorem dX12_cut_12 : decode cX12_cut 12 = .ok (.invokevirtual 341, 3) := by decide +kernel
theorem dX12_cut_15 : decode cX12_cut 15 = .ok (.goto 5, 3) := by decide +kernel
theorem dX12_cut_18 : decode cX12_cut 18 = .ok (.ldc 86, 2) := by decide +kernel
theorem dX12_cut_20 : decode cX12_cut 20 = .ok (.ireturn, 1) := by decide +kernel
theorem dX12_work_0 : decode cX12_work 0 = .ok (.aload_n 0, 1) := by decide +kernel
theorem dX12_work_1 : decode cX12_work 1 = .ok (.getfield 9, 3) := by decide +kernel
theorem dX12_work_4 : decode cX12_work 4 = .ok (.bipush 19, 2) := by decide +kernel
theorem dX12_work_6 : decode cX12_work 6 = .ok (.iaload, 1) := by decide +kernel
theorem dX12_work_7 : decode cX12_work 7 = .ok (.istore 5, 2) := by decide +kernel
theorem dX12_work_9 : decode cX12_work 9 = .ok (.iload_n 1, 1) := by decide +kernel
theorem dX12_work_10 : decode cX12_work 10 = .ok (.iconst 1, 1) := by decide +kernel
theorem dX12_work_11 : decode cX12_work 11 = .ok (.bipush 9, 2) := by decide +kernel
theorem dX12_work_13 : decode cX12_work 13 = .ok (.invokestatic 82, 3) := by decide +kernel
theorem dX12_work_16 : decode cX12_work 16 = .ok (.ifCond .eq 38, 3) := by decide +kernel
theorem dX12_work_19 : decode cX12_work 19 = .ok (.iload_n 2, 1) := by decide +kernel
theorem dX12_work_20 : decode cX12_work 20 = .ok (.iconst 0, 1) := by decide +kernel
theorem dX12_work_21 : decode cX12_work 21 = .ok (.bipush 50, 2) := by decide +kernel
theorem dX12_work_23 : decode cX12_work 23 = .ok (.invokestatic 82, 3) := by decide +kernel
theorem dX12_work_26 : decode cX12_work 26 = .ok (.ifCond .eq 28, 3) := by decide +kernel
theorem dX12_work_29 : decode cX12_work 29 = .ok (.iload_n 3, 1) := by decide +kernel
theorem dX12_work_30 : decode cX12_work 30 = .ok (.iconst 0, 1) := by decide +kernel
theorem dX12_work_31 : decode cX12_work 31 = .ok (.bipush 20, 2) := by decide +kernel
theorem dX12_work_33 : decode cX12_work 33 = .ok (.invokestatic 82, 3) := by decide +kernel
theorem dX12_work_36 : decode cX12_work 36 = .ok (.ifCond .eq 18, 3) := by decide +kernel
theorem dX12_work_39 : decode cX12_work 39 = .ok (.iload 4, 2) := by decide +kernel
theorem dX12_work_41 : decode cX12_work 41 = .ok (.iconst 0, 1) := by decide +kernel
theorem dX12_work_42 : decode cX12_work 42 = .ok (.iconst 1, 1) := by decide +kernel
theorem dX12_work_43 : decode cX12_work 43 = .ok (.iload 5, 2) := by decide +kernel
theorem dX12_work_45 : decode cX12_work 45 = .ok (.ishl, 1) := by decide +kernel
theorem dX12_work_46 : decode cX12_work 46 = .ok (.iconst 1, 1) := by decide +kernel
theorem dX12_work_47 : decode cX12_work 47 = .ok (.isub, 1) := by decide +kernel
theorem dX12_work_48 : decode cX12_work 48 = .ok (.invokestatic 82, 3) := by decide +kernel
theorem dX12_work_51 : decode cX12_work 51 = .ok (.ifCond .ne 6, 3) := by decide +kernel
theorem dX12_work_54 : decode cX12_work 54 = .ok (.ldc 86, 2) := by decide +kernel
theorem dX12_work_56 : decode cX12_work 56 = .ok (.ireturn, 1) := by decide +kernel
theorem dX12_work_57 : decode cX12_work 57 = .ok (.iload 5, 2) := by decide +kernel
theorem dX12_work_59 : decode cX12_work 59 = .ok (.bipush 6, 2) := by decide +kernel
theorem dX12_work_61 : decode cX12_work 61 = .ok (.if_icmp .ne 6, 3) := by decide +kernel
theorem dX12_work_64 : decode cX12_work 64 = .ok (.ldc 121, 2) := by decide +kernel
theorem dX12_work_66 : decode cX12_work 66 = .ok (.ireturn, 1) := by decide +kernel
theorem dX12_work_67 : decode cX12_work 67 = .ok (.aload_n 0, 1) := by decide +kernel
theorem dX12_work_68 : decode cX12_work 68 = .ok (.getfield 9, 3) := by decide +kernel
theorem dX12_work_71 : decode cX12_work 71 = .ok (.sipush 606, 3) := by decide +kernel
theorem dX12_work_74 : decode cX12_work 74 = .ok (.iload 5, 2) := by decide +kernel
theorem dX12_work_76 : decode cX12_work 76 = .ok (.iadd, 1) := by decide +kernel
theorem dX12_work_77 : decode cX12_work 77 = .ok (.iload_n 1, 1) := by decide +kernel
theorem dX12_work_78 : decode cX12_work 78 = .ok (.iastore, 1) := by decide +kernel
theorem dX12_work_79 : decode cX12_work 79 = .ok (.aload_n 0, 1) := by decide +kernel
theorem dX12_work_80 : decode cX12_work 80 = .ok (.getfield 9, 3) := by decide +kernel
theorem dX12_work_83 : decode cX12_work 83 = .ok (.sipush 612, 3) := by decide +kernel
theorem dX12_work_86 : decode cX12_work 86 = .ok (.iload 5, 2) := by decide +kernel
theorem dX12_work_88 : decode cX12_work 88 = .ok (.iadd, 1) := by decide +kernel
theorem dX12_work_89 : decode cX12_work 89 = .ok (.iload_n 2, 1) := by decide +kernel
theorem dX12_work_90 : decode cX12_work 90 = .ok (.iastore, 1) := by decide +kernel
theorem dX12_work_91 : decode cX12_work 91 = .ok (.aload_n 0, 1) := by decide +kernel
theorem dX12_work_92 : decode cX12_work 92 = .ok (.getfield 9, 3) := by decide +kernel
theorem dX12_work_95 : decode cX12_work 95 = .ok (.sipush 618, 3) := by decide +kernel
theorem dX12_work_98 : decode cX12_work 98 = .ok (.iload 5, 2) := by decide +kernel
theorem dX12_work_100 : decode cX12_work 100 = .ok (.iadd, 1) := by decide +kernel
theorem dX12_work_101 : decode cX12_work 101 = .ok (.iload_n 3, 1) := by decide +kernel
theorem dX12_work_102 : decode cX12_work 102 = .ok (.iastore, 1) := by decide +kernel
theorem dX12_work_103 : decode cX12_work 103 = .ok (.aload_n 0, 1) := by decide +kernel
theorem dX12_work_104 : decode cX12_work 104 = .ok (.getfield 9, 3) := by decide +kernel
theorem dX12_work_107 : decode cX12_work 107 = .ok (.sipush 624, 3) := by decide +kernel
theorem dX12_work_110 : decode cX12_work 110 = .ok (.iload 5, 2) := by decide +kernel
theorem dX12_work_112 : decode cX12_work 112 = .ok (.iadd, 1) := by decide +kernel
theorem dX12_work_113 : decode cX12_work 113 = .ok (.iload 4, 2) := by decide +kernel
theorem dX12_work_115 : decode cX12_work 115 = .ok (.iastore, 1) := by decide +kernel
theorem dX12_work_116 : decode cX12_work 116 = .ok (.aload_n 0, 1) := by decide +kernel
theorem dX12_work_117 : decode cX12_work 117 = .ok (.getfield 9, 3) := by decide +kernel
theorem dX12_work_120 : decode cX12_work 120 = .ok (.bipush 19, 2) := by decide +kernel
theorem dX12_work_122 : decode cX12_work 122 = .ok (.dup2, 1) := by decide +kernel
theorem dX12_work_123 : decode cX12_work 123 = .ok (.iaload, 1) := by decide +kernel
theorem dX12_work_124 : decode cX12_work 124 = .ok (.iconst 1, 1) := by decide +kernel
theorem dX12_work_125 : decode cX12_work 125 = .ok (.iadd, 1) := by decide +kernel
theorem dX12_work_126 : decode cX12_work 126 = .ok (.iastore, 1) := by decide +kernel
theorem dX12_work_127 : decode cX12_work 127 = .ok (.iload 5, 2) := by decide +kernel
theorem dX12_work_129 : decode cX12_work 129 = .ok (.ireturn, 1) := by decide +kernel
theorem dX12_clear_0 : decode cX12_clear 0 = .ok (.aload_n 0, 1) := by decide +kernel
theorem dX12_clear_1 : decode cX12_clear 1 = .ok (.getfield 9, 3) := by decide +kernel
theorem dX12_clear_4 : decode cX12_clear 4 = .ok (.bipush 19, 2) := by decide +kernel
theorem dX12_clear_6 : decode cX12_clear 6 = .ok (.iaload, 1) := by decide +kernel
theorem dX12_clear_7 : decode cX12_clear 7 = .ok (.istore_n 1, 1) := by decide +kernel
theorem dX12_clear_8 : decode cX12_clear 8 = .ok (.aload_n 0, 1) := by decide +kernel
theorem dX12_clear_9 : decode cX12_clear 9 = .ok (.getfield 9, 3) := by decide +kernel
theorem dX12_clear_12 : decode cX12_clear 12 = .ok (.bipush 19, 2) := by decide +kernel
theorem dX12_clear_14 : decode cX12_clear 14 = .ok (.iconst 0, 1) := by decide +kernel
theorem dX12_clear_15 : decode cX12_clear 15 = .ok (.iastore, 1) := by decide +kernel
theorem dX12_clear_16 : decode cX12_clear 16 = .ok (.iload_n 1, 1) := by decide +kernel
theorem dX12_clear_17 : decode cX12_clear 17 = .ok (.ireturn, 1) := by decide +kernel
theorem dX12_paid_0 : decode cX12_paid 0 = .ok (.iload_n 1, 1) := by decide +kernel
theorem dX12_paid_1 : decode cX12_paid 1 = .ok (.istore 5, 2) := by decide +kernel
theorem dX12_paid_3 : decode cX12_paid 3 = .ok (.aload_n 0, 1) := by decide +kernel
theorem dX12_paid_4 : decode cX12_paid 4 = .ok (.iconst 0, 1) := by decide +kernel
theorem dX12_paid_5 : decode cX12_paid 5 = .ok (.invokevirtual 332, 3) := by decide +kernel
theorem dX12_paid_8 : decode cX12_paid 8 = .ok (.iload_n 3, 1) := by decide +kernel
theorem dX12_paid_9 : decode cX12_paid 9 = .ok (.iadd, 1) := by decide +kernel
theorem dX12_paid_10 : decode cX12_paid 10 = .ok (.istore 6, 2) := by decide +kernel
theorem dX12_paid_12 : decode cX12_paid 12 = .ok (.iconst 0, 1) := by decide +kernel
theorem dX12_paid_13 : decode cX12_paid 13 = .ok (.istore 7, 2) := by decide +kernel
theorem dX12_paid_15 : decode cX12_paid 15 = .ok (.iload 7, 2) := by decide +kernel
theorem dX12_paid_17 : decode cX12_paid 17 = .ok (.iload 4, 2) := by decide +kernel
theorem dX12_paid_19 : decode cX12_paid 19 = .ok (.if_icmp .ge 29, 3) := by decide +kernel
theorem dX12_paid_22 : decode cX12_paid 22 = .ok (.iload 5, 2) := by decide +kernel
theorem dX12_paid_24 : decode cX12_paid 24 = .ok (.ifCond .lt 24, 3) := by decide +kernel
theorem dX12_paid_27 : decode cX12_paid 27 = .ok (.sipush 9999, 3) := by decide +kernel
theorem dX12_paid_30 : decode cX12_paid 30 = .ok (.iload 5, 2) := by decide +kernel
theorem dX12_paid_32 : decode cX12_paid 32 = .ok (.iload_n 2, 1) := by decide +kernel
theorem dX12_paid_33 : decode cX12_paid 33 = .ok (.iadd, 1) := by decide +kernel
theorem dX12_paid_34 : decode cX12_paid 34 = .ok (.invokestatic 106, 3) := by decide +kernel
theorem dX12_paid_37 : decode cX12_paid 37 = .ok (.iload 6, 2) := by decide +kernel
theorem dX12_paid_39 : decode cX12_paid 39 = .ok (.isub, 1) := by decide +kernel
theorem dX12_paid_40 : decode cX12_paid 40 = .ok (.istore 5, 2) := by decide +kernel
theorem dX12_paid_42 : decode cX12_paid 42 = .ok (.iinc 7 1, 3) := by decide +kernel
theorem dX12_paid_45 : decode cX12_paid 45 = .ok (.goto (-30), 3) := by decide +kernel
theorem dX12_paid_48 : decode cX12_paid 48 = .ok (.iload 5, 2) := by decide +kernel
theorem dX12_paid_50 : decode cX12_paid 50 = .ok (.ifCond .ge 7, 3) := by decide +kernel
theorem dX12_paid_53 : decode cX12_paid 53 = .ok (.iconst (-1), 1) := by decide +kernel
theorem dX12_paid_54 : decode cX12_paid 54 = .ok (.goto 5, 3) := by decide +kernel
theorem dX12_paid_57 : decode cX12_paid 57 = .ok (.iload 5, 2) := by decide +kernel
theorem dX12_paid_59 : decode cX12_paid 59 = .ok (.ireturn, 1) := by decide +kernel
theorem dX12_seek_0 : decode cX12_seek 0 = .ok (.aload_n 0, 1) := by decide +kernel
theorem dX12_seek_1 : decode cX12_seek 1 = .ok (.iload 4, 2) := by decide +kernel
theorem dX12_seek_3 : decode cX12_seek 3 = .ok (.iload 5, 2) := by decide +kernel
theorem dX12_seek_5 : decode cX12_seek 5 = .ok (.iconst 0, 1) := by decide +kernel
theorem dX12_seek_6 : decode cX12_seek 6 = .ok (.aload_n 0, 1) := by decide +kernel
theorem dX12_seek_7 : decode cX12_seek 7 = .ok (.getfield 344, 3) := by decide +kernel
theorem dX12_seek_10 : decode cX12_seek 10 = .ok (.iload_n 3, 1) := by decide +kernel
theorem dX12_seek_11 : decode cX12_seek 11 = .ok (.isub, 1) := by decide +kernel
theorem dX12_seek_12 : decode cX12_seek 12 = .ok (.invokevirtual 347, 3) := by decide +kernel
theorem dX12_seek_15 : decode cX12_seek 15 = .ok (.istore 6, 2) := by decide +kernel
theorem dX12_seek_17 : decode cX12_seek 17 = .ok (.iload 6, 2) := by decide +kernel
theorem dX12_seek_19 : decode cX12_seek 19 = .ok (.aload_n 0, 1) := by decide +kernel
theorem dX12_seek_20 : decode cX12_seek 20 = .ok (.getfield 350, 3) := by decide +kernel
theorem dX12_seek_23 : decode cX12_seek 23 = .ok (.if_icmp .le 43, 3) := by decide +kernel
theorem dX12_seek_26 : decode cX12_seek 26 = .ok (.aload_n 0, 1) := by decide +kernel
theorem dX12_seek_27 : decode cX12_seek 27 = .ok (.iload 6, 2) := by decide +kernel
theorem dX12_seek_29 : decode cX12_seek 29 = .ok (.putfield 350, 3) := by decide +kernel
theorem dX12_seek_32 : decode cX12_seek 32 = .ok (.aload_n 0, 1) := by decide +kernel
theorem dX12_seek_33 : decode cX12_seek 33 = .ok (.iload_n 1, 1) := by decide +kernel
theorem dX12_seek_34 : decode cX12_seek 34 = .ok (.putfield 353, 3) := by decide +kernel
theorem dX12_seek_37 : decode cX12_seek 37 = .ok (.iconst 0, 1) := by decide +kernel
theorem dX12_seek_38 : decode cX12_seek 38 = .ok (.istore 7, 2) := by decide +kernel
theorem dX12_seek_40 : decode cX12_seek 40 = .ok (.iload 7, 2) := by decide +kernel
theorem dX12_seek_42 : decode cX12_seek 42 = .ok (.iload_n 1, 1) := by decide +kernel
theorem dX12_seek_43 : decode cX12_seek 43 = .ok (.if_icmp .ge 23, 3) := by decide +kernel
theorem dX12_seek_46 : decode cX12_seek 46 = .ok (.aload_n 0, 1) := by decide +kernel
theorem dX12_seek_47 : decode cX12_seek 47 = .ok (.getfield 68, 3) := by decide +kernel
theorem dX12_seek_50 : decode cX12_seek 50 = .ok (.iload 7, 2) := by decide +kernel
theorem dX12_seek_52 : decode cX12_seek 52 = .ok (.aload_n 0, 1) := by decide +kernel
theorem dX12_seek_53 : decode cX12_seek 53 = .ok (.getfield 65, 3) := by decide +kernel
theorem dX12_seek_56 : decode cX12_seek 56 = .ok (.iload 7, 2) := by decide +kernel
theorem dX12_seek_58 : decode cX12_seek 58 = .ok (.iaload, 1) := by decide +kernel
theorem dX12_seek_59 : decode cX12_seek 59 = .ok (.iastore, 1) := by decide +kernel
theorem dX12_seek_60 : decode cX12_seek 60 = .ok (.iinc 7 1, 3) := by decide +kernel
theorem dX12_seek_63 : decode cX12_seek 63 = .ok (.goto (-23), 3) := by decide +kernel
theorem dX12_seek_66 : decode cX12_seek 66 = .ok (.iconst 0, 1) := by decide +kernel
theorem dX12_seek_67 : decode cX12_seek 67 = .ok (.istore 7, 2) := by decide +kernel
theorem dX12_seek_69 : decode cX12_seek 69 = .ok (.iload 7, 2) := by decide +kernel
theorem dX12_seek_71 : decode cX12_seek 71 = .ok (.aload_n 0, 1) := by decide +kernel
theorem dX12_seek_72 : decode cX12_seek 72 = .ok (.getfield 9, 3) := by decide +kernel
theorem dX12_seek_75 : decode cX12_seek 75 = .ok (.bipush 19, 2) := by decide +kernel
theorem dX12_seek_77 : decode cX12_seek 77 = .ok (.iaload, 1) := by decide +kernel
theorem dX12_seek_78 : decode cX12_seek 78 = .ok (.if_icmp .ge 163, 3) := by decide +kernel
theorem dX12_seek_81 : decode cX12_seek 81 = .ok (.aload_n 0, 1) := by decide +kernel
theorem dX12_seek_82 : decode cX12_seek 82 = .ok (.getfield 356, 3) := by decide +kernel
theorem dX12_seek_85 : decode cX12_seek 85 = .ok (.ifCond .ne 156, 3) := by decide +kernel
theorem dX12_seek_88 : decode cX12_seek 88 = .ok (.aload_n 0, 1) := by decide +kernel
theorem dX12_seek_89 : decode cX12_seek 89 = .ok (.getfield 9, 3) := by decide +kernel
theorem dX12_seek_92 : decode cX12_seek 92 = .ok (.sipush 606, 3) := by decide +kernel
theorem dX12_seek_95 : decode cX12_seek 95 = .ok (.iload 7, 2) := by decide +kernel
theorem dX12_seek_97 : decode cX12_seek 97 = .ok (.iadd, 1) := by decide +kernel
theorem dX12_seek_98 : decode cX12_seek 98 = .ok (.iaload, 1) := by decide +kernel
theorem dX12_seek_99 : decode cX12_seek 99 = .ok (.istore 8, 2) := by decide +kernel
theorem dX12_seek_101 : decode cX12_seek 101 = .ok (.iload_n 2, 1) := by decide +kernel
theorem dX12_seek_102 : decode cX12_seek 102 = .ok (.iload 7, 2) := by decide +kernel
theorem dX12_seek_104 : decode cX12_seek 104 = .ok (.ishr, 1) := by decide +kernel
theorem dX12_seek_105 : decode cX12_seek 105 = .ok (.iconst 1, 1) := by decide +kernel
theorem dX12_seek_106 : decode cX12_seek 106 = .ok (.iand, 1) := by decide +kernel
theorem dX12_seek_107 : decode cX12_seek 107 = .ok (.iconst 1, 1) := by decide +kernel
theorem dX12_seek_108 : decode cX12_seek 108 = .ok (.if_icmp .eq 127, 3) := by decide +kernel
theorem dX12_seek_111 : decode cX12_seek 111 = .ok (.aload_n 0, 1) := by decide +kernel
theorem dX12_seek_112 : decode cX12_seek 112 = .ok (.getfield 9, 3) := by decide +kernel
theorem dX12_seek_115 : decode cX12_seek 115 = .ok (.sipush 624, 3) := by decide +kernel
theorem dX12_seek_118 : decode cX12_seek 118 = .ok (.iload 7, 2) := by decide +kernel
theorem dX12_seek_120 : decode cX12_seek 120 = .ok (.iadd, 1) := by decide +kernel
theorem dX12_seek_121 : decode cX12_seek 121 = .ok (.iaload, 1) := by decide +kernel
theorem dX12_seek_122 : decode cX12_seek 122 = .ok (.iload_n 2, 1) := by decide +kernel
theorem dX12_seek_123 : decode cX12_seek 123 = .ok (.iconst (-1), 1) := by decide +kernel
theorem dX12_seek_124 : decode cX12_seek 124 = .ok (.ixor, 1) := by decide +kernel
theorem dX12_seek_125 : decode cX12_seek 125 = .ok (.iand, 1) := by decide +kernel
theorem dX12_seek_126 : decode cX12_seek 126 = .ok (.ifCond .ne 109, 3) := by decide +kernel
theorem dX12_seek_129 : decode cX12_seek 129 = .ok (.iload_n 3, 1) := by decide +kernel
theorem dX12_seek_130 : decode cX12_seek 130 = .ok (.iload 8, 2) := by decide +kernel
theorem dX12_seek_132 : decode cX12_seek 132 = .ok (.iadd, 1) := by decide +kernel
theorem dX12_seek_133 : decode cX12_seek 133 = .ok (.aload_n 0, 1) := by decide +kernel
theorem dX12_seek_134 : decode cX12_seek 134 = .ok (.getfield 344, 3) := by decide +kernel
theorem dX12_seek_137 : decode cX12_seek 137 = .ok (.if_icmp .le 6, 3) := by decide +kernel
theorem dX12_seek_140 : decode cX12_seek 140 = .ok (.goto 95, 3) := by decide +kernel
theorem dX12_seek_143 : decode cX12_seek 143 = .ok (.aload_n 0, 1) := by decide +kernel
theorem dX12_seek_144 : decode cX12_seek 144 = .ok (.getfield 359, 3) := by decide +kernel
theorem dX12_seek_147 : decode cX12_seek 147 = .ok (.ifCond .ne 9, 3) := by decide +kernel
theorem dX12_seek_150 : decode cX12_seek 150 = .ok (.aload_n 0, 1) := by decide +kernel
theorem dX12_seek_151 : decode cX12_seek 151 = .ok (.iconst 1, 1) := by decide +kernel
theorem dX12_seek_152 : decode cX12_seek 152 = .ok (.putfield 356, 3) := by decide +kernel
theorem dX12_seek_155 : decode cX12_seek 155 = .ok (.return_, 1) := by decide +kernel
theorem dX12_seek_156 : decode cX12_seek 156 = .ok (.aload_n 0, 1) := by decide +kernel
theorem dX12_seek_157 : decode cX12_seek 157 = .ok (.dup, 1) := by decide +kernel
theorem dX12_seek_158 : decode cX12_seek 158 = .ok (.getfield 359, 3) := by decide +kernel
theorem dX12_seek_161 : decode cX12_seek 161 = .ok (.iconst 1, 1) := by decide +kernel
theorem dX12_seek_162 : decode cX12_seek 162 = .ok (.isub, 1) := by decide +kernel
theorem dX12_seek_163 : decode cX12_seek 163 = .ok (.putfield 359, 3) := by decide +kernel
theorem dX12_seek_166 : decode cX12_seek 166 = .ok (.aload_n 0, 1) := by decide +kernel
theorem dX12_seek_167 : decode cX12_seek 167 = .ok (.getfield 65, 3) := by decide +kernel
theorem dX12_seek_170 : decode cX12_seek 170 = .ok (.iload_n 1, 1) := by decide +kernel
theorem dX12_seek_171 : decode cX12_seek 171 = .ok (.iload 7, 2) := by decide +kernel
theorem dX12_seek_173 : decode cX12_seek 173 = .ok (.iastore, 1) := by decide +kernel
theorem dX12_seek_174 : decode cX12_seek 174 = .ok (.aload_n 0, 1) := by decide +kernel
theorem dX12_seek_175 : decode cX12_seek 175 = .ok (.iload 4, 2) := by decide +kernel
theorem dX12_seek_177 : decode cX12_seek 177 = .ok (.iload 5, 2) := by decide +kernel
theorem dX12_seek_179 : decode cX12_seek 179 = .ok (.aload_n 0, 1) := by decide +kernel
theorem dX12_seek_180 : decode cX12_seek 180 = .ok (.getfield 9, 3) := by decide +kernel
theorem dX12_seek_183 : decode cX12_seek 183 = .ok (.sipush 612, 3) := by decide +kernel
theorem dX12_seek_186 : decode cX12_seek 186 = .ok (.iload 7, 2) := by decide +kernel
theorem dX12_seek_188 : decode cX12_seek 188 = .ok (.iadd, 1) := by decide +kernel
theorem dX12_seek_189 : decode cX12_seek 189 = .ok (.iaload, 1) := by decide +kernel
theorem dX12_seek_190 : decode cX12_seek 190 = .ok (.iload 8, 2) := by decide +kernel
theorem dX12_seek_192 : decode cX12_seek 192 = .ok (.invokevirtual 347, 3) := by decide +kernel
theorem dX12_seek_195 : decode cX12_seek 195 = .ok (.istore 9, 2) := by decide +kernel
theorem dX12_seek_197 : decode cX12_seek 197 = .ok (.iload 9, 2) := by decide +kernel
theorem dX12_seek_199 : decode cX12_seek 199 = .ok (.ifCond .lt 36, 3) := by decide +kernel
theorem dX12_seek_202 : decode cX12_seek 202 = .ok (.aload_n 0, 1) := by decide +kernel
theorem dX12_seek_203 : decode cX12_seek 203 = .ok (.iload_n 1, 1) := by decide +kernel
theorem dX12_seek_204 : decode cX12_seek 204 = .ok (.iconst 1, 1) := by decide +kernel
theorem dX12_seek_205 : decode cX12_seek 205 = .ok (.iadd, 1) := by decide +kernel
theorem dX12_seek_206 : decode cX12_seek 206 = .ok (.iload_n 2, 1) := by decide +kernel
theorem dX12_seek_207 : decode cX12_seek 207 = .ok (.iconst 1, 1) := by decide +kernel
theorem dX12_seek_208 : decode cX12_seek 208 = .ok (.iload 7, 2) := by decide +kernel
theorem dX12_seek_210 : decode cX12_seek 210 = .ok (.ishl, 1) := by decide +kernel
theorem dX12_seek_211 : decode cX12_seek 211 = .ok (.ior, 1) := by decide +kernel
theorem dX12_seek_212 : decode cX12_seek 212 = .ok (.iload_n 3, 1) := by decide +kernel
theorem dX12_seek_213 : decode cX12_seek 213 = .ok (.iload 8, 2) := by decide +kernel
theorem dX12_seek_215 : decode cX12_seek 215 = .ok (.iadd, 1) := by decide +kernel
theorem dX12_seek_216 : decode cX12_seek 216 = .ok (.iload 9, 2) := by decide +kernel
theorem dX12_seek_218 : decode cX12_seek 218 = .ok (.iload 5, 2) := by decide +kernel
theorem dX12_seek_220 : decode cX12_seek 220 = .ok (.aload_n 0, 1) := by decide +kernel
theorem dX12_seek_221 : decode cX12_seek 221 = .ok (.getfield 9, 3) := by decide +kernel
theorem dX12_seek_224 : decode cX12_seek 224 = .ok (.sipush 618, 3) := by decide +kernel
theorem dX12_seek_227 : decode cX12_seek 227 = .ok (.iload 7, 2) := by decide +kernel
theorem dX12_seek_229 : decode cX12_seek 229 = .ok (.iadd, 1) := by decide +kernel
theorem dX12_seek_230 : decode cX12_seek 230 = .ok (.iaload, 1) := by decide +kernel
theorem dX12_seek_231 : decode cX12_seek 231 = .ok (.iadd, 1) := by decide +kernel
theorem dX12_seek_232 : decode cX12_seek 232 = .ok (.invokevirtual 362, 3) := by decide +kernel
theorem dX12_seek_235 : decode cX12_seek 235 = .ok (.iinc 7 1, 3) := by decide +kernel
theorem dX12_seek_238 : decode cX12_seek 238 = .ok (.goto (-169), 3) := by decide +kernel
theorem dX12_seek_241 : decode cX12_seek 241 = .ok (.return_, 1) := by decide +kernel
theorem dX12_findPlan_0 : decode cX12_findPlan 0 = .ok (.iload_n 1, 1) := by decide +kernel
theorem dX12_findPlan_1 : decode cX12_findPlan 1 = .ok (.iconst 1, 1) := by decide +kernel
theorem dX12_findPlan_2 : decode cX12_findPlan 2 = .ok (.bipush 24, 2) := by decide +kernel
theorem dX12_findPlan_4 : decode cX12_findPlan 4 = .ok (.invokestatic 82, 3) := by decide +kernel
theorem dX12_findPlan_7 : decode cX12_findPlan 7 = .ok (.ifCond .eq 14, 3) := by decide +kernel
theorem dX12_findPlan_10 : decode cX12_findPlan 10 = .ok (.iload_n 2, 1) := by decide +kernel
theorem dX12_findPlan_11 : decode cX12_findPlan 11 = .ok (.iconst 1, 1) := by decide +kernel
theorem dX12_findPlan_12 : decode cX12_findPlan 12 = .ok (.sipush 20000, 3) := by decide +kernel
theorem dX12_findPlan_15 : decode cX12_findPlan 15 = .ok (.invokestatic 82, 3) := by decide +kernel
theorem dX12_findPlan_18 : decode cX12_findPlan 18 = .ok (.ifCond .ne 6, 3) := by decide +kernel
theorem dX12_findPlan_21 : decode cX12_findPlan 21 = .ok (.ldc 86, 2) := by decide +kernel
theorem dX12_findPlan_23 : decode cX12_findPlan 23 = .ok (.ireturn, 1) := by decide +kernel
theorem dX12_findPlan_24 : decode cX12_findPlan 24 = .ok (.aload_n 0, 1) := by decide +kernel
theorem dX12_findPlan_25 : decode cX12_findPlan 25 = .ok (.iload_n 1, 1) := by decide +kernel
theorem dX12_findPlan_26 : decode cX12_findPlan 26 = .ok (.putfield 344, 3) := by decide +kernel
theorem dX12_findPlan_29 : decode cX12_findPlan 29 = .ok (.aload_n 0, 1) := by decide +kernel
theorem dX12_findPlan_30 : decode cX12_findPlan 30 = .ok (.iload_n 2, 1) := by decide +kernel
theorem dX12_findPlan_31 : decode cX12_findPlan 31 = .ok (.putfield 359, 3) := by decide +kernel
theorem dX12_findPlan_34 : decode cX12_findPlan 34 = .ok (.aload_n 0, 1) := by decide +kernel
theorem dX12_findPlan_35 : decode cX12_findPlan 35 = .ok (.iconst 0, 1) := by decide +kernel
theorem dX12_findPlan_36 : decode cX12_findPlan 36 = .ok (.putfield 356, 3) := by decide +kernel
theorem dX12_findPlan_39 : decode cX12_findPlan 39 = .ok (.aload_n 0, 1) := by decide +kernel
theorem dX12_findPlan_40 : decode cX12_findPlan 40 = .ok (.iconst (-1), 1) := by decide +kernel
theorem dX12_findPlan_41 : decode cX12_findPlan 41 = .ok (.putfield 350, 3) := by decide +kernel
theorem dX12_findPlan_44 : decode cX12_findPlan 44 = .ok (.aload_n 0, 1) := by decide +kernel
theorem dX12_findPlan_45 : decode cX12_findPlan 45 = .ok (.iconst 0, 1) := by decide +kernel
theorem dX12_findPlan_46 : decode cX12_findPlan 46 = .ok (.putfield 353, 3) := by decide +kernel
theorem dX12_findPlan_49 : decode cX12_findPlan 49 = .ok (.aload_n 0, 1) := by decide +kernel
theorem dX12_findPlan_50 : decode cX12_findPlan 50 = .ok (.iconst 0, 1) := by decide +kernel
theorem dX12_findPlan_51 : decode cX12_findPlan 51 = .ok (.iconst 0, 1) := by decide +kernel
theorem dX12_findPlan_52 : decode cX12_findPlan 52 = .ok (.iconst 0, 1) := by decide +kernel
theorem dX12_findPlan_53 : decode cX12_findPlan 53 = .ok (.aload_n 0, 1) := by decide +kernel
theorem dX12_findPlan_54 : decode cX12_findPlan 54 = .ok (.getfield 9, 3) := by decide +kernel
theorem dX12_findPlan_57 : decode cX12_findPlan 57 = .ok (.iconst 4, 1) := by decide +kernel
theorem dX12_findPlan_58 : decode cX12_findPlan 58 = .ok (.iaload, 1) := by decide +kernel
theorem dX12_findPlan_59 : decode cX12_findPlan 59 = .ok (.aload_n 0, 1) := by decide +kernel
theorem dX12_findPlan_60 : decode cX12_findPlan 60 = .ok (.getfield 9, 3) := by decide +kernel
theorem dX12_findPlan_63 : decode cX12_findPlan 63 = .ok (.iconst 5, 1) := by decide +kernel
theorem dX12_findPlan_64 : decode cX12_findPlan 64 = .ok (.iaload, 1) := by decide +kernel
theorem dX12_findPlan_65 : decode cX12_findPlan 65 = .ok (.invokevirtual 362, 3) := by decide +kernel
theorem dX12_findPlan_68 : decode cX12_findPlan 68 = .ok (.aload_n 0, 1) := by decide +kernel
theorem dX12_findPlan_69 : decode cX12_findPlan 69 = .ok (.getfield 356, 3) := by decide +kernel
theorem dX12_findPlan_72 : decode cX12_findPlan 72 = .ok (.ifCond .eq 9, 3) := by decide +kernel
theorem dX12_findPlan_75 : decode cX12_findPlan 75 = .ok (.ldc_w 366, 3) := by decide +kernel
theorem dX12_findPlan_78 : decode cX12_findPlan 78 = .ok (.goto 16, 3) := by decide +kernel
theorem dX12_findPlan_81 : decode cX12_findPlan 81 = .ok (.aload_n 0, 1) := by decide +kernel
theorem dX12_findPlan_82 : decode cX12_findPlan 82 = .ok (.getfield 350, 3) := by decide +kernel
theorem dX12_findPlan_85 : decode cX12_findPlan 85 = .ok (.ifCond .ge 8, 3) := by decide +kernel
theorem dX12_findPlan_88 : decode cX12_findPlan 88 = .ok (.ldc 99, 2) := by decide +kernel
theorem dX12_findPlan_90 : decode cX12_findPlan 90 = .ok (.goto 4, 3) := by decide +kernel
theorem dX12_findPlan_93 : decode cX12_findPlan 93 = .ok (.iconst 0, 1) := by decide +kernel
theorem dX12_findPlan_94 : decode cX12_findPlan 94 = .ok (.ireturn, 1) := by decide +kernel
theorem dX12_plan_0 : decode cX12_plan 0 = .ok (.aload_n 0, 1) := by decide +kernel
theorem dX12_plan_1 : decode cX12_plan 1 = .ok (.iload_n 1, 1) := by decide +kernel
theorem dX12_plan_2 : decode cX12_plan 2 = .ok (.iload_n 2, 1) := by decide +kernel
theorem dX12_plan_3 : decode cX12_plan 3 = .ok (.invokevirtual 367, 3) := by decide +kernel
theorem dX12_plan_6 : decode cX12_plan 6 = .ok (.istore_n 3, 1) := by decide +kernel
theorem dX12_plan_7 : decode cX12_plan 7 = .ok (.iload_n 3, 1) := by decide +kernel
theorem dX12_plan_8 : decode cX12_plan 8 = .ok (.ifCond .eq 7, 3) := by decide +kernel
theorem dX12_plan_11 : decode cX12_plan 11 = .ok (.iload_n 3, 1) := by decide +kernel
theorem dX12_plan_12 : decode cX12_plan 12 = .ok (.goto 7, 3) := by decide +kernel
theorem dX12_plan_15 : decode cX12_plan 15 = .ok (.aload_n 0, 1) := by decide +kernel
theorem dX12_plan_16 : decode cX12_plan 16 = .ok (.getfield 350, 3) := by decide +kernel
theorem dX12_plan_19 : decode cX12_plan 19 = .ok (.ireturn, 1) := by decide +kernel
theorem dX12_planned_0 : decode cX12_planned 0 = .ok (.iload_n 3, 1) := by decide +kernel
theorem dX12_planned_1 : decode cX12_planned 1 = .ok (.ifCond .ge 6, 3) := by decide +kernel
theorem dX12_planned_4 : decode cX12_planned 4 = .ok (.ldc 86, 2) := by decide +kernel
theorem dX12_planned_6 : decode cX12_planned 6 = .ok (.ireturn, 1) := by decide +kernel
theorem dX12_planned_7 : decode cX12_planned 7 = .ok (.aload_n 0, 1) := by decide +kernel
theorem dX12_planned_8 : decode cX12_planned 8 = .ok (.iload_n 1, 1) := by decide +kernel
theorem dX12_planned_9 : decode cX12_planned 9 = .ok (.iload_n 2, 1) := by decide +kernel
theorem dX12_planned_10 : decode cX12_planned 10 = .ok (.invokevirtual 367, 3) := by decide +kernel
theorem dX12_planned_13 : decode cX12_planned 13 = .ok (.istore 4, 2) := by decide +kernel
theorem dX12_planned_15 : decode cX12_planned 15 = .ok (.iload 4, 2) := by decide +kernel
theorem dX12_planned_17 : decode cX12_planned 17 = .ok (.ifCond .eq 8, 3) := by decide +kernel
theorem dX12_planned_20 : decode cX12_planned 20 = .ok (.iload 4, 2) := by decide +kernel
theorem dX12_planned_22 : decode cX12_planned 22 = .ok (.goto 22, 3) := by decide +kernel
theorem dX12_planned_25 : decode cX12_planned 25 = .ok (.iload_n 3, 1) := by decide +kernel
theorem dX12_planned_26 : decode cX12_planned 26 = .ok (.aload_n 0, 1) := by decide +kernel
theorem dX12_planned_27 : decode cX12_planned 27 = .ok (.getfield 353, 3) := by decide +kernel
theorem dX12_planned_30 : decode cX12_planned 30 = .ok (.if_icmp .ge 12, 3) := by decide +kernel
theorem dX12_planned_33 : decode cX12_planned 33 = .ok (.aload_n 0, 1) := by decide +kernel
theorem dX12_planned_34 : decode cX12_planned 34 = .ok (.getfield 68, 3) := by decide +kernel
theorem dX12_planned_37 : decode cX12_planned 37 = .ok (.iload_n 3, 1) := by decide +kernel
theorem dX12_planned_38 : decode cX12_planned 38 = .ok (.iaload, 1) := by decide +kernel
theorem dX12_planned_39 : decode cX12_planned 39 = .ok (.goto 5, 3) := by decide +kernel
theorem dX12_planned_42 : decode cX12_planned 42 = .ok (.ldc 100, 2) := by decide +kernel
theorem dX12_planned_44 : decode cX12_planned 44 = .ok (.ireturn, 1) := by decide +kernel
theorem dX12_tell_0 : decode cX12_tell 0 = .ok (.aload_n 0, 1) := by decide +kernel
theorem dX12_tell_1 : decode cX12_tell 1 = .ok (.getfield 370, 3) := by decide +kernel
theorem dX12_tell_4 : decode cX12_tell 4 = .ok (.bipush 100, 2) := by decide +kernel
theorem dX12_tell_6 : decode cX12_tell 6 = .ok (.if_icmp .ne 6, 3) := by decide +kernel
theorem dX12_tell_9 : decode cX12_tell 9 = .ok (.ldc 121, 2) := by decide +kernel
theorem dX12_tell_11 : decode cX12_tell 11 = .ok (.ireturn, 1) := by decide +kernel
theorem dX12_tell_12 : decode cX12_tell 12 = .ok (.aload_n 0, 1) := by decide +kernel
theorem dX12_tell_13 : decode cX12_tell 13 = .ok (.getfield 19, 3) := by decide +kernel
theorem dX12_tell_16 : decode cX12_tell 16 = .ok (.aload_n 0, 1) := by decide +kernel
theorem dX12_tell_17 : decode cX12_tell 17 = .ok (.getfield 370, 3) := by decide +kernel
theorem dX12_tell_20 : decode cX12_tell 20 = .ok (.iload_n 1, 1) := by decide +kernel
theorem dX12_tell_21 : decode cX12_tell 21 = .ok (.iastore, 1) := by decide +kernel
theorem dX12_tell_22 : decode cX12_tell 22 = .ok (.aload_n 0, 1) := by decide +kernel
theorem dX12_tell_23 : decode cX12_tell 23 = .ok (.dup, 1) := by decide +kernel
theorem dX12_tell_24 : decode cX12_tell 24 = .ok (.getfield 370, 3) := by decide +kernel
theorem dX12_tell_27 : decode cX12_tell 27 = .ok (.iconst 1, 1) := by decide +kernel
theorem dX12_tell_28 : decode cX12_tell 28 = .ok (.iadd, 1) := by decide +kernel
theorem dX12_tell_29 : decode cX12_tell 29 = .ok (.putfield 370, 3) := by decide +kernel
theorem dX12_tell_32 : decode cX12_tell 32 = .ok (.aload_n 0, 1) := by decide +kernel
theorem dX12_tell_33 : decode cX12_tell 33 = .ok (.getfield 370, 3) := by decide +kernel
theorem dX12_tell_36 : decode cX12_tell 36 = .ok (.ireturn, 1) := by decide +kernel
theorem dX12_hold_0 : decode cX12_hold 0 = .ok (.aload_n 0, 1) := by decide +kernel
theorem dX12_hold_1 : decode cX12_hold 1 = .ok (.aload_n 0, 1) := by decide +kernel
theorem dX12_hold_2 : decode cX12_hold 2 = .ok (.getfield 373, 3) := by decide +kernel
theorem dX12_hold_5 : decode cX12_hold 5 = .ok (.ifCond .ne 24, 3) := by decide +kernel
theorem dX12_hold_8 : decode cX12_hold 8 = .ok (.aload_n 0, 1) := by decide +kernel
theorem dX12_hold_9 : decode cX12_hold 9 = .ok (.getfield 376, 3) := by decide +kernel
theorem dX12_hold_12 : decode cX12_hold 12 = .ok (.iload_n 2, 1) := by decide +kernel
theorem dX12_hold_13 : decode cX12_hold 13 = .ok (.if_icmp .ge 16, 3) := by decide +kernel
theorem dX12_hold_16 : decode cX12_hold 16 = .ok (.aload_n 0, 1) := by decide +kernel
theorem dX12_hold_17 : decode cX12_hold 17 = .ok (.getfield 19, 3) := by decide +kernel
theorem dX12_hold_20 : decode cX12_hold 20 = .ok (.aload_n 0, 1) := by decide +kernel
theorem dX12_hold_21 : decode cX12_hold 21 = .ok (.getfield 376, 3) := by decide +kernel
theorem dX12_hold_24 : decode cX12_hold 24 = .ok (.iaload, 1) := by decide +kernel
theorem dX12_hold_25 : decode cX12_hold 25 = .ok (.iload_n 1, 1) := by decide +kernel
theorem dX12_hold_26 : decode cX12_hold 26 = .ok (.if_icmp .eq 7, 3) := by decide +kernel
theorem dX12_hold_29 : decode cX12_hold 29 = .ok (.iconst 1, 1) := by decide +kernel
theorem dX12_hold_30 : decode cX12_hold 30 = .ok (.goto 4, 3) := by decide +kernel
theorem dX12_hold_33 : decode cX12_hold 33 = .ok (.iconst 0, 1) := by decide +kernel
theorem dX12_hold_34 : decode cX12_hold 34 = .ok (.putfield 373, 3) := by decide +kernel
theorem dX12_hold_37 : decode cX12_hold 37 = .ok (.aload_n 0, 1) := by decide +kernel
theorem dX12_hold_38 : decode cX12_hold 38 = .ok (.dup, 1) := by decide +kernel
theorem dX12_hold_39 : decode cX12_hold 39 = .ok (.getfield 376, 3) := by decide +kernel
theorem dX12_hold_42 : decode cX12_hold 42 = .ok (.aload_n 0, 1) := by decide +kernel
theorem dX12_hold_43 : decode cX12_hold 43 = .ok (.getfield 373, 3) := by decide +kernel
theorem dX12_hold_46 : decode cX12_hold 46 = .ok (.ifCond .eq 7, 3) := by decide +kernel
theorem dX12_hold_49 : decode cX12_hold 49 = .ok (.iconst 0, 1) := by decide +kernel
theorem dX12_hold_50 : decode cX12_hold 50 = .ok (.goto 4, 3) := by decide +kernel
theorem dX12_hold_53 : decode cX12_hold 53 = .ok (.iconst 1, 1) := by decide +kernel
theorem dX12_hold_54 : decode cX12_hold 54 = .ok (.iadd, 1) := by decide +kernel
theorem dX12_hold_55 : decode cX12_hold 55 = .ok (.putfield 376, 3) := by decide +kernel
theorem dX12_hold_58 : decode cX12_hold 58 = .ok (.return_, 1) := by decide +kernel
theorem dX12_holdPlan_0 : decode cX12_holdPlan 0 = .ok (.aload_n 0, 1) := by decide +kernel
theorem dX12_holdPlan_1 : decode cX12_holdPlan 1 = .ok (.getfield 9, 3) := by decide +kernel
theorem dX12_holdPlan_4 : decode cX12_holdPlan 4 = .ok (.iconst 4, 1) := by decide +kernel
theorem dX12_holdPlan_5 : decode cX12_holdPlan 5 = .ok (.iaload, 1) := by decide +kernel
theorem dX12_holdPlan_6 : decode cX12_holdPlan 6 = .ok (.istore_n 3, 1) := by decide +kernel
theorem dX12_holdPlan_7 : decode cX12_holdPlan 7 = .ok (.aload_n 0, 1) := by decide +kernel
theorem dX12_holdPlan_8 : decode cX12_holdPlan 8 = .ok (.getfield 9, 3) := by decide +kernel
theorem dX12_holdPlan_11 : decode cX12_holdPlan 11 = .ok (.iconst 5, 1) := by decide +kernel
theorem dX12_holdPlan_12 : decode cX12_holdPlan 12 = .ok (.iaload, 1) := by decide +kernel
theorem dX12_holdPlan_13 : decode cX12_holdPlan 13 = .ok (.istore 4, 2) := by decide +kernel
theorem dX12_holdPlan_15 : decode cX12_holdPlan 15 = .ok (.iconst 0, 1) := by decide +kernel
theorem dX12_holdPlan_16 : decode cX12_holdPlan 16 = .ok (.istore 5, 2) := by decide +kernel
theorem dX12_holdPlan_18 : decode cX12_holdPlan 18 = .ok (.aload_n 0, 1) := by decide +kernel
theorem dX12_holdPlan_19 : decode cX12_holdPlan 19 = .ok (.getfield 353, 3) := by decide +kernel
theorem dX12_holdPlan_22 : decode cX12_holdPlan 22 = .ok (.ifCond .le 21, 3) := by decide +kernel
theorem dX12_holdPlan_25 : decode cX12_holdPlan 25 = .ok (.aload_n 0, 1) := by decide +kernel
theorem dX12_holdPlan_26 : decode cX12_holdPlan 26 = .ok (.getfield 9, 3) := by decide +kernel
theorem dX12_holdPlan_29 : decode cX12_holdPlan 29 = .ok (.sipush 606, 3) := by decide +kernel
theorem dX12_holdPlan_32 : decode cX12_holdPlan 32 = .ok (.aload_n 0, 1) := by decide +kernel
theorem dX12_holdPlan_33 : decode cX12_holdPlan 33 = .ok (.getfield 68, 3) := by decide +kernel
theorem dX12_holdPlan_36 : decode cX12_holdPlan 36 = .ok (.iconst 0, 1) := by decide +kernel
theorem dX12_holdPlan_37 : decode cX12_holdPlan 37 = .ok (.iaload, 1) := by decide +kernel
theorem dX12_holdPlan_38 : decode cX12_holdPlan 38 = .ok (.iadd, 1) := by decide +kernel
theorem dX12_holdPlan_39 : decode cX12_holdPlan 39 = .ok (.iaload, 1) := by decide +kernel
theorem dX12_holdPlan_40 : decode cX12_holdPlan 40 = .ok (.goto 4, 3) := by decide +kernel
theorem dX12_holdPlan_43 : decode cX12_holdPlan 43 = .ok (.iconst 0, 1) := by decide +kernel
theorem dX12_holdPlan_44 : decode cX12_holdPlan 44 = .ok (.istore 6, 2) := by decide +kernel
theorem dX12_holdPlan_46 : decode cX12_holdPlan 46 = .ok (.iconst 0, 1) := by decide +kernel
theorem dX12_holdPlan_47 : decode cX12_holdPlan 47 = .ok (.istore 7, 2) := by decide +kernel
theorem dX12_holdPlan_49 : decode cX12_holdPlan 49 = .ok (.iload 7, 2) := by decide +kernel
theorem dX12_holdPlan_51 : decode cX12_holdPlan 51 = .ok (.iload_n 1, 1) := by decide +kernel
theorem dX12_holdPlan_52 : decode cX12_holdPlan 52 = .ok (.if_icmp .ge 145, 3) := by decide +kernel
theorem dX12_holdPlan_55 : decode cX12_holdPlan 55 = .ok (.iload 5, 2) := by decide +kernel
theorem dX12_holdPlan_57 : decode cX12_holdPlan 57 = .ok (.aload_n 0, 1) := by decide +kernel
theorem dX12_holdPlan_58 : decode cX12_holdPlan 58 = .ok (.getfield 353, 3) := by decide +kernel
theorem dX12_holdPlan_61 : decode cX12_holdPlan 61 = .ok (.if_icmp .ge 13, 3) := by decide +kernel
theorem dX12_holdPlan_64 : decode cX12_holdPlan 64 = .ok (.aload_n 0, 1) := by decide +kernel
theorem dX12_holdPlan_65 : decode cX12_holdPlan 65 = .ok (.getfield 68, 3) := by decide +kernel
theorem dX12_holdPlan_68 : decode cX12_holdPlan 68 = .ok (.iload 5, 2) := by decide +kernel
theorem dX12_holdPlan_70 : decode cX12_holdPlan 70 = .ok (.iaload, 1) := by decide +kernel
theorem dX12_holdPlan_71 : decode cX12_holdPlan 71 = .ok (.goto 4, 3) := by decide +kernel
theorem dX12_holdPlan_74 : decode cX12_holdPlan 74 = .ok (.iconst (-1), 1) := by decide +kernel
theorem dX12_holdPlan_75 : decode cX12_holdPlan 75 = .ok (.istore 8, 2) := by decide +kernel
theorem dX12_holdPlan_77 : decode cX12_holdPlan 77 = .ok (.sipush 9999, 3) := by decide +kernel
theorem dX12_holdPlan_80 : decode cX12_holdPlan 80 = .ok (.iload_n 3, 1) := by decide +kernel
theorem dX12_holdPlan_81 : decode cX12_holdPlan 81 = .ok (.iload 4, 2) := by decide +kernel
theorem dX12_holdPlan_83 : decode cX12_holdPlan 83 = .ok (.iadd, 1) := by decide +kernel
theorem dX12_holdPlan_84 : decode cX12_holdPlan 84 = .ok (.invokestatic 106, 3) := by decide +kernel
theorem dX12_holdPlan_87 : decode cX12_holdPlan 87 = .ok (.aload_n 0, 1) := by decide +kernel
theorem dX12_holdPlan_88 : decode cX12_holdPlan 88 = .ok (.iconst 0, 1) := by decide +kernel
theorem dX12_holdPlan_89 : decode cX12_holdPlan 89 = .ok (.invokevirtual 332, 3) := by decide +kernel
theorem dX12_holdPlan_92 : decode cX12_holdPlan 92 = .ok (.isub, 1) := by decide +kernel
theorem dX12_holdPlan_93 : decode cX12_holdPlan 93 = .ok (.iload 8, 2) := by decide +kernel
theorem dX12_holdPlan_95 : decode cX12_holdPlan 95 = .ok (.ifCond .ge 7, 3) := by decide +kernel
theorem dX12_holdPlan_98 : decode cX12_holdPlan 98 = .ok (.iconst 0, 1) := by decide +kernel
theorem dX12_holdPlan_99 : decode cX12_holdPlan 99 = .ok (.goto 14, 3) := by decide +kernel
theorem dX12_holdPlan_102 : decode cX12_holdPlan 102 = .ok (.aload_n 0, 1) := by decide +kernel
theorem dX12_holdPlan_103 : decode cX12_holdPlan 103 = .ok (.getfield 9, 3) := by decide +kernel
theorem dX12_holdPlan_106 : decode cX12_holdPlan 106 = .ok (.sipush 612, 3) := by decide +kernel
theorem dX12_holdPlan_109 : decode cX12_holdPlan 109 = .ok (.iload 8, 2) := by decide +kernel
theorem dX12_holdPlan_111 : decode cX12_holdPlan 111 = .ok (.iadd, 1) := by decide +kernel
theorem dX12_holdPlan_112 : decode cX12_holdPlan 112 = .ok (.iaload, 1) := by decide +kernel
theorem dX12_holdPlan_113 : decode cX12_holdPlan 113 = .ok (.isub, 1) := by decide +kernel
theorem dX12_holdPlan_114 : decode cX12_holdPlan 114 = .ok (.istore_n 3, 1) := by decide +kernel
theorem dX12_holdPlan_115 : decode cX12_holdPlan 115 = .ok (.aload_n 0, 1) := by decide +kernel
theorem dX12_holdPlan_116 : decode cX12_holdPlan 116 = .ok (.iload 8, 2) := by decide +kernel
theorem dX12_holdPlan_118 : decode cX12_holdPlan 118 = .ok (.iload_n 2, 1) := by decide +kernel
theorem dX12_holdPlan_119 : decode cX12_holdPlan 119 = .ok (.invokevirtual 379, 3) := by decide +kernel
theorem dX12_holdPlan_122 : decode cX12_holdPlan 122 = .ok (.aload_n 0, 1) := by decide +kernel
theorem dX12_holdPlan_123 : decode cX12_holdPlan 123 = .ok (.iload_n 3, 1) := by decide +kernel
theorem dX12_holdPlan_124 : decode cX12_holdPlan 124 = .ok (.iload_n 2, 1) := by decide +kernel
theorem dX12_holdPlan_125 : decode cX12_holdPlan 125 = .ok (.invokevirtual 379, 3) := by decide +kernel
theorem dX12_holdPlan_128 : decode cX12_holdPlan 128 = .ok (.iinc 6 (-1), 3) := by decide +kernel
theorem dX12_holdPlan_131 : decode cX12_holdPlan 131 = .ok (.iload 8, 2) := by decide +kernel
theorem dX12_holdPlan_133 : decode cX12_holdPlan 133 = .ok (.ifCond .lt 58, 3) := by decide +kernel
theorem dX12_holdPlan_136 : decode cX12_holdPlan 136 = .ok (.iload 6, 2) := by decide +kernel
theorem dX12_holdPlan_138 : decode cX12_holdPlan 138 = .ok (.ifCond .ne 53, 3) := by decide +kernel
theorem dX12_holdPlan_141 : decode cX12_holdPlan 141 = .ok (.iload 4, 2) := by decide +kernel
theorem dX12_holdPlan_143 : decode cX12_holdPlan 143 = .ok (.aload_n 0, 1) := by decide +kernel
theorem dX12_holdPlan_144 : decode cX12_holdPlan 144 = .ok (.getfield 9, 3) := by decide +kernel
theorem dX12_holdPlan_147 : decode cX12_holdPlan 147 = .ok (.sipush 618, 3) := by decide +kernel
theorem dX12_holdPlan_150 : decode cX12_holdPlan 150 = .ok (.iload 8, 2) := by decide +kernel
theorem dX12_holdPlan_152 : decode cX12_holdPlan 152 = .ok (.iadd, 1) := by decide +kernel
theorem dX12_holdPlan_153 : decode cX12_holdPlan 153 = .ok (.iaload, 1) := by decide +kernel
theorem dX12_holdPlan_154 : decode cX12_holdPlan 154 = .ok (.iadd, 1) := by decide +kernel
theorem dX12_holdPlan_155 : decode cX12_holdPlan 155 = .ok (.istore 4, 2) := by decide +kernel
theorem dX12_holdPlan_157 : decode cX12_holdPlan 157 = .ok (.iinc 5 1, 3) := by decide +kernel
theorem dX12_holdPlan_160 : decode cX12_holdPlan 160 = .ok (.iload 5, 2) := by decide +kernel
theorem dX12_holdPlan_162 : decode cX12_holdPlan 162 = .ok (.aload_n 0, 1) := by decide +kernel
theorem dX12_holdPlan_163 : decode cX12_holdPlan 163 = .ok (.getfield 353, 3) := by decide +kernel
theorem dX12_holdPlan_166 : decode cX12_holdPlan 166 = .ok (.if_icmp .ge 22, 3) := by decide +kernel
theorem dX12_holdPlan_169 : decode cX12_holdPlan 169 = .ok (.aload_n 0, 1) := by decide +kernel
theorem dX12_holdPlan_170 : decode cX12_holdPlan 170 = .ok (.getfield 9, 3) := by decide +kernel
theorem dX12_holdPlan_173 : decode cX12_holdPlan 173 = .ok (.sipush 606, 3) := by decide +kernel
theorem dX12_holdPlan_176 : decode cX12_holdPlan 176 = .ok (.aload_n 0, 1) := by decide +kernel
theorem dX12_holdPlan_177 : decode cX12_holdPlan 177 = .ok (.getfield 68, 3) := by decide +kernel
theorem dX12_holdPlan_180 : decode cX12_holdPlan 180 = .ok (.iload 5, 2) := by decide +kernel
theorem dX12_holdPlan_182 : decode cX12_holdPlan 182 = .ok (.iaload, 1) := by decide +kernel
theorem dX12_holdPlan_183 : decode cX12_holdPlan 183 = .ok (.iadd, 1) := by decide +kernel
theorem dX12_holdPlan_184 : decode cX12_holdPlan 184 = .ok (.iaload, 1) := by decide +kernel
theorem dX12_holdPlan_185 : decode cX12_holdPlan 185 = .ok (.goto 4, 3) := by decide +kernel
theorem dX12_holdPlan_188 : decode cX12_holdPlan 188 = .ok (.iconst 0, 1) := by decide +kernel
theorem dX12_holdPlan_189 : decode cX12_holdPlan 189 = .ok (.istore 6, 2) := by decide +kernel
theorem dX12_holdPlan_191 : decode cX12_holdPlan 191 = .ok (.iinc 7 1, 3) := by decide +kernel
theorem dX12_holdPlan_194 : decode cX12_holdPlan 194 = .ok (.goto (-145), 3) := by decide +kernel
theorem dX12_holdPlan_197 : decode cX12_holdPlan 197 = .ok (.return_, 1) := by decide +kernel
theorem dX12_check_0 : decode cX12_check 0 = .ok (.aload_n 0, 1) := by decide +kernel
theorem dX12_check_1 : decode cX12_check 1 = .ok (.getfield 370, 3) := by decide +kernel
theorem dX12_check_4 : decode cX12_check 4 = .ok (.istore_n 3, 1) := by decide +kernel
theorem dX12_check_5 : decode cX12_check 5 = .ok (.aload_n 0, 1) := by decide +kernel
theorem dX12_check_6 : decode cX12_check 6 = .ok (.iconst 0, 1) := by decide +kernel
theorem dX12_check_7 : decode cX12_check 7 = .ok (.putfield 370, 3) := by decide +kernel
theorem dX12_check_10 : decode cX12_check 10 = .ok (.iload_n 1, 1) := by decide +kernel
theorem dX12_check_11 : decode cX12_check 11 = .ok (.iconst 0, 1) := by decide +kernel
theorem dX12_check_12 : decode cX12_check 12 = .ok (.iconst 1, 1) := by decide +kernel
theorem dX12_check_13 : decode cX12_check 13 = .ok (.invokestatic 82, 3) := by decide +kernel
theorem dX12_check_16 : decode cX12_check 16 = .ok (.ifCond .eq 13, 3) := by decide +kernel
theorem dX12_check_19 : decode cX12_check 19 = .ok (.iload_n 2, 1) := by decide +kernel
theorem dX12_check_20 : decode cX12_check 20 = .ok (.iconst 1, 1) := by decide +kernel
theorem dX12_check_21 : decode cX12_check 21 = .ok (.bipush 24, 2) := by decide +kernel
theorem dX12_check_23 : decode cX12_check 23 = .ok (.invokestatic 82, 3) := by decide +kernel
theorem dX12_check_26 : decode cX12_check 26 = .ok (.ifCond .ne 6, 3) := by decide +kernel
theorem dX12_check_29 : decode cX12_check 29 = .ok (.ldc 86, 2) := by decide +kernel
theorem dX12_check_31 : decode cX12_check 31 = .ok (.ireturn, 1) := by decide +kernel
theorem dX12_check_32 : decode cX12_check 32 = .ok (.aload_n 0, 1) := by decide +kernel
theorem dX12_check_33 : decode cX12_check 33 = .ok (.iconst 0, 1) := by decide +kernel
theorem dX12_check_34 : decode cX12_check 34 = .ok (.putfield 376, 3) := by decide +kernel
theorem dX12_check_37 : decode cX12_check 37 = .ok (.aload_n 0, 1) := by decide +kernel
theorem dX12_check_38 : decode cX12_check 38 = .ok (.iconst 0, 1) := by decide +kernel
theorem dX12_check_39 : decode cX12_check 39 = .ok (.putfield 373, 3) := by decide +kernel
theorem dX12_check_42 : decode cX12_check 42 = .ok (.iload_n 1, 1) := by decide +kernel
theorem dX12_check_43 : decode cX12_check 43 = .ok (.ifCond .ne 30, 3) := by decide +kernel
theorem dX12_check_46 : decode cX12_check 46 = .ok (.aload_n 0, 1) := by decide +kernel
theorem dX12_check_47 : decode cX12_check 47 = .ok (.iload_n 2, 1) := by decide +kernel
theorem dX12_check_48 : decode cX12_check 48 = .ok (.sipush 20000, 3) := by decide +kernel
theorem dX12_check_51 : decode cX12_check 51 = .ok (.invokevirtual 367, 3) := by decide +kernel
theorem dX12_check_54 : decode cX12_check 54 = .ok (.istore 4, 2) := by decide +kernel
theorem dX12_check_56 : decode cX12_check 56 = .ok (.iload 4, 2) := by decide +kernel
theorem dX12_check_58 : decode cX12_check 58 = .ok (.ifCond .eq 6, 3) := by decide +kernel
theorem dX12_check_61 : decode cX12_check 61 = .ok (.iload 4, 2) := by decide +kernel
theorem dX12_check_63 : decode cX12_check 63 = .ok (.ireturn, 1) := by decide +kernel
theorem dX12_check_64 : decode cX12_check 64 = .ok (.aload_n 0, 1) := by decide +kernel
theorem dX12_check_65 : decode cX12_check 65 = .ok (.iload_n 2, 1) := by decide +kernel
theorem dX12_check_66 : decode cX12_check 66 = .ok (.iload_n 3, 1) := by decide +kernel
theorem dX12_check_67 : decode cX12_check 67 = .ok (.invokevirtual 382, 3) := by decide +kernel
theorem dX12_check_70 : decode cX12_check 70 = .ok (.goto 46, 3) := by decide +kernel
theorem dX12_check_73 : decode cX12_check 73 = .ok (.aload_n 0, 1) := by decide +kernel
theorem dX12_check_74 : decode cX12_check 74 = .ok (.aload_n 0, 1) := by decide +kernel
theorem dX12_check_75 : decode cX12_check 75 = .ok (.iload_n 2, 1) := by decide +kernel
theorem dX12_check_76 : decode cX12_check 76 = .ok (.invokevirtual 341, 3) := by decide +kernel
theorem dX12_check_79 : decode cX12_check 79 = .ok (.invokevirtual 332, 3) := by decide +kernel
theorem dX12_check_82 : decode cX12_check 82 = .ok (.istore 4, 2) := by decide +kernel
theorem dX12_check_84 : decode cX12_check 84 = .ok (.iconst 1, 1) := by decide +kernel
theorem dX12_check_85 : decode cX12_check 85 = .ok (.istore 5, 2) := by decide +kernel
theorem dX12_check_87 : decode cX12_check 87 = .ok (.iload 5, 2) := by decide +kernel
theorem dX12_check_89 : decode cX12_check 89 = .ok (.iload_n 2, 1) := by decide +kernel
theorem dX12_check_90 : decode cX12_check 90 = .ok (.if_icmp .gt 26, 3) := by decide +kernel
theorem dX12_check_93 : decode cX12_check 93 = .ok (.aload_n 0, 1) := by decide +kernel
theorem dX12_check_94 : decode cX12_check 94 = .ok (.aload_n 0, 1) := by decide +kernel
theorem dX12_check_95 : decode cX12_check 95 = .ok (.getfield 9, 3) := by decide +kernel
theorem dX12_check_98 : decode cX12_check 98 = .ok (.iconst 4, 1) := by decide +kernel
theorem dX12_check_99 : decode cX12_check 99 = .ok (.iaload, 1) := by decide +kernel
theorem dX12_check_100 : decode cX12_check 100 = .ok (.iload 4, 2) := by decide +kernel
theorem dX12_check_102 : decode cX12_check 102 = .ok (.iload 5, 2) := by decide +kernel
theorem dX12_check_104 : decode cX12_check 104 = .ok (.imul, 1) := by decide +kernel
theorem dX12_check_105 : decode cX12_check 105 = .ok (.isub, 1) := by decide +kernel
theorem dX12_check_106 : decode cX12_check 106 = .ok (.iload_n 3, 1) := by decide +kernel
theorem dX12_check_107 : decode cX12_check 107 = .ok (.invokevirtual 379, 3) := by decide +kernel
theorem dX12_check_110 : decode cX12_check 110 = .ok (.iinc 5 1, 3) := by decide +kernel
theorem dX12_check_113 : decode cX12_check 113 = .ok (.goto (-26), 3) := by decide +kernel
theorem dX12_check_116 : decode cX12_check 116 = .ok (.aload_n 0, 1) := by decide +kernel
theorem dX12_check_117 : decode cX12_check 117 = .ok (.getfield 373, 3) := by decide +kernel
theorem dX12_check_120 : decode cX12_check 120 = .ok (.ifCond .ne 11, 3) := by decide +kernel
theorem dX12_check_123 : decode cX12_check 123 = .ok (.aload_n 0, 1) := by decide +kernel
theorem dX12_check_124 : decode cX12_check 124 = .ok (.getfield 376, 3) := by decide +kernel
theorem dX12_check_127 : decode cX12_check 127 = .ok (.iload_n 3, 1) := by decide +kernel
theorem dX12_check_128 : decode cX12_check 128 = .ok (.if_icmp .ge 12, 3) := by decide +kernel
theorem dX12_check_131 : decode cX12_check 131 = .ok (.iconst 1, 1) := by decide +kernel
theorem dX12_check_132 : decode cX12_check 132 = .ok (.aload_n 0, 1) := by decide +kernel
theorem dX12_check_133 : decode cX12_check 133 = .ok (.getfield 376, 3) := by decide +kernel
theorem dX12_check_136 : decode cX12_check 136 = .ok (.iadd, 1) := by decide +kernel
theorem dX12_check_137 : decode cX12_check 137 = .ok (.goto 4, 3) := by decide +kernel
theorem dX12_check_140 : decode cX12_check 140 = .ok (.iconst 0, 1) := by decide +kernel
theorem dX12_check_141 : decode cX12_check 141 = .ok (.ireturn, 1) := by decide +kernel
theorem dX12_keep_0 : decode cX12_keep 0 = .ok (.iconst 0, 1) := by decide +kernel
theorem dX12_keep_1 : decode cX12_keep 1 = .ok (.istore_n 1, 1) := by decide +kernel
theorem dX12_keep_2 : decode cX12_keep 2 = .ok (.iload_n 1, 1) := by decide +kernel
theorem dX12_keep_3 : decode cX12_keep 3 = .ok (.sipush 3734, 3) := by decide +kernel
theorem dX12_keep_6 : decode cX12_keep 6 = .ok (.if_icmp .ge 21, 3) := by decide +kernel
theorem dX12_keep_9 : decode cX12_keep 9 = .ok (.aload_n 0, 1) := by decide +kernel
theorem dX12_keep_10 : decode cX12_keep 10 = .ok (.getfield 13, 3) := by decide +kernel
theorem dX12_keep_13 : decode cX12_keep 13 = .ok (.iload_n 1, 1) := by decide +kernel
theorem dX12_keep_14 : decode cX12_keep 14 = .ok (.aload_n 0, 1) := by decide +kernel
theorem dX12_keep_15 : decode cX12_keep 15 = .ok (.getfield 9, 3) := by decide +kernel
theorem dX12_keep_18 : decode cX12_keep 18 = .ok (.iload_n 1, 1) := by decide +kernel
theorem dX12_keep_19 : decode cX12_keep 19 = .ok (.iaload, 1) := by decide +kernel
theorem dX12_keep_20 : decode cX12_keep 20 = .ok (.iastore, 1) := by decide +kernel
theorem dX12_keep_21 : decode cX12_keep 21 = .ok (.iinc 1 1, 3) := by decide +kernel
theorem dX12_keep_24 : decode cX12_keep 24 = .ok (.goto (-22), 3) := by decide +kernel
theorem dX12_keep_27 : decode cX12_keep 27 = .ok (.aload_n 0, 1) := by decide +kernel
theorem dX12_keep_28 : decode cX12_keep 28 = .ok (.iconst 1, 1) := by decide +kernel
theorem dX12_keep_29 : decode cX12_keep 29 = .ok (.putfield 385, 3) := by decide +kernel
theorem dX12_keep_32 : decode cX12_keep 32 = .ok (.aload_n 0, 1) := by decide +kernel
theorem dX12_keep_33 : decode cX12_keep 33 = .ok (.getfield 9, 3) := by decide +kernel
theorem dX12_keep_36 : decode cX12_keep 36 = .ok (.bipush 7, 2) := by decide +kernel
theorem dX12_keep_38 : decode cX12_keep 38 = .ok (.iaload, 1) := by decide +kernel
theorem dX12_keep_39 : decode cX12_keep 39 = .ok (.ireturn, 1) := by decide +kernel
theorem dX12_back_0 : decode cX12_back 0 = .ok (.aload_n 0, 1) := by decide +kernel
theorem dX12_back_1 : decode cX12_back 1 = .ok (.getfield 385, 3) := by decide +kernel
theorem dX12_back_4 : decode cX12_back 4 = .ok (.ifCond .ne 6, 3) := by decide +kernel
theorem dX12_back_7 : decode cX12_back 7 = .ok (.ldc 99, 2) := by decide +kernel
theorem dX12_back_9 : decode cX12_back 9 = .ok (.ireturn, 1) := by decide +kernel
theorem dX12_back_10 : decode cX12_back 10 = .ok (.iconst 0, 1) := by decide +kernel
theorem dX12_back_11 : decode cX12_back 11 = .ok (.istore_n 1, 1) := by decide +kernel
theorem dX12_back_12 : decode cX12_back 12 = .ok (.iload_n 1, 1) := by decide +kernel
theorem dX12_back_13 : decode cX12_back 13 = .ok (.sipush 3734, 3) := by decide +kernel
theorem dX12_back_16 : decode cX12_back 16 = .ok (.if_icmp .ge 21, 3) := by decide +kernel
theorem dX12_back_19 : decode cX12_back 19 = .ok (.aload_n 0, 1) := by decide +kernel
theorem dX12_back_20 : decode cX12_back 20 = .ok (.getfield 9, 3) := by decide +kernel
theorem dX12_back_23 : decode cX12_back 23 = .ok (.iload_n 1, 1) := by decide +kernel
theorem dX12_back_24 : decode cX12_back 24 = .ok (.aload_n 0, 1) := by decide +kernel
theorem dX12_back_25 : decode cX12_back 25 = .ok (.getfield 13, 3) := by decide +kernel
theorem dX12_back_28 : decode cX12_back 28 = .ok (.iload_n 1, 1) := by decide +kernel
theorem dX12_back_29 : decode cX12_back 29 = .ok (.iaload, 1) := by decide +kernel
theorem dX12_back_30 : decode cX12_back 30 = .ok (.iastore, 1) := by decide +kernel
theorem dX12_back_31 : decode cX12_back 31 = .ok (.iinc 1 1, 3) := by decide +kernel
theorem dX12_back_34 : decode cX12_back 34 = .ok (.goto (-22), 3) := by decide +kernel
theorem dX12_back_37 : decode cX12_back 37 = .ok (.aload_n 0, 1) := by decide +kernel
theorem dX12_back_38 : decode cX12_back 38 = .ok (.getfield 9, 3) := by decide +kernel
theorem dX12_back_41 : decode cX12_back 41 = .ok (.bipush 7, 2) := by decide +kernel
theorem dX12_back_43 : decode cX12_back 43 = .ok (.iaload, 1) := by decide +kernel
theorem dX12_back_44 : decode cX12_back 44 = .ok (.ireturn, 1) := by decide +kernel
theorem dX12_sheet_0 : decode cX12_sheet 0 = .ok (.iload_n 1, 1) := by decide +kernel
theorem dX12_sheet_1 : decode cX12_sheet 1 = .ok (.iconst 0, 1) := by decide +kernel
theorem dX12_sheet_2 : decode cX12_sheet 2 = .ok (.iconst 1, 1) := by decide +kernel
theorem dX12_sheet_3 : decode cX12_sheet 3 = .ok (.invokestatic 82, 3) := by decide +kernel
theorem dX12_sheet_6 : decode cX12_sheet 6 = .ok (.ifCond .eq 9, 3) := by decide +kernel
theorem dX12_sheet_9 : decode cX12_sheet 9 = .ok (.iload_n 2, 1) := by decide +kernel
theorem dX12_sheet_10 : decode cX12_sheet 10 = .ok (.bipush 80, 2) := by decide +kernel
theorem dX12_sheet_12 : decode cX12_sheet 12 = .ok (.if_icmp .le 6, 3) := by decide +kernel
theorem dX12_sheet_15 : decode cX12_sheet 15 = .ok (.ldc 86, 2) := by decide +kernel
theorem dX12_sheet_17 : decode cX12_sheet 17 = .ok (.ireturn, 1) := by decide +kernel
theorem dX12_sheet_18 : decode cX12_sheet 18 = .ok (.iload_n 2, 1) := by decide +kernel
theorem dX12_sheet_19 : decode cX12_sheet 19 = .ok (.ifCond .ge 7, 3) := by decide +kernel
theorem dX12_sheet_22 : decode cX12_sheet 22 = .ok (.ldc_w 388, 3) := by decide +kernel
theorem dX12_sheet_25 : decode cX12_sheet 25 = .ok (.ireturn, 1) := by decide +kernel
theorem dX12_sheet_26 : decode cX12_sheet 26 = .ok (.aload_n 0, 1) := by decide +kernel
theorem dX12_sheet_27 : decode cX12_sheet 27 = .ok (.getfield 22, 3) := by decide +kernel
theorem dX12_sheet_30 : decode cX12_sheet 30 = .ok (.iload_n 1, 1) := by decide +kernel
theorem dX12_sheet_31 : decode cX12_sheet 31 = .ok (.iload_n 2, 1) := by decide +kernel
theorem dX12_sheet_32 : decode cX12_sheet 32 = .ok (.iastore, 1) := by decide +kernel
theorem dX12_sheet_33 : decode cX12_sheet 33 = .ok (.iconst 0, 1) := by decide +kernel
theorem dX12_sheet_34 : decode cX12_sheet 34 = .ok (.istore_n 3, 1) := by decide +kernel
theorem dX12_sheet_35 : decode cX12_sheet 35 = .ok (.iload_n 3, 1) := by decide +kernel
theorem dX12_sheet_36 : decode cX12_sheet 36 = .ok (.bipush 80, 2) := by decide +kernel
theorem dX12_sheet_38 : decode cX12_sheet 38 = .ok (.if_icmp .ge 21, 3) := by decide +kernel
theorem dX12_sheet_41 : decode cX12_sheet 41 = .ok (.aload_n 0, 1) := by decide +kernel
theorem dX12_sheet_42 : decode cX12_sheet 42 = .ok (.getfield 25, 3) := by decide +kernel
theorem dX12_sheet_45 : decode cX12_sheet 45 = .ok (.bipush 80, 2) := by decide +kernel
theorem dX12_sheet_47 : decode cX12_sheet 47 = .ok (.iload_n 1, 1) := by decide +kernel
theorem dX12_sheet_48 : decode cX12_sheet 48 = .ok (.imul, 1) := by decide +kernel
theorem dX12_sheet_49 : decode cX12_sheet 49 = .ok (.iload_n 3, 1) := by decide +kernel
theorem dX12_sheet_50 : decode cX12_sheet 50 = .ok (.iadd, 1) := by decide +kernel
theorem dX12_sheet_51 : decode cX12_sheet 51 = .ok (.iconst 0, 1) := by decide +kernel
theorem dX12_sheet_52 : decode cX12_sheet 52 = .ok (.iastore, 1) := by decide +kernel
theorem dX12_sheet_53 : decode cX12_sheet 53 = .ok (.iinc 3 1, 3) := by decide +kernel
theorem dX12_sheet_56 : decode cX12_sheet 56 = .ok (.goto (-21), 3) := by decide +kernel
theorem dX12_sheet_59 : decode cX12_sheet 59 = .ok (.iload_n 2, 1) := by decide +kernel
theorem dX12_sheet_60 : decode cX12_sheet 60 = .ok (.ireturn, 1) := by decide +kernel
theorem dX12_mark_0 : decode cX12_mark 0 = .ok (.iload_n 1, 1) := by decide +kernel
theorem dX12_mark_1 : decode cX12_mark 1 = .ok (.iconst 0, 1) := by decide +kernel
theorem dX12_mark_2 : decode cX12_mark 2 = .ok (.iconst 1, 1) := by decide +kernel
theorem dX12_mark_3 : decode cX12_mark 3 = .ok (.invokestatic 82, 3) := by decide +kernel
theorem dX12_mark_6 : decode cX12_mark 6 = .ok (.ifCond .ne 6, 3) := by decide +kernel
theorem dX12_mark_9 : decode cX12_mark 9 = .ok (.ldc 86, 2) := by decide +kernel
theorem dX12_mark_11 : decode cX12_mark 11 = .ok (.ireturn, 1) := by decide +kernel
theorem dX12_mark_12 : decode cX12_mark 12 = .ok (.aload_n 0, 1) := by decide +kernel
theorem dX12_mark_13 : decode cX12_mark 13 = .ok (.getfield 22, 3) := by decide +kernel
theorem dX12_mark_16 : decode cX12_mark 16 = .ok (.iload_n 1, 1) := by decide +kernel
theorem dX12_mark_17 : decode cX12_mark 17 = .ok (.iaload, 1) := by decide +kernel
theorem dX12_mark_18 : decode cX12_mark 18 = .ok (.ifCond .ge 6, 3) := by decide +kernel
theorem dX12_mark_21 : decode cX12_mark 21 = .ok (.ldc 105, 2) := by decide +kernel
theorem dX12_mark_23 : decode cX12_mark 23 = .ok (.ireturn, 1) := by decide +kernel
theorem dX12_mark_24 : decode cX12_mark 24 = .ok (.iload_n 2, 1) := by decide +kernel
theorem dX12_mark_25 : decode cX12_mark 25 = .ok (.iconst 0, 1) := by decide +kernel
theorem dX12_mark_26 : decode cX12_mark 26 = .ok (.aload_n 0, 1) := by decide +kernel
theorem dX12_mark_27 : decode cX12_mark 27 = .ok (.getfield 22, 3) := by decide +kernel
theorem dX12_mark_30 : decode cX12_mark 30 = .ok (.iload_n 1, 1) := by decide +kernel
theorem dX12_mark_31 : decode cX12_mark 31 = .ok (.iaload, 1) := by decide +kernel
theorem dX12_mark_32 : decode cX12_mark 32 = .ok (.iconst 1, 1) := by decide +kernel
theorem dX12_mark_33 : decode cX12_mark 33 = .ok (.isub, 1) := by decide +kernel
theorem dX12_mark_34 : decode cX12_mark 34 = .ok (.invokestatic 82, 3) := by decide +kernel
theorem dX12_mark_37 : decode cX12_mark 37 = .ok (.ifCond .ne 7, 3) := by decide +kernel
theorem dX12_mark_40 : decode cX12_mark 40 = .ok (.ldc_w 389, 3) := by decide +kernel
theorem dX12_mark_43 : decode cX12_mark 43 = .ok (.ireturn, 1) := by decide +kernel
theorem dX12_mark_44 : decode cX12_mark 44 = .ok (.aload_n 0, 1) := by decide +kernel
theorem dX12_mark_45 : decode cX12_mark 45 = .ok (.getfield 25, 3) := by decide +kernel
theorem dX12_mark_48 : decode cX12_mark 48 = .ok (.bipush 80, 2) := by decide +kernel
theorem dX12_mark_50 : decode cX12_mark 50 = .ok (.iload_n 1, 1) := by decide +kernel
theorem dX12_mark_51 : decode cX12_mark 51 = .ok (.imul, 1) := by decide +kernel
theorem dX12_mark_52 : decode cX12_mark 52 = .ok (.iload_n 2, 1) := by decide +kernel
theorem dX12_mark_53 : decode cX12_mark 53 = .ok (.iadd, 1) := by decide +kernel
theorem dX12_mark_54 : decode cX12_mark 54 = .ok (.iaload, 1) := by decide +kernel
theorem dX12_mark_55 : decode cX12_mark 55 = .ok (.istore 4, 2) := by decide +kernel
theorem dX12_mark_57 : decode cX12_mark 57 = .ok (.aload_n 0, 1) := by decide +kernel
theorem dX12_mark_58 : decode cX12_mark 58 = .ok (.getfield 25, 3) := by decide +kernel
theorem dX12_mark_61 : decode cX12_mark 61 = .ok (.bipush 80, 2) := by decide +kernel
theorem dX12_mark_63 : decode cX12_mark 63 = .ok (.iload_n 1, 1) := by decide +kernel
theorem dX12_mark_64 : decode cX12_mark 64 = .ok (.imul, 1) := by decide +kernel
theorem dX12_mark_65 : decode cX12_mark 65 = .ok (.iload_n 2, 1) := by decide +kernel
theorem dX12_mark_66 : decode cX12_mark 66 = .ok (.iadd, 1) := by decide +kernel
theorem dX12_mark_67 : decode cX12_mark 67 = .ok (.iload_n 3, 1) := by decide +kernel
theorem dX12_mark_68 : decode cX12_mark 68 = .ok (.i2s, 1) := by decide +kernel
theorem dX12_mark_69 : decode cX12_mark 69 = .ok (.iastore, 1) := by decide +kernel
theorem dX12_mark_70 : decode cX12_mark 70 = .ok (.iload 4, 2) := by decide +kernel
theorem dX12_mark_72 : decode cX12_mark 72 = .ok (.ireturn, 1) := by decide +kernel
theorem dX12_copy_0 : decode cX12_copy 0 = .ok (.iload_n 1, 1) := by decide +kernel
theorem dX12_copy_1 : decode cX12_copy 1 = .ok (.iconst 0, 1) := by decide +kernel
theorem dX12_copy_2 : decode cX12_copy 2 = .ok (.iconst 1, 1) := by decide +kernel
theorem dX12_copy_3 : decode cX12_copy 3 = .ok (.invokestatic 82, 3) := by decide +kernel
theorem dX12_copy_6 : decode cX12_copy 6 = .ok (.ifCond .eq 12, 3) := by decide +kernel
theorem dX12_copy_9 : decode cX12_copy 9 = .ok (.iload_n 3, 1) := by decide +kernel
theorem dX12_copy_10 : decode cX12_copy 10 = .ok (.iconst 0, 1) := by decide +kernel
theorem dX12_copy_11 : decode cX12_copy 11 = .ok (.iconst 1, 1) := by decide +kernel
theorem dX12_copy_12 : decode cX12_copy 12 = .ok (.invokestatic 82, 3) := by decide +kernel
theorem dX12_copy_15 : decode cX12_copy 15 = .ok (.ifCond .ne 6, 3) := by decide +kernel
theorem dX12_copy_18 : decode cX12_copy 18 = .ok (.ldc 86, 2) := by decide +kernel
theorem dX12_copy_20 : decode cX12_copy 20 = .ok (.ireturn, 1) := by decide +kernel
theorem dX12_copy_21 : decode cX12_copy 21 = .ok (.aload_n 0, 1) := by decide +kernel
theorem dX12_copy_22 : decode cX12_copy 22 = .ok (.getfield 22, 3) := by decide +kernel
theorem dX12_copy_25 : decode cX12_copy 25 = .ok (.iload_n 1, 1) := by decide +kernel
theorem dX12_copy_26 : decode cX12_copy 26 = .ok (.iaload, 1) := by decide +kernel
theorem dX12_copy_27 : decode cX12_copy 27 = .ok (.ifCond .lt 12, 3) := by decide +kernel
theorem dX12_copy_30 : decode cX12_copy 30 = .ok (.aload_n 0, 1) := by decide +kernel
theorem dX12_copy_31 : decode cX12_copy 31 = .ok (.getfield 22, 3) := by decide +kernel
theorem dX12_copy_34 : decode cX12_copy 34 = .ok (.iload_n 3, 1) := by decide +kernel
theorem dX12_copy_35 : decode cX12_copy 35 = .ok (.iaload, 1) := by decide +kernel
theorem dX12_copy_36 : decode cX12_copy 36 = .ok (.ifCond .ge 6, 3) := by decide +kernel
theorem dX12_copy_39 : decode cX12_copy 39 = .ok (.ldc 105, 2) := by decide +kernel
theorem dX12_copy_41 : decode cX12_copy 41 = .ok (.ireturn, 1) := by decide +kernel
theorem dX12_copy_42 : decode cX12_copy 42 = .ok (.iload 5, 2) := by decide +kernel
theorem dX12_copy_44 : decode cX12_copy 44 = .ok (.ifCond .lt 47, 3) := by decide +kernel
theorem dX12_copy_47 : decode cX12_copy 47 = .ok (.iload_n 2, 1) := by decide +kernel
theorem dX12_copy_48 : decode cX12_copy 48 = .ok (.ifCond .lt 43, 3) := by decide +kernel
theorem dX12_copy_51 : decode cX12_copy 51 = .ok (.iload 4, 2) := by decide +kernel
theorem dX12_copy_53 : decode cX12_copy 53 = .ok (.ifCond .lt 38, 3) := by decide +kernel
theorem dX12_copy_56 : decode cX12_copy 56 = .ok (.iload_n 2, 1) := by decide +kernel
theorem dX12_copy_57 : decode cX12_copy 57 = .ok (.i2l, 1) := by decide +kernel
theorem dX12_copy_58 : decode cX12_copy 58 = .ok (.iload 5, 2) := by decide +kernel
theorem dX12_copy_60 : decode cX12_copy 60 = .ok (.i2l, 1) := by decide +kernel
theorem dX12_copy_61 : decode cX12_copy 61 = .ok (.ladd, 1) := by decide +kernel
theorem dX12_copy_62 : decode cX12_copy 62 = .ok (.aload_n 0, 1) := by decide +kernel
theorem dX12_copy_63 : decode cX12_copy 63 = .ok (.getfield 22, 3) := by decide +kernel
theorem dX12_copy_66 : decode cX12_copy 66 = .ok (.iload_n 1, 1) := by decide +kernel
theorem dX12_copy_67 : decode cX12_copy 67 = .ok (.iaload, 1) := by decide +kernel
theorem dX12_copy_68 : decode cX12_copy 68 = .ok (.i2l, 1) := by decide +kernel
theorem dX12_copy_69 : decode cX12_copy 69 = .ok (.lcmp, 1) := by decide +kernel
theorem dX12_copy_70 : decode cX12_copy 70 = .ok (.ifCond .gt 21, 3) := by decide +kernel
theorem dX12_copy_73 : decode cX12_copy 73 = .ok (.iload 4, 2) := by decide +kernel
theorem dX12_copy_75 : decode cX12_copy 75 = .ok (.i2l, 1) := by decide +kernel
theorem dX12_copy_76 : decode cX12_copy 76 = .ok (.iload 5, 2) := by decide +kernel
theorem dX12_copy_78 : decode cX12_copy 78 = .ok (.i2l, 1) := by decide +kernel
theorem dX12_copy_79 : decode cX12_copy 79 = .ok (.ladd, 1) := by decide +kernel
theorem dX12_copy_80 : decode cX12_copy 80 = .ok (.aload_n 0, 1) := by decide +kernel
theorem dX12_copy_81 : decode cX12_copy 81 = .ok (.getfield 22, 3) := by decide +kernel
theorem dX12_copy_84 : decode cX12_copy 84 = .ok (.iload_n 3, 1) := by decide +kernel
theorem dX12_copy_85 : decode cX12_copy 85 = .ok (.iaload, 1) := by decide +kernel
theorem dX12_copy_86 : decode cX12_copy 86 = .ok (.i2l, 1) := by decide +kernel
theorem dX12_copy_87 : decode cX12_copy 87 = .ok (.lcmp, 1) := by decide +kernel
theorem dX12_copy_88 : decode cX12_copy 88 = .ok (.ifCond .le 7, 3) := by decide +kernel
theorem dX12_copy_91 : decode cX12_copy 91 = .ok (.ldc_w 389, 3) := by decide +kernel
theorem dX12_copy_94 : decode cX12_copy 94 = .ok (.ireturn, 1) := by decide +kernel
theorem dX12_copy_95 : decode cX12_copy 95 = .ok (.iconst 0, 1) := by decide +kernel
theorem dX12_copy_96 : decode cX12_copy 96 = .ok (.istore 6, 2) := by decide +kernel
theorem dX12_copy_98 : decode cX12_copy 98 = .ok (.iload 6, 2) := by decide +kernel
theorem dX12_copy_100 : decode cX12_copy 100 = .ok (.iload 5, 2) := by decide +kernel
theorem dX12_copy_102 : decode cX12_copy 102 = .ok (.if_icmp .ge 30, 3) := by decide +kernel
theorem dX12_copy_105 : decode cX12_copy 105 = .ok (.aload_n 0, 1) := by decide +kernel
theorem dX12_copy_106 : decode cX12_copy 106 = .ok (.getfield 71, 3) := by decide +kernel
theorem dX12_copy_109 : decode cX12_copy 109 = .ok (.iload 6, 2) := by decide +kernel
theorem dX12_copy_111 : decode cX12_copy 111 = .ok (.aload_n 0, 1) := by decide +kernel
theorem dX12_copy_112 : decode cX12_copy 112 = .ok (.getfield 25, 3) := by decide +kernel
theorem dX12_copy_115 : decode cX12_copy 115 = .ok (.bipush 80, 2) := by decide +kernel
theorem dX12_copy_117 : decode cX12_copy 117 = .ok (.iload_n 1, 1) := by decide +kernel
theorem dX12_copy_118 : decode cX12_copy 118 = .ok (.imul, 1) := by decide +kernel
theorem dX12_copy_119 : decode cX12_copy 119 = .ok (.iload_n 2, 1) := by decide +kernel
theorem dX12_copy_120 : decode cX12_copy 120 = .ok (.iadd, 1) := by decide +kernel
theorem dX12_copy_121 : decode cX12_copy 121 = .ok (.iload 6, 2) := by decide +kernel
theorem dX12_copy_123 : decode cX12_copy 123 = .ok (.iadd, 1) := by decide +kernel
theorem dX12_copy_124 : decode cX12_copy 124 = .ok (.iaload, 1) := by decide +kernel
theorem dX12_copy_125 : decode cX12_copy 125 = .ok (.iastore, 1) := by decide +kernel
theorem dX12_copy_126 : decode cX12_copy 126 = .ok (.iinc 6 1, 3) := by decide +kernel
theorem dX12_copy_129 : decode cX12_copy 129 = .ok (.goto (-31), 3) := by decide +kernel
theorem dX12_copy_132 : decode cX12_copy 132 = .ok (.iconst 0, 1) := by decide +kernel
theorem dX12_copy_133 : decode cX12_copy 133 = .ok (.istore 6, 2) := by decide +kernel
theorem dX12_copy_135 : decode cX12_copy 135 = .ok (.iload 6, 2) := by decide +kernel
theorem dX12_copy_137 : decode cX12_copy 137 = .ok (.iload 5, 2) := by decide +kernel
theorem dX12_copy_139 : decode cX12_copy 139 = .ok (.if_icmp .ge 31, 3) := by decide +kernel
theorem dX12_copy_142 : decode cX12_copy 142 = .ok (.aload_n 0, 1) := by decide +kernel
theorem dX12_copy_143 : decode cX12_copy 143 = .ok (.getfield 25, 3) := by decide +kernel
theorem dX12_copy_146 : decode cX12_copy 146 = .ok (.bipush 80, 2) := by decide +kernel
theorem dX12_copy_148 : decode cX12_copy 148 = .ok (.iload_n 3, 1) := by decide +kernel
theorem dX12_copy_149 : decode cX12_copy 149 = .ok (.imul, 1) := by decide +kernel
theorem dX12_copy_150 : decode cX12_copy 150 = .ok (.iload 4, 2) := by decide +kernel
theorem dX12_copy_152 : decode cX12_copy 152 = .ok (.iadd, 1) := by decide +kernel
theorem dX12_copy_153 : decode cX12_copy 153 = .ok (.iload 6, 2) := by decide +kernel
theorem dX12_copy_155 : decode cX12_copy 155 = .ok (.iadd, 1) := by decide +kernel
theorem dX12_copy_156 : decode cX12_copy 156 = .ok (.aload_n 0, 1) := by decide +kernel
theorem dX12_copy_157 : decode cX12_copy 157 = .ok (.getfield 71, 3) := by decide +kernel
theorem dX12_copy_160 : decode cX12_copy 160 = .ok (.iload 6, 2) := by decide +kernel
theorem dX12_copy_162 : decode cX12_copy 162 = .ok (.iaload, 1) := by decide +kernel
theorem dX12_copy_163 : decode cX12_copy 163 = .ok (.iastore, 1) := by decide +kernel
theorem dX12_copy_164 : decode cX12_copy 164 = .ok (.iinc 6 1, 3) := by decide +kernel
theorem dX12_copy_167 : decode cX12_copy 167 = .ok (.goto (-32), 3) := by decide +kernel
theorem dX12_copy_170 : decode cX12_copy 170 = .ok (.iload 5, 2) := by decide +kernel
theorem dX12_copy_172 : decode cX12_copy 172 = .ok (.ireturn, 1) := by decide +kernel
theorem dX12_count_0 : decode cX12_count 0 = .ok (.iconst 0, 1) := by decide +kernel
theorem dX12_count_1 : decode cX12_count 1 = .ok (.istore_n 2, 1) := by decide +kernel
theorem dX12_count_2 : decode cX12_count 2 = .ok (.iconst 0, 1) := by decide +kernel
theorem dX12_count_3 : decode cX12_count 3 = .ok (.istore_n 3, 1) := by decide +kernel
theorem dX12_count_4 : decode cX12_count 4 = .ok (.iload_n 3, 1) := by decide +kernel
theorem dX12_count_5 : decode cX12_count 5 = .ok (.bipush 6, 2) := by decide +kernel
theorem dX12_count_7 : decode cX12_count 7 = .ok (.if_icmp .ge 25, 3) := by decide +kernel
theorem dX12_count_10 : decode cX12_count 10 = .ok (.iload_n 2, 1) := by decide +kernel
theorem dX12_count_11 : decode cX12_count 11 = .ok (.aload_n 0, 1) := by decide +kernel
theorem dX12_count_12 : decode cX12_count 12 = .ok (.iload_n 3, 1) := by decide +kernel
theorem dX12_count_13 : decode cX12_count 13 = .ok (.invokevirtual 247, 3) := by decide +kernel
theorem dX12_count_16 : decode cX12_count 16 = .ok (.ifCond .eq 7, 3) := by decide +kernel
theorem dX12_count_19 : decode cX12_count 19 = .ok (.iconst 0, 1) := by decide +kernel
theorem dX12_count_20 : decode cX12_count 20 = .ok (.goto 4, 3) := by decide +kernel
theorem dX12_count_23 : decode cX12_count 23 = .ok (.iconst 1, 1) := by decide +kernel
theorem dX12_count_24 : decode cX12_count 24 = .ok (.iadd, 1) := by decide +kernel
theorem dX12_count_25 : decode cX12_count 25 = .ok (.istore_n 2, 1) := by decide +kernel
theorem dX12_count_26 : decode cX12_count 26 = .ok (.iinc 3 1, 3) := by decide +kernel
theorem dX12_count_29 : decode cX12_count 29 = .ok (.goto (-25), 3) := by decide +kernel
theorem dX12_count_32 : decode cX12_count 32 = .ok (.iload_n 1, 1) := by decide +kernel
theorem dX12_count_33 : decode cX12_count 33 = .ok (.tableswitch 108 0 8 #[51, 56, 64, 72, 74, 82, 90, 98, 103], 51) := by decide +kernel
theorem dX12_count_84 : decode cX12_count 84 = .ok (.aload_n 0, 1) := by decide +kernel
theorem dX12_count_85 : decode cX12_count 85 = .ok (.invokevirtual 78, 3) := by decide +kernel
theorem dX12_count_88 : decode cX12_count 88 = .ok (.ireturn, 1) := by decide +kernel
theorem dX12_count_89 : decode cX12_count 89 = .ok (.aload_n 0, 1) := by decide +kernel
theorem dX12_count_90 : decode cX12_count 90 = .ok (.getfield 9, 3) := by decide +kernel
theorem dX12_count_93 : decode cX12_count 93 = .ok (.bipush 16, 2) := by decide +kernel
theorem dX12_count_95 : decode cX12_count 95 = .ok (.iaload, 1) := by decide +kernel
theorem dX12_count_96 : decode cX12_count 96 = .ok (.ireturn, 1) := by decide +kernel
theorem dX12_count_97 : decode cX12_count 97 = .ok (.aload_n 0, 1) := by decide +kernel
theorem dX12_count_98 : decode cX12_count 98 = .ok (.getfield 9, 3) := by decide +kernel
theorem dX12_count_101 : decode cX12_count 101 = .ok (.bipush 15, 2) := by decide +kernel
theorem dX12_count_103 : decode cX12_count 103 = .ok (.iaload, 1) := by decide +kernel
theorem dX12_count_104 : decode cX12_count 104 = .ok (.ireturn, 1) := by decide +kernel
theorem dX12_count_105 : decode cX12_count 105 = .ok (.iload_n 2, 1) := by decide +kernel
theorem dX12_count_106 : decode cX12_count 106 = .ok (.ireturn, 1) := by decide +kernel
theorem dX12_count_107 : decode cX12_count 107 = .ok (.aload_n 0, 1) := by decide +kernel
theorem dX12_count_108 : decode cX12_count 108 = .ok (.getfield 9, 3) := by decide +kernel
theorem dX12_count_111 : decode cX12_count 111 = .ok (.bipush 17, 2) := by decide +kernel
theorem dX12_count_113 : decode cX12_count 113 = .ok (.iaload, 1) := by decide +kernel
theorem dX12_count_114 : decode cX12_count 114 = .ok (.ireturn, 1) := by decide +kernel
theorem dX12_count_115 : decode cX12_count 115 = .ok (.aload_n 0, 1) := by decide +kernel
theorem dX12_count_116 : decode cX12_count 116 = .ok (.getfield 9, 3) := by decide +kernel
theorem dX12_count_119 : decode cX12_count 119 = .ok (.bipush 18, 2) := by decide +kernel
theorem dX12_count_121 : decode cX12_count 121 = .ok (.iaload, 1) := by decide +kernel
theorem dX12_count_122 : decode cX12_count 122 = .ok (.ireturn, 1) := by decide +kernel
theorem dX12_count_123 : decode cX12_count 123 = .ok (.aload_n 0, 1) := by decide +kernel
theorem dX12_count_124 : decode cX12_count 124 = .ok (.getfield 9, 3) := by decide +kernel
theorem dX12_count_127 : decode cX12_count 127 = .ok (.bipush 19, 2) := by decide +kernel
theorem dX12_count_129 : decode cX12_count 129 = .ok (.iaload, 1) := by decide +kernel
theorem dX12_count_130 : decode cX12_count 130 = .ok (.ireturn, 1) := by decide +kernel
theorem dX12_count_131 : decode cX12_count 131 = .ok (.aload_n 0, 1) := by decide +kernel
theorem dX12_count_132 : decode cX12_count 132 = .ok (.getfield 370, 3) := by decide +kernel
theorem dX12_count_135 : decode cX12_count 135 = .ok (.ireturn, 1) := by decide +kernel
theorem dX12_count_136 : decode cX12_count 136 = .ok (.aload_n 0, 1) := by decide +kernel
theorem dX12_count_137 : decode cX12_count 137 = .ok (.getfield 138, 3) := by decide +kernel
theorem dX12_count_140 : decode cX12_count 140 = .ok (.ireturn, 1) := by decide +kernel
theorem dX12_count_141 : decode cX12_count 141 = .ok (.ldc 86, 2) := by decide +kernel
theorem dX12_count_143 : decode cX12_count 143 = .ok (.ireturn, 1) := by decide +kernel
