theorem dX0_init_0 : decode cX0_init 0 = .ok (.aload_n 0, 1) := by decide +kernel
theorem dX0_init_1 : decode cX0_init 1 = .ok (.invokespecial 3, 3) := by decide +kernel
theorem dX0_init_4 : decode cX0_init 4 = .ok (.aload_n 0, 1) := by decide +kernel
theorem dX0_init_5 : decode cX0_init 5 = .ok (.new 9, 3) := by decide +kernel
theorem dX0_init_8 : decode cX0_init 8 = .ok (.dup, 1) := by decide +kernel
theorem dX0_init_9 : decode cX0_init 9 = .ok (.bipush 80, 2) := by decide +kernel
theorem dX0_init_11 : decode cX0_init 11 = .ok (.invokespecial 11, 3) := by decide +kernel
theorem dX0_init_14 : decode cX0_init 14 = .ok (.putfield 14, 3) := by decide +kernel
theorem dX0_init_17 : decode cX0_init 17 = .ok (.aload_n 0, 1) := by decide +kernel
theorem dX0_init_18 : decode cX0_init 18 = .ok (.new 9, 3) := by decide +kernel
theorem dX0_init_21 : decode cX0_init 21 = .ok (.dup, 1) := by decide +kernel
theorem dX0_init_22 : decode cX0_init 22 = .ok (.bipush 80, 2) := by decide +kernel
theorem dX0_init_24 : decode cX0_init 24 = .ok (.invokespecial 11, 3) := by decide +kernel
theorem dX0_init_27 : decode cX0_init 27 = .ok (.putfield 20, 3) := by decide +kernel
theorem dX0_init_30 : decode cX0_init 30 = .ok (.aload_n 0, 1) := by decide +kernel
theorem dX0_init_31 : decode cX0_init 31 = .ok (.new 9, 3) := by decide +kernel
theorem dX0_init_34 : decode cX0_init 34 = .ok (.dup, 1) := by decide +kernel
theorem dX0_init_35 : decode cX0_init 35 = .ok (.bipush 80, 2) := by decide +kernel
theorem dX0_init_37 : decode cX0_init 37 = .ok (.invokespecial 11, 3) := by decide +kernel
theorem dX0_init_40 : decode cX0_init 40 = .ok (.putfield 23, 3) := by decide +kernel
theorem dX0_init_43 : decode cX0_init 43 = .ok (.aload_n 0, 1) := by decide +kernel
theorem dX0_init_44 : decode cX0_init 44 = .ok (.new 9, 3) := by decide +kernel
theorem dX0_init_47 : decode cX0_init 47 = .ok (.dup, 1) := by decide +kernel
theorem dX0_init_48 : decode cX0_init 48 = .ok (.sipush 320, 3) := by decide +kernel
theorem dX0_init_51 : decode cX0_init 51 = .ok (.invokespecial 11, 3) := by decide +kernel
theorem dX0_init_54 : decode cX0_init 54 = .ok (.putfield 26, 3) := by decide +kernel
theorem dX0_init_57 : decode cX0_init 57 = .ok (.aload_n 0, 1) := by decide +kernel
theorem dX0_init_58 : decode cX0_init 58 = .ok (.new 9, 3) := by decide +kernel
theorem dX0_init_61 : decode cX0_init 61 = .ok (.dup, 1) := by decide +kernel
theorem dX0_init_62 : decode cX0_init 62 = .ok (.iconst 3, 1) := by decide +kernel
theorem dX0_init_63 : decode cX0_init 63 = .ok (.invokespecial 11, 3) := by decide +kernel
theorem dX0_init_66 : decode cX0_init 66 = .ok (.putfield 29, 3) := by decide +kernel
theorem dX0_init_69 : decode cX0_init 69 = .ok (.aload_n 0, 1) := by decide +kernel
theorem dX0_init_70 : decode cX0_init 70 = .ok (.new 9, 3) := by decide +kernel
theorem dX0_init_73 : decode cX0_init 73 = .ok (.dup, 1) := by decide +kernel
theorem dX0_init_74 : decode cX0_init 74 = .ok (.bipush 80, 2) := by decide +kernel
theorem dX0_init_76 : decode cX0_init 76 = .ok (.invokespecial 11, 3) := by decide +kernel
theorem dX0_init_79 : decode cX0_init 79 = .ok (.putfield 32, 3) := by decide +kernel
theorem dX0_init_82 : decode cX0_init 82 = .ok (.aload_n 0, 1) := by decide +kernel
theorem dX0_init_83 : decode cX0_init 83 = .ok (.new 9, 3) := by decide +kernel
theorem dX0_init_86 : decode cX0_init 86 = .ok (.dup, 1) := by decide +kernel
theorem dX0_init_87 : decode cX0_init 87 = .ok (.bipush 80, 2) := by decide +kernel
theorem dX0_init_89 : decode cX0_init 89 = .ok (.invokespecial 11, 3) := by decide +kernel
theorem dX0_init_92 : decode cX0_init 92 = .ok (.putfield 35, 3) := by decide +kernel
theorem dX0_init_95 : decode cX0_init 95 = .ok (.aload_n 0, 1) := by decide +kernel
theorem dX0_init_96 : decode cX0_init 96 = .ok (.bipush 6, 2) := by decide +kernel
theorem dX0_init_98 : decode cX0_init 98 = .ok (.iconst 4, 1) := by decide +kernel
theorem dX0_init_99 : decode cX0_init 99 = .ok (.invokevirtual 38, 3) := by decide +kernel
theorem dX0_init_102 : decode cX0_init 102 = .ok (.return_, 1) := by decide +kernel
theorem dX0_begin_0 : decode cX0_begin 0 = .ok (.aload_n 0, 1) := by decide +kernel
theorem dX0_begin_1 : decode cX0_begin 1 = .ok (.iload_n 1, 1) := by decide +kernel
theorem dX0_begin_2 : decode cX0_begin 2 = .ok (.putfield 42, 3) := by decide +kernel
theorem dX0_begin_5 : decode cX0_begin 5 = .ok (.aload_n 0, 1) := by decide +kernel
theorem dX0_begin_6 : decode cX0_begin 6 = .ok (.iload_n 2, 1) := by decide +kernel
theorem dX0_begin_7 : decode cX0_begin 7 = .ok (.putfield 46, 3) := by decide +kernel
theorem dX0_begin_10 : decode cX0_begin 10 = .ok (.aload_n 0, 1) := by decide +kernel
theorem dX0_begin_11 : decode cX0_begin 11 = .ok (.getfield 14, 3) := by decide +kernel
theorem dX0_begin_14 : decode cX0_begin 14 = .ok (.aload_n 0, 1) := by decide +kernel
theorem dX0_begin_15 : decode cX0_begin 15 = .ok (.invokevirtual 49, 3) := by decide +kernel
theorem dX0_begin_18 : decode cX0_begin 18 = .ok (.iconst 0, 1) := by decide +kernel
theorem dX0_begin_19 : decode cX0_begin 19 = .ok (.invokevirtual 53, 3) := by decide +kernel
theorem dX0_begin_22 : decode cX0_begin 22 = .ok (.aload_n 0, 1) := by decide +kernel
theorem dX0_begin_23 : decode cX0_begin 23 = .ok (.getfield 14, 3) := by decide +kernel
theorem dX0_begin_26 : decode cX0_begin 26 = .ok (.iconst 0, 1) := by decide +kernel
theorem dX0_begin_27 : decode cX0_begin 27 = .ok (.iconst 4, 1) := by decide +kernel
theorem dX0_begin_28 : decode cX0_begin 28 = .ok (.invokevirtual 56, 3) := by decide +kernel
theorem dX0_begin_31 : decode cX0_begin 31 = .ok (.aload_n 0, 1) := by decide +kernel
theorem dX0_begin_32 : decode cX0_begin 32 = .ok (.getfield 20, 3) := by decide +kernel
theorem dX0_begin_35 : decode cX0_begin 35 = .ok (.aload_n 0, 1) := by decide +kernel
theorem dX0_begin_36 : decode cX0_begin 36 = .ok (.invokevirtual 49, 3) := by decide +kernel
theorem dX0_begin_39 : decode cX0_begin 39 = .ok (.bipush 20, 2) := by decide +kernel
theorem dX0_begin_41 : decode cX0_begin 41 = .ok (.invokevirtual 53, 3) := by decide +kernel
theorem dX0_begin_44 : decode cX0_begin 44 = .ok (.aload_n 0, 1) := by decide +kernel
theorem dX0_begin_45 : decode cX0_begin 45 = .ok (.getfield 20, 3) := by decide +kernel
theorem dX0_begin_48 : decode cX0_begin 48 = .ok (.iconst 0, 1) := by decide +kernel
theorem dX0_begin_49 : decode cX0_begin 49 = .ok (.iconst 0, 1) := by decide +kernel
theorem dX0_begin_50 : decode cX0_begin 50 = .ok (.invokevirtual 56, 3) := by decide +kernel
theorem dX0_begin_53 : decode cX0_begin 53 = .ok (.aload_n 0, 1) := by decide +kernel
theorem dX0_begin_54 : decode cX0_begin 54 = .ok (.getfield 23, 3) := by decide +kernel
theorem dX0_begin_57 : decode cX0_begin 57 = .ok (.aload_n 0, 1) := by decide +kernel
theorem dX0_begin_58 : decode cX0_begin 58 = .ok (.invokevirtual 49, 3) := by decide +kernel
theorem dX0_begin_61 : decode cX0_begin 61 = .ok (.iconst 0, 1) := by decide +kernel
theorem dX0_begin_62 : decode cX0_begin 62 = .ok (.invokevirtual 53, 3) := by decide +kernel
theorem dX0_begin_65 : decode cX0_begin 65 = .ok (.aload_n 0, 1) := by decide +kernel
theorem dX0_begin_66 : decode cX0_begin 66 = .ok (.getfield 26, 3) := by decide +kernel
theorem dX0_begin_69 : decode cX0_begin 69 = .ok (.iconst 4, 1) := by decide +kernel
theorem dX0_begin_70 : decode cX0_begin 70 = .ok (.aload_n 0, 1) := by decide +kernel
theorem dX0_begin_71 : decode cX0_begin 71 = .ok (.invokevirtual 49, 3) := by decide +kernel
theorem dX0_begin_74 : decode cX0_begin 74 = .ok (.imul, 1) := by decide +kernel
theorem dX0_begin_75 : decode cX0_begin 75 = .ok (.iconst (-1), 1) := by decide +kernel
theorem dX0_begin_76 : decode cX0_begin 76 = .ok (.invokevirtual 53, 3) := by decide +kernel
theorem dX0_begin_79 : decode cX0_begin 79 = .ok (.aload_n 0, 1) := by decide +kernel
theorem dX0_begin_80 : decode cX0_begin 80 = .ok (.getfield 29, 3) := by decide +kernel
theorem dX0_begin_83 : decode cX0_begin 83 = .ok (.iconst 3, 1) := by decide +kernel
theorem dX0_begin_84 : decode cX0_begin 84 = .ok (.iconst 0, 1) := by decide +kernel
theorem dX0_begin_85 : decode cX0_begin 85 = .ok (.invokevirtual 53, 3) := by decide +kernel
theorem dX0_begin_88 : decode cX0_begin 88 = .ok (.aload_n 0, 1) := by decide +kernel
theorem dX0_begin_89 : decode cX0_begin 89 = .ok (.iconst 0, 1) := by decide +kernel
theorem dX0_begin_90 : decode cX0_begin 90 = .ok (.putfield 59, 3) := by decide +kernel
theorem dX0_begin_93 : decode cX0_begin 93 = .ok (.aload_n 0, 1) := by decide +kernel
theorem dX0_begin_94 : decode cX0_begin 94 = .ok (.iconst 0, 1) := by decide +kernel
theorem dX0_begin_95 : decode cX0_begin 95 = .ok (.putfield 62, 3) := by decide +kernel
theorem dX0_begin_98 : decode cX0_begin 98 = .ok (.return_, 1) := by decide +kernel
theorem dX0_become_0 : decode cX0_become 0 = .ok (.aload_n 0, 1) := by decide +kernel
theorem dX0_become_1 : decode cX0_become 1 = .ok (.aload_n 1, 1) := by decide +kernel
theorem dX0_become_2 : decode cX0_become 2 = .ok (.getfield 42, 3) := by decide +kernel
theorem dX0_become_5 : decode cX0_become 5 = .ok (.putfield 42, 3) := by decide +kernel
theorem dX0_become_8 : decode cX0_become 8 = .ok (.aload_n 0, 1) := by decide +kernel
theorem dX0_become_9 : decode cX0_become 9 = .ok (.aload_n 1, 1) := by decide +kernel
theorem dX0_become_10 : decode cX0_become 10 = .ok (.getfield 46, 3) := by decide +kernel
theorem dX0_become_13 : decode cX0_become 13 = .ok (.putfield 46, 3) := by decide +kernel
theorem dX0_become_16 : decode cX0_become 16 = .ok (.aload_n 0, 1) := by decide +kernel
theorem dX0_become_17 : decode cX0_become 17 = .ok (.getfield 14, 3) := by decide +kernel
theorem dX0_become_20 : decode cX0_become 20 = .ok (.aload_n 1, 1) := by decide +kernel
theorem dX0_become_21 : decode cX0_become 21 = .ok (.getfield 14, 3) := by decide +kernel
theorem dX0_become_24 : decode cX0_become 24 = .ok (.invokevirtual 65, 3) := by decide +kernel
theorem dX0_become_27 : decode cX0_become 27 = .ok (.aload_n 0, 1) := by decide +kernel
theorem dX0_become_28 : decode cX0_become 28 = .ok (.getfield 20, 3) := by decide +kernel
theorem dX0_become_31 : decode cX0_become 31 = .ok (.aload_n 1, 1) := by decide +kernel
theorem dX0_become_32 : decode cX0_become 32 = .ok (.getfield 20, 3) := by decide +kernel
theorem dX0_become_35 : decode cX0_become 35 = .ok (.invokevirtual 65, 3) := by decide +kernel
theorem dX0_become_38 : decode cX0_become 38 = .ok (.aload_n 0, 1) := by decide +kernel
theorem dX0_become_39 : decode cX0_become 39 = .ok (.getfield 23, 3) := by decide +kernel
theorem dX0_become_42 : decode cX0_become 42 = .ok (.aload_n 1, 1) := by decide +kernel
theorem dX0_become_43 : decode cX0_become 43 = .ok (.getfield 23, 3) := by decide +kernel
theorem dX0_become_46 : decode cX0_become 46 = .ok (.invokevirtual 65, 3) := by decide +kernel
theorem dX0_become_49 : decode cX0_become 49 = .ok (.aload_n 0, 1) := by decide +kernel
theorem dX0_become_50 : decode cX0_become 50 = .ok (.getfield 26, 3) := by decide +kernel
theorem dX0_become_53 : decode cX0_become 53 = .ok (.aload_n 1, 1) := by decide +kernel
theorem dX0_become_54 : decode cX0_become 54 = .ok (.getfield 26, 3) := by decide +kernel
theorem dX0_become_57 : decode cX0_become 57 = .ok (.invokevirtual 65, 3) := by decide +kernel
theorem dX0_become_60 : decode cX0_become 60 = .ok (.aload_n 0, 1) := by decide +kernel
theorem dX0_become_61 : decode cX0_become 61 = .ok (.getfield 29, 3) := by decide +kernel
theorem dX0_become_64 : decode cX0_become 64 = .ok (.aload_n 1, 1) := by decide +kernel
theorem dX0_become_65 : decode cX0_become 65 = .ok (.getfield 29, 3) := by decide +kernel
theorem dX0_become_68 : decode cX0_become 68 = .ok (.invokevirtual 65, 3) := by decide +kernel
theorem dX0_become_71 : decode cX0_become 71 = .ok (.aload_n 0, 1) := by decide +kernel
theorem dX0_become_72 : decode cX0_become 72 = .ok (.aload_n 1, 1) := by decide +kernel
theorem dX0_become_73 : decode cX0_become 73 = .ok (.getfield 59, 3) := by decide +kernel
theorem dX0_become_76 : decode cX0_become 76 = .ok (.putfield 59, 3) := by decide +kernel
theorem dX0_become_79 : decode cX0_become 79 = .ok (.aload_n 0, 1) := by decide +kernel
theorem dX0_become_80 : decode cX0_become 80 = .ok (.aload_n 1, 1) := by decide +kernel
theorem dX0_become_81 : decode cX0_become 81 = .ok (.getfield 62, 3) := by decide +kernel
theorem dX0_become_84 : decode cX0_become 84 = .ok (.putfield 62, 3) := by decide +kernel
theorem dX0_become_87 : decode cX0_become 87 = .ok (.return_, 1) := by decide +kernel
theorem dX0_cells_0 : decode cX0_cells 0 = .ok (.aload_n 0, 1) := by decide +kernel
theorem dX0_cells_1 : decode cX0_cells 1 = .ok (.getfield 42, 3) := by decide +kernel
theorem dX0_cells_4 : decode cX0_cells 4 = .ok (.aload_n 0, 1) := by decide +kernel
theorem dX0_cells_5 : decode cX0_cells 5 = .ok (.getfield 46, 3) := by decide +kernel
theorem dX0_cells_8 : decode cX0_cells 8 = .ok (.imul, 1) := by decide +kernel
theorem dX0_cells_9 : decode cX0_cells 9 = .ok (.ireturn, 1) := by decide +kernel
theorem dX0_holds_0 : decode cX0_holds 0 = .ok (.iload_n 1, 1) := by decide +kernel
theorem dX0_holds_1 : decode cX0_holds 1 = .ok (.ifCond .lt 15, 3) := by decide +kernel
theorem dX0_holds_4 : decode cX0_holds 4 = .ok (.iload_n 1, 1) := by decide +kernel
theorem dX0_holds_5 : decode cX0_holds 5 = .ok (.aload_n 0, 1) := by decide +kernel
theorem dX0_holds_6 : decode cX0_holds 6 = .ok (.invokevirtual 49, 3) := by decide +kernel
theorem dX0_holds_9 : decode cX0_holds 9 = .ok (.if_icmp .ge 7, 3) := by decide +kernel
theorem dX0_holds_12 : decode cX0_holds 12 = .ok (.iconst 1, 1) := by decide +kernel
theorem dX0_holds_13 : decode cX0_holds 13 = .ok (.goto 4, 3) := by decide +kernel
theorem dX0_holds_16 : decode cX0_holds 16 = .ok (.iconst 0, 1) := by decide +kernel
theorem dX0_holds_17 : decode cX0_holds 17 = .ok (.ireturn, 1) := by decide +kernel
theorem dX0_column_0 : decode cX0_column 0 = .ok (.aload_n 0, 1) := by decide +kernel
theorem dX0_column_1 : decode cX0_column 1 = .ok (.getfield 42, 3) := by decide +kernel
theorem dX0_column_4 : decode cX0_column 4 = .ok (.ifCond .le 12, 3) := by decide +kernel
theorem dX0_column_7 : decode cX0_column 7 = .ok (.iload_n 1, 1) := by decide +kernel
theorem dX0_column_8 : decode cX0_column 8 = .ok (.aload_n 0, 1) := by decide +kernel
theorem dX0_column_9 : decode cX0_column 9 = .ok (.getfield 42, 3) := by decide +kernel
theorem dX0_column_12 : decode cX0_column 12 = .ok (.irem, 1) := by decide +kernel
theorem dX0_column_13 : decode cX0_column 13 = .ok (.goto 4, 3) := by decide +kernel
theorem dX0_column_16 : decode cX0_column 16 = .ok (.iconst 0, 1) := by decide +kernel
theorem dX0_column_17 : decode cX0_column 17 = .ok (.ireturn, 1) := by decide +kernel
theorem dX0_line_0 : decode cX0_line 0 = .ok (.aload_n 0, 1) := by decide +kernel
theorem dX0_line_1 : decode cX0_line 1 = .ok (.getfield 42, 3) := by decide +kernel
theorem dX0_line_4 : decode cX0_line 4 = .ok (.ifCond .le 12, 3) := by decide +kernel
theorem dX0_line_7 : decode cX0_line 7 = .ok (.iload_n 1, 1) := by decide +kernel
theorem dX0_line_8 : decode cX0_line 8 = .ok (.aload_n 0, 1) := by decide +kernel
theorem dX0_line_9 : decode cX0_line 9 = .ok (.getfield 42, 3) := by decide +kernel
theorem dX0_line_12 : decode cX0_line 12 = .ok (.idiv, 1) := by decide +kernel
theorem dX0_line_13 : decode cX0_line 13 = .ok (.goto 4, 3) := by decide +kernel
theorem dX0_line_16 : decode cX0_line 16 = .ok (.iconst 0, 1) := by decide +kernel
theorem dX0_line_17 : decode cX0_line 17 = .ok (.ireturn, 1) := by decide +kernel
theorem dX0_kilosOf_0 : decode cX0_kilosOf 0 = .ok (.iload_n 1, 1) := by decide +kernel
theorem dX0_kilosOf_1 : decode cX0_kilosOf 1 = .ok (.iconst 1, 1) := by decide +kernel
theorem dX0_kilosOf_2 : decode cX0_kilosOf 2 = .ok (.if_icmp .ne 10, 3) := by decide +kernel
theorem dX0_kilosOf_5 : decode cX0_kilosOf 5 = .ok (.aload_n 0, 1) := by decide +kernel
theorem dX0_kilosOf_6 : decode cX0_kilosOf 6 = .ok (.getfield 23, 3) := by decide +kernel
theorem dX0_kilosOf_9 : decode cX0_kilosOf 9 = .ok (.goto 7, 3) := by decide +kernel
theorem dX0_kilosOf_12 : decode cX0_kilosOf 12 = .ok (.aload_n 0, 1) := by decide +kernel
theorem dX0_kilosOf_13 : decode cX0_kilosOf 13 = .ok (.getfield 20, 3) := by decide +kernel
theorem dX0_kilosOf_16 : decode cX0_kilosOf 16 = .ok (.areturn, 1) := by decide +kernel
theorem dX0_isA_0 : decode cX0_isA 0 = .ok (.getstatic 69, 3) := by decide +kernel
theorem dX0_isA_3 : decode cX0_isA 3 = .ok (.aload_n 0, 1) := by decide +kernel
theorem dX0_isA_4 : decode cX0_isA 4 = .ok (.getfield 14, 3) := by decide +kernel
theorem dX0_isA_7 : decode cX0_isA 7 = .ok (.iload_n 1, 1) := by decide +kernel
theorem dX0_isA_8 : decode cX0_isA 8 = .ok (.invokevirtual 73, 3) := by decide +kernel
theorem dX0_isA_11 : decode cX0_isA 11 = .ok (.iload_n 2, 1) := by decide +kernel
theorem dX0_isA_12 : decode cX0_isA 12 = .ok (.invokestatic 77, 3) := by decide +kernel
theorem dX0_isA_15 : decode cX0_isA 15 = .ok (.ireturn, 1) := by decide +kernel
theorem dX0_isOpen_0 : decode cX0_isOpen 0 = .ok (.aload_n 0, 1) := by decide +kernel
theorem dX0_isOpen_1 : decode cX0_isOpen 1 = .ok (.getfield 14, 3) := by decide +kernel
theorem dX0_isOpen_4 : decode cX0_isOpen 4 = .ok (.iload_n 1, 1) := by decide +kernel
theorem dX0_isOpen_5 : decode cX0_isOpen 5 = .ok (.invokevirtual 73, 3) := by decide +kernel
theorem dX0_isOpen_8 : decode cX0_isOpen 8 = .ok (.iconst 1, 1) := by decide +kernel
theorem dX0_isOpen_9 : decode cX0_isOpen 9 = .ok (.if_icmp .eq 7, 3) := by decide +kernel
theorem dX0_isOpen_12 : decode cX0_isOpen 12 = .ok (.iconst 1, 1) := by decide +kernel
theorem dX0_isOpen_13 : decode cX0_isOpen 13 = .ok (.goto 4, 3) := by decide +kernel
theorem dX0_isOpen_16 : decode cX0_isOpen 16 = .ok (.iconst 0, 1) := by decide +kernel
theorem dX0_isOpen_17 : decode cX0_isOpen 17 = .ok (.ireturn, 1) := by decide +kernel
theorem dX0_beside_0 : decode cX0_beside 0 = .ok (.iload_n 2, 1) := by decide +kernel
theorem dX0_beside_1 : decode cX0_beside 1 = .ok (.tableswitch 90 0 2 #[27, 49, 65], 27) := by decide +kernel
theorem dX0_beside_28 : decode cX0_beside 28 = .ok (.aload_n 0, 1) := by decide +kernel
theorem dX0_beside_29 : decode cX0_beside 29 = .ok (.iload_n 1, 1) := by decide +kernel
theorem dX0_beside_30 : decode cX0_beside 30 = .ok (.invokevirtual 81, 3) := by decide +kernel
theorem dX0_beside_33 : decode cX0_beside 33 = .ok (.iconst 1, 1) := by decide +kernel
theorem dX0_beside_34 : decode cX0_beside 34 = .ok (.iadd, 1) := by decide +kernel
theorem dX0_beside_35 : decode cX0_beside 35 = .ok (.aload_n 0, 1) := by decide +kernel
theorem dX0_beside_36 : decode cX0_beside 36 = .ok (.getfield 42, 3) := by decide +kernel
theorem dX0_beside_39 : decode cX0_beside 39 = .ok (.if_icmp .ge 9, 3) := by decide +kernel
theorem dX0_beside_42 : decode cX0_beside 42 = .ok (.iload_n 1, 1) := by decide +kernel
theorem dX0_beside_43 : decode cX0_beside 43 = .ok (.iconst 1, 1) := by decide +kernel
theorem dX0_beside_44 : decode cX0_beside 44 = .ok (.iadd, 1) := by decide +kernel
theorem dX0_beside_45 : decode cX0_beside 45 = .ok (.goto 4, 3) := by decide +kernel
theorem dX0_beside_48 : decode cX0_beside 48 = .ok (.iconst (-1), 1) := by decide +kernel
theorem dX0_beside_49 : decode cX0_beside 49 = .ok (.ireturn, 1) := by decide +kernel
theorem dX0_beside_50 : decode cX0_beside 50 = .ok (.aload_n 0, 1) := by decide +kernel
theorem dX0_beside_51 : decode cX0_beside 51 = .ok (.iload_n 1, 1) := by decide +kernel
theorem dX0_beside_52 : decode cX0_beside 52 = .ok (.invokevirtual 81, 3) := by decide +kernel
theorem dX0_beside_55 : decode cX0_beside 55 = .ok (.ifCond .le 9, 3) := by decide +kernel
theorem dX0_beside_58 : decode cX0_beside 58 = .ok (.iload_n 1, 1) := by decide +kernel
theorem dX0_beside_59 : decode cX0_beside 59 = .ok (.iconst 1, 1) := by decide +kernel
theorem dX0_beside_60 : decode cX0_beside 60 = .ok (.isub, 1) := by decide +kernel
theorem dX0_beside_61 : decode cX0_beside 61 = .ok (.goto 4, 3) := by decide +kernel
theorem dX0_beside_64 : decode cX0_beside 64 = .ok (.iconst (-1), 1) := by decide +kernel
theorem dX0_beside_65 : decode cX0_beside 65 = .ok (.ireturn, 1) := by decide +kernel
theorem dX0_beside_66 : decode cX0_beside 66 = .ok (.aload_n 0, 1) := by decide +kernel
theorem dX0_beside_67 : decode cX0_beside 67 = .ok (.iload_n 1, 1) := by decide +kernel
theorem dX0_beside_68 : decode cX0_beside 68 = .ok (.invokevirtual 84, 3) := by decide +kernel
theorem dX0_beside_71 : decode cX0_beside 71 = .ok (.iconst 1, 1) := by decide +kernel
theorem dX0_beside_72 : decode cX0_beside 72 = .ok (.iadd, 1) := by decide +kernel
theorem dX0_beside_73 : decode cX0_beside 73 = .ok (.aload_n 0, 1) := by decide +kernel
theorem dX0_beside_74 : decode cX0_beside 74 = .ok (.getfield 46, 3) := by decide +kernel
theorem dX0_beside_77 : decode cX0_beside 77 = .ok (.if_icmp .ge 12, 3) := by decide +kernel
theorem dX0_beside_80 : decode cX0_beside 80 = .ok (.iload_n 1, 1) := by decide +kernel
theorem dX0_beside_81 : decode cX0_beside 81 = .ok (.aload_n 0, 1) := by decide +kernel
theorem dX0_beside_82 : decode cX0_beside 82 = .ok (.getfield 42, 3) := by decide +kernel
theorem dX0_beside_85 : decode cX0_beside 85 = .ok (.iadd, 1) := by decide +kernel
theorem dX0_beside_86 : decode cX0_beside 86 = .ok (.goto 4, 3) := by decide +kernel
theorem dX0_beside_89 : decode cX0_beside 89 = .ok (.iconst (-1), 1) := by decide +kernel
theorem dX0_beside_90 : decode cX0_beside 90 = .ok (.ireturn, 1) := by decide +kernel
theorem dX0_beside_91 : decode cX0_beside 91 = .ok (.aload_n 0, 1) := by decide +kernel
theorem dX0_beside_92 : decode cX0_beside 92 = .ok (.iload_n 1, 1) := by decide +kernel
theorem dX0_beside_93 : decode cX0_beside 93 = .ok (.invokevirtual 84, 3) := by decide +kernel
theorem dX0_beside_96 : decode cX0_beside 96 = .ok (.ifCond .le 12, 3) := by decide +kernel
theorem dX0_beside_99 : decode cX0_beside 99 = .ok (.iload_n 1, 1) := by decide +kernel
theorem dX0_beside_100 : decode cX0_beside 100 = .ok (.aload_n 0, 1) := by decide +kernel
theorem dX0_beside_101 : decode cX0_beside 101 = .ok (.getfield 42, 3) := by decide +kernel
theorem dX0_beside_104 : decode cX0_beside 104 = .ok (.isub, 1) := by decide +kernel
theorem dX0_beside_105 : decode cX0_beside 105 = .ok (.goto 4, 3) := by decide +kernel
theorem dX0_beside_108 : decode cX0_beside 108 = .ok (.iconst (-1), 1) := by decide +kernel
theorem dX0_beside_109 : decode cX0_beside 109 = .ok (.ireturn, 1) := by decide +kernel
theorem dX0_apart_0 : decode cX0_apart 0 = .ok (.aload_n 0, 1) := by decide +kernel
theorem dX0_apart_1 : decode cX0_apart 1 = .ok (.iload_n 1, 1) := by decide +kernel
theorem dX0_apart_2 : decode cX0_apart 2 = .ok (.invokevirtual 81, 3) := by decide +kernel
theorem dX0_apart_5 : decode cX0_apart 5 = .ok (.aload_n 0, 1) := by decide +kernel
theorem dX0_apart_6 : decode cX0_apart 6 = .ok (.iload_n 2, 1) := by decide +kernel
theorem dX0_apart_7 : decode cX0_apart 7 = .ok (.invokevirtual 81, 3) := by decide +kernel
theorem dX0_apart_10 : decode cX0_apart 10 = .ok (.isub, 1) := by decide +kernel
theorem dX0_apart_11 : decode cX0_apart 11 = .ok (.invokestatic 87, 3) := by decide +kernel
theorem dX0_apart_14 : decode cX0_apart 14 = .ok (.aload_n 0, 1) := by decide +kernel
theorem dX0_apart_15 : decode cX0_apart 15 = .ok (.iload_n 1, 1) := by decide +kernel
theorem dX0_apart_16 : decode cX0_apart 16 = .ok (.invokevirtual 84, 3) := by decide +kernel
theorem dX0_apart_19 : decode cX0_apart 19 = .ok (.aload_n 0, 1) := by decide +kernel
theorem dX0_apart_20 : decode cX0_apart 20 = .ok (.iload_n 2, 1) := by decide +kernel
theorem dX0_apart_21 : decode cX0_apart 21 = .ok (.invokevirtual 84, 3) := by decide +kernel
theorem dX0_apart_24 : decode cX0_apart 24 = .ok (.isub, 1) := by decide +kernel
theorem dX0_apart_25 : decode cX0_apart 25 = .ok (.invokestatic 87, 3) := by decide +kernel
theorem dX0_apart_28 : decode cX0_apart 28 = .ok (.iadd, 1) := by decide +kernel
theorem dX0_apart_29 : decode cX0_apart 29 = .ok (.ireturn, 1) := by decide +kernel
theorem dX0_measure_0 : decode cX0_measure 0 = .ok (.aload_n 0, 1) := by decide +kernel
theorem dX0_measure_1 : decode cX0_measure 1 = .ok (.getfield 32, 3) := by decide +kernel
theorem dX0_measure_4 : decode cX0_measure 4 = .ok (.aload_n 0, 1) := by decide +kernel
theorem dX0_measure_5 : decode cX0_measure 5 = .ok (.invokevirtual 49, 3) := by decide +kernel
theorem dX0_measure_8 : decode cX0_measure 8 = .ok (.iconst (-1), 1) := by decide +kernel
theorem dX0_measure_9 : decode cX0_measure 9 = .ok (.invokevirtual 53, 3) := by decide +kernel
theorem dX0_measure_12 : decode cX0_measure 12 = .ok (.aload_n 0, 1) := by decide +kernel
theorem dX0_measure_13 : decode cX0_measure 13 = .ok (.getfield 35, 3) := by decide +kernel
theorem dX0_measure_16 : decode cX0_measure 16 = .ok (.iconst 0, 1) := by decide +kernel
theorem dX0_measure_17 : decode cX0_measure 17 = .ok (.invokevirtual 92, 3) := by decide +kernel
theorem dX0_measure_20 : decode cX0_measure 20 = .ok (.aload_n 0, 1) := by decide +kernel
theorem dX0_measure_21 : decode cX0_measure 21 = .ok (.iload_n 1, 1) := by decide +kernel
theorem dX0_measure_22 : decode cX0_measure 22 = .ok (.invokevirtual 95, 3) := by decide +kernel
theorem dX0_measure_25 : decode cX0_measure 25 = .ok (.ifCond .eq 21, 3) := by decide +kernel
theorem dX0_measure_28 : decode cX0_measure 28 = .ok (.aload_n 0, 1) := by decide +kernel
theorem dX0_measure_29 : decode cX0_measure 29 = .ok (.getfield 32, 3) := by decide +kernel
theorem dX0_measure_32 : decode cX0_measure 32 = .ok (.iload_n 1, 1) := by decide +kernel
theorem dX0_measure_33 : decode cX0_measure 33 = .ok (.iconst 0, 1) := by decide +kernel
theorem dX0_measure_34 : decode cX0_measure 34 = .ok (.invokevirtual 56, 3) := by decide +kernel
theorem dX0_measure_37 : decode cX0_measure 37 = .ok (.aload_n 0, 1) := by decide +kernel
theorem dX0_measure_38 : decode cX0_measure 38 = .ok (.getfield 35, 3) := by decide +kernel
theorem dX0_measure_41 : decode cX0_measure 41 = .ok (.iload_n 1, 1) := by decide +kernel
theorem dX0_measure_42 : decode cX0_measure 42 = .ok (.invokevirtual 99, 3) := by decide +kernel
theorem dX0_measure_45 : decode cX0_measure 45 = .ok (.pop, 1) := by decide +kernel
theorem dX0_measure_46 : decode cX0_measure 46 = .ok (.iconst 0, 1) := by decide +kernel
theorem dX0_measure_47 : decode cX0_measure 47 = .ok (.istore_n 2, 1) := by decide +kernel
theorem dX0_measure_48 : decode cX0_measure 48 = .ok (.iload_n 2, 1) := by decide +kernel
theorem dX0_measure_49 : decode cX0_measure 49 = .ok (.bipush 80, 2) := by decide +kernel
theorem dX0_measure_51 : decode cX0_measure 51 = .ok (.if_icmp .ge 108, 3) := by decide +kernel
theorem dX0_measure_54 : decode cX0_measure 54 = .ok (.iload_n 2, 1) := by decide +kernel
theorem dX0_measure_55 : decode cX0_measure 55 = .ok (.aload_n 0, 1) := by decide +kernel
theorem dX0_measure_56 : decode cX0_measure 56 = .ok (.getfield 35, 3) := by decide +kernel
theorem dX0_measure_59 : decode cX0_measure 59 = .ok (.invokevirtual 102, 3) := by decide +kernel
theorem dX0_measure_62 : decode cX0_measure 62 = .ok (.if_icmp .ge 97, 3) := by decide +kernel
theorem dX0_measure_65 : decode cX0_measure 65 = .ok (.aload_n 0, 1) := by decide +kernel
theorem dX0_measure_66 : decode cX0_measure 66 = .ok (.getfield 35, 3) := by decide +kernel
theorem dX0_measure_69 : decode cX0_measure 69 = .ok (.iload_n 2, 1) := by decide +kernel
theorem dX0_measure_70 : decode cX0_measure 70 = .ok (.invokevirtual 73, 3) := by decide +kernel
theorem dX0_measure_73 : decode cX0_measure 73 = .ok (.istore_n 3, 1) := by decide +kernel
theorem dX0_measure_74 : decode cX0_measure 74 = .ok (.iconst 0, 1) := by decide +kernel
theorem dX0_measure_75 : decode cX0_measure 75 = .ok (.istore 4, 2) := by decide +kernel
theorem dX0_measure_77 : decode cX0_measure 77 = .ok (.iload 4, 2) := by decide +kernel
theorem dX0_measure_79 : decode cX0_measure 79 = .ok (.iconst 4, 1) := by decide +kernel
theorem dX0_measure_80 : decode cX0_measure 80 = .ok (.if_icmp .ge 73, 3) := by decide +kernel
theorem dX0_measure_83 : decode cX0_measure 83 = .ok (.aload_n 0, 1) := by decide +kernel
theorem dX0_measure_84 : decode cX0_measure 84 = .ok (.iload_n 3, 1) := by decide +kernel
theorem dX0_measure_85 : decode cX0_measure 85 = .ok (.iload 4, 2) := by decide +kernel
theorem dX0_measure_87 : decode cX0_measure 87 = .ok (.invokevirtual 105, 3) := by decide +kernel
theorem dX0_measure_90 : decode cX0_measure 90 = .ok (.istore 5, 2) := by decide +kernel
theorem dX0_measure_92 : decode cX0_measure 92 = .ok (.iload 5, 2) := by decide +kernel
theorem dX0_measure_94 : decode cX0_measure 94 = .ok (.ifCond .lt 53, 3) := by decide +kernel
theorem dX0_measure_97 : decode cX0_measure 97 = .ok (.aload_n 0, 1) := by decide +kernel
theorem dX0_measure_98 : decode cX0_measure 98 = .ok (.iload 5, 2) := by decide +kernel
theorem dX0_measure_100 : decode cX0_measure 100 = .ok (.invokevirtual 95, 3) := by decide +kernel
theorem dX0_measure_103 : decode cX0_measure 103 = .ok (.ifCond .eq 44, 3) := by decide +kernel
theorem dX0_measure_106 : decode cX0_measure 106 = .ok (.aload_n 0, 1) := by decide +kernel
theorem dX0_measure_107 : decode cX0_measure 107 = .ok (.getfield 32, 3) := by decide +kernel
theorem dX0_measure_110 : decode cX0_measure 110 = .ok (.iload 5, 2) := by decide +kernel
theorem dX0_measure_112 : decode cX0_measure 112 = .ok (.invokevirtual 73, 3) := by decide +kernel
theorem dX0_measure_115 : decode cX0_measure 115 = .ok (.ifCond .ge 32, 3) := by decide +kernel
theorem dX0_measure_118 : decode cX0_measure 118 = .ok (.aload_n 0, 1) := by decide +kernel
theorem dX0_measure_119 : decode cX0_measure 119 = .ok (.getfield 32, 3) := by decide +kernel
theorem dX0_measure_122 : decode cX0_measure 122 = .ok (.iload 5, 2) := by decide +kernel
theorem dX0_measure_124 : decode cX0_measure 124 = .ok (.aload_n 0, 1) := by decide +kernel
theorem dX0_measure_125 : decode cX0_measure 125 = .ok (.getfield 32, 3) := by decide +kernel
theorem dX0_measure_128 : decode cX0_measure 128 = .ok (.iload_n 3, 1) := by decide +kernel
theorem dX0_measure_129 : decode cX0_measure 129 = .ok (.invokevirtual 73, 3) := by decide +kernel
theorem dX0_measure_132 : decode cX0_measure 132 = .ok (.iconst 1, 1) := by decide +kernel
theorem dX0_measure_133 : decode cX0_measure 133 = .ok (.iadd, 1) := by decide +kernel
theorem dX0_measure_134 : decode cX0_measure 134 = .ok (.invokevirtual 56, 3) := by decide +kernel
theorem dX0_measure_137 : decode cX0_measure 137 = .ok (.aload_n 0, 1) := by decide +kernel
theorem dX0_measure_138 : decode cX0_measure 138 = .ok (.getfield 35, 3) := by decide +kernel
theorem dX0_measure_141 : decode cX0_measure 141 = .ok (.iload 5, 2) := by decide +kernel
theorem dX0_measure_143 : decode cX0_measure 143 = .ok (.invokevirtual 99, 3) := by decide +kernel
theorem dX0_measure_146 : decode cX0_measure 146 = .ok (.pop, 1) := by decide +kernel
theorem dX0_measure_147 : decode cX0_measure 147 = .ok (.iinc 4 1, 3) := by decide +kernel
theorem dX0_measure_150 : decode cX0_measure 150 = .ok (.goto (-73), 3) := by decide +kernel
theorem dX0_measure_153 : decode cX0_measure 153 = .ok (.iinc 2 1, 3) := by decide +kernel
theorem dX0_measure_156 : decode cX0_measure 156 = .ok (.goto (-108), 3) := by decide +kernel
theorem dX0_measure_159 : decode cX0_measure 159 = .ok (.return_, 1) := by decide +kernel
theorem dX0_stepTowards_0 : decode cX0_stepTowards 0 = .ok (.aload_n 0, 1) := by decide +kernel
theorem dX0_stepTowards_1 : decode cX0_stepTowards 1 = .ok (.iload_n 2, 1) := by decide +kernel
theorem dX0_stepTowards_2 : decode cX0_stepTowards 2 = .ok (.invokevirtual 109, 3) := by decide +kernel
theorem dX0_stepTowards_5 : decode cX0_stepTowards 5 = .ok (.iconst (-1), 1) := by decide +kernel
theorem dX0_stepTowards_6 : decode cX0_stepTowards 6 = .ok (.istore_n 3, 1) := by decide +kernel
theorem dX0_stepTowards_7 : decode cX0_stepTowards 7 = .ok (.iconst 0, 1) := by decide +kernel
theorem dX0_stepTowards_8 : decode cX0_stepTowards 8 = .ok (.istore 4, 2) := by decide +kernel
theorem dX0_stepTowards_10 : decode cX0_stepTowards 10 = .ok (.iload 4, 2) := by decide +kernel
theorem dX0_stepTowards_12 : decode cX0_stepTowards 12 = .ok (.iconst 4, 1) := by decide +kernel
theorem dX0_stepTowards_13 : decode cX0_stepTowards 13 = .ok (.if_icmp .ge 62, 3) := by decide +kernel
theorem dX0_stepTowards_16 : decode cX0_stepTowards 16 = .ok (.aload_n 0, 1) := by decide +kernel
theorem dX0_stepTowards_17 : decode cX0_stepTowards 17 = .ok (.iload_n 1, 1) := by decide +kernel
theorem dX0_stepTowards_18 : decode cX0_stepTowards 18 = .ok (.iload 4, 2) := by decide +kernel
theorem dX0_stepTowards_20 : decode cX0_stepTowards 20 = .ok (.invokevirtual 105, 3) := by decide +kernel
theorem dX0_stepTowards_23 : decode cX0_stepTowards 23 = .ok (.istore 5, 2) := by decide +kernel
theorem dX0_stepTowards_25 : decode cX0_stepTowards 25 = .ok (.iload 5, 2) := by decide +kernel
theorem dX0_stepTowards_27 : decode cX0_stepTowards 27 = .ok (.ifCond .lt 42, 3) := by decide +kernel
theorem dX0_stepTowards_30 : decode cX0_stepTowards 30 = .ok (.aload_n 0, 1) := by decide +kernel
theorem dX0_stepTowards_31 : decode cX0_stepTowards 31 = .ok (.getfield 32, 3) := by decide +kernel
theorem dX0_stepTowards_34 : decode cX0_stepTowards 34 = .ok (.iload 5, 2) := by decide +kernel
theorem dX0_stepTowards_36 : decode cX0_stepTowards 36 = .ok (.invokevirtual 73, 3) := by decide +kernel
theorem dX0_stepTowards_39 : decode cX0_stepTowards 39 = .ok (.ifCond .lt 30, 3) := by decide +kernel
theorem dX0_stepTowards_42 : decode cX0_stepTowards 42 = .ok (.iload_n 3, 1) := by decide +kernel
theorem dX0_stepTowards_43 : decode cX0_stepTowards 43 = .ok (.ifCond .lt 23, 3) := by decide +kernel
theorem dX0_stepTowards_46 : decode cX0_stepTowards 46 = .ok (.aload_n 0, 1) := by decide +kernel
theorem dX0_stepTowards_47 : decode cX0_stepTowards 47 = .ok (.getfield 32, 3) := by decide +kernel
theorem dX0_stepTowards_50 : decode cX0_stepTowards 50 = .ok (.iload 5, 2) := by decide +kernel
theorem dX0_stepTowards_52 : decode cX0_stepTowards 52 = .ok (.invokevirtual 73, 3) := by decide +kernel
theorem dX0_stepTowards_55 : decode cX0_stepTowards 55 = .ok (.aload_n 0, 1) := by decide +kernel
theorem dX0_stepTowards_56 : decode cX0_stepTowards 56 = .ok (.getfield 32, 3) := by decide +kernel
theorem dX0_stepTowards_59 : decode cX0_stepTowards 59 = .ok (.iload_n 3, 1) := by decide +kernel
theorem dX0_stepTowards_60 : decode cX0_stepTowards 60 = .ok (.invokevirtual 73, 3) := by decide +kernel
theorem dX0_stepTowards_63 : decode cX0_stepTowards 63 = .ok (.if_icmp .ge 6, 3) := by decide +kernel
theorem dX0_stepTowards_66 : decode cX0_stepTowards 66 = .ok (.iload 5, 2) := by decide +kernel
theorem dX0_stepTowards_68 : decode cX0_stepTowards 68 = .ok (.istore_n 3, 1) := by decide +kernel
theorem dX0_stepTowards_69 : decode cX0_stepTowards 69 = .ok (.iinc 4 1, 3) := by decide +kernel
theorem dX0_stepTowards_72 : decode cX0_stepTowards 72 = .ok (.goto (-62), 3) := by decide +kernel
theorem dX0_stepTowards_75 : decode cX0_stepTowards 75 = .ok (.iload_n 3, 1) := by decide +kernel
theorem dX0_stepTowards_76 : decode cX0_stepTowards 76 = .ok (.ireturn, 1) := by decide +kernel
theorem dX0_blast_0 : decode cX0_blast 0 = .ok (.iconst 0, 1) := by decide +kernel
theorem dX0_blast_1 : decode cX0_blast 1 = .ok (.istore_n 2, 1) := by decide +kernel
theorem dX0_blast_2 : decode cX0_blast 2 = .ok (.iload_n 2, 1) := by decide +kernel
theorem dX0_blast_3 : decode cX0_blast 3 = .ok (.aload_n 0, 1) := by decide +kernel
theorem dX0_blast_4 : decode cX0_blast 4 = .ok (.invokevirtual 49, 3) := by decide +kernel
theorem dX0_blast_7 : decode cX0_blast 7 = .ok (.if_icmp .ge 69, 3) := by decide +kernel
theorem dX0_blast_10 : decode cX0_blast 10 = .ok (.aload_n 0, 1) := by decide +kernel
theorem dX0_blast_11 : decode cX0_blast 11 = .ok (.getfield 14, 3) := by decide +kernel
theorem dX0_blast_14 : decode cX0_blast 14 = .ok (.iload_n 2, 1) := by decide +kernel
theorem dX0_blast_15 : decode cX0_blast 15 = .ok (.invokevirtual 73, 3) := by decide +kernel
theorem dX0_blast_18 : decode cX0_blast 18 = .ok (.ifCond .ne 52, 3) := by decide +kernel
theorem dX0_blast_21 : decode cX0_blast 21 = .ok (.aload_n 0, 1) := by decide +kernel
theorem dX0_blast_22 : decode cX0_blast 22 = .ok (.iload_n 2, 1) := by decide +kernel
theorem dX0_blast_23 : decode cX0_blast 23 = .ok (.iload_n 1, 1) := by decide +kernel
theorem dX0_blast_24 : decode cX0_blast 24 = .ok (.invokevirtual 112, 3) := by decide +kernel
theorem dX0_blast_27 : decode cX0_blast 27 = .ok (.iconst 1, 1) := by decide +kernel
theorem dX0_blast_28 : decode cX0_blast 28 = .ok (.if_icmp .gt 42, 3) := by decide +kernel
theorem dX0_blast_31 : decode cX0_blast 31 = .ok (.aload_n 0, 1) := by decide +kernel
theorem dX0_blast_32 : decode cX0_blast 32 = .ok (.getfield 20, 3) := by decide +kernel
theorem dX0_blast_35 : decode cX0_blast 35 = .ok (.iload_n 2, 1) := by decide +kernel
theorem dX0_blast_36 : decode cX0_blast 36 = .ok (.invokevirtual 73, 3) := by decide +kernel
theorem dX0_blast_39 : decode cX0_blast 39 = .ok (.iconst 2, 1) := by decide +kernel
theorem dX0_blast_40 : decode cX0_blast 40 = .ok (.idiv, 1) := by decide +kernel
theorem dX0_blast_41 : decode cX0_blast 41 = .ok (.istore_n 3, 1) := by decide +kernel
theorem dX0_blast_42 : decode cX0_blast 42 = .ok (.aload_n 0, 1) := by decide +kernel
theorem dX0_blast_43 : decode cX0_blast 43 = .ok (.getfield 20, 3) := by decide +kernel
theorem dX0_blast_46 : decode cX0_blast 46 = .ok (.iload_n 2, 1) := by decide +kernel
theorem dX0_blast_47 : decode cX0_blast 47 = .ok (.aload_n 0, 1) := by decide +kernel
theorem dX0_blast_48 : decode cX0_blast 48 = .ok (.getfield 20, 3) := by decide +kernel
theorem dX0_blast_51 : decode cX0_blast 51 = .ok (.iload_n 2, 1) := by decide +kernel
theorem dX0_blast_52 : decode cX0_blast 52 = .ok (.invokevirtual 73, 3) := by decide +kernel
theorem dX0_blast_55 : decode cX0_blast 55 = .ok (.iload_n 3, 1) := by decide +kernel
theorem dX0_blast_56 : decode cX0_blast 56 = .ok (.isub, 1) := by decide +kernel
theorem dX0_blast_57 : decode cX0_blast 57 = .ok (.invokevirtual 56, 3) := by decide +kernel
theorem dX0_blast_60 : decode cX0_blast 60 = .ok (.aload_n 0, 1) := by decide +kernel
theorem dX0_blast_61 : decode cX0_blast 61 = .ok (.dup, 1) := by decide +kernel
theorem dX0_blast_62 : decode cX0_blast 62 = .ok (.getfield 62, 3) := by decide +kernel
theorem dX0_blast_65 : decode cX0_blast 65 = .ok (.iload_n 3, 1) := by decide +kernel
theorem dX0_blast_66 : decode cX0_blast 66 = .ok (.iadd, 1) := by decide +kernel
theorem dX0_blast_67 : decode cX0_blast 67 = .ok (.putfield 62, 3) := by decide +kernel
theorem dX0_blast_70 : decode cX0_blast 70 = .ok (.iinc 2 1, 3) := by decide +kernel
theorem dX0_blast_73 : decode cX0_blast 73 = .ok (.goto (-71), 3) := by decide +kernel
theorem dX0_blast_76 : decode cX0_blast 76 = .ok (.return_, 1) := by decide +kernel
theorem dX0_known_0 : decode cX0_known 0 = .ok (.iload_n 1, 1) := by decide +kernel
theorem dX0_known_1 : decode cX0_known 1 = .ok (.iconst 4, 1) := by decide +kernel
theorem dX0_known_2 : decode cX0_known 2 = .ok (.imul, 1) := by decide +kernel
theorem dX0_known_3 : decode cX0_known 3 = .ok (.istore_n 3, 1) := by decide +kernel
theorem dX0_known_4 : decode cX0_known 4 = .ok (.aload_n 0, 1) := by decide +kernel
theorem dX0_known_5 : decode cX0_known 5 = .ok (.getfield 26, 3) := by decide +kernel
theorem dX0_known_8 : decode cX0_known 8 = .ok (.iload_n 3, 1) := by decide +kernel
theorem dX0_known_9 : decode cX0_known 9 = .ok (.iconst 3, 1) := by decide +kernel
theorem dX0_known_10 : decode cX0_known 10 = .ok (.iadd, 1) := by decide +kernel
theorem dX0_known_11 : decode cX0_known 11 = .ok (.invokevirtual 73, 3) := by decide +kernel
theorem dX0_known_14 : decode cX0_known 14 = .ok (.ifCond .ge 8, 3) := by decide +kernel
theorem dX0_known_17 : decode cX0_known 17 = .ok (.ldc 115, 2) := by decide +kernel
theorem dX0_known_19 : decode cX0_known 19 = .ok (.goto 13, 3) := by decide +kernel
theorem dX0_known_22 : decode cX0_known 22 = .ok (.aload_n 0, 1) := by decide +kernel
theorem dX0_known_23 : decode cX0_known 23 = .ok (.getfield 26, 3) := by decide +kernel
theorem dX0_known_26 : decode cX0_known 26 = .ok (.iload_n 3, 1) := by decide +kernel
theorem dX0_known_27 : decode cX0_known 27 = .ok (.iload_n 2, 1) := by decide +kernel
theorem dX0_known_28 : decode cX0_known 28 = .ok (.iadd, 1) := by decide +kernel
theorem dX0_known_29 : decode cX0_known 29 = .ok (.invokevirtual 73, 3) := by decide +kernel
theorem dX0_known_32 : decode cX0_known 32 = .ok (.ireturn, 1) := by decide +kernel
theorem dX0_learn_0 : decode cX0_learn 0 = .ok (.iload_n 1, 1) := by decide +kernel
theorem dX0_learn_1 : decode cX0_learn 1 = .ok (.iconst 4, 1) := by decide +kernel
theorem dX0_learn_2 : decode cX0_learn 2 = .ok (.imul, 1) := by decide +kernel
theorem dX0_learn_3 : decode cX0_learn 3 = .ok (.istore 6, 2) := by decide +kernel
theorem dX0_learn_5 : decode cX0_learn 5 = .ok (.aload_n 0, 1) := by decide +kernel
theorem dX0_learn_6 : decode cX0_learn 6 = .ok (.getfield 26, 3) := by decide +kernel
theorem dX0_learn_9 : decode cX0_learn 9 = .ok (.iload 6, 2) := by decide +kernel
theorem dX0_learn_11 : decode cX0_learn 11 = .ok (.iload_n 2, 1) := by decide +kernel
theorem dX0_learn_12 : decode cX0_learn 12 = .ok (.invokevirtual 56, 3) := by decide +kernel
theorem dX0_learn_15 : decode cX0_learn 15 = .ok (.aload_n 0, 1) := by decide +kernel
theorem dX0_learn_16 : decode cX0_learn 16 = .ok (.getfield 26, 3) := by decide +kernel
theorem dX0_learn_19 : decode cX0_learn 19 = .ok (.iload 6, 2) := by decide +kernel
theorem dX0_learn_21 : decode cX0_learn 21 = .ok (.iconst 1, 1) := by decide +kernel
theorem dX0_learn_22 : decode cX0_learn 22 = .ok (.iadd, 1) := by decide +kernel
theorem dX0_learn_23 : decode cX0_learn 23 = .ok (.iload_n 3, 1) := by decide +kernel
theorem dX0_learn_24 : decode cX0_learn 24 = .ok (.invokevirtual 56, 3) := by decide +kernel
theorem dX0_learn_27 : decode cX0_learn 27 = .ok (.aload_n 0, 1) := by decide +kernel
theorem dX0_learn_28 : decode cX0_learn 28 = .ok (.getfield 26, 3) := by decide +kernel
theorem dX0_learn_31 : decode cX0_learn 31 = .ok (.iload 6, 2) := by decide +kernel
theorem dX0_learn_33 : decode cX0_learn 33 = .ok (.iconst 2, 1) := by decide +kernel
theorem dX0_learn_34 : decode cX0_learn 34 = .ok (.iadd, 1) := by decide +kernel
theorem dX0_learn_35 : decode cX0_learn 35 = .ok (.iload 4, 2) := by decide +kernel
theorem dX0_learn_37 : decode cX0_learn 37 = .ok (.invokevirtual 56, 3) := by decide +kernel
theorem dX0_learn_40 : decode cX0_learn 40 = .ok (.aload_n 0, 1) := by decide +kernel
theorem dX0_learn_41 : decode cX0_learn 41 = .ok (.getfield 26, 3) := by decide +kernel
theorem dX0_learn_44 : decode cX0_learn 44 = .ok (.iload 6, 2) := by decide +kernel
theorem dX0_learn_46 : decode cX0_learn 46 = .ok (.iconst 3, 1) := by decide +kernel
theorem dX0_learn_47 : decode cX0_learn 47 = .ok (.iadd, 1) := by decide +kernel
theorem dX0_learn_48 : decode cX0_learn 48 = .ok (.iload 5, 2) := by decide +kernel
theorem dX0_learn_50 : decode cX0_learn 50 = .ok (.invokevirtual 56, 3) := by decide +kernel
theorem dX0_learn_53 : decode cX0_learn 53 = .ok (.return_, 1) := by decide +kernel
theorem dX1_init_0 : decode cX1_init 0 = .ok (.aload_n 0, 1) := by decide +kernel
theorem dX1_init_1 : decode cX1_init 1 = .ok (.invokespecial 3, 3) := by decide +kernel
theorem dX1_init_4 : decode cX1_init 4 = .ok (.aload_n 0, 1) := by decide +kernel
theorem dX1_init_5 : decode cX1_init 5 = .ok (.new 9, 3) := by decide +kernel
theorem dX1_init_8 : decode cX1_init 8 = .ok (.dup, 1) := by decide +kernel
theorem dX1_init_9 : decode cX1_init 9 = .ok (.iconst 4, 1) := by decide +kernel
theorem dX1_init_10 : decode cX1_init 10 = .ok (.invokespecial 13, 3) := by decide +kernel
theorem dX1_init_13 : decode cX1_init 13 = .ok (.putfield 16, 3) := by decide +kernel
theorem dX1_init_16 : decode cX1_init 16 = .ok (.aload_n 0, 1) := by decide +kernel
theorem dX1_init_17 : decode cX1_init 17 = .ok (.iconst 0, 1) := by decide +kernel
theorem dX1_init_18 : decode cX1_init 18 = .ok (.iconst 0, 1) := by decide +kernel
theorem dX1_init_19 : decode cX1_init 19 = .ok (.invokevirtual 22, 3) := by decide +kernel
theorem dX1_init_22 : decode cX1_init 22 = .ok (.return_, 1) := by decide +kernel
theorem dX1_begin_0 : decode cX1_begin 0 = .ok (.aload_n 0, 1) := by decide +kernel
theorem dX1_begin_1 : decode cX1_begin 1 = .ok (.iload_n 1, 1) := by decide +kernel
theorem dX1_begin_2 : decode cX1_begin 2 = .ok (.putfield 26, 3) := by decide +kernel
theorem dX1_begin_5 : decode cX1_begin 5 = .ok (.aload_n 0, 1) := by decide +kernel
theorem dX1_begin_6 : decode cX1_begin 6 = .ok (.iload_n 2, 1) := by decide +kernel
theorem dX1_begin_7 : decode cX1_begin 7 = .ok (.putfield 30, 3) := by decide +kernel
theorem dX1_begin_10 : decode cX1_begin 10 = .ok (.aload_n 0, 1) := by decide +kernel
theorem dX1_begin_11 : decode cX1_begin 11 = .ok (.bipush 50, 2) := by decide +kernel
theorem dX1_begin_13 : decode cX1_begin 13 = .ok (.putfield 33, 3) := by decide +kernel
theorem dX1_begin_16 : decode cX1_begin 16 = .ok (.aload_n 0, 1) := by decide +kernel
theorem dX1_begin_17 : decode cX1_begin 17 = .ok (.iconst 0, 1) := by decide +kernel
theorem dX1_begin_18 : decode cX1_begin 18 = .ok (.putfield 36, 3) := by decide +kernel
theorem dX1_begin_21 : decode cX1_begin 21 = .ok (.aload_n 0, 1) := by decide +kernel
theorem dX1_begin_22 : decode cX1_begin 22 = .ok (.iconst 0, 1) := by decide +kernel
theorem dX1_begin_23 : decode cX1_begin 23 = .ok (.putfield 39, 3) := by decide +kernel
theorem dX1_begin_26 : decode cX1_begin 26 = .ok (.aload_n 0, 1) := by decide +kernel
theorem dX1_begin_27 : decode cX1_begin 27 = .ok (.iconst 0, 1) := by decide +kernel
theorem dX1_begin_28 : decode cX1_begin 28 = .ok (.putfield 42, 3) := by decide +kernel
theorem dX1_begin_31 : decode cX1_begin 31 = .ok (.aload_n 0, 1) := by decide +kernel
theorem dX1_begin_32 : decode cX1_begin 32 = .ok (.iconst (-1), 1) := by decide +kernel
theorem dX1_begin_33 : decode cX1_begin 33 = .ok (.invokevirtual 45, 3) := by decide +kernel
theorem dX1_begin_36 : decode cX1_begin 36 = .ok (.return_, 1) := by decide +kernel
theorem dX1_become_0 : decode cX1_become 0 = .ok (.aload_n 0, 1) := by decide +kernel
theorem dX1_become_1 : decode cX1_become 1 = .ok (.aload_n 1, 1) := by decide +kernel
theorem dX1_become_2 : decode cX1_become 2 = .ok (.getfield 26, 3) := by decide +kernel
theorem dX1_become_5 : decode cX1_become 5 = .ok (.putfield 26, 3) := by decide +kernel
theorem dX1_become_8 : decode cX1_become 8 = .ok (.aload_n 0, 1) := by decide +kernel
theorem dX1_become_9 : decode cX1_become 9 = .ok (.aload_n 1, 1) := by decide +kernel
theorem dX1_become_10 : decode cX1_become 10 = .ok (.getfield 30, 3) := by decide +kernel
theorem dX1_become_13 : decode cX1_become 13 = .ok (.putfield 30, 3) := by decide +kernel
theorem dX1_become_16 : decode cX1_become 16 = .ok (.aload_n 0, 1) := by decide +kernel
theorem dX1_become_17 : decode cX1_become 17 = .ok (.aload_n 1, 1) := by decide +kernel
theorem dX1_become_18 : decode cX1_become 18 = .ok (.getfield 33, 3) := by decide +kernel
theorem dX1_become_21 : decode cX1_become 21 = .ok (.putfield 33, 3) := by decide +kernel
theorem dX1_become_24 : decode cX1_become 24 = .ok (.aload_n 0, 1) := by decide +kernel
theorem dX1_become_25 : decode cX1_become 25 = .ok (.aload_n 1, 1) := by decide +kernel
theorem dX1_become_26 : decode cX1_become 26 = .ok (.getfield 36, 3) := by decide +kernel
theorem dX1_become_29 : decode cX1_become 29 = .ok (.putfield 36, 3) := by decide +kernel
theorem dX1_become_32 : decode cX1_become 32 = .ok (.aload_n 0, 1) := by decide +kernel
theorem dX1_become_33 : decode cX1_become 33 = .ok (.aload_n 1, 1) := by decide +kernel
theorem dX1_become_34 : decode cX1_become 34 = .ok (.getfield 39, 3) := by decide +kernel
theorem dX1_become_37 : decode cX1_become 37 = .ok (.putfield 39, 3) := by decide +kernel
theorem dX1_become_40 : decode cX1_become 40 = .ok (.aload_n 0, 1) := by decide +kernel
theorem dX1_become_41 : decode cX1_become 41 = .ok (.aload_n 1, 1) := by decide +kernel
theorem dX1_become_42 : decode cX1_become 42 = .ok (.getfield 42, 3) := by decide +kernel
theorem dX1_become_45 : decode cX1_become 45 = .ok (.putfield 42, 3) := by decide +kernel
theorem dX1_become_48 : decode cX1_become 48 = .ok (.aload_n 0, 1) := by decide +kernel
theorem dX1_become_49 : decode cX1_become 49 = .ok (.aload_n 1, 1) := by decide +kernel
theorem dX1_become_50 : decode cX1_become 50 = .ok (.getfield 48, 3) := by decide +kernel
theorem dX1_become_53 : decode cX1_become 53 = .ok (.putfield 48, 3) := by decide +kernel
theorem dX1_become_56 : decode cX1_become 56 = .ok (.aload_n 0, 1) := by decide +kernel
theorem dX1_become_57 : decode cX1_become 57 = .ok (.aload_n 1, 1) := by decide +kernel
theorem dX1_become_58 : decode cX1_become 58 = .ok (.getfield 51, 3) := by decide +kernel
theorem dX1_become_61 : decode cX1_become 61 = .ok (.putfield 51, 3) := by decide +kernel
theorem dX1_become_64 : decode cX1_become 64 = .ok (.aload_n 0, 1) := by decide +kernel
theorem dX1_become_65 : decode cX1_become 65 = .ok (.getfield 16, 3) := by decide +kernel
theorem dX1_become_68 : decode cX1_become 68 = .ok (.aload_n 1, 1) := by decide +kernel
theorem dX1_become_69 : decode cX1_become 69 = .ok (.getfield 16, 3) := by decide +kernel
theorem dX1_become_72 : decode cX1_become 72 = .ok (.invokevirtual 54, 3) := by decide +kernel
theorem dX1_become_75 : decode cX1_become 75 = .ok (.return_, 1) := by decide +kernel
theorem dX1_isA_0 : decode cX1_isA 0 = .ok (.getstatic 58, 3) := by decide +kernel
theorem dX1_isA_3 : decode cX1_isA 3 = .ok (.aload_n 0, 1) := by decide +kernel
theorem dX1_isA_4 : decode cX1_isA 4 = .ok (.getfield 26, 3) := by decide +kernel
theorem dX1_isA_7 : decode cX1_isA 7 = .ok (.iload_n 1, 1) := by decide +kernel
theorem dX1_isA_8 : decode cX1_isA 8 = .ok (.invokestatic 62, 3) := by decide +kernel
theorem dX1_isA_11 : decode cX1_isA 11 = .ok (.ireturn, 1) := by decide +kernel
theorem dX1_isBroken_0 : decode cX1_isBroken 0 = .ok (.aload_n 0, 1) := by decide +kernel
theorem dX1_isBroken_1 : decode cX1_isBroken 1 = .ok (.getfield 36, 3) := by decide +kernel
theorem dX1_isBroken_4 : decode cX1_isBroken 4 = .ok (.bipush 100, 2) := by decide +kernel
theorem dX1_isBroken_6 : decode cX1_isBroken 6 = .ok (.if_icmp .lt 7, 3) := by decide +kernel
theorem dX1_isBroken_9 : decode cX1_isBroken 9 = .ok (.iconst 1, 1) := by decide +kernel
theorem dX1_isBroken_10 : decode cX1_isBroken 10 = .ok (.goto 4, 3) := by decide +kernel
theorem dX1_isBroken_13 : decode cX1_isBroken 13 = .ok (.iconst 0, 1) := by decide +kernel
theorem dX1_isBroken_14 : decode cX1_isBroken 14 = .ok (.ireturn, 1) := by decide +kernel
theorem dX1_beginScript_0 : decode cX1_beginScript 0 = .ok (.aload_n 0, 1) := by decide +kernel
theorem dX1_beginScript_1 : decode cX1_beginScript 1 = .ok (.iload_n 1, 1) := by decide +kernel
theorem dX1_beginScript_2 : decode cX1_beginScript 2 = .ok (.putfield 48, 3) := by decide +kernel
theorem dX1_beginScript_5 : decode cX1_beginScript 5 = .ok (.aload_n 0, 1) := by decide +kernel
theorem dX1_beginScript_6 : decode cX1_beginScript 6 = .ok (.iconst 0, 1) := by decide +kernel
theorem dX1_beginScript_7 : decode cX1_beginScript 7 = .ok (.putfield 51, 3) := by decide +kernel
theorem dX1_beginScript_10 : decode cX1_beginScript 10 = .ok (.aload_n 0, 1) := by decide +kernel
theorem dX1_beginScript_11 : decode cX1_beginScript 11 = .ok (.getfield 16, 3) := by decide +kernel
theorem dX1_beginScript_14 : decode cX1_beginScript 14 = .ok (.iconst 4, 1) := by decide +kernel
theorem dX1_beginScript_15 : decode cX1_beginScript 15 = .ok (.iconst 0, 1) := by decide +kernel
theorem dX1_beginScript_16 : decode cX1_beginScript 16 = .ok (.invokevirtual 66, 3) := by decide +kernel
theorem dX1_beginScript_19 : decode cX1_beginScript 19 = .ok (.return_, 1) := by decide +kernel
theorem dX1_addCharge_0 : decode cX1_addCharge 0 = .ok (.aload_n 0, 1) := by decide +kernel
theorem dX1_addCharge_1 : decode cX1_addCharge 1 = .ok (.bipush 100, 2) := by decide +kernel
theorem dX1_addCharge_3 : decode cX1_addCharge 3 = .ok (.aload_n 0, 1) := by decide +kernel
theorem dX1_addCharge_4 : decode cX1_addCharge 4 = .ok (.getfield 33, 3) := by decide +kernel
theorem dX1_addCharge_7 : decode cX1_addCharge 7 = .ok (.iload_n 1, 1) := by decide +kernel
theorem dX1_addCharge_8 : decode cX1_addCharge 8 = .ok (.iadd, 1) := by decide +kernel
theorem dX1_addCharge_9 : decode cX1_addCharge 9 = .ok (.invokestatic 69, 3) := by decide +kernel
theorem dX1_addCharge_12 : decode cX1_addCharge 12 = .ok (.putfield 33, 3) := by decide +kernel
theorem dX1_addCharge_15 : decode cX1_addCharge 15 = .ok (.return_, 1) := by decide +kernel
theorem dX1_pay_0 : decode cX1_pay 0 = .ok (.aload_n 0, 1) := by decide +kernel
theorem dX1_pay_1 : decode cX1_pay 1 = .ok (.iconst 0, 1) := by decide +kernel
theorem dX1_pay_2 : decode cX1_pay 2 = .ok (.aload_n 0, 1) := by decide +kernel
theorem dX1_pay_3 : decode cX1_pay 3 = .ok (.getfield 33, 3) := by decide +kernel
theorem dX1_pay_6 : decode cX1_pay 6 = .ok (.iload_n 1, 1) := by decide +kernel
theorem dX1_pay_7 : decode cX1_pay 7 = .ok (.isub, 1) := by decide +kernel
theorem dX1_pay_8 : decode cX1_pay 8 = .ok (.invokestatic 75, 3) := by decide +kernel
theorem dX1_pay_11 : decode cX1_pay 11 = .ok (.putfield 33, 3) := by decide +kernel
theorem dX1_pay_14 : decode cX1_pay 14 = .ok (.aload_n 0, 1) := by decide +kernel
theorem dX1_pay_15 : decode cX1_pay 15 = .ok (.iload_n 2, 1) := by decide +kernel
theorem dX1_pay_16 : decode cX1_pay 16 = .ok (.invokevirtual 78, 3) := by decide +kernel
theorem dX1_pay_19 : decode cX1_pay 19 = .ok (.pop, 1) := by decide +kernel
theorem dX1_pay_20 : decode cX1_pay 20 = .ok (.return_, 1) := by decide +kernel
theorem dX1_addWear_0 : decode cX1_addWear 0 = .ok (.aload_n 0, 1) := by decide +kernel
theorem dX1_addWear_1 : decode cX1_addWear 1 = .ok (.getfield 36, 3) := by decide +kernel
theorem dX1_addWear_4 : decode cX1_addWear 4 = .ok (.istore_n 2, 1) := by decide +kernel
theorem dX1_addWear_5 : decode cX1_addWear 5 = .ok (.aload_n 0, 1) := by decide +kernel
theorem dX1_addWear_6 : decode cX1_addWear 6 = .ok (.bipush 100, 2) := by decide +kernel
theorem dX1_addWear_8 : decode cX1_addWear 8 = .ok (.aload_n 0, 1) := by decide +kernel
theorem dX1_addWear_9 : decode cX1_addWear 9 = .ok (.getfield 36, 3) := by decide +kernel
theorem dX1_addWear_12 : decode cX1_addWear 12 = .ok (.iload_n 1, 1) := by decide +kernel
theorem dX1_addWear_13 : decode cX1_addWear 13 = .ok (.iadd, 1) := by decide +kernel
theorem dX1_addWear_14 : decode cX1_addWear 14 = .ok (.invokestatic 69, 3) := by decide +kernel
theorem dX1_addWear_17 : decode cX1_addWear 17 = .ok (.putfield 36, 3) := by decide +kernel
theorem dX1_addWear_20 : decode cX1_addWear 20 = .ok (.aload_n 0, 1) := by decide +kernel
theorem dX1_addWear_21 : decode cX1_addWear 21 = .ok (.getfield 36, 3) := by decide +kernel
theorem dX1_addWear_24 : decode cX1_addWear 24 = .ok (.iload_n 2, 1) := by decide +kernel
theorem dX1_addWear_25 : decode cX1_addWear 25 = .ok (.isub, 1) := by decide +kernel
theorem dX1_addWear_26 : decode cX1_addWear 26 = .ok (.ireturn, 1) := by decide +kernel
theorem dX2_init_0 : decode cX2_init 0 = .ok (.aload_n 0, 1) := by decide +kernel
theorem dX2_init_1 : decode cX2_init 1 = .ok (.invokespecial 3, 3) := by decide +kernel
theorem dX2_init_4 : decode cX2_init 4 = .ok (.aload_n 0, 1) := by decide +kernel
theorem dX2_init_5 : decode cX2_init 5 = .ok (.new 9, 3) := by decide +kernel
theorem dX2_init_8 : decode cX2_init 8 = .ok (.dup, 1) := by decide +kernel
theorem dX2_init_9 : decode cX2_init 9 = .ok (.aload_n 1, 1) := by decide +kernel
theorem dX2_init_10 : decode cX2_init 10 = .ok (.invokespecial 11, 3) := by decide +kernel
theorem dX2_init_13 : decode cX2_init 13 = .ok (.putfield 14, 3) := by decide +kernel
theorem dX2_init_16 : decode cX2_init 16 = .ok (.aload_n 0, 1) := by decide +kernel
theorem dX2_init_17 : decode cX2_init 17 = .ok (.new 20, 3) := by decide +kernel
theorem dX2_init_20 : decode cX2_init 20 = .ok (.dup, 1) := by decide +kernel
theorem dX2_init_21 : decode cX2_init 21 = .ok (.invokespecial 22, 3) := by decide +kernel
theorem dX2_init_24 : decode cX2_init 24 = .ok (.putfield 23, 3) := by decide +kernel
theorem dX2_init_27 : decode cX2_init 27 = .ok (.aload_n 0, 1) := by decide +kernel
theorem dX2_init_28 : decode cX2_init 28 = .ok (.new 27, 3) := by decide +kernel
theorem dX2_init_31 : decode cX2_init 31 = .ok (.dup, 1) := by decide +kernel
theorem dX2_init_32 : decode cX2_init 32 = .ok (.iconst 4, 1) := by decide +kernel
theorem dX2_init_33 : decode cX2_init 33 = .ok (.invokespecial 29, 3) := by decide +kernel
theorem dX2_init_36 : decode cX2_init 36 = .ok (.putfield 32, 3) := by decide +kernel
theorem dX2_init_39 : decode cX2_init 39 = .ok (.return_, 1) := by decide +kernel
theorem dX2_read_0 : decode cX2_read 0 = .ok (.aload_n 0, 1) := by decide +kernel
theorem dX2_read_1 : decode cX2_read 1 = .ok (.getfield 14, 3) := by decide +kernel
theorem dX2_read_4 : decode cX2_read 4 = .ok (.invokevirtual 36, 3) := by decide +kernel
theorem dX2_read_7 : decode cX2_read 7 = .ok (.aload_n 0, 1) := by decide +kernel
theorem dX2_read_8 : decode cX2_read 8 = .ok (.getfield 23, 3) := by decide +kernel
theorem dX2_read_11 : decode cX2_read 11 = .ok (.invokevirtual 39, 3) := by decide +kernel
theorem dX2_read_14 : decode cX2_read 14 = .ok (.aload_n 0, 1) := by decide +kernel
theorem dX2_read_15 : decode cX2_read 15 = .ok (.getfield 32, 3) := by decide +kernel
theorem dX2_read_18 : decode cX2_read 18 = .ok (.iconst 0, 1) := by decide +kernel
theorem dX2_read_19 : decode cX2_read 19 = .ok (.invokevirtual 42, 3) := by decide +kernel
theorem dX2_read_22 : decode cX2_read 22 = .ok (.aload_n 0, 1) := by decide +kernel
theorem dX2_read_23 : decode cX2_read 23 = .ok (.iconst 1, 1) := by decide +kernel
theorem dX2_read_24 : decode cX2_read 24 = .ok (.putfield 45, 3) := by decide +kernel
theorem dX2_read_27 : decode cX2_read 27 = .ok (.aload_n 0, 1) := by decide +kernel
theorem dX2_read_28 : decode cX2_read 28 = .ok (.iconst 0, 1) := by decide +kernel
theorem dX2_read_29 : decode cX2_read 29 = .ok (.putfield 49, 3) := by decide +kernel
theorem dX2_read_32 : decode cX2_read 32 = .ok (.aload_n 0, 1) := by decide +kernel
theorem dX2_read_33 : decode cX2_read 33 = .ok (.aload_n 0, 1) := by decide +kernel
theorem dX2_read_34 : decode cX2_read 34 = .ok (.getfield 14, 3) := by decide +kernel
theorem dX2_read_37 : decode cX2_read 37 = .ok (.getfield 53, 3) := by decide +kernel
theorem dX2_read_40 : decode cX2_read 40 = .ok (.iconst 0, 1) := by decide +kernel
theorem dX2_read_41 : decode cX2_read 41 = .ok (.invokevirtual 56, 3) := by decide +kernel
theorem dX2_read_44 : decode cX2_read 44 = .ok (.putfield 59, 3) := by decide +kernel
theorem dX2_read_47 : decode cX2_read 47 = .ok (.aload_n 0, 1) := by decide +kernel
theorem dX2_read_48 : decode cX2_read 48 = .ok (.iconst (-1), 1) := by decide +kernel
theorem dX2_read_49 : decode cX2_read 49 = .ok (.putfield 62, 3) := by decide +kernel
theorem dX2_read_52 : decode cX2_read 52 = .ok (.iconst 0, 1) := by decide +kernel
theorem dX2_read_53 : decode cX2_read 53 = .ok (.istore_n 1, 1) := by decide +kernel
theorem dX2_read_54 : decode cX2_read 54 = .ok (.iload_n 1, 1) := by decide +kernel
theorem dX2_read_55 : decode cX2_read 55 = .ok (.bipush 96, 2) := by decide +kernel
theorem dX2_read_57 : decode cX2_read 57 = .ok (.if_icmp .gt 60, 3) := by decide +kernel
theorem dX2_read_60 : decode cX2_read 60 = .ok (.aload_n 0, 1) := by decide +kernel
theorem dX2_read_61 : decode cX2_read 61 = .ok (.getfield 62, 3) := by decide +kernel
theorem dX2_read_64 : decode cX2_read 64 = .ok (.ifCond .ge 53, 3) := by decide +kernel
theorem dX2_read_67 : decode cX2_read 67 = .ok (.aload_n 0, 1) := by decide +kernel
theorem dX2_read_68 : decode cX2_read 68 = .ok (.invokevirtual 65, 3) := by decide +kernel
theorem dX2_read_71 : decode cX2_read 71 = .ok (.ifCond .ne 46, 3) := by decide +kernel
theorem dX2_read_74 : decode cX2_read 74 = .ok (.aload_n 0, 1) := by decide +kernel
theorem dX2_read_75 : decode cX2_read 75 = .ok (.getfield 59, 3) := by decide +kernel
theorem dX2_read_78 : decode cX2_read 78 = .ok (.bipush 125, 2) := by decide +kernel
theorem dX2_read_80 : decode cX2_read 80 = .ok (.if_icmp .ne 27, 3) := by decide +kernel
theorem dX2_read_83 : decode cX2_read 83 = .ok (.aload_n 0, 1) := by decide +kernel
theorem dX2_read_84 : decode cX2_read 84 = .ok (.getfield 32, 3) := by decide +kernel
theorem dX2_read_87 : decode cX2_read 87 = .ok (.invokevirtual 69, 3) := by decide +kernel
theorem dX2_read_90 : decode cX2_read 90 = .ok (.ifCond .le 17, 3) := by decide +kernel
theorem dX2_read_93 : decode cX2_read 93 = .ok (.aload_n 0, 1) := by decide +kernel
theorem dX2_read_94 : decode cX2_read 94 = .ok (.getfield 45, 3) := by decide +kernel
theorem dX2_read_97 : decode cX2_read 97 = .ok (.ifCond .ne 10, 3) := by decide +kernel
theorem dX2_read_100 : decode cX2_read 100 = .ok (.aload_n 0, 1) := by decide +kernel
theorem dX2_read_101 : decode cX2_read 101 = .ok (.invokevirtual 73, 3) := by decide +kernel
theorem dX2_read_104 : decode cX2_read 104 = .ok (.goto 7, 3) := by decide +kernel
theorem dX2_read_107 : decode cX2_read 107 = .ok (.aload_n 0, 1) := by decide +kernel
theorem dX2_read_108 : decode cX2_read 108 = .ok (.invokevirtual 76, 3) := by decide +kernel
theorem dX2_read_111 : decode cX2_read 111 = .ok (.iinc 1 1, 3) := by decide +kernel
theorem dX2_read_114 : decode cX2_read 114 = .ok (.goto (-60), 3) := by decide +kernel
theorem dX2_read_117 : decode cX2_read 117 = .ok (.aload_n 0, 1) := by decide +kernel
theorem dX2_read_118 : decode cX2_read 118 = .ok (.getfield 62, 3) := by decide +kernel
theorem dX2_read_121 : decode cX2_read 121 = .ok (.ireturn, 1) := by decide +kernel
theorem dX2_isOver_0 : decode cX2_isOver 0 = .ok (.aload_n 0, 1) := by decide +kernel
theorem dX2_isOver_1 : decode cX2_isOver 1 = .ok (.getfield 59, 3) := by decide +kernel
theorem dX2_isOver_4 : decode cX2_isOver 4 = .ok (.bipush (-101), 2) := by decide +kernel
theorem dX2_isOver_6 : decode cX2_isOver 6 = .ok (.if_icmp .ne 24, 3) := by decide +kernel
theorem dX2_isOver_9 : decode cX2_isOver 9 = .ok (.aload_n 0, 1) := by decide +kernel
theorem dX2_isOver_10 : decode cX2_isOver 10 = .ok (.getfield 32, 3) := by decide +kernel
theorem dX2_isOver_13 : decode cX2_isOver 13 = .ok (.invokevirtual 69, 3) := by decide +kernel
theorem dX2_isOver_16 : decode cX2_isOver 16 = .ok (.ifCond .ne 14, 3) := by decide +kernel
theorem dX2_isOver_19 : decode cX2_isOver 19 = .ok (.aload_n 0, 1) := by decide +kernel
theorem dX2_isOver_20 : decode cX2_isOver 20 = .ok (.getfield 45, 3) := by decide +kernel
theorem dX2_isOver_23 : decode cX2_isOver 23 = .ok (.ifCond .ne 7, 3) := by decide +kernel
theorem dX2_isOver_26 : decode cX2_isOver 26 = .ok (.iconst 1, 1) := by decide +kernel
theorem dX2_isOver_27 : decode cX2_isOver 27 = .ok (.goto 4, 3) := by decide +kernel
theorem dX2_isOver_30 : decode cX2_isOver 30 = .ok (.iconst 0, 1) := by decide +kernel
theorem dX2_isOver_31 : decode cX2_isOver 31 = .ok (.ireturn, 1) := by decide +kernel
theorem dX2_advance_0 : decode cX2_advance 0 = .ok (.aload_n 0, 1) := by decide +kernel
theorem dX2_advance_1 : decode cX2_advance 1 = .ok (.dup, 1) := by decide +kernel
theorem dX2_advance_2 : decode cX2_advance 2 = .ok (.getfield 49, 3) := by decide +kernel
theorem dX2_advance_5 : decode cX2_advance 5 = .ok (.iconst 1, 1) := by decide +kernel
theorem dX2_advance_6 : decode cX2_advance 6 = .ok (.iadd, 1) := by decide +kernel
theorem dX2_advance_7 : decode cX2_advance 7 = .ok (.putfield 49, 3) := by decide +kernel
theorem dX2_advance_10 : decode cX2_advance 10 = .ok (.aload_n 0, 1) := by decide +kernel
theorem dX2_advance_11 : decode cX2_advance 11 = .ok (.aload_n 0, 1) := by decide +kernel
theorem dX2_advance_12 : decode cX2_advance 12 = .ok (.getfield 14, 3) := by decide +kernel
theorem dX2_advance_15 : decode cX2_advance 15 = .ok (.getfield 53, 3) := by decide +kernel
theorem dX2_advance_18 : decode cX2_advance 18 = .ok (.aload_n 0, 1) := by decide +kernel
theorem dX2_advance_19 : decode cX2_advance 19 = .ok (.getfield 49, 3) := by decide +kernel
theorem dX2_advance_22 : decode cX2_advance 22 = .ok (.invokevirtual 56, 3) := by decide +kernel
theorem dX2_advance_25 : decode cX2_advance 25 = .ok (.putfield 59, 3) := by decide +kernel
theorem dX2_advance_28 : decode cX2_advance 28 = .ok (.return_, 1) := by decide +kernel
theorem dX2_fail_0 : decode cX2_fail 0 = .ok (.aload_n 0, 1) := by decide +kernel
theorem dX2_fail_1 : decode cX2_fail 1 = .ok (.getfield 62, 3) := by decide +kernel
theorem dX2_fail_4 : decode cX2_fail 4 = .ok (.ifCond .ge 21, 3) := by decide +kernel
theorem dX2_fail_7 : decode cX2_fail 7 = .ok (.aload_n 0, 1) := by decide +kernel
theorem dX2_fail_8 : decode cX2_fail 8 = .ok (.aload_n 0, 1) := by decide +kernel
theorem dX2_fail_9 : decode cX2_fail 9 = .ok (.getfield 14, 3) := by decide +kernel
theorem dX2_fail_12 : decode cX2_fail 12 = .ok (.getfield 79, 3) := by decide +kernel
theorem dX2_fail_15 : decode cX2_fail 15 = .ok (.aload_n 0, 1) := by decide +kernel
theorem dX2_fail_16 : decode cX2_fail 16 = .ok (.getfield 49, 3) := by decide +kernel
theorem dX2_fail_19 : decode cX2_fail 19 = .ok (.invokevirtual 56, 3) := by decide +kernel
theorem dX2_fail_22 : decode cX2_fail 22 = .ok (.putfield 62, 3) := by decide +kernel
theorem dX2_fail_25 : decode cX2_fail 25 = .ok (.return_, 1) := by decide +kernel
theorem dX2_expect_0 : decode cX2_expect 0 = .ok (.aload_n 0, 1) := by decide +kernel
theorem dX2_expect_1 : decode cX2_expect 1 = .ok (.getfield 62, 3) := by decide +kernel
theorem dX2_expect_4 : decode cX2_expect 4 = .ok (.ifCond .ge 18, 3) := by decide +kernel
theorem dX2_expect_7 : decode cX2_expect 7 = .ok (.aload_n 0, 1) := by decide +kernel
theorem dX2_expect_8 : decode cX2_expect 8 = .ok (.getfield 59, 3) := by decide +kernel
theorem dX2_expect_11 : decode cX2_expect 11 = .ok (.iload_n 1, 1) := by decide +kernel
theorem dX2_expect_12 : decode cX2_expect 12 = .ok (.if_icmp .ne 10, 3) := by decide +kernel
theorem dX2_expect_15 : decode cX2_expect 15 = .ok (.aload_n 0, 1) := by decide +kernel
theorem dX2_expect_16 : decode cX2_expect 16 = .ok (.invokevirtual 82, 3) := by decide +kernel
theorem dX2_expect_19 : decode cX2_expect 19 = .ok (.goto 7, 3) := by decide +kernel
theorem dX2_expect_22 : decode cX2_expect 22 = .ok (.aload_n 0, 1) := by decide +kernel
theorem dX2_expect_23 : decode cX2_expect 23 = .ok (.invokevirtual 85, 3) := by decide +kernel
theorem dX2_expect_26 : decode cX2_expect 26 = .ok (.return_, 1) := by decide +kernel
theorem dX2_readNumber_0 : decode cX2_readNumber 0 = .ok (.aload_n 0, 1) := by decide +kernel
theorem dX2_readNumber_1 : decode cX2_readNumber 1 = .ok (.getfield 14, 3) := by decide +kernel
theorem dX2_readNumber_4 : decode cX2_readNumber 4 = .ok (.getfield 88, 3) := by decide +kernel
theorem dX2_readNumber_7 : decode cX2_readNumber 7 = .ok (.aload_n 0, 1) := by decide +kernel
theorem dX2_readNumber_8 : decode cX2_readNumber 8 = .ok (.getfield 49, 3) := by decide +kernel
theorem dX2_readNumber_11 : decode cX2_readNumber 11 = .ok (.invokevirtual 56, 3) := by decide +kernel
theorem dX2_readNumber_14 : decode cX2_readNumber 14 = .ok (.istore_n 1, 1) := by decide +kernel
theorem dX2_readNumber_15 : decode cX2_readNumber 15 = .ok (.aload_n 0, 1) := by decide +kernel
theorem dX2_readNumber_16 : decode cX2_readNumber 16 = .ok (.bipush (-102), 2) := by decide +kernel
theorem dX2_readNumber_18 : decode cX2_readNumber 18 = .ok (.invokevirtual 91, 3) := by decide +kernel
theorem dX2_readNumber_21 : decode cX2_readNumber 21 = .ok (.iload_n 1, 1) := by decide +kernel
theorem dX2_readNumber_22 : decode cX2_readNumber 22 = .ok (.ireturn, 1) := by decide +kernel
theorem dX2_openBlock_0 : decode cX2_openBlock 0 = .ok (.aload_n 0, 1) := by decide +kernel
theorem dX2_openBlock_1 : decode cX2_openBlock 1 = .ok (.getfield 62, 3) := by decide +kernel
theorem dX2_openBlock_4 : decode cX2_openBlock 4 = .ok (.ifCond .ge 44, 3) := by decide +kernel
theorem dX2_openBlock_7 : decode cX2_openBlock 7 = .ok (.aload_n 0, 1) := by decide +kernel
theorem dX2_openBlock_8 : decode cX2_openBlock 8 = .ok (.getfield 32, 3) := by decide +kernel
theorem dX2_openBlock_11 : decode cX2_openBlock 11 = .ok (.invokevirtual 69, 3) := by decide +kernel
theorem dX2_openBlock_14 : decode cX2_openBlock 14 = .ok (.iconst 4, 1) := by decide +kernel
theorem dX2_openBlock_15 : decode cX2_openBlock 15 = .ok (.if_icmp .ge 33, 3) := by decide +kernel
theorem dX2_openBlock_18 : decode cX2_openBlock 18 = .ok (.aload_n 0, 1) := by decide +kernel
theorem dX2_openBlock_19 : decode cX2_openBlock 19 = .ok (.getfield 59, 3) := by decide +kernel
theorem dX2_openBlock_22 : decode cX2_openBlock 22 = .ok (.bipush 123, 2) := by decide +kernel
theorem dX2_openBlock_24 : decode cX2_openBlock 24 = .ok (.if_icmp .ne 24, 3) := by decide +kernel
theorem dX2_openBlock_27 : decode cX2_openBlock 27 = .ok (.aload_n 0, 1) := by decide +kernel
theorem dX2_openBlock_28 : decode cX2_openBlock 28 = .ok (.invokevirtual 82, 3) := by decide +kernel
theorem dX2_openBlock_31 : decode cX2_openBlock 31 = .ok (.aload_n 0, 1) := by decide +kernel
theorem dX2_openBlock_32 : decode cX2_openBlock 32 = .ok (.getfield 32, 3) := by decide +kernel
theorem dX2_openBlock_35 : decode cX2_openBlock 35 = .ok (.iload_n 1, 1) := by decide +kernel
theorem dX2_openBlock_36 : decode cX2_openBlock 36 = .ok (.invokevirtual 94, 3) := by decide +kernel
theorem dX2_openBlock_39 : decode cX2_openBlock 39 = .ok (.pop, 1) := by decide +kernel
theorem dX2_openBlock_40 : decode cX2_openBlock 40 = .ok (.aload_n 0, 1) := by decide +kernel
theorem dX2_openBlock_41 : decode cX2_openBlock 41 = .ok (.iconst 1, 1) := by decide +kernel
theorem dX2_openBlock_42 : decode cX2_openBlock 42 = .ok (.putfield 45, 3) := by decide +kernel
theorem dX2_openBlock_45 : decode cX2_openBlock 45 = .ok (.goto 7, 3) := by decide +kernel
theorem dX2_openBlock_48 : decode cX2_openBlock 48 = .ok (.aload_n 0, 1) := by decide +kernel
theorem dX2_openBlock_49 : decode cX2_openBlock 49 = .ok (.invokevirtual 85, 3) := by decide +kernel
theorem dX2_openBlock_52 : decode cX2_openBlock 52 = .ok (.return_, 1) := by decide +kernel
theorem dX2_closeBlock_0 : decode cX2_closeBlock 0 = .ok (.aload_n 0, 1) := by decide +kernel
theorem dX2_closeBlock_1 : decode cX2_closeBlock 1 = .ok (.invokevirtual 82, 3) := by decide +kernel
theorem dX2_closeBlock_4 : decode cX2_closeBlock 4 = .ok (.aload_n 0, 1) := by decide +kernel
theorem dX2_closeBlock_5 : decode cX2_closeBlock 5 = .ok (.getfield 32, 3) := by decide +kernel
theorem dX2_closeBlock_8 : decode cX2_closeBlock 8 = .ok (.invokevirtual 98, 3) := by decide +kernel
theorem dX2_closeBlock_11 : decode cX2_closeBlock 11 = .ok (.istore_n 1, 1) := by decide +kernel
theorem dX2_closeBlock_12 : decode cX2_closeBlock 12 = .ok (.aload_n 0, 1) := by decide +kernel
theorem dX2_closeBlock_13 : decode cX2_closeBlock 13 = .ok (.getfield 23, 3) := by decide +kernel
theorem dX2_closeBlock_16 : decode cX2_closeBlock 16 = .ok (.iload_n 1, 1) := by decide +kernel
theorem dX2_closeBlock_17 : decode cX2_closeBlock 17 = .ok (.invokevirtual 101, 3) := by decide +kernel
theorem dX2_closeBlock_20 : decode cX2_closeBlock 20 = .ok (.istore_n 2, 1) := by decide +kernel
theorem dX2_closeBlock_21 : decode cX2_closeBlock 21 = .ok (.iload_n 2, 1) := by decide +kernel
theorem dX2_closeBlock_22 : decode cX2_closeBlock 22 = .ok (.iconst 3, 1) := by decide +kernel
theorem dX2_closeBlock_23 : decode cX2_closeBlock 23 = .ok (.if_icmp .ne 42, 3) := by decide +kernel
theorem dX2_closeBlock_26 : decode cX2_closeBlock 26 = .ok (.aload_n 0, 1) := by decide +kernel
theorem dX2_closeBlock_27 : decode cX2_closeBlock 27 = .ok (.getfield 59, 3) := by decide +kernel
theorem dX2_closeBlock_30 : decode cX2_closeBlock 30 = .ok (.bipush (-104), 2) := by decide +kernel
theorem dX2_closeBlock_32 : decode cX2_closeBlock 32 = .ok (.if_icmp .ne 33, 3) := by decide +kernel
theorem dX2_closeBlock_35 : decode cX2_closeBlock 35 = .ok (.aload_n 0, 1) := by decide +kernel
theorem dX2_closeBlock_36 : decode cX2_closeBlock 36 = .ok (.invokevirtual 82, 3) := by decide +kernel
theorem dX2_closeBlock_39 : decode cX2_closeBlock 39 = .ok (.aload_n 0, 1) := by decide +kernel
theorem dX2_closeBlock_40 : decode cX2_closeBlock 40 = .ok (.getfield 23, 3) := by decide +kernel
theorem dX2_closeBlock_43 : decode cX2_closeBlock 43 = .ok (.bipush 12, 2) := by decide +kernel
theorem dX2_closeBlock_45 : decode cX2_closeBlock 45 = .ok (.iconst 0, 1) := by decide +kernel
theorem dX2_closeBlock_46 : decode cX2_closeBlock 46 = .ok (.iconst 0, 1) := by decide +kernel
theorem dX2_closeBlock_47 : decode cX2_closeBlock 47 = .ok (.invokevirtual 104, 3) := by decide +kernel
theorem dX2_closeBlock_50 : decode cX2_closeBlock 50 = .ok (.istore_n 3, 1) := by decide +kernel
theorem dX2_closeBlock_51 : decode cX2_closeBlock 51 = .ok (.aload_n 0, 1) := by decide +kernel
theorem dX2_closeBlock_52 : decode cX2_closeBlock 52 = .ok (.getfield 23, 3) := by decide +kernel
theorem dX2_closeBlock_55 : decode cX2_closeBlock 55 = .ok (.iload_n 1, 1) := by decide +kernel
theorem dX2_closeBlock_56 : decode cX2_closeBlock 56 = .ok (.invokevirtual 108, 3) := by decide +kernel
theorem dX2_closeBlock_59 : decode cX2_closeBlock 59 = .ok (.aload_n 0, 1) := by decide +kernel
theorem dX2_closeBlock_60 : decode cX2_closeBlock 60 = .ok (.iload_n 3, 1) := by decide +kernel
theorem dX2_closeBlock_61 : decode cX2_closeBlock 61 = .ok (.invokevirtual 111, 3) := by decide +kernel
theorem dX2_closeBlock_64 : decode cX2_closeBlock 64 = .ok (.return_, 1) := by decide +kernel
theorem dX2_closeBlock_65 : decode cX2_closeBlock 65 = .ok (.iload_n 2, 1) := by decide +kernel
theorem dX2_closeBlock_66 : decode cX2_closeBlock 66 = .ok (.iconst 4, 1) := by decide +kernel
theorem dX2_closeBlock_67 : decode cX2_closeBlock 67 = .ok (.if_icmp .eq 8, 3) := by decide +kernel
theorem dX2_closeBlock_70 : decode cX2_closeBlock 70 = .ok (.iload_n 2, 1) := by decide +kernel
theorem dX2_closeBlock_71 : decode cX2_closeBlock 71 = .ok (.iconst 5, 1) := by decide +kernel
theorem dX2_closeBlock_72 : decode cX2_closeBlock 72 = .ok (.if_icmp .ne 15, 3) := by decide +kernel
theorem dX2_closeBlock_75 : decode cX2_closeBlock 75 = .ok (.aload_n 0, 1) := by decide +kernel
theorem dX2_closeBlock_76 : decode cX2_closeBlock 76 = .ok (.getfield 23, 3) := by decide +kernel
theorem dX2_closeBlock_79 : decode cX2_closeBlock 79 = .ok (.bipush 12, 2) := by decide +kernel
theorem dX2_closeBlock_81 : decode cX2_closeBlock 81 = .ok (.iconst 0, 1) := by decide +kernel
theorem dX2_closeBlock_82 : decode cX2_closeBlock 82 = .ok (.iload_n 1, 1) := by decide +kernel
theorem dX2_closeBlock_83 : decode cX2_closeBlock 83 = .ok (.invokevirtual 104, 3) := by decide +kernel
theorem dX2_closeBlock_86 : decode cX2_closeBlock 86 = .ok (.pop, 1) := by decide +kernel
theorem dX2_closeBlock_87 : decode cX2_closeBlock 87 = .ok (.aload_n 0, 1) := by decide +kernel
theorem dX2_closeBlock_88 : decode cX2_closeBlock 88 = .ok (.getfield 23, 3) := by decide +kernel
theorem dX2_closeBlock_91 : decode cX2_closeBlock 91 = .ok (.iload_n 1, 1) := by decide +kernel
theorem dX2_closeBlock_92 : decode cX2_closeBlock 92 = .ok (.invokevirtual 108, 3) := by decide +kernel
theorem dX2_closeBlock_95 : decode cX2_closeBlock 95 = .ok (.return_, 1) := by decide +kernel
theorem dX2_readOne_0 : decode cX2_readOne 0 = .ok (.aload_n 0, 1) := by decide +kernel
theorem dX2_readOne_1 : decode cX2_readOne 1 = .ok (.getfield 59, 3) := by decide +kernel
theorem dX2_readOne_4 : decode cX2_readOne 4 = .ok (.ineg, 1) := by decide +kernel
theorem dX2_readOne_5 : decode cX2_readOne 5 = .ok (.istore_n 1, 1) := by decide +kernel
theorem dX2_readOne_6 : decode cX2_readOne 6 = .ok (.iload_n 1, 1) := by decide +kernel
theorem dX2_readOne_7 : decode cX2_readOne 7 = .ok (.iconst 1, 1) := by decide +kernel
theorem dX2_readOne_8 : decode cX2_readOne 8 = .ok (.if_icmp .lt 9, 3) := by decide +kernel
theorem dX2_readOne_11 : decode cX2_readOne 11 = .ok (.iload_n 1, 1) := by decide +kernel
theorem dX2_readOne_12 : decode cX2_readOne 12 = .ok (.bipush 11, 2) := by decide +kernel
theorem dX2_readOne_14 : decode cX2_readOne 14 = .ok (.if_icmp .le 8, 3) := by decide +kernel
theorem dX2_readOne_17 : decode cX2_readOne 17 = .ok (.aload_n 0, 1) := by decide +kernel
theorem dX2_readOne_18 : decode cX2_readOne 18 = .ok (.invokevirtual 85, 3) := by decide +kernel
theorem dX2_readOne_21 : decode cX2_readOne 21 = .ok (.return_, 1) := by decide +kernel
theorem dX2_readOne_22 : decode cX2_readOne 22 = .ok (.aload_n 0, 1) := by decide +kernel
theorem dX2_readOne_23 : decode cX2_readOne 23 = .ok (.getfield 23, 3) := by decide +kernel
theorem dX2_readOne_26 : decode cX2_readOne 26 = .ok (.dup, 1) := by decide +kernel
theorem dX2_readOne_27 : decode cX2_readOne 27 = .ok (.getfield 114, 3) := by decide +kernel
theorem dX2_readOne_30 : decode cX2_readOne 30 = .ok (.iconst 1, 1) := by decide +kernel
theorem dX2_readOne_31 : decode cX2_readOne 31 = .ok (.iadd, 1) := by decide +kernel
theorem dX2_readOne_32 : decode cX2_readOne 32 = .ok (.putfield 114, 3) := by decide +kernel
theorem dX2_readOne_35 : decode cX2_readOne 35 = .ok (.aload_n 0, 1) := by decide +kernel
theorem dX2_readOne_36 : decode cX2_readOne 36 = .ok (.iconst 0, 1) := by decide +kernel
theorem dX2_readOne_37 : decode cX2_readOne 37 = .ok (.putfield 45, 3) := by decide +kernel
theorem dX2_readOne_40 : decode cX2_readOne 40 = .ok (.aload_n 0, 1) := by decide +kernel
theorem dX2_readOne_41 : decode cX2_readOne 41 = .ok (.invokevirtual 82, 3) := by decide +kernel
theorem dX2_readOne_44 : decode cX2_readOne 44 = .ok (.iload_n 1, 1) := by decide +kernel
theorem dX2_readOne_45 : decode cX2_readOne 45 = .ok (.tableswitch 123 1 5 #[35, 42, 59, 59, 79], 35) := by decide +kernel
theorem dX2_readOne_80 : decode cX2_readOne 80 = .ok (.aload_n 0, 1) := by decide +kernel
theorem dX2_readOne_81 : decode cX2_readOne 81 = .ok (.invokevirtual 117, 3) := by decide +kernel
theorem dX2_readOne_84 : decode cX2_readOne 84 = .ok (.goto 95, 3) := by decide +kernel
theorem dX2_readOne_87 : decode cX2_readOne 87 = .ok (.aload_n 0, 1) := by decide +kernel
theorem dX2_readOne_88 : decode cX2_readOne 88 = .ok (.getfield 23, 3) := by decide +kernel
theorem dX2_readOne_91 : decode cX2_readOne 91 = .ok (.iconst 2, 1) := by decide +kernel
theorem dX2_readOne_92 : decode cX2_readOne 92 = .ok (.aload_n 0, 1) := by decide +kernel
theorem dX2_readOne_93 : decode cX2_readOne 93 = .ok (.invokevirtual 120, 3) := by decide +kernel
theorem dX2_readOne_96 : decode cX2_readOne 96 = .ok (.iconst 0, 1) := by decide +kernel
theorem dX2_readOne_97 : decode cX2_readOne 97 = .ok (.invokevirtual 104, 3) := by decide +kernel
theorem dX2_readOne_100 : decode cX2_readOne 100 = .ok (.pop, 1) := by decide +kernel
theorem dX2_readOne_101 : decode cX2_readOne 101 = .ok (.goto 78, 3) := by decide +kernel
theorem dX2_readOne_104 : decode cX2_readOne 104 = .ok (.aload_n 0, 1) := by decide +kernel
theorem dX2_readOne_105 : decode cX2_readOne 105 = .ok (.aload_n 0, 1) := by decide +kernel
theorem dX2_readOne_106 : decode cX2_readOne 106 = .ok (.getfield 23, 3) := by decide +kernel
theorem dX2_readOne_109 : decode cX2_readOne 109 = .ok (.iload_n 1, 1) := by decide +kernel
theorem dX2_readOne_110 : decode cX2_readOne 110 = .ok (.aload_n 0, 1) := by decide +kernel
theorem dX2_readOne_111 : decode cX2_readOne 111 = .ok (.invokevirtual 120, 3) := by decide +kernel
theorem dX2_readOne_114 : decode cX2_readOne 114 = .ok (.iconst 0, 1) := by decide +kernel
theorem dX2_readOne_115 : decode cX2_readOne 115 = .ok (.invokevirtual 104, 3) := by decide +kernel
theorem dX2_readOne_118 : decode cX2_readOne 118 = .ok (.invokevirtual 111, 3) := by decide +kernel
theorem dX2_readOne_121 : decode cX2_readOne 121 = .ok (.goto 58, 3) := by decide +kernel
theorem dX2_readOne_124 : decode cX2_readOne 124 = .ok (.aload_n 0, 1) := by decide +kernel
theorem dX2_readOne_125 : decode cX2_readOne 125 = .ok (.getfield 23, 3) := by decide +kernel
theorem dX2_readOne_128 : decode cX2_readOne 128 = .ok (.bipush 13, 2) := by decide +kernel
theorem dX2_readOne_130 : decode cX2_readOne 130 = .ok (.aload_n 0, 1) := by decide +kernel
theorem dX2_readOne_131 : decode cX2_readOne 131 = .ok (.getfield 32, 3) := by decide +kernel
theorem dX2_readOne_134 : decode cX2_readOne 134 = .ok (.invokevirtual 69, 3) := by decide +kernel
theorem dX2_readOne_137 : decode cX2_readOne 137 = .ok (.aload_n 0, 1) := by decide +kernel
theorem dX2_readOne_138 : decode cX2_readOne 138 = .ok (.invokevirtual 123, 3) := by decide +kernel
theorem dX2_readOne_141 : decode cX2_readOne 141 = .ok (.invokevirtual 104, 3) := by decide +kernel
theorem dX2_readOne_144 : decode cX2_readOne 144 = .ok (.pop, 1) := by decide +kernel
theorem dX2_readOne_145 : decode cX2_readOne 145 = .ok (.aload_n 0, 1) := by decide +kernel
theorem dX2_readOne_146 : decode cX2_readOne 146 = .ok (.aload_n 0, 1) := by decide +kernel
theorem dX2_readOne_147 : decode cX2_readOne 147 = .ok (.getfield 23, 3) := by decide +kernel
theorem dX2_readOne_150 : decode cX2_readOne 150 = .ok (.iconst 5, 1) := by decide +kernel
theorem dX2_readOne_151 : decode cX2_readOne 151 = .ok (.aload_n 0, 1) := by decide +kernel
theorem dX2_readOne_152 : decode cX2_readOne 152 = .ok (.getfield 32, 3) := by decide +kernel
theorem dX2_readOne_155 : decode cX2_readOne 155 = .ok (.invokevirtual 69, 3) := by decide +kernel
theorem dX2_readOne_158 : decode cX2_readOne 158 = .ok (.iconst 0, 1) := by decide +kernel
theorem dX2_readOne_159 : decode cX2_readOne 159 = .ok (.invokevirtual 104, 3) := by decide +kernel
theorem dX2_readOne_162 : decode cX2_readOne 162 = .ok (.invokevirtual 111, 3) := by decide +kernel
theorem dX2_readOne_165 : decode cX2_readOne 165 = .ok (.goto 14, 3) := by decide +kernel
theorem dX2_readOne_168 : decode cX2_readOne 168 = .ok (.aload_n 0, 1) := by decide +kernel
theorem dX2_readOne_169 : decode cX2_readOne 169 = .ok (.getfield 23, 3) := by decide +kernel
theorem dX2_readOne_172 : decode cX2_readOne 172 = .ok (.iload_n 1, 1) := by decide +kernel
theorem dX2_readOne_173 : decode cX2_readOne 173 = .ok (.iconst 0, 1) := by decide +kernel
theorem dX2_readOne_174 : decode cX2_readOne 174 = .ok (.iconst 0, 1) := by decide +kernel
theorem dX2_readOne_175 : decode cX2_readOne 175 = .ok (.invokevirtual 104, 3) := by decide +kernel
theorem dX2_readOne_178 : decode cX2_readOne 178 = .ok (.pop, 1) := by decide +kernel
theorem dX2_readOne_179 : decode cX2_readOne 179 = .ok (.return_, 1) := by decide +kernel
theorem dX2_readGo_0 : decode cX2_readGo 0 = .ok (.aload_n 0, 1) := by decide +kernel
theorem dX2_readGo_1 : decode cX2_readGo 1 = .ok (.invokevirtual 123, 3) := by decide +kernel
theorem dX2_readGo_4 : decode cX2_readGo 4 = .ok (.istore_n 1, 1) := by decide +kernel
theorem dX2_readGo_5 : decode cX2_readGo 5 = .ok (.aload_n 0, 1) := by decide +kernel
theorem dX2_readGo_6 : decode cX2_readGo 6 = .ok (.invokevirtual 123, 3) := by decide +kernel
theorem dX2_readGo_9 : decode cX2_readGo 9 = .ok (.istore_n 2, 1) := by decide +kernel
theorem dX2_readGo_10 : decode cX2_readGo 10 = .ok (.aload_n 0, 1) := by decide +kernel
theorem dX2_readGo_11 : decode cX2_readGo 11 = .ok (.getfield 23, 3) := by decide +kernel
theorem dX2_readGo_14 : decode cX2_readGo 14 = .ok (.iconst 1, 1) := by decide +kernel
theorem dX2_readGo_15 : decode cX2_readGo 15 = .ok (.iload_n 1, 1) := by decide +kernel
theorem dX2_readGo_16 : decode cX2_readGo 16 = .ok (.iload_n 2, 1) := by decide +kernel
theorem dX2_readGo_17 : decode cX2_readGo 17 = .ok (.invokevirtual 104, 3) := by decide +kernel
theorem dX2_readGo_20 : decode cX2_readGo 20 = .ok (.pop, 1) := by decide +kernel
theorem dX2_readGo_21 : decode cX2_readGo 21 = .ok (.return_, 1) := by decide +kernel
theorem dX2_readTest_0 : decode cX2_readTest 0 = .ok (.aload_n 0, 1) := by decide +kernel
theorem dX2_readTest_1 : decode cX2_readTest 1 = .ok (.getfield 23, 3) := by decide +kernel
theorem dX2_readTest_4 : decode cX2_readTest 4 = .ok (.getfield 126, 3) := by decide +kernel
theorem dX2_readTest_7 : decode cX2_readTest 7 = .ok (.invokevirtual 69, 3) := by decide +kernel
theorem dX2_readTest_10 : decode cX2_readTest 10 = .ok (.istore_n 1, 1) := by decide +kernel
theorem dX2_readTest_11 : decode cX2_readTest 11 = .ok (.aload_n 0, 1) := by decide +kernel
theorem dX2_readTest_12 : decode cX2_readTest 12 = .ok (.iconst 0, 1) := by decide +kernel
theorem dX2_readTest_13 : decode cX2_readTest 13 = .ok (.iconst 0, 1) := by decide +kernel
theorem dX2_readTest_14 : decode cX2_readTest 14 = .ok (.iconst 0, 1) := by decide +kernel
theorem dX2_readTest_15 : decode cX2_readTest 15 = .ok (.invokevirtual 129, 3) := by decide +kernel
theorem dX2_readTest_18 : decode cX2_readTest 18 = .ok (.aload_n 0, 1) := by decide +kernel
theorem dX2_readTest_19 : decode cX2_readTest 19 = .ok (.getfield 23, 3) := by decide +kernel
theorem dX2_readTest_22 : decode cX2_readTest 22 = .ok (.getfield 126, 3) := by decide +kernel
theorem dX2_readTest_25 : decode cX2_readTest 25 = .ok (.iconst (-1), 1) := by decide +kernel
theorem dX2_readTest_26 : decode cX2_readTest 26 = .ok (.invokevirtual 94, 3) := by decide +kernel
theorem dX2_readTest_29 : decode cX2_readTest 29 = .ok (.pop, 1) := by decide +kernel
theorem dX2_readTest_30 : decode cX2_readTest 30 = .ok (.iload_n 1, 1) := by decide +kernel
theorem dX2_readTest_31 : decode cX2_readTest 31 = .ok (.ireturn, 1) := by decide +kernel
theorem dX2_readSides_0 : decode cX2_readSides 0 = .ok (.iload_n 1, 1) := by decide +kernel
theorem dX2_readSides_1 : decode cX2_readSides 1 = .ok (.iconst 5, 1) := by decide +kernel
theorem dX2_readSides_2 : decode cX2_readSides 2 = .ok (.if_icmp .lt 10, 3) := by decide +kernel
theorem dX2_readSides_5 : decode cX2_readSides 5 = .ok (.aload_n 0, 1) := by decide +kernel
theorem dX2_readSides_6 : decode cX2_readSides 6 = .ok (.iload_n 2, 1) := by decide +kernel
theorem dX2_readSides_7 : decode cX2_readSides 7 = .ok (.iload_n 3, 1) := by decide +kernel
theorem dX2_readSides_8 : decode cX2_readSides 8 = .ok (.invokevirtual 133, 3) := by decide +kernel
theorem dX2_readSides_11 : decode cX2_readSides 11 = .ok (.return_, 1) := by decide +kernel
theorem dX2_readSides_12 : decode cX2_readSides 12 = .ok (.aload_n 0, 1) := by decide +kernel
theorem dX2_readSides_13 : decode cX2_readSides 13 = .ok (.iload_n 1, 1) := by decide +kernel
theorem dX2_readSides_14 : decode cX2_readSides 14 = .ok (.iconst 1, 1) := by decide +kernel
theorem dX2_readSides_15 : decode cX2_readSides 15 = .ok (.iadd, 1) := by decide +kernel
theorem dX2_readSides_16 : decode cX2_readSides 16 = .ok (.iload_n 2, 1) := by decide +kernel
theorem dX2_readSides_17 : decode cX2_readSides 17 = .ok (.iload_n 3, 1) := by decide +kernel
theorem dX2_readSides_18 : decode cX2_readSides 18 = .ok (.invokevirtual 129, 3) := by decide +kernel
theorem dX2_readSides_21 : decode cX2_readSides 21 = .ok (.iload_n 1, 1) := by decide +kernel
theorem dX2_readSides_22 : decode cX2_readSides 22 = .ok (.iconst 2, 1) := by decide +kernel
theorem dX2_readSides_23 : decode cX2_readSides 23 = .ok (.if_icmp .ne 7, 3) := by decide +kernel
theorem dX2_readSides_26 : decode cX2_readSides 26 = .ok (.iconst 1, 1) := by decide +kernel
theorem dX2_readSides_27 : decode cX2_readSides 27 = .ok (.goto 5, 3) := by decide +kernel
theorem dX2_readSides_30 : decode cX2_readSides 30 = .ok (.bipush 96, 2) := by decide +kernel
theorem dX2_readSides_32 : decode cX2_readSides 32 = .ok (.istore 4, 2) := by decide +kernel
theorem dX2_readSides_34 : decode cX2_readSides 34 = .ok (.iconst 0, 1) := by decide +kernel
theorem dX2_readSides_35 : decode cX2_readSides 35 = .ok (.istore 5, 2) := by decide +kernel
theorem dX2_readSides_37 : decode cX2_readSides 37 = .ok (.iload 5, 2) := by decide +kernel
theorem dX2_readSides_39 : decode cX2_readSides 39 = .ok (.iload 4, 2) := by decide +kernel
theorem dX2_readSides_41 : decode cX2_readSides 41 = .ok (.if_icmp .ge 60, 3) := by decide +kernel
theorem dX2_readSides_44 : decode cX2_readSides 44 = .ok (.aload_n 0, 1) := by decide +kernel
theorem dX2_readSides_45 : decode cX2_readSides 45 = .ok (.getfield 62, 3) := by decide +kernel
theorem dX2_readSides_48 : decode cX2_readSides 48 = .ok (.ifCond .ge 53, 3) := by decide +kernel
theorem dX2_readSides_51 : decode cX2_readSides 51 = .ok (.iload_n 1, 1) := by decide +kernel
theorem dX2_readSides_52 : decode cX2_readSides 52 = .ok (.aload_n 0, 1) := by decide +kernel
theorem dX2_readSides_53 : decode cX2_readSides 53 = .ok (.getfield 59, 3) := by decide +kernel
theorem dX2_readSides_56 : decode cX2_readSides 56 = .ok (.invokestatic 137, 3) := by decide +kernel
theorem dX2_readSides_59 : decode cX2_readSides 59 = .ok (.if_icmp .ne 42, 3) := by decide +kernel
theorem dX2_readSides_62 : decode cX2_readSides 62 = .ok (.aload_n 0, 1) := by decide +kernel
theorem dX2_readSides_63 : decode cX2_readSides 63 = .ok (.getfield 59, 3) := by decide +kernel
theorem dX2_readSides_66 : decode cX2_readSides 66 = .ok (.istore 6, 2) := by decide +kernel
theorem dX2_readSides_68 : decode cX2_readSides 68 = .ok (.aload_n 0, 1) := by decide +kernel
theorem dX2_readSides_69 : decode cX2_readSides 69 = .ok (.invokevirtual 82, 3) := by decide +kernel
theorem dX2_readSides_72 : decode cX2_readSides 72 = .ok (.aload_n 0, 1) := by decide +kernel
theorem dX2_readSides_73 : decode cX2_readSides 73 = .ok (.iload_n 1, 1) := by decide +kernel
theorem dX2_readSides_74 : decode cX2_readSides 74 = .ok (.iconst 1, 1) := by decide +kernel
theorem dX2_readSides_75 : decode cX2_readSides 75 = .ok (.iadd, 1) := by decide +kernel
theorem dX2_readSides_76 : decode cX2_readSides 76 = .ok (.iload_n 2, 1) := by decide +kernel
theorem dX2_readSides_77 : decode cX2_readSides 77 = .ok (.iload_n 3, 1) := by decide +kernel
theorem dX2_readSides_78 : decode cX2_readSides 78 = .ok (.invokevirtual 129, 3) := by decide +kernel
theorem dX2_readSides_81 : decode cX2_readSides 81 = .ok (.aload_n 0, 1) := by decide +kernel
theorem dX2_readSides_82 : decode cX2_readSides 82 = .ok (.getfield 23, 3) := by decide +kernel
theorem dX2_readSides_85 : decode cX2_readSides 85 = .ok (.getfield 126, 3) := by decide +kernel
theorem dX2_readSides_88 : decode cX2_readSides 88 = .ok (.iload 6, 2) := by decide +kernel
theorem dX2_readSides_90 : decode cX2_readSides 90 = .ok (.ineg, 1) := by decide +kernel
theorem dX2_readSides_91 : decode cX2_readSides 91 = .ok (.invokevirtual 94, 3) := by decide +kernel
theorem dX2_readSides_94 : decode cX2_readSides 94 = .ok (.pop, 1) := by decide +kernel
theorem dX2_readSides_95 : decode cX2_readSides 95 = .ok (.iinc 5 1, 3) := by decide +kernel
theorem dX2_readSides_98 : decode cX2_readSides 98 = .ok (.goto (-61), 3) := by decide +kernel
theorem dX2_readSides_101 : decode cX2_readSides 101 = .ok (.return_, 1) := by decide +kernel
theorem dX2_looseness_0 : decode cX2_looseness 0 = .ok (.iload_n 0, 1) := by decide +kernel
theorem dX2_looseness_1 : decode cX2_looseness 1 = .ok (.lookupswitch 85 #[(38, 77), (42, 83), (43, 81), (45, 81), (60, 79), (61, 79), (62, 79), (124, 75)], 75) := by decide +kernel
theorem dX2_looseness_76 : decode cX2_looseness 76 = .ok (.iconst 0, 1) := by decide +kernel
theorem dX2_looseness_77 : decode cX2_looseness 77 = .ok (.ireturn, 1) := by decide +kernel
theorem dX2_looseness_78 : decode cX2_looseness 78 = .ok (.iconst 1, 1) := by decide +kernel
theorem dX2_looseness_79 : decode cX2_looseness 79 = .ok (.ireturn, 1) := by decide +kernel
theorem dX2_looseness_80 : decode cX2_looseness 80 = .ok (.iconst 2, 1) := by decide +kernel
theorem dX2_looseness_81 : decode cX2_looseness 81 = .ok (.ireturn, 1) := by decide +kernel
theorem dX2_looseness_82 : decode cX2_looseness 82 = .ok (.iconst 3, 1) := by decide +kernel
theorem dX2_looseness_83 : decode cX2_looseness 83 = .ok (.ireturn, 1) := by decide +kernel
theorem dX2_looseness_84 : decode cX2_looseness 84 = .ok (.iconst 4, 1) := by decide +kernel
theorem dX2_looseness_85 : decode cX2_looseness 85 = .ok (.ireturn, 1) := by decide +kernel
theorem dX2_looseness_86 : decode cX2_looseness 86 = .ok (.iconst 5, 1) := by decide +kernel
theorem dX2_looseness_87 : decode cX2_looseness 87 = .ok (.ireturn, 1) := by decide +kernel
theorem dX2_readPart_0 : decode cX2_readPart 0 = .ok (.aload_n 0, 1) := by decide +kernel
theorem dX2_readPart_1 : decode cX2_readPart 1 = .ok (.getfield 59, 3) := by decide +kernel
theorem dX2_readPart_4 : decode cX2_readPart 4 = .ok (.bipush (-102), 2) := by decide +kernel
theorem dX2_readPart_6 : decode cX2_readPart 6 = .ok (.if_icmp .eq 12, 3) := by decide +kernel
theorem dX2_readPart_9 : decode cX2_readPart 9 = .ok (.aload_n 0, 1) := by decide +kernel
theorem dX2_readPart_10 : decode cX2_readPart 10 = .ok (.getfield 59, 3) := by decide +kernel
theorem dX2_readPart_13 : decode cX2_readPart 13 = .ok (.bipush (-103), 2) := by decide +kernel
theorem dX2_readPart_15 : decode cX2_readPart 15 = .ok (.if_icmp .ne 51, 3) := by decide +kernel
theorem dX2_readPart_18 : decode cX2_readPart 18 = .ok (.aload_n 0, 1) := by decide +kernel
theorem dX2_readPart_19 : decode cX2_readPart 19 = .ok (.getfield 14, 3) := by decide +kernel
theorem dX2_readPart_22 : decode cX2_readPart 22 = .ok (.getfield 88, 3) := by decide +kernel
theorem dX2_readPart_25 : decode cX2_readPart 25 = .ok (.aload_n 0, 1) := by decide +kernel
theorem dX2_readPart_26 : decode cX2_readPart 26 = .ok (.getfield 49, 3) := by decide +kernel
theorem dX2_readPart_29 : decode cX2_readPart 29 = .ok (.invokevirtual 56, 3) := by decide +kernel
theorem dX2_readPart_32 : decode cX2_readPart 32 = .ok (.istore_n 3, 1) := by decide +kernel
theorem dX2_readPart_33 : decode cX2_readPart 33 = .ok (.aload_n 0, 1) := by decide +kernel
theorem dX2_readPart_34 : decode cX2_readPart 34 = .ok (.getfield 23, 3) := by decide +kernel
theorem dX2_readPart_37 : decode cX2_readPart 37 = .ok (.getfield 126, 3) := by decide +kernel
theorem dX2_readPart_40 : decode cX2_readPart 40 = .ok (.aload_n 0, 1) := by decide +kernel
theorem dX2_readPart_41 : decode cX2_readPart 41 = .ok (.getfield 59, 3) := by decide +kernel
theorem dX2_readPart_44 : decode cX2_readPart 44 = .ok (.bipush (-102), 2) := by decide +kernel
theorem dX2_readPart_46 : decode cX2_readPart 46 = .ok (.if_icmp .ne 7, 3) := by decide +kernel
theorem dX2_readPart_49 : decode cX2_readPart 49 = .ok (.iload_n 3, 1) := by decide +kernel
theorem dX2_readPart_50 : decode cX2_readPart 50 = .ok (.goto 5, 3) := by decide +kernel
theorem dX2_readPart_53 : decode cX2_readPart 53 = .ok (.iload_n 3, 1) := by decide +kernel
theorem dX2_readPart_54 : decode cX2_readPart 54 = .ok (.ineg, 1) := by decide +kernel
theorem dX2_readPart_55 : decode cX2_readPart 55 = .ok (.invokevirtual 94, 3) := by decide +kernel
theorem dX2_readPart_58 : decode cX2_readPart 58 = .ok (.pop, 1) := by decide +kernel
theorem dX2_readPart_59 : decode cX2_readPart 59 = .ok (.aload_n 0, 1) := by decide +kernel
theorem dX2_readPart_60 : decode cX2_readPart 60 = .ok (.invokevirtual 82, 3) := by decide +kernel
theorem dX2_readPart_63 : decode cX2_readPart 63 = .ok (.goto 87, 3) := by decide +kernel
theorem dX2_readPart_66 : decode cX2_readPart 66 = .ok (.aload_n 0, 1) := by decide +kernel
theorem dX2_readPart_67 : decode cX2_readPart 67 = .ok (.getfield 59, 3) := by decide +kernel
theorem dX2_readPart_70 : decode cX2_readPart 70 = .ok (.bipush 33, 2) := by decide +kernel
theorem dX2_readPart_72 : decode cX2_readPart 72 = .ok (.if_icmp .ne 37, 3) := by decide +kernel
theorem dX2_readPart_75 : decode cX2_readPart 75 = .ok (.iload_n 2, 1) := by decide +kernel
theorem dX2_readPart_76 : decode cX2_readPart 76 = .ok (.bipush 8, 2) := by decide +kernel
theorem dX2_readPart_78 : decode cX2_readPart 78 = .ok (.if_icmp .ge 31, 3) := by decide +kernel
theorem dX2_readPart_81 : decode cX2_readPart 81 = .ok (.aload_n 0, 1) := by decide +kernel
theorem dX2_readPart_82 : decode cX2_readPart 82 = .ok (.invokevirtual 82, 3) := by decide +kernel
theorem dX2_readPart_85 : decode cX2_readPart 85 = .ok (.aload_n 0, 1) := by decide +kernel
theorem dX2_readPart_86 : decode cX2_readPart 86 = .ok (.iload_n 1, 1) := by decide +kernel
theorem dX2_readPart_87 : decode cX2_readPart 87 = .ok (.iload_n 2, 1) := by decide +kernel
theorem dX2_readPart_88 : decode cX2_readPart 88 = .ok (.iconst 1, 1) := by decide +kernel
theorem dX2_readPart_89 : decode cX2_readPart 89 = .ok (.iadd, 1) := by decide +kernel
theorem dX2_readPart_90 : decode cX2_readPart 90 = .ok (.invokevirtual 133, 3) := by decide +kernel
theorem dX2_readPart_93 : decode cX2_readPart 93 = .ok (.aload_n 0, 1) := by decide +kernel
theorem dX2_readPart_94 : decode cX2_readPart 94 = .ok (.getfield 23, 3) := by decide +kernel
theorem dX2_readPart_97 : decode cX2_readPart 97 = .ok (.getfield 126, 3) := by decide +kernel
theorem dX2_readPart_100 : decode cX2_readPart 100 = .ok (.bipush (-33), 2) := by decide +kernel
theorem dX2_readPart_102 : decode cX2_readPart 102 = .ok (.invokevirtual 94, 3) := by decide +kernel
theorem dX2_readPart_105 : decode cX2_readPart 105 = .ok (.pop, 1) := by decide +kernel
theorem dX2_readPart_106 : decode cX2_readPart 106 = .ok (.goto 44, 3) := by decide +kernel
theorem dX2_readPart_109 : decode cX2_readPart 109 = .ok (.aload_n 0, 1) := by decide +kernel
theorem dX2_readPart_110 : decode cX2_readPart 110 = .ok (.getfield 59, 3) := by decide +kernel
theorem dX2_readPart_113 : decode cX2_readPart 113 = .ok (.bipush 40, 2) := by decide +kernel
theorem dX2_readPart_115 : decode cX2_readPart 115 = .ok (.if_icmp .ne 31, 3) := by decide +kernel
theorem dX2_readPart_118 : decode cX2_readPart 118 = .ok (.iload_n 1, 1) := by decide +kernel
theorem dX2_readPart_119 : decode cX2_readPart 119 = .ok (.bipush 8, 2) := by decide +kernel
theorem dX2_readPart_121 : decode cX2_readPart 121 = .ok (.if_icmp .ge 25, 3) := by decide +kernel
theorem dX2_readPart_124 : decode cX2_readPart 124 = .ok (.aload_n 0, 1) := by decide +kernel
theorem dX2_readPart_125 : decode cX2_readPart 125 = .ok (.invokevirtual 82, 3) := by decide +kernel
theorem dX2_readPart_128 : decode cX2_readPart 128 = .ok (.aload_n 0, 1) := by decide +kernel
theorem dX2_readPart_129 : decode cX2_readPart 129 = .ok (.iconst 0, 1) := by decide +kernel
theorem dX2_readPart_130 : decode cX2_readPart 130 = .ok (.iload_n 1, 1) := by decide +kernel
theorem dX2_readPart_131 : decode cX2_readPart 131 = .ok (.iconst 1, 1) := by decide +kernel
theorem dX2_readPart_132 : decode cX2_readPart 132 = .ok (.iadd, 1) := by decide +kernel
theorem dX2_readPart_133 : decode cX2_readPart 133 = .ok (.iload_n 2, 1) := by decide +kernel
theorem dX2_readPart_134 : decode cX2_readPart 134 = .ok (.invokevirtual 129, 3) := by decide +kernel
theorem dX2_readPart_137 : decode cX2_readPart 137 = .ok (.aload_n 0, 1) := by decide +kernel
theorem dX2_readPart_138 : decode cX2_readPart 138 = .ok (.bipush 41, 2) := by decide +kernel
theorem dX2_readPart_140 : decode cX2_readPart 140 = .ok (.invokevirtual 91, 3) := by decide +kernel
theorem dX2_readPart_143 : decode cX2_readPart 143 = .ok (.goto 7, 3) := by decide +kernel
theorem dX2_readPart_146 : decode cX2_readPart 146 = .ok (.aload_n 0, 1) := by decide +kernel
theorem dX2_readPart_147 : decode cX2_readPart 147 = .ok (.invokevirtual 85, 3) := by decide +kernel
theorem dX2_readPart_150 : decode cX2_readPart 150 = .ok (.return_, 1) := by decide +kernel
theorem dX3_init_0 : decode cX3_init 0 = .ok (.aload_n 0, 1) := by decide +kernel
theorem dX3_init_1 : decode cX3_init 1 = .ok (.invokespecial 3, 3) := by decide +kernel
theorem dX3_init_4 : decode cX3_init 4 = .ok (.aload_n 0, 1) := by decide +kernel
theorem dX3_init_5 : decode cX3_init 5 = .ok (.new 9, 3) := by decide +kernel
theorem dX3_init_8 : decode cX3_init 8 = .ok (.dup, 1) := by decide +kernel
theorem dX3_init_9 : decode cX3_init 9 = .ok (.bipush 8, 2) := by decide +kernel
theorem dX3_init_11 : decode cX3_init 11 = .ok (.invokespecial 11, 3) := by decide +kernel
theorem dX3_init_14 : decode cX3_init 14 = .ok (.putfield 14, 3) := by decide +kernel
theorem dX3_init_17 : decode cX3_init 17 = .ok (.aload_n 0, 1) := by decide +kernel
theorem dX3_init_18 : decode cX3_init 18 = .ok (.new 9, 3) := by decide +kernel
theorem dX3_init_21 : decode cX3_init 21 = .ok (.dup, 1) := by decide +kernel
theorem dX3_init_22 : decode cX3_init 22 = .ok (.bipush 8, 2) := by decide +kernel
theorem dX3_init_24 : decode cX3_init 24 = .ok (.invokespecial 11, 3) := by decide +kernel
theorem dX3_init_27 : decode cX3_init 27 = .ok (.putfield 20, 3) := by decide +kernel
theorem dX3_init_30 : decode cX3_init 30 = .ok (.aload_n 0, 1) := by decide +kernel
theorem dX3_init_31 : decode cX3_init 31 = .ok (.iconst 0, 1) := by decide +kernel
theorem dX3_init_32 : decode cX3_init 32 = .ok (.putfield 23, 3) := by decide +kernel
theorem dX3_init_35 : decode cX3_init 35 = .ok (.aload_n 0, 1) := by decide +kernel
theorem dX3_init_36 : decode cX3_init 36 = .ok (.bipush 14, 2) := by decide +kernel
theorem dX3_init_38 : decode cX3_init 38 = .ok (.putfield 27, 3) := by decide +kernel
theorem dX3_init_41 : decode cX3_init 41 = .ok (.aload_n 0, 1) := by decide +kernel
theorem dX3_init_42 : decode cX3_init 42 = .ok (.bipush 14, 2) := by decide +kernel
theorem dX3_init_44 : decode cX3_init 44 = .ok (.putfield 30, 3) := by decide +kernel
theorem dX3_init_47 : decode cX3_init 47 = .ok (.aload_n 0, 1) := by decide +kernel
theorem dX3_init_48 : decode cX3_init 48 = .ok (.bipush 100, 2) := by decide +kernel
theorem dX3_init_50 : decode cX3_init 50 = .ok (.putfield 33, 3) := by decide +kernel
theorem dX3_init_53 : decode cX3_init 53 = .ok (.aload_n 0, 1) := by decide +kernel
theorem dX3_init_54 : decode cX3_init 54 = .ok (.bipush 10, 2) := by decide +kernel
theorem dX3_init_56 : decode cX3_init 56 = .ok (.putfield 36, 3) := by decide +kernel
theorem dX3_init_59 : decode cX3_init 59 = .ok (.aload_n 0, 1) := by decide +kernel
theorem dX3_init_60 : decode cX3_init 60 = .ok (.iconst 3, 1) := by decide +kernel
theorem dX3_init_61 : decode cX3_init 61 = .ok (.putfield 39, 3) := by decide +kernel
theorem dX3_init_64 : decode cX3_init 64 = .ok (.aload_n 0, 1) := by decide +kernel
theorem dX3_init_65 : decode cX3_init 65 = .ok (.iconst 0, 1) := by decide +kernel
theorem dX3_init_66 : decode cX3_init 66 = .ok (.putfield 42, 3) := by decide +kernel
theorem dX3_init_69 : decode cX3_init 69 = .ok (.aload_n 0, 1) := by decide +kernel
theorem dX3_init_70 : decode cX3_init 70 = .ok (.iconst 0, 1) := by decide +kernel
theorem dX3_init_71 : decode cX3_init 71 = .ok (.putfield 45, 3) := by decide +kernel
theorem dX3_init_74 : decode cX3_init 74 = .ok (.return_, 1) := by decide +kernel
theorem dX3_become_0 : decode cX3_become 0 = .ok (.aload_n 0, 1) := by decide +kernel
theorem dX3_become_1 : decode cX3_become 1 = .ok (.aload_n 1, 1) := by decide +kernel
theorem dX3_become_2 : decode cX3_become 2 = .ok (.getfield 23, 3) := by decide +kernel
theorem dX3_become_5 : decode cX3_become 5 = .ok (.putfield 23, 3) := by decide +kernel
theorem dX3_become_8 : decode cX3_become 8 = .ok (.aload_n 0, 1) := by decide +kernel
theorem dX3_become_9 : decode cX3_become 9 = .ok (.aload_n 1, 1) := by decide +kernel
theorem dX3_become_10 : decode cX3_become 10 = .ok (.getfield 27, 3) := by decide +kernel
theorem dX3_become_13 : decode cX3_become 13 = .ok (.putfield 27, 3) := by decide +kernel
theorem dX3_become_16 : decode cX3_become 16 = .ok (.aload_n 0, 1) := by decide +kernel
theorem dX3_become_17 : decode cX3_become 17 = .ok (.aload_n 1, 1) := by decide +kernel
theorem dX3_become_18 : decode cX3_become 18 = .ok (.getfield 30, 3) := by decide +kernel
theorem dX3_become_21 : decode cX3_become 21 = .ok (.putfield 30, 3) := by decide +kernel
theorem dX3_become_24 : decode cX3_become 24 = .ok (.aload_n 0, 1) := by decide +kernel
theorem dX3_become_25 : decode cX3_become 25 = .ok (.aload_n 1, 1) := by decide +kernel
theorem dX3_become_26 : decode cX3_become 26 = .ok (.getfield 33, 3) := by decide +kernel
theorem dX3_become_29 : decode cX3_become 29 = .ok (.putfield 33, 3) := by decide +kernel
theorem dX3_become_32 : decode cX3_become 32 = .ok (.aload_n 0, 1) := by decide +kernel
theorem dX3_become_33 : decode cX3_become 33 = .ok (.aload_n 1, 1) := by decide +kernel
theorem dX3_become_34 : decode cX3_become 34 = .ok (.getfield 36, 3) := by decide +kernel
theorem dX3_become_37 : decode cX3_become 37 = .ok (.putfield 36, 3) := by decide +kernel
theorem dX3_become_40 : decode cX3_become 40 = .ok (.aload_n 0, 1) := by decide +kernel
theorem dX3_become_41 : decode cX3_become 41 = .ok (.aload_n 1, 1) := by decide +kernel
theorem dX3_become_42 : decode cX3_become 42 = .ok (.getfield 39, 3) := by decide +kernel
theorem dX3_become_45 : decode cX3_become 45 = .ok (.putfield 39, 3) := by decide +kernel
theorem dX3_become_48 : decode cX3_become 48 = .ok (.aload_n 0, 1) := by decide +kernel
theorem dX3_become_49 : decode cX3_become 49 = .ok (.aload_n 1, 1) := by decide +kernel
theorem dX3_become_50 : decode cX3_become 50 = .ok (.getfield 42, 3) := by decide +kernel
theorem dX3_become_53 : decode cX3_become 53 = .ok (.putfield 42, 3) := by decide +kernel
theorem dX3_become_56 : decode cX3_become 56 = .ok (.aload_n 0, 1) := by decide +kernel
theorem dX3_become_57 : decode cX3_become 57 = .ok (.aload_n 1, 1) := by decide +kernel
theorem dX3_become_58 : decode cX3_become 58 = .ok (.getfield 45, 3) := by decide +kernel
theorem dX3_become_61 : decode cX3_become 61 = .ok (.putfield 45, 3) := by decide +kernel
theorem dX3_become_64 : decode cX3_become 64 = .ok (.aload_n 0, 1) := by decide +kernel
theorem dX3_become_65 : decode cX3_become 65 = .ok (.getfield 14, 3) := by decide +kernel
theorem dX3_become_68 : decode cX3_become 68 = .ok (.aload_n 1, 1) := by decide +kernel
theorem dX3_become_69 : decode cX3_become 69 = .ok (.getfield 14, 3) := by decide +kernel
theorem dX3_become_72 : decode cX3_become 72 = .ok (.invokevirtual 48, 3) := by decide +kernel
theorem dX3_become_75 : decode cX3_become 75 = .ok (.aload_n 0, 1) := by decide +kernel
theorem dX3_become_76 : decode cX3_become 76 = .ok (.getfield 20, 3) := by decide +kernel
theorem dX3_become_79 : decode cX3_become 79 = .ok (.aload_n 1, 1) := by decide +kernel
theorem dX3_become_80 : decode cX3_become 80 = .ok (.getfield 20, 3) := by decide +kernel
theorem dX3_become_83 : decode cX3_become 83 = .ok (.invokevirtual 48, 3) := by decide +kernel
theorem dX3_become_86 : decode cX3_become 86 = .ok (.return_, 1) := by decide +kernel
theorem dX3_change_0 : decode cX3_change 0 = .ok (.iload_n 1, 1) := by decide +kernel
theorem dX3_change_1 : decode cX3_change 1 = .ok (.tableswitch 79 0 3 #[31, 43, 55, 67], 31) := by decide +kernel
theorem dX3_change_32 : decode cX3_change 32 = .ok (.aload_n 0, 1) := by decide +kernel
theorem dX3_change_33 : decode cX3_change 33 = .ok (.getfield 27, 3) := by decide +kernel
theorem dX3_change_36 : decode cX3_change 36 = .ok (.istore_n 3, 1) := by decide +kernel
theorem dX3_change_37 : decode cX3_change 37 = .ok (.aload_n 0, 1) := by decide +kernel
theorem dX3_change_38 : decode cX3_change 38 = .ok (.iload_n 2, 1) := by decide +kernel
theorem dX3_change_39 : decode cX3_change 39 = .ok (.putfield 27, 3) := by decide +kernel
theorem dX3_change_42 : decode cX3_change 42 = .ok (.iload_n 3, 1) := by decide +kernel
theorem dX3_change_43 : decode cX3_change 43 = .ok (.ireturn, 1) := by decide +kernel
theorem dX3_change_44 : decode cX3_change 44 = .ok (.aload_n 0, 1) := by decide +kernel
theorem dX3_change_45 : decode cX3_change 45 = .ok (.getfield 30, 3) := by decide +kernel
theorem dX3_change_48 : decode cX3_change 48 = .ok (.istore_n 3, 1) := by decide +kernel
theorem dX3_change_49 : decode cX3_change 49 = .ok (.aload_n 0, 1) := by decide +kernel
theorem dX3_change_50 : decode cX3_change 50 = .ok (.iload_n 2, 1) := by decide +kernel
theorem dX3_change_51 : decode cX3_change 51 = .ok (.putfield 30, 3) := by decide +kernel
theorem dX3_change_54 : decode cX3_change 54 = .ok (.iload_n 3, 1) := by decide +kernel
theorem dX3_change_55 : decode cX3_change 55 = .ok (.ireturn, 1) := by decide +kernel
theorem dX3_change_56 : decode cX3_change 56 = .ok (.aload_n 0, 1) := by decide +kernel
theorem dX3_change_57 : decode cX3_change 57 = .ok (.getfield 33, 3) := by decide +kernel
theorem dX3_change_60 : decode cX3_change 60 = .ok (.istore_n 3, 1) := by decide +kernel
theorem dX3_change_61 : decode cX3_change 61 = .ok (.aload_n 0, 1) := by decide +kernel
theorem dX3_change_62 : decode cX3_change 62 = .ok (.iload_n 2, 1) := by decide +kernel
theorem dX3_change_63 : decode cX3_change 63 = .ok (.putfield 33, 3) := by decide +kernel
theorem dX3_change_66 : decode cX3_change 66 = .ok (.iload_n 3, 1) := by decide +kernel
theorem dX3_change_67 : decode cX3_change 67 = .ok (.ireturn, 1) := by decide +kernel
theorem dX3_change_68 : decode cX3_change 68 = .ok (.aload_n 0, 1) := by decide +kernel
theorem dX3_change_69 : decode cX3_change 69 = .ok (.getfield 36, 3) := by decide +kernel
theorem dX3_change_72 : decode cX3_change 72 = .ok (.istore_n 3, 1) := by decide +kernel
theorem dX3_change_73 : decode cX3_change 73 = .ok (.aload_n 0, 1) := by decide +kernel
theorem dX3_change_74 : decode cX3_change 74 = .ok (.iload_n 2, 1) := by decide +kernel
theorem dX3_change_75 : decode cX3_change 75 = .ok (.putfield 36, 3) := by decide +kernel
theorem dX3_change_78 : decode cX3_change 78 = .ok (.iload_n 3, 1) := by decide +kernel
theorem dX3_change_79 : decode cX3_change 79 = .ok (.ireturn, 1) := by decide +kernel
theorem dX3_change_80 : decode cX3_change 80 = .ok (.aload_n 0, 1) := by decide +kernel
theorem dX3_change_81 : decode cX3_change 81 = .ok (.getfield 39, 3) := by decide +kernel
theorem dX3_change_84 : decode cX3_change 84 = .ok (.istore_n 3, 1) := by decide +kernel
theorem dX3_change_85 : decode cX3_change 85 = .ok (.aload_n 0, 1) := by decide +kernel
theorem dX3_change_86 : decode cX3_change 86 = .ok (.iload_n 2, 1) := by decide +kernel
theorem dX3_change_87 : decode cX3_change 87 = .ok (.putfield 39, 3) := by decide +kernel
theorem dX3_change_90 : decode cX3_change 90 = .ok (.iload_n 3, 1) := by decide +kernel
theorem dX3_change_91 : decode cX3_change 91 = .ok (.ireturn, 1) := by decide +kernel
theorem dX3_hour_0 : decode cX3_hour 0 = .ok (.aload_n 0, 1) := by decide +kernel
theorem dX3_hour_1 : decode cX3_hour 1 = .ok (.getfield 27, 3) := by decide +kernel
theorem dX3_hour_4 : decode cX3_hour 4 = .ok (.aload_n 0, 1) := by decide +kernel
theorem dX3_hour_5 : decode cX3_hour 5 = .ok (.getfield 30, 3) := by decide +kernel
theorem dX3_hour_8 : decode cX3_hour 8 = .ok (.iadd, 1) := by decide +kernel
theorem dX3_hour_9 : decode cX3_hour 9 = .ok (.istore_n 1, 1) := by decide +kernel
theorem dX3_hour_10 : decode cX3_hour 10 = .ok (.iload_n 1, 1) := by decide +kernel
theorem dX3_hour_11 : decode cX3_hour 11 = .ok (.ifCond .le 12, 3) := by decide +kernel
theorem dX3_hour_14 : decode cX3_hour 14 = .ok (.aload_n 0, 1) := by decide +kernel
theorem dX3_hour_15 : decode cX3_hour 15 = .ok (.getfield 23, 3) := by decide +kernel
theorem dX3_hour_18 : decode cX3_hour 18 = .ok (.iload_n 1, 1) := by decide +kernel
theorem dX3_hour_19 : decode cX3_hour 19 = .ok (.irem, 1) := by decide +kernel
theorem dX3_hour_20 : decode cX3_hour 20 = .ok (.goto 4, 3) := by decide +kernel
theorem dX3_hour_23 : decode cX3_hour 23 = .ok (.iconst 0, 1) := by decide +kernel
theorem dX3_hour_24 : decode cX3_hour 24 = .ok (.ireturn, 1) := by decide +kernel
theorem dX3_isLight_0 : decode cX3_isLight 0 = .ok (.aload_n 0, 1) := by decide +kernel
theorem dX3_isLight_1 : decode cX3_isLight 1 = .ok (.invokevirtual 52, 3) := by decide +kernel
theorem dX3_isLight_4 : decode cX3_isLight 4 = .ok (.aload_n 0, 1) := by decide +kernel
theorem dX3_isLight_5 : decode cX3_isLight 5 = .ok (.getfield 27, 3) := by decide +kernel
theorem dX3_isLight_8 : decode cX3_isLight 8 = .ok (.if_icmp .ge 7, 3) := by decide +kernel
theorem dX3_isLight_11 : decode cX3_isLight 11 = .ok (.iconst 1, 1) := by decide +kernel
theorem dX3_isLight_12 : decode cX3_isLight 12 = .ok (.goto 4, 3) := by decide +kernel
theorem dX3_isLight_15 : decode cX3_isLight 15 = .ok (.iconst 0, 1) := by decide +kernel
theorem dX3_isLight_16 : decode cX3_isLight 16 = .ok (.ireturn, 1) := by decide +kernel
theorem dX3_loads_0 : decode cX3_loads 0 = .ok (.aload_n 0, 1) := by decide +kernel
theorem dX3_loads_1 : decode cX3_loads 1 = .ok (.getfield 14, 3) := by decide +kernel
theorem dX3_loads_4 : decode cX3_loads 4 = .ok (.invokevirtual 56, 3) := by decide +kernel
theorem dX3_loads_7 : decode cX3_loads 7 = .ok (.ireturn, 1) := by decide +kernel
theorem dX3_addLoad_0 : decode cX3_addLoad 0 = .ok (.aload_n 0, 1) := by decide +kernel
theorem dX3_addLoad_1 : decode cX3_addLoad 1 = .ok (.getfield 14, 3) := by decide +kernel
theorem dX3_addLoad_4 : decode cX3_addLoad 4 = .ok (.iload_n 1, 1) := by decide +kernel
theorem dX3_addLoad_5 : decode cX3_addLoad 5 = .ok (.invokevirtual 59, 3) := by decide +kernel
theorem dX3_addLoad_8 : decode cX3_addLoad 8 = .ok (.pop, 1) := by decide +kernel
theorem dX3_addLoad_9 : decode cX3_addLoad 9 = .ok (.aload_n 0, 1) := by decide +kernel
theorem dX3_addLoad_10 : decode cX3_addLoad 10 = .ok (.getfield 20, 3) := by decide +kernel
theorem dX3_addLoad_13 : decode cX3_addLoad 13 = .ok (.iload_n 2, 1) := by decide +kernel
theorem dX3_addLoad_14 : decode cX3_addLoad 14 = .ok (.invokevirtual 59, 3) := by decide +kernel
theorem dX3_addLoad_17 : decode cX3_addLoad 17 = .ok (.pop, 1) := by decide +kernel
theorem dX3_addLoad_18 : decode cX3_addLoad 18 = .ok (.aload_n 0, 1) := by decide +kernel
theorem dX3_addLoad_19 : decode cX3_addLoad 19 = .ok (.invokevirtual 63, 3) := by decide +kernel
theorem dX3_addLoad_22 : decode cX3_addLoad 22 = .ok (.iconst 1, 1) := by decide +kernel
theorem dX3_addLoad_23 : decode cX3_addLoad 23 = .ok (.isub, 1) := by decide +kernel
theorem dX3_addLoad_24 : decode cX3_addLoad 24 = .ok (.ireturn, 1) := by decide +kernel
theorem dX3_taken_0 : decode cX3_taken 0 = .ok (.iconst 0, 1) := by decide +kernel
theorem dX3_taken_1 : decode cX3_taken 1 = .ok (.istore_n 2, 1) := by decide +kernel
theorem dX3_taken_2 : decode cX3_taken 2 = .ok (.iconst 0, 1) := by decide +kernel
theorem dX3_taken_3 : decode cX3_taken 3 = .ok (.istore_n 3, 1) := by decide +kernel
theorem dX3_taken_4 : decode cX3_taken 4 = .ok (.iload_n 3, 1) := by decide +kernel
theorem dX3_taken_5 : decode cX3_taken 5 = .ok (.aload_n 0, 1) := by decide +kernel
theorem dX3_taken_6 : decode cX3_taken 6 = .ok (.getfield 14, 3) := by decide +kernel
theorem dX3_taken_9 : decode cX3_taken 9 = .ok (.invokevirtual 56, 3) := by decide +kernel
theorem dX3_taken_12 : decode cX3_taken 12 = .ok (.if_icmp .ge 28, 3) := by decide +kernel
theorem dX3_taken_15 : decode cX3_taken 15 = .ok (.iload_n 1, 1) := by decide +kernel
theorem dX3_taken_16 : decode cX3_taken 16 = .ok (.iconst 1, 1) := by decide +kernel
theorem dX3_taken_17 : decode cX3_taken 17 = .ok (.iload_n 3, 1) := by decide +kernel
theorem dX3_taken_18 : decode cX3_taken 18 = .ok (.ishl, 1) := by decide +kernel
theorem dX3_taken_19 : decode cX3_taken 19 = .ok (.iand, 1) := by decide +kernel
theorem dX3_taken_20 : decode cX3_taken 20 = .ok (.ifCond .ne 14, 3) := by decide +kernel
theorem dX3_taken_23 : decode cX3_taken 23 = .ok (.iload_n 2, 1) := by decide +kernel
theorem dX3_taken_24 : decode cX3_taken 24 = .ok (.aload_n 0, 1) := by decide +kernel
theorem dX3_taken_25 : decode cX3_taken 25 = .ok (.getfield 14, 3) := by decide +kernel
theorem dX3_taken_28 : decode cX3_taken 28 = .ok (.iload_n 3, 1) := by decide +kernel
theorem dX3_taken_29 : decode cX3_taken 29 = .ok (.invokevirtual 66, 3) := by decide +kernel
theorem dX3_taken_32 : decode cX3_taken 32 = .ok (.iadd, 1) := by decide +kernel
theorem dX3_taken_33 : decode cX3_taken 33 = .ok (.istore_n 2, 1) := by decide +kernel
theorem dX3_taken_34 : decode cX3_taken 34 = .ok (.iinc 3 1, 3) := by decide +kernel
theorem dX3_taken_37 : decode cX3_taken 37 = .ok (.goto (-33), 3) := by decide +kernel
theorem dX3_taken_40 : decode cX3_taken 40 = .ok (.iload_n 2, 1) := by decide +kernel
theorem dX3_taken_41 : decode cX3_taken 41 = .ok (.ireturn, 1) := by decide +kernel
theorem dX3_harmOf_0 : decode cX3_harmOf 0 = .ok (.iconst 0, 1) := by decide +kernel
theorem dX3_harmOf_1 : decode cX3_harmOf 1 = .ok (.istore_n 2, 1) := by decide +kernel
theorem dX3_harmOf_2 : decode cX3_harmOf 2 = .ok (.iconst 0, 1) := by decide +kernel
theorem dX3_harmOf_3 : decode cX3_harmOf 3 = .ok (.istore_n 3, 1) := by decide +kernel
theorem dX3_harmOf_4 : decode cX3_harmOf 4 = .ok (.iload_n 3, 1) := by decide +kernel
theorem dX3_harmOf_5 : decode cX3_harmOf 5 = .ok (.aload_n 0, 1) := by decide +kernel
theorem dX3_harmOf_6 : decode cX3_harmOf 6 = .ok (.getfield 20, 3) := by decide +kernel
theorem dX3_harmOf_9 : decode cX3_harmOf 9 = .ok (.invokevirtual 56, 3) := by decide +kernel
theorem dX3_harmOf_12 : decode cX3_harmOf 12 = .ok (.if_icmp .ge 28, 3) := by decide +kernel
theorem dX3_harmOf_15 : decode cX3_harmOf 15 = .ok (.iload_n 1, 1) := by decide +kernel
theorem dX3_harmOf_16 : decode cX3_harmOf 16 = .ok (.iconst 1, 1) := by decide +kernel
theorem dX3_harmOf_17 : decode cX3_harmOf 17 = .ok (.iload_n 3, 1) := by decide +kernel
theorem dX3_harmOf_18 : decode cX3_harmOf 18 = .ok (.ishl, 1) := by decide +kernel
theorem dX3_harmOf_19 : decode cX3_harmOf 19 = .ok (.iand, 1) := by decide +kernel
theorem dX3_harmOf_20 : decode cX3_harmOf 20 = .ok (.ifCond .eq 14, 3) := by decide +kernel
theorem dX3_harmOf_23 : decode cX3_harmOf 23 = .ok (.iload_n 2, 1) := by decide +kernel
theorem dX3_harmOf_24 : decode cX3_harmOf 24 = .ok (.aload_n 0, 1) := by decide +kernel
theorem dX3_harmOf_25 : decode cX3_harmOf 25 = .ok (.getfield 20, 3) := by decide +kernel
theorem dX3_harmOf_28 : decode cX3_harmOf 28 = .ok (.iload_n 3, 1) := by decide +kernel
theorem dX3_harmOf_29 : decode cX3_harmOf 29 = .ok (.invokevirtual 66, 3) := by decide +kernel
theorem dX3_harmOf_32 : decode cX3_harmOf 32 = .ok (.iadd, 1) := by decide +kernel
theorem dX3_harmOf_33 : decode cX3_harmOf 33 = .ok (.istore_n 2, 1) := by decide +kernel
theorem dX3_harmOf_34 : decode cX3_harmOf 34 = .ok (.iinc 3 1, 3) := by decide +kernel
theorem dX3_harmOf_37 : decode cX3_harmOf 37 = .ok (.goto (-33), 3) := by decide +kernel
theorem dX3_harmOf_40 : decode cX3_harmOf 40 = .ok (.iload_n 2, 1) := by decide +kernel
theorem dX3_harmOf_41 : decode cX3_harmOf 41 = .ok (.ireturn, 1) := by decide +kernel
theorem dX3_shine_0 : decode cX3_shine 0 = .ok (.aload_n 0, 1) := by decide +kernel
theorem dX3_shine_1 : decode cX3_shine 1 = .ok (.sipush 9999, 3) := by decide +kernel
theorem dX3_shine_4 : decode cX3_shine 4 = .ok (.aload_n 0, 1) := by decide +kernel
theorem dX3_shine_5 : decode cX3_shine 5 = .ok (.getfield 33, 3) := by decide +kernel
theorem dX3_shine_8 : decode cX3_shine 8 = .ok (.aload_n 0, 1) := by decide +kernel
theorem dX3_shine_9 : decode cX3_shine 9 = .ok (.getfield 36, 3) := by decide +kernel
theorem dX3_shine_12 : decode cX3_shine 12 = .ok (.iadd, 1) := by decide +kernel
theorem dX3_shine_13 : decode cX3_shine 13 = .ok (.invokestatic 70, 3) := by decide +kernel
theorem dX3_shine_16 : decode cX3_shine 16 = .ok (.putfield 33, 3) := by decide +kernel
theorem dX3_shine_19 : decode cX3_shine 19 = .ok (.return_, 1) := by decide +kernel
theorem dX3_payLoads_0 : decode cX3_payLoads 0 = .ok (.iconst 0, 1) := by decide +kernel
theorem dX3_payLoads_1 : decode cX3_payLoads 1 = .ok (.istore_n 1, 1) := by decide +kernel
theorem dX3_payLoads_2 : decode cX3_payLoads 2 = .ok (.iconst 0, 1) := by decide +kernel
theorem dX3_payLoads_3 : decode cX3_payLoads 3 = .ok (.istore_n 2, 1) := by decide +kernel
theorem dX3_payLoads_4 : decode cX3_payLoads 4 = .ok (.iload_n 2, 1) := by decide +kernel
theorem dX3_payLoads_5 : decode cX3_payLoads 5 = .ok (.aload_n 0, 1) := by decide +kernel
theorem dX3_payLoads_6 : decode cX3_payLoads 6 = .ok (.invokevirtual 63, 3) := by decide +kernel
theorem dX3_payLoads_9 : decode cX3_payLoads 9 = .ok (.if_icmp .ge 31, 3) := by decide +kernel
theorem dX3_payLoads_12 : decode cX3_payLoads 12 = .ok (.aload_n 0, 1) := by decide +kernel
theorem dX3_payLoads_13 : decode cX3_payLoads 13 = .ok (.iload_n 1, 1) := by decide +kernel
theorem dX3_payLoads_14 : decode cX3_payLoads 14 = .ok (.invokevirtual 76, 3) := by decide +kernel
theorem dX3_payLoads_17 : decode cX3_payLoads 17 = .ok (.aload_n 0, 1) := by decide +kernel
theorem dX3_payLoads_18 : decode cX3_payLoads 18 = .ok (.getfield 33, 3) := by decide +kernel
theorem dX3_payLoads_21 : decode cX3_payLoads 21 = .ok (.if_icmp .le 19, 3) := by decide +kernel
theorem dX3_payLoads_24 : decode cX3_payLoads 24 = .ok (.iload_n 1, 1) := by decide +kernel
theorem dX3_payLoads_25 : decode cX3_payLoads 25 = .ok (.iconst 1, 1) := by decide +kernel
theorem dX3_payLoads_26 : decode cX3_payLoads 26 = .ok (.aload_n 0, 1) := by decide +kernel
theorem dX3_payLoads_27 : decode cX3_payLoads 27 = .ok (.iload_n 1, 1) := by decide +kernel
theorem dX3_payLoads_28 : decode cX3_payLoads 28 = .ok (.invokevirtual 79, 3) := by decide +kernel
theorem dX3_payLoads_31 : decode cX3_payLoads 31 = .ok (.ishl, 1) := by decide +kernel
theorem dX3_payLoads_32 : decode cX3_payLoads 32 = .ok (.ior, 1) := by decide +kernel
theorem dX3_payLoads_33 : decode cX3_payLoads 33 = .ok (.istore_n 1, 1) := by decide +kernel
theorem dX3_payLoads_34 : decode cX3_payLoads 34 = .ok (.iinc 2 1, 3) := by decide +kernel
theorem dX3_payLoads_37 : decode cX3_payLoads 37 = .ok (.goto (-33), 3) := by decide +kernel
theorem dX3_payLoads_40 : decode cX3_payLoads 40 = .ok (.aload_n 0, 1) := by decide +kernel
theorem dX3_payLoads_41 : decode cX3_payLoads 41 = .ok (.iload_n 1, 1) := by decide +kernel
theorem dX3_payLoads_42 : decode cX3_payLoads 42 = .ok (.putfield 45, 3) := by decide +kernel
theorem dX3_payLoads_45 : decode cX3_payLoads 45 = .ok (.aload_n 0, 1) := by decide +kernel
theorem dX3_payLoads_46 : decode cX3_payLoads 46 = .ok (.dup, 1) := by decide +kernel
theorem dX3_payLoads_47 : decode cX3_payLoads 47 = .ok (.getfield 42, 3) := by decide +kernel
theorem dX3_payLoads_50 : decode cX3_payLoads 50 = .ok (.aload_n 0, 1) := by decide +kernel
theorem dX3_payLoads_51 : decode cX3_payLoads 51 = .ok (.iload_n 1, 1) := by decide +kernel
theorem dX3_payLoads_52 : decode cX3_payLoads 52 = .ok (.invokevirtual 82, 3) := by decide +kernel
theorem dX3_payLoads_55 : decode cX3_payLoads 55 = .ok (.iadd, 1) := by decide +kernel
theorem dX3_payLoads_56 : decode cX3_payLoads 56 = .ok (.putfield 42, 3) := by decide +kernel
theorem dX3_payLoads_59 : decode cX3_payLoads 59 = .ok (.aload_n 0, 1) := by decide +kernel
theorem dX3_payLoads_60 : decode cX3_payLoads 60 = .ok (.dup, 1) := by decide +kernel
theorem dX3_payLoads_61 : decode cX3_payLoads 61 = .ok (.getfield 33, 3) := by decide +kernel
theorem dX3_payLoads_64 : decode cX3_payLoads 64 = .ok (.aload_n 0, 1) := by decide +kernel
theorem dX3_payLoads_65 : decode cX3_payLoads 65 = .ok (.iload_n 1, 1) := by decide +kernel
theorem dX3_payLoads_66 : decode cX3_payLoads 66 = .ok (.invokevirtual 76, 3) := by decide +kernel
theorem dX3_payLoads_69 : decode cX3_payLoads 69 = .ok (.isub, 1) := by decide +kernel
theorem dX3_payLoads_70 : decode cX3_payLoads 70 = .ok (.putfield 33, 3) := by decide +kernel
theorem dX3_payLoads_73 : decode cX3_payLoads 73 = .ok (.return_, 1) := by decide +kernel
theorem dX3_leastHarmful_0 : decode cX3_leastHarmful 0 = .ok (.iconst (-1), 1) := by decide +kernel
theorem dX3_leastHarmful_1 : decode cX3_leastHarmful 1 = .ok (.istore_n 2, 1) := by decide +kernel
theorem dX3_leastHarmful_2 : decode cX3_leastHarmful 2 = .ok (.iconst 0, 1) := by decide +kernel
theorem dX3_leastHarmful_3 : decode cX3_leastHarmful 3 = .ok (.istore_n 3, 1) := by decide +kernel
theorem dX3_leastHarmful_4 : decode cX3_leastHarmful 4 = .ok (.iload_n 3, 1) := by decide +kernel
theorem dX3_leastHarmful_5 : decode cX3_leastHarmful 5 = .ok (.aload_n 0, 1) := by decide +kernel
theorem dX3_leastHarmful_6 : decode cX3_leastHarmful 6 = .ok (.invokevirtual 63, 3) := by decide +kernel
theorem dX3_leastHarmful_9 : decode cX3_leastHarmful 9 = .ok (.if_icmp .ge 54, 3) := by decide +kernel
theorem dX3_leastHarmful_12 : decode cX3_leastHarmful 12 = .ok (.iload_n 1, 1) := by decide +kernel
theorem dX3_leastHarmful_13 : decode cX3_leastHarmful 13 = .ok (.iconst 1, 1) := by decide +kernel
theorem dX3_leastHarmful_14 : decode cX3_leastHarmful 14 = .ok (.iload_n 3, 1) := by decide +kernel
theorem dX3_leastHarmful_15 : decode cX3_leastHarmful 15 = .ok (.ishl, 1) := by decide +kernel
theorem dX3_leastHarmful_16 : decode cX3_leastHarmful 16 = .ok (.iand, 1) := by decide +kernel
theorem dX3_leastHarmful_17 : decode cX3_leastHarmful 17 = .ok (.ifCond .ne 7, 3) := by decide +kernel
theorem dX3_leastHarmful_20 : decode cX3_leastHarmful 20 = .ok (.iconst 1, 1) := by decide +kernel
theorem dX3_leastHarmful_21 : decode cX3_leastHarmful 21 = .ok (.goto 4, 3) := by decide +kernel
theorem dX3_leastHarmful_24 : decode cX3_leastHarmful 24 = .ok (.iconst 0, 1) := by decide +kernel
theorem dX3_leastHarmful_25 : decode cX3_leastHarmful 25 = .ok (.istore 4, 2) := by decide +kernel
theorem dX3_leastHarmful_27 : decode cX3_leastHarmful 27 = .ok (.iload 4, 2) := by decide +kernel
theorem dX3_leastHarmful_29 : decode cX3_leastHarmful 29 = .ok (.ifCond .eq 28, 3) := by decide +kernel
theorem dX3_leastHarmful_32 : decode cX3_leastHarmful 32 = .ok (.iload_n 2, 1) := by decide +kernel
theorem dX3_leastHarmful_33 : decode cX3_leastHarmful 33 = .ok (.ifCond .lt 22, 3) := by decide +kernel
theorem dX3_leastHarmful_36 : decode cX3_leastHarmful 36 = .ok (.aload_n 0, 1) := by decide +kernel
theorem dX3_leastHarmful_37 : decode cX3_leastHarmful 37 = .ok (.getfield 20, 3) := by decide +kernel
theorem dX3_leastHarmful_40 : decode cX3_leastHarmful 40 = .ok (.iload_n 3, 1) := by decide +kernel
theorem dX3_leastHarmful_41 : decode cX3_leastHarmful 41 = .ok (.invokevirtual 66, 3) := by decide +kernel
theorem dX3_leastHarmful_44 : decode cX3_leastHarmful 44 = .ok (.aload_n 0, 1) := by decide +kernel
theorem dX3_leastHarmful_45 : decode cX3_leastHarmful 45 = .ok (.getfield 20, 3) := by decide +kernel
theorem dX3_leastHarmful_48 : decode cX3_leastHarmful 48 = .ok (.iload_n 2, 1) := by decide +kernel
theorem dX3_leastHarmful_49 : decode cX3_leastHarmful 49 = .ok (.invokevirtual 66, 3) := by decide +kernel
theorem dX3_leastHarmful_52 : decode cX3_leastHarmful 52 = .ok (.if_icmp .ge 5, 3) := by decide +kernel
theorem dX3_leastHarmful_55 : decode cX3_leastHarmful 55 = .ok (.iload_n 3, 1) := by decide +kernel
theorem dX3_leastHarmful_56 : decode cX3_leastHarmful 56 = .ok (.istore_n 2, 1) := by decide +kernel
theorem dX3_leastHarmful_57 : decode cX3_leastHarmful 57 = .ok (.iinc 3 1, 3) := by decide +kernel
theorem dX3_leastHarmful_60 : decode cX3_leastHarmful 60 = .ok (.goto (-56), 3) := by decide +kernel
theorem dX3_leastHarmful_63 : decode cX3_leastHarmful 63 = .ok (.iconst 0, 1) := by decide +kernel
theorem dX3_leastHarmful_64 : decode cX3_leastHarmful 64 = .ok (.iload_n 2, 1) := by decide +kernel
theorem dX3_leastHarmful_65 : decode cX3_leastHarmful 65 = .ok (.invokestatic 85, 3) := by decide +kernel
theorem dX3_leastHarmful_68 : decode cX3_leastHarmful 68 = .ok (.ireturn, 1) := by decide +kernel
theorem dX3_leastCut_0 : decode cX3_leastCut 0 = .ok (.iconst 1, 1) := by decide +kernel
theorem dX3_leastCut_1 : decode cX3_leastCut 1 = .ok (.aload_n 0, 1) := by decide +kernel
theorem dX3_leastCut_2 : decode cX3_leastCut 2 = .ok (.invokevirtual 63, 3) := by decide +kernel
theorem dX3_leastCut_5 : decode cX3_leastCut 5 = .ok (.ishl, 1) := by decide +kernel
theorem dX3_leastCut_6 : decode cX3_leastCut 6 = .ok (.iconst 1, 1) := by decide +kernel
theorem dX3_leastCut_7 : decode cX3_leastCut 7 = .ok (.isub, 1) := by decide +kernel
theorem dX3_leastCut_8 : decode cX3_leastCut 8 = .ok (.istore_n 2, 1) := by decide +kernel
theorem dX3_leastCut_9 : decode cX3_leastCut 9 = .ok (.iconst 0, 1) := by decide +kernel
theorem dX3_leastCut_10 : decode cX3_leastCut 10 = .ok (.istore_n 3, 1) := by decide +kernel
theorem dX3_leastCut_11 : decode cX3_leastCut 11 = .ok (.iload_n 3, 1) := by decide +kernel
theorem dX3_leastCut_12 : decode cX3_leastCut 12 = .ok (.iconst 1, 1) := by decide +kernel
theorem dX3_leastCut_13 : decode cX3_leastCut 13 = .ok (.aload_n 0, 1) := by decide +kernel
theorem dX3_leastCut_14 : decode cX3_leastCut 14 = .ok (.invokevirtual 63, 3) := by decide +kernel
theorem dX3_leastCut_17 : decode cX3_leastCut 17 = .ok (.ishl, 1) := by decide +kernel
theorem dX3_leastCut_18 : decode cX3_leastCut 18 = .ok (.if_icmp .ge 34, 3) := by decide +kernel
theorem dX3_leastCut_21 : decode cX3_leastCut 21 = .ok (.iload_n 1, 1) := by decide +kernel
theorem dX3_leastCut_22 : decode cX3_leastCut 22 = .ok (.aload_n 0, 1) := by decide +kernel
theorem dX3_leastCut_23 : decode cX3_leastCut 23 = .ok (.iload_n 3, 1) := by decide +kernel
theorem dX3_leastCut_24 : decode cX3_leastCut 24 = .ok (.invokevirtual 76, 3) := by decide +kernel
theorem dX3_leastCut_27 : decode cX3_leastCut 27 = .ok (.imul, 1) := by decide +kernel
theorem dX3_leastCut_28 : decode cX3_leastCut 28 = .ok (.aload_n 0, 1) := by decide +kernel
theorem dX3_leastCut_29 : decode cX3_leastCut 29 = .ok (.getfield 33, 3) := by decide +kernel
theorem dX3_leastCut_32 : decode cX3_leastCut 32 = .ok (.if_icmp .gt 14, 3) := by decide +kernel
theorem dX3_leastCut_35 : decode cX3_leastCut 35 = .ok (.aload_n 0, 1) := by decide +kernel
theorem dX3_leastCut_36 : decode cX3_leastCut 36 = .ok (.iload_n 3, 1) := by decide +kernel
theorem dX3_leastCut_37 : decode cX3_leastCut 37 = .ok (.iload_n 2, 1) := by decide +kernel
theorem dX3_leastCut_38 : decode cX3_leastCut 38 = .ok (.invokevirtual 88, 3) := by decide +kernel
theorem dX3_leastCut_41 : decode cX3_leastCut 41 = .ok (.ifCond .eq 5, 3) := by decide +kernel
theorem dX3_leastCut_44 : decode cX3_leastCut 44 = .ok (.iload_n 3, 1) := by decide +kernel
theorem dX3_leastCut_45 : decode cX3_leastCut 45 = .ok (.istore_n 2, 1) := by decide +kernel
theorem dX3_leastCut_46 : decode cX3_leastCut 46 = .ok (.iinc 3 1, 3) := by decide +kernel
theorem dX3_leastCut_49 : decode cX3_leastCut 49 = .ok (.goto (-38), 3) := by decide +kernel
theorem dX3_leastCut_52 : decode cX3_leastCut 52 = .ok (.iload_n 2, 1) := by decide +kernel
theorem dX3_leastCut_53 : decode cX3_leastCut 53 = .ok (.ireturn, 1) := by decide +kernel
theorem dX3_isMilder_0 : decode cX3_isMilder 0 = .ok (.aload_n 0, 1) := by decide +kernel
theorem dX3_isMilder_1 : decode cX3_isMilder 1 = .ok (.iload_n 1, 1) := by decide +kernel
theorem dX3_isMilder_2 : decode cX3_isMilder 2 = .ok (.invokevirtual 82, 3) := by decide +kernel
theorem dX3_isMilder_5 : decode cX3_isMilder 5 = .ok (.aload_n 0, 1) := by decide +kernel
theorem dX3_isMilder_6 : decode cX3_isMilder 6 = .ok (.iload_n 2, 1) := by decide +kernel
theorem dX3_isMilder_7 : decode cX3_isMilder 7 = .ok (.invokevirtual 82, 3) := by decide +kernel
theorem dX3_isMilder_10 : decode cX3_isMilder 10 = .ok (.isub, 1) := by decide +kernel
theorem dX3_isMilder_11 : decode cX3_isMilder 11 = .ok (.istore_n 3, 1) := by decide +kernel
theorem dX3_isMilder_12 : decode cX3_isMilder 12 = .ok (.iload_n 1, 1) := by decide +kernel
theorem dX3_isMilder_13 : decode cX3_isMilder 13 = .ok (.invokestatic 92, 3) := by decide +kernel
theorem dX3_isMilder_16 : decode cX3_isMilder 16 = .ok (.iload_n 2, 1) := by decide +kernel
theorem dX3_isMilder_17 : decode cX3_isMilder 17 = .ok (.invokestatic 92, 3) := by decide +kernel
theorem dX3_isMilder_20 : decode cX3_isMilder 20 = .ok (.isub, 1) := by decide +kernel
theorem dX3_isMilder_21 : decode cX3_isMilder 21 = .ok (.istore 4, 2) := by decide +kernel
theorem dX3_isMilder_23 : decode cX3_isMilder 23 = .ok (.iload_n 3, 1) := by decide +kernel
theorem dX3_isMilder_24 : decode cX3_isMilder 24 = .ok (.ifCond .lt 12, 3) := by decide +kernel
theorem dX3_isMilder_27 : decode cX3_isMilder 27 = .ok (.iload_n 3, 1) := by decide +kernel
theorem dX3_isMilder_28 : decode cX3_isMilder 28 = .ok (.ifCond .ne 12, 3) := by decide +kernel
theorem dX3_isMilder_31 : decode cX3_isMilder 31 = .ok (.iload 4, 2) := by decide +kernel
theorem dX3_isMilder_33 : decode cX3_isMilder 33 = .ok (.ifCond .ge 7, 3) := by decide +kernel
theorem dX3_isMilder_36 : decode cX3_isMilder 36 = .ok (.iconst 1, 1) := by decide +kernel
theorem dX3_isMilder_37 : decode cX3_isMilder 37 = .ok (.goto 4, 3) := by decide +kernel
theorem dX3_isMilder_40 : decode cX3_isMilder 40 = .ok (.iconst 0, 1) := by decide +kernel
theorem dX3_isMilder_41 : decode cX3_isMilder 41 = .ok (.ireturn, 1) := by decide +kernel
theorem dX3_listNight_0 : decode cX3_listNight 0 = .ok (.aload_n 0, 1) := by decide +kernel
theorem dX3_listNight_1 : decode cX3_listNight 1 = .ok (.aload_n 0, 1) := by decide +kernel
theorem dX3_listNight_2 : decode cX3_listNight 2 = .ok (.iload_n 1, 1) := by decide +kernel
theorem dX3_listNight_3 : decode cX3_listNight 3 = .ok (.invokevirtual 97, 3) := by decide +kernel
theorem dX3_listNight_6 : decode cX3_listNight 6 = .ok (.invokevirtual 76, 3) := by decide +kernel
theorem dX3_listNight_9 : decode cX3_listNight 9 = .ok (.istore_n 3, 1) := by decide +kernel
theorem dX3_listNight_10 : decode cX3_listNight 10 = .ok (.iconst 1, 1) := by decide +kernel
theorem dX3_listNight_11 : decode cX3_listNight 11 = .ok (.istore 4, 2) := by decide +kernel
theorem dX3_listNight_13 : decode cX3_listNight 13 = .ok (.iload 4, 2) := by decide +kernel
theorem dX3_listNight_15 : decode cX3_listNight 15 = .ok (.iload_n 1, 1) := by decide +kernel
theorem dX3_listNight_16 : decode cX3_listNight 16 = .ok (.if_icmp .gt 23, 3) := by decide +kernel
theorem dX3_listNight_19 : decode cX3_listNight 19 = .ok (.aload_n 2, 1) := by decide +kernel
theorem dX3_listNight_20 : decode cX3_listNight 20 = .ok (.aload_n 0, 1) := by decide +kernel
theorem dX3_listNight_21 : decode cX3_listNight 21 = .ok (.getfield 33, 3) := by decide +kernel
theorem dX3_listNight_24 : decode cX3_listNight 24 = .ok (.iload 4, 2) := by decide +kernel
theorem dX3_listNight_26 : decode cX3_listNight 26 = .ok (.iload_n 3, 1) := by decide +kernel
theorem dX3_listNight_27 : decode cX3_listNight 27 = .ok (.imul, 1) := by decide +kernel
theorem dX3_listNight_28 : decode cX3_listNight 28 = .ok (.isub, 1) := by decide +kernel
theorem dX3_listNight_29 : decode cX3_listNight 29 = .ok (.invokevirtual 59, 3) := by decide +kernel
theorem dX3_listNight_32 : decode cX3_listNight 32 = .ok (.pop, 1) := by decide +kernel
theorem dX3_listNight_33 : decode cX3_listNight 33 = .ok (.iinc 4 1, 3) := by decide +kernel
theorem dX3_listNight_36 : decode cX3_listNight 36 = .ok (.goto (-23), 3) := by decide +kernel
theorem dX3_listNight_39 : decode cX3_listNight 39 = .ok (.return_, 1) := by decide +kernel
theorem dX4_init_0 : decode cX4_init 0 = .ok (.aload_n 0, 1) := by decide +kernel
theorem dX4_init_1 : decode cX4_init 1 = .ok (.invokespecial 3, 3) := by decide +kernel
theorem dX4_init_4 : decode cX4_init 4 = .ok (.aload_n 0, 1) := by decide +kernel
theorem dX4_init_5 : decode cX4_init 5 = .ok (.new 9, 3) := by decide +kernel
theorem dX4_init_8 : decode cX4_init 8 = .ok (.dup, 1) := by decide +kernel
theorem dX4_init_9 : decode cX4_init 9 = .ok (.bipush 120, 2) := by decide +kernel
theorem dX4_init_11 : decode cX4_init 11 = .ok (.invokespecial 13, 3) := by decide +kernel
theorem dX4_init_14 : decode cX4_init 14 = .ok (.putfield 16, 3) := by decide +kernel
theorem dX4_init_17 : decode cX4_init 17 = .ok (.aload_n 0, 1) := by decide +kernel
theorem dX4_init_18 : decode cX4_init 18 = .ok (.new 9, 3) := by decide +kernel
theorem dX4_init_21 : decode cX4_init 21 = .ok (.dup, 1) := by decide +kernel
theorem dX4_init_22 : decode cX4_init 22 = .ok (.bipush 96, 2) := by decide +kernel
theorem dX4_init_24 : decode cX4_init 24 = .ok (.invokespecial 13, 3) := by decide +kernel
theorem dX4_init_27 : decode cX4_init 27 = .ok (.putfield 20, 3) := by decide +kernel
theorem dX4_init_30 : decode cX4_init 30 = .ok (.aload_n 0, 1) := by decide +kernel
theorem dX4_init_31 : decode cX4_init 31 = .ok (.iconst 0, 1) := by decide +kernel
theorem dX4_init_32 : decode cX4_init 32 = .ok (.putfield 23, 3) := by decide +kernel
theorem dX4_init_35 : decode cX4_init 35 = .ok (.return_, 1) := by decide +kernel
theorem dX4_empty_0 : decode cX4_empty 0 = .ok (.aload_n 0, 1) := by decide +kernel
theorem dX4_empty_1 : decode cX4_empty 1 = .ok (.getfield 16, 3) := by decide +kernel
theorem dX4_empty_4 : decode cX4_empty 4 = .ok (.iconst 0, 1) := by decide +kernel
theorem dX4_empty_5 : decode cX4_empty 5 = .ok (.invokevirtual 27, 3) := by decide +kernel
theorem dX4_empty_8 : decode cX4_empty 8 = .ok (.aload_n 0, 1) := by decide +kernel
theorem dX4_empty_9 : decode cX4_empty 9 = .ok (.getfield 20, 3) := by decide +kernel
theorem dX4_empty_12 : decode cX4_empty 12 = .ok (.iconst 0, 1) := by decide +kernel
theorem dX4_empty_13 : decode cX4_empty 13 = .ok (.invokevirtual 27, 3) := by decide +kernel
theorem dX4_empty_16 : decode cX4_empty 16 = .ok (.aload_n 0, 1) := by decide +kernel
theorem dX4_empty_17 : decode cX4_empty 17 = .ok (.iconst 0, 1) := by decide +kernel
theorem dX4_empty_18 : decode cX4_empty 18 = .ok (.putfield 23, 3) := by decide +kernel
theorem dX4_empty_21 : decode cX4_empty 21 = .ok (.return_, 1) := by decide +kernel
theorem dX4_become_0 : decode cX4_become 0 = .ok (.aload_n 0, 1) := by decide +kernel
theorem dX4_become_1 : decode cX4_become 1 = .ok (.getfield 16, 3) := by decide +kernel
theorem dX4_become_4 : decode cX4_become 4 = .ok (.aload_n 1, 1) := by decide +kernel
theorem dX4_become_5 : decode cX4_become 5 = .ok (.getfield 16, 3) := by decide +kernel
theorem dX4_become_8 : decode cX4_become 8 = .ok (.invokevirtual 30, 3) := by decide +kernel
theorem dX4_become_11 : decode cX4_become 11 = .ok (.aload_n 0, 1) := by decide +kernel
theorem dX4_become_12 : decode cX4_become 12 = .ok (.getfield 20, 3) := by decide +kernel
theorem dX4_become_15 : decode cX4_become 15 = .ok (.aload_n 1, 1) := by decide +kernel
theorem dX4_become_16 : decode cX4_become 16 = .ok (.getfield 20, 3) := by decide +kernel
theorem dX4_become_19 : decode cX4_become 19 = .ok (.invokevirtual 30, 3) := by decide +kernel
theorem dX4_become_22 : decode cX4_become 22 = .ok (.aload_n 0, 1) := by decide +kernel
theorem dX4_become_23 : decode cX4_become 23 = .ok (.aload_n 1, 1) := by decide +kernel
theorem dX4_become_24 : decode cX4_become 24 = .ok (.getfield 23, 3) := by decide +kernel
theorem dX4_become_27 : decode cX4_become 27 = .ok (.putfield 23, 3) := by decide +kernel
theorem dX4_become_30 : decode cX4_become 30 = .ok (.return_, 1) := by decide +kernel
theorem dX4_isEmpty_0 : decode cX4_isEmpty 0 = .ok (.aload_n 0, 1) := by decide +kernel
theorem dX4_isEmpty_1 : decode cX4_isEmpty 1 = .ok (.getfield 23, 3) := by decide +kernel
theorem dX4_isEmpty_4 : decode cX4_isEmpty 4 = .ok (.ifCond .ne 7, 3) := by decide +kernel
theorem dX4_isEmpty_7 : decode cX4_isEmpty 7 = .ok (.iconst 1, 1) := by decide +kernel
theorem dX4_isEmpty_8 : decode cX4_isEmpty 8 = .ok (.goto 4, 3) := by decide +kernel
theorem dX4_isEmpty_11 : decode cX4_isEmpty 11 = .ok (.iconst 0, 1) := by decide +kernel
theorem dX4_isEmpty_12 : decode cX4_isEmpty 12 = .ok (.ireturn, 1) := by decide +kernel
theorem dX4_length_0 : decode cX4_length 0 = .ok (.aload_n 0, 1) := by decide +kernel
theorem dX4_length_1 : decode cX4_length 1 = .ok (.getfield 16, 3) := by decide +kernel
theorem dX4_length_4 : decode cX4_length 4 = .ok (.invokevirtual 34, 3) := by decide +kernel
theorem dX4_length_7 : decode cX4_length 7 = .ok (.iconst 3, 1) := by decide +kernel
theorem dX4_length_8 : decode cX4_length 8 = .ok (.idiv, 1) := by decide +kernel
theorem dX4_length_9 : decode cX4_length 9 = .ok (.ireturn, 1) := by decide +kernel
theorem dX4_code_0 : decode cX4_code 0 = .ok (.aload_n 0, 1) := by decide +kernel
theorem dX4_code_1 : decode cX4_code 1 = .ok (.getfield 16, 3) := by decide +kernel
theorem dX4_code_4 : decode cX4_code 4 = .ok (.iload_n 1, 1) := by decide +kernel
theorem dX4_code_5 : decode cX4_code 5 = .ok (.iconst 3, 1) := by decide +kernel
theorem dX4_code_6 : decode cX4_code 6 = .ok (.imul, 1) := by decide +kernel
theorem dX4_code_7 : decode cX4_code 7 = .ok (.invokevirtual 38, 3) := by decide +kernel
theorem dX4_code_10 : decode cX4_code 10 = .ok (.ireturn, 1) := by decide +kernel
theorem dX4_first_0 : decode cX4_first 0 = .ok (.aload_n 0, 1) := by decide +kernel
theorem dX4_first_1 : decode cX4_first 1 = .ok (.getfield 16, 3) := by decide +kernel
theorem dX4_first_4 : decode cX4_first 4 = .ok (.iload_n 1, 1) := by decide +kernel
theorem dX4_first_5 : decode cX4_first 5 = .ok (.iconst 3, 1) := by decide +kernel
theorem dX4_first_6 : decode cX4_first 6 = .ok (.imul, 1) := by decide +kernel
theorem dX4_first_7 : decode cX4_first 7 = .ok (.iconst 1, 1) := by decide +kernel
theorem dX4_first_8 : decode cX4_first 8 = .ok (.iadd, 1) := by decide +kernel
theorem dX4_first_9 : decode cX4_first 9 = .ok (.invokevirtual 38, 3) := by decide +kernel
theorem dX4_first_12 : decode cX4_first 12 = .ok (.ireturn, 1) := by decide +kernel
theorem dX4_second_0 : decode cX4_second 0 = .ok (.aload_n 0, 1) := by decide +kernel
theorem dX4_second_1 : decode cX4_second 1 = .ok (.getfield 16, 3) := by decide +kernel
theorem dX4_second_4 : decode cX4_second 4 = .ok (.iload_n 1, 1) := by decide +kernel
theorem dX4_second_5 : decode cX4_second 5 = .ok (.iconst 3, 1) := by decide +kernel
theorem dX4_second_6 : decode cX4_second 6 = .ok (.imul, 1) := by decide +kernel
theorem dX4_second_7 : decode cX4_second 7 = .ok (.iconst 2, 1) := by decide +kernel
theorem dX4_second_8 : decode cX4_second 8 = .ok (.iadd, 1) := by decide +kernel
theorem dX4_second_9 : decode cX4_second 9 = .ok (.invokevirtual 38, 3) := by decide +kernel
theorem dX4_second_12 : decode cX4_second 12 = .ok (.ireturn, 1) := by decide +kernel
theorem dX4_addAct_0 : decode cX4_addAct 0 = .ok (.aload_n 0, 1) := by decide +kernel
theorem dX4_addAct_1 : decode cX4_addAct 1 = .ok (.getfield 16, 3) := by decide +kernel
theorem dX4_addAct_4 : decode cX4_addAct 4 = .ok (.iload_n 1, 1) := by decide +kernel
theorem dX4_addAct_5 : decode cX4_addAct 5 = .ok (.invokevirtual 42, 3) := by decide +kernel
theorem dX4_addAct_8 : decode cX4_addAct 8 = .ok (.pop, 1) := by decide +kernel
theorem dX4_addAct_9 : decode cX4_addAct 9 = .ok (.aload_n 0, 1) := by decide +kernel
theorem dX4_addAct_10 : decode cX4_addAct 10 = .ok (.getfield 16, 3) := by decide +kernel
theorem dX4_addAct_13 : decode cX4_addAct 13 = .ok (.iload_n 2, 1) := by decide +kernel
theorem dX4_addAct_14 : decode cX4_addAct 14 = .ok (.invokevirtual 42, 3) := by decide +kernel
theorem dX4_addAct_17 : decode cX4_addAct 17 = .ok (.pop, 1) := by decide +kernel
theorem dX4_addAct_18 : decode cX4_addAct 18 = .ok (.aload_n 0, 1) := by decide +kernel
theorem dX4_addAct_19 : decode cX4_addAct 19 = .ok (.getfield 16, 3) := by decide +kernel
theorem dX4_addAct_22 : decode cX4_addAct 22 = .ok (.iload_n 3, 1) := by decide +kernel
theorem dX4_addAct_23 : decode cX4_addAct 23 = .ok (.invokevirtual 42, 3) := by decide +kernel
theorem dX4_addAct_26 : decode cX4_addAct 26 = .ok (.pop, 1) := by decide +kernel
theorem dX4_addAct_27 : decode cX4_addAct 27 = .ok (.aload_n 0, 1) := by decide +kernel
theorem dX4_addAct_28 : decode cX4_addAct 28 = .ok (.invokevirtual 46, 3) := by decide +kernel
theorem dX4_addAct_31 : decode cX4_addAct 31 = .ok (.iconst 1, 1) := by decide +kernel
theorem dX4_addAct_32 : decode cX4_addAct 32 = .ok (.isub, 1) := by decide +kernel
theorem dX4_addAct_33 : decode cX4_addAct 33 = .ok (.ireturn, 1) := by decide +kernel
theorem dX4_leadPast_0 : decode cX4_leadPast 0 = .ok (.aload_n 0, 1) := by decide +kernel
theorem dX4_leadPast_1 : decode cX4_leadPast 1 = .ok (.getfield 16, 3) := by decide +kernel
theorem dX4_leadPast_4 : decode cX4_leadPast 4 = .ok (.iload_n 1, 1) := by decide +kernel
theorem dX4_leadPast_5 : decode cX4_leadPast 5 = .ok (.iconst 3, 1) := by decide +kernel
theorem dX4_leadPast_6 : decode cX4_leadPast 6 = .ok (.imul, 1) := by decide +kernel
theorem dX4_leadPast_7 : decode cX4_leadPast 7 = .ok (.iconst 2, 1) := by decide +kernel
theorem dX4_leadPast_8 : decode cX4_leadPast 8 = .ok (.iadd, 1) := by decide +kernel
theorem dX4_leadPast_9 : decode cX4_leadPast 9 = .ok (.aload_n 0, 1) := by decide +kernel
theorem dX4_leadPast_10 : decode cX4_leadPast 10 = .ok (.invokevirtual 46, 3) := by decide +kernel
theorem dX4_leadPast_13 : decode cX4_leadPast 13 = .ok (.invokevirtual 49, 3) := by decide +kernel
theorem dX4_leadPast_16 : decode cX4_leadPast 16 = .ok (.return_, 1) := by decide +kernel
theorem dX5_init_0 : decode cX5_init 0 = .ok (.aload_n 0, 1) := by decide +kernel
theorem dX5_init_1 : decode cX5_init 1 = .ok (.invokespecial 1, 3) := by decide +kernel
theorem dX5_init_4 : decode cX5_init 4 = .ok (.aload_n 0, 1) := by decide +kernel
theorem dX5_init_5 : decode cX5_init 5 = .ok (.iconst 0, 1) := by decide +kernel
theorem dX5_init_6 : decode cX5_init 6 = .ok (.iload_n 1, 1) := by decide +kernel
theorem dX5_init_7 : decode cX5_init 7 = .ok (.invokestatic 7, 3) := by decide +kernel
theorem dX5_init_10 : decode cX5_init 10 = .ok (.newarray .int, 2) := by decide +kernel
theorem dX5_init_12 : decode cX5_init 12 = .ok (.putfield 13, 3) := by decide +kernel
theorem dX5_init_15 : decode cX5_init 15 = .ok (.aload_n 0, 1) := by decide +kernel
theorem dX5_init_16 : decode cX5_init 16 = .ok (.iconst 0, 1) := by decide +kernel
theorem dX5_init_17 : decode cX5_init 17 = .ok (.putfield 19, 3) := by decide +kernel
theorem dX5_init_20 : decode cX5_init 20 = .ok (.return_, 1) := by decide +kernel
theorem dX5_size_0 : decode cX5_size 0 = .ok (.aload_n 0, 1) := by decide +kernel
theorem dX5_size_1 : decode cX5_size 1 = .ok (.getfield 19, 3) := by decide +kernel
theorem dX5_size_4 : decode cX5_size 4 = .ok (.ireturn, 1) := by decide +kernel
theorem dX5_at_0 : decode cX5_at 0 = .ok (.iload_n 1, 1) := by decide +kernel
theorem dX5_at_1 : decode cX5_at 1 = .ok (.ifCond .lt 21, 3) := by decide +kernel
theorem dX5_at_4 : decode cX5_at 4 = .ok (.iload_n 1, 1) := by decide +kernel
theorem dX5_at_5 : decode cX5_at 5 = .ok (.aload_n 0, 1) := by decide +kernel
theorem dX5_at_6 : decode cX5_at 6 = .ok (.getfield 13, 3) := by decide +kernel
theorem dX5_at_9 : decode cX5_at 9 = .ok (.arraylength, 1) := by decide +kernel
theorem dX5_at_10 : decode cX5_at 10 = .ok (.if_icmp .ge 12, 3) := by decide +kernel
theorem dX5_at_13 : decode cX5_at 13 = .ok (.aload_n 0, 1) := by decide +kernel
theorem dX5_at_14 : decode cX5_at 14 = .ok (.getfield 13, 3) := by decide +kernel
theorem dX5_at_17 : decode cX5_at 17 = .ok (.iload_n 1, 1) := by decide +kernel
theorem dX5_at_18 : decode cX5_at 18 = .ok (.iaload, 1) := by decide +kernel
theorem dX5_at_19 : decode cX5_at 19 = .ok (.goto 4, 3) := by decide +kernel
theorem dX5_at_22 : decode cX5_at 22 = .ok (.iconst 0, 1) := by decide +kernel
theorem dX5_at_23 : decode cX5_at 23 = .ok (.ireturn, 1) := by decide +kernel
theorem dX5_set_0 : decode cX5_set 0 = .ok (.iload_n 1, 1) := by decide +kernel
theorem dX5_set_1 : decode cX5_set 1 = .ok (.ifCond .lt 19, 3) := by decide +kernel
theorem dX5_set_4 : decode cX5_set 4 = .ok (.iload_n 1, 1) := by decide +kernel
theorem dX5_set_5 : decode cX5_set 5 = .ok (.aload_n 0, 1) := by decide +kernel
theorem dX5_set_6 : decode cX5_set 6 = .ok (.getfield 13, 3) := by decide +kernel
theorem dX5_set_9 : decode cX5_set 9 = .ok (.arraylength, 1) := by decide +kernel
theorem dX5_set_10 : decode cX5_set 10 = .ok (.if_icmp .ge 10, 3) := by decide +kernel
theorem dX5_set_13 : decode cX5_set 13 = .ok (.aload_n 0, 1) := by decide +kernel
theorem dX5_set_14 : decode cX5_set 14 = .ok (.getfield 13, 3) := by decide +kernel
theorem dX5_set_17 : decode cX5_set 17 = .ok (.iload_n 1, 1) := by decide +kernel
theorem dX5_set_18 : decode cX5_set 18 = .ok (.iload_n 2, 1) := by decide +kernel
theorem dX5_set_19 : decode cX5_set 19 = .ok (.iastore, 1) := by decide +kernel
theorem dX5_set_20 : decode cX5_set 20 = .ok (.return_, 1) := by decide +kernel
theorem dX5_swap_0 : decode cX5_swap 0 = .ok (.aload_n 0, 1) := by decide +kernel
theorem dX5_swap_1 : decode cX5_swap 1 = .ok (.iload_n 1, 1) := by decide +kernel
theorem dX5_swap_2 : decode cX5_swap 2 = .ok (.invokevirtual 23, 3) := by decide +kernel
theorem dX5_swap_5 : decode cX5_swap 5 = .ok (.istore_n 3, 1) := by decide +kernel
theorem dX5_swap_6 : decode cX5_swap 6 = .ok (.aload_n 0, 1) := by decide +kernel
theorem dX5_swap_7 : decode cX5_swap 7 = .ok (.iload_n 1, 1) := by decide +kernel
theorem dX5_swap_8 : decode cX5_swap 8 = .ok (.iload_n 2, 1) := by decide +kernel
theorem dX5_swap_9 : decode cX5_swap 9 = .ok (.invokevirtual 27, 3) := by decide +kernel
theorem dX5_swap_12 : decode cX5_swap 12 = .ok (.iload_n 3, 1) := by decide +kernel
theorem dX5_swap_13 : decode cX5_swap 13 = .ok (.ireturn, 1) := by decide +kernel
theorem dX5_add_0 : decode cX5_add 0 = .ok (.aload_n 0, 1) := by decide +kernel
theorem dX5_add_1 : decode cX5_add 1 = .ok (.getfield 19, 3) := by decide +kernel
theorem dX5_add_4 : decode cX5_add 4 = .ok (.ifCond .lt 15, 3) := by decide +kernel
theorem dX5_add_7 : decode cX5_add 7 = .ok (.aload_n 0, 1) := by decide +kernel
theorem dX5_add_8 : decode cX5_add 8 = .ok (.getfield 19, 3) := by decide +kernel
theorem dX5_add_11 : decode cX5_add 11 = .ok (.aload_n 0, 1) := by decide +kernel
theorem dX5_add_12 : decode cX5_add 12 = .ok (.getfield 13, 3) := by decide +kernel
theorem dX5_add_15 : decode cX5_add 15 = .ok (.arraylength, 1) := by decide +kernel
theorem dX5_add_16 : decode cX5_add 16 = .ok (.if_icmp .lt 5, 3) := by decide +kernel
theorem dX5_add_19 : decode cX5_add 19 = .ok (.iconst 0, 1) := by decide +kernel
theorem dX5_add_20 : decode cX5_add 20 = .ok (.ireturn, 1) := by decide +kernel
theorem dX5_add_21 : decode cX5_add 21 = .ok (.aload_n 0, 1) := by decide +kernel
theorem dX5_add_22 : decode cX5_add 22 = .ok (.getfield 13, 3) := by decide +kernel
theorem dX5_add_25 : decode cX5_add 25 = .ok (.aload_n 0, 1) := by decide +kernel
theorem dX5_add_26 : decode cX5_add 26 = .ok (.getfield 19, 3) := by decide +kernel
theorem dX5_add_29 : decode cX5_add 29 = .ok (.iload_n 1, 1) := by decide +kernel
theorem dX5_add_30 : decode cX5_add 30 = .ok (.iastore, 1) := by decide +kernel
theorem dX5_add_31 : decode cX5_add 31 = .ok (.aload_n 0, 1) := by decide +kernel
theorem dX5_add_32 : decode cX5_add 32 = .ok (.dup, 1) := by decide +kernel
theorem dX5_add_33 : decode cX5_add 33 = .ok (.getfield 19, 3) := by decide +kernel
theorem dX5_add_36 : decode cX5_add 36 = .ok (.iconst 1, 1) := by decide +kernel
theorem dX5_add_37 : decode cX5_add 37 = .ok (.iadd, 1) := by decide +kernel
theorem dX5_add_38 : decode cX5_add 38 = .ok (.putfield 19, 3) := by decide +kernel
theorem dX5_add_41 : decode cX5_add 41 = .ok (.iconst 1, 1) := by decide +kernel
theorem dX5_add_42 : decode cX5_add 42 = .ok (.ireturn, 1) := by decide +kernel
theorem dX5_pop_0 : decode cX5_pop 0 = .ok (.aload_n 0, 1) := by decide +kernel
theorem dX5_pop_1 : decode cX5_pop 1 = .ok (.getfield 19, 3) := by decide +kernel
theorem dX5_pop_4 : decode cX5_pop 4 = .ok (.ifCond .gt 5, 3) := by decide +kernel
theorem dX5_pop_7 : decode cX5_pop 7 = .ok (.iconst 0, 1) := by decide +kernel
theorem dX5_pop_8 : decode cX5_pop 8 = .ok (.ireturn, 1) := by decide +kernel
theorem dX5_pop_9 : decode cX5_pop 9 = .ok (.aload_n 0, 1) := by decide +kernel
theorem dX5_pop_10 : decode cX5_pop 10 = .ok (.dup, 1) := by decide +kernel
theorem dX5_pop_11 : decode cX5_pop 11 = .ok (.getfield 19, 3) := by decide +kernel
theorem dX5_pop_14 : decode cX5_pop 14 = .ok (.iconst 1, 1) := by decide +kernel
theorem dX5_pop_15 : decode cX5_pop 15 = .ok (.isub, 1) := by decide +kernel
theorem dX5_pop_16 : decode cX5_pop 16 = .ok (.putfield 19, 3) := by decide +kernel
theorem dX5_pop_19 : decode cX5_pop 19 = .ok (.aload_n 0, 1) := by decide +kernel
theorem dX5_pop_20 : decode cX5_pop 20 = .ok (.aload_n 0, 1) := by decide +kernel
theorem dX5_pop_21 : decode cX5_pop 21 = .ok (.getfield 19, 3) := by decide +kernel
theorem dX5_pop_24 : decode cX5_pop 24 = .ok (.invokevirtual 23, 3) := by decide +kernel
theorem dX5_pop_27 : decode cX5_pop 27 = .ok (.ireturn, 1) := by decide +kernel
theorem dX5_shorten_0 : decode cX5_shorten 0 = .ok (.aload_n 0, 1) := by decide +kernel
theorem dX5_shorten_1 : decode cX5_shorten 1 = .ok (.iconst 0, 1) := by decide +kernel
theorem dX5_shorten_2 : decode cX5_shorten 2 = .ok (.iload_n 1, 1) := by decide +kernel
theorem dX5_shorten_3 : decode cX5_shorten 3 = .ok (.aload_n 0, 1) := by decide +kernel
theorem dX5_shorten_4 : decode cX5_shorten 4 = .ok (.getfield 19, 3) := by decide +kernel
theorem dX5_shorten_7 : decode cX5_shorten 7 = .ok (.invokestatic 31, 3) := by decide +kernel
theorem dX5_shorten_10 : decode cX5_shorten 10 = .ok (.invokestatic 7, 3) := by decide +kernel
theorem dX5_shorten_13 : decode cX5_shorten 13 = .ok (.putfield 19, 3) := by decide +kernel
theorem dX5_shorten_16 : decode cX5_shorten 16 = .ok (.return_, 1) := by decide +kernel
theorem dX5_fill_0 : decode cX5_fill 0 = .ok (.aload_n 0, 1) := by decide +kernel
theorem dX5_fill_1 : decode cX5_fill 1 = .ok (.iconst 0, 1) := by decide +kernel
theorem dX5_fill_2 : decode cX5_fill 2 = .ok (.iload_n 1, 1) := by decide +kernel
theorem dX5_fill_3 : decode cX5_fill 3 = .ok (.aload_n 0, 1) := by decide +kernel
theorem dX5_fill_4 : decode cX5_fill 4 = .ok (.getfield 13, 3) := by decide +kernel
theorem dX5_fill_7 : decode cX5_fill 7 = .ok (.arraylength, 1) := by decide +kernel
theorem dX5_fill_8 : decode cX5_fill 8 = .ok (.invokestatic 31, 3) := by decide +kernel
theorem dX5_fill_11 : decode cX5_fill 11 = .ok (.invokestatic 7, 3) := by decide +kernel
theorem dX5_fill_14 : decode cX5_fill 14 = .ok (.putfield 19, 3) := by decide +kernel
theorem dX5_fill_17 : decode cX5_fill 17 = .ok (.iconst 0, 1) := by decide +kernel
theorem dX5_fill_18 : decode cX5_fill 18 = .ok (.istore_n 3, 1) := by decide +kernel
theorem dX5_fill_19 : decode cX5_fill 19 = .ok (.iload_n 3, 1) := by decide +kernel
theorem dX5_fill_20 : decode cX5_fill 20 = .ok (.aload_n 0, 1) := by decide +kernel
theorem dX5_fill_21 : decode cX5_fill 21 = .ok (.getfield 19, 3) := by decide +kernel
theorem dX5_fill_24 : decode cX5_fill 24 = .ok (.if_icmp .ge 25, 3) := by decide +kernel
theorem dX5_fill_27 : decode cX5_fill 27 = .ok (.iload_n 3, 1) := by decide +kernel
theorem dX5_fill_28 : decode cX5_fill 28 = .ok (.aload_n 0, 1) := by decide +kernel
theorem dX5_fill_29 : decode cX5_fill 29 = .ok (.getfield 13, 3) := by decide +kernel
theorem dX5_fill_32 : decode cX5_fill 32 = .ok (.arraylength, 1) := by decide +kernel
theorem dX5_fill_33 : decode cX5_fill 33 = .ok (.if_icmp .ge 16, 3) := by decide +kernel
theorem dX5_fill_36 : decode cX5_fill 36 = .ok (.aload_n 0, 1) := by decide +kernel
theorem dX5_fill_37 : decode cX5_fill 37 = .ok (.getfield 13, 3) := by decide +kernel
theorem dX5_fill_40 : decode cX5_fill 40 = .ok (.iload_n 3, 1) := by decide +kernel
theorem dX5_fill_41 : decode cX5_fill 41 = .ok (.iload_n 2, 1) := by decide +kernel
theorem dX5_fill_42 : decode cX5_fill 42 = .ok (.iastore, 1) := by decide +kernel
theorem dX5_fill_43 : decode cX5_fill 43 = .ok (.iinc 3 1, 3) := by decide +kernel
theorem dX5_fill_46 : decode cX5_fill 46 = .ok (.goto (-27), 3) := by decide +kernel
theorem dX5_fill_49 : decode cX5_fill 49 = .ok (.return_, 1) := by decide +kernel
theorem dX5_sum_0 : decode cX5_sum 0 = .ok (.iconst 0, 1) := by decide +kernel
theorem dX5_sum_1 : decode cX5_sum 1 = .ok (.istore_n 2, 1) := by decide +kernel
theorem dX5_sum_2 : decode cX5_sum 2 = .ok (.iconst 0, 1) := by decide +kernel
theorem dX5_sum_3 : decode cX5_sum 3 = .ok (.istore_n 3, 1) := by decide +kernel
theorem dX5_sum_4 : decode cX5_sum 4 = .ok (.iload_n 3, 1) := by decide +kernel
theorem dX5_sum_5 : decode cX5_sum 5 = .ok (.iload_n 1, 1) := by decide +kernel
theorem dX5_sum_6 : decode cX5_sum 6 = .ok (.if_icmp .ge 27, 3) := by decide +kernel
theorem dX5_sum_9 : decode cX5_sum 9 = .ok (.iload_n 3, 1) := by decide +kernel
theorem dX5_sum_10 : decode cX5_sum 10 = .ok (.aload_n 0, 1) := by decide +kernel
theorem dX5_sum_11 : decode cX5_sum 11 = .ok (.getfield 13, 3) := by decide +kernel
theorem dX5_sum_14 : decode cX5_sum 14 = .ok (.arraylength, 1) := by decide +kernel
theorem dX5_sum_15 : decode cX5_sum 15 = .ok (.if_icmp .ge 18, 3) := by decide +kernel
theorem dX5_sum_18 : decode cX5_sum 18 = .ok (.iload_n 2, 1) := by decide +kernel
theorem dX5_sum_19 : decode cX5_sum 19 = .ok (.aload_n 0, 1) := by decide +kernel
theorem dX5_sum_20 : decode cX5_sum 20 = .ok (.getfield 13, 3) := by decide +kernel
theorem dX5_sum_23 : decode cX5_sum 23 = .ok (.iload_n 3, 1) := by decide +kernel
theorem dX5_sum_24 : decode cX5_sum 24 = .ok (.iaload, 1) := by decide +kernel
theorem dX5_sum_25 : decode cX5_sum 25 = .ok (.iadd, 1) := by decide +kernel
theorem dX5_sum_26 : decode cX5_sum 26 = .ok (.istore_n 2, 1) := by decide +kernel
theorem dX5_sum_27 : decode cX5_sum 27 = .ok (.iinc 3 1, 3) := by decide +kernel
theorem dX5_sum_30 : decode cX5_sum 30 = .ok (.goto (-26), 3) := by decide +kernel
theorem dX5_sum_33 : decode cX5_sum 33 = .ok (.iload_n 2, 1) := by decide +kernel
theorem dX5_sum_34 : decode cX5_sum 34 = .ok (.ireturn, 1) := by decide +kernel
theorem dX5_alike_0 : decode cX5_alike 0 = .ok (.aload_n 0, 1) := by decide +kernel
theorem dX5_alike_1 : decode cX5_alike 1 = .ok (.getfield 19, 3) := by decide +kernel
theorem dX5_alike_4 : decode cX5_alike 4 = .ok (.aload_n 1, 1) := by decide +kernel
theorem dX5_alike_5 : decode cX5_alike 5 = .ok (.getfield 19, 3) := by decide +kernel
theorem dX5_alike_8 : decode cX5_alike 8 = .ok (.invokestatic 31, 3) := by decide +kernel
theorem dX5_alike_11 : decode cX5_alike 11 = .ok (.istore_n 2, 1) := by decide +kernel
theorem dX5_alike_12 : decode cX5_alike 12 = .ok (.iconst 0, 1) := by decide +kernel
theorem dX5_alike_13 : decode cX5_alike 13 = .ok (.istore_n 3, 1) := by decide +kernel
theorem dX5_alike_14 : decode cX5_alike 14 = .ok (.iload_n 3, 1) := by decide +kernel
theorem dX5_alike_15 : decode cX5_alike 15 = .ok (.iload_n 2, 1) := by decide +kernel
theorem dX5_alike_16 : decode cX5_alike 16 = .ok (.if_icmp .ge 24, 3) := by decide +kernel
theorem dX5_alike_19 : decode cX5_alike 19 = .ok (.aload_n 0, 1) := by decide +kernel
theorem dX5_alike_20 : decode cX5_alike 20 = .ok (.iload_n 3, 1) := by decide +kernel
theorem dX5_alike_21 : decode cX5_alike 21 = .ok (.invokevirtual 23, 3) := by decide +kernel
theorem dX5_alike_24 : decode cX5_alike 24 = .ok (.aload_n 1, 1) := by decide +kernel
theorem dX5_alike_25 : decode cX5_alike 25 = .ok (.iload_n 3, 1) := by decide +kernel
theorem dX5_alike_26 : decode cX5_alike 26 = .ok (.invokevirtual 23, 3) := by decide +kernel
theorem dX5_alike_29 : decode cX5_alike 29 = .ok (.if_icmp .eq 5, 3) := by decide +kernel
theorem dX5_alike_32 : decode cX5_alike 32 = .ok (.iload_n 3, 1) := by decide +kernel
theorem dX5_alike_33 : decode cX5_alike 33 = .ok (.ireturn, 1) := by decide +kernel
theorem dX5_alike_34 : decode cX5_alike 34 = .ok (.iinc 3 1, 3) := by decide +kernel
theorem dX5_alike_37 : decode cX5_alike 37 = .ok (.goto (-23), 3) := by decide +kernel
theorem dX5_alike_40 : decode cX5_alike 40 = .ok (.iload_n 2, 1) := by decide +kernel
theorem dX5_alike_41 : decode cX5_alike 41 = .ok (.ireturn, 1) := by decide +kernel
theorem dX5_become_0 : decode cX5_become 0 = .ok (.aload_n 0, 1) := by decide +kernel
theorem dX5_become_1 : decode cX5_become 1 = .ok (.getfield 13, 3) := by decide +kernel
theorem dX5_become_4 : decode cX5_become 4 = .ok (.arraylength, 1) := by decide +kernel
theorem dX5_become_5 : decode cX5_become 5 = .ok (.aload_n 1, 1) := by decide +kernel
theorem dX5_become_6 : decode cX5_become 6 = .ok (.getfield 13, 3) := by decide +kernel
theorem dX5_become_9 : decode cX5_become 9 = .ok (.arraylength, 1) := by decide +kernel
theorem dX5_become_10 : decode cX5_become 10 = .ok (.invokestatic 31, 3) := by decide +kernel
theorem dX5_become_13 : decode cX5_become 13 = .ok (.istore_n 2, 1) := by decide +kernel
theorem dX5_become_14 : decode cX5_become 14 = .ok (.aload_n 1, 1) := by decide +kernel
theorem dX5_become_15 : decode cX5_become 15 = .ok (.getfield 13, 3) := by decide +kernel
theorem dX5_become_18 : decode cX5_become 18 = .ok (.iconst 0, 1) := by decide +kernel
theorem dX5_become_19 : decode cX5_become 19 = .ok (.aload_n 0, 1) := by decide +kernel
theorem dX5_become_20 : decode cX5_become 20 = .ok (.getfield 13, 3) := by decide +kernel
theorem dX5_become_23 : decode cX5_become 23 = .ok (.iconst 0, 1) := by decide +kernel
theorem dX5_become_24 : decode cX5_become 24 = .ok (.iload_n 2, 1) := by decide +kernel
theorem dX5_become_25 : decode cX5_become 25 = .ok (.invokestatic 34, 3) := by decide +kernel
theorem dX5_become_28 : decode cX5_become 28 = .ok (.aload_n 0, 1) := by decide +kernel
theorem dX5_become_29 : decode cX5_become 29 = .ok (.aload_n 1, 1) := by decide +kernel
theorem dX5_become_30 : decode cX5_become 30 = .ok (.getfield 19, 3) := by decide +kernel
theorem dX5_become_33 : decode cX5_become 33 = .ok (.putfield 19, 3) := by decide +kernel
theorem dX5_become_36 : decode cX5_become 36 = .ok (.return_, 1) := by decide +kernel
theorem dX5_take_0 : decode cX5_take 0 = .ok (.iload_n 2, 1) := by decide +kernel
theorem dX5_take_1 : decode cX5_take 1 = .ok (.ifCond .lt 12, 3) := by decide +kernel
theorem dX5_take_4 : decode cX5_take 4 = .ok (.iload_n 3, 1) := by decide +kernel
theorem dX5_take_5 : decode cX5_take 5 = .ok (.ifCond .lt 8, 3) := by decide +kernel
theorem dX5_take_8 : decode cX5_take 8 = .ok (.iload 4, 2) := by decide +kernel
theorem dX5_take_10 : decode cX5_take 10 = .ok (.ifCond .ge 4, 3) := by decide +kernel
theorem dX5_take_13 : decode cX5_take 13 = .ok (.return_, 1) := by decide +kernel
theorem dX5_take_14 : decode cX5_take 14 = .ok (.iload_n 2, 1) := by decide +kernel
theorem dX5_take_15 : decode cX5_take 15 = .ok (.aload_n 1, 1) := by decide +kernel
theorem dX5_take_16 : decode cX5_take 16 = .ok (.getfield 13, 3) := by decide +kernel
theorem dX5_take_19 : decode cX5_take 19 = .ok (.arraylength, 1) := by decide +kernel
theorem dX5_take_20 : decode cX5_take 20 = .ok (.iload 4, 2) := by decide +kernel
theorem dX5_take_22 : decode cX5_take 22 = .ok (.isub, 1) := by decide +kernel
theorem dX5_take_23 : decode cX5_take 23 = .ok (.if_icmp .gt 30, 3) := by decide +kernel
theorem dX5_take_26 : decode cX5_take 26 = .ok (.iload_n 3, 1) := by decide +kernel
theorem dX5_take_27 : decode cX5_take 27 = .ok (.aload_n 0, 1) := by decide +kernel
theorem dX5_take_28 : decode cX5_take 28 = .ok (.getfield 13, 3) := by decide +kernel
theorem dX5_take_31 : decode cX5_take 31 = .ok (.arraylength, 1) := by decide +kernel
theorem dX5_take_32 : decode cX5_take 32 = .ok (.iload 4, 2) := by decide +kernel
theorem dX5_take_34 : decode cX5_take 34 = .ok (.isub, 1) := by decide +kernel
theorem dX5_take_35 : decode cX5_take 35 = .ok (.if_icmp .gt 18, 3) := by decide +kernel
theorem dX5_take_38 : decode cX5_take 38 = .ok (.aload_n 1, 1) := by decide +kernel
theorem dX5_take_39 : decode cX5_take 39 = .ok (.getfield 13, 3) := by decide +kernel
theorem dX5_take_42 : decode cX5_take 42 = .ok (.iload_n 2, 1) := by decide +kernel
theorem dX5_take_43 : decode cX5_take 43 = .ok (.aload_n 0, 1) := by decide +kernel
theorem dX5_take_44 : decode cX5_take 44 = .ok (.getfield 13, 3) := by decide +kernel
theorem dX5_take_47 : decode cX5_take 47 = .ok (.iload_n 3, 1) := by decide +kernel
theorem dX5_take_48 : decode cX5_take 48 = .ok (.iload 4, 2) := by decide +kernel
theorem dX5_take_50 : decode cX5_take 50 = .ok (.invokestatic 34, 3) := by decide +kernel
theorem dX5_take_53 : decode cX5_take 53 = .ok (.return_, 1) := by decide +kernel
