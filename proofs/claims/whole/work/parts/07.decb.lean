theorem dX6_init_0 : decode cX6_init 0 = .ok (.aload_n 0, 1) := by decide +kernel
theorem dX6_init_1 : decode cX6_init 1 = .ok (.invokespecial 3, 3) := by decide +kernel
theorem dX6_init_4 : decode cX6_init 4 = .ok (.aload_n 0, 1) := by decide +kernel
theorem dX6_init_5 : decode cX6_init 5 = .ok (.aload_n 1, 1) := by decide +kernel
theorem dX6_init_6 : decode cX6_init 6 = .ok (.putfield 9, 3) := by decide +kernel
theorem dX6_init_9 : decode cX6_init 9 = .ok (.aload_n 0, 1) := by decide +kernel
theorem dX6_init_10 : decode cX6_init 10 = .ok (.new 15, 3) := by decide +kernel
theorem dX6_init_13 : decode cX6_init 13 = .ok (.dup, 1) := by decide +kernel
theorem dX6_init_14 : decode cX6_init 14 = .ok (.bipush 96, 2) := by decide +kernel
theorem dX6_init_16 : decode cX6_init 16 = .ok (.invokespecial 17, 3) := by decide +kernel
theorem dX6_init_19 : decode cX6_init 19 = .ok (.putfield 20, 3) := by decide +kernel
theorem dX6_init_22 : decode cX6_init 22 = .ok (.return_, 1) := by decide +kernel
theorem dX6_passTick_0 : decode cX6_passTick 0 = .ok (.aload_n 0, 1) := by decide +kernel
theorem dX6_passTick_1 : decode cX6_passTick 1 = .ok (.invokevirtual 24, 3) := by decide +kernel
theorem dX6_passTick_4 : decode cX6_passTick 4 = .ok (.aload_n 0, 1) := by decide +kernel
theorem dX6_passTick_5 : decode cX6_passTick 5 = .ok (.invokevirtual 27, 3) := by decide +kernel
theorem dX6_passTick_8 : decode cX6_passTick 8 = .ok (.aload_n 0, 1) := by decide +kernel
theorem dX6_passTick_9 : decode cX6_passTick 9 = .ok (.getfield 9, 3) := by decide +kernel
theorem dX6_passTick_12 : decode cX6_passTick 12 = .ok (.getfield 30, 3) := by decide +kernel
theorem dX6_passTick_15 : decode cX6_passTick 15 = .ok (.invokevirtual 36, 3) := by decide +kernel
theorem dX6_passTick_18 : decode cX6_passTick 18 = .ok (.ifCond .eq 17, 3) := by decide +kernel
theorem dX6_passTick_21 : decode cX6_passTick 21 = .ok (.aload_n 0, 1) := by decide +kernel
theorem dX6_passTick_22 : decode cX6_passTick 22 = .ok (.getfield 9, 3) := by decide +kernel
theorem dX6_passTick_25 : decode cX6_passTick 25 = .ok (.getfield 30, 3) := by decide +kernel
theorem dX6_passTick_28 : decode cX6_passTick 28 = .ok (.invokevirtual 42, 3) := by decide +kernel
theorem dX6_passTick_31 : decode cX6_passTick 31 = .ok (.aload_n 0, 1) := by decide +kernel
theorem dX6_passTick_32 : decode cX6_passTick 32 = .ok (.invokevirtual 45, 3) := by decide +kernel
theorem dX6_passTick_35 : decode cX6_passTick 35 = .ok (.aload_n 0, 1) := by decide +kernel
theorem dX6_passTick_36 : decode cX6_passTick 36 = .ok (.getfield 9, 3) := by decide +kernel
theorem dX6_passTick_39 : decode cX6_passTick 39 = .ok (.getfield 30, 3) := by decide +kernel
theorem dX6_passTick_42 : decode cX6_passTick 42 = .ok (.invokevirtual 48, 3) := by decide +kernel
theorem dX6_passTick_45 : decode cX6_passTick 45 = .ok (.iconst 0, 1) := by decide +kernel
theorem dX6_passTick_46 : decode cX6_passTick 46 = .ok (.istore_n 1, 1) := by decide +kernel
theorem dX6_passTick_47 : decode cX6_passTick 47 = .ok (.iload_n 1, 1) := by decide +kernel
theorem dX6_passTick_48 : decode cX6_passTick 48 = .ok (.aload_n 0, 1) := by decide +kernel
theorem dX6_passTick_49 : decode cX6_passTick 49 = .ok (.getfield 9, 3) := by decide +kernel
theorem dX6_passTick_52 : decode cX6_passTick 52 = .ok (.getfield 51, 3) := by decide +kernel
theorem dX6_passTick_55 : decode cX6_passTick 55 = .ok (.if_icmp .ge 21, 3) := by decide +kernel
theorem dX6_passTick_58 : decode cX6_passTick 58 = .ok (.aload_n 0, 1) := by decide +kernel
theorem dX6_passTick_59 : decode cX6_passTick 59 = .ok (.aload_n 0, 1) := by decide +kernel
theorem dX6_passTick_60 : decode cX6_passTick 60 = .ok (.getfield 9, 3) := by decide +kernel
theorem dX6_passTick_63 : decode cX6_passTick 63 = .ok (.iload_n 1, 1) := by decide +kernel
theorem dX6_passTick_64 : decode cX6_passTick 64 = .ok (.invokevirtual 55, 3) := by decide +kernel
theorem dX6_passTick_67 : decode cX6_passTick 67 = .ok (.invokevirtual 59, 3) := by decide +kernel
theorem dX6_passTick_70 : decode cX6_passTick 70 = .ok (.iinc 1 1, 3) := by decide +kernel
theorem dX6_passTick_73 : decode cX6_passTick 73 = .ok (.goto (-26), 3) := by decide +kernel
theorem dX6_passTick_76 : decode cX6_passTick 76 = .ok (.iconst 0, 1) := by decide +kernel
theorem dX6_passTick_77 : decode cX6_passTick 77 = .ok (.istore_n 1, 1) := by decide +kernel
theorem dX6_passTick_78 : decode cX6_passTick 78 = .ok (.iload_n 1, 1) := by decide +kernel
theorem dX6_passTick_79 : decode cX6_passTick 79 = .ok (.aload_n 0, 1) := by decide +kernel
theorem dX6_passTick_80 : decode cX6_passTick 80 = .ok (.getfield 9, 3) := by decide +kernel
theorem dX6_passTick_83 : decode cX6_passTick 83 = .ok (.getfield 51, 3) := by decide +kernel
theorem dX6_passTick_86 : decode cX6_passTick 86 = .ok (.if_icmp .ge 21, 3) := by decide +kernel
theorem dX6_passTick_89 : decode cX6_passTick 89 = .ok (.aload_n 0, 1) := by decide +kernel
theorem dX6_passTick_90 : decode cX6_passTick 90 = .ok (.aload_n 0, 1) := by decide +kernel
theorem dX6_passTick_91 : decode cX6_passTick 91 = .ok (.getfield 9, 3) := by decide +kernel
theorem dX6_passTick_94 : decode cX6_passTick 94 = .ok (.iload_n 1, 1) := by decide +kernel
theorem dX6_passTick_95 : decode cX6_passTick 95 = .ok (.invokevirtual 55, 3) := by decide +kernel
theorem dX6_passTick_98 : decode cX6_passTick 98 = .ok (.invokevirtual 63, 3) := by decide +kernel
theorem dX6_passTick_101 : decode cX6_passTick 101 = .ok (.iinc 1 1, 3) := by decide +kernel
theorem dX6_passTick_104 : decode cX6_passTick 104 = .ok (.goto (-26), 3) := by decide +kernel
theorem dX6_passTick_107 : decode cX6_passTick 107 = .ok (.aload_n 0, 1) := by decide +kernel
theorem dX6_passTick_108 : decode cX6_passTick 108 = .ok (.getfield 9, 3) := by decide +kernel
theorem dX6_passTick_111 : decode cX6_passTick 111 = .ok (.getfield 30, 3) := by decide +kernel
theorem dX6_passTick_114 : decode cX6_passTick 114 = .ok (.dup, 1) := by decide +kernel
theorem dX6_passTick_115 : decode cX6_passTick 115 = .ok (.getfield 66, 3) := by decide +kernel
theorem dX6_passTick_118 : decode cX6_passTick 118 = .ok (.iconst 1, 1) := by decide +kernel
theorem dX6_passTick_119 : decode cX6_passTick 119 = .ok (.iadd, 1) := by decide +kernel
theorem dX6_passTick_120 : decode cX6_passTick 120 = .ok (.putfield 66, 3) := by decide +kernel
theorem dX6_passTick_123 : decode cX6_passTick 123 = .ok (.return_, 1) := by decide +kernel
theorem dX6_bringOrders_0 : decode cX6_bringOrders 0 = .ok (.aload_n 0, 1) := by decide +kernel
theorem dX6_bringOrders_1 : decode cX6_bringOrders 1 = .ok (.getfield 9, 3) := by decide +kernel
theorem dX6_bringOrders_4 : decode cX6_bringOrders 4 = .ok (.getfield 69, 3) := by decide +kernel
theorem dX6_bringOrders_7 : decode cX6_bringOrders 7 = .ok (.astore_n 1, 1) := by decide +kernel
theorem dX6_bringOrders_8 : decode cX6_bringOrders 8 = .ok (.iconst 0, 1) := by decide +kernel
theorem dX6_bringOrders_9 : decode cX6_bringOrders 9 = .ok (.istore_n 2, 1) := by decide +kernel
theorem dX6_bringOrders_10 : decode cX6_bringOrders 10 = .ok (.iconst 0, 1) := by decide +kernel
theorem dX6_bringOrders_11 : decode cX6_bringOrders 11 = .ok (.istore_n 3, 1) := by decide +kernel
theorem dX6_bringOrders_12 : decode cX6_bringOrders 12 = .ok (.iload_n 3, 1) := by decide +kernel
theorem dX6_bringOrders_13 : decode cX6_bringOrders 13 = .ok (.aload_n 1, 1) := by decide +kernel
theorem dX6_bringOrders_14 : decode cX6_bringOrders 14 = .ok (.invokevirtual 72, 3) := by decide +kernel
theorem dX6_bringOrders_17 : decode cX6_bringOrders 17 = .ok (.if_icmp .ge 66, 3) := by decide +kernel
theorem dX6_bringOrders_20 : decode cX6_bringOrders 20 = .ok (.aload_n 1, 1) := by decide +kernel
theorem dX6_bringOrders_21 : decode cX6_bringOrders 21 = .ok (.iload_n 3, 1) := by decide +kernel
theorem dX6_bringOrders_22 : decode cX6_bringOrders 22 = .ok (.iconst 2, 1) := by decide +kernel
theorem dX6_bringOrders_23 : decode cX6_bringOrders 23 = .ok (.iadd, 1) := by decide +kernel
theorem dX6_bringOrders_24 : decode cX6_bringOrders 24 = .ok (.invokevirtual 76, 3) := by decide +kernel
theorem dX6_bringOrders_27 : decode cX6_bringOrders 27 = .ok (.aload_n 0, 1) := by decide +kernel
theorem dX6_bringOrders_28 : decode cX6_bringOrders 28 = .ok (.getfield 9, 3) := by decide +kernel
theorem dX6_bringOrders_31 : decode cX6_bringOrders 31 = .ok (.getfield 30, 3) := by decide +kernel
theorem dX6_bringOrders_34 : decode cX6_bringOrders 34 = .ok (.getfield 66, 3) := by decide +kernel
theorem dX6_bringOrders_37 : decode cX6_bringOrders 37 = .ok (.if_icmp .ne 29, 3) := by decide +kernel
theorem dX6_bringOrders_40 : decode cX6_bringOrders 40 = .ok (.aload_n 0, 1) := by decide +kernel
theorem dX6_bringOrders_41 : decode cX6_bringOrders 41 = .ok (.aload_n 0, 1) := by decide +kernel
theorem dX6_bringOrders_42 : decode cX6_bringOrders 42 = .ok (.getfield 9, 3) := by decide +kernel
theorem dX6_bringOrders_45 : decode cX6_bringOrders 45 = .ok (.aload_n 1, 1) := by decide +kernel
theorem dX6_bringOrders_46 : decode cX6_bringOrders 46 = .ok (.iload_n 3, 1) := by decide +kernel
theorem dX6_bringOrders_47 : decode cX6_bringOrders 47 = .ok (.invokevirtual 76, 3) := by decide +kernel
theorem dX6_bringOrders_50 : decode cX6_bringOrders 50 = .ok (.invokevirtual 55, 3) := by decide +kernel
theorem dX6_bringOrders_53 : decode cX6_bringOrders 53 = .ok (.aload_n 1, 1) := by decide +kernel
theorem dX6_bringOrders_54 : decode cX6_bringOrders 54 = .ok (.iload_n 3, 1) := by decide +kernel
theorem dX6_bringOrders_55 : decode cX6_bringOrders 55 = .ok (.iconst 1, 1) := by decide +kernel
theorem dX6_bringOrders_56 : decode cX6_bringOrders 56 = .ok (.iadd, 1) := by decide +kernel
theorem dX6_bringOrders_57 : decode cX6_bringOrders 57 = .ok (.invokevirtual 76, 3) := by decide +kernel
theorem dX6_bringOrders_60 : decode cX6_bringOrders 60 = .ok (.invokevirtual 80, 3) := by decide +kernel
theorem dX6_bringOrders_63 : decode cX6_bringOrders 63 = .ok (.goto 14, 3) := by decide +kernel
theorem dX6_bringOrders_66 : decode cX6_bringOrders 66 = .ok (.aload_n 1, 1) := by decide +kernel
theorem dX6_bringOrders_67 : decode cX6_bringOrders 67 = .ok (.aload_n 1, 1) := by decide +kernel
theorem dX6_bringOrders_68 : decode cX6_bringOrders 68 = .ok (.iload_n 3, 1) := by decide +kernel
theorem dX6_bringOrders_69 : decode cX6_bringOrders 69 = .ok (.iload_n 2, 1) := by decide +kernel
theorem dX6_bringOrders_70 : decode cX6_bringOrders 70 = .ok (.iconst 3, 1) := by decide +kernel
theorem dX6_bringOrders_71 : decode cX6_bringOrders 71 = .ok (.invokevirtual 84, 3) := by decide +kernel
theorem dX6_bringOrders_74 : decode cX6_bringOrders 74 = .ok (.iinc 2 3, 3) := by decide +kernel
theorem dX6_bringOrders_77 : decode cX6_bringOrders 77 = .ok (.iinc 3 3, 3) := by decide +kernel
theorem dX6_bringOrders_80 : decode cX6_bringOrders 80 = .ok (.goto (-68), 3) := by decide +kernel
theorem dX6_bringOrders_83 : decode cX6_bringOrders 83 = .ok (.aload_n 1, 1) := by decide +kernel
theorem dX6_bringOrders_84 : decode cX6_bringOrders 84 = .ok (.iload_n 2, 1) := by decide +kernel
theorem dX6_bringOrders_85 : decode cX6_bringOrders 85 = .ok (.invokevirtual 88, 3) := by decide +kernel
theorem dX6_bringOrders_88 : decode cX6_bringOrders 88 = .ok (.return_, 1) := by decide +kernel
theorem dX6_bringOrder_0 : decode cX6_bringOrder 0 = .ok (.aload_n 0, 1) := by decide +kernel
theorem dX6_bringOrder_1 : decode cX6_bringOrder 1 = .ok (.getfield 9, 3) := by decide +kernel
theorem dX6_bringOrder_4 : decode cX6_bringOrder 4 = .ok (.iload_n 2, 1) := by decide +kernel
theorem dX6_bringOrder_5 : decode cX6_bringOrder 5 = .ok (.invokevirtual 91, 3) := by decide +kernel
theorem dX6_bringOrder_8 : decode cX6_bringOrder 8 = .ok (.astore_n 3, 1) := by decide +kernel
theorem dX6_bringOrder_9 : decode cX6_bringOrder 9 = .ok (.aload_n 1, 1) := by decide +kernel
theorem dX6_bringOrder_10 : decode cX6_bringOrder 10 = .ok (.ifnull 23, 3) := by decide +kernel
theorem dX6_bringOrder_13 : decode cX6_bringOrder 13 = .ok (.aload_n 3, 1) := by decide +kernel
theorem dX6_bringOrder_14 : decode cX6_bringOrder 14 = .ok (.ifnull 19, 3) := by decide +kernel
theorem dX6_bringOrder_17 : decode cX6_bringOrder 17 = .ok (.aload_n 1, 1) := by decide +kernel
theorem dX6_bringOrder_18 : decode cX6_bringOrder 18 = .ok (.aload_n 3, 1) := by decide +kernel
theorem dX6_bringOrder_19 : decode cX6_bringOrder 19 = .ok (.invokevirtual 95, 3) := by decide +kernel
theorem dX6_bringOrder_22 : decode cX6_bringOrder 22 = .ok (.ifCond .eq 7, 3) := by decide +kernel
theorem dX6_bringOrder_25 : decode cX6_bringOrder 25 = .ok (.iconst (-1), 1) := by decide +kernel
theorem dX6_bringOrder_26 : decode cX6_bringOrder 26 = .ok (.goto 4, 3) := by decide +kernel
theorem dX6_bringOrder_29 : decode cX6_bringOrder 29 = .ok (.iload_n 2, 1) := by decide +kernel
theorem dX6_bringOrder_30 : decode cX6_bringOrder 30 = .ok (.invokevirtual 100, 3) := by decide +kernel
theorem dX6_bringOrder_33 : decode cX6_bringOrder 33 = .ok (.return_, 1) := by decide +kernel
theorem dX6_bringReports_0 : decode cX6_bringReports 0 = .ok (.aload_n 0, 1) := by decide +kernel
theorem dX6_bringReports_1 : decode cX6_bringReports 1 = .ok (.getfield 9, 3) := by decide +kernel
theorem dX6_bringReports_4 : decode cX6_bringReports 4 = .ok (.getfield 105, 3) := by decide +kernel
theorem dX6_bringReports_7 : decode cX6_bringReports 7 = .ok (.astore_n 1, 1) := by decide +kernel
theorem dX6_bringReports_8 : decode cX6_bringReports 8 = .ok (.iconst 0, 1) := by decide +kernel
theorem dX6_bringReports_9 : decode cX6_bringReports 9 = .ok (.istore_n 2, 1) := by decide +kernel
theorem dX6_bringReports_10 : decode cX6_bringReports 10 = .ok (.iconst 0, 1) := by decide +kernel
theorem dX6_bringReports_11 : decode cX6_bringReports 11 = .ok (.istore_n 3, 1) := by decide +kernel
theorem dX6_bringReports_12 : decode cX6_bringReports 12 = .ok (.iload_n 3, 1) := by decide +kernel
theorem dX6_bringReports_13 : decode cX6_bringReports 13 = .ok (.aload_n 1, 1) := by decide +kernel
theorem dX6_bringReports_14 : decode cX6_bringReports 14 = .ok (.invokevirtual 72, 3) := by decide +kernel
theorem dX6_bringReports_17 : decode cX6_bringReports 17 = .ok (.if_icmp .ge 87, 3) := by decide +kernel
theorem dX6_bringReports_20 : decode cX6_bringReports 20 = .ok (.aload_n 1, 1) := by decide +kernel
theorem dX6_bringReports_21 : decode cX6_bringReports 21 = .ok (.iload_n 3, 1) := by decide +kernel
theorem dX6_bringReports_22 : decode cX6_bringReports 22 = .ok (.iconst 5, 1) := by decide +kernel
theorem dX6_bringReports_23 : decode cX6_bringReports 23 = .ok (.iadd, 1) := by decide +kernel
theorem dX6_bringReports_24 : decode cX6_bringReports 24 = .ok (.invokevirtual 76, 3) := by decide +kernel
theorem dX6_bringReports_27 : decode cX6_bringReports 27 = .ok (.aload_n 0, 1) := by decide +kernel
theorem dX6_bringReports_28 : decode cX6_bringReports 28 = .ok (.getfield 9, 3) := by decide +kernel
theorem dX6_bringReports_31 : decode cX6_bringReports 31 = .ok (.getfield 30, 3) := by decide +kernel
theorem dX6_bringReports_34 : decode cX6_bringReports 34 = .ok (.getfield 66, 3) := by decide +kernel
theorem dX6_bringReports_37 : decode cX6_bringReports 37 = .ok (.if_icmp .ne 49, 3) := by decide +kernel
theorem dX6_bringReports_40 : decode cX6_bringReports 40 = .ok (.aload_n 0, 1) := by decide +kernel
theorem dX6_bringReports_41 : decode cX6_bringReports 41 = .ok (.getfield 9, 3) := by decide +kernel
theorem dX6_bringReports_44 : decode cX6_bringReports 44 = .ok (.getfield 108, 3) := by decide +kernel
theorem dX6_bringReports_47 : decode cX6_bringReports 47 = .ok (.aload_n 1, 1) := by decide +kernel
theorem dX6_bringReports_48 : decode cX6_bringReports 48 = .ok (.iload_n 3, 1) := by decide +kernel
theorem dX6_bringReports_49 : decode cX6_bringReports 49 = .ok (.invokevirtual 76, 3) := by decide +kernel
theorem dX6_bringReports_52 : decode cX6_bringReports 52 = .ok (.aload_n 1, 1) := by decide +kernel
theorem dX6_bringReports_53 : decode cX6_bringReports 53 = .ok (.iload_n 3, 1) := by decide +kernel
theorem dX6_bringReports_54 : decode cX6_bringReports 54 = .ok (.iconst 1, 1) := by decide +kernel
theorem dX6_bringReports_55 : decode cX6_bringReports 55 = .ok (.iadd, 1) := by decide +kernel
theorem dX6_bringReports_56 : decode cX6_bringReports 56 = .ok (.invokevirtual 76, 3) := by decide +kernel
theorem dX6_bringReports_59 : decode cX6_bringReports 59 = .ok (.aload_n 1, 1) := by decide +kernel
theorem dX6_bringReports_60 : decode cX6_bringReports 60 = .ok (.iload_n 3, 1) := by decide +kernel
theorem dX6_bringReports_61 : decode cX6_bringReports 61 = .ok (.iconst 2, 1) := by decide +kernel
theorem dX6_bringReports_62 : decode cX6_bringReports 62 = .ok (.iadd, 1) := by decide +kernel
theorem dX6_bringReports_63 : decode cX6_bringReports 63 = .ok (.invokevirtual 76, 3) := by decide +kernel
theorem dX6_bringReports_66 : decode cX6_bringReports 66 = .ok (.aload_n 1, 1) := by decide +kernel
theorem dX6_bringReports_67 : decode cX6_bringReports 67 = .ok (.iload_n 3, 1) := by decide +kernel
theorem dX6_bringReports_68 : decode cX6_bringReports 68 = .ok (.iconst 3, 1) := by decide +kernel
theorem dX6_bringReports_69 : decode cX6_bringReports 69 = .ok (.iadd, 1) := by decide +kernel
theorem dX6_bringReports_70 : decode cX6_bringReports 70 = .ok (.invokevirtual 76, 3) := by decide +kernel
theorem dX6_bringReports_73 : decode cX6_bringReports 73 = .ok (.aload_n 1, 1) := by decide +kernel
theorem dX6_bringReports_74 : decode cX6_bringReports 74 = .ok (.iload_n 3, 1) := by decide +kernel
theorem dX6_bringReports_75 : decode cX6_bringReports 75 = .ok (.iconst 4, 1) := by decide +kernel
theorem dX6_bringReports_76 : decode cX6_bringReports 76 = .ok (.iadd, 1) := by decide +kernel
theorem dX6_bringReports_77 : decode cX6_bringReports 77 = .ok (.invokevirtual 76, 3) := by decide +kernel
theorem dX6_bringReports_80 : decode cX6_bringReports 80 = .ok (.invokevirtual 112, 3) := by decide +kernel
theorem dX6_bringReports_83 : decode cX6_bringReports 83 = .ok (.goto 15, 3) := by decide +kernel
theorem dX6_bringReports_86 : decode cX6_bringReports 86 = .ok (.aload_n 1, 1) := by decide +kernel
theorem dX6_bringReports_87 : decode cX6_bringReports 87 = .ok (.aload_n 1, 1) := by decide +kernel
theorem dX6_bringReports_88 : decode cX6_bringReports 88 = .ok (.iload_n 3, 1) := by decide +kernel
theorem dX6_bringReports_89 : decode cX6_bringReports 89 = .ok (.iload_n 2, 1) := by decide +kernel
theorem dX6_bringReports_90 : decode cX6_bringReports 90 = .ok (.bipush 6, 2) := by decide +kernel
theorem dX6_bringReports_92 : decode cX6_bringReports 92 = .ok (.invokevirtual 84, 3) := by decide +kernel
theorem dX6_bringReports_95 : decode cX6_bringReports 95 = .ok (.iinc 2 6, 3) := by decide +kernel
theorem dX6_bringReports_98 : decode cX6_bringReports 98 = .ok (.iinc 3 6, 3) := by decide +kernel
theorem dX6_bringReports_101 : decode cX6_bringReports 101 = .ok (.goto (-89), 3) := by decide +kernel
theorem dX6_bringReports_104 : decode cX6_bringReports 104 = .ok (.aload_n 1, 1) := by decide +kernel
theorem dX6_bringReports_105 : decode cX6_bringReports 105 = .ok (.iload_n 2, 1) := by decide +kernel
theorem dX6_bringReports_106 : decode cX6_bringReports 106 = .ok (.invokevirtual 88, 3) := by decide +kernel
theorem dX6_bringReports_109 : decode cX6_bringReports 109 = .ok (.return_, 1) := by decide +kernel
theorem dX6_chargeAll_0 : decode cX6_chargeAll 0 = .ok (.iconst 0, 1) := by decide +kernel
theorem dX6_chargeAll_1 : decode cX6_chargeAll 1 = .ok (.istore_n 1, 1) := by decide +kernel
theorem dX6_chargeAll_2 : decode cX6_chargeAll 2 = .ok (.iload_n 1, 1) := by decide +kernel
theorem dX6_chargeAll_3 : decode cX6_chargeAll 3 = .ok (.aload_n 0, 1) := by decide +kernel
theorem dX6_chargeAll_4 : decode cX6_chargeAll 4 = .ok (.getfield 9, 3) := by decide +kernel
theorem dX6_chargeAll_7 : decode cX6_chargeAll 7 = .ok (.getfield 51, 3) := by decide +kernel
theorem dX6_chargeAll_10 : decode cX6_chargeAll 10 = .ok (.if_icmp .ge 34, 3) := by decide +kernel
theorem dX6_chargeAll_13 : decode cX6_chargeAll 13 = .ok (.aload_n 0, 1) := by decide +kernel
theorem dX6_chargeAll_14 : decode cX6_chargeAll 14 = .ok (.getfield 9, 3) := by decide +kernel
theorem dX6_chargeAll_17 : decode cX6_chargeAll 17 = .ok (.iload_n 1, 1) := by decide +kernel
theorem dX6_chargeAll_18 : decode cX6_chargeAll 18 = .ok (.invokevirtual 55, 3) := by decide +kernel
theorem dX6_chargeAll_21 : decode cX6_chargeAll 21 = .ok (.astore_n 2, 1) := by decide +kernel
theorem dX6_chargeAll_22 : decode cX6_chargeAll 22 = .ok (.aload_n 2, 1) := by decide +kernel
theorem dX6_chargeAll_23 : decode cX6_chargeAll 23 = .ok (.ifnull 15, 3) := by decide +kernel
theorem dX6_chargeAll_26 : decode cX6_chargeAll 26 = .ok (.aload_n 2, 1) := by decide +kernel
theorem dX6_chargeAll_27 : decode cX6_chargeAll 27 = .ok (.invokevirtual 118, 3) := by decide +kernel
theorem dX6_chargeAll_30 : decode cX6_chargeAll 30 = .ok (.ifCond .ne 8, 3) := by decide +kernel
theorem dX6_chargeAll_33 : decode cX6_chargeAll 33 = .ok (.aload_n 2, 1) := by decide +kernel
theorem dX6_chargeAll_34 : decode cX6_chargeAll 34 = .ok (.iconst 3, 1) := by decide +kernel
theorem dX6_chargeAll_35 : decode cX6_chargeAll 35 = .ok (.invokevirtual 121, 3) := by decide +kernel
theorem dX6_chargeAll_38 : decode cX6_chargeAll 38 = .ok (.iinc 1 1, 3) := by decide +kernel
theorem dX6_chargeAll_41 : decode cX6_chargeAll 41 = .ok (.goto (-39), 3) := by decide +kernel
theorem dX6_chargeAll_44 : decode cX6_chargeAll 44 = .ok (.return_, 1) := by decide +kernel
theorem dX6_sendReport_0 : decode cX6_sendReport 0 = .ok (.aload_n 1, 1) := by decide +kernel
theorem dX6_sendReport_1 : decode cX6_sendReport 1 = .ok (.ifnull 10, 3) := by decide +kernel
theorem dX6_sendReport_4 : decode cX6_sendReport 4 = .ok (.aload_n 1, 1) := by decide +kernel
theorem dX6_sendReport_5 : decode cX6_sendReport 5 = .ok (.invokevirtual 118, 3) := by decide +kernel
theorem dX6_sendReport_8 : decode cX6_sendReport 8 = .ok (.ifCond .eq 4, 3) := by decide +kernel
theorem dX6_sendReport_11 : decode cX6_sendReport 11 = .ok (.return_, 1) := by decide +kernel
theorem dX6_sendReport_12 : decode cX6_sendReport 12 = .ok (.aload_n 0, 1) := by decide +kernel
theorem dX6_sendReport_13 : decode cX6_sendReport 13 = .ok (.getfield 9, 3) := by decide +kernel
theorem dX6_sendReport_16 : decode cX6_sendReport 16 = .ok (.getfield 108, 3) := by decide +kernel
theorem dX6_sendReport_19 : decode cX6_sendReport 19 = .ok (.astore_n 2, 1) := by decide +kernel
theorem dX6_sendReport_20 : decode cX6_sendReport 20 = .ok (.aload_n 1, 1) := by decide +kernel
theorem dX6_sendReport_21 : decode cX6_sendReport 21 = .ok (.getfield 124, 3) := by decide +kernel
theorem dX6_sendReport_24 : decode cX6_sendReport 24 = .ok (.istore_n 3, 1) := by decide +kernel
theorem dX6_sendReport_25 : decode cX6_sendReport 25 = .ok (.aload_n 0, 1) := by decide +kernel
theorem dX6_sendReport_26 : decode cX6_sendReport 26 = .ok (.getfield 9, 3) := by decide +kernel
theorem dX6_sendReport_29 : decode cX6_sendReport 29 = .ok (.getfield 30, 3) := by decide +kernel
theorem dX6_sendReport_32 : decode cX6_sendReport 32 = .ok (.getfield 66, 3) := by decide +kernel
theorem dX6_sendReport_35 : decode cX6_sendReport 35 = .ok (.istore 4, 2) := by decide +kernel
theorem dX6_sendReport_37 : decode cX6_sendReport 37 = .ok (.aload_n 0, 1) := by decide +kernel
theorem dX6_sendReport_38 : decode cX6_sendReport 38 = .ok (.getfield 9, 3) := by decide +kernel
theorem dX6_sendReport_41 : decode cX6_sendReport 41 = .ok (.getfield 30, 3) := by decide +kernel
theorem dX6_sendReport_44 : decode cX6_sendReport 44 = .ok (.getfield 127, 3) := by decide +kernel
theorem dX6_sendReport_47 : decode cX6_sendReport 47 = .ok (.ifCond .ne 35, 3) := by decide +kernel
theorem dX6_sendReport_50 : decode cX6_sendReport 50 = .ok (.aload_n 2, 1) := by decide +kernel
theorem dX6_sendReport_51 : decode cX6_sendReport 51 = .ok (.iload_n 3, 1) := by decide +kernel
theorem dX6_sendReport_52 : decode cX6_sendReport 52 = .ok (.aload_n 2, 1) := by decide +kernel
theorem dX6_sendReport_53 : decode cX6_sendReport 53 = .ok (.getfield 130, 3) := by decide +kernel
theorem dX6_sendReport_56 : decode cX6_sendReport 56 = .ok (.iload_n 3, 1) := by decide +kernel
theorem dX6_sendReport_57 : decode cX6_sendReport 57 = .ok (.invokevirtual 76, 3) := by decide +kernel
theorem dX6_sendReport_60 : decode cX6_sendReport 60 = .ok (.aload_n 2, 1) := by decide +kernel
theorem dX6_sendReport_61 : decode cX6_sendReport 61 = .ok (.getfield 133, 3) := by decide +kernel
theorem dX6_sendReport_64 : decode cX6_sendReport 64 = .ok (.iload_n 3, 1) := by decide +kernel
theorem dX6_sendReport_65 : decode cX6_sendReport 65 = .ok (.invokevirtual 76, 3) := by decide +kernel
theorem dX6_sendReport_68 : decode cX6_sendReport 68 = .ok (.aload_n 2, 1) := by decide +kernel
theorem dX6_sendReport_69 : decode cX6_sendReport 69 = .ok (.getfield 136, 3) := by decide +kernel
theorem dX6_sendReport_72 : decode cX6_sendReport 72 = .ok (.iload_n 3, 1) := by decide +kernel
theorem dX6_sendReport_73 : decode cX6_sendReport 73 = .ok (.invokevirtual 76, 3) := by decide +kernel
theorem dX6_sendReport_76 : decode cX6_sendReport 76 = .ok (.iload 4, 2) := by decide +kernel
theorem dX6_sendReport_78 : decode cX6_sendReport 78 = .ok (.invokevirtual 112, 3) := by decide +kernel
theorem dX6_sendReport_81 : decode cX6_sendReport 81 = .ok (.return_, 1) := by decide +kernel
theorem dX6_sendReport_82 : decode cX6_sendReport 82 = .ok (.aload_n 0, 1) := by decide +kernel
theorem dX6_sendReport_83 : decode cX6_sendReport 83 = .ok (.getfield 9, 3) := by decide +kernel
theorem dX6_sendReport_86 : decode cX6_sendReport 86 = .ok (.getfield 105, 3) := by decide +kernel
theorem dX6_sendReport_89 : decode cX6_sendReport 89 = .ok (.iload_n 3, 1) := by decide +kernel
theorem dX6_sendReport_90 : decode cX6_sendReport 90 = .ok (.invokevirtual 139, 3) := by decide +kernel
theorem dX6_sendReport_93 : decode cX6_sendReport 93 = .ok (.pop, 1) := by decide +kernel
theorem dX6_sendReport_94 : decode cX6_sendReport 94 = .ok (.aload_n 0, 1) := by decide +kernel
theorem dX6_sendReport_95 : decode cX6_sendReport 95 = .ok (.getfield 9, 3) := by decide +kernel
theorem dX6_sendReport_98 : decode cX6_sendReport 98 = .ok (.getfield 105, 3) := by decide +kernel
theorem dX6_sendReport_101 : decode cX6_sendReport 101 = .ok (.aload_n 2, 1) := by decide +kernel
theorem dX6_sendReport_102 : decode cX6_sendReport 102 = .ok (.getfield 130, 3) := by decide +kernel
theorem dX6_sendReport_105 : decode cX6_sendReport 105 = .ok (.iload_n 3, 1) := by decide +kernel
theorem dX6_sendReport_106 : decode cX6_sendReport 106 = .ok (.invokevirtual 76, 3) := by decide +kernel
theorem dX6_sendReport_109 : decode cX6_sendReport 109 = .ok (.invokevirtual 139, 3) := by decide +kernel
theorem dX6_sendReport_112 : decode cX6_sendReport 112 = .ok (.pop, 1) := by decide +kernel
theorem dX6_sendReport_113 : decode cX6_sendReport 113 = .ok (.aload_n 0, 1) := by decide +kernel
theorem dX6_sendReport_114 : decode cX6_sendReport 114 = .ok (.getfield 9, 3) := by decide +kernel
theorem dX6_sendReport_117 : decode cX6_sendReport 117 = .ok (.getfield 105, 3) := by decide +kernel
theorem dX6_sendReport_120 : decode cX6_sendReport 120 = .ok (.aload_n 2, 1) := by decide +kernel
theorem dX6_sendReport_121 : decode cX6_sendReport 121 = .ok (.getfield 133, 3) := by decide +kernel
theorem dX6_sendReport_124 : decode cX6_sendReport 124 = .ok (.iload_n 3, 1) := by decide +kernel
theorem dX6_sendReport_125 : decode cX6_sendReport 125 = .ok (.invokevirtual 76, 3) := by decide +kernel
theorem dX6_sendReport_128 : decode cX6_sendReport 128 = .ok (.invokevirtual 139, 3) := by decide +kernel
theorem dX6_sendReport_131 : decode cX6_sendReport 131 = .ok (.pop, 1) := by decide +kernel
theorem dX6_sendReport_132 : decode cX6_sendReport 132 = .ok (.aload_n 0, 1) := by decide +kernel
theorem dX6_sendReport_133 : decode cX6_sendReport 133 = .ok (.getfield 9, 3) := by decide +kernel
theorem dX6_sendReport_136 : decode cX6_sendReport 136 = .ok (.getfield 105, 3) := by decide +kernel
theorem dX6_sendReport_139 : decode cX6_sendReport 139 = .ok (.aload_n 2, 1) := by decide +kernel
theorem dX6_sendReport_140 : decode cX6_sendReport 140 = .ok (.getfield 136, 3) := by decide +kernel
theorem dX6_sendReport_143 : decode cX6_sendReport 143 = .ok (.iload_n 3, 1) := by decide +kernel
theorem dX6_sendReport_144 : decode cX6_sendReport 144 = .ok (.invokevirtual 76, 3) := by decide +kernel
theorem dX6_sendReport_147 : decode cX6_sendReport 147 = .ok (.invokevirtual 139, 3) := by decide +kernel
theorem dX6_sendReport_150 : decode cX6_sendReport 150 = .ok (.pop, 1) := by decide +kernel
theorem dX6_sendReport_151 : decode cX6_sendReport 151 = .ok (.aload_n 0, 1) := by decide +kernel
theorem dX6_sendReport_152 : decode cX6_sendReport 152 = .ok (.getfield 9, 3) := by decide +kernel
theorem dX6_sendReport_155 : decode cX6_sendReport 155 = .ok (.getfield 105, 3) := by decide +kernel
theorem dX6_sendReport_158 : decode cX6_sendReport 158 = .ok (.iload 4, 2) := by decide +kernel
theorem dX6_sendReport_160 : decode cX6_sendReport 160 = .ok (.invokevirtual 139, 3) := by decide +kernel
theorem dX6_sendReport_163 : decode cX6_sendReport 163 = .ok (.pop, 1) := by decide +kernel
theorem dX6_sendReport_164 : decode cX6_sendReport 164 = .ok (.aload_n 0, 1) := by decide +kernel
theorem dX6_sendReport_165 : decode cX6_sendReport 165 = .ok (.getfield 9, 3) := by decide +kernel
theorem dX6_sendReport_168 : decode cX6_sendReport 168 = .ok (.getfield 105, 3) := by decide +kernel
theorem dX6_sendReport_171 : decode cX6_sendReport 171 = .ok (.iload 4, 2) := by decide +kernel
theorem dX6_sendReport_173 : decode cX6_sendReport 173 = .ok (.aload_n 0, 1) := by decide +kernel
theorem dX6_sendReport_174 : decode cX6_sendReport 174 = .ok (.getfield 9, 3) := by decide +kernel
theorem dX6_sendReport_177 : decode cX6_sendReport 177 = .ok (.getfield 30, 3) := by decide +kernel
theorem dX6_sendReport_180 : decode cX6_sendReport 180 = .ok (.getfield 127, 3) := by decide +kernel
theorem dX6_sendReport_183 : decode cX6_sendReport 183 = .ok (.iadd, 1) := by decide +kernel
theorem dX6_sendReport_184 : decode cX6_sendReport 184 = .ok (.invokevirtual 139, 3) := by decide +kernel
theorem dX6_sendReport_187 : decode cX6_sendReport 187 = .ok (.pop, 1) := by decide +kernel
theorem dX6_sendReport_188 : decode cX6_sendReport 188 = .ok (.return_, 1) := by decide +kernel
theorem dX6_runScript_0 : decode cX6_runScript 0 = .ok (.aload_n 1, 1) := by decide +kernel
theorem dX6_runScript_1 : decode cX6_runScript 1 = .ok (.ifnull 17, 3) := by decide +kernel
theorem dX6_runScript_4 : decode cX6_runScript 4 = .ok (.aload_n 1, 1) := by decide +kernel
theorem dX6_runScript_5 : decode cX6_runScript 5 = .ok (.invokevirtual 118, 3) := by decide +kernel
theorem dX6_runScript_8 : decode cX6_runScript 8 = .ok (.ifCond .ne 10, 3) := by decide +kernel
theorem dX6_runScript_11 : decode cX6_runScript 11 = .ok (.aload_n 1, 1) := by decide +kernel
theorem dX6_runScript_12 : decode cX6_runScript 12 = .ok (.getfield 143, 3) := by decide +kernel
theorem dX6_runScript_15 : decode cX6_runScript 15 = .ok (.ifCond .gt 4, 3) := by decide +kernel
theorem dX6_runScript_18 : decode cX6_runScript 18 = .ok (.return_, 1) := by decide +kernel
theorem dX6_runScript_19 : decode cX6_runScript 19 = .ok (.aload_n 0, 1) := by decide +kernel
theorem dX6_runScript_20 : decode cX6_runScript 20 = .ok (.getfield 9, 3) := by decide +kernel
theorem dX6_runScript_23 : decode cX6_runScript 23 = .ok (.aload_n 1, 1) := by decide +kernel
theorem dX6_runScript_24 : decode cX6_runScript 24 = .ok (.getfield 146, 3) := by decide +kernel
theorem dX6_runScript_27 : decode cX6_runScript 27 = .ok (.invokevirtual 91, 3) := by decide +kernel
theorem dX6_runScript_30 : decode cX6_runScript 30 = .ok (.astore_n 2, 1) := by decide +kernel
theorem dX6_runScript_31 : decode cX6_runScript 31 = .ok (.aload_n 2, 1) := by decide +kernel
theorem dX6_runScript_32 : decode cX6_runScript 32 = .ok (.ifnonnull 4, 3) := by decide +kernel
theorem dX6_runScript_35 : decode cX6_runScript 35 = .ok (.return_, 1) := by decide +kernel
theorem dX6_runScript_36 : decode cX6_runScript 36 = .ok (.iconst 0, 1) := by decide +kernel
theorem dX6_runScript_37 : decode cX6_runScript 37 = .ok (.istore_n 3, 1) := by decide +kernel
theorem dX6_runScript_38 : decode cX6_runScript 38 = .ok (.iconst 0, 1) := by decide +kernel
theorem dX6_runScript_39 : decode cX6_runScript 39 = .ok (.istore 4, 2) := by decide +kernel
theorem dX6_runScript_41 : decode cX6_runScript 41 = .ok (.iload 4, 2) := by decide +kernel
theorem dX6_runScript_43 : decode cX6_runScript 43 = .ok (.sipush 1000, 3) := by decide +kernel
theorem dX6_runScript_46 : decode cX6_runScript 46 = .ok (.if_icmp .ge 101, 3) := by decide +kernel
theorem dX6_runScript_49 : decode cX6_runScript 49 = .ok (.iload_n 3, 1) := by decide +kernel
theorem dX6_runScript_50 : decode cX6_runScript 50 = .ok (.bipush 50, 2) := by decide +kernel
theorem dX6_runScript_52 : decode cX6_runScript 52 = .ok (.if_icmp .ge 95, 3) := by decide +kernel
theorem dX6_runScript_55 : decode cX6_runScript 55 = .ok (.aload_n 1, 1) := by decide +kernel
theorem dX6_runScript_56 : decode cX6_runScript 56 = .ok (.getfield 148, 3) := by decide +kernel
theorem dX6_runScript_59 : decode cX6_runScript 59 = .ok (.istore 5, 2) := by decide +kernel
theorem dX6_runScript_61 : decode cX6_runScript 61 = .ok (.iload 5, 2) := by decide +kernel
theorem dX6_runScript_63 : decode cX6_runScript 63 = .ok (.aload_n 2, 1) := by decide +kernel
theorem dX6_runScript_64 : decode cX6_runScript 64 = .ok (.invokevirtual 151, 3) := by decide +kernel
theorem dX6_runScript_67 : decode cX6_runScript 67 = .ok (.if_icmp .lt 9, 3) := by decide +kernel
theorem dX6_runScript_70 : decode cX6_runScript 70 = .ok (.aload_n 1, 1) := by decide +kernel
theorem dX6_runScript_71 : decode cX6_runScript 71 = .ok (.iconst (-1), 1) := by decide +kernel
theorem dX6_runScript_72 : decode cX6_runScript 72 = .ok (.invokevirtual 100, 3) := by decide +kernel
theorem dX6_runScript_75 : decode cX6_runScript 75 = .ok (.return_, 1) := by decide +kernel
theorem dX6_runScript_76 : decode cX6_runScript 76 = .ok (.aload_n 0, 1) := by decide +kernel
theorem dX6_runScript_77 : decode cX6_runScript 77 = .ok (.aload_n 1, 1) := by decide +kernel
theorem dX6_runScript_78 : decode cX6_runScript 78 = .ok (.aload_n 2, 1) := by decide +kernel
theorem dX6_runScript_79 : decode cX6_runScript 79 = .ok (.invokevirtual 154, 3) := by decide +kernel
theorem dX6_runScript_82 : decode cX6_runScript 82 = .ok (.istore 6, 2) := by decide +kernel
theorem dX6_runScript_84 : decode cX6_runScript 84 = .ok (.iload 6, 2) := by decide +kernel
theorem dX6_runScript_86 : decode cX6_runScript 86 = .ok (.iconst (-1), 1) := by decide +kernel
theorem dX6_runScript_87 : decode cX6_runScript 87 = .ok (.if_icmp .ne 31, 3) := by decide +kernel
theorem dX6_runScript_90 : decode cX6_runScript 90 = .ok (.aload_n 2, 1) := by decide +kernel
theorem dX6_runScript_91 : decode cX6_runScript 91 = .ok (.iload 5, 2) := by decide +kernel
theorem dX6_runScript_93 : decode cX6_runScript 93 = .ok (.invokevirtual 158, 3) := by decide +kernel
theorem dX6_runScript_96 : decode cX6_runScript 96 = .ok (.iconst 1, 1) := by decide +kernel
theorem dX6_runScript_97 : decode cX6_runScript 97 = .ok (.if_icmp .ne 21, 3) := by decide +kernel
theorem dX6_runScript_100 : decode cX6_runScript 100 = .ok (.aload_n 0, 1) := by decide +kernel
theorem dX6_runScript_101 : decode cX6_runScript 101 = .ok (.aload_n 1, 1) := by decide +kernel
theorem dX6_runScript_102 : decode cX6_runScript 102 = .ok (.aload_n 2, 1) := by decide +kernel
theorem dX6_runScript_103 : decode cX6_runScript 103 = .ok (.iload 5, 2) := by decide +kernel
theorem dX6_runScript_105 : decode cX6_runScript 105 = .ok (.invokevirtual 161, 3) := by decide +kernel
theorem dX6_runScript_108 : decode cX6_runScript 108 = .ok (.aload_n 2, 1) := by decide +kernel
theorem dX6_runScript_109 : decode cX6_runScript 109 = .ok (.iload 5, 2) := by decide +kernel
theorem dX6_runScript_111 : decode cX6_runScript 111 = .ok (.invokevirtual 164, 3) := by decide +kernel
theorem dX6_runScript_114 : decode cX6_runScript 114 = .ok (.invokevirtual 167, 3) := by decide +kernel
theorem dX6_runScript_117 : decode cX6_runScript 117 = .ok (.return_, 1) := by decide +kernel
theorem dX6_runScript_118 : decode cX6_runScript 118 = .ok (.iload 6, 2) := by decide +kernel
theorem dX6_runScript_120 : decode cX6_runScript 120 = .ok (.iconst (-1), 1) := by decide +kernel
theorem dX6_runScript_121 : decode cX6_runScript 121 = .ok (.if_icmp .ne 15, 3) := by decide +kernel
theorem dX6_runScript_124 : decode cX6_runScript 124 = .ok (.aload_n 0, 1) := by decide +kernel
theorem dX6_runScript_125 : decode cX6_runScript 125 = .ok (.aload_n 1, 1) := by decide +kernel
theorem dX6_runScript_126 : decode cX6_runScript 126 = .ok (.aload_n 2, 1) := by decide +kernel
theorem dX6_runScript_127 : decode cX6_runScript 127 = .ok (.iload 5, 2) := by decide +kernel
theorem dX6_runScript_129 : decode cX6_runScript 129 = .ok (.invokevirtual 158, 3) := by decide +kernel
theorem dX6_runScript_132 : decode cX6_runScript 132 = .ok (.invokevirtual 171, 3) := by decide +kernel
theorem dX6_runScript_135 : decode cX6_runScript 135 = .ok (.return_, 1) := by decide +kernel
theorem dX6_runScript_136 : decode cX6_runScript 136 = .ok (.iload_n 3, 1) := by decide +kernel
theorem dX6_runScript_137 : decode cX6_runScript 137 = .ok (.iload 6, 2) := by decide +kernel
theorem dX6_runScript_139 : decode cX6_runScript 139 = .ok (.iadd, 1) := by decide +kernel
theorem dX6_runScript_140 : decode cX6_runScript 140 = .ok (.istore_n 3, 1) := by decide +kernel
theorem dX6_runScript_141 : decode cX6_runScript 141 = .ok (.iinc 4 1, 3) := by decide +kernel
theorem dX6_runScript_144 : decode cX6_runScript 144 = .ok (.goto (-103), 3) := by decide +kernel
theorem dX6_runScript_147 : decode cX6_runScript 147 = .ok (.return_, 1) := by decide +kernel
theorem dX6_steer_0 : decode cX6_steer 0 = .ok (.aload_n 1, 1) := by decide +kernel
theorem dX6_steer_1 : decode cX6_steer 1 = .ok (.getfield 148, 3) := by decide +kernel
theorem dX6_steer_4 : decode cX6_steer 4 = .ok (.istore_n 3, 1) := by decide +kernel
theorem dX6_steer_5 : decode cX6_steer 5 = .ok (.aload_n 2, 1) := by decide +kernel
theorem dX6_steer_6 : decode cX6_steer 6 = .ok (.iload_n 3, 1) := by decide +kernel
theorem dX6_steer_7 : decode cX6_steer 7 = .ok (.invokevirtual 161, 3) := by decide +kernel
theorem dX6_steer_10 : decode cX6_steer 10 = .ok (.istore 4, 2) := by decide +kernel
theorem dX6_steer_12 : decode cX6_steer 12 = .ok (.aload_n 2, 1) := by decide +kernel
theorem dX6_steer_13 : decode cX6_steer 13 = .ok (.iload_n 3, 1) := by decide +kernel
theorem dX6_steer_14 : decode cX6_steer 14 = .ok (.invokevirtual 164, 3) := by decide +kernel
theorem dX6_steer_17 : decode cX6_steer 17 = .ok (.istore 5, 2) := by decide +kernel
theorem dX6_steer_19 : decode cX6_steer 19 = .ok (.aload_n 1, 1) := by decide +kernel
theorem dX6_steer_20 : decode cX6_steer 20 = .ok (.iload_n 3, 1) := by decide +kernel
theorem dX6_steer_21 : decode cX6_steer 21 = .ok (.iconst 1, 1) := by decide +kernel
theorem dX6_steer_22 : decode cX6_steer 22 = .ok (.iadd, 1) := by decide +kernel
theorem dX6_steer_23 : decode cX6_steer 23 = .ok (.putfield 148, 3) := by decide +kernel
theorem dX6_steer_26 : decode cX6_steer 26 = .ok (.aload_n 2, 1) := by decide +kernel
theorem dX6_steer_27 : decode cX6_steer 27 = .ok (.iload_n 3, 1) := by decide +kernel
theorem dX6_steer_28 : decode cX6_steer 28 = .ok (.invokevirtual 158, 3) := by decide +kernel
theorem dX6_steer_31 : decode cX6_steer 31 = .ok (.tableswitch 186 1 13 #[168, 148, 129, 129, 86, 186, 186, 186, 186, 186, 186, 65, 73], 65) := by decide +kernel
theorem dX6_steer_96 : decode cX6_steer 96 = .ok (.aload_n 1, 1) := by decide +kernel
theorem dX6_steer_97 : decode cX6_steer 97 = .ok (.iload 5, 2) := by decide +kernel
theorem dX6_steer_99 : decode cX6_steer 99 = .ok (.putfield 148, 3) := by decide +kernel
theorem dX6_steer_102 : decode cX6_steer 102 = .ok (.iconst 0, 1) := by decide +kernel
theorem dX6_steer_103 : decode cX6_steer 103 = .ok (.ireturn, 1) := by decide +kernel
theorem dX6_steer_104 : decode cX6_steer 104 = .ok (.aload_n 1, 1) := by decide +kernel
theorem dX6_steer_105 : decode cX6_steer 105 = .ok (.getfield 174, 3) := by decide +kernel
theorem dX6_steer_108 : decode cX6_steer 108 = .ok (.iload 4, 2) := by decide +kernel
theorem dX6_steer_110 : decode cX6_steer 110 = .ok (.iload 5, 2) := by decide +kernel
theorem dX6_steer_112 : decode cX6_steer 112 = .ok (.invokevirtual 177, 3) := by decide +kernel
theorem dX6_steer_115 : decode cX6_steer 115 = .ok (.iconst 0, 1) := by decide +kernel
theorem dX6_steer_116 : decode cX6_steer 116 = .ok (.ireturn, 1) := by decide +kernel
theorem dX6_steer_117 : decode cX6_steer 117 = .ok (.aload_n 1, 1) := by decide +kernel
theorem dX6_steer_118 : decode cX6_steer 118 = .ok (.getfield 174, 3) := by decide +kernel
theorem dX6_steer_121 : decode cX6_steer 121 = .ok (.iload 4, 2) := by decide +kernel
theorem dX6_steer_123 : decode cX6_steer 123 = .ok (.invokevirtual 76, 3) := by decide +kernel
theorem dX6_steer_126 : decode cX6_steer 126 = .ok (.ifCond .le 26, 3) := by decide +kernel
theorem dX6_steer_129 : decode cX6_steer 129 = .ok (.aload_n 1, 1) := by decide +kernel
theorem dX6_steer_130 : decode cX6_steer 130 = .ok (.getfield 174, 3) := by decide +kernel
theorem dX6_steer_133 : decode cX6_steer 133 = .ok (.iload 4, 2) := by decide +kernel
theorem dX6_steer_135 : decode cX6_steer 135 = .ok (.aload_n 1, 1) := by decide +kernel
theorem dX6_steer_136 : decode cX6_steer 136 = .ok (.getfield 174, 3) := by decide +kernel
theorem dX6_steer_139 : decode cX6_steer 139 = .ok (.iload 4, 2) := by decide +kernel
theorem dX6_steer_141 : decode cX6_steer 141 = .ok (.invokevirtual 76, 3) := by decide +kernel
theorem dX6_steer_144 : decode cX6_steer 144 = .ok (.iconst 1, 1) := by decide +kernel
theorem dX6_steer_145 : decode cX6_steer 145 = .ok (.isub, 1) := by decide +kernel
theorem dX6_steer_146 : decode cX6_steer 146 = .ok (.invokevirtual 177, 3) := by decide +kernel
theorem dX6_steer_149 : decode cX6_steer 149 = .ok (.goto 9, 3) := by decide +kernel
theorem dX6_steer_152 : decode cX6_steer 152 = .ok (.aload_n 1, 1) := by decide +kernel
theorem dX6_steer_153 : decode cX6_steer 153 = .ok (.iload 5, 2) := by decide +kernel
theorem dX6_steer_155 : decode cX6_steer 155 = .ok (.putfield 148, 3) := by decide +kernel
theorem dX6_steer_158 : decode cX6_steer 158 = .ok (.iconst 1, 1) := by decide +kernel
theorem dX6_steer_159 : decode cX6_steer 159 = .ok (.ireturn, 1) := by decide +kernel
theorem dX6_steer_160 : decode cX6_steer 160 = .ok (.aload_n 0, 1) := by decide +kernel
theorem dX6_steer_161 : decode cX6_steer 161 = .ok (.aload_n 1, 1) := by decide +kernel
theorem dX6_steer_162 : decode cX6_steer 162 = .ok (.aload_n 2, 1) := by decide +kernel
theorem dX6_steer_163 : decode cX6_steer 163 = .ok (.iload 4, 2) := by decide +kernel
theorem dX6_steer_165 : decode cX6_steer 165 = .ok (.invokevirtual 181, 3) := by decide +kernel
theorem dX6_steer_168 : decode cX6_steer 168 = .ok (.ifCond .ne 9, 3) := by decide +kernel
theorem dX6_steer_171 : decode cX6_steer 171 = .ok (.aload_n 1, 1) := by decide +kernel
theorem dX6_steer_172 : decode cX6_steer 172 = .ok (.iload 5, 2) := by decide +kernel
theorem dX6_steer_174 : decode cX6_steer 174 = .ok (.putfield 148, 3) := by decide +kernel
theorem dX6_steer_177 : decode cX6_steer 177 = .ok (.iconst 1, 1) := by decide +kernel
theorem dX6_steer_178 : decode cX6_steer 178 = .ok (.ireturn, 1) := by decide +kernel
theorem dX6_steer_179 : decode cX6_steer 179 = .ok (.aload_n 0, 1) := by decide +kernel
theorem dX6_steer_180 : decode cX6_steer 180 = .ok (.aload_n 1, 1) := by decide +kernel
theorem dX6_steer_181 : decode cX6_steer 181 = .ok (.aload_n 2, 1) := by decide +kernel
theorem dX6_steer_182 : decode cX6_steer 182 = .ok (.iload 4, 2) := by decide +kernel
theorem dX6_steer_184 : decode cX6_steer 184 = .ok (.invokevirtual 181, 3) := by decide +kernel
theorem dX6_steer_187 : decode cX6_steer 187 = .ok (.ifCond .eq 5, 3) := by decide +kernel
theorem dX6_steer_190 : decode cX6_steer 190 = .ok (.iconst 1, 1) := by decide +kernel
theorem dX6_steer_191 : decode cX6_steer 191 = .ok (.ireturn, 1) := by decide +kernel
theorem dX6_steer_192 : decode cX6_steer 192 = .ok (.aload_n 1, 1) := by decide +kernel
theorem dX6_steer_193 : decode cX6_steer 193 = .ok (.iload_n 3, 1) := by decide +kernel
theorem dX6_steer_194 : decode cX6_steer 194 = .ok (.putfield 148, 3) := by decide +kernel
theorem dX6_steer_197 : decode cX6_steer 197 = .ok (.iconst (-1), 1) := by decide +kernel
theorem dX6_steer_198 : decode cX6_steer 198 = .ok (.ireturn, 1) := by decide +kernel
theorem dX6_steer_199 : decode cX6_steer 199 = .ok (.aload_n 0, 1) := by decide +kernel
theorem dX6_steer_200 : decode cX6_steer 200 = .ok (.aload_n 1, 1) := by decide +kernel
theorem dX6_steer_201 : decode cX6_steer 201 = .ok (.iload 4, 2) := by decide +kernel
theorem dX6_steer_203 : decode cX6_steer 203 = .ok (.iload 5, 2) := by decide +kernel
theorem dX6_steer_205 : decode cX6_steer 205 = .ok (.invokevirtual 185, 3) := by decide +kernel
theorem dX6_steer_208 : decode cX6_steer 208 = .ok (.ifCond .eq 7, 3) := by decide +kernel
theorem dX6_steer_211 : decode cX6_steer 211 = .ok (.iconst 1, 1) := by decide +kernel
theorem dX6_steer_212 : decode cX6_steer 212 = .ok (.goto 4, 3) := by decide +kernel
theorem dX6_steer_215 : decode cX6_steer 215 = .ok (.iconst (-1), 1) := by decide +kernel
theorem dX6_steer_216 : decode cX6_steer 216 = .ok (.ireturn, 1) := by decide +kernel
theorem dX6_steer_217 : decode cX6_steer 217 = .ok (.iconst (-1), 1) := by decide +kernel
theorem dX6_steer_218 : decode cX6_steer 218 = .ok (.ireturn, 1) := by decide +kernel
theorem dX6_isAt_0 : decode cX6_isAt 0 = .ok (.aload_n 0, 1) := by decide +kernel
theorem dX6_isAt_1 : decode cX6_isAt 1 = .ok (.getfield 9, 3) := by decide +kernel
theorem dX6_isAt_4 : decode cX6_isAt 4 = .ok (.getfield 108, 3) := by decide +kernel
theorem dX6_isAt_7 : decode cX6_isAt 7 = .ok (.aload_n 1, 1) := by decide +kernel
theorem dX6_isAt_8 : decode cX6_isAt 8 = .ok (.getfield 124, 3) := by decide +kernel
theorem dX6_isAt_11 : decode cX6_isAt 11 = .ok (.invokevirtual 189, 3) := by decide +kernel
theorem dX6_isAt_14 : decode cX6_isAt 14 = .ok (.iload_n 2, 1) := by decide +kernel
theorem dX6_isAt_15 : decode cX6_isAt 15 = .ok (.if_icmp .ne 25, 3) := by decide +kernel
theorem dX6_isAt_18 : decode cX6_isAt 18 = .ok (.aload_n 0, 1) := by decide +kernel
theorem dX6_isAt_19 : decode cX6_isAt 19 = .ok (.getfield 9, 3) := by decide +kernel
theorem dX6_isAt_22 : decode cX6_isAt 22 = .ok (.getfield 108, 3) := by decide +kernel
theorem dX6_isAt_25 : decode cX6_isAt 25 = .ok (.aload_n 1, 1) := by decide +kernel
theorem dX6_isAt_26 : decode cX6_isAt 26 = .ok (.getfield 124, 3) := by decide +kernel
theorem dX6_isAt_29 : decode cX6_isAt 29 = .ok (.invokevirtual 192, 3) := by decide +kernel
theorem dX6_isAt_32 : decode cX6_isAt 32 = .ok (.iload_n 3, 1) := by decide +kernel
theorem dX6_isAt_33 : decode cX6_isAt 33 = .ok (.if_icmp .ne 7, 3) := by decide +kernel
theorem dX6_isAt_36 : decode cX6_isAt 36 = .ok (.iconst 1, 1) := by decide +kernel
theorem dX6_isAt_37 : decode cX6_isAt 37 = .ok (.goto 4, 3) := by decide +kernel
theorem dX6_isAt_40 : decode cX6_isAt 40 = .ok (.iconst 0, 1) := by decide +kernel
theorem dX6_isAt_41 : decode cX6_isAt 41 = .ok (.ireturn, 1) := by decide +kernel
theorem dX6_labour_0 : decode cX6_labour 0 = .ok (.iload_n 2, 1) := by decide +kernel
theorem dX6_labour_1 : decode cX6_labour 1 = .ok (.tableswitch 75 6 10 #[35, 43, 51, 59, 67], 35) := by decide +kernel
theorem dX6_labour_36 : decode cX6_labour 36 = .ok (.aload_n 0, 1) := by decide +kernel
theorem dX6_labour_37 : decode cX6_labour 37 = .ok (.aload_n 1, 1) := by decide +kernel
theorem dX6_labour_38 : decode cX6_labour 38 = .ok (.invokevirtual 195, 3) := by decide +kernel
theorem dX6_labour_41 : decode cX6_labour 41 = .ok (.goto 35, 3) := by decide +kernel
theorem dX6_labour_44 : decode cX6_labour 44 = .ok (.aload_n 0, 1) := by decide +kernel
theorem dX6_labour_45 : decode cX6_labour 45 = .ok (.aload_n 1, 1) := by decide +kernel
theorem dX6_labour_46 : decode cX6_labour 46 = .ok (.invokevirtual 198, 3) := by decide +kernel
theorem dX6_labour_49 : decode cX6_labour 49 = .ok (.goto 27, 3) := by decide +kernel
theorem dX6_labour_52 : decode cX6_labour 52 = .ok (.aload_n 0, 1) := by decide +kernel
theorem dX6_labour_53 : decode cX6_labour 53 = .ok (.aload_n 1, 1) := by decide +kernel
theorem dX6_labour_54 : decode cX6_labour 54 = .ok (.invokevirtual 201, 3) := by decide +kernel
theorem dX6_labour_57 : decode cX6_labour 57 = .ok (.goto 19, 3) := by decide +kernel
theorem dX6_labour_60 : decode cX6_labour 60 = .ok (.aload_n 0, 1) := by decide +kernel
theorem dX6_labour_61 : decode cX6_labour 61 = .ok (.aload_n 1, 1) := by decide +kernel
theorem dX6_labour_62 : decode cX6_labour 62 = .ok (.invokevirtual 204, 3) := by decide +kernel
theorem dX6_labour_65 : decode cX6_labour 65 = .ok (.goto 11, 3) := by decide +kernel
theorem dX6_labour_68 : decode cX6_labour 68 = .ok (.aload_n 0, 1) := by decide +kernel
theorem dX6_labour_69 : decode cX6_labour 69 = .ok (.aload_n 1, 1) := by decide +kernel
theorem dX6_labour_70 : decode cX6_labour 70 = .ok (.invokevirtual 206, 3) := by decide +kernel
theorem dX6_labour_73 : decode cX6_labour 73 = .ok (.goto 3, 3) := by decide +kernel
theorem dX6_labour_76 : decode cX6_labour 76 = .ok (.return_, 1) := by decide +kernel
theorem dX6_go_0 : decode cX6_go 0 = .ok (.aload_n 0, 1) := by decide +kernel
theorem dX6_go_1 : decode cX6_go 1 = .ok (.getfield 9, 3) := by decide +kernel
theorem dX6_go_4 : decode cX6_go 4 = .ok (.getfield 108, 3) := by decide +kernel
theorem dX6_go_7 : decode cX6_go 7 = .ok (.astore 4, 2) := by decide +kernel
theorem dX6_go_9 : decode cX6_go 9 = .ok (.iload_n 2, 1) := by decide +kernel
theorem dX6_go_10 : decode cX6_go 10 = .ok (.aload 4, 2) := by decide +kernel
theorem dX6_go_12 : decode cX6_go 12 = .ok (.getfield 209, 3) := by decide +kernel
theorem dX6_go_15 : decode cX6_go 15 = .ok (.if_icmp .ge 12, 3) := by decide +kernel
theorem dX6_go_18 : decode cX6_go 18 = .ok (.iload_n 3, 1) := by decide +kernel
theorem dX6_go_19 : decode cX6_go 19 = .ok (.aload 4, 2) := by decide +kernel
theorem dX6_go_21 : decode cX6_go 21 = .ok (.getfield 212, 3) := by decide +kernel
theorem dX6_go_24 : decode cX6_go 24 = .ok (.if_icmp .lt 4, 3) := by decide +kernel
theorem dX6_go_27 : decode cX6_go 27 = .ok (.return_, 1) := by decide +kernel
theorem dX6_go_28 : decode cX6_go 28 = .ok (.aload 4, 2) := by decide +kernel
theorem dX6_go_30 : decode cX6_go 30 = .ok (.aload_n 1, 1) := by decide +kernel
theorem dX6_go_31 : decode cX6_go 31 = .ok (.getfield 124, 3) := by decide +kernel
theorem dX6_go_34 : decode cX6_go 34 = .ok (.iload_n 3, 1) := by decide +kernel
theorem dX6_go_35 : decode cX6_go 35 = .ok (.aload 4, 2) := by decide +kernel
theorem dX6_go_37 : decode cX6_go 37 = .ok (.getfield 209, 3) := by decide +kernel
theorem dX6_go_40 : decode cX6_go 40 = .ok (.imul, 1) := by decide +kernel
theorem dX6_go_41 : decode cX6_go 41 = .ok (.iload_n 2, 1) := by decide +kernel
theorem dX6_go_42 : decode cX6_go 42 = .ok (.iadd, 1) := by decide +kernel
theorem dX6_go_43 : decode cX6_go 43 = .ok (.invokevirtual 215, 3) := by decide +kernel
theorem dX6_go_46 : decode cX6_go 46 = .ok (.istore 5, 2) := by decide +kernel
theorem dX6_go_48 : decode cX6_go 48 = .ok (.iload 5, 2) := by decide +kernel
theorem dX6_go_50 : decode cX6_go 50 = .ok (.ifCond .lt 20, 3) := by decide +kernel
theorem dX6_go_53 : decode cX6_go 53 = .ok (.aload_n 1, 1) := by decide +kernel
theorem dX6_go_54 : decode cX6_go 54 = .ok (.dup, 1) := by decide +kernel
theorem dX6_go_55 : decode cX6_go 55 = .ok (.getfield 148, 3) := by decide +kernel
theorem dX6_go_58 : decode cX6_go 58 = .ok (.iconst 1, 1) := by decide +kernel
theorem dX6_go_59 : decode cX6_go 59 = .ok (.isub, 1) := by decide +kernel
theorem dX6_go_60 : decode cX6_go 60 = .ok (.putfield 148, 3) := by decide +kernel
theorem dX6_go_63 : decode cX6_go 63 = .ok (.aload_n 0, 1) := by decide +kernel
theorem dX6_go_64 : decode cX6_go 64 = .ok (.aload_n 1, 1) := by decide +kernel
theorem dX6_go_65 : decode cX6_go 65 = .ok (.iload 5, 2) := by decide +kernel
theorem dX6_go_67 : decode cX6_go 67 = .ok (.invokevirtual 219, 3) := by decide +kernel
theorem dX6_go_70 : decode cX6_go 70 = .ok (.return_, 1) := by decide +kernel
theorem dX6_stepOnto_0 : decode cX6_stepOnto 0 = .ok (.aload_n 0, 1) := by decide +kernel
theorem dX6_stepOnto_1 : decode cX6_stepOnto 1 = .ok (.getfield 9, 3) := by decide +kernel
theorem dX6_stepOnto_4 : decode cX6_stepOnto 4 = .ok (.getfield 108, 3) := by decide +kernel
theorem dX6_stepOnto_7 : decode cX6_stepOnto 7 = .ok (.iload_n 2, 1) := by decide +kernel
theorem dX6_stepOnto_8 : decode cX6_stepOnto 8 = .ok (.iconst 3, 1) := by decide +kernel
theorem dX6_stepOnto_9 : decode cX6_stepOnto 9 = .ok (.invokevirtual 222, 3) := by decide +kernel
theorem dX6_stepOnto_12 : decode cX6_stepOnto 12 = .ok (.istore_n 3, 1) := by decide +kernel
theorem dX6_stepOnto_13 : decode cX6_stepOnto 13 = .ok (.iload_n 3, 1) := by decide +kernel
theorem dX6_stepOnto_14 : decode cX6_stepOnto 14 = .ok (.ifCond .eq 7, 3) := by decide +kernel
theorem dX6_stepOnto_17 : decode cX6_stepOnto 17 = .ok (.iconst 1, 1) := by decide +kernel
theorem dX6_stepOnto_18 : decode cX6_stepOnto 18 = .ok (.goto 4, 3) := by decide +kernel
theorem dX6_stepOnto_21 : decode cX6_stepOnto 21 = .ok (.iconst 2, 1) := by decide +kernel
theorem dX6_stepOnto_22 : decode cX6_stepOnto 22 = .ok (.istore 4, 2) := by decide +kernel
theorem dX6_stepOnto_24 : decode cX6_stepOnto 24 = .ok (.aload_n 0, 1) := by decide +kernel
theorem dX6_stepOnto_25 : decode cX6_stepOnto 25 = .ok (.getfield 9, 3) := by decide +kernel
theorem dX6_stepOnto_28 : decode cX6_stepOnto 28 = .ok (.iload_n 2, 1) := by decide +kernel
theorem dX6_stepOnto_29 : decode cX6_stepOnto 29 = .ok (.invokevirtual 226, 3) := by decide +kernel
theorem dX6_stepOnto_32 : decode cX6_stepOnto 32 = .ok (.ifCond .ge 32, 3) := by decide +kernel
theorem dX6_stepOnto_35 : decode cX6_stepOnto 35 = .ok (.aload_n 1, 1) := by decide +kernel
theorem dX6_stepOnto_36 : decode cX6_stepOnto 36 = .ok (.getfield 143, 3) := by decide +kernel
theorem dX6_stepOnto_39 : decode cX6_stepOnto 39 = .ok (.iload 4, 2) := by decide +kernel
theorem dX6_stepOnto_41 : decode cX6_stepOnto 41 = .ok (.if_icmp .lt 23, 3) := by decide +kernel
theorem dX6_stepOnto_44 : decode cX6_stepOnto 44 = .ok (.aload_n 1, 1) := by decide +kernel
theorem dX6_stepOnto_45 : decode cX6_stepOnto 45 = .ok (.iload 4, 2) := by decide +kernel
theorem dX6_stepOnto_47 : decode cX6_stepOnto 47 = .ok (.iload_n 3, 1) := by decide +kernel
theorem dX6_stepOnto_48 : decode cX6_stepOnto 48 = .ok (.ifCond .eq 7, 3) := by decide +kernel
theorem dX6_stepOnto_51 : decode cX6_stepOnto 51 = .ok (.iconst 0, 1) := by decide +kernel
theorem dX6_stepOnto_52 : decode cX6_stepOnto 52 = .ok (.goto 4, 3) := by decide +kernel
theorem dX6_stepOnto_55 : decode cX6_stepOnto 55 = .ok (.iconst 1, 1) := by decide +kernel
theorem dX6_stepOnto_56 : decode cX6_stepOnto 56 = .ok (.invokevirtual 229, 3) := by decide +kernel
theorem dX6_stepOnto_59 : decode cX6_stepOnto 59 = .ok (.aload_n 1, 1) := by decide +kernel
theorem dX6_stepOnto_60 : decode cX6_stepOnto 60 = .ok (.iload_n 2, 1) := by decide +kernel
theorem dX6_stepOnto_61 : decode cX6_stepOnto 61 = .ok (.putfield 124, 3) := by decide +kernel
theorem dX6_stepOnto_64 : decode cX6_stepOnto 64 = .ok (.return_, 1) := by decide +kernel
theorem dX6_scoop_0 : decode cX6_scoop 0 = .ok (.aload_n 0, 1) := by decide +kernel
theorem dX6_scoop_1 : decode cX6_scoop 1 = .ok (.getfield 9, 3) := by decide +kernel
theorem dX6_scoop_4 : decode cX6_scoop 4 = .ok (.getfield 108, 3) := by decide +kernel
theorem dX6_scoop_7 : decode cX6_scoop 7 = .ok (.aload_n 1, 1) := by decide +kernel
theorem dX6_scoop_8 : decode cX6_scoop 8 = .ok (.getfield 124, 3) := by decide +kernel
theorem dX6_scoop_11 : decode cX6_scoop 11 = .ok (.iconst 2, 1) := by decide +kernel
theorem dX6_scoop_12 : decode cX6_scoop 12 = .ok (.invokevirtual 222, 3) := by decide +kernel
theorem dX6_scoop_15 : decode cX6_scoop 15 = .ok (.ifCond .eq 7, 3) := by decide +kernel
theorem dX6_scoop_18 : decode cX6_scoop 18 = .ok (.iconst 1, 1) := by decide +kernel
theorem dX6_scoop_19 : decode cX6_scoop 19 = .ok (.goto 4, 3) := by decide +kernel
theorem dX6_scoop_22 : decode cX6_scoop 22 = .ok (.iconst 0, 1) := by decide +kernel
theorem dX6_scoop_23 : decode cX6_scoop 23 = .ok (.istore_n 2, 1) := by decide +kernel
theorem dX6_scoop_24 : decode cX6_scoop 24 = .ok (.aload_n 1, 1) := by decide +kernel
theorem dX6_scoop_25 : decode cX6_scoop 25 = .ok (.getfield 232, 3) := by decide +kernel
theorem dX6_scoop_28 : decode cX6_scoop 28 = .ok (.ifCond .le 15, 3) := by decide +kernel
theorem dX6_scoop_31 : decode cX6_scoop 31 = .ok (.aload_n 1, 1) := by decide +kernel
theorem dX6_scoop_32 : decode cX6_scoop 32 = .ok (.getfield 235, 3) := by decide +kernel
theorem dX6_scoop_35 : decode cX6_scoop 35 = .ok (.iload_n 2, 1) := by decide +kernel
theorem dX6_scoop_36 : decode cX6_scoop 36 = .ok (.if_icmp .eq 7, 3) := by decide +kernel
theorem dX6_scoop_39 : decode cX6_scoop 39 = .ok (.iconst 1, 1) := by decide +kernel
theorem dX6_scoop_40 : decode cX6_scoop 40 = .ok (.goto 4, 3) := by decide +kernel
theorem dX6_scoop_43 : decode cX6_scoop 43 = .ok (.iconst 0, 1) := by decide +kernel
theorem dX6_scoop_44 : decode cX6_scoop 44 = .ok (.istore_n 3, 1) := by decide +kernel
theorem dX6_scoop_45 : decode cX6_scoop 45 = .ok (.aload_n 1, 1) := by decide +kernel
theorem dX6_scoop_46 : decode cX6_scoop 46 = .ok (.iconst 1, 1) := by decide +kernel
theorem dX6_scoop_47 : decode cX6_scoop 47 = .ok (.invokevirtual 238, 3) := by decide +kernel
theorem dX6_scoop_50 : decode cX6_scoop 50 = .ok (.ifCond .eq 15, 3) := by decide +kernel
theorem dX6_scoop_53 : decode cX6_scoop 53 = .ok (.iload_n 3, 1) := by decide +kernel
theorem dX6_scoop_54 : decode cX6_scoop 54 = .ok (.ifCond .ne 11, 3) := by decide +kernel
theorem dX6_scoop_57 : decode cX6_scoop 57 = .ok (.aload_n 1, 1) := by decide +kernel
theorem dX6_scoop_58 : decode cX6_scoop 58 = .ok (.getfield 143, 3) := by decide +kernel
theorem dX6_scoop_61 : decode cX6_scoop 61 = .ok (.iconst 3, 1) := by decide +kernel
theorem dX6_scoop_62 : decode cX6_scoop 62 = .ok (.if_icmp .ge 4, 3) := by decide +kernel
theorem dX6_scoop_65 : decode cX6_scoop 65 = .ok (.return_, 1) := by decide +kernel
theorem dX6_scoop_66 : decode cX6_scoop 66 = .ok (.aload_n 0, 1) := by decide +kernel
theorem dX6_scoop_67 : decode cX6_scoop 67 = .ok (.getfield 9, 3) := by decide +kernel
theorem dX6_scoop_70 : decode cX6_scoop 70 = .ok (.getfield 108, 3) := by decide +kernel
theorem dX6_scoop_73 : decode cX6_scoop 73 = .ok (.iload_n 2, 1) := by decide +kernel
theorem dX6_scoop_74 : decode cX6_scoop 74 = .ok (.invokevirtual 240, 3) := by decide +kernel
theorem dX6_scoop_77 : decode cX6_scoop 77 = .ok (.astore 4, 2) := by decide +kernel
theorem dX6_scoop_79 : decode cX6_scoop 79 = .ok (.aload 4, 2) := by decide +kernel
theorem dX6_scoop_81 : decode cX6_scoop 81 = .ok (.aload_n 1, 1) := by decide +kernel
theorem dX6_scoop_82 : decode cX6_scoop 82 = .ok (.getfield 124, 3) := by decide +kernel
theorem dX6_scoop_85 : decode cX6_scoop 85 = .ok (.invokevirtual 76, 3) := by decide +kernel
theorem dX6_scoop_88 : decode cX6_scoop 88 = .ok (.istore 5, 2) := by decide +kernel
theorem dX6_scoop_90 : decode cX6_scoop 90 = .ok (.iconst 5, 1) := by decide +kernel
theorem dX6_scoop_91 : decode cX6_scoop 91 = .ok (.iload 5, 2) := by decide +kernel
theorem dX6_scoop_93 : decode cX6_scoop 93 = .ok (.bipush 10, 2) := by decide +kernel
theorem dX6_scoop_95 : decode cX6_scoop 95 = .ok (.aload_n 1, 1) := by decide +kernel
theorem dX6_scoop_96 : decode cX6_scoop 96 = .ok (.getfield 232, 3) := by decide +kernel
theorem dX6_scoop_99 : decode cX6_scoop 99 = .ok (.isub, 1) := by decide +kernel
theorem dX6_scoop_100 : decode cX6_scoop 100 = .ok (.invokestatic 244, 3) := by decide +kernel
theorem dX6_scoop_103 : decode cX6_scoop 103 = .ok (.invokestatic 244, 3) := by decide +kernel
theorem dX6_scoop_106 : decode cX6_scoop 106 = .ok (.istore 6, 2) := by decide +kernel
theorem dX6_scoop_108 : decode cX6_scoop 108 = .ok (.iload 6, 2) := by decide +kernel
theorem dX6_scoop_110 : decode cX6_scoop 110 = .ok (.ifCond .le 39, 3) := by decide +kernel
theorem dX6_scoop_113 : decode cX6_scoop 113 = .ok (.aload 4, 2) := by decide +kernel
theorem dX6_scoop_115 : decode cX6_scoop 115 = .ok (.aload_n 1, 1) := by decide +kernel
theorem dX6_scoop_116 : decode cX6_scoop 116 = .ok (.getfield 124, 3) := by decide +kernel
theorem dX6_scoop_119 : decode cX6_scoop 119 = .ok (.iload 5, 2) := by decide +kernel
theorem dX6_scoop_121 : decode cX6_scoop 121 = .ok (.iload 6, 2) := by decide +kernel
theorem dX6_scoop_123 : decode cX6_scoop 123 = .ok (.isub, 1) := by decide +kernel
theorem dX6_scoop_124 : decode cX6_scoop 124 = .ok (.invokevirtual 177, 3) := by decide +kernel
theorem dX6_scoop_127 : decode cX6_scoop 127 = .ok (.aload_n 1, 1) := by decide +kernel
theorem dX6_scoop_128 : decode cX6_scoop 128 = .ok (.dup, 1) := by decide +kernel
theorem dX6_scoop_129 : decode cX6_scoop 129 = .ok (.getfield 232, 3) := by decide +kernel
theorem dX6_scoop_132 : decode cX6_scoop 132 = .ok (.iload 6, 2) := by decide +kernel
theorem dX6_scoop_134 : decode cX6_scoop 134 = .ok (.iadd, 1) := by decide +kernel
theorem dX6_scoop_135 : decode cX6_scoop 135 = .ok (.putfield 232, 3) := by decide +kernel
theorem dX6_scoop_138 : decode cX6_scoop 138 = .ok (.aload_n 1, 1) := by decide +kernel
theorem dX6_scoop_139 : decode cX6_scoop 139 = .ok (.iload_n 2, 1) := by decide +kernel
theorem dX6_scoop_140 : decode cX6_scoop 140 = .ok (.putfield 235, 3) := by decide +kernel
theorem dX6_scoop_143 : decode cX6_scoop 143 = .ok (.aload_n 1, 1) := by decide +kernel
theorem dX6_scoop_144 : decode cX6_scoop 144 = .ok (.iconst 3, 1) := by decide +kernel
theorem dX6_scoop_145 : decode cX6_scoop 145 = .ok (.iconst 2, 1) := by decide +kernel
theorem dX6_scoop_146 : decode cX6_scoop 146 = .ok (.invokevirtual 229, 3) := by decide +kernel
theorem dX6_scoop_149 : decode cX6_scoop 149 = .ok (.return_, 1) := by decide +kernel
theorem dX6_drop_0 : decode cX6_drop 0 = .ok (.aload_n 1, 1) := by decide +kernel
theorem dX6_drop_1 : decode cX6_drop 1 = .ok (.getfield 232, 3) := by decide +kernel
theorem dX6_drop_4 : decode cX6_drop 4 = .ok (.ifCond .gt 4, 3) := by decide +kernel
theorem dX6_drop_7 : decode cX6_drop 7 = .ok (.return_, 1) := by decide +kernel
theorem dX6_drop_8 : decode cX6_drop 8 = .ok (.aload_n 0, 1) := by decide +kernel
theorem dX6_drop_9 : decode cX6_drop 9 = .ok (.getfield 9, 3) := by decide +kernel
theorem dX6_drop_12 : decode cX6_drop 12 = .ok (.getfield 108, 3) := by decide +kernel
theorem dX6_drop_15 : decode cX6_drop 15 = .ok (.aload_n 1, 1) := by decide +kernel
theorem dX6_drop_16 : decode cX6_drop 16 = .ok (.getfield 124, 3) := by decide +kernel
theorem dX6_drop_19 : decode cX6_drop 19 = .ok (.iconst 4, 1) := by decide +kernel
theorem dX6_drop_20 : decode cX6_drop 20 = .ok (.invokevirtual 222, 3) := by decide +kernel
theorem dX6_drop_23 : decode cX6_drop 23 = .ok (.istore_n 2, 1) := by decide +kernel
theorem dX6_drop_24 : decode cX6_drop 24 = .ok (.iload_n 2, 1) := by decide +kernel
theorem dX6_drop_25 : decode cX6_drop 25 = .ok (.ifCond .eq 16, 3) := by decide +kernel
theorem dX6_drop_28 : decode cX6_drop 28 = .ok (.aload_n 0, 1) := by decide +kernel
theorem dX6_drop_29 : decode cX6_drop 29 = .ok (.getfield 9, 3) := by decide +kernel
theorem dX6_drop_32 : decode cX6_drop 32 = .ok (.getfield 108, 3) := by decide +kernel
theorem dX6_drop_35 : decode cX6_drop 35 = .ok (.getfield 249, 3) := by decide +kernel
theorem dX6_drop_38 : decode cX6_drop 38 = .ok (.goto 17, 3) := by decide +kernel
theorem dX6_drop_41 : decode cX6_drop 41 = .ok (.aload_n 0, 1) := by decide +kernel
theorem dX6_drop_42 : decode cX6_drop 42 = .ok (.getfield 9, 3) := by decide +kernel
theorem dX6_drop_45 : decode cX6_drop 45 = .ok (.getfield 108, 3) := by decide +kernel
theorem dX6_drop_48 : decode cX6_drop 48 = .ok (.aload_n 1, 1) := by decide +kernel
theorem dX6_drop_49 : decode cX6_drop 49 = .ok (.getfield 235, 3) := by decide +kernel
theorem dX6_drop_52 : decode cX6_drop 52 = .ok (.invokevirtual 240, 3) := by decide +kernel
theorem dX6_drop_55 : decode cX6_drop 55 = .ok (.astore_n 3, 1) := by decide +kernel
theorem dX6_drop_56 : decode cX6_drop 56 = .ok (.iload_n 2, 1) := by decide +kernel
theorem dX6_drop_57 : decode cX6_drop 57 = .ok (.ifCond .eq 10, 3) := by decide +kernel
theorem dX6_drop_60 : decode cX6_drop 60 = .ok (.aload_n 1, 1) := by decide +kernel
theorem dX6_drop_61 : decode cX6_drop 61 = .ok (.getfield 235, 3) := by decide +kernel
theorem dX6_drop_64 : decode cX6_drop 64 = .ok (.goto 7, 3) := by decide +kernel
theorem dX6_drop_67 : decode cX6_drop 67 = .ok (.aload_n 1, 1) := by decide +kernel
theorem dX6_drop_68 : decode cX6_drop 68 = .ok (.getfield 124, 3) := by decide +kernel
theorem dX6_drop_71 : decode cX6_drop 71 = .ok (.istore 4, 2) := by decide +kernel
theorem dX6_drop_73 : decode cX6_drop 73 = .ok (.aload_n 3, 1) := by decide +kernel
theorem dX6_drop_74 : decode cX6_drop 74 = .ok (.iload 4, 2) := by decide +kernel
theorem dX6_drop_76 : decode cX6_drop 76 = .ok (.aload_n 3, 1) := by decide +kernel
theorem dX6_drop_77 : decode cX6_drop 77 = .ok (.iload 4, 2) := by decide +kernel
theorem dX6_drop_79 : decode cX6_drop 79 = .ok (.invokevirtual 76, 3) := by decide +kernel
theorem dX6_drop_82 : decode cX6_drop 82 = .ok (.aload_n 1, 1) := by decide +kernel
theorem dX6_drop_83 : decode cX6_drop 83 = .ok (.getfield 232, 3) := by decide +kernel
theorem dX6_drop_86 : decode cX6_drop 86 = .ok (.iadd, 1) := by decide +kernel
theorem dX6_drop_87 : decode cX6_drop 87 = .ok (.invokevirtual 177, 3) := by decide +kernel
theorem dX6_drop_90 : decode cX6_drop 90 = .ok (.aload_n 1, 1) := by decide +kernel
theorem dX6_drop_91 : decode cX6_drop 91 = .ok (.iconst 0, 1) := by decide +kernel
theorem dX6_drop_92 : decode cX6_drop 92 = .ok (.putfield 232, 3) := by decide +kernel
theorem dX6_drop_95 : decode cX6_drop 95 = .ok (.aload_n 1, 1) := by decide +kernel
theorem dX6_drop_96 : decode cX6_drop 96 = .ok (.iconst 1, 1) := by decide +kernel
theorem dX6_drop_97 : decode cX6_drop 97 = .ok (.iconst 0, 1) := by decide +kernel
theorem dX6_drop_98 : decode cX6_drop 98 = .ok (.invokevirtual 229, 3) := by decide +kernel
theorem dX6_drop_101 : decode cX6_drop 101 = .ok (.return_, 1) := by decide +kernel
theorem dX6_fuse_0 : decode cX6_fuse 0 = .ok (.aload_n 0, 1) := by decide +kernel
theorem dX6_fuse_1 : decode cX6_fuse 1 = .ok (.getfield 9, 3) := by decide +kernel
theorem dX6_fuse_4 : decode cX6_fuse 4 = .ok (.getfield 108, 3) := by decide +kernel
theorem dX6_fuse_7 : decode cX6_fuse 7 = .ok (.astore_n 2, 1) := by decide +kernel
theorem dX6_fuse_8 : decode cX6_fuse 8 = .ok (.aload_n 1, 1) := by decide +kernel
theorem dX6_fuse_9 : decode cX6_fuse 9 = .ok (.getfield 124, 3) := by decide +kernel
theorem dX6_fuse_12 : decode cX6_fuse 12 = .ok (.istore_n 3, 1) := by decide +kernel
theorem dX6_fuse_13 : decode cX6_fuse 13 = .ok (.aload_n 2, 1) := by decide +kernel
theorem dX6_fuse_14 : decode cX6_fuse 14 = .ok (.getfield 130, 3) := by decide +kernel
theorem dX6_fuse_17 : decode cX6_fuse 17 = .ok (.iload_n 3, 1) := by decide +kernel
theorem dX6_fuse_18 : decode cX6_fuse 18 = .ok (.invokevirtual 76, 3) := by decide +kernel
theorem dX6_fuse_21 : decode cX6_fuse 21 = .ok (.ifCond .ne 20, 3) := by decide +kernel
theorem dX6_fuse_24 : decode cX6_fuse 24 = .ok (.aload_n 2, 1) := by decide +kernel
theorem dX6_fuse_25 : decode cX6_fuse 25 = .ok (.getfield 133, 3) := by decide +kernel
theorem dX6_fuse_28 : decode cX6_fuse 28 = .ok (.iload_n 3, 1) := by decide +kernel
theorem dX6_fuse_29 : decode cX6_fuse 29 = .ok (.invokevirtual 76, 3) := by decide +kernel
theorem dX6_fuse_32 : decode cX6_fuse 32 = .ok (.bipush 10, 2) := by decide +kernel
theorem dX6_fuse_34 : decode cX6_fuse 34 = .ok (.if_icmp .lt 7, 3) := by decide +kernel
theorem dX6_fuse_37 : decode cX6_fuse 37 = .ok (.iconst 1, 1) := by decide +kernel
theorem dX6_fuse_38 : decode cX6_fuse 38 = .ok (.goto 4, 3) := by decide +kernel
theorem dX6_fuse_41 : decode cX6_fuse 41 = .ok (.iconst 0, 1) := by decide +kernel
theorem dX6_fuse_42 : decode cX6_fuse 42 = .ok (.istore 4, 2) := by decide +kernel
theorem dX6_fuse_44 : decode cX6_fuse 44 = .ok (.aload_n 1, 1) := by decide +kernel
theorem dX6_fuse_45 : decode cX6_fuse 45 = .ok (.iconst 2, 1) := by decide +kernel
theorem dX6_fuse_46 : decode cX6_fuse 46 = .ok (.invokevirtual 238, 3) := by decide +kernel
theorem dX6_fuse_49 : decode cX6_fuse 49 = .ok (.ifCond .eq 63, 3) := by decide +kernel
theorem dX6_fuse_52 : decode cX6_fuse 52 = .ok (.aload_n 1, 1) := by decide +kernel
theorem dX6_fuse_53 : decode cX6_fuse 53 = .ok (.getfield 143, 3) := by decide +kernel
theorem dX6_fuse_56 : decode cX6_fuse 56 = .ok (.bipush 6, 2) := by decide +kernel
theorem dX6_fuse_58 : decode cX6_fuse 58 = .ok (.if_icmp .lt 54, 3) := by decide +kernel
theorem dX6_fuse_61 : decode cX6_fuse 61 = .ok (.iload 4, 2) := by decide +kernel
theorem dX6_fuse_63 : decode cX6_fuse 63 = .ok (.ifCond .eq 49, 3) := by decide +kernel
theorem dX6_fuse_66 : decode cX6_fuse 66 = .ok (.aload_n 2, 1) := by decide +kernel
theorem dX6_fuse_67 : decode cX6_fuse 67 = .ok (.getfield 130, 3) := by decide +kernel
theorem dX6_fuse_70 : decode cX6_fuse 70 = .ok (.iload_n 3, 1) := by decide +kernel
theorem dX6_fuse_71 : decode cX6_fuse 71 = .ok (.iconst 3, 1) := by decide +kernel
theorem dX6_fuse_72 : decode cX6_fuse 72 = .ok (.invokevirtual 177, 3) := by decide +kernel
theorem dX6_fuse_75 : decode cX6_fuse 75 = .ok (.aload_n 2, 1) := by decide +kernel
theorem dX6_fuse_76 : decode cX6_fuse 76 = .ok (.getfield 133, 3) := by decide +kernel
theorem dX6_fuse_79 : decode cX6_fuse 79 = .ok (.iload_n 3, 1) := by decide +kernel
theorem dX6_fuse_80 : decode cX6_fuse 80 = .ok (.aload_n 2, 1) := by decide +kernel
theorem dX6_fuse_81 : decode cX6_fuse 81 = .ok (.getfield 133, 3) := by decide +kernel
theorem dX6_fuse_84 : decode cX6_fuse 84 = .ok (.iload_n 3, 1) := by decide +kernel
theorem dX6_fuse_85 : decode cX6_fuse 85 = .ok (.invokevirtual 76, 3) := by decide +kernel
theorem dX6_fuse_88 : decode cX6_fuse 88 = .ok (.bipush 10, 2) := by decide +kernel
theorem dX6_fuse_90 : decode cX6_fuse 90 = .ok (.isub, 1) := by decide +kernel
theorem dX6_fuse_91 : decode cX6_fuse 91 = .ok (.invokevirtual 177, 3) := by decide +kernel
theorem dX6_fuse_94 : decode cX6_fuse 94 = .ok (.aload_n 2, 1) := by decide +kernel
theorem dX6_fuse_95 : decode cX6_fuse 95 = .ok (.dup, 1) := by decide +kernel
theorem dX6_fuse_96 : decode cX6_fuse 96 = .ok (.getfield 252, 3) := by decide +kernel
theorem dX6_fuse_99 : decode cX6_fuse 99 = .ok (.bipush 10, 2) := by decide +kernel
theorem dX6_fuse_101 : decode cX6_fuse 101 = .ok (.iadd, 1) := by decide +kernel
theorem dX6_fuse_102 : decode cX6_fuse 102 = .ok (.putfield 252, 3) := by decide +kernel
theorem dX6_fuse_105 : decode cX6_fuse 105 = .ok (.aload_n 1, 1) := by decide +kernel
theorem dX6_fuse_106 : decode cX6_fuse 106 = .ok (.bipush 6, 2) := by decide +kernel
theorem dX6_fuse_108 : decode cX6_fuse 108 = .ok (.iconst 3, 1) := by decide +kernel
theorem dX6_fuse_109 : decode cX6_fuse 109 = .ok (.invokevirtual 229, 3) := by decide +kernel
theorem dX6_fuse_112 : decode cX6_fuse 112 = .ok (.return_, 1) := by decide +kernel
theorem dX6_charge_0 : decode cX6_charge 0 = .ok (.aload_n 0, 1) := by decide +kernel
theorem dX6_charge_1 : decode cX6_charge 1 = .ok (.getfield 9, 3) := by decide +kernel
theorem dX6_charge_4 : decode cX6_charge 4 = .ok (.getfield 108, 3) := by decide +kernel
theorem dX6_charge_7 : decode cX6_charge 7 = .ok (.aload_n 1, 1) := by decide +kernel
theorem dX6_charge_8 : decode cX6_charge 8 = .ok (.getfield 124, 3) := by decide +kernel
theorem dX6_charge_11 : decode cX6_charge 11 = .ok (.iconst 4, 1) := by decide +kernel
theorem dX6_charge_12 : decode cX6_charge 12 = .ok (.invokevirtual 222, 3) := by decide +kernel
theorem dX6_charge_15 : decode cX6_charge 15 = .ok (.ifCond .eq 50, 3) := by decide +kernel
theorem dX6_charge_18 : decode cX6_charge 18 = .ok (.bipush 20, 2) := by decide +kernel
theorem dX6_charge_20 : decode cX6_charge 20 = .ok (.aload_n 0, 1) := by decide +kernel
theorem dX6_charge_21 : decode cX6_charge 21 = .ok (.getfield 9, 3) := by decide +kernel
theorem dX6_charge_24 : decode cX6_charge 24 = .ok (.getfield 30, 3) := by decide +kernel
theorem dX6_charge_27 : decode cX6_charge 27 = .ok (.getfield 255, 3) := by decide +kernel
theorem dX6_charge_30 : decode cX6_charge 30 = .ok (.bipush 100, 2) := by decide +kernel
theorem dX6_charge_32 : decode cX6_charge 32 = .ok (.aload_n 1, 1) := by decide +kernel
theorem dX6_charge_33 : decode cX6_charge 33 = .ok (.getfield 143, 3) := by decide +kernel
theorem dX6_charge_36 : decode cX6_charge 36 = .ok (.isub, 1) := by decide +kernel
theorem dX6_charge_37 : decode cX6_charge 37 = .ok (.invokestatic 244, 3) := by decide +kernel
theorem dX6_charge_40 : decode cX6_charge 40 = .ok (.invokestatic 244, 3) := by decide +kernel
theorem dX6_charge_43 : decode cX6_charge 43 = .ok (.istore_n 2, 1) := by decide +kernel
theorem dX6_charge_44 : decode cX6_charge 44 = .ok (.aload_n 0, 1) := by decide +kernel
theorem dX6_charge_45 : decode cX6_charge 45 = .ok (.getfield 9, 3) := by decide +kernel
theorem dX6_charge_48 : decode cX6_charge 48 = .ok (.getfield 30, 3) := by decide +kernel
theorem dX6_charge_51 : decode cX6_charge 51 = .ok (.dup, 1) := by decide +kernel
theorem dX6_charge_52 : decode cX6_charge 52 = .ok (.getfield 255, 3) := by decide +kernel
theorem dX6_charge_55 : decode cX6_charge 55 = .ok (.iload_n 2, 1) := by decide +kernel
theorem dX6_charge_56 : decode cX6_charge 56 = .ok (.isub, 1) := by decide +kernel
theorem dX6_charge_57 : decode cX6_charge 57 = .ok (.putfield 255, 3) := by decide +kernel
theorem dX6_charge_60 : decode cX6_charge 60 = .ok (.aload_n 1, 1) := by decide +kernel
theorem dX6_charge_61 : decode cX6_charge 61 = .ok (.iload_n 2, 1) := by decide +kernel
theorem dX6_charge_62 : decode cX6_charge 62 = .ok (.invokevirtual 121, 3) := by decide +kernel
theorem dX6_charge_65 : decode cX6_charge 65 = .ok (.return_, 1) := by decide +kernel
theorem dX6_mend_0 : decode cX6_mend 0 = .ok (.aload_n 0, 1) := by decide +kernel
theorem dX6_mend_1 : decode cX6_mend 1 = .ok (.getfield 9, 3) := by decide +kernel
theorem dX6_mend_4 : decode cX6_mend 4 = .ok (.getfield 108, 3) := by decide +kernel
theorem dX6_mend_7 : decode cX6_mend 7 = .ok (.getfield 249, 3) := by decide +kernel
theorem dX6_mend_10 : decode cX6_mend 10 = .ok (.astore_n 2, 1) := by decide +kernel
theorem dX6_mend_11 : decode cX6_mend 11 = .ok (.aload_n 1, 1) := by decide +kernel
theorem dX6_mend_12 : decode cX6_mend 12 = .ok (.iconst 3, 1) := by decide +kernel
theorem dX6_mend_13 : decode cX6_mend 13 = .ok (.invokevirtual 238, 3) := by decide +kernel
theorem dX6_mend_16 : decode cX6_mend 16 = .ok (.ifCond .eq 20, 3) := by decide +kernel
theorem dX6_mend_19 : decode cX6_mend 19 = .ok (.aload_n 1, 1) := by decide +kernel
theorem dX6_mend_20 : decode cX6_mend 20 = .ok (.getfield 143, 3) := by decide +kernel
theorem dX6_mend_23 : decode cX6_mend 23 = .ok (.iconst 4, 1) := by decide +kernel
theorem dX6_mend_24 : decode cX6_mend 24 = .ok (.if_icmp .lt 12, 3) := by decide +kernel
theorem dX6_mend_27 : decode cX6_mend 27 = .ok (.aload_n 2, 1) := by decide +kernel
theorem dX6_mend_28 : decode cX6_mend 28 = .ok (.iconst 2, 1) := by decide +kernel
theorem dX6_mend_29 : decode cX6_mend 29 = .ok (.invokevirtual 76, 3) := by decide +kernel
theorem dX6_mend_32 : decode cX6_mend 32 = .ok (.iconst 1, 1) := by decide +kernel
theorem dX6_mend_33 : decode cX6_mend 33 = .ok (.if_icmp .ge 4, 3) := by decide +kernel
theorem dX6_mend_36 : decode cX6_mend 36 = .ok (.return_, 1) := by decide +kernel
theorem dX6_mend_37 : decode cX6_mend 37 = .ok (.aload_n 0, 1) := by decide +kernel
theorem dX6_mend_38 : decode cX6_mend 38 = .ok (.aload_n 1, 1) := by decide +kernel
theorem dX6_mend_39 : decode cX6_mend 39 = .ok (.getfield 124, 3) := by decide +kernel
theorem dX6_mend_42 : decode cX6_mend 42 = .ok (.invokevirtual 258, 3) := by decide +kernel
theorem dX6_mend_45 : decode cX6_mend 45 = .ok (.astore_n 3, 1) := by decide +kernel
theorem dX6_mend_46 : decode cX6_mend 46 = .ok (.aload_n 3, 1) := by decide +kernel
theorem dX6_mend_47 : decode cX6_mend 47 = .ok (.ifnull 36, 3) := by decide +kernel
theorem dX6_mend_50 : decode cX6_mend 50 = .ok (.aload_n 3, 1) := by decide +kernel
theorem dX6_mend_51 : decode cX6_mend 51 = .ok (.iconst 0, 1) := by decide +kernel
theorem dX6_mend_52 : decode cX6_mend 52 = .ok (.aload_n 3, 1) := by decide +kernel
theorem dX6_mend_53 : decode cX6_mend 53 = .ok (.getfield 261, 3) := by decide +kernel
theorem dX6_mend_56 : decode cX6_mend 56 = .ok (.bipush 30, 2) := by decide +kernel
theorem dX6_mend_58 : decode cX6_mend 58 = .ok (.isub, 1) := by decide +kernel
theorem dX6_mend_59 : decode cX6_mend 59 = .ok (.invokestatic 264, 3) := by decide +kernel
theorem dX6_mend_62 : decode cX6_mend 62 = .ok (.putfield 261, 3) := by decide +kernel
theorem dX6_mend_65 : decode cX6_mend 65 = .ok (.aload_n 2, 1) := by decide +kernel
theorem dX6_mend_66 : decode cX6_mend 66 = .ok (.iconst 2, 1) := by decide +kernel
theorem dX6_mend_67 : decode cX6_mend 67 = .ok (.aload_n 2, 1) := by decide +kernel
theorem dX6_mend_68 : decode cX6_mend 68 = .ok (.iconst 2, 1) := by decide +kernel
theorem dX6_mend_69 : decode cX6_mend 69 = .ok (.invokevirtual 76, 3) := by decide +kernel
theorem dX6_mend_72 : decode cX6_mend 72 = .ok (.iconst 1, 1) := by decide +kernel
theorem dX6_mend_73 : decode cX6_mend 73 = .ok (.isub, 1) := by decide +kernel
theorem dX6_mend_74 : decode cX6_mend 74 = .ok (.invokevirtual 177, 3) := by decide +kernel
theorem dX6_mend_77 : decode cX6_mend 77 = .ok (.aload_n 1, 1) := by decide +kernel
theorem dX6_mend_78 : decode cX6_mend 78 = .ok (.iconst 4, 1) := by decide +kernel
theorem dX6_mend_79 : decode cX6_mend 79 = .ok (.iconst 0, 1) := by decide +kernel
theorem dX6_mend_80 : decode cX6_mend 80 = .ok (.invokevirtual 229, 3) := by decide +kernel
theorem dX6_mend_83 : decode cX6_mend 83 = .ok (.return_, 1) := by decide +kernel
theorem dX6_mostWornBeside_0 : decode cX6_mostWornBeside 0 = .ok (.aconst_null, 1) := by decide +kernel
theorem dX6_mostWornBeside_1 : decode cX6_mostWornBeside 1 = .ok (.astore_n 2, 1) := by decide +kernel
theorem dX6_mostWornBeside_2 : decode cX6_mostWornBeside 2 = .ok (.iconst 0, 1) := by decide +kernel
theorem dX6_mostWornBeside_3 : decode cX6_mostWornBeside 3 = .ok (.istore_n 3, 1) := by decide +kernel
theorem dX6_mostWornBeside_4 : decode cX6_mostWornBeside 4 = .ok (.iconst 0, 1) := by decide +kernel
theorem dX6_mostWornBeside_5 : decode cX6_mostWornBeside 5 = .ok (.istore 4, 2) := by decide +kernel
theorem dX6_mostWornBeside_7 : decode cX6_mostWornBeside 7 = .ok (.iload 4, 2) := by decide +kernel
theorem dX6_mostWornBeside_9 : decode cX6_mostWornBeside 9 = .ok (.iconst 4, 1) := by decide +kernel
theorem dX6_mostWornBeside_10 : decode cX6_mostWornBeside 10 = .ok (.if_icmp .ge 61, 3) := by decide +kernel
theorem dX6_mostWornBeside_13 : decode cX6_mostWornBeside 13 = .ok (.aload_n 0, 1) := by decide +kernel
theorem dX6_mostWornBeside_14 : decode cX6_mostWornBeside 14 = .ok (.getfield 9, 3) := by decide +kernel
theorem dX6_mostWornBeside_17 : decode cX6_mostWornBeside 17 = .ok (.aload_n 0, 1) := by decide +kernel
theorem dX6_mostWornBeside_18 : decode cX6_mostWornBeside 18 = .ok (.getfield 9, 3) := by decide +kernel
theorem dX6_mostWornBeside_21 : decode cX6_mostWornBeside 21 = .ok (.aload_n 0, 1) := by decide +kernel
theorem dX6_mostWornBeside_22 : decode cX6_mostWornBeside 22 = .ok (.getfield 9, 3) := by decide +kernel
theorem dX6_mostWornBeside_25 : decode cX6_mostWornBeside 25 = .ok (.getfield 108, 3) := by decide +kernel
theorem dX6_mostWornBeside_28 : decode cX6_mostWornBeside 28 = .ok (.iload_n 1, 1) := by decide +kernel
theorem dX6_mostWornBeside_29 : decode cX6_mostWornBeside 29 = .ok (.iload 4, 2) := by decide +kernel
theorem dX6_mostWornBeside_31 : decode cX6_mostWornBeside 31 = .ok (.invokevirtual 267, 3) := by decide +kernel
theorem dX6_mostWornBeside_34 : decode cX6_mostWornBeside 34 = .ok (.invokevirtual 226, 3) := by decide +kernel
theorem dX6_mostWornBeside_37 : decode cX6_mostWornBeside 37 = .ok (.invokevirtual 55, 3) := by decide +kernel
theorem dX6_mostWornBeside_40 : decode cX6_mostWornBeside 40 = .ok (.astore 5, 2) := by decide +kernel
theorem dX6_mostWornBeside_42 : decode cX6_mostWornBeside 42 = .ok (.aload 5, 2) := by decide +kernel
theorem dX6_mostWornBeside_44 : decode cX6_mostWornBeside 44 = .ok (.ifnull 21, 3) := by decide +kernel
theorem dX6_mostWornBeside_47 : decode cX6_mostWornBeside 47 = .ok (.aload 5, 2) := by decide +kernel
theorem dX6_mostWornBeside_49 : decode cX6_mostWornBeside 49 = .ok (.getfield 261, 3) := by decide +kernel
theorem dX6_mostWornBeside_52 : decode cX6_mostWornBeside 52 = .ok (.iload_n 3, 1) := by decide +kernel
theorem dX6_mostWornBeside_53 : decode cX6_mostWornBeside 53 = .ok (.if_icmp .le 12, 3) := by decide +kernel
theorem dX6_mostWornBeside_56 : decode cX6_mostWornBeside 56 = .ok (.aload 5, 2) := by decide +kernel
theorem dX6_mostWornBeside_58 : decode cX6_mostWornBeside 58 = .ok (.astore_n 2, 1) := by decide +kernel
theorem dX6_mostWornBeside_59 : decode cX6_mostWornBeside 59 = .ok (.aload 5, 2) := by decide +kernel
theorem dX6_mostWornBeside_61 : decode cX6_mostWornBeside 61 = .ok (.getfield 261, 3) := by decide +kernel
theorem dX6_mostWornBeside_64 : decode cX6_mostWornBeside 64 = .ok (.istore_n 3, 1) := by decide +kernel
theorem dX6_mostWornBeside_65 : decode cX6_mostWornBeside 65 = .ok (.iinc 4 1, 3) := by decide +kernel
theorem dX6_mostWornBeside_68 : decode cX6_mostWornBeside 68 = .ok (.goto (-61), 3) := by decide +kernel
theorem dX6_mostWornBeside_71 : decode cX6_mostWornBeside 71 = .ok (.aload_n 2, 1) := by decide +kernel
theorem dX6_mostWornBeside_72 : decode cX6_mostWornBeside 72 = .ok (.areturn, 1) := by decide +kernel
theorem dX6_worth_0 : decode cX6_worth 0 = .ok (.aload_n 0, 1) := by decide +kernel
theorem dX6_worth_1 : decode cX6_worth 1 = .ok (.getfield 20, 3) := by decide +kernel
theorem dX6_worth_4 : decode cX6_worth 4 = .ok (.iconst 0, 1) := by decide +kernel
theorem dX6_worth_5 : decode cX6_worth 5 = .ok (.invokevirtual 88, 3) := by decide +kernel
theorem dX6_worth_8 : decode cX6_worth 8 = .ok (.iload_n 3, 1) := by decide +kernel
theorem dX6_worth_9 : decode cX6_worth 9 = .ok (.istore 4, 2) := by decide +kernel
theorem dX6_worth_11 : decode cX6_worth 11 = .ok (.iload 4, 2) := by decide +kernel
theorem dX6_worth_13 : decode cX6_worth 13 = .ok (.aload_n 2, 1) := by decide +kernel
theorem dX6_worth_14 : decode cX6_worth 14 = .ok (.getfield 270, 3) := by decide +kernel
theorem dX6_worth_17 : decode cX6_worth 17 = .ok (.invokevirtual 72, 3) := by decide +kernel
theorem dX6_worth_20 : decode cX6_worth 20 = .ok (.if_icmp .ge 156, 3) := by decide +kernel
theorem dX6_worth_23 : decode cX6_worth 23 = .ok (.aload_n 2, 1) := by decide +kernel
theorem dX6_worth_24 : decode cX6_worth 24 = .ok (.getfield 270, 3) := by decide +kernel
theorem dX6_worth_27 : decode cX6_worth 27 = .ok (.iload 4, 2) := by decide +kernel
theorem dX6_worth_29 : decode cX6_worth 29 = .ok (.invokevirtual 76, 3) := by decide +kernel
theorem dX6_worth_32 : decode cX6_worth 32 = .ok (.iconst (-1), 1) := by decide +kernel
theorem dX6_worth_33 : decode cX6_worth 33 = .ok (.if_icmp .eq 143, 3) := by decide +kernel
theorem dX6_worth_36 : decode cX6_worth 36 = .ok (.aload_n 2, 1) := by decide +kernel
theorem dX6_worth_37 : decode cX6_worth 37 = .ok (.getfield 270, 3) := by decide +kernel
theorem dX6_worth_40 : decode cX6_worth 40 = .ok (.iload 4, 2) := by decide +kernel
theorem dX6_worth_42 : decode cX6_worth 42 = .ok (.invokevirtual 76, 3) := by decide +kernel
theorem dX6_worth_45 : decode cX6_worth 45 = .ok (.istore 5, 2) := by decide +kernel
theorem dX6_worth_47 : decode cX6_worth 47 = .ok (.iload 5, 2) := by decide +kernel
theorem dX6_worth_49 : decode cX6_worth 49 = .ok (.ifCond .lt 16, 3) := by decide +kernel
theorem dX6_worth_52 : decode cX6_worth 52 = .ok (.aload_n 0, 1) := by decide +kernel
theorem dX6_worth_53 : decode cX6_worth 53 = .ok (.getfield 20, 3) := by decide +kernel
theorem dX6_worth_56 : decode cX6_worth 56 = .ok (.iload 5, 2) := by decide +kernel
theorem dX6_worth_58 : decode cX6_worth 58 = .ok (.invokevirtual 139, 3) := by decide +kernel
theorem dX6_worth_61 : decode cX6_worth 61 = .ok (.pop, 1) := by decide +kernel
theorem dX6_worth_62 : decode cX6_worth 62 = .ok (.goto 108, 3) := by decide +kernel
theorem dX6_worth_65 : decode cX6_worth 65 = .ok (.iload 5, 2) := by decide +kernel
theorem dX6_worth_67 : decode cX6_worth 67 = .ok (.bipush (-33), 2) := by decide +kernel
theorem dX6_worth_69 : decode cX6_worth 69 = .ok (.if_icmp .ne 32, 3) := by decide +kernel
theorem dX6_worth_72 : decode cX6_worth 72 = .ok (.aload_n 0, 1) := by decide +kernel
theorem dX6_worth_73 : decode cX6_worth 73 = .ok (.getfield 20, 3) := by decide +kernel
theorem dX6_worth_76 : decode cX6_worth 76 = .ok (.aload_n 0, 1) := by decide +kernel
theorem dX6_worth_77 : decode cX6_worth 77 = .ok (.getfield 20, 3) := by decide +kernel
theorem dX6_worth_80 : decode cX6_worth 80 = .ok (.invokevirtual 273, 3) := by decide +kernel
theorem dX6_worth_83 : decode cX6_worth 83 = .ok (.ifCond .ne 7, 3) := by decide +kernel
theorem dX6_worth_86 : decode cX6_worth 86 = .ok (.iconst 1, 1) := by decide +kernel
theorem dX6_worth_87 : decode cX6_worth 87 = .ok (.goto 4, 3) := by decide +kernel
theorem dX6_worth_90 : decode cX6_worth 90 = .ok (.iconst 0, 1) := by decide +kernel
theorem dX6_worth_91 : decode cX6_worth 91 = .ok (.invokestatic 276, 3) := by decide +kernel
theorem dX6_worth_94 : decode cX6_worth 94 = .ok (.invokevirtual 139, 3) := by decide +kernel
theorem dX6_worth_97 : decode cX6_worth 97 = .ok (.pop, 1) := by decide +kernel
theorem dX6_worth_98 : decode cX6_worth 98 = .ok (.goto 72, 3) := by decide +kernel
theorem dX6_worth_101 : decode cX6_worth 101 = .ok (.iload 5, 2) := by decide +kernel
theorem dX6_worth_103 : decode cX6_worth 103 = .ok (.bipush (-97), 2) := by decide +kernel
theorem dX6_worth_105 : decode cX6_worth 105 = .ok (.if_icmp .gt 29, 3) := by decide +kernel
theorem dX6_worth_108 : decode cX6_worth 108 = .ok (.iload 5, 2) := by decide +kernel
theorem dX6_worth_110 : decode cX6_worth 110 = .ok (.bipush (-122), 2) := by decide +kernel
theorem dX6_worth_112 : decode cX6_worth 112 = .ok (.if_icmp .lt 22, 3) := by decide +kernel
theorem dX6_worth_115 : decode cX6_worth 115 = .ok (.aload_n 0, 1) := by decide +kernel
theorem dX6_worth_116 : decode cX6_worth 116 = .ok (.getfield 20, 3) := by decide +kernel
theorem dX6_worth_119 : decode cX6_worth 119 = .ok (.aload_n 0, 1) := by decide +kernel
theorem dX6_worth_120 : decode cX6_worth 120 = .ok (.aload_n 1, 1) := by decide +kernel
theorem dX6_worth_121 : decode cX6_worth 121 = .ok (.iload 5, 2) := by decide +kernel
theorem dX6_worth_123 : decode cX6_worth 123 = .ok (.ineg, 1) := by decide +kernel
theorem dX6_worth_124 : decode cX6_worth 124 = .ok (.invokevirtual 280, 3) := by decide +kernel
theorem dX6_worth_127 : decode cX6_worth 127 = .ok (.invokevirtual 139, 3) := by decide +kernel
theorem dX6_worth_130 : decode cX6_worth 130 = .ok (.pop, 1) := by decide +kernel
theorem dX6_worth_131 : decode cX6_worth 131 = .ok (.goto 39, 3) := by decide +kernel
theorem dX6_worth_134 : decode cX6_worth 134 = .ok (.aload_n 0, 1) := by decide +kernel
theorem dX6_worth_135 : decode cX6_worth 135 = .ok (.getfield 20, 3) := by decide +kernel
theorem dX6_worth_138 : decode cX6_worth 138 = .ok (.invokevirtual 273, 3) := by decide +kernel
theorem dX6_worth_141 : decode cX6_worth 141 = .ok (.istore 6, 2) := by decide +kernel
theorem dX6_worth_143 : decode cX6_worth 143 = .ok (.aload_n 0, 1) := by decide +kernel
theorem dX6_worth_144 : decode cX6_worth 144 = .ok (.getfield 20, 3) := by decide +kernel
theorem dX6_worth_147 : decode cX6_worth 147 = .ok (.invokevirtual 273, 3) := by decide +kernel
theorem dX6_worth_150 : decode cX6_worth 150 = .ok (.istore 7, 2) := by decide +kernel
theorem dX6_worth_152 : decode cX6_worth 152 = .ok (.aload_n 0, 1) := by decide +kernel
theorem dX6_worth_153 : decode cX6_worth 153 = .ok (.getfield 20, 3) := by decide +kernel
theorem dX6_worth_156 : decode cX6_worth 156 = .ok (.iload 7, 2) := by decide +kernel
theorem dX6_worth_158 : decode cX6_worth 158 = .ok (.iload 5, 2) := by decide +kernel
theorem dX6_worth_160 : decode cX6_worth 160 = .ok (.ineg, 1) := by decide +kernel
theorem dX6_worth_161 : decode cX6_worth 161 = .ok (.iload 6, 2) := by decide +kernel
theorem dX6_worth_163 : decode cX6_worth 163 = .ok (.invokestatic 284, 3) := by decide +kernel
theorem dX6_worth_166 : decode cX6_worth 166 = .ok (.invokevirtual 139, 3) := by decide +kernel
theorem dX6_worth_169 : decode cX6_worth 169 = .ok (.pop, 1) := by decide +kernel
theorem dX6_worth_170 : decode cX6_worth 170 = .ok (.iinc 4 1, 3) := by decide +kernel
theorem dX6_worth_173 : decode cX6_worth 173 = .ok (.goto (-162), 3) := by decide +kernel
theorem dX6_worth_176 : decode cX6_worth 176 = .ok (.aload_n 0, 1) := by decide +kernel
theorem dX6_worth_177 : decode cX6_worth 177 = .ok (.getfield 20, 3) := by decide +kernel
theorem dX6_worth_180 : decode cX6_worth 180 = .ok (.invokevirtual 273, 3) := by decide +kernel
theorem dX6_worth_183 : decode cX6_worth 183 = .ok (.ireturn, 1) := by decide +kernel
theorem dX6_sense_0 : decode cX6_sense 0 = .ok (.aload_n 0, 1) := by decide +kernel
theorem dX6_sense_1 : decode cX6_sense 1 = .ok (.getfield 9, 3) := by decide +kernel
theorem dX6_sense_4 : decode cX6_sense 4 = .ok (.getfield 108, 3) := by decide +kernel
theorem dX6_sense_7 : decode cX6_sense 7 = .ok (.astore_n 3, 1) := by decide +kernel
theorem dX6_sense_8 : decode cX6_sense 8 = .ok (.iload_n 2, 1) := by decide +kernel
theorem dX6_sense_9 : decode cX6_sense 9 = .ok (.tableswitch 191 98 120 #[160, 107, 136, 191, 191, 191, 191, 148, 191, 112, 191, 191, 191, 191, 191, 191, 191, 122, 171, 191, 191, 117, 182], 107) := by decide +kernel
theorem dX6_sense_116 : decode cX6_sense 116 = .ok (.aload_n 1, 1) := by decide +kernel
theorem dX6_sense_117 : decode cX6_sense 117 = .ok (.getfield 143, 3) := by decide +kernel
theorem dX6_sense_120 : decode cX6_sense 120 = .ok (.ireturn, 1) := by decide +kernel
theorem dX6_sense_121 : decode cX6_sense 121 = .ok (.aload_n 1, 1) := by decide +kernel
theorem dX6_sense_122 : decode cX6_sense 122 = .ok (.getfield 232, 3) := by decide +kernel
theorem dX6_sense_125 : decode cX6_sense 125 = .ok (.ireturn, 1) := by decide +kernel
theorem dX6_sense_126 : decode cX6_sense 126 = .ok (.aload_n 1, 1) := by decide +kernel
theorem dX6_sense_127 : decode cX6_sense 127 = .ok (.getfield 261, 3) := by decide +kernel
theorem dX6_sense_130 : decode cX6_sense 130 = .ok (.ireturn, 1) := by decide +kernel
theorem dX6_sense_131 : decode cX6_sense 131 = .ok (.aload_n 0, 1) := by decide +kernel
theorem dX6_sense_132 : decode cX6_sense 132 = .ok (.getfield 9, 3) := by decide +kernel
theorem dX6_sense_135 : decode cX6_sense 135 = .ok (.getfield 30, 3) := by decide +kernel
theorem dX6_sense_138 : decode cX6_sense 138 = .ok (.invokevirtual 36, 3) := by decide +kernel
theorem dX6_sense_141 : decode cX6_sense 141 = .ok (.invokestatic 276, 3) := by decide +kernel
theorem dX6_sense_144 : decode cX6_sense 144 = .ok (.ireturn, 1) := by decide +kernel
theorem dX6_sense_145 : decode cX6_sense 145 = .ok (.aload_n 3, 1) := by decide +kernel
theorem dX6_sense_146 : decode cX6_sense 146 = .ok (.getfield 133, 3) := by decide +kernel
theorem dX6_sense_149 : decode cX6_sense 149 = .ok (.aload_n 1, 1) := by decide +kernel
theorem dX6_sense_150 : decode cX6_sense 150 = .ok (.getfield 124, 3) := by decide +kernel
theorem dX6_sense_153 : decode cX6_sense 153 = .ok (.invokevirtual 76, 3) := by decide +kernel
theorem dX6_sense_156 : decode cX6_sense 156 = .ok (.ireturn, 1) := by decide +kernel
theorem dX6_sense_157 : decode cX6_sense 157 = .ok (.aload_n 3, 1) := by decide +kernel
theorem dX6_sense_158 : decode cX6_sense 158 = .ok (.getfield 136, 3) := by decide +kernel
theorem dX6_sense_161 : decode cX6_sense 161 = .ok (.aload_n 1, 1) := by decide +kernel
theorem dX6_sense_162 : decode cX6_sense 162 = .ok (.getfield 124, 3) := by decide +kernel
theorem dX6_sense_165 : decode cX6_sense 165 = .ok (.invokevirtual 76, 3) := by decide +kernel
theorem dX6_sense_168 : decode cX6_sense 168 = .ok (.ireturn, 1) := by decide +kernel
theorem dX6_sense_169 : decode cX6_sense 169 = .ok (.aload_n 0, 1) := by decide +kernel
theorem dX6_sense_170 : decode cX6_sense 170 = .ok (.getfield 9, 3) := by decide +kernel
theorem dX6_sense_173 : decode cX6_sense 173 = .ok (.getfield 30, 3) := by decide +kernel
theorem dX6_sense_176 : decode cX6_sense 176 = .ok (.getfield 255, 3) := by decide +kernel
theorem dX6_sense_179 : decode cX6_sense 179 = .ok (.ireturn, 1) := by decide +kernel
theorem dX6_sense_180 : decode cX6_sense 180 = .ok (.aload_n 0, 1) := by decide +kernel
theorem dX6_sense_181 : decode cX6_sense 181 = .ok (.getfield 9, 3) := by decide +kernel
theorem dX6_sense_184 : decode cX6_sense 184 = .ok (.getfield 30, 3) := by decide +kernel
theorem dX6_sense_187 : decode cX6_sense 187 = .ok (.invokevirtual 288, 3) := by decide +kernel
theorem dX6_sense_190 : decode cX6_sense 190 = .ok (.ireturn, 1) := by decide +kernel
theorem dX6_sense_191 : decode cX6_sense 191 = .ok (.aload_n 3, 1) := by decide +kernel
theorem dX6_sense_192 : decode cX6_sense 192 = .ok (.aload_n 1, 1) := by decide +kernel
theorem dX6_sense_193 : decode cX6_sense 193 = .ok (.getfield 124, 3) := by decide +kernel
theorem dX6_sense_196 : decode cX6_sense 196 = .ok (.invokevirtual 189, 3) := by decide +kernel
theorem dX6_sense_199 : decode cX6_sense 199 = .ok (.ireturn, 1) := by decide +kernel
theorem dX6_sense_200 : decode cX6_sense 200 = .ok (.aload_n 3, 1) := by decide +kernel
theorem dX6_sense_201 : decode cX6_sense 201 = .ok (.aload_n 1, 1) := by decide +kernel
theorem dX6_sense_202 : decode cX6_sense 202 = .ok (.getfield 124, 3) := by decide +kernel
theorem dX6_sense_205 : decode cX6_sense 205 = .ok (.invokevirtual 192, 3) := by decide +kernel
theorem dX6_sense_208 : decode cX6_sense 208 = .ok (.ireturn, 1) := by decide +kernel
theorem dX6_join_0 : decode cX6_join 0 = .ok (.iload_n 1, 1) := by decide +kernel
theorem dX6_join_1 : decode cX6_join 1 = .ok (.lookupswitch 151 #[(38, 84), (43, 143), (45, 147), (60, 101), (61, 115), (62, 129), (124, 67)], 67) := by decide +kernel
theorem dX6_join_68 : decode cX6_join 68 = .ok (.iload_n 0, 1) := by decide +kernel
theorem dX6_join_69 : decode cX6_join 69 = .ok (.ifCond .ne 7, 3) := by decide +kernel
theorem dX6_join_72 : decode cX6_join 72 = .ok (.iload_n 2, 1) := by decide +kernel
theorem dX6_join_73 : decode cX6_join 73 = .ok (.ifCond .eq 7, 3) := by decide +kernel
theorem dX6_join_76 : decode cX6_join 76 = .ok (.iconst 1, 1) := by decide +kernel
theorem dX6_join_77 : decode cX6_join 77 = .ok (.goto 4, 3) := by decide +kernel
theorem dX6_join_80 : decode cX6_join 80 = .ok (.iconst 0, 1) := by decide +kernel
theorem dX6_join_81 : decode cX6_join 81 = .ok (.invokestatic 276, 3) := by decide +kernel
theorem dX6_join_84 : decode cX6_join 84 = .ok (.ireturn, 1) := by decide +kernel
theorem dX6_join_85 : decode cX6_join 85 = .ok (.iload_n 0, 1) := by decide +kernel
theorem dX6_join_86 : decode cX6_join 86 = .ok (.ifCond .eq 11, 3) := by decide +kernel
theorem dX6_join_89 : decode cX6_join 89 = .ok (.iload_n 2, 1) := by decide +kernel
theorem dX6_join_90 : decode cX6_join 90 = .ok (.ifCond .eq 7, 3) := by decide +kernel
theorem dX6_join_93 : decode cX6_join 93 = .ok (.iconst 1, 1) := by decide +kernel
theorem dX6_join_94 : decode cX6_join 94 = .ok (.goto 4, 3) := by decide +kernel
theorem dX6_join_97 : decode cX6_join 97 = .ok (.iconst 0, 1) := by decide +kernel
theorem dX6_join_98 : decode cX6_join 98 = .ok (.invokestatic 276, 3) := by decide +kernel
theorem dX6_join_101 : decode cX6_join 101 = .ok (.ireturn, 1) := by decide +kernel
theorem dX6_join_102 : decode cX6_join 102 = .ok (.iload_n 0, 1) := by decide +kernel
theorem dX6_join_103 : decode cX6_join 103 = .ok (.iload_n 2, 1) := by decide +kernel
theorem dX6_join_104 : decode cX6_join 104 = .ok (.if_icmp .ge 7, 3) := by decide +kernel
theorem dX6_join_107 : decode cX6_join 107 = .ok (.iconst 1, 1) := by decide +kernel
theorem dX6_join_108 : decode cX6_join 108 = .ok (.goto 4, 3) := by decide +kernel
theorem dX6_join_111 : decode cX6_join 111 = .ok (.iconst 0, 1) := by decide +kernel
theorem dX6_join_112 : decode cX6_join 112 = .ok (.invokestatic 276, 3) := by decide +kernel
theorem dX6_join_115 : decode cX6_join 115 = .ok (.ireturn, 1) := by decide +kernel
theorem dX6_join_116 : decode cX6_join 116 = .ok (.iload_n 0, 1) := by decide +kernel
theorem dX6_join_117 : decode cX6_join 117 = .ok (.iload_n 2, 1) := by decide +kernel
theorem dX6_join_118 : decode cX6_join 118 = .ok (.if_icmp .ne 7, 3) := by decide +kernel
theorem dX6_join_121 : decode cX6_join 121 = .ok (.iconst 1, 1) := by decide +kernel
theorem dX6_join_122 : decode cX6_join 122 = .ok (.goto 4, 3) := by decide +kernel
theorem dX6_join_125 : decode cX6_join 125 = .ok (.iconst 0, 1) := by decide +kernel
theorem dX6_join_126 : decode cX6_join 126 = .ok (.invokestatic 276, 3) := by decide +kernel
theorem dX6_join_129 : decode cX6_join 129 = .ok (.ireturn, 1) := by decide +kernel
theorem dX6_join_130 : decode cX6_join 130 = .ok (.iload_n 0, 1) := by decide +kernel
theorem dX6_join_131 : decode cX6_join 131 = .ok (.iload_n 2, 1) := by decide +kernel
theorem dX6_join_132 : decode cX6_join 132 = .ok (.if_icmp .le 7, 3) := by decide +kernel
theorem dX6_join_135 : decode cX6_join 135 = .ok (.iconst 1, 1) := by decide +kernel
theorem dX6_join_136 : decode cX6_join 136 = .ok (.goto 4, 3) := by decide +kernel
theorem dX6_join_139 : decode cX6_join 139 = .ok (.iconst 0, 1) := by decide +kernel
theorem dX6_join_140 : decode cX6_join 140 = .ok (.invokestatic 276, 3) := by decide +kernel
theorem dX6_join_143 : decode cX6_join 143 = .ok (.ireturn, 1) := by decide +kernel
theorem dX6_join_144 : decode cX6_join 144 = .ok (.iload_n 0, 1) := by decide +kernel
theorem dX6_join_145 : decode cX6_join 145 = .ok (.iload_n 2, 1) := by decide +kernel
theorem dX6_join_146 : decode cX6_join 146 = .ok (.iadd, 1) := by decide +kernel
theorem dX6_join_147 : decode cX6_join 147 = .ok (.ireturn, 1) := by decide +kernel
theorem dX6_join_148 : decode cX6_join 148 = .ok (.iload_n 0, 1) := by decide +kernel
theorem dX6_join_149 : decode cX6_join 149 = .ok (.iload_n 2, 1) := by decide +kernel
theorem dX6_join_150 : decode cX6_join 150 = .ok (.isub, 1) := by decide +kernel
theorem dX6_join_151 : decode cX6_join 151 = .ok (.ireturn, 1) := by decide +kernel
theorem dX6_join_152 : decode cX6_join 152 = .ok (.iload_n 0, 1) := by decide +kernel
theorem dX6_join_153 : decode cX6_join 153 = .ok (.iload_n 2, 1) := by decide +kernel
theorem dX6_join_154 : decode cX6_join 154 = .ok (.imul, 1) := by decide +kernel
theorem dX6_join_155 : decode cX6_join 155 = .ok (.ireturn, 1) := by decide +kernel
theorem dX7_init_0 : decode cX7_init 0 = .ok (.aload_n 0, 1) := by decide +kernel
theorem dX7_init_1 : decode cX7_init 1 = .ok (.invokespecial 3, 3) := by decide +kernel
theorem dX7_init_4 : decode cX7_init 4 = .ok (.aload_n 0, 1) := by decide +kernel
theorem dX7_init_5 : decode cX7_init 5 = .ok (.new 9, 3) := by decide +kernel
theorem dX7_init_8 : decode cX7_init 8 = .ok (.dup, 1) := by decide +kernel
theorem dX7_init_9 : decode cX7_init 9 = .ok (.bipush 80, 2) := by decide +kernel
theorem dX7_init_11 : decode cX7_init 11 = .ok (.invokespecial 11, 3) := by decide +kernel
theorem dX7_init_14 : decode cX7_init 14 = .ok (.putfield 14, 3) := by decide +kernel
theorem dX7_init_17 : decode cX7_init 17 = .ok (.aload_n 0, 1) := by decide +kernel
theorem dX7_init_18 : decode cX7_init 18 = .ok (.new 9, 3) := by decide +kernel
theorem dX7_init_21 : decode cX7_init 21 = .ok (.dup, 1) := by decide +kernel
theorem dX7_init_22 : decode cX7_init 22 = .ok (.bipush 80, 2) := by decide +kernel
theorem dX7_init_24 : decode cX7_init 24 = .ok (.invokespecial 11, 3) := by decide +kernel
theorem dX7_init_27 : decode cX7_init 27 = .ok (.putfield 20, 3) := by decide +kernel
theorem dX7_init_30 : decode cX7_init 30 = .ok (.aload_n 0, 1) := by decide +kernel
theorem dX7_init_31 : decode cX7_init 31 = .ok (.iconst 0, 1) := by decide +kernel
theorem dX7_init_32 : decode cX7_init 32 = .ok (.putfield 23, 3) := by decide +kernel
theorem dX7_init_35 : decode cX7_init 35 = .ok (.return_, 1) := by decide +kernel
theorem dX7_row_0 : decode cX7_row 0 = .ok (.iload_n 1, 1) := by decide +kernel
theorem dX7_row_1 : decode cX7_row 1 = .ok (.ifCond .ne 10, 3) := by decide +kernel
theorem dX7_row_4 : decode cX7_row 4 = .ok (.aload_n 0, 1) := by decide +kernel
theorem dX7_row_5 : decode cX7_row 5 = .ok (.getfield 14, 3) := by decide +kernel
theorem dX7_row_8 : decode cX7_row 8 = .ok (.goto 7, 3) := by decide +kernel
theorem dX7_row_11 : decode cX7_row 11 = .ok (.aload_n 0, 1) := by decide +kernel
theorem dX7_row_12 : decode cX7_row 12 = .ok (.getfield 20, 3) := by decide +kernel
theorem dX7_row_15 : decode cX7_row 15 = .ok (.areturn, 1) := by decide +kernel
theorem dX7_isThere_0 : decode cX7_isThere 0 = .ok (.aload_n 0, 1) := by decide +kernel
theorem dX7_isThere_1 : decode cX7_isThere 1 = .ok (.getfield 23, 3) := by decide +kernel
theorem dX7_isThere_4 : decode cX7_isThere 4 = .ok (.iconst 1, 1) := by decide +kernel
theorem dX7_isThere_5 : decode cX7_isThere 5 = .ok (.iload_n 1, 1) := by decide +kernel
theorem dX7_isThere_6 : decode cX7_isThere 6 = .ok (.ishl, 1) := by decide +kernel
theorem dX7_isThere_7 : decode cX7_isThere 7 = .ok (.iand, 1) := by decide +kernel
theorem dX7_isThere_8 : decode cX7_isThere 8 = .ok (.ifCond .eq 7, 3) := by decide +kernel
theorem dX7_isThere_11 : decode cX7_isThere 11 = .ok (.iconst 1, 1) := by decide +kernel
theorem dX7_isThere_12 : decode cX7_isThere 12 = .ok (.goto 4, 3) := by decide +kernel
theorem dX7_isThere_15 : decode cX7_isThere 15 = .ok (.iconst 0, 1) := by decide +kernel
theorem dX7_isThere_16 : decode cX7_isThere 16 = .ok (.ireturn, 1) := by decide +kernel
theorem dX7_begin_0 : decode cX7_begin 0 = .ok (.aload_n 0, 1) := by decide +kernel
theorem dX7_begin_1 : decode cX7_begin 1 = .ok (.iload_n 1, 1) := by decide +kernel
theorem dX7_begin_2 : decode cX7_begin 2 = .ok (.invokevirtual 27, 3) := by decide +kernel
theorem dX7_begin_5 : decode cX7_begin 5 = .ok (.iload_n 2, 1) := by decide +kernel
theorem dX7_begin_6 : decode cX7_begin 6 = .ok (.iconst 0, 1) := by decide +kernel
theorem dX7_begin_7 : decode cX7_begin 7 = .ok (.invokevirtual 31, 3) := by decide +kernel
theorem dX7_begin_10 : decode cX7_begin 10 = .ok (.aload_n 0, 1) := by decide +kernel
theorem dX7_begin_11 : decode cX7_begin 11 = .ok (.dup, 1) := by decide +kernel
theorem dX7_begin_12 : decode cX7_begin 12 = .ok (.getfield 23, 3) := by decide +kernel
theorem dX7_begin_15 : decode cX7_begin 15 = .ok (.iconst 1, 1) := by decide +kernel
theorem dX7_begin_16 : decode cX7_begin 16 = .ok (.iload_n 1, 1) := by decide +kernel
theorem dX7_begin_17 : decode cX7_begin 17 = .ok (.ishl, 1) := by decide +kernel
theorem dX7_begin_18 : decode cX7_begin 18 = .ok (.ior, 1) := by decide +kernel
theorem dX7_begin_19 : decode cX7_begin 19 = .ok (.putfield 23, 3) := by decide +kernel
theorem dX7_begin_22 : decode cX7_begin 22 = .ok (.return_, 1) := by decide +kernel
theorem dX7_places_0 : decode cX7_places 0 = .ok (.aload_n 0, 1) := by decide +kernel
theorem dX7_places_1 : decode cX7_places 1 = .ok (.iload_n 1, 1) := by decide +kernel
theorem dX7_places_2 : decode cX7_places 2 = .ok (.invokevirtual 27, 3) := by decide +kernel
theorem dX7_places_5 : decode cX7_places 5 = .ok (.invokevirtual 35, 3) := by decide +kernel
theorem dX7_places_8 : decode cX7_places 8 = .ok (.ireturn, 1) := by decide +kernel
theorem dX7_at_0 : decode cX7_at 0 = .ok (.aload_n 0, 1) := by decide +kernel
theorem dX7_at_1 : decode cX7_at 1 = .ok (.iload_n 1, 1) := by decide +kernel
theorem dX7_at_2 : decode cX7_at 2 = .ok (.invokevirtual 27, 3) := by decide +kernel
theorem dX7_at_5 : decode cX7_at 5 = .ok (.iload_n 2, 1) := by decide +kernel
theorem dX7_at_6 : decode cX7_at 6 = .ok (.invokevirtual 39, 3) := by decide +kernel
theorem dX7_at_9 : decode cX7_at 9 = .ok (.ireturn, 1) := by decide +kernel
theorem dX7_swap_0 : decode cX7_swap 0 = .ok (.aload_n 0, 1) := by decide +kernel
theorem dX7_swap_1 : decode cX7_swap 1 = .ok (.iload_n 1, 1) := by decide +kernel
theorem dX7_swap_2 : decode cX7_swap 2 = .ok (.invokevirtual 27, 3) := by decide +kernel
theorem dX7_swap_5 : decode cX7_swap 5 = .ok (.iload_n 2, 1) := by decide +kernel
theorem dX7_swap_6 : decode cX7_swap 6 = .ok (.iload_n 3, 1) := by decide +kernel
theorem dX7_swap_7 : decode cX7_swap 7 = .ok (.invokevirtual 43, 3) := by decide +kernel
theorem dX7_swap_10 : decode cX7_swap 10 = .ok (.ireturn, 1) := by decide +kernel
theorem dX7_hasPart_0 : decode cX7_hasPart 0 = .ok (.iload_n 2, 1) := by decide +kernel
theorem dX7_hasPart_1 : decode cX7_hasPart 1 = .ok (.ifCond .lt 31, 3) := by decide +kernel
theorem dX7_hasPart_4 : decode cX7_hasPart 4 = .ok (.iload_n 3, 1) := by decide +kernel
theorem dX7_hasPart_5 : decode cX7_hasPart 5 = .ok (.ifCond .lt 27, 3) := by decide +kernel
theorem dX7_hasPart_8 : decode cX7_hasPart 8 = .ok (.iload_n 3, 1) := by decide +kernel
theorem dX7_hasPart_9 : decode cX7_hasPart 9 = .ok (.aload_n 0, 1) := by decide +kernel
theorem dX7_hasPart_10 : decode cX7_hasPart 10 = .ok (.iload_n 1, 1) := by decide +kernel
theorem dX7_hasPart_11 : decode cX7_hasPart 11 = .ok (.invokevirtual 47, 3) := by decide +kernel
theorem dX7_hasPart_14 : decode cX7_hasPart 14 = .ok (.if_icmp .gt 18, 3) := by decide +kernel
theorem dX7_hasPart_17 : decode cX7_hasPart 17 = .ok (.iload_n 2, 1) := by decide +kernel
theorem dX7_hasPart_18 : decode cX7_hasPart 18 = .ok (.aload_n 0, 1) := by decide +kernel
theorem dX7_hasPart_19 : decode cX7_hasPart 19 = .ok (.iload_n 1, 1) := by decide +kernel
theorem dX7_hasPart_20 : decode cX7_hasPart 20 = .ok (.invokevirtual 47, 3) := by decide +kernel
theorem dX7_hasPart_23 : decode cX7_hasPart 23 = .ok (.iload_n 3, 1) := by decide +kernel
theorem dX7_hasPart_24 : decode cX7_hasPart 24 = .ok (.isub, 1) := by decide +kernel
theorem dX7_hasPart_25 : decode cX7_hasPart 25 = .ok (.if_icmp .gt 7, 3) := by decide +kernel
theorem dX7_hasPart_28 : decode cX7_hasPart 28 = .ok (.iconst 1, 1) := by decide +kernel
theorem dX7_hasPart_29 : decode cX7_hasPart 29 = .ok (.goto 4, 3) := by decide +kernel
theorem dX7_hasPart_32 : decode cX7_hasPart 32 = .ok (.iconst 0, 1) := by decide +kernel
theorem dX7_hasPart_33 : decode cX7_hasPart 33 = .ok (.ireturn, 1) := by decide +kernel
theorem dX7_move_0 : decode cX7_move 0 = .ok (.aload_n 0, 1) := by decide +kernel
theorem dX7_move_1 : decode cX7_move 1 = .ok (.iload_n 3, 1) := by decide +kernel
theorem dX7_move_2 : decode cX7_move 2 = .ok (.invokevirtual 27, 3) := by decide +kernel
theorem dX7_move_5 : decode cX7_move 5 = .ok (.aload_n 0, 1) := by decide +kernel
theorem dX7_move_6 : decode cX7_move 6 = .ok (.iload_n 1, 1) := by decide +kernel
theorem dX7_move_7 : decode cX7_move 7 = .ok (.invokevirtual 27, 3) := by decide +kernel
theorem dX7_move_10 : decode cX7_move 10 = .ok (.iload_n 2, 1) := by decide +kernel
theorem dX7_move_11 : decode cX7_move 11 = .ok (.iload 4, 2) := by decide +kernel
theorem dX7_move_13 : decode cX7_move 13 = .ok (.iload 5, 2) := by decide +kernel
theorem dX7_move_15 : decode cX7_move 15 = .ok (.invokevirtual 50, 3) := by decide +kernel
theorem dX7_move_18 : decode cX7_move 18 = .ok (.return_, 1) := by decide +kernel
theorem dX8_init_0 : decode cX8_init 0 = .ok (.aload_n 0, 1) := by decide +kernel
theorem dX8_init_1 : decode cX8_init 1 = .ok (.invokespecial 3, 3) := by decide +kernel
theorem dX8_init_4 : decode cX8_init 4 = .ok (.aload_n 0, 1) := by decide +kernel
theorem dX8_init_5 : decode cX8_init 5 = .ok (.new 9, 3) := by decide +kernel
theorem dX8_init_8 : decode cX8_init 8 = .ok (.dup, 1) := by decide +kernel
theorem dX8_init_9 : decode cX8_init 9 = .ok (.invokespecial 11, 3) := by decide +kernel
theorem dX8_init_12 : decode cX8_init 12 = .ok (.putfield 12, 3) := by decide +kernel
theorem dX8_init_15 : decode cX8_init 15 = .ok (.aload_n 0, 1) := by decide +kernel
theorem dX8_init_16 : decode cX8_init 16 = .ok (.new 18, 3) := by decide +kernel
theorem dX8_init_19 : decode cX8_init 19 = .ok (.dup, 1) := by decide +kernel
theorem dX8_init_20 : decode cX8_init 20 = .ok (.invokespecial 20, 3) := by decide +kernel
theorem dX8_init_23 : decode cX8_init 23 = .ok (.putfield 21, 3) := by decide +kernel
theorem dX8_init_26 : decode cX8_init 26 = .ok (.aload_n 0, 1) := by decide +kernel
theorem dX8_init_27 : decode cX8_init 27 = .ok (.new 25, 3) := by decide +kernel
theorem dX8_init_30 : decode cX8_init 30 = .ok (.dup, 1) := by decide +kernel
theorem dX8_init_31 : decode cX8_init 31 = .ok (.invokespecial 27, 3) := by decide +kernel
theorem dX8_init_34 : decode cX8_init 34 = .ok (.putfield 28, 3) := by decide +kernel
theorem dX8_init_37 : decode cX8_init 37 = .ok (.aload_n 0, 1) := by decide +kernel
theorem dX8_init_38 : decode cX8_init 38 = .ok (.iconst 5, 1) := by decide +kernel
theorem dX8_init_39 : decode cX8_init 39 = .ok (.anewarray 32, 3) := by decide +kernel
theorem dX8_init_42 : decode cX8_init 42 = .ok (.putfield 34, 3) := by decide +kernel
theorem dX8_init_45 : decode cX8_init 45 = .ok (.iconst 0, 1) := by decide +kernel
theorem dX8_init_46 : decode cX8_init 46 = .ok (.istore_n 1, 1) := by decide +kernel
theorem dX8_init_47 : decode cX8_init 47 = .ok (.iload_n 1, 1) := by decide +kernel
theorem dX8_init_48 : decode cX8_init 48 = .ok (.aload_n 0, 1) := by decide +kernel
theorem dX8_init_49 : decode cX8_init 49 = .ok (.getfield 34, 3) := by decide +kernel
theorem dX8_init_52 : decode cX8_init 52 = .ok (.arraylength, 1) := by decide +kernel
theorem dX8_init_53 : decode cX8_init 53 = .ok (.if_icmp .ge 22, 3) := by decide +kernel
theorem dX8_init_56 : decode cX8_init 56 = .ok (.aload_n 0, 1) := by decide +kernel
theorem dX8_init_57 : decode cX8_init 57 = .ok (.getfield 34, 3) := by decide +kernel
theorem dX8_init_60 : decode cX8_init 60 = .ok (.iload_n 1, 1) := by decide +kernel
theorem dX8_init_61 : decode cX8_init 61 = .ok (.new 32, 3) := by decide +kernel
theorem dX8_init_64 : decode cX8_init 64 = .ok (.dup, 1) := by decide +kernel
theorem dX8_init_65 : decode cX8_init 65 = .ok (.invokespecial 38, 3) := by decide +kernel
theorem dX8_init_68 : decode cX8_init 68 = .ok (.aastore, 1) := by decide +kernel
theorem dX8_init_69 : decode cX8_init 69 = .ok (.iinc 1 1, 3) := by decide +kernel
theorem dX8_init_72 : decode cX8_init 72 = .ok (.goto (-25), 3) := by decide +kernel
theorem dX8_init_75 : decode cX8_init 75 = .ok (.aload_n 0, 1) := by decide +kernel
theorem dX8_init_76 : decode cX8_init 76 = .ok (.iconst 0, 1) := by decide +kernel
theorem dX8_init_77 : decode cX8_init 77 = .ok (.putfield 39, 3) := by decide +kernel
theorem dX8_init_80 : decode cX8_init 80 = .ok (.aload_n 0, 1) := by decide +kernel
theorem dX8_init_81 : decode cX8_init 81 = .ok (.bipush 6, 2) := by decide +kernel
theorem dX8_init_83 : decode cX8_init 83 = .ok (.anewarray 43, 3) := by decide +kernel
theorem dX8_init_86 : decode cX8_init 86 = .ok (.putfield 45, 3) := by decide +kernel
theorem dX8_init_89 : decode cX8_init 89 = .ok (.iconst 0, 1) := by decide +kernel
theorem dX8_init_90 : decode cX8_init 90 = .ok (.istore_n 1, 1) := by decide +kernel
theorem dX8_init_91 : decode cX8_init 91 = .ok (.iload_n 1, 1) := by decide +kernel
theorem dX8_init_92 : decode cX8_init 92 = .ok (.aload_n 0, 1) := by decide +kernel
theorem dX8_init_93 : decode cX8_init 93 = .ok (.getfield 45, 3) := by decide +kernel
theorem dX8_init_96 : decode cX8_init 96 = .ok (.arraylength, 1) := by decide +kernel
theorem dX8_init_97 : decode cX8_init 97 = .ok (.if_icmp .ge 22, 3) := by decide +kernel
theorem dX8_init_100 : decode cX8_init 100 = .ok (.aload_n 0, 1) := by decide +kernel
theorem dX8_init_101 : decode cX8_init 101 = .ok (.getfield 45, 3) := by decide +kernel
theorem dX8_init_104 : decode cX8_init 104 = .ok (.iload_n 1, 1) := by decide +kernel
theorem dX8_init_105 : decode cX8_init 105 = .ok (.new 43, 3) := by decide +kernel
theorem dX8_init_108 : decode cX8_init 108 = .ok (.dup, 1) := by decide +kernel
theorem dX8_init_109 : decode cX8_init 109 = .ok (.invokespecial 49, 3) := by decide +kernel
theorem dX8_init_112 : decode cX8_init 112 = .ok (.aastore, 1) := by decide +kernel
theorem dX8_init_113 : decode cX8_init 113 = .ok (.iinc 1 1, 3) := by decide +kernel
theorem dX8_init_116 : decode cX8_init 116 = .ok (.goto (-25), 3) := by decide +kernel
theorem dX8_init_119 : decode cX8_init 119 = .ok (.aload_n 0, 1) := by decide +kernel
theorem dX8_init_120 : decode cX8_init 120 = .ok (.new 50, 3) := by decide +kernel
theorem dX8_init_123 : decode cX8_init 123 = .ok (.dup, 1) := by decide +kernel
theorem dX8_init_124 : decode cX8_init 124 = .ok (.bipush 36, 2) := by decide +kernel
theorem dX8_init_126 : decode cX8_init 126 = .ok (.invokespecial 52, 3) := by decide +kernel
theorem dX8_init_129 : decode cX8_init 129 = .ok (.putfield 55, 3) := by decide +kernel
theorem dX8_init_132 : decode cX8_init 132 = .ok (.aload_n 0, 1) := by decide +kernel
theorem dX8_init_133 : decode cX8_init 133 = .ok (.new 50, 3) := by decide +kernel
theorem dX8_init_136 : decode cX8_init 136 = .ok (.dup, 1) := by decide +kernel
theorem dX8_init_137 : decode cX8_init 137 = .ok (.sipush 300, 3) := by decide +kernel
theorem dX8_init_140 : decode cX8_init 140 = .ok (.invokespecial 52, 3) := by decide +kernel
theorem dX8_init_143 : decode cX8_init 143 = .ok (.putfield 59, 3) := by decide +kernel
theorem dX8_init_146 : decode cX8_init 146 = .ok (.return_, 1) := by decide +kernel
theorem dX8_renew_0 : decode cX8_renew 0 = .ok (.aload_n 0, 1) := by decide +kernel
theorem dX8_renew_1 : decode cX8_renew 1 = .ok (.getfield 12, 3) := by decide +kernel
theorem dX8_renew_4 : decode cX8_renew 4 = .ok (.iload_n 1, 1) := by decide +kernel
theorem dX8_renew_5 : decode cX8_renew 5 = .ok (.iload_n 2, 1) := by decide +kernel
theorem dX8_renew_6 : decode cX8_renew 6 = .ok (.invokevirtual 62, 3) := by decide +kernel
theorem dX8_renew_9 : decode cX8_renew 9 = .ok (.aload_n 0, 1) := by decide +kernel
theorem dX8_renew_10 : decode cX8_renew 10 = .ok (.iconst 0, 1) := by decide +kernel
theorem dX8_renew_11 : decode cX8_renew 11 = .ok (.putfield 39, 3) := by decide +kernel
theorem dX8_renew_14 : decode cX8_renew 14 = .ok (.aload_n 0, 1) := by decide +kernel
theorem dX8_renew_15 : decode cX8_renew 15 = .ok (.getfield 55, 3) := by decide +kernel
theorem dX8_renew_18 : decode cX8_renew 18 = .ok (.iconst 0, 1) := by decide +kernel
theorem dX8_renew_19 : decode cX8_renew 19 = .ok (.invokevirtual 66, 3) := by decide +kernel
theorem dX8_renew_22 : decode cX8_renew 22 = .ok (.aload_n 0, 1) := by decide +kernel
theorem dX8_renew_23 : decode cX8_renew 23 = .ok (.getfield 59, 3) := by decide +kernel
theorem dX8_renew_26 : decode cX8_renew 26 = .ok (.iconst 0, 1) := by decide +kernel
theorem dX8_renew_27 : decode cX8_renew 27 = .ok (.invokevirtual 66, 3) := by decide +kernel
theorem dX8_renew_30 : decode cX8_renew 30 = .ok (.return_, 1) := by decide +kernel
theorem dX8_become_0 : decode cX8_become 0 = .ok (.aload_n 0, 1) := by decide +kernel
theorem dX8_become_1 : decode cX8_become 1 = .ok (.getfield 12, 3) := by decide +kernel
theorem dX8_become_4 : decode cX8_become 4 = .ok (.aload_n 1, 1) := by decide +kernel
theorem dX8_become_5 : decode cX8_become 5 = .ok (.getfield 12, 3) := by decide +kernel
theorem dX8_become_8 : decode cX8_become 8 = .ok (.invokevirtual 69, 3) := by decide +kernel
theorem dX8_become_11 : decode cX8_become 11 = .ok (.aload_n 0, 1) := by decide +kernel
theorem dX8_become_12 : decode cX8_become 12 = .ok (.getfield 21, 3) := by decide +kernel
theorem dX8_become_15 : decode cX8_become 15 = .ok (.aload_n 1, 1) := by decide +kernel
theorem dX8_become_16 : decode cX8_become 16 = .ok (.getfield 21, 3) := by decide +kernel
theorem dX8_become_19 : decode cX8_become 19 = .ok (.invokevirtual 73, 3) := by decide +kernel
theorem dX8_become_22 : decode cX8_become 22 = .ok (.aload_n 0, 1) := by decide +kernel
theorem dX8_become_23 : decode cX8_become 23 = .ok (.getfield 28, 3) := by decide +kernel
theorem dX8_become_26 : decode cX8_become 26 = .ok (.aload_n 1, 1) := by decide +kernel
theorem dX8_become_27 : decode cX8_become 27 = .ok (.getfield 28, 3) := by decide +kernel
theorem dX8_become_30 : decode cX8_become 30 = .ok (.invokevirtual 76, 3) := by decide +kernel
theorem dX8_become_33 : decode cX8_become 33 = .ok (.aload_n 0, 1) := by decide +kernel
theorem dX8_become_34 : decode cX8_become 34 = .ok (.aload_n 1, 1) := by decide +kernel
theorem dX8_become_35 : decode cX8_become 35 = .ok (.getfield 39, 3) := by decide +kernel
theorem dX8_become_38 : decode cX8_become 38 = .ok (.putfield 39, 3) := by decide +kernel
theorem dX8_become_41 : decode cX8_become 41 = .ok (.iconst 0, 1) := by decide +kernel
theorem dX8_become_42 : decode cX8_become 42 = .ok (.istore_n 2, 1) := by decide +kernel
theorem dX8_become_43 : decode cX8_become 43 = .ok (.iload_n 2, 1) := by decide +kernel
theorem dX8_become_44 : decode cX8_become 44 = .ok (.aload_n 0, 1) := by decide +kernel
theorem dX8_become_45 : decode cX8_become 45 = .ok (.getfield 39, 3) := by decide +kernel
theorem dX8_become_48 : decode cX8_become 48 = .ok (.if_icmp .ge 37, 3) := by decide +kernel
theorem dX8_become_51 : decode cX8_become 51 = .ok (.aload_n 0, 1) := by decide +kernel
theorem dX8_become_52 : decode cX8_become 52 = .ok (.iload_n 2, 1) := by decide +kernel
theorem dX8_become_53 : decode cX8_become 53 = .ok (.invokevirtual 79, 3) := by decide +kernel
theorem dX8_become_56 : decode cX8_become 56 = .ok (.astore_n 3, 1) := by decide +kernel
theorem dX8_become_57 : decode cX8_become 57 = .ok (.aload_n 1, 1) := by decide +kernel
theorem dX8_become_58 : decode cX8_become 58 = .ok (.iload_n 2, 1) := by decide +kernel
theorem dX8_become_59 : decode cX8_become 59 = .ok (.invokevirtual 79, 3) := by decide +kernel
theorem dX8_become_62 : decode cX8_become 62 = .ok (.astore 4, 2) := by decide +kernel
theorem dX8_become_64 : decode cX8_become 64 = .ok (.aload_n 3, 1) := by decide +kernel
theorem dX8_become_65 : decode cX8_become 65 = .ok (.ifnull 14, 3) := by decide +kernel
theorem dX8_become_68 : decode cX8_become 68 = .ok (.aload 4, 2) := by decide +kernel
theorem dX8_become_70 : decode cX8_become 70 = .ok (.ifnull 9, 3) := by decide +kernel
theorem dX8_become_73 : decode cX8_become 73 = .ok (.aload_n 3, 1) := by decide +kernel
theorem dX8_become_74 : decode cX8_become 74 = .ok (.aload 4, 2) := by decide +kernel
theorem dX8_become_76 : decode cX8_become 76 = .ok (.invokevirtual 83, 3) := by decide +kernel
theorem dX8_become_79 : decode cX8_become 79 = .ok (.iinc 2 1, 3) := by decide +kernel
theorem dX8_become_82 : decode cX8_become 82 = .ok (.goto (-39), 3) := by decide +kernel
theorem dX8_become_85 : decode cX8_become 85 = .ok (.iconst 0, 1) := by decide +kernel
theorem dX8_become_86 : decode cX8_become 86 = .ok (.istore_n 2, 1) := by decide +kernel
theorem dX8_become_87 : decode cX8_become 87 = .ok (.iload_n 2, 1) := by decide +kernel
theorem dX8_become_88 : decode cX8_become 88 = .ok (.bipush 6, 2) := by decide +kernel
theorem dX8_become_90 : decode cX8_become 90 = .ok (.if_icmp .ge 37, 3) := by decide +kernel
theorem dX8_become_93 : decode cX8_become 93 = .ok (.aload_n 0, 1) := by decide +kernel
theorem dX8_become_94 : decode cX8_become 94 = .ok (.iload_n 2, 1) := by decide +kernel
theorem dX8_become_95 : decode cX8_become 95 = .ok (.invokevirtual 86, 3) := by decide +kernel
theorem dX8_become_98 : decode cX8_become 98 = .ok (.astore_n 3, 1) := by decide +kernel
theorem dX8_become_99 : decode cX8_become 99 = .ok (.aload_n 1, 1) := by decide +kernel
theorem dX8_become_100 : decode cX8_become 100 = .ok (.iload_n 2, 1) := by decide +kernel
theorem dX8_become_101 : decode cX8_become 101 = .ok (.invokevirtual 86, 3) := by decide +kernel
theorem dX8_become_104 : decode cX8_become 104 = .ok (.astore 4, 2) := by decide +kernel
theorem dX8_become_106 : decode cX8_become 106 = .ok (.aload_n 3, 1) := by decide +kernel
theorem dX8_become_107 : decode cX8_become 107 = .ok (.ifnull 14, 3) := by decide +kernel
theorem dX8_become_110 : decode cX8_become 110 = .ok (.aload 4, 2) := by decide +kernel
theorem dX8_become_112 : decode cX8_become 112 = .ok (.ifnull 9, 3) := by decide +kernel
theorem dX8_become_115 : decode cX8_become 115 = .ok (.aload_n 3, 1) := by decide +kernel
theorem dX8_become_116 : decode cX8_become 116 = .ok (.aload 4, 2) := by decide +kernel
theorem dX8_become_118 : decode cX8_become 118 = .ok (.invokevirtual 90, 3) := by decide +kernel
theorem dX8_become_121 : decode cX8_become 121 = .ok (.iinc 2 1, 3) := by decide +kernel
theorem dX8_become_124 : decode cX8_become 124 = .ok (.goto (-37), 3) := by decide +kernel
theorem dX8_become_127 : decode cX8_become 127 = .ok (.aload_n 0, 1) := by decide +kernel
theorem dX8_become_128 : decode cX8_become 128 = .ok (.getfield 55, 3) := by decide +kernel
theorem dX8_become_131 : decode cX8_become 131 = .ok (.aload_n 1, 1) := by decide +kernel
theorem dX8_become_132 : decode cX8_become 132 = .ok (.getfield 55, 3) := by decide +kernel
theorem dX8_become_135 : decode cX8_become 135 = .ok (.invokevirtual 93, 3) := by decide +kernel
theorem dX8_become_138 : decode cX8_become 138 = .ok (.aload_n 0, 1) := by decide +kernel
theorem dX8_become_139 : decode cX8_become 139 = .ok (.getfield 59, 3) := by decide +kernel
theorem dX8_become_142 : decode cX8_become 142 = .ok (.aload_n 1, 1) := by decide +kernel
theorem dX8_become_143 : decode cX8_become 143 = .ok (.getfield 59, 3) := by decide +kernel
theorem dX8_become_146 : decode cX8_become 146 = .ok (.invokevirtual 93, 3) := by decide +kernel
theorem dX8_become_149 : decode cX8_become 149 = .ok (.return_, 1) := by decide +kernel
theorem dX8_worker_0 : decode cX8_worker 0 = .ok (.iload_n 1, 1) := by decide +kernel
theorem dX8_worker_1 : decode cX8_worker 1 = .ok (.ifCond .lt 29, 3) := by decide +kernel
theorem dX8_worker_4 : decode cX8_worker 4 = .ok (.iload_n 1, 1) := by decide +kernel
theorem dX8_worker_5 : decode cX8_worker 5 = .ok (.aload_n 0, 1) := by decide +kernel
theorem dX8_worker_6 : decode cX8_worker 6 = .ok (.getfield 39, 3) := by decide +kernel
theorem dX8_worker_9 : decode cX8_worker 9 = .ok (.if_icmp .ge 21, 3) := by decide +kernel
theorem dX8_worker_12 : decode cX8_worker 12 = .ok (.iload_n 1, 1) := by decide +kernel
theorem dX8_worker_13 : decode cX8_worker 13 = .ok (.aload_n 0, 1) := by decide +kernel
theorem dX8_worker_14 : decode cX8_worker 14 = .ok (.getfield 34, 3) := by decide +kernel
theorem dX8_worker_17 : decode cX8_worker 17 = .ok (.arraylength, 1) := by decide +kernel
theorem dX8_worker_18 : decode cX8_worker 18 = .ok (.if_icmp .ge 12, 3) := by decide +kernel
theorem dX8_worker_21 : decode cX8_worker 21 = .ok (.aload_n 0, 1) := by decide +kernel
theorem dX8_worker_22 : decode cX8_worker 22 = .ok (.getfield 34, 3) := by decide +kernel
theorem dX8_worker_25 : decode cX8_worker 25 = .ok (.iload_n 1, 1) := by decide +kernel
theorem dX8_worker_26 : decode cX8_worker 26 = .ok (.aaload, 1) := by decide +kernel
theorem dX8_worker_27 : decode cX8_worker 27 = .ok (.goto 4, 3) := by decide +kernel
theorem dX8_worker_30 : decode cX8_worker 30 = .ok (.aconst_null, 1) := by decide +kernel
theorem dX8_worker_31 : decode cX8_worker 31 = .ok (.areturn, 1) := by decide +kernel
theorem dX8_script_0 : decode cX8_script 0 = .ok (.iload_n 1, 1) := by decide +kernel
theorem dX8_script_1 : decode cX8_script 1 = .ok (.ifCond .lt 21, 3) := by decide +kernel
theorem dX8_script_4 : decode cX8_script 4 = .ok (.iload_n 1, 1) := by decide +kernel
theorem dX8_script_5 : decode cX8_script 5 = .ok (.aload_n 0, 1) := by decide +kernel
theorem dX8_script_6 : decode cX8_script 6 = .ok (.getfield 45, 3) := by decide +kernel
theorem dX8_script_9 : decode cX8_script 9 = .ok (.arraylength, 1) := by decide +kernel
theorem dX8_script_10 : decode cX8_script 10 = .ok (.if_icmp .ge 12, 3) := by decide +kernel
theorem dX8_script_13 : decode cX8_script 13 = .ok (.aload_n 0, 1) := by decide +kernel
theorem dX8_script_14 : decode cX8_script 14 = .ok (.getfield 45, 3) := by decide +kernel
theorem dX8_script_17 : decode cX8_script 17 = .ok (.iload_n 1, 1) := by decide +kernel
theorem dX8_script_18 : decode cX8_script 18 = .ok (.aaload, 1) := by decide +kernel
theorem dX8_script_19 : decode cX8_script 19 = .ok (.goto 4, 3) := by decide +kernel
theorem dX8_script_22 : decode cX8_script 22 = .ok (.aconst_null, 1) := by decide +kernel
theorem dX8_script_23 : decode cX8_script 23 = .ok (.areturn, 1) := by decide +kernel
theorem dX8_machineOn_0 : decode cX8_machineOn 0 = .ok (.iconst 0, 1) := by decide +kernel
theorem dX8_machineOn_1 : decode cX8_machineOn 1 = .ok (.istore_n 2, 1) := by decide +kernel
theorem dX8_machineOn_2 : decode cX8_machineOn 2 = .ok (.iload_n 2, 1) := by decide +kernel
theorem dX8_machineOn_3 : decode cX8_machineOn 3 = .ok (.aload_n 0, 1) := by decide +kernel
theorem dX8_machineOn_4 : decode cX8_machineOn 4 = .ok (.getfield 39, 3) := by decide +kernel
theorem dX8_machineOn_7 : decode cX8_machineOn 7 = .ok (.if_icmp .ge 29, 3) := by decide +kernel
theorem dX8_machineOn_10 : decode cX8_machineOn 10 = .ok (.aload_n 0, 1) := by decide +kernel
theorem dX8_machineOn_11 : decode cX8_machineOn 11 = .ok (.iload_n 2, 1) := by decide +kernel
theorem dX8_machineOn_12 : decode cX8_machineOn 12 = .ok (.invokevirtual 79, 3) := by decide +kernel
theorem dX8_machineOn_15 : decode cX8_machineOn 15 = .ok (.astore_n 3, 1) := by decide +kernel
theorem dX8_machineOn_16 : decode cX8_machineOn 16 = .ok (.aload_n 3, 1) := by decide +kernel
theorem dX8_machineOn_17 : decode cX8_machineOn 17 = .ok (.ifnull 13, 3) := by decide +kernel
theorem dX8_machineOn_20 : decode cX8_machineOn 20 = .ok (.aload_n 3, 1) := by decide +kernel
theorem dX8_machineOn_21 : decode cX8_machineOn 21 = .ok (.getfield 96, 3) := by decide +kernel
theorem dX8_machineOn_24 : decode cX8_machineOn 24 = .ok (.iload_n 1, 1) := by decide +kernel
theorem dX8_machineOn_25 : decode cX8_machineOn 25 = .ok (.if_icmp .ne 5, 3) := by decide +kernel
theorem dX8_machineOn_28 : decode cX8_machineOn 28 = .ok (.iload_n 2, 1) := by decide +kernel
theorem dX8_machineOn_29 : decode cX8_machineOn 29 = .ok (.ireturn, 1) := by decide +kernel
theorem dX8_machineOn_30 : decode cX8_machineOn 30 = .ok (.iinc 2 1, 3) := by decide +kernel
theorem dX8_machineOn_33 : decode cX8_machineOn 33 = .ok (.goto (-31), 3) := by decide +kernel
theorem dX8_machineOn_36 : decode cX8_machineOn 36 = .ok (.iconst (-1), 1) := by decide +kernel
theorem dX8_machineOn_37 : decode cX8_machineOn 37 = .ok (.ireturn, 1) := by decide +kernel
theorem dX8_addMachine_0 : decode cX8_addMachine 0 = .ok (.aload_n 0, 1) := by decide +kernel
theorem dX8_addMachine_1 : decode cX8_addMachine 1 = .ok (.dup, 1) := by decide +kernel
theorem dX8_addMachine_2 : decode cX8_addMachine 2 = .ok (.getfield 39, 3) := by decide +kernel
theorem dX8_addMachine_5 : decode cX8_addMachine 5 = .ok (.iconst 1, 1) := by decide +kernel
theorem dX8_addMachine_6 : decode cX8_addMachine 6 = .ok (.iadd, 1) := by decide +kernel
theorem dX8_addMachine_7 : decode cX8_addMachine 7 = .ok (.putfield 39, 3) := by decide +kernel
theorem dX8_addMachine_10 : decode cX8_addMachine 10 = .ok (.aload_n 0, 1) := by decide +kernel
theorem dX8_addMachine_11 : decode cX8_addMachine 11 = .ok (.aload_n 0, 1) := by decide +kernel
theorem dX8_addMachine_12 : decode cX8_addMachine 12 = .ok (.getfield 39, 3) := by decide +kernel
theorem dX8_addMachine_15 : decode cX8_addMachine 15 = .ok (.iconst 1, 1) := by decide +kernel
theorem dX8_addMachine_16 : decode cX8_addMachine 16 = .ok (.isub, 1) := by decide +kernel
theorem dX8_addMachine_17 : decode cX8_addMachine 17 = .ok (.invokevirtual 79, 3) := by decide +kernel
theorem dX8_addMachine_20 : decode cX8_addMachine 20 = .ok (.astore_n 3, 1) := by decide +kernel
theorem dX8_addMachine_21 : decode cX8_addMachine 21 = .ok (.aload_n 3, 1) := by decide +kernel
theorem dX8_addMachine_22 : decode cX8_addMachine 22 = .ok (.ifnull 9, 3) := by decide +kernel
theorem dX8_addMachine_25 : decode cX8_addMachine 25 = .ok (.aload_n 3, 1) := by decide +kernel
theorem dX8_addMachine_26 : decode cX8_addMachine 26 = .ok (.iload_n 1, 1) := by decide +kernel
theorem dX8_addMachine_27 : decode cX8_addMachine 27 = .ok (.iload_n 2, 1) := by decide +kernel
theorem dX8_addMachine_28 : decode cX8_addMachine 28 = .ok (.invokevirtual 99, 3) := by decide +kernel
theorem dX8_addMachine_31 : decode cX8_addMachine 31 = .ok (.aload_n 0, 1) := by decide +kernel
theorem dX8_addMachine_32 : decode cX8_addMachine 32 = .ok (.getfield 39, 3) := by decide +kernel
theorem dX8_addMachine_35 : decode cX8_addMachine 35 = .ok (.iconst 1, 1) := by decide +kernel
theorem dX8_addMachine_36 : decode cX8_addMachine 36 = .ok (.isub, 1) := by decide +kernel
theorem dX8_addMachine_37 : decode cX8_addMachine 37 = .ok (.ireturn, 1) := by decide +kernel
theorem dX8_endScript_0 : decode cX8_endScript 0 = .ok (.iconst 0, 1) := by decide +kernel
theorem dX8_endScript_1 : decode cX8_endScript 1 = .ok (.istore_n 2, 1) := by decide +kernel
theorem dX8_endScript_2 : decode cX8_endScript 2 = .ok (.iload_n 2, 1) := by decide +kernel
theorem dX8_endScript_3 : decode cX8_endScript 3 = .ok (.aload_n 0, 1) := by decide +kernel
theorem dX8_endScript_4 : decode cX8_endScript 4 = .ok (.getfield 39, 3) := by decide +kernel
theorem dX8_endScript_7 : decode cX8_endScript 7 = .ok (.if_icmp .ge 32, 3) := by decide +kernel
theorem dX8_endScript_10 : decode cX8_endScript 10 = .ok (.aload_n 0, 1) := by decide +kernel
theorem dX8_endScript_11 : decode cX8_endScript 11 = .ok (.iload_n 2, 1) := by decide +kernel
theorem dX8_endScript_12 : decode cX8_endScript 12 = .ok (.invokevirtual 79, 3) := by decide +kernel
theorem dX8_endScript_15 : decode cX8_endScript 15 = .ok (.astore_n 3, 1) := by decide +kernel
theorem dX8_endScript_16 : decode cX8_endScript 16 = .ok (.aload_n 3, 1) := by decide +kernel
theorem dX8_endScript_17 : decode cX8_endScript 17 = .ok (.ifnull 16, 3) := by decide +kernel
theorem dX8_endScript_20 : decode cX8_endScript 20 = .ok (.aload_n 3, 1) := by decide +kernel
theorem dX8_endScript_21 : decode cX8_endScript 21 = .ok (.getfield 100, 3) := by decide +kernel
theorem dX8_endScript_24 : decode cX8_endScript 24 = .ok (.iload_n 1, 1) := by decide +kernel
theorem dX8_endScript_25 : decode cX8_endScript 25 = .ok (.if_icmp .ne 8, 3) := by decide +kernel
theorem dX8_endScript_28 : decode cX8_endScript 28 = .ok (.aload_n 3, 1) := by decide +kernel
theorem dX8_endScript_29 : decode cX8_endScript 29 = .ok (.iconst (-1), 1) := by decide +kernel
theorem dX8_endScript_30 : decode cX8_endScript 30 = .ok (.invokevirtual 102, 3) := by decide +kernel
theorem dX8_endScript_33 : decode cX8_endScript 33 = .ok (.iinc 2 1, 3) := by decide +kernel
theorem dX8_endScript_36 : decode cX8_endScript 36 = .ok (.goto (-34), 3) := by decide +kernel
theorem dX8_endScript_39 : decode cX8_endScript 39 = .ok (.return_, 1) := by decide +kernel
theorem dX8_scriptsTold_0 : decode cX8_scriptsTold 0 = .ok (.iconst 0, 1) := by decide +kernel
theorem dX8_scriptsTold_1 : decode cX8_scriptsTold 1 = .ok (.istore_n 1, 1) := by decide +kernel
theorem dX8_scriptsTold_2 : decode cX8_scriptsTold 2 = .ok (.iconst 0, 1) := by decide +kernel
theorem dX8_scriptsTold_3 : decode cX8_scriptsTold 3 = .ok (.istore_n 2, 1) := by decide +kernel
theorem dX8_scriptsTold_4 : decode cX8_scriptsTold 4 = .ok (.iload_n 2, 1) := by decide +kernel
theorem dX8_scriptsTold_5 : decode cX8_scriptsTold 5 = .ok (.bipush 6, 2) := by decide +kernel
theorem dX8_scriptsTold_7 : decode cX8_scriptsTold 7 = .ok (.if_icmp .ge 29, 3) := by decide +kernel
theorem dX8_scriptsTold_10 : decode cX8_scriptsTold 10 = .ok (.aload_n 0, 1) := by decide +kernel
theorem dX8_scriptsTold_11 : decode cX8_scriptsTold 11 = .ok (.iload_n 2, 1) := by decide +kernel
theorem dX8_scriptsTold_12 : decode cX8_scriptsTold 12 = .ok (.invokevirtual 86, 3) := by decide +kernel
theorem dX8_scriptsTold_15 : decode cX8_scriptsTold 15 = .ok (.astore_n 3, 1) := by decide +kernel
theorem dX8_scriptsTold_16 : decode cX8_scriptsTold 16 = .ok (.aload_n 3, 1) := by decide +kernel
theorem dX8_scriptsTold_17 : decode cX8_scriptsTold 17 = .ok (.ifnull 13, 3) := by decide +kernel
theorem dX8_scriptsTold_20 : decode cX8_scriptsTold 20 = .ok (.aload_n 3, 1) := by decide +kernel
theorem dX8_scriptsTold_21 : decode cX8_scriptsTold 21 = .ok (.invokevirtual 105, 3) := by decide +kernel
theorem dX8_scriptsTold_24 : decode cX8_scriptsTold 24 = .ok (.ifCond .ne 6, 3) := by decide +kernel
theorem dX8_scriptsTold_27 : decode cX8_scriptsTold 27 = .ok (.iinc 1 1, 3) := by decide +kernel
theorem dX8_scriptsTold_30 : decode cX8_scriptsTold 30 = .ok (.iinc 2 1, 3) := by decide +kernel
theorem dX8_scriptsTold_33 : decode cX8_scriptsTold 33 = .ok (.goto (-29), 3) := by decide +kernel
theorem dX8_scriptsTold_36 : decode cX8_scriptsTold 36 = .ok (.iload_n 1, 1) := by decide +kernel
theorem dX8_scriptsTold_37 : decode cX8_scriptsTold 37 = .ok (.ireturn, 1) := by decide +kernel
theorem dX8_ordersOnWay_0 : decode cX8_ordersOnWay 0 = .ok (.aload_n 0, 1) := by decide +kernel
theorem dX8_ordersOnWay_1 : decode cX8_ordersOnWay 1 = .ok (.getfield 55, 3) := by decide +kernel
theorem dX8_ordersOnWay_4 : decode cX8_ordersOnWay 4 = .ok (.invokevirtual 109, 3) := by decide +kernel
theorem dX8_ordersOnWay_7 : decode cX8_ordersOnWay 7 = .ok (.iconst 3, 1) := by decide +kernel
theorem dX8_ordersOnWay_8 : decode cX8_ordersOnWay 8 = .ok (.idiv, 1) := by decide +kernel
theorem dX8_ordersOnWay_9 : decode cX8_ordersOnWay 9 = .ok (.ireturn, 1) := by decide +kernel
theorem dX8_reportsOnWay_0 : decode cX8_reportsOnWay 0 = .ok (.aload_n 0, 1) := by decide +kernel
theorem dX8_reportsOnWay_1 : decode cX8_reportsOnWay 1 = .ok (.getfield 59, 3) := by decide +kernel
theorem dX8_reportsOnWay_4 : decode cX8_reportsOnWay 4 = .ok (.invokevirtual 109, 3) := by decide +kernel
theorem dX8_reportsOnWay_7 : decode cX8_reportsOnWay 7 = .ok (.bipush 6, 2) := by decide +kernel
theorem dX8_reportsOnWay_9 : decode cX8_reportsOnWay 9 = .ok (.idiv, 1) := by decide +kernel
theorem dX8_reportsOnWay_10 : decode cX8_reportsOnWay 10 = .ok (.ireturn, 1) := by decide +kernel
theorem dX8_addOrder_0 : decode cX8_addOrder 0 = .ok (.aload_n 0, 1) := by decide +kernel
theorem dX8_addOrder_1 : decode cX8_addOrder 1 = .ok (.getfield 21, 3) := by decide +kernel
theorem dX8_addOrder_4 : decode cX8_addOrder 4 = .ok (.getfield 113, 3) := by decide +kernel
theorem dX8_addOrder_7 : decode cX8_addOrder 7 = .ok (.aload_n 0, 1) := by decide +kernel
theorem dX8_addOrder_8 : decode cX8_addOrder 8 = .ok (.getfield 21, 3) := by decide +kernel
theorem dX8_addOrder_11 : decode cX8_addOrder 11 = .ok (.getfield 116, 3) := by decide +kernel
theorem dX8_addOrder_14 : decode cX8_addOrder 14 = .ok (.iadd, 1) := by decide +kernel
theorem dX8_addOrder_15 : decode cX8_addOrder 15 = .ok (.istore_n 3, 1) := by decide +kernel
theorem dX8_addOrder_16 : decode cX8_addOrder 16 = .ok (.aload_n 0, 1) := by decide +kernel
theorem dX8_addOrder_17 : decode cX8_addOrder 17 = .ok (.getfield 55, 3) := by decide +kernel
theorem dX8_addOrder_20 : decode cX8_addOrder 20 = .ok (.iload_n 1, 1) := by decide +kernel
theorem dX8_addOrder_21 : decode cX8_addOrder 21 = .ok (.invokevirtual 119, 3) := by decide +kernel
theorem dX8_addOrder_24 : decode cX8_addOrder 24 = .ok (.pop, 1) := by decide +kernel
theorem dX8_addOrder_25 : decode cX8_addOrder 25 = .ok (.aload_n 0, 1) := by decide +kernel
theorem dX8_addOrder_26 : decode cX8_addOrder 26 = .ok (.getfield 55, 3) := by decide +kernel
theorem dX8_addOrder_29 : decode cX8_addOrder 29 = .ok (.iload_n 2, 1) := by decide +kernel
theorem dX8_addOrder_30 : decode cX8_addOrder 30 = .ok (.invokevirtual 119, 3) := by decide +kernel
theorem dX8_addOrder_33 : decode cX8_addOrder 33 = .ok (.pop, 1) := by decide +kernel
theorem dX8_addOrder_34 : decode cX8_addOrder 34 = .ok (.aload_n 0, 1) := by decide +kernel
theorem dX8_addOrder_35 : decode cX8_addOrder 35 = .ok (.getfield 55, 3) := by decide +kernel
theorem dX8_addOrder_38 : decode cX8_addOrder 38 = .ok (.iload_n 3, 1) := by decide +kernel
theorem dX8_addOrder_39 : decode cX8_addOrder 39 = .ok (.invokevirtual 119, 3) := by decide +kernel
theorem dX8_addOrder_42 : decode cX8_addOrder 42 = .ok (.pop, 1) := by decide +kernel
theorem dX8_addOrder_43 : decode cX8_addOrder 43 = .ok (.iload_n 3, 1) := by decide +kernel
theorem dX8_addOrder_44 : decode cX8_addOrder 44 = .ok (.ireturn, 1) := by decide +kernel
theorem dX8_dustCarried_0 : decode cX8_dustCarried 0 = .ok (.iconst 0, 1) := by decide +kernel
theorem dX8_dustCarried_1 : decode cX8_dustCarried 1 = .ok (.istore_n 1, 1) := by decide +kernel
theorem dX8_dustCarried_2 : decode cX8_dustCarried 2 = .ok (.iconst 0, 1) := by decide +kernel
theorem dX8_dustCarried_3 : decode cX8_dustCarried 3 = .ok (.istore_n 2, 1) := by decide +kernel
theorem dX8_dustCarried_4 : decode cX8_dustCarried 4 = .ok (.iload_n 2, 1) := by decide +kernel
theorem dX8_dustCarried_5 : decode cX8_dustCarried 5 = .ok (.aload_n 0, 1) := by decide +kernel
theorem dX8_dustCarried_6 : decode cX8_dustCarried 6 = .ok (.getfield 39, 3) := by decide +kernel
theorem dX8_dustCarried_9 : decode cX8_dustCarried 9 = .ok (.if_icmp .ge 33, 3) := by decide +kernel
theorem dX8_dustCarried_12 : decode cX8_dustCarried 12 = .ok (.aload_n 0, 1) := by decide +kernel
theorem dX8_dustCarried_13 : decode cX8_dustCarried 13 = .ok (.iload_n 2, 1) := by decide +kernel
theorem dX8_dustCarried_14 : decode cX8_dustCarried 14 = .ok (.invokevirtual 79, 3) := by decide +kernel
theorem dX8_dustCarried_17 : decode cX8_dustCarried 17 = .ok (.astore_n 3, 1) := by decide +kernel
theorem dX8_dustCarried_18 : decode cX8_dustCarried 18 = .ok (.aload_n 3, 1) := by decide +kernel
theorem dX8_dustCarried_19 : decode cX8_dustCarried 19 = .ok (.ifnull 17, 3) := by decide +kernel
theorem dX8_dustCarried_22 : decode cX8_dustCarried 22 = .ok (.aload_n 3, 1) := by decide +kernel
theorem dX8_dustCarried_23 : decode cX8_dustCarried 23 = .ok (.getfield 123, 3) := by decide +kernel
theorem dX8_dustCarried_26 : decode cX8_dustCarried 26 = .ok (.ifCond .ne 10, 3) := by decide +kernel
theorem dX8_dustCarried_29 : decode cX8_dustCarried 29 = .ok (.iload_n 1, 1) := by decide +kernel
theorem dX8_dustCarried_30 : decode cX8_dustCarried 30 = .ok (.aload_n 3, 1) := by decide +kernel
theorem dX8_dustCarried_31 : decode cX8_dustCarried 31 = .ok (.getfield 126, 3) := by decide +kernel
theorem dX8_dustCarried_34 : decode cX8_dustCarried 34 = .ok (.iadd, 1) := by decide +kernel
theorem dX8_dustCarried_35 : decode cX8_dustCarried 35 = .ok (.istore_n 1, 1) := by decide +kernel
theorem dX8_dustCarried_36 : decode cX8_dustCarried 36 = .ok (.iinc 2 1, 3) := by decide +kernel
theorem dX8_dustCarried_39 : decode cX8_dustCarried 39 = .ok (.goto (-35), 3) := by decide +kernel
theorem dX8_dustCarried_42 : decode cX8_dustCarried 42 = .ok (.iload_n 1, 1) := by decide +kernel
theorem dX8_dustCarried_43 : decode cX8_dustCarried 43 = .ok (.ireturn, 1) := by decide +kernel
theorem dX8_shake_0 : decode cX8_shake 0 = .ok (.iconst 0, 1) := by decide +kernel
theorem dX8_shake_1 : decode cX8_shake 1 = .ok (.istore_n 2, 1) := by decide +kernel
theorem dX8_shake_2 : decode cX8_shake 2 = .ok (.iconst 0, 1) := by decide +kernel
theorem dX8_shake_3 : decode cX8_shake 3 = .ok (.istore_n 3, 1) := by decide +kernel
theorem dX8_shake_4 : decode cX8_shake 4 = .ok (.iload_n 3, 1) := by decide +kernel
theorem dX8_shake_5 : decode cX8_shake 5 = .ok (.aload_n 0, 1) := by decide +kernel
theorem dX8_shake_6 : decode cX8_shake 6 = .ok (.getfield 39, 3) := by decide +kernel
theorem dX8_shake_9 : decode cX8_shake 9 = .ok (.if_icmp .ge 64, 3) := by decide +kernel
theorem dX8_shake_12 : decode cX8_shake 12 = .ok (.aload_n 0, 1) := by decide +kernel
theorem dX8_shake_13 : decode cX8_shake 13 = .ok (.iload_n 3, 1) := by decide +kernel
theorem dX8_shake_14 : decode cX8_shake 14 = .ok (.invokevirtual 79, 3) := by decide +kernel
theorem dX8_shake_17 : decode cX8_shake 17 = .ok (.astore 4, 2) := by decide +kernel
theorem dX8_shake_19 : decode cX8_shake 19 = .ok (.aload 4, 2) := by decide +kernel
theorem dX8_shake_21 : decode cX8_shake 21 = .ok (.ifnull 46, 3) := by decide +kernel
theorem dX8_shake_24 : decode cX8_shake 24 = .ok (.aload_n 0, 1) := by decide +kernel
theorem dX8_shake_25 : decode cX8_shake 25 = .ok (.getfield 12, 3) := by decide +kernel
theorem dX8_shake_28 : decode cX8_shake 28 = .ok (.aload 4, 2) := by decide +kernel
theorem dX8_shake_30 : decode cX8_shake 30 = .ok (.getfield 96, 3) := by decide +kernel
theorem dX8_shake_33 : decode cX8_shake 33 = .ok (.iload_n 1, 1) := by decide +kernel
theorem dX8_shake_34 : decode cX8_shake 34 = .ok (.invokevirtual 129, 3) := by decide +kernel
theorem dX8_shake_37 : decode cX8_shake 37 = .ok (.iconst 3, 1) := by decide +kernel
theorem dX8_shake_38 : decode cX8_shake 38 = .ok (.if_icmp .ge 29, 3) := by decide +kernel
theorem dX8_shake_41 : decode cX8_shake 41 = .ok (.iload_n 2, 1) := by decide +kernel
theorem dX8_shake_42 : decode cX8_shake 42 = .ok (.aload 4, 2) := by decide +kernel
theorem dX8_shake_44 : decode cX8_shake 44 = .ok (.bipush 20, 2) := by decide +kernel
theorem dX8_shake_46 : decode cX8_shake 46 = .ok (.iconst 5, 1) := by decide +kernel
theorem dX8_shake_47 : decode cX8_shake 47 = .ok (.aload_n 0, 1) := by decide +kernel
theorem dX8_shake_48 : decode cX8_shake 48 = .ok (.getfield 12, 3) := by decide +kernel
theorem dX8_shake_51 : decode cX8_shake 51 = .ok (.aload 4, 2) := by decide +kernel
theorem dX8_shake_53 : decode cX8_shake 53 = .ok (.getfield 96, 3) := by decide +kernel
theorem dX8_shake_56 : decode cX8_shake 56 = .ok (.iload_n 1, 1) := by decide +kernel
theorem dX8_shake_57 : decode cX8_shake 57 = .ok (.invokevirtual 129, 3) := by decide +kernel
theorem dX8_shake_60 : decode cX8_shake 60 = .ok (.imul, 1) := by decide +kernel
theorem dX8_shake_61 : decode cX8_shake 61 = .ok (.isub, 1) := by decide +kernel
theorem dX8_shake_62 : decode cX8_shake 62 = .ok (.invokevirtual 133, 3) := by decide +kernel
theorem dX8_shake_65 : decode cX8_shake 65 = .ok (.iadd, 1) := by decide +kernel
theorem dX8_shake_66 : decode cX8_shake 66 = .ok (.istore_n 2, 1) := by decide +kernel
theorem dX8_shake_67 : decode cX8_shake 67 = .ok (.iinc 3 1, 3) := by decide +kernel
theorem dX8_shake_70 : decode cX8_shake 70 = .ok (.goto (-66), 3) := by decide +kernel
theorem dX8_shake_73 : decode cX8_shake 73 = .ok (.iload_n 2, 1) := by decide +kernel
theorem dX8_shake_74 : decode cX8_shake 74 = .ok (.ireturn, 1) := by decide +kernel
theorem dX9_init_0 : decode cX9_init 0 = .ok (.aload_n 0, 1) := by decide +kernel
theorem dX9_init_1 : decode cX9_init 1 = .ok (.invokespecial 3, 3) := by decide +kernel
theorem dX9_init_4 : decode cX9_init 4 = .ok (.aload_n 0, 1) := by decide +kernel
theorem dX9_init_5 : decode cX9_init 5 = .ok (.aload_n 1, 1) := by decide +kernel
theorem dX9_init_6 : decode cX9_init 6 = .ok (.putfield 9, 3) := by decide +kernel
theorem dX9_init_9 : decode cX9_init 9 = .ok (.aload_n 0, 1) := by decide +kernel
theorem dX9_init_10 : decode cX9_init 10 = .ok (.new 15, 3) := by decide +kernel
theorem dX9_init_13 : decode cX9_init 13 = .ok (.dup, 1) := by decide +kernel
theorem dX9_init_14 : decode cX9_init 14 = .ok (.bipush 97, 2) := by decide +kernel
theorem dX9_init_16 : decode cX9_init 16 = .ok (.invokespecial 17, 3) := by decide +kernel
theorem dX9_init_19 : decode cX9_init 19 = .ok (.putfield 20, 3) := by decide +kernel
theorem dX9_init_22 : decode cX9_init 22 = .ok (.aload_n 0, 1) := by decide +kernel
theorem dX9_init_23 : decode cX9_init 23 = .ok (.new 15, 3) := by decide +kernel
theorem dX9_init_26 : decode cX9_init 26 = .ok (.dup, 1) := by decide +kernel
theorem dX9_init_27 : decode cX9_init 27 = .ok (.bipush 97, 2) := by decide +kernel
theorem dX9_init_29 : decode cX9_init 29 = .ok (.invokespecial 17, 3) := by decide +kernel
theorem dX9_init_32 : decode cX9_init 32 = .ok (.putfield 23, 3) := by decide +kernel
theorem dX9_init_35 : decode cX9_init 35 = .ok (.aload_n 0, 1) := by decide +kernel
theorem dX9_init_36 : decode cX9_init 36 = .ok (.new 15, 3) := by decide +kernel
theorem dX9_init_39 : decode cX9_init 39 = .ok (.dup, 1) := by decide +kernel
theorem dX9_init_40 : decode cX9_init 40 = .ok (.bipush 97, 2) := by decide +kernel
theorem dX9_init_42 : decode cX9_init 42 = .ok (.invokespecial 17, 3) := by decide +kernel
theorem dX9_init_45 : decode cX9_init 45 = .ok (.putfield 26, 3) := by decide +kernel
theorem dX9_init_48 : decode cX9_init 48 = .ok (.return_, 1) := by decide +kernel
theorem dX9_split_0 : decode cX9_split 0 = .ok (.aload_n 0, 1) := by decide +kernel
theorem dX9_split_1 : decode cX9_split 1 = .ok (.getfield 20, 3) := by decide +kernel
theorem dX9_split_4 : decode cX9_split 4 = .ok (.iconst 0, 1) := by decide +kernel
theorem dX9_split_5 : decode cX9_split 5 = .ok (.invokevirtual 29, 3) := by decide +kernel
theorem dX9_split_8 : decode cX9_split 8 = .ok (.aload_n 0, 1) := by decide +kernel
theorem dX9_split_9 : decode cX9_split 9 = .ok (.getfield 23, 3) := by decide +kernel
theorem dX9_split_12 : decode cX9_split 12 = .ok (.iconst 0, 1) := by decide +kernel
theorem dX9_split_13 : decode cX9_split 13 = .ok (.invokevirtual 29, 3) := by decide +kernel
theorem dX9_split_16 : decode cX9_split 16 = .ok (.aload_n 0, 1) := by decide +kernel
theorem dX9_split_17 : decode cX9_split 17 = .ok (.getfield 26, 3) := by decide +kernel
theorem dX9_split_20 : decode cX9_split 20 = .ok (.iconst 0, 1) := by decide +kernel
theorem dX9_split_21 : decode cX9_split 21 = .ok (.invokevirtual 29, 3) := by decide +kernel
theorem dX9_split_24 : decode cX9_split 24 = .ok (.iconst 0, 1) := by decide +kernel
theorem dX9_split_25 : decode cX9_split 25 = .ok (.istore_n 1, 1) := by decide +kernel
theorem dX9_split_26 : decode cX9_split 26 = .ok (.iconst 0, 1) := by decide +kernel
theorem dX9_split_27 : decode cX9_split 27 = .ok (.istore_n 2, 1) := by decide +kernel
theorem dX9_split_28 : decode cX9_split 28 = .ok (.iload_n 2, 1) := by decide +kernel
theorem dX9_split_29 : decode cX9_split 29 = .ok (.bipush 96, 2) := by decide +kernel
theorem dX9_split_31 : decode cX9_split 31 = .ok (.if_icmp .ge 45, 3) := by decide +kernel
theorem dX9_split_34 : decode cX9_split 34 = .ok (.iload_n 1, 1) := by decide +kernel
theorem dX9_split_35 : decode cX9_split 35 = .ok (.aload_n 0, 1) := by decide +kernel
theorem dX9_split_36 : decode cX9_split 36 = .ok (.getfield 9, 3) := by decide +kernel
theorem dX9_split_39 : decode cX9_split 39 = .ok (.invokevirtual 32, 3) := by decide +kernel
theorem dX9_split_42 : decode cX9_split 42 = .ok (.if_icmp .ge 34, 3) := by decide +kernel
theorem dX9_split_45 : decode cX9_split 45 = .ok (.aload_n 0, 1) := by decide +kernel
theorem dX9_split_46 : decode cX9_split 46 = .ok (.getfield 9, 3) := by decide +kernel
theorem dX9_split_49 : decode cX9_split 49 = .ok (.iload_n 1, 1) := by decide +kernel
theorem dX9_split_50 : decode cX9_split 50 = .ok (.invokevirtual 36, 3) := by decide +kernel
theorem dX9_split_53 : decode cX9_split 53 = .ok (.bipush 32, 2) := by decide +kernel
theorem dX9_split_55 : decode cX9_split 55 = .ok (.if_icmp .ne 9, 3) := by decide +kernel
theorem dX9_split_58 : decode cX9_split 58 = .ok (.iload_n 1, 1) := by decide +kernel
theorem dX9_split_59 : decode cX9_split 59 = .ok (.iconst 1, 1) := by decide +kernel
theorem dX9_split_60 : decode cX9_split 60 = .ok (.iadd, 1) := by decide +kernel
theorem dX9_split_61 : decode cX9_split 61 = .ok (.goto 8, 3) := by decide +kernel
theorem dX9_split_64 : decode cX9_split 64 = .ok (.aload_n 0, 1) := by decide +kernel
theorem dX9_split_65 : decode cX9_split 65 = .ok (.iload_n 1, 1) := by decide +kernel
theorem dX9_split_66 : decode cX9_split 66 = .ok (.invokevirtual 40, 3) := by decide +kernel
theorem dX9_split_69 : decode cX9_split 69 = .ok (.istore_n 1, 1) := by decide +kernel
theorem dX9_split_70 : decode cX9_split 70 = .ok (.iinc 2 1, 3) := by decide +kernel
theorem dX9_split_73 : decode cX9_split 73 = .ok (.goto (-45), 3) := by decide +kernel
theorem dX9_split_76 : decode cX9_split 76 = .ok (.aload_n 0, 1) := by decide +kernel
theorem dX9_split_77 : decode cX9_split 77 = .ok (.bipush (-101), 2) := by decide +kernel
theorem dX9_split_79 : decode cX9_split 79 = .ok (.iconst 0, 1) := by decide +kernel
theorem dX9_split_80 : decode cX9_split 80 = .ok (.aload_n 0, 1) := by decide +kernel
theorem dX9_split_81 : decode cX9_split 81 = .ok (.getfield 9, 3) := by decide +kernel
theorem dX9_split_84 : decode cX9_split 84 = .ok (.invokevirtual 32, 3) := by decide +kernel
theorem dX9_split_87 : decode cX9_split 87 = .ok (.invokevirtual 43, 3) := by decide +kernel
theorem dX9_split_90 : decode cX9_split 90 = .ok (.return_, 1) := by decide +kernel
theorem dX9_addWord_0 : decode cX9_addWord 0 = .ok (.aload_n 0, 1) := by decide +kernel
theorem dX9_addWord_1 : decode cX9_addWord 1 = .ok (.getfield 20, 3) := by decide +kernel
theorem dX9_addWord_4 : decode cX9_addWord 4 = .ok (.iload_n 1, 1) := by decide +kernel
theorem dX9_addWord_5 : decode cX9_addWord 5 = .ok (.invokevirtual 47, 3) := by decide +kernel
theorem dX9_addWord_8 : decode cX9_addWord 8 = .ok (.pop, 1) := by decide +kernel
theorem dX9_addWord_9 : decode cX9_addWord 9 = .ok (.aload_n 0, 1) := by decide +kernel
theorem dX9_addWord_10 : decode cX9_addWord 10 = .ok (.getfield 23, 3) := by decide +kernel
theorem dX9_addWord_13 : decode cX9_addWord 13 = .ok (.iload_n 2, 1) := by decide +kernel
theorem dX9_addWord_14 : decode cX9_addWord 14 = .ok (.invokevirtual 47, 3) := by decide +kernel
theorem dX9_addWord_17 : decode cX9_addWord 17 = .ok (.pop, 1) := by decide +kernel
theorem dX9_addWord_18 : decode cX9_addWord 18 = .ok (.aload_n 0, 1) := by decide +kernel
theorem dX9_addWord_19 : decode cX9_addWord 19 = .ok (.getfield 26, 3) := by decide +kernel
theorem dX9_addWord_22 : decode cX9_addWord 22 = .ok (.iload_n 3, 1) := by decide +kernel
theorem dX9_addWord_23 : decode cX9_addWord 23 = .ok (.invokevirtual 47, 3) := by decide +kernel
theorem dX9_addWord_26 : decode cX9_addWord 26 = .ok (.pop, 1) := by decide +kernel
theorem dX9_addWord_27 : decode cX9_addWord 27 = .ok (.return_, 1) := by decide +kernel
theorem dX9_splitAt_0 : decode cX9_splitAt 0 = .ok (.iload_n 1, 1) := by decide +kernel
theorem dX9_splitAt_1 : decode cX9_splitAt 1 = .ok (.iconst 1, 1) := by decide +kernel
theorem dX9_splitAt_2 : decode cX9_splitAt 2 = .ok (.iadd, 1) := by decide +kernel
theorem dX9_splitAt_3 : decode cX9_splitAt 3 = .ok (.istore_n 2, 1) := by decide +kernel
theorem dX9_splitAt_4 : decode cX9_splitAt 4 = .ok (.aload_n 0, 1) := by decide +kernel
theorem dX9_splitAt_5 : decode cX9_splitAt 5 = .ok (.iload_n 1, 1) := by decide +kernel
theorem dX9_splitAt_6 : decode cX9_splitAt 6 = .ok (.invokevirtual 51, 3) := by decide +kernel
theorem dX9_splitAt_9 : decode cX9_splitAt 9 = .ok (.ifCond .eq 63, 3) := by decide +kernel
theorem dX9_splitAt_12 : decode cX9_splitAt 12 = .ok (.iload_n 2, 1) := by decide +kernel
theorem dX9_splitAt_13 : decode cX9_splitAt 13 = .ok (.aload_n 0, 1) := by decide +kernel
theorem dX9_splitAt_14 : decode cX9_splitAt 14 = .ok (.getfield 9, 3) := by decide +kernel
theorem dX9_splitAt_17 : decode cX9_splitAt 17 = .ok (.invokevirtual 32, 3) := by decide +kernel
theorem dX9_splitAt_20 : decode cX9_splitAt 20 = .ok (.if_icmp .ge 17, 3) := by decide +kernel
theorem dX9_splitAt_23 : decode cX9_splitAt 23 = .ok (.aload_n 0, 1) := by decide +kernel
theorem dX9_splitAt_24 : decode cX9_splitAt 24 = .ok (.iload_n 2, 1) := by decide +kernel
theorem dX9_splitAt_25 : decode cX9_splitAt 25 = .ok (.invokevirtual 51, 3) := by decide +kernel
theorem dX9_splitAt_28 : decode cX9_splitAt 28 = .ok (.ifCond .eq 9, 3) := by decide +kernel
theorem dX9_splitAt_31 : decode cX9_splitAt 31 = .ok (.iinc 2 1, 3) := by decide +kernel
theorem dX9_splitAt_34 : decode cX9_splitAt 34 = .ok (.goto (-22), 3) := by decide +kernel
theorem dX9_splitAt_37 : decode cX9_splitAt 37 = .ok (.aload_n 0, 1) := by decide +kernel
theorem dX9_splitAt_38 : decode cX9_splitAt 38 = .ok (.aload_n 0, 1) := by decide +kernel
theorem dX9_splitAt_39 : decode cX9_splitAt 39 = .ok (.iload_n 1, 1) := by decide +kernel
theorem dX9_splitAt_40 : decode cX9_splitAt 40 = .ok (.invokevirtual 54, 3) := by decide +kernel
theorem dX9_splitAt_43 : decode cX9_splitAt 43 = .ok (.ifCond .eq 8, 3) := by decide +kernel
theorem dX9_splitAt_46 : decode cX9_splitAt 46 = .ok (.bipush (-105), 2) := by decide +kernel
theorem dX9_splitAt_48 : decode cX9_splitAt 48 = .ok (.goto 9, 3) := by decide +kernel
theorem dX9_splitAt_51 : decode cX9_splitAt 51 = .ok (.aload_n 0, 1) := by decide +kernel
theorem dX9_splitAt_52 : decode cX9_splitAt 52 = .ok (.iload_n 1, 1) := by decide +kernel
theorem dX9_splitAt_53 : decode cX9_splitAt 53 = .ok (.iload_n 2, 1) := by decide +kernel
theorem dX9_splitAt_54 : decode cX9_splitAt 54 = .ok (.invokevirtual 57, 3) := by decide +kernel
theorem dX9_splitAt_57 : decode cX9_splitAt 57 = .ok (.aload_n 0, 1) := by decide +kernel
theorem dX9_splitAt_58 : decode cX9_splitAt 58 = .ok (.getfield 9, 3) := by decide +kernel
theorem dX9_splitAt_61 : decode cX9_splitAt 61 = .ok (.iload_n 1, 1) := by decide +kernel
theorem dX9_splitAt_62 : decode cX9_splitAt 62 = .ok (.invokevirtual 36, 3) := by decide +kernel
theorem dX9_splitAt_65 : decode cX9_splitAt 65 = .ok (.iload_n 1, 1) := by decide +kernel
theorem dX9_splitAt_66 : decode cX9_splitAt 66 = .ok (.invokevirtual 43, 3) := by decide +kernel
theorem dX9_splitAt_69 : decode cX9_splitAt 69 = .ok (.goto 96, 3) := by decide +kernel
theorem dX9_splitAt_72 : decode cX9_splitAt 72 = .ok (.aload_n 0, 1) := by decide +kernel
theorem dX9_splitAt_73 : decode cX9_splitAt 73 = .ok (.iload_n 1, 1) := by decide +kernel
theorem dX9_splitAt_74 : decode cX9_splitAt 74 = .ok (.invokevirtual 61, 3) := by decide +kernel
theorem dX9_splitAt_77 : decode cX9_splitAt 77 = .ok (.ifCond .eq 74, 3) := by decide +kernel
theorem dX9_splitAt_80 : decode cX9_splitAt 80 = .ok (.iload_n 2, 1) := by decide +kernel
theorem dX9_splitAt_81 : decode cX9_splitAt 81 = .ok (.aload_n 0, 1) := by decide +kernel
theorem dX9_splitAt_82 : decode cX9_splitAt 82 = .ok (.getfield 9, 3) := by decide +kernel
theorem dX9_splitAt_85 : decode cX9_splitAt 85 = .ok (.invokevirtual 32, 3) := by decide +kernel
theorem dX9_splitAt_88 : decode cX9_splitAt 88 = .ok (.if_icmp .ge 17, 3) := by decide +kernel
theorem dX9_splitAt_91 : decode cX9_splitAt 91 = .ok (.aload_n 0, 1) := by decide +kernel
theorem dX9_splitAt_92 : decode cX9_splitAt 92 = .ok (.iload_n 2, 1) := by decide +kernel
theorem dX9_splitAt_93 : decode cX9_splitAt 93 = .ok (.invokevirtual 61, 3) := by decide +kernel
theorem dX9_splitAt_96 : decode cX9_splitAt 96 = .ok (.ifCond .eq 9, 3) := by decide +kernel
theorem dX9_splitAt_99 : decode cX9_splitAt 99 = .ok (.iinc 2 1, 3) := by decide +kernel
theorem dX9_splitAt_102 : decode cX9_splitAt 102 = .ok (.goto (-22), 3) := by decide +kernel
theorem dX9_splitAt_105 : decode cX9_splitAt 105 = .ok (.aload_n 0, 1) := by decide +kernel
theorem dX9_splitAt_106 : decode cX9_splitAt 106 = .ok (.iload_n 1, 1) := by decide +kernel
theorem dX9_splitAt_107 : decode cX9_splitAt 107 = .ok (.invokevirtual 54, 3) := by decide +kernel
theorem dX9_splitAt_110 : decode cX9_splitAt 110 = .ok (.ifCond .ne 14, 3) := by decide +kernel
theorem dX9_splitAt_113 : decode cX9_splitAt 113 = .ok (.iload_n 2, 1) := by decide +kernel
theorem dX9_splitAt_114 : decode cX9_splitAt 114 = .ok (.iload_n 1, 1) := by decide +kernel
theorem dX9_splitAt_115 : decode cX9_splitAt 115 = .ok (.isub, 1) := by decide +kernel
theorem dX9_splitAt_116 : decode cX9_splitAt 116 = .ok (.iconst 4, 1) := by decide +kernel
theorem dX9_splitAt_117 : decode cX9_splitAt 117 = .ok (.if_icmp .gt 7, 3) := by decide +kernel
theorem dX9_splitAt_120 : decode cX9_splitAt 120 = .ok (.iconst 1, 1) := by decide +kernel
theorem dX9_splitAt_121 : decode cX9_splitAt 121 = .ok (.goto 4, 3) := by decide +kernel
theorem dX9_splitAt_124 : decode cX9_splitAt 124 = .ok (.iconst 0, 1) := by decide +kernel
theorem dX9_splitAt_125 : decode cX9_splitAt 125 = .ok (.istore_n 3, 1) := by decide +kernel
theorem dX9_splitAt_126 : decode cX9_splitAt 126 = .ok (.aload_n 0, 1) := by decide +kernel
theorem dX9_splitAt_127 : decode cX9_splitAt 127 = .ok (.iload_n 3, 1) := by decide +kernel
theorem dX9_splitAt_128 : decode cX9_splitAt 128 = .ok (.ifCond .eq 8, 3) := by decide +kernel
theorem dX9_splitAt_131 : decode cX9_splitAt 131 = .ok (.bipush (-102), 2) := by decide +kernel
theorem dX9_splitAt_133 : decode cX9_splitAt 133 = .ok (.goto 5, 3) := by decide +kernel
theorem dX9_splitAt_136 : decode cX9_splitAt 136 = .ok (.bipush (-105), 2) := by decide +kernel
theorem dX9_splitAt_138 : decode cX9_splitAt 138 = .ok (.aload_n 0, 1) := by decide +kernel
theorem dX9_splitAt_139 : decode cX9_splitAt 139 = .ok (.iload_n 1, 1) := by decide +kernel
theorem dX9_splitAt_140 : decode cX9_splitAt 140 = .ok (.iload_n 2, 1) := by decide +kernel
theorem dX9_splitAt_141 : decode cX9_splitAt 141 = .ok (.invokevirtual 64, 3) := by decide +kernel
theorem dX9_splitAt_144 : decode cX9_splitAt 144 = .ok (.iload_n 1, 1) := by decide +kernel
theorem dX9_splitAt_145 : decode cX9_splitAt 145 = .ok (.invokevirtual 43, 3) := by decide +kernel
theorem dX9_splitAt_148 : decode cX9_splitAt 148 = .ok (.goto 17, 3) := by decide +kernel
theorem dX9_splitAt_151 : decode cX9_splitAt 151 = .ok (.aload_n 0, 1) := by decide +kernel
theorem dX9_splitAt_152 : decode cX9_splitAt 152 = .ok (.aload_n 0, 1) := by decide +kernel
theorem dX9_splitAt_153 : decode cX9_splitAt 153 = .ok (.getfield 9, 3) := by decide +kernel
theorem dX9_splitAt_156 : decode cX9_splitAt 156 = .ok (.iload_n 1, 1) := by decide +kernel
theorem dX9_splitAt_157 : decode cX9_splitAt 157 = .ok (.invokevirtual 36, 3) := by decide +kernel
theorem dX9_splitAt_160 : decode cX9_splitAt 160 = .ok (.iconst 0, 1) := by decide +kernel
theorem dX9_splitAt_161 : decode cX9_splitAt 161 = .ok (.iload_n 1, 1) := by decide +kernel
theorem dX9_splitAt_162 : decode cX9_splitAt 162 = .ok (.invokevirtual 43, 3) := by decide +kernel
theorem dX9_splitAt_165 : decode cX9_splitAt 165 = .ok (.iload_n 2, 1) := by decide +kernel
theorem dX9_splitAt_166 : decode cX9_splitAt 166 = .ok (.ireturn, 1) := by decide +kernel
theorem dX9_isLetter_0 : decode cX9_isLetter 0 = .ok (.iload_n 1, 1) := by decide +kernel
theorem dX9_isLetter_1 : decode cX9_isLetter 1 = .ok (.aload_n 0, 1) := by decide +kernel
theorem dX9_isLetter_2 : decode cX9_isLetter 2 = .ok (.getfield 9, 3) := by decide +kernel
theorem dX9_isLetter_5 : decode cX9_isLetter 5 = .ok (.invokevirtual 32, 3) := by decide +kernel
theorem dX9_isLetter_8 : decode cX9_isLetter 8 = .ok (.if_icmp .ge 33, 3) := by decide +kernel
theorem dX9_isLetter_11 : decode cX9_isLetter 11 = .ok (.aload_n 0, 1) := by decide +kernel
theorem dX9_isLetter_12 : decode cX9_isLetter 12 = .ok (.getfield 9, 3) := by decide +kernel
theorem dX9_isLetter_15 : decode cX9_isLetter 15 = .ok (.iload_n 1, 1) := by decide +kernel
theorem dX9_isLetter_16 : decode cX9_isLetter 16 = .ok (.invokevirtual 36, 3) := by decide +kernel
theorem dX9_isLetter_19 : decode cX9_isLetter 19 = .ok (.bipush 97, 2) := by decide +kernel
theorem dX9_isLetter_21 : decode cX9_isLetter 21 = .ok (.if_icmp .lt 20, 3) := by decide +kernel
theorem dX9_isLetter_24 : decode cX9_isLetter 24 = .ok (.aload_n 0, 1) := by decide +kernel
theorem dX9_isLetter_25 : decode cX9_isLetter 25 = .ok (.getfield 9, 3) := by decide +kernel
theorem dX9_isLetter_28 : decode cX9_isLetter 28 = .ok (.iload_n 1, 1) := by decide +kernel
theorem dX9_isLetter_29 : decode cX9_isLetter 29 = .ok (.invokevirtual 36, 3) := by decide +kernel
theorem dX9_isLetter_32 : decode cX9_isLetter 32 = .ok (.bipush 122, 2) := by decide +kernel
theorem dX9_isLetter_34 : decode cX9_isLetter 34 = .ok (.if_icmp .gt 7, 3) := by decide +kernel
theorem dX9_isLetter_37 : decode cX9_isLetter 37 = .ok (.iconst 1, 1) := by decide +kernel
theorem dX9_isLetter_38 : decode cX9_isLetter 38 = .ok (.goto 4, 3) := by decide +kernel
theorem dX9_isLetter_41 : decode cX9_isLetter 41 = .ok (.iconst 0, 1) := by decide +kernel
theorem dX9_isLetter_42 : decode cX9_isLetter 42 = .ok (.ireturn, 1) := by decide +kernel
theorem dX9_isDigit_0 : decode cX9_isDigit 0 = .ok (.iload_n 1, 1) := by decide +kernel
theorem dX9_isDigit_1 : decode cX9_isDigit 1 = .ok (.aload_n 0, 1) := by decide +kernel
theorem dX9_isDigit_2 : decode cX9_isDigit 2 = .ok (.getfield 9, 3) := by decide +kernel
theorem dX9_isDigit_5 : decode cX9_isDigit 5 = .ok (.invokevirtual 32, 3) := by decide +kernel
theorem dX9_isDigit_8 : decode cX9_isDigit 8 = .ok (.if_icmp .ge 33, 3) := by decide +kernel
theorem dX9_isDigit_11 : decode cX9_isDigit 11 = .ok (.aload_n 0, 1) := by decide +kernel
theorem dX9_isDigit_12 : decode cX9_isDigit 12 = .ok (.getfield 9, 3) := by decide +kernel
theorem dX9_isDigit_15 : decode cX9_isDigit 15 = .ok (.iload_n 1, 1) := by decide +kernel
theorem dX9_isDigit_16 : decode cX9_isDigit 16 = .ok (.invokevirtual 36, 3) := by decide +kernel
theorem dX9_isDigit_19 : decode cX9_isDigit 19 = .ok (.bipush 48, 2) := by decide +kernel
theorem dX9_isDigit_21 : decode cX9_isDigit 21 = .ok (.if_icmp .lt 20, 3) := by decide +kernel
theorem dX9_isDigit_24 : decode cX9_isDigit 24 = .ok (.aload_n 0, 1) := by decide +kernel
theorem dX9_isDigit_25 : decode cX9_isDigit 25 = .ok (.getfield 9, 3) := by decide +kernel
theorem dX9_isDigit_28 : decode cX9_isDigit 28 = .ok (.iload_n 1, 1) := by decide +kernel
theorem dX9_isDigit_29 : decode cX9_isDigit 29 = .ok (.invokevirtual 36, 3) := by decide +kernel
theorem dX9_isDigit_32 : decode cX9_isDigit 32 = .ok (.bipush 57, 2) := by decide +kernel
theorem dX9_isDigit_34 : decode cX9_isDigit 34 = .ok (.if_icmp .gt 7, 3) := by decide +kernel
theorem dX9_isDigit_37 : decode cX9_isDigit 37 = .ok (.iconst 1, 1) := by decide +kernel
theorem dX9_isDigit_38 : decode cX9_isDigit 38 = .ok (.goto 4, 3) := by decide +kernel
theorem dX9_isDigit_41 : decode cX9_isDigit 41 = .ok (.iconst 0, 1) := by decide +kernel
theorem dX9_isDigit_42 : decode cX9_isDigit 42 = .ok (.ireturn, 1) := by decide +kernel
theorem dX9_isGlued_0 : decode cX9_isGlued 0 = .ok (.iload_n 1, 1) := by decide +kernel
theorem dX9_isGlued_1 : decode cX9_isGlued 1 = .ok (.ifCond .le 27, 3) := by decide +kernel
theorem dX9_isGlued_4 : decode cX9_isGlued 4 = .ok (.aload_n 0, 1) := by decide +kernel
theorem dX9_isGlued_5 : decode cX9_isGlued 5 = .ok (.iload_n 1, 1) := by decide +kernel
theorem dX9_isGlued_6 : decode cX9_isGlued 6 = .ok (.iconst 1, 1) := by decide +kernel
theorem dX9_isGlued_7 : decode cX9_isGlued 7 = .ok (.isub, 1) := by decide +kernel
theorem dX9_isGlued_8 : decode cX9_isGlued 8 = .ok (.invokevirtual 51, 3) := by decide +kernel
theorem dX9_isGlued_11 : decode cX9_isGlued 11 = .ok (.ifCond .ne 13, 3) := by decide +kernel
theorem dX9_isGlued_14 : decode cX9_isGlued 14 = .ok (.aload_n 0, 1) := by decide +kernel
theorem dX9_isGlued_15 : decode cX9_isGlued 15 = .ok (.iload_n 1, 1) := by decide +kernel
theorem dX9_isGlued_16 : decode cX9_isGlued 16 = .ok (.iconst 1, 1) := by decide +kernel
theorem dX9_isGlued_17 : decode cX9_isGlued 17 = .ok (.isub, 1) := by decide +kernel
theorem dX9_isGlued_18 : decode cX9_isGlued 18 = .ok (.invokevirtual 61, 3) := by decide +kernel
theorem dX9_isGlued_21 : decode cX9_isGlued 21 = .ok (.ifCond .eq 7, 3) := by decide +kernel
theorem dX9_isGlued_24 : decode cX9_isGlued 24 = .ok (.iconst 1, 1) := by decide +kernel
theorem dX9_isGlued_25 : decode cX9_isGlued 25 = .ok (.goto 4, 3) := by decide +kernel
theorem dX9_isGlued_28 : decode cX9_isGlued 28 = .ok (.iconst 0, 1) := by decide +kernel
theorem dX9_isGlued_29 : decode cX9_isGlued 29 = .ok (.ireturn, 1) := by decide +kernel
theorem dX9_numberAt_0 : decode cX9_numberAt 0 = .ok (.iconst 0, 1) := by decide +kernel
theorem dX9_numberAt_1 : decode cX9_numberAt 1 = .ok (.istore_n 3, 1) := by decide +kernel
theorem dX9_numberAt_2 : decode cX9_numberAt 2 = .ok (.iload_n 1, 1) := by decide +kernel
theorem dX9_numberAt_3 : decode cX9_numberAt 3 = .ok (.istore 4, 2) := by decide +kernel
theorem dX9_numberAt_5 : decode cX9_numberAt 5 = .ok (.iload 4, 2) := by decide +kernel
theorem dX9_numberAt_7 : decode cX9_numberAt 7 = .ok (.iload_n 2, 1) := by decide +kernel
theorem dX9_numberAt_8 : decode cX9_numberAt 8 = .ok (.if_icmp .ge 27, 3) := by decide +kernel
theorem dX9_numberAt_11 : decode cX9_numberAt 11 = .ok (.iload_n 3, 1) := by decide +kernel
theorem dX9_numberAt_12 : decode cX9_numberAt 12 = .ok (.bipush 10, 2) := by decide +kernel
theorem dX9_numberAt_14 : decode cX9_numberAt 14 = .ok (.imul, 1) := by decide +kernel
theorem dX9_numberAt_15 : decode cX9_numberAt 15 = .ok (.aload_n 0, 1) := by decide +kernel
theorem dX9_numberAt_16 : decode cX9_numberAt 16 = .ok (.getfield 9, 3) := by decide +kernel
theorem dX9_numberAt_19 : decode cX9_numberAt 19 = .ok (.iload 4, 2) := by decide +kernel
theorem dX9_numberAt_21 : decode cX9_numberAt 21 = .ok (.invokevirtual 36, 3) := by decide +kernel
theorem dX9_numberAt_24 : decode cX9_numberAt 24 = .ok (.iadd, 1) := by decide +kernel
theorem dX9_numberAt_25 : decode cX9_numberAt 25 = .ok (.bipush 48, 2) := by decide +kernel
theorem dX9_numberAt_27 : decode cX9_numberAt 27 = .ok (.isub, 1) := by decide +kernel
theorem dX9_numberAt_28 : decode cX9_numberAt 28 = .ok (.istore_n 3, 1) := by decide +kernel
theorem dX9_numberAt_29 : decode cX9_numberAt 29 = .ok (.iinc 4 1, 3) := by decide +kernel
theorem dX9_numberAt_32 : decode cX9_numberAt 32 = .ok (.goto (-27), 3) := by decide +kernel
theorem dX9_numberAt_35 : decode cX9_numberAt 35 = .ok (.iload_n 3, 1) := by decide +kernel
theorem dX9_numberAt_36 : decode cX9_numberAt 36 = .ok (.ireturn, 1) := by decide +kernel
theorem dX9_wordKind_0 : decode cX9_wordKind 0 = .ok (.iload_n 2, 1) := by decide +kernel
theorem dX9_wordKind_1 : decode cX9_wordKind 1 = .ok (.iload_n 1, 1) := by decide +kernel
theorem dX9_wordKind_2 : decode cX9_wordKind 2 = .ok (.isub, 1) := by decide +kernel
theorem dX9_wordKind_3 : decode cX9_wordKind 3 = .ok (.iconst 1, 1) := by decide +kernel
theorem dX9_wordKind_4 : decode cX9_wordKind 4 = .ok (.if_icmp .ne 28, 3) := by decide +kernel
theorem dX9_wordKind_7 : decode cX9_wordKind 7 = .ok (.ldc 67, 2) := by decide +kernel
theorem dX9_wordKind_9 : decode cX9_wordKind 9 = .ok (.aload_n 0, 1) := by decide +kernel
theorem dX9_wordKind_10 : decode cX9_wordKind 10 = .ok (.getfield 9, 3) := by decide +kernel
theorem dX9_wordKind_13 : decode cX9_wordKind 13 = .ok (.iload_n 1, 1) := by decide +kernel
theorem dX9_wordKind_14 : decode cX9_wordKind 14 = .ok (.invokevirtual 36, 3) := by decide +kernel
theorem dX9_wordKind_17 : decode cX9_wordKind 17 = .ok (.i2c, 1) := by decide +kernel
theorem dX9_wordKind_18 : decode cX9_wordKind 18 = .ok (.invokevirtual 69, 3) := by decide +kernel
theorem dX9_wordKind_21 : decode cX9_wordKind 21 = .ok (.ifCond .lt 8, 3) := by decide +kernel
theorem dX9_wordKind_24 : decode cX9_wordKind 24 = .ok (.bipush (-103), 2) := by decide +kernel
theorem dX9_wordKind_26 : decode cX9_wordKind 26 = .ok (.goto 5, 3) := by decide +kernel
theorem dX9_wordKind_29 : decode cX9_wordKind 29 = .ok (.bipush (-105), 2) := by decide +kernel
theorem dX9_wordKind_31 : decode cX9_wordKind 31 = .ok (.ireturn, 1) := by decide +kernel
theorem dX9_wordKind_32 : decode cX9_wordKind 32 = .ok (.aload_n 0, 1) := by decide +kernel
theorem dX9_wordKind_33 : decode cX9_wordKind 33 = .ok (.ldc 74, 2) := by decide +kernel
theorem dX9_wordKind_35 : decode cX9_wordKind 35 = .ok (.iload_n 1, 1) := by decide +kernel
theorem dX9_wordKind_36 : decode cX9_wordKind 36 = .ok (.iload_n 2, 1) := by decide +kernel
theorem dX9_wordKind_37 : decode cX9_wordKind 37 = .ok (.invokevirtual 76, 3) := by decide +kernel
theorem dX9_wordKind_40 : decode cX9_wordKind 40 = .ok (.ifCond .eq 5, 3) := by decide +kernel
theorem dX9_wordKind_43 : decode cX9_wordKind 43 = .ok (.iconst (-1), 1) := by decide +kernel
theorem dX9_wordKind_44 : decode cX9_wordKind 44 = .ok (.ireturn, 1) := by decide +kernel
theorem dX9_wordKind_45 : decode cX9_wordKind 45 = .ok (.aload_n 0, 1) := by decide +kernel
theorem dX9_wordKind_46 : decode cX9_wordKind 46 = .ok (.ldc 82, 2) := by decide +kernel
theorem dX9_wordKind_48 : decode cX9_wordKind 48 = .ok (.iload_n 1, 1) := by decide +kernel
theorem dX9_wordKind_49 : decode cX9_wordKind 49 = .ok (.iload_n 2, 1) := by decide +kernel
theorem dX9_wordKind_50 : decode cX9_wordKind 50 = .ok (.invokevirtual 76, 3) := by decide +kernel
theorem dX9_wordKind_53 : decode cX9_wordKind 53 = .ok (.ifCond .eq 6, 3) := by decide +kernel
theorem dX9_wordKind_56 : decode cX9_wordKind 56 = .ok (.bipush (-6), 2) := by decide +kernel
theorem dX9_wordKind_58 : decode cX9_wordKind 58 = .ok (.ireturn, 1) := by decide +kernel
theorem dX9_wordKind_59 : decode cX9_wordKind 59 = .ok (.aload_n 0, 1) := by decide +kernel
theorem dX9_wordKind_60 : decode cX9_wordKind 60 = .ok (.ldc 84, 2) := by decide +kernel
theorem dX9_wordKind_62 : decode cX9_wordKind 62 = .ok (.iload_n 1, 1) := by decide +kernel
theorem dX9_wordKind_63 : decode cX9_wordKind 63 = .ok (.iload_n 2, 1) := by decide +kernel
theorem dX9_wordKind_64 : decode cX9_wordKind 64 = .ok (.invokevirtual 76, 3) := by decide +kernel
theorem dX9_wordKind_67 : decode cX9_wordKind 67 = .ok (.ifCond .eq 6, 3) := by decide +kernel
theorem dX9_wordKind_70 : decode cX9_wordKind 70 = .ok (.bipush (-7), 2) := by decide +kernel
theorem dX9_wordKind_72 : decode cX9_wordKind 72 = .ok (.ireturn, 1) := by decide +kernel
theorem dX9_wordKind_73 : decode cX9_wordKind 73 = .ok (.aload_n 0, 1) := by decide +kernel
theorem dX9_wordKind_74 : decode cX9_wordKind 74 = .ok (.ldc 86, 2) := by decide +kernel
theorem dX9_wordKind_76 : decode cX9_wordKind 76 = .ok (.iload_n 1, 1) := by decide +kernel
theorem dX9_wordKind_77 : decode cX9_wordKind 77 = .ok (.iload_n 2, 1) := by decide +kernel
theorem dX9_wordKind_78 : decode cX9_wordKind 78 = .ok (.invokevirtual 76, 3) := by decide +kernel
theorem dX9_wordKind_81 : decode cX9_wordKind 81 = .ok (.ifCond .eq 6, 3) := by decide +kernel
theorem dX9_wordKind_84 : decode cX9_wordKind 84 = .ok (.bipush (-8), 2) := by decide +kernel
theorem dX9_wordKind_86 : decode cX9_wordKind 86 = .ok (.ireturn, 1) := by decide +kernel
theorem dX9_wordKind_87 : decode cX9_wordKind 87 = .ok (.aload_n 0, 1) := by decide +kernel
theorem dX9_wordKind_88 : decode cX9_wordKind 88 = .ok (.ldc 88, 2) := by decide +kernel
theorem dX9_wordKind_90 : decode cX9_wordKind 90 = .ok (.iload_n 1, 1) := by decide +kernel
theorem dX9_wordKind_91 : decode cX9_wordKind 91 = .ok (.iload_n 2, 1) := by decide +kernel
theorem dX9_wordKind_92 : decode cX9_wordKind 92 = .ok (.invokevirtual 76, 3) := by decide +kernel
theorem dX9_wordKind_95 : decode cX9_wordKind 95 = .ok (.ifCond .eq 6, 3) := by decide +kernel
theorem dX9_wordKind_98 : decode cX9_wordKind 98 = .ok (.bipush (-9), 2) := by decide +kernel
theorem dX9_wordKind_100 : decode cX9_wordKind 100 = .ok (.ireturn, 1) := by decide +kernel
theorem dX9_wordKind_101 : decode cX9_wordKind 101 = .ok (.aload_n 0, 1) := by decide +kernel
theorem dX9_wordKind_102 : decode cX9_wordKind 102 = .ok (.ldc 90, 2) := by decide +kernel
theorem dX9_wordKind_104 : decode cX9_wordKind 104 = .ok (.iload_n 1, 1) := by decide +kernel
theorem dX9_wordKind_105 : decode cX9_wordKind 105 = .ok (.iload_n 2, 1) := by decide +kernel
theorem dX9_wordKind_106 : decode cX9_wordKind 106 = .ok (.invokevirtual 76, 3) := by decide +kernel
theorem dX9_wordKind_109 : decode cX9_wordKind 109 = .ok (.ifCond .eq 6, 3) := by decide +kernel
theorem dX9_wordKind_112 : decode cX9_wordKind 112 = .ok (.bipush (-10), 2) := by decide +kernel
theorem dX9_wordKind_114 : decode cX9_wordKind 114 = .ok (.ireturn, 1) := by decide +kernel
theorem dX9_wordKind_115 : decode cX9_wordKind 115 = .ok (.aload_n 0, 1) := by decide +kernel
theorem dX9_wordKind_116 : decode cX9_wordKind 116 = .ok (.ldc 92, 2) := by decide +kernel
theorem dX9_wordKind_118 : decode cX9_wordKind 118 = .ok (.iload_n 1, 1) := by decide +kernel
theorem dX9_wordKind_119 : decode cX9_wordKind 119 = .ok (.iload_n 2, 1) := by decide +kernel
theorem dX9_wordKind_120 : decode cX9_wordKind 120 = .ok (.invokevirtual 76, 3) := by decide +kernel
theorem dX9_wordKind_123 : decode cX9_wordKind 123 = .ok (.ifCond .eq 6, 3) := by decide +kernel
theorem dX9_wordKind_126 : decode cX9_wordKind 126 = .ok (.bipush (-11), 2) := by decide +kernel
theorem dX9_wordKind_128 : decode cX9_wordKind 128 = .ok (.ireturn, 1) := by decide +kernel
theorem dX9_wordKind_129 : decode cX9_wordKind 129 = .ok (.aload_n 0, 1) := by decide +kernel
theorem dX9_wordKind_130 : decode cX9_wordKind 130 = .ok (.ldc 94, 2) := by decide +kernel
theorem dX9_wordKind_132 : decode cX9_wordKind 132 = .ok (.iload_n 1, 1) := by decide +kernel
theorem dX9_wordKind_133 : decode cX9_wordKind 133 = .ok (.iload_n 2, 1) := by decide +kernel
theorem dX9_wordKind_134 : decode cX9_wordKind 134 = .ok (.invokevirtual 76, 3) := by decide +kernel
theorem dX9_wordKind_137 : decode cX9_wordKind 137 = .ok (.ifCond .eq 6, 3) := by decide +kernel
theorem dX9_wordKind_140 : decode cX9_wordKind 140 = .ok (.bipush (-2), 2) := by decide +kernel
theorem dX9_wordKind_142 : decode cX9_wordKind 142 = .ok (.ireturn, 1) := by decide +kernel
theorem dX9_wordKind_143 : decode cX9_wordKind 143 = .ok (.aload_n 0, 1) := by decide +kernel
theorem dX9_wordKind_144 : decode cX9_wordKind 144 = .ok (.ldc 96, 2) := by decide +kernel
theorem dX9_wordKind_146 : decode cX9_wordKind 146 = .ok (.iload_n 1, 1) := by decide +kernel
theorem dX9_wordKind_147 : decode cX9_wordKind 147 = .ok (.iload_n 2, 1) := by decide +kernel
theorem dX9_wordKind_148 : decode cX9_wordKind 148 = .ok (.invokevirtual 76, 3) := by decide +kernel
theorem dX9_wordKind_151 : decode cX9_wordKind 151 = .ok (.ifCond .eq 6, 3) := by decide +kernel
theorem dX9_wordKind_154 : decode cX9_wordKind 154 = .ok (.bipush (-3), 2) := by decide +kernel
theorem dX9_wordKind_156 : decode cX9_wordKind 156 = .ok (.ireturn, 1) := by decide +kernel
theorem dX9_wordKind_157 : decode cX9_wordKind 157 = .ok (.aload_n 0, 1) := by decide +kernel
theorem dX9_wordKind_158 : decode cX9_wordKind 158 = .ok (.ldc 98, 2) := by decide +kernel
theorem dX9_wordKind_160 : decode cX9_wordKind 160 = .ok (.iload_n 1, 1) := by decide +kernel
theorem dX9_wordKind_161 : decode cX9_wordKind 161 = .ok (.iload_n 2, 1) := by decide +kernel
theorem dX9_wordKind_162 : decode cX9_wordKind 162 = .ok (.invokevirtual 76, 3) := by decide +kernel
theorem dX9_wordKind_165 : decode cX9_wordKind 165 = .ok (.ifCond .eq 6, 3) := by decide +kernel
theorem dX9_wordKind_168 : decode cX9_wordKind 168 = .ok (.bipush (-104), 2) := by decide +kernel
theorem dX9_wordKind_170 : decode cX9_wordKind 170 = .ok (.ireturn, 1) := by decide +kernel
theorem dX9_wordKind_171 : decode cX9_wordKind 171 = .ok (.aload_n 0, 1) := by decide +kernel
theorem dX9_wordKind_172 : decode cX9_wordKind 172 = .ok (.ldc 100, 2) := by decide +kernel
theorem dX9_wordKind_174 : decode cX9_wordKind 174 = .ok (.iload_n 1, 1) := by decide +kernel
theorem dX9_wordKind_175 : decode cX9_wordKind 175 = .ok (.iload_n 2, 1) := by decide +kernel
theorem dX9_wordKind_176 : decode cX9_wordKind 176 = .ok (.invokevirtual 76, 3) := by decide +kernel
theorem dX9_wordKind_179 : decode cX9_wordKind 179 = .ok (.ifCond .eq 6, 3) := by decide +kernel
theorem dX9_wordKind_182 : decode cX9_wordKind 182 = .ok (.bipush (-4), 2) := by decide +kernel
theorem dX9_wordKind_184 : decode cX9_wordKind 184 = .ok (.ireturn, 1) := by decide +kernel
theorem dX9_wordKind_185 : decode cX9_wordKind 185 = .ok (.aload_n 0, 1) := by decide +kernel
theorem dX9_wordKind_186 : decode cX9_wordKind 186 = .ok (.ldc 102, 2) := by decide +kernel
theorem dX9_wordKind_188 : decode cX9_wordKind 188 = .ok (.iload_n 1, 1) := by decide +kernel
theorem dX9_wordKind_189 : decode cX9_wordKind 189 = .ok (.iload_n 2, 1) := by decide +kernel
theorem dX9_wordKind_190 : decode cX9_wordKind 190 = .ok (.invokevirtual 76, 3) := by decide +kernel
theorem dX9_wordKind_193 : decode cX9_wordKind 193 = .ok (.ifCond .eq 8, 3) := by decide +kernel
theorem dX9_wordKind_196 : decode cX9_wordKind 196 = .ok (.bipush (-5), 2) := by decide +kernel
theorem dX9_wordKind_198 : decode cX9_wordKind 198 = .ok (.goto 5, 3) := by decide +kernel
theorem dX9_wordKind_201 : decode cX9_wordKind 201 = .ok (.bipush (-105), 2) := by decide +kernel
theorem dX9_wordKind_203 : decode cX9_wordKind 203 = .ok (.ireturn, 1) := by decide +kernel
theorem dX9_spells_0 : decode cX9_spells 0 = .ok (.aload_n 1, 1) := by decide +kernel
theorem dX9_spells_1 : decode cX9_spells 1 = .ok (.invokevirtual 104, 3) := by decide +kernel
theorem dX9_spells_4 : decode cX9_spells 4 = .ok (.iload_n 3, 1) := by decide +kernel
theorem dX9_spells_5 : decode cX9_spells 5 = .ok (.iload_n 2, 1) := by decide +kernel
theorem dX9_spells_6 : decode cX9_spells 6 = .ok (.isub, 1) := by decide +kernel
theorem dX9_spells_7 : decode cX9_spells 7 = .ok (.if_icmp .eq 5, 3) := by decide +kernel
theorem dX9_spells_10 : decode cX9_spells 10 = .ok (.iconst 0, 1) := by decide +kernel
theorem dX9_spells_11 : decode cX9_spells 11 = .ok (.ireturn, 1) := by decide +kernel
theorem dX9_spells_12 : decode cX9_spells 12 = .ok (.iconst 0, 1) := by decide +kernel
theorem dX9_spells_13 : decode cX9_spells 13 = .ok (.istore 4, 2) := by decide +kernel
theorem dX9_spells_15 : decode cX9_spells 15 = .ok (.iload 4, 2) := by decide +kernel
theorem dX9_spells_17 : decode cX9_spells 17 = .ok (.aload_n 1, 1) := by decide +kernel
theorem dX9_spells_18 : decode cX9_spells 18 = .ok (.invokevirtual 104, 3) := by decide +kernel
theorem dX9_spells_21 : decode cX9_spells 21 = .ok (.if_icmp .ge 31, 3) := by decide +kernel
theorem dX9_spells_24 : decode cX9_spells 24 = .ok (.aload_n 0, 1) := by decide +kernel
theorem dX9_spells_25 : decode cX9_spells 25 = .ok (.getfield 9, 3) := by decide +kernel
theorem dX9_spells_28 : decode cX9_spells 28 = .ok (.iload_n 2, 1) := by decide +kernel
theorem dX9_spells_29 : decode cX9_spells 29 = .ok (.iload 4, 2) := by decide +kernel
theorem dX9_spells_31 : decode cX9_spells 31 = .ok (.iadd, 1) := by decide +kernel
theorem dX9_spells_32 : decode cX9_spells 32 = .ok (.invokevirtual 36, 3) := by decide +kernel
theorem dX9_spells_35 : decode cX9_spells 35 = .ok (.aload_n 1, 1) := by decide +kernel
theorem dX9_spells_36 : decode cX9_spells 36 = .ok (.iload 4, 2) := by decide +kernel
theorem dX9_spells_38 : decode cX9_spells 38 = .ok (.invokevirtual 107, 3) := by decide +kernel
theorem dX9_spells_41 : decode cX9_spells 41 = .ok (.if_icmp .eq 5, 3) := by decide +kernel
theorem dX9_spells_44 : decode cX9_spells 44 = .ok (.iconst 0, 1) := by decide +kernel
theorem dX9_spells_45 : decode cX9_spells 45 = .ok (.ireturn, 1) := by decide +kernel
theorem dX9_spells_46 : decode cX9_spells 46 = .ok (.iinc 4 1, 3) := by decide +kernel
theorem dX9_spells_49 : decode cX9_spells 49 = .ok (.goto (-34), 3) := by decide +kernel
theorem dX9_spells_52 : decode cX9_spells 52 = .ok (.iconst 1, 1) := by decide +kernel
theorem dX9_spells_53 : decode cX9_spells 53 = .ok (.ireturn, 1) := by decide +kernel
theorem dX10_init_0 : decode cX10_init 0 = .ok (.aload_n 0, 1) := by decide +kernel
theorem dX10_init_1 : decode cX10_init 1 = .ok (.invokespecial 3, 3) := by decide +kernel
theorem dX10_init_4 : decode cX10_init 4 = .ok (.aload_n 0, 1) := by decide +kernel
theorem dX10_init_5 : decode cX10_init 5 = .ok (.new 9, 3) := by decide +kernel
theorem dX10_init_8 : decode cX10_init 8 = .ok (.dup, 1) := by decide +kernel
theorem dX10_init_9 : decode cX10_init 9 = .ok (.bipush 6, 2) := by decide +kernel
theorem dX10_init_11 : decode cX10_init 11 = .ok (.invokespecial 11, 3) := by decide +kernel
theorem dX10_init_14 : decode cX10_init 14 = .ok (.putfield 14, 3) := by decide +kernel
theorem dX10_init_17 : decode cX10_init 17 = .ok (.aload_n 0, 1) := by decide +kernel
theorem dX10_init_18 : decode cX10_init 18 = .ok (.new 9, 3) := by decide +kernel
theorem dX10_init_21 : decode cX10_init 21 = .ok (.dup, 1) := by decide +kernel
theorem dX10_init_22 : decode cX10_init 22 = .ok (.bipush 6, 2) := by decide +kernel
theorem dX10_init_24 : decode cX10_init 24 = .ok (.invokespecial 11, 3) := by decide +kernel
theorem dX10_init_27 : decode cX10_init 27 = .ok (.putfield 20, 3) := by decide +kernel
theorem dX10_init_30 : decode cX10_init 30 = .ok (.aload_n 0, 1) := by decide +kernel
theorem dX10_init_31 : decode cX10_init 31 = .ok (.new 9, 3) := by decide +kernel
theorem dX10_init_34 : decode cX10_init 34 = .ok (.dup, 1) := by decide +kernel
theorem dX10_init_35 : decode cX10_init 35 = .ok (.bipush 6, 2) := by decide +kernel
theorem dX10_init_37 : decode cX10_init 37 = .ok (.invokespecial 11, 3) := by decide +kernel
theorem dX10_init_40 : decode cX10_init 40 = .ok (.putfield 23, 3) := by decide +kernel
theorem dX10_init_43 : decode cX10_init 43 = .ok (.aload_n 0, 1) := by decide +kernel
theorem dX10_init_44 : decode cX10_init 44 = .ok (.new 9, 3) := by decide +kernel
theorem dX10_init_47 : decode cX10_init 47 = .ok (.dup, 1) := by decide +kernel
theorem dX10_init_48 : decode cX10_init 48 = .ok (.bipush 6, 2) := by decide +kernel
theorem dX10_init_50 : decode cX10_init 50 = .ok (.invokespecial 11, 3) := by decide +kernel
theorem dX10_init_53 : decode cX10_init 53 = .ok (.putfield 26, 3) := by decide +kernel
theorem dX10_init_56 : decode cX10_init 56 = .ok (.aload_n 0, 1) := by decide +kernel
theorem dX10_init_57 : decode cX10_init 57 = .ok (.new 9, 3) := by decide +kernel
theorem dX10_init_60 : decode cX10_init 60 = .ok (.dup, 1) := by decide +kernel
theorem dX10_init_61 : decode cX10_init 61 = .ok (.bipush 6, 2) := by decide +kernel
theorem dX10_init_63 : decode cX10_init 63 = .ok (.invokespecial 11, 3) := by decide +kernel
theorem dX10_init_66 : decode cX10_init 66 = .ok (.putfield 29, 3) := by decide +kernel
theorem dX10_init_69 : decode cX10_init 69 = .ok (.aload_n 0, 1) := by decide +kernel
theorem dX10_init_70 : decode cX10_init 70 = .ok (.new 9, 3) := by decide +kernel
theorem dX10_init_73 : decode cX10_init 73 = .ok (.dup, 1) := by decide +kernel
theorem dX10_init_74 : decode cX10_init 74 = .ok (.bipush 6, 2) := by decide +kernel
theorem dX10_init_76 : decode cX10_init 76 = .ok (.invokespecial 11, 3) := by decide +kernel
theorem dX10_init_79 : decode cX10_init 79 = .ok (.putfield 32, 3) := by decide +kernel
theorem dX10_init_82 : decode cX10_init 82 = .ok (.return_, 1) := by decide +kernel
theorem dX10_become_0 : decode cX10_become 0 = .ok (.aload_n 0, 1) := by decide +kernel
theorem dX10_become_1 : decode cX10_become 1 = .ok (.getfield 14, 3) := by decide +kernel
theorem dX10_become_4 : decode cX10_become 4 = .ok (.aload_n 1, 1) := by decide +kernel
theorem dX10_become_5 : decode cX10_become 5 = .ok (.getfield 14, 3) := by decide +kernel
theorem dX10_become_8 : decode cX10_become 8 = .ok (.invokevirtual 35, 3) := by decide +kernel
theorem dX10_become_11 : decode cX10_become 11 = .ok (.aload_n 0, 1) := by decide +kernel
theorem dX10_become_12 : decode cX10_become 12 = .ok (.getfield 20, 3) := by decide +kernel
theorem dX10_become_15 : decode cX10_become 15 = .ok (.aload_n 1, 1) := by decide +kernel
theorem dX10_become_16 : decode cX10_become 16 = .ok (.getfield 20, 3) := by decide +kernel
theorem dX10_become_19 : decode cX10_become 19 = .ok (.invokevirtual 35, 3) := by decide +kernel
theorem dX10_become_22 : decode cX10_become 22 = .ok (.aload_n 0, 1) := by decide +kernel
theorem dX10_become_23 : decode cX10_become 23 = .ok (.getfield 23, 3) := by decide +kernel
theorem dX10_become_26 : decode cX10_become 26 = .ok (.aload_n 1, 1) := by decide +kernel
theorem dX10_become_27 : decode cX10_become 27 = .ok (.getfield 23, 3) := by decide +kernel
theorem dX10_become_30 : decode cX10_become 30 = .ok (.invokevirtual 35, 3) := by decide +kernel
theorem dX10_become_33 : decode cX10_become 33 = .ok (.aload_n 0, 1) := by decide +kernel
theorem dX10_become_34 : decode cX10_become 34 = .ok (.getfield 26, 3) := by decide +kernel
theorem dX10_become_37 : decode cX10_become 37 = .ok (.aload_n 1, 1) := by decide +kernel
theorem dX10_become_38 : decode cX10_become 38 = .ok (.getfield 26, 3) := by decide +kernel
theorem dX10_become_41 : decode cX10_become 41 = .ok (.invokevirtual 35, 3) := by decide +kernel
theorem dX10_become_44 : decode cX10_become 44 = .ok (.return_, 1) := by decide +kernel
theorem dX10_empty_0 : decode cX10_empty 0 = .ok (.aload_n 0, 1) := by decide +kernel
theorem dX10_empty_1 : decode cX10_empty 1 = .ok (.getfield 14, 3) := by decide +kernel
theorem dX10_empty_4 : decode cX10_empty 4 = .ok (.iconst 0, 1) := by decide +kernel
theorem dX10_empty_5 : decode cX10_empty 5 = .ok (.invokevirtual 39, 3) := by decide +kernel
theorem dX10_empty_8 : decode cX10_empty 8 = .ok (.aload_n 0, 1) := by decide +kernel
theorem dX10_empty_9 : decode cX10_empty 9 = .ok (.getfield 20, 3) := by decide +kernel
theorem dX10_empty_12 : decode cX10_empty 12 = .ok (.iconst 0, 1) := by decide +kernel
theorem dX10_empty_13 : decode cX10_empty 13 = .ok (.invokevirtual 39, 3) := by decide +kernel
theorem dX10_empty_16 : decode cX10_empty 16 = .ok (.aload_n 0, 1) := by decide +kernel
theorem dX10_empty_17 : decode cX10_empty 17 = .ok (.getfield 23, 3) := by decide +kernel
theorem dX10_empty_20 : decode cX10_empty 20 = .ok (.iconst 0, 1) := by decide +kernel
theorem dX10_empty_21 : decode cX10_empty 21 = .ok (.invokevirtual 39, 3) := by decide +kernel
theorem dX10_empty_24 : decode cX10_empty 24 = .ok (.aload_n 0, 1) := by decide +kernel
theorem dX10_empty_25 : decode cX10_empty 25 = .ok (.getfield 26, 3) := by decide +kernel
theorem dX10_empty_28 : decode cX10_empty 28 = .ok (.iconst 0, 1) := by decide +kernel
theorem dX10_empty_29 : decode cX10_empty 29 = .ok (.invokevirtual 39, 3) := by decide +kernel
theorem dX10_empty_32 : decode cX10_empty 32 = .ok (.return_, 1) := by decide +kernel
theorem dX10_many_0 : decode cX10_many 0 = .ok (.aload_n 0, 1) := by decide +kernel
theorem dX10_many_1 : decode cX10_many 1 = .ok (.getfield 14, 3) := by decide +kernel
theorem dX10_many_4 : decode cX10_many 4 = .ok (.invokevirtual 42, 3) := by decide +kernel
theorem dX10_many_7 : decode cX10_many 7 = .ok (.ireturn, 1) := by decide +kernel
theorem dX10_addWork_0 : decode cX10_addWork 0 = .ok (.aload_n 0, 1) := by decide +kernel
theorem dX10_addWork_1 : decode cX10_addWork 1 = .ok (.getfield 14, 3) := by decide +kernel
theorem dX10_addWork_4 : decode cX10_addWork 4 = .ok (.iload_n 1, 1) := by decide +kernel
theorem dX10_addWork_5 : decode cX10_addWork 5 = .ok (.invokevirtual 46, 3) := by decide +kernel
theorem dX10_addWork_8 : decode cX10_addWork 8 = .ok (.pop, 1) := by decide +kernel
theorem dX10_addWork_9 : decode cX10_addWork 9 = .ok (.aload_n 0, 1) := by decide +kernel
theorem dX10_addWork_10 : decode cX10_addWork 10 = .ok (.getfield 20, 3) := by decide +kernel
theorem dX10_addWork_13 : decode cX10_addWork 13 = .ok (.iload_n 2, 1) := by decide +kernel
theorem dX10_addWork_14 : decode cX10_addWork 14 = .ok (.invokevirtual 46, 3) := by decide +kernel
theorem dX10_addWork_17 : decode cX10_addWork 17 = .ok (.pop, 1) := by decide +kernel
theorem dX10_addWork_18 : decode cX10_addWork 18 = .ok (.aload_n 0, 1) := by decide +kernel
theorem dX10_addWork_19 : decode cX10_addWork 19 = .ok (.getfield 23, 3) := by decide +kernel
theorem dX10_addWork_22 : decode cX10_addWork 22 = .ok (.iload_n 3, 1) := by decide +kernel
theorem dX10_addWork_23 : decode cX10_addWork 23 = .ok (.invokevirtual 46, 3) := by decide +kernel
theorem dX10_addWork_26 : decode cX10_addWork 26 = .ok (.pop, 1) := by decide +kernel
theorem dX10_addWork_27 : decode cX10_addWork 27 = .ok (.aload_n 0, 1) := by decide +kernel
theorem dX10_addWork_28 : decode cX10_addWork 28 = .ok (.getfield 26, 3) := by decide +kernel
theorem dX10_addWork_31 : decode cX10_addWork 31 = .ok (.iload 4, 2) := by decide +kernel
theorem dX10_addWork_33 : decode cX10_addWork 33 = .ok (.invokevirtual 46, 3) := by decide +kernel
theorem dX10_addWork_36 : decode cX10_addWork 36 = .ok (.pop, 1) := by decide +kernel
theorem dX10_addWork_37 : decode cX10_addWork 37 = .ok (.aload_n 0, 1) := by decide +kernel
theorem dX10_addWork_38 : decode cX10_addWork 38 = .ok (.invokevirtual 50, 3) := by decide +kernel
theorem dX10_addWork_41 : decode cX10_addWork 41 = .ok (.iconst 1, 1) := by decide +kernel
theorem dX10_addWork_42 : decode cX10_addWork 42 = .ok (.isub, 1) := by decide +kernel
theorem dX10_addWork_43 : decode cX10_addWork 43 = .ok (.ireturn, 1) := by decide +kernel
theorem dX10_find_0 : decode cX10_find 0 = .ok (.aload_n 0, 1) := by decide +kernel
theorem dX10_find_1 : decode cX10_find 1 = .ok (.iload_n 1, 1) := by decide +kernel
theorem dX10_find_2 : decode cX10_find 2 = .ok (.putfield 53, 3) := by decide +kernel
theorem dX10_find_5 : decode cX10_find 5 = .ok (.aload_n 0, 1) := by decide +kernel
theorem dX10_find_6 : decode cX10_find 6 = .ok (.aload_n 3, 1) := by decide +kernel
theorem dX10_find_7 : decode cX10_find 7 = .ok (.iconst 0, 1) := by decide +kernel
theorem dX10_find_8 : decode cX10_find 8 = .ok (.invokevirtual 57, 3) := by decide +kernel
theorem dX10_find_11 : decode cX10_find 11 = .ok (.putfield 63, 3) := by decide +kernel
theorem dX10_find_14 : decode cX10_find 14 = .ok (.aload_n 0, 1) := by decide +kernel
theorem dX10_find_15 : decode cX10_find 15 = .ok (.iload_n 2, 1) := by decide +kernel
theorem dX10_find_16 : decode cX10_find 16 = .ok (.putfield 66, 3) := by decide +kernel
theorem dX10_find_19 : decode cX10_find 19 = .ok (.aload_n 0, 1) := by decide +kernel
theorem dX10_find_20 : decode cX10_find 20 = .ok (.iconst 0, 1) := by decide +kernel
theorem dX10_find_21 : decode cX10_find 21 = .ok (.putfield 69, 3) := by decide +kernel
theorem dX10_find_24 : decode cX10_find 24 = .ok (.aload_n 0, 1) := by decide +kernel
theorem dX10_find_25 : decode cX10_find 25 = .ok (.iconst (-1), 1) := by decide +kernel
theorem dX10_find_26 : decode cX10_find 26 = .ok (.putfield 73, 3) := by decide +kernel
theorem dX10_find_29 : decode cX10_find 29 = .ok (.aload_n 0, 1) := by decide +kernel
theorem dX10_find_30 : decode cX10_find 30 = .ok (.getfield 29, 3) := by decide +kernel
theorem dX10_find_33 : decode cX10_find 33 = .ok (.iconst 0, 1) := by decide +kernel
theorem dX10_find_34 : decode cX10_find 34 = .ok (.invokevirtual 39, 3) := by decide +kernel
theorem dX10_find_37 : decode cX10_find 37 = .ok (.aload_n 0, 1) := by decide +kernel
theorem dX10_find_38 : decode cX10_find 38 = .ok (.getfield 32, 3) := by decide +kernel
theorem dX10_find_41 : decode cX10_find 41 = .ok (.iconst 0, 1) := by decide +kernel
theorem dX10_find_42 : decode cX10_find 42 = .ok (.invokevirtual 39, 3) := by decide +kernel
theorem dX10_find_45 : decode cX10_find 45 = .ok (.aload_n 0, 1) := by decide +kernel
theorem dX10_find_46 : decode cX10_find 46 = .ok (.iconst 0, 1) := by decide +kernel
theorem dX10_find_47 : decode cX10_find 47 = .ok (.iconst 0, 1) := by decide +kernel
theorem dX10_find_48 : decode cX10_find 48 = .ok (.aload_n 3, 1) := by decide +kernel
theorem dX10_find_49 : decode cX10_find 49 = .ok (.getfield 76, 3) := by decide +kernel
theorem dX10_find_52 : decode cX10_find 52 = .ok (.aload_n 3, 1) := by decide +kernel
theorem dX10_find_53 : decode cX10_find 53 = .ok (.getfield 79, 3) := by decide +kernel
theorem dX10_find_56 : decode cX10_find 56 = .ok (.invokevirtual 82, 3) := by decide +kernel
theorem dX10_find_59 : decode cX10_find 59 = .ok (.aload_n 0, 1) := by decide +kernel
theorem dX10_find_60 : decode cX10_find 60 = .ok (.getfield 69, 3) := by decide +kernel
theorem dX10_find_63 : decode cX10_find 63 = .ok (.ifCond .eq 6, 3) := by decide +kernel
theorem dX10_find_66 : decode cX10_find 66 = .ok (.ldc 86, 2) := by decide +kernel
theorem dX10_find_68 : decode cX10_find 68 = .ok (.ireturn, 1) := by decide +kernel
theorem dX10_find_69 : decode cX10_find 69 = .ok (.aload_n 0, 1) := by decide +kernel
theorem dX10_find_70 : decode cX10_find 70 = .ok (.getfield 73, 3) := by decide +kernel
theorem dX10_find_73 : decode cX10_find 73 = .ok (.ifCond .ge 8, 3) := by decide +kernel
theorem dX10_find_76 : decode cX10_find 76 = .ok (.ldc 87, 2) := by decide +kernel
theorem dX10_find_78 : decode cX10_find 78 = .ok (.goto 7, 3) := by decide +kernel
theorem dX10_find_81 : decode cX10_find 81 = .ok (.aload_n 0, 1) := by decide +kernel
theorem dX10_find_82 : decode cX10_find 82 = .ok (.getfield 73, 3) := by decide +kernel
theorem dX10_find_85 : decode cX10_find 85 = .ok (.ireturn, 1) := by decide +kernel
theorem dX10_seek_0 : decode cX10_seek 0 = .ok (.aload_n 0, 1) := by decide +kernel
theorem dX10_seek_1 : decode cX10_seek 1 = .ok (.iload_n 2, 1) := by decide +kernel
theorem dX10_seek_2 : decode cX10_seek 2 = .ok (.iload_n 3, 1) := by decide +kernel
theorem dX10_seek_3 : decode cX10_seek 3 = .ok (.iload 4, 2) := by decide +kernel
theorem dX10_seek_5 : decode cX10_seek 5 = .ok (.invokevirtual 88, 3) := by decide +kernel
theorem dX10_seek_8 : decode cX10_seek 8 = .ok (.aload_n 0, 1) := by decide +kernel
theorem dX10_seek_9 : decode cX10_seek 9 = .ok (.getfield 29, 3) := by decide +kernel
theorem dX10_seek_12 : decode cX10_seek 12 = .ok (.invokevirtual 42, 3) := by decide +kernel
theorem dX10_seek_15 : decode cX10_seek 15 = .ok (.bipush 6, 2) := by decide +kernel
theorem dX10_seek_17 : decode cX10_seek 17 = .ok (.if_icmp .lt 4, 3) := by decide +kernel
theorem dX10_seek_20 : decode cX10_seek 20 = .ok (.return_, 1) := by decide +kernel
theorem dX10_seek_21 : decode cX10_seek 21 = .ok (.iconst 0, 1) := by decide +kernel
theorem dX10_seek_22 : decode cX10_seek 22 = .ok (.istore 5, 2) := by decide +kernel
theorem dX10_seek_24 : decode cX10_seek 24 = .ok (.iload 5, 2) := by decide +kernel
theorem dX10_seek_26 : decode cX10_seek 26 = .ok (.aload_n 0, 1) := by decide +kernel
theorem dX10_seek_27 : decode cX10_seek 27 = .ok (.invokevirtual 50, 3) := by decide +kernel
theorem dX10_seek_30 : decode cX10_seek 30 = .ok (.if_icmp .ge 38, 3) := by decide +kernel
theorem dX10_seek_33 : decode cX10_seek 33 = .ok (.aload_n 0, 1) := by decide +kernel
theorem dX10_seek_34 : decode cX10_seek 34 = .ok (.getfield 69, 3) := by decide +kernel
theorem dX10_seek_37 : decode cX10_seek 37 = .ok (.ifCond .ne 31, 3) := by decide +kernel
theorem dX10_seek_40 : decode cX10_seek 40 = .ok (.aload_n 0, 1) := by decide +kernel
theorem dX10_seek_41 : decode cX10_seek 41 = .ok (.iload 5, 2) := by decide +kernel
theorem dX10_seek_43 : decode cX10_seek 43 = .ok (.iload_n 1, 1) := by decide +kernel
theorem dX10_seek_44 : decode cX10_seek 44 = .ok (.iload_n 2, 1) := by decide +kernel
theorem dX10_seek_45 : decode cX10_seek 45 = .ok (.invokevirtual 92, 3) := by decide +kernel
theorem dX10_seek_48 : decode cX10_seek 48 = .ok (.ifCond .eq 14, 3) := by decide +kernel
theorem dX10_seek_51 : decode cX10_seek 51 = .ok (.aload_n 0, 1) := by decide +kernel
theorem dX10_seek_52 : decode cX10_seek 52 = .ok (.iload 5, 2) := by decide +kernel
theorem dX10_seek_54 : decode cX10_seek 54 = .ok (.iload_n 1, 1) := by decide +kernel
theorem dX10_seek_55 : decode cX10_seek 55 = .ok (.iload_n 2, 1) := by decide +kernel
theorem dX10_seek_56 : decode cX10_seek 56 = .ok (.iload_n 3, 1) := by decide +kernel
theorem dX10_seek_57 : decode cX10_seek 57 = .ok (.iload 4, 2) := by decide +kernel
theorem dX10_seek_59 : decode cX10_seek 59 = .ok (.invokevirtual 96, 3) := by decide +kernel
theorem dX10_seek_62 : decode cX10_seek 62 = .ok (.iinc 5 1, 3) := by decide +kernel
theorem dX10_seek_65 : decode cX10_seek 65 = .ok (.goto (-41), 3) := by decide +kernel
theorem dX10_seek_68 : decode cX10_seek 68 = .ok (.return_, 1) := by decide +kernel
theorem dX10_weigh_0 : decode cX10_weigh 0 = .ok (.iload_n 2, 1) := by decide +kernel
theorem dX10_weigh_1 : decode cX10_weigh 1 = .ok (.iload_n 3, 1) := by decide +kernel
theorem dX10_weigh_2 : decode cX10_weigh 2 = .ok (.aload_n 0, 1) := by decide +kernel
theorem dX10_weigh_3 : decode cX10_weigh 3 = .ok (.getfield 53, 3) := by decide +kernel
theorem dX10_weigh_6 : decode cX10_weigh 6 = .ok (.iload_n 1, 1) := by decide +kernel
theorem dX10_weigh_7 : decode cX10_weigh 7 = .ok (.isub, 1) := by decide +kernel
theorem dX10_weigh_8 : decode cX10_weigh 8 = .ok (.aload_n 0, 1) := by decide +kernel
theorem dX10_weigh_9 : decode cX10_weigh 9 = .ok (.getfield 63, 3) := by decide +kernel
theorem dX10_weigh_12 : decode cX10_weigh 12 = .ok (.invokestatic 100, 3) := by decide +kernel
theorem dX10_weigh_15 : decode cX10_weigh 15 = .ok (.istore 4, 2) := by decide +kernel
theorem dX10_weigh_17 : decode cX10_weigh 17 = .ok (.iload 4, 2) := by decide +kernel
theorem dX10_weigh_19 : decode cX10_weigh 19 = .ok (.aload_n 0, 1) := by decide +kernel
theorem dX10_weigh_20 : decode cX10_weigh 20 = .ok (.getfield 73, 3) := by decide +kernel
theorem dX10_weigh_23 : decode cX10_weigh 23 = .ok (.if_icmp .le 20, 3) := by decide +kernel
theorem dX10_weigh_26 : decode cX10_weigh 26 = .ok (.aload_n 0, 1) := by decide +kernel
theorem dX10_weigh_27 : decode cX10_weigh 27 = .ok (.iload 4, 2) := by decide +kernel
theorem dX10_weigh_29 : decode cX10_weigh 29 = .ok (.putfield 73, 3) := by decide +kernel
theorem dX10_weigh_32 : decode cX10_weigh 32 = .ok (.aload_n 0, 1) := by decide +kernel
theorem dX10_weigh_33 : decode cX10_weigh 33 = .ok (.getfield 32, 3) := by decide +kernel
theorem dX10_weigh_36 : decode cX10_weigh 36 = .ok (.aload_n 0, 1) := by decide +kernel
theorem dX10_weigh_37 : decode cX10_weigh 37 = .ok (.getfield 29, 3) := by decide +kernel
theorem dX10_weigh_40 : decode cX10_weigh 40 = .ok (.invokevirtual 35, 3) := by decide +kernel
theorem dX10_weigh_43 : decode cX10_weigh 43 = .ok (.return_, 1) := by decide +kernel
theorem dX10_canFollow_0 : decode cX10_canFollow 0 = .ok (.iload_n 2, 1) := by decide +kernel
theorem dX10_canFollow_1 : decode cX10_canFollow 1 = .ok (.iconst 1, 1) := by decide +kernel
theorem dX10_canFollow_2 : decode cX10_canFollow 2 = .ok (.iload_n 1, 1) := by decide +kernel
theorem dX10_canFollow_3 : decode cX10_canFollow 3 = .ok (.ishl, 1) := by decide +kernel
theorem dX10_canFollow_4 : decode cX10_canFollow 4 = .ok (.iand, 1) := by decide +kernel
theorem dX10_canFollow_5 : decode cX10_canFollow 5 = .ok (.ifCond .ne 7, 3) := by decide +kernel
theorem dX10_canFollow_8 : decode cX10_canFollow 8 = .ok (.iconst 1, 1) := by decide +kernel
theorem dX10_canFollow_9 : decode cX10_canFollow 9 = .ok (.goto 4, 3) := by decide +kernel
theorem dX10_canFollow_12 : decode cX10_canFollow 12 = .ok (.iconst 0, 1) := by decide +kernel
theorem dX10_canFollow_13 : decode cX10_canFollow 13 = .ok (.istore 4, 2) := by decide +kernel
theorem dX10_canFollow_15 : decode cX10_canFollow 15 = .ok (.aload_n 0, 1) := by decide +kernel
theorem dX10_canFollow_16 : decode cX10_canFollow 16 = .ok (.getfield 26, 3) := by decide +kernel
theorem dX10_canFollow_19 : decode cX10_canFollow 19 = .ok (.iload_n 1, 1) := by decide +kernel
theorem dX10_canFollow_20 : decode cX10_canFollow 20 = .ok (.invokevirtual 104, 3) := by decide +kernel
theorem dX10_canFollow_23 : decode cX10_canFollow 23 = .ok (.iload_n 2, 1) := by decide +kernel
theorem dX10_canFollow_24 : decode cX10_canFollow 24 = .ok (.iconst (-1), 1) := by decide +kernel
theorem dX10_canFollow_25 : decode cX10_canFollow 25 = .ok (.ixor, 1) := by decide +kernel
theorem dX10_canFollow_26 : decode cX10_canFollow 26 = .ok (.iand, 1) := by decide +kernel
theorem dX10_canFollow_27 : decode cX10_canFollow 27 = .ok (.ifCond .ne 7, 3) := by decide +kernel
theorem dX10_canFollow_30 : decode cX10_canFollow 30 = .ok (.iconst 1, 1) := by decide +kernel
theorem dX10_canFollow_31 : decode cX10_canFollow 31 = .ok (.goto 4, 3) := by decide +kernel
theorem dX10_canFollow_34 : decode cX10_canFollow 34 = .ok (.iconst 0, 1) := by decide +kernel
theorem dX10_canFollow_35 : decode cX10_canFollow 35 = .ok (.istore 5, 2) := by decide +kernel
theorem dX10_canFollow_37 : decode cX10_canFollow 37 = .ok (.iload 4, 2) := by decide +kernel
theorem dX10_canFollow_39 : decode cX10_canFollow 39 = .ok (.ifCond .eq 29, 3) := by decide +kernel
theorem dX10_canFollow_42 : decode cX10_canFollow 42 = .ok (.iload 5, 2) := by decide +kernel
theorem dX10_canFollow_44 : decode cX10_canFollow 44 = .ok (.ifCond .eq 24, 3) := by decide +kernel
theorem dX10_canFollow_47 : decode cX10_canFollow 47 = .ok (.iload_n 3, 1) := by decide +kernel
theorem dX10_canFollow_48 : decode cX10_canFollow 48 = .ok (.aload_n 0, 1) := by decide +kernel
theorem dX10_canFollow_49 : decode cX10_canFollow 49 = .ok (.getfield 14, 3) := by decide +kernel
theorem dX10_canFollow_52 : decode cX10_canFollow 52 = .ok (.iload_n 1, 1) := by decide +kernel
theorem dX10_canFollow_53 : decode cX10_canFollow 53 = .ok (.invokevirtual 104, 3) := by decide +kernel
theorem dX10_canFollow_56 : decode cX10_canFollow 56 = .ok (.iadd, 1) := by decide +kernel
theorem dX10_canFollow_57 : decode cX10_canFollow 57 = .ok (.aload_n 0, 1) := by decide +kernel
theorem dX10_canFollow_58 : decode cX10_canFollow 58 = .ok (.getfield 53, 3) := by decide +kernel
theorem dX10_canFollow_61 : decode cX10_canFollow 61 = .ok (.if_icmp .gt 7, 3) := by decide +kernel
theorem dX10_canFollow_64 : decode cX10_canFollow 64 = .ok (.iconst 1, 1) := by decide +kernel
theorem dX10_canFollow_65 : decode cX10_canFollow 65 = .ok (.goto 4, 3) := by decide +kernel
theorem dX10_canFollow_68 : decode cX10_canFollow 68 = .ok (.iconst 0, 1) := by decide +kernel
theorem dX10_canFollow_69 : decode cX10_canFollow 69 = .ok (.ireturn, 1) := by decide +kernel
theorem dX10_tryWork_0 : decode cX10_tryWork 0 = .ok (.aload_n 0, 1) := by decide +kernel
theorem dX10_tryWork_1 : decode cX10_tryWork 1 = .ok (.getfield 66, 3) := by decide +kernel
theorem dX10_tryWork_4 : decode cX10_tryWork 4 = .ok (.ifCond .gt 9, 3) := by decide +kernel
theorem dX10_tryWork_7 : decode cX10_tryWork 7 = .ok (.aload_n 0, 1) := by decide +kernel
theorem dX10_tryWork_8 : decode cX10_tryWork 8 = .ok (.iconst 1, 1) := by decide +kernel
theorem dX10_tryWork_9 : decode cX10_tryWork 9 = .ok (.putfield 69, 3) := by decide +kernel
theorem dX10_tryWork_12 : decode cX10_tryWork 12 = .ok (.return_, 1) := by decide +kernel
theorem dX10_tryWork_13 : decode cX10_tryWork 13 = .ok (.aload_n 0, 1) := by decide +kernel
theorem dX10_tryWork_14 : decode cX10_tryWork 14 = .ok (.dup, 1) := by decide +kernel
theorem dX10_tryWork_15 : decode cX10_tryWork 15 = .ok (.getfield 66, 3) := by decide +kernel
theorem dX10_tryWork_18 : decode cX10_tryWork 18 = .ok (.iconst 1, 1) := by decide +kernel
theorem dX10_tryWork_19 : decode cX10_tryWork 19 = .ok (.isub, 1) := by decide +kernel
theorem dX10_tryWork_20 : decode cX10_tryWork 20 = .ok (.putfield 66, 3) := by decide +kernel
theorem dX10_tryWork_23 : decode cX10_tryWork 23 = .ok (.iload 4, 2) := by decide +kernel
theorem dX10_tryWork_25 : decode cX10_tryWork 25 = .ok (.iload 5, 2) := by decide +kernel
theorem dX10_tryWork_27 : decode cX10_tryWork 27 = .ok (.aload_n 0, 1) := by decide +kernel
theorem dX10_tryWork_28 : decode cX10_tryWork 28 = .ok (.getfield 14, 3) := by decide +kernel
theorem dX10_tryWork_31 : decode cX10_tryWork 31 = .ok (.iload_n 1, 1) := by decide +kernel
theorem dX10_tryWork_32 : decode cX10_tryWork 32 = .ok (.invokevirtual 104, 3) := by decide +kernel
theorem dX10_tryWork_35 : decode cX10_tryWork 35 = .ok (.aload_n 0, 1) := by decide +kernel
theorem dX10_tryWork_36 : decode cX10_tryWork 36 = .ok (.getfield 63, 3) := by decide +kernel
theorem dX10_tryWork_39 : decode cX10_tryWork 39 = .ok (.aload_n 0, 1) := by decide +kernel
theorem dX10_tryWork_40 : decode cX10_tryWork 40 = .ok (.getfield 20, 3) := by decide +kernel
theorem dX10_tryWork_43 : decode cX10_tryWork 43 = .ok (.iload_n 1, 1) := by decide +kernel
theorem dX10_tryWork_44 : decode cX10_tryWork 44 = .ok (.invokevirtual 104, 3) := by decide +kernel
theorem dX10_tryWork_47 : decode cX10_tryWork 47 = .ok (.iadd, 1) := by decide +kernel
theorem dX10_tryWork_48 : decode cX10_tryWork 48 = .ok (.invokestatic 100, 3) := by decide +kernel
theorem dX10_tryWork_51 : decode cX10_tryWork 51 = .ok (.istore 6, 2) := by decide +kernel
theorem dX10_tryWork_53 : decode cX10_tryWork 53 = .ok (.iload 6, 2) := by decide +kernel
theorem dX10_tryWork_55 : decode cX10_tryWork 55 = .ok (.ifCond .lt 52, 3) := by decide +kernel
theorem dX10_tryWork_58 : decode cX10_tryWork 58 = .ok (.aload_n 0, 1) := by decide +kernel
theorem dX10_tryWork_59 : decode cX10_tryWork 59 = .ok (.getfield 29, 3) := by decide +kernel
theorem dX10_tryWork_62 : decode cX10_tryWork 62 = .ok (.iload_n 1, 1) := by decide +kernel
theorem dX10_tryWork_63 : decode cX10_tryWork 63 = .ok (.invokevirtual 46, 3) := by decide +kernel
theorem dX10_tryWork_66 : decode cX10_tryWork 66 = .ok (.pop, 1) := by decide +kernel
theorem dX10_tryWork_67 : decode cX10_tryWork 67 = .ok (.aload_n 0, 1) := by decide +kernel
theorem dX10_tryWork_68 : decode cX10_tryWork 68 = .ok (.iload_n 2, 1) := by decide +kernel
theorem dX10_tryWork_69 : decode cX10_tryWork 69 = .ok (.iconst 1, 1) := by decide +kernel
theorem dX10_tryWork_70 : decode cX10_tryWork 70 = .ok (.iload_n 1, 1) := by decide +kernel
theorem dX10_tryWork_71 : decode cX10_tryWork 71 = .ok (.ishl, 1) := by decide +kernel
theorem dX10_tryWork_72 : decode cX10_tryWork 72 = .ok (.ior, 1) := by decide +kernel
theorem dX10_tryWork_73 : decode cX10_tryWork 73 = .ok (.iload_n 3, 1) := by decide +kernel
theorem dX10_tryWork_74 : decode cX10_tryWork 74 = .ok (.aload_n 0, 1) := by decide +kernel
theorem dX10_tryWork_75 : decode cX10_tryWork 75 = .ok (.getfield 14, 3) := by decide +kernel
theorem dX10_tryWork_78 : decode cX10_tryWork 78 = .ok (.iload_n 1, 1) := by decide +kernel
theorem dX10_tryWork_79 : decode cX10_tryWork 79 = .ok (.invokevirtual 104, 3) := by decide +kernel
theorem dX10_tryWork_82 : decode cX10_tryWork 82 = .ok (.iadd, 1) := by decide +kernel
theorem dX10_tryWork_83 : decode cX10_tryWork 83 = .ok (.iload 6, 2) := by decide +kernel
theorem dX10_tryWork_85 : decode cX10_tryWork 85 = .ok (.iload 5, 2) := by decide +kernel
theorem dX10_tryWork_87 : decode cX10_tryWork 87 = .ok (.aload_n 0, 1) := by decide +kernel
theorem dX10_tryWork_88 : decode cX10_tryWork 88 = .ok (.getfield 23, 3) := by decide +kernel
theorem dX10_tryWork_91 : decode cX10_tryWork 91 = .ok (.iload_n 1, 1) := by decide +kernel
theorem dX10_tryWork_92 : decode cX10_tryWork 92 = .ok (.invokevirtual 104, 3) := by decide +kernel
theorem dX10_tryWork_95 : decode cX10_tryWork 95 = .ok (.iadd, 1) := by decide +kernel
theorem dX10_tryWork_96 : decode cX10_tryWork 96 = .ok (.invokevirtual 82, 3) := by decide +kernel
theorem dX10_tryWork_99 : decode cX10_tryWork 99 = .ok (.aload_n 0, 1) := by decide +kernel
theorem dX10_tryWork_100 : decode cX10_tryWork 100 = .ok (.getfield 29, 3) := by decide +kernel
theorem dX10_tryWork_103 : decode cX10_tryWork 103 = .ok (.invokevirtual 107, 3) := by decide +kernel
theorem dX10_tryWork_106 : decode cX10_tryWork 106 = .ok (.pop, 1) := by decide +kernel
theorem dX10_tryWork_107 : decode cX10_tryWork 107 = .ok (.return_, 1) := by decide +kernel
theorem dX10_live_0 : decode cX10_live 0 = .ok (.iload_n 0, 1) := by decide +kernel
theorem dX10_live_1 : decode cX10_live 1 = .ok (.istore 4, 2) := by decide +kernel
theorem dX10_live_3 : decode cX10_live 3 = .ok (.iconst 0, 1) := by decide +kernel
theorem dX10_live_4 : decode cX10_live 4 = .ok (.istore 5, 2) := by decide +kernel
theorem dX10_live_6 : decode cX10_live 6 = .ok (.iload 5, 2) := by decide +kernel
theorem dX10_live_8 : decode cX10_live 8 = .ok (.iload_n 2, 1) := by decide +kernel
theorem dX10_live_9 : decode cX10_live 9 = .ok (.if_icmp .ge 28, 3) := by decide +kernel
theorem dX10_live_12 : decode cX10_live 12 = .ok (.iload 4, 2) := by decide +kernel
theorem dX10_live_14 : decode cX10_live 14 = .ok (.ifCond .lt 23, 3) := by decide +kernel
theorem dX10_live_17 : decode cX10_live 17 = .ok (.sipush 9999, 3) := by decide +kernel
theorem dX10_live_20 : decode cX10_live 20 = .ok (.iload 4, 2) := by decide +kernel
theorem dX10_live_22 : decode cX10_live 22 = .ok (.iload_n 1, 1) := by decide +kernel
theorem dX10_live_23 : decode cX10_live 23 = .ok (.iadd, 1) := by decide +kernel
theorem dX10_live_24 : decode cX10_live 24 = .ok (.invokestatic 110, 3) := by decide +kernel
theorem dX10_live_27 : decode cX10_live 27 = .ok (.iload_n 3, 1) := by decide +kernel
theorem dX10_live_28 : decode cX10_live 28 = .ok (.isub, 1) := by decide +kernel
theorem dX10_live_29 : decode cX10_live 29 = .ok (.istore 4, 2) := by decide +kernel
theorem dX10_live_31 : decode cX10_live 31 = .ok (.iinc 5 1, 3) := by decide +kernel
theorem dX10_live_34 : decode cX10_live 34 = .ok (.goto (-28), 3) := by decide +kernel
theorem dX10_live_37 : decode cX10_live 37 = .ok (.iconst (-1), 1) := by decide +kernel
theorem dX10_live_38 : decode cX10_live 38 = .ok (.iload 4, 2) := by decide +kernel
theorem dX10_live_40 : decode cX10_live 40 = .ok (.invokestatic 116, 3) := by decide +kernel
theorem dX10_live_43 : decode cX10_live 43 = .ok (.ireturn, 1) := by decide +kernel
theorem dX10_listRows_0 : decode cX10_listRows 0 = .ok (.aload_n 1, 1) := by decide +kernel
theorem dX10_listRows_1 : decode cX10_listRows 1 = .ok (.getfield 76, 3) := by decide +kernel
theorem dX10_listRows_4 : decode cX10_listRows 4 = .ok (.istore_n 3, 1) := by decide +kernel
theorem dX10_listRows_5 : decode cX10_listRows 5 = .ok (.aload_n 1, 1) := by decide +kernel
theorem dX10_listRows_6 : decode cX10_listRows 6 = .ok (.getfield 79, 3) := by decide +kernel
theorem dX10_listRows_9 : decode cX10_listRows 9 = .ok (.istore 4, 2) := by decide +kernel
theorem dX10_listRows_11 : decode cX10_listRows 11 = .ok (.iconst 0, 1) := by decide +kernel
theorem dX10_listRows_12 : decode cX10_listRows 12 = .ok (.istore 5, 2) := by decide +kernel
theorem dX10_listRows_14 : decode cX10_listRows 14 = .ok (.iconst 0, 1) := by decide +kernel
theorem dX10_listRows_15 : decode cX10_listRows 15 = .ok (.istore 6, 2) := by decide +kernel
theorem dX10_listRows_17 : decode cX10_listRows 17 = .ok (.iload 6, 2) := by decide +kernel
theorem dX10_listRows_19 : decode cX10_listRows 19 = .ok (.aload_n 0, 1) := by decide +kernel
theorem dX10_listRows_20 : decode cX10_listRows 20 = .ok (.getfield 32, 3) := by decide +kernel
theorem dX10_listRows_23 : decode cX10_listRows 23 = .ok (.invokevirtual 42, 3) := by decide +kernel
theorem dX10_listRows_26 : decode cX10_listRows 26 = .ok (.if_icmp .ge 106, 3) := by decide +kernel
theorem dX10_listRows_29 : decode cX10_listRows 29 = .ok (.aload_n 0, 1) := by decide +kernel
theorem dX10_listRows_30 : decode cX10_listRows 30 = .ok (.getfield 32, 3) := by decide +kernel
theorem dX10_listRows_33 : decode cX10_listRows 33 = .ok (.iload 6, 2) := by decide +kernel
theorem dX10_listRows_35 : decode cX10_listRows 35 = .ok (.invokevirtual 104, 3) := by decide +kernel
theorem dX10_listRows_38 : decode cX10_listRows 38 = .ok (.istore 7, 2) := by decide +kernel
theorem dX10_listRows_40 : decode cX10_listRows 40 = .ok (.iconst 0, 1) := by decide +kernel
theorem dX10_listRows_41 : decode cX10_listRows 41 = .ok (.istore 8, 2) := by decide +kernel
theorem dX10_listRows_43 : decode cX10_listRows 43 = .ok (.iload 8, 2) := by decide +kernel
theorem dX10_listRows_45 : decode cX10_listRows 45 = .ok (.aload_n 0, 1) := by decide +kernel
theorem dX10_listRows_46 : decode cX10_listRows 46 = .ok (.getfield 14, 3) := by decide +kernel
theorem dX10_listRows_49 : decode cX10_listRows 49 = .ok (.iload 7, 2) := by decide +kernel
theorem dX10_listRows_51 : decode cX10_listRows 51 = .ok (.invokevirtual 104, 3) := by decide +kernel
theorem dX10_listRows_54 : decode cX10_listRows 54 = .ok (.if_icmp .ge 44, 3) := by decide +kernel
theorem dX10_listRows_57 : decode cX10_listRows 57 = .ok (.iload_n 3, 1) := by decide +kernel
theorem dX10_listRows_58 : decode cX10_listRows 58 = .ok (.iload 4, 2) := by decide +kernel
theorem dX10_listRows_60 : decode cX10_listRows 60 = .ok (.iconst 1, 1) := by decide +kernel
theorem dX10_listRows_61 : decode cX10_listRows 61 = .ok (.aload_n 0, 1) := by decide +kernel
theorem dX10_listRows_62 : decode cX10_listRows 62 = .ok (.getfield 63, 3) := by decide +kernel
theorem dX10_listRows_65 : decode cX10_listRows 65 = .ok (.aload_n 0, 1) := by decide +kernel
theorem dX10_listRows_66 : decode cX10_listRows 66 = .ok (.getfield 20, 3) := by decide +kernel
theorem dX10_listRows_69 : decode cX10_listRows 69 = .ok (.iload 7, 2) := by decide +kernel
theorem dX10_listRows_71 : decode cX10_listRows 71 = .ok (.invokevirtual 104, 3) := by decide +kernel
theorem dX10_listRows_74 : decode cX10_listRows 74 = .ok (.iadd, 1) := by decide +kernel
theorem dX10_listRows_75 : decode cX10_listRows 75 = .ok (.invokestatic 100, 3) := by decide +kernel
theorem dX10_listRows_78 : decode cX10_listRows 78 = .ok (.istore_n 3, 1) := by decide +kernel
theorem dX10_listRows_79 : decode cX10_listRows 79 = .ok (.aload_n 2, 1) := by decide +kernel
theorem dX10_listRows_80 : decode cX10_listRows 80 = .ok (.iload 7, 2) := by decide +kernel
theorem dX10_listRows_82 : decode cX10_listRows 82 = .ok (.invokevirtual 46, 3) := by decide +kernel
theorem dX10_listRows_85 : decode cX10_listRows 85 = .ok (.pop, 1) := by decide +kernel
theorem dX10_listRows_86 : decode cX10_listRows 86 = .ok (.aload_n 2, 1) := by decide +kernel
theorem dX10_listRows_87 : decode cX10_listRows 87 = .ok (.iload_n 3, 1) := by decide +kernel
theorem dX10_listRows_88 : decode cX10_listRows 88 = .ok (.invokevirtual 46, 3) := by decide +kernel
theorem dX10_listRows_91 : decode cX10_listRows 91 = .ok (.pop, 1) := by decide +kernel
theorem dX10_listRows_92 : decode cX10_listRows 92 = .ok (.iinc 8 1, 3) := by decide +kernel
theorem dX10_listRows_95 : decode cX10_listRows 95 = .ok (.goto (-52), 3) := by decide +kernel
theorem dX10_listRows_98 : decode cX10_listRows 98 = .ok (.iload 5, 2) := by decide +kernel
theorem dX10_listRows_100 : decode cX10_listRows 100 = .ok (.aload_n 0, 1) := by decide +kernel
theorem dX10_listRows_101 : decode cX10_listRows 101 = .ok (.getfield 14, 3) := by decide +kernel
theorem dX10_listRows_104 : decode cX10_listRows 104 = .ok (.iload 7, 2) := by decide +kernel
theorem dX10_listRows_106 : decode cX10_listRows 106 = .ok (.invokevirtual 104, 3) := by decide +kernel
theorem dX10_listRows_109 : decode cX10_listRows 109 = .ok (.iadd, 1) := by decide +kernel
theorem dX10_listRows_110 : decode cX10_listRows 110 = .ok (.istore 5, 2) := by decide +kernel
theorem dX10_listRows_112 : decode cX10_listRows 112 = .ok (.iload 4, 2) := by decide +kernel
theorem dX10_listRows_114 : decode cX10_listRows 114 = .ok (.aload_n 0, 1) := by decide +kernel
theorem dX10_listRows_115 : decode cX10_listRows 115 = .ok (.getfield 23, 3) := by decide +kernel
theorem dX10_listRows_118 : decode cX10_listRows 118 = .ok (.iload 7, 2) := by decide +kernel
theorem dX10_listRows_120 : decode cX10_listRows 120 = .ok (.invokevirtual 104, 3) := by decide +kernel
theorem dX10_listRows_123 : decode cX10_listRows 123 = .ok (.iadd, 1) := by decide +kernel
theorem dX10_listRows_124 : decode cX10_listRows 124 = .ok (.istore 4, 2) := by decide +kernel
theorem dX10_listRows_126 : decode cX10_listRows 126 = .ok (.iinc 6 1, 3) := by decide +kernel
theorem dX10_listRows_129 : decode cX10_listRows 129 = .ok (.goto (-112), 3) := by decide +kernel
theorem dX10_listRows_132 : decode cX10_listRows 132 = .ok (.iload 5, 2) := by decide +kernel
theorem dX10_listRows_134 : decode cX10_listRows 134 = .ok (.istore 6, 2) := by decide +kernel
theorem dX10_listRows_136 : decode cX10_listRows 136 = .ok (.iload 6, 2) := by decide +kernel
theorem dX10_listRows_138 : decode cX10_listRows 138 = .ok (.aload_n 0, 1) := by decide +kernel
theorem dX10_listRows_139 : decode cX10_listRows 139 = .ok (.getfield 53, 3) := by decide +kernel
theorem dX10_listRows_142 : decode cX10_listRows 142 = .ok (.if_icmp .ge 33, 3) := by decide +kernel
theorem dX10_listRows_145 : decode cX10_listRows 145 = .ok (.iload_n 3, 1) := by decide +kernel
theorem dX10_listRows_146 : decode cX10_listRows 146 = .ok (.iload 4, 2) := by decide +kernel
theorem dX10_listRows_148 : decode cX10_listRows 148 = .ok (.iconst 1, 1) := by decide +kernel
theorem dX10_listRows_149 : decode cX10_listRows 149 = .ok (.aload_n 0, 1) := by decide +kernel
theorem dX10_listRows_150 : decode cX10_listRows 150 = .ok (.getfield 63, 3) := by decide +kernel
theorem dX10_listRows_153 : decode cX10_listRows 153 = .ok (.invokestatic 100, 3) := by decide +kernel
theorem dX10_listRows_156 : decode cX10_listRows 156 = .ok (.istore_n 3, 1) := by decide +kernel
theorem dX10_listRows_157 : decode cX10_listRows 157 = .ok (.aload_n 2, 1) := by decide +kernel
theorem dX10_listRows_158 : decode cX10_listRows 158 = .ok (.iconst (-1), 1) := by decide +kernel
theorem dX10_listRows_159 : decode cX10_listRows 159 = .ok (.invokevirtual 46, 3) := by decide +kernel
theorem dX10_listRows_162 : decode cX10_listRows 162 = .ok (.pop, 1) := by decide +kernel
theorem dX10_listRows_163 : decode cX10_listRows 163 = .ok (.aload_n 2, 1) := by decide +kernel
theorem dX10_listRows_164 : decode cX10_listRows 164 = .ok (.iload_n 3, 1) := by decide +kernel
theorem dX10_listRows_165 : decode cX10_listRows 165 = .ok (.invokevirtual 46, 3) := by decide +kernel
theorem dX10_listRows_168 : decode cX10_listRows 168 = .ok (.pop, 1) := by decide +kernel
theorem dX10_listRows_169 : decode cX10_listRows 169 = .ok (.iinc 6 1, 3) := by decide +kernel
theorem dX10_listRows_172 : decode cX10_listRows 172 = .ok (.goto (-36), 3) := by decide +kernel
theorem dX10_listRows_175 : decode cX10_listRows 175 = .ok (.return_, 1) := by decide +kernel
theorem dX11_init_0 : decode cX11_init 0 = .ok (.aload_n 0, 1) := by decide +kernel
theorem dX11_init_1 : decode cX11_init 1 = .ok (.invokespecial 1, 3) := by decide +kernel
theorem dX11_init_4 : decode cX11_init 4 = .ok (.aload_n 0, 1) := by decide +kernel
theorem dX11_init_5 : decode cX11_init 5 = .ok (.new 7, 3) := by decide +kernel
theorem dX11_init_8 : decode cX11_init 8 = .ok (.dup, 1) := by decide +kernel
theorem dX11_init_9 : decode cX11_init 9 = .ok (.invokespecial 9, 3) := by decide +kernel
theorem dX11_init_12 : decode cX11_init 12 = .ok (.putfield 10, 3) := by decide +kernel
theorem dX11_init_15 : decode cX11_init 15 = .ok (.aload_n 0, 1) := by decide +kernel
theorem dX11_init_16 : decode cX11_init 16 = .ok (.new 7, 3) := by decide +kernel
theorem dX11_init_19 : decode cX11_init 19 = .ok (.dup, 1) := by decide +kernel
theorem dX11_init_20 : decode cX11_init 20 = .ok (.invokespecial 9, 3) := by decide +kernel
theorem dX11_init_23 : decode cX11_init 23 = .ok (.putfield 16, 3) := by decide +kernel
theorem dX11_init_26 : decode cX11_init 26 = .ok (.aload_n 0, 1) := by decide +kernel
theorem dX11_init_27 : decode cX11_init 27 = .ok (.iconst 0, 1) := by decide +kernel
theorem dX11_init_28 : decode cX11_init 28 = .ok (.putfield 19, 3) := by decide +kernel
theorem dX11_init_31 : decode cX11_init 31 = .ok (.aload_n 0, 1) := by decide +kernel
theorem dX11_init_32 : decode cX11_init 32 = .ok (.new 23, 3) := by decide +kernel
theorem dX11_init_35 : decode cX11_init 35 = .ok (.dup, 1) := by decide +kernel
theorem dX11_init_36 : decode cX11_init 36 = .ok (.aload_n 0, 1) := by decide +kernel
theorem dX11_init_37 : decode cX11_init 37 = .ok (.getfield 10, 3) := by decide +kernel
theorem dX11_init_40 : decode cX11_init 40 = .ok (.invokespecial 25, 3) := by decide +kernel
theorem dX11_init_43 : decode cX11_init 43 = .ok (.putfield 28, 3) := by decide +kernel
theorem dX11_init_46 : decode cX11_init 46 = .ok (.aload_n 0, 1) := by decide +kernel
theorem dX11_init_47 : decode cX11_init 47 = .ok (.new 32, 3) := by decide +kernel
theorem dX11_init_50 : decode cX11_init 50 = .ok (.dup, 1) := by decide +kernel
theorem dX11_init_51 : decode cX11_init 51 = .ok (.bipush 96, 2) := by decide +kernel
theorem dX11_init_53 : decode cX11_init 53 = .ok (.invokespecial 34, 3) := by decide +kernel
theorem dX11_init_56 : decode cX11_init 56 = .ok (.putfield 37, 3) := by decide +kernel
theorem dX11_init_59 : decode cX11_init 59 = .ok (.aload_n 0, 1) := by decide +kernel
theorem dX11_init_60 : decode cX11_init 60 = .ok (.new 41, 3) := by decide +kernel
theorem dX11_init_63 : decode cX11_init 63 = .ok (.dup, 1) := by decide +kernel
theorem dX11_init_64 : decode cX11_init 64 = .ok (.aload_n 0, 1) := by decide +kernel
theorem dX11_init_65 : decode cX11_init 65 = .ok (.getfield 37, 3) := by decide +kernel
theorem dX11_init_68 : decode cX11_init 68 = .ok (.invokespecial 43, 3) := by decide +kernel
theorem dX11_init_71 : decode cX11_init 71 = .ok (.putfield 46, 3) := by decide +kernel
theorem dX11_init_74 : decode cX11_init 74 = .ok (.aload_n 0, 1) := by decide +kernel
theorem dX11_init_75 : decode cX11_init 75 = .ok (.new 32, 3) := by decide +kernel
theorem dX11_init_78 : decode cX11_init 78 = .ok (.dup, 1) := by decide +kernel
theorem dX11_init_79 : decode cX11_init 79 = .ok (.bipush 100, 2) := by decide +kernel
theorem dX11_init_81 : decode cX11_init 81 = .ok (.invokespecial 34, 3) := by decide +kernel
theorem dX11_init_84 : decode cX11_init 84 = .ok (.putfield 50, 3) := by decide +kernel
theorem dX11_init_87 : decode cX11_init 87 = .ok (.aload_n 0, 1) := by decide +kernel
theorem dX11_init_88 : decode cX11_init 88 = .ok (.new 32, 3) := by decide +kernel
theorem dX11_init_91 : decode cX11_init 91 = .ok (.dup, 1) := by decide +kernel
theorem dX11_init_92 : decode cX11_init 92 = .ok (.bipush 48, 2) := by decide +kernel
theorem dX11_init_94 : decode cX11_init 94 = .ok (.invokespecial 34, 3) := by decide +kernel
theorem dX11_init_97 : decode cX11_init 97 = .ok (.putfield 53, 3) := by decide +kernel
theorem dX11_init_100 : decode cX11_init 100 = .ok (.aload_n 0, 1) := by decide +kernel
theorem dX11_init_101 : decode cX11_init 101 = .ok (.new 56, 3) := by decide +kernel
theorem dX11_init_104 : decode cX11_init 104 = .ok (.dup, 1) := by decide +kernel
theorem dX11_init_105 : decode cX11_init 105 = .ok (.invokespecial 58, 3) := by decide +kernel
theorem dX11_init_108 : decode cX11_init 108 = .ok (.putfield 59, 3) := by decide +kernel
theorem dX11_init_111 : decode cX11_init 111 = .ok (.return_, 1) := by decide +kernel
theorem dX11_ground_0 : decode cX11_ground 0 = .ok (.iload_n 1, 1) := by decide +kernel
theorem dX11_ground_1 : decode cX11_ground 1 = .ok (.iconst 2, 1) := by decide +kernel
theorem dX11_ground_2 : decode cX11_ground 2 = .ok (.bipush 10, 2) := by decide +kernel
theorem dX11_ground_4 : decode cX11_ground 4 = .ok (.invokestatic 63, 3) := by decide +kernel
theorem dX11_ground_7 : decode cX11_ground 7 = .ok (.ifCond .eq 13, 3) := by decide +kernel
theorem dX11_ground_10 : decode cX11_ground 10 = .ok (.iload_n 2, 1) := by decide +kernel
theorem dX11_ground_11 : decode cX11_ground 11 = .ok (.iconst 2, 1) := by decide +kernel
theorem dX11_ground_12 : decode cX11_ground 12 = .ok (.bipush 8, 2) := by decide +kernel
theorem dX11_ground_14 : decode cX11_ground 14 = .ok (.invokestatic 63, 3) := by decide +kernel
theorem dX11_ground_17 : decode cX11_ground 17 = .ok (.ifCond .ne 6, 3) := by decide +kernel
theorem dX11_ground_20 : decode cX11_ground 20 = .ok (.ldc 67, 2) := by decide +kernel
theorem dX11_ground_22 : decode cX11_ground 22 = .ok (.ireturn, 1) := by decide +kernel
theorem dX11_ground_23 : decode cX11_ground 23 = .ok (.aload_n 0, 1) := by decide +kernel
theorem dX11_ground_24 : decode cX11_ground 24 = .ok (.getfield 10, 3) := by decide +kernel
theorem dX11_ground_27 : decode cX11_ground 27 = .ok (.iload_n 1, 1) := by decide +kernel
theorem dX11_ground_28 : decode cX11_ground 28 = .ok (.iload_n 2, 1) := by decide +kernel
theorem dX11_ground_29 : decode cX11_ground 29 = .ok (.invokevirtual 68, 3) := by decide +kernel
theorem dX11_ground_32 : decode cX11_ground 32 = .ok (.aload_n 0, 1) := by decide +kernel
theorem dX11_ground_33 : decode cX11_ground 33 = .ok (.getfield 10, 3) := by decide +kernel
theorem dX11_ground_36 : decode cX11_ground 36 = .ok (.getfield 72, 3) := by decide +kernel
theorem dX11_ground_39 : decode cX11_ground 39 = .ok (.invokevirtual 76, 3) := by decide +kernel
theorem dX11_ground_42 : decode cX11_ground 42 = .ok (.ireturn, 1) := by decide +kernel
theorem dX11_cell_0 : decode cX11_cell 0 = .ok (.aload_n 0, 1) := by decide +kernel
theorem dX11_cell_1 : decode cX11_cell 1 = .ok (.getfield 10, 3) := by decide +kernel
theorem dX11_cell_4 : decode cX11_cell 4 = .ok (.getfield 72, 3) := by decide +kernel
theorem dX11_cell_7 : decode cX11_cell 7 = .ok (.astore_n 3, 1) := by decide +kernel
theorem dX11_cell_8 : decode cX11_cell 8 = .ok (.iload_n 1, 1) := by decide +kernel
theorem dX11_cell_9 : decode cX11_cell 9 = .ok (.ifCond .eq 20, 3) := by decide +kernel
theorem dX11_cell_12 : decode cX11_cell 12 = .ok (.aload_n 3, 1) := by decide +kernel
theorem dX11_cell_13 : decode cX11_cell 13 = .ok (.iload_n 1, 1) := by decide +kernel
theorem dX11_cell_14 : decode cX11_cell 14 = .ok (.invokevirtual 82, 3) := by decide +kernel
theorem dX11_cell_17 : decode cX11_cell 17 = .ok (.ifCond .eq 12, 3) := by decide +kernel
theorem dX11_cell_20 : decode cX11_cell 20 = .ok (.iload_n 2, 1) := by decide +kernel
theorem dX11_cell_21 : decode cX11_cell 21 = .ok (.iconst 0, 1) := by decide +kernel
theorem dX11_cell_22 : decode cX11_cell 22 = .ok (.iconst 3, 1) := by decide +kernel
theorem dX11_cell_23 : decode cX11_cell 23 = .ok (.invokestatic 63, 3) := by decide +kernel
theorem dX11_cell_26 : decode cX11_cell 26 = .ok (.ifCond .ne 6, 3) := by decide +kernel
theorem dX11_cell_29 : decode cX11_cell 29 = .ok (.ldc 67, 2) := by decide +kernel
theorem dX11_cell_31 : decode cX11_cell 31 = .ok (.ireturn, 1) := by decide +kernel
theorem dX11_cell_32 : decode cX11_cell 32 = .ok (.iload_n 2, 1) := by decide +kernel
theorem dX11_cell_33 : decode cX11_cell 33 = .ok (.iconst 1, 1) := by decide +kernel
theorem dX11_cell_34 : decode cX11_cell 34 = .ok (.if_icmp .ne 17, 3) := by decide +kernel
theorem dX11_cell_37 : decode cX11_cell 37 = .ok (.aload_n 0, 1) := by decide +kernel
theorem dX11_cell_38 : decode cX11_cell 38 = .ok (.getfield 10, 3) := by decide +kernel
theorem dX11_cell_41 : decode cX11_cell 41 = .ok (.iload_n 1, 1) := by decide +kernel
theorem dX11_cell_42 : decode cX11_cell 42 = .ok (.invokevirtual 86, 3) := by decide +kernel
theorem dX11_cell_45 : decode cX11_cell 45 = .ok (.ifCond .lt 6, 3) := by decide +kernel
theorem dX11_cell_48 : decode cX11_cell 48 = .ok (.ldc 90, 2) := by decide +kernel
theorem dX11_cell_50 : decode cX11_cell 50 = .ok (.ireturn, 1) := by decide +kernel
theorem dX11_cell_51 : decode cX11_cell 51 = .ok (.aload_n 3, 1) := by decide +kernel
theorem dX11_cell_52 : decode cX11_cell 52 = .ok (.getfield 91, 3) := by decide +kernel
theorem dX11_cell_55 : decode cX11_cell 55 = .ok (.iload_n 1, 1) := by decide +kernel
theorem dX11_cell_56 : decode cX11_cell 56 = .ok (.iload_n 2, 1) := by decide +kernel
theorem dX11_cell_57 : decode cX11_cell 57 = .ok (.invokevirtual 94, 3) := by decide +kernel
theorem dX11_cell_60 : decode cX11_cell 60 = .ok (.ireturn, 1) := by decide +kernel
theorem dX11_put_0 : decode cX11_put 0 = .ok (.aload_n 0, 1) := by decide +kernel
theorem dX11_put_1 : decode cX11_put 1 = .ok (.getfield 10, 3) := by decide +kernel
theorem dX11_put_4 : decode cX11_put 4 = .ok (.getfield 72, 3) := by decide +kernel
theorem dX11_put_7 : decode cX11_put 7 = .ok (.astore 4, 2) := by decide +kernel
theorem dX11_put_9 : decode cX11_put 9 = .ok (.aload 4, 2) := by decide +kernel
theorem dX11_put_11 : decode cX11_put 11 = .ok (.iload_n 1, 1) := by decide +kernel
theorem dX11_put_12 : decode cX11_put 12 = .ok (.invokevirtual 82, 3) := by decide +kernel
theorem dX11_put_15 : decode cX11_put 15 = .ok (.ifCond .eq 23, 3) := by decide +kernel
theorem dX11_put_18 : decode cX11_put 18 = .ok (.iload_n 2, 1) := by decide +kernel
theorem dX11_put_19 : decode cX11_put 19 = .ok (.iconst 0, 1) := by decide +kernel
theorem dX11_put_20 : decode cX11_put 20 = .ok (.iconst 1, 1) := by decide +kernel
theorem dX11_put_21 : decode cX11_put 21 = .ok (.invokestatic 63, 3) := by decide +kernel
theorem dX11_put_24 : decode cX11_put 24 = .ok (.ifCond .eq 14, 3) := by decide +kernel
theorem dX11_put_27 : decode cX11_put 27 = .ok (.iload_n 3, 1) := by decide +kernel
theorem dX11_put_28 : decode cX11_put 28 = .ok (.iconst 0, 1) := by decide +kernel
theorem dX11_put_29 : decode cX11_put 29 = .ok (.sipush 999, 3) := by decide +kernel
theorem dX11_put_32 : decode cX11_put 32 = .ok (.invokestatic 63, 3) := by decide +kernel
theorem dX11_put_35 : decode cX11_put 35 = .ok (.ifCond .ne 6, 3) := by decide +kernel
theorem dX11_put_38 : decode cX11_put 38 = .ok (.ldc 67, 2) := by decide +kernel
theorem dX11_put_40 : decode cX11_put 40 = .ok (.ireturn, 1) := by decide +kernel
theorem dX11_put_41 : decode cX11_put 41 = .ok (.aload 4, 2) := by decide +kernel
theorem dX11_put_43 : decode cX11_put 43 = .ok (.iload_n 2, 1) := by decide +kernel
theorem dX11_put_44 : decode cX11_put 44 = .ok (.invokevirtual 98, 3) := by decide +kernel
theorem dX11_put_47 : decode cX11_put 47 = .ok (.iload_n 1, 1) := by decide +kernel
theorem dX11_put_48 : decode cX11_put 48 = .ok (.iload_n 3, 1) := by decide +kernel
theorem dX11_put_49 : decode cX11_put 49 = .ok (.invokevirtual 94, 3) := by decide +kernel
theorem dX11_put_52 : decode cX11_put 52 = .ok (.ireturn, 1) := by decide +kernel
theorem dX11_told_0 : decode cX11_told 0 = .ok (.aload_n 0, 1) := by decide +kernel
theorem dX11_told_1 : decode cX11_told 1 = .ok (.getfield 10, 3) := by decide +kernel
theorem dX11_told_4 : decode cX11_told 4 = .ok (.getfield 72, 3) := by decide +kernel
theorem dX11_told_7 : decode cX11_told 7 = .ok (.astore_n 3, 1) := by decide +kernel
theorem dX11_told_8 : decode cX11_told 8 = .ok (.aload_n 3, 1) := by decide +kernel
theorem dX11_told_9 : decode cX11_told 9 = .ok (.iload_n 1, 1) := by decide +kernel
theorem dX11_told_10 : decode cX11_told 10 = .ok (.invokevirtual 82, 3) := by decide +kernel
theorem dX11_told_13 : decode cX11_told 13 = .ok (.ifCond .ne 6, 3) := by decide +kernel
theorem dX11_told_16 : decode cX11_told 16 = .ok (.ldc 67, 2) := by decide +kernel
theorem dX11_told_18 : decode cX11_told 18 = .ok (.ireturn, 1) := by decide +kernel
theorem dX11_told_19 : decode cX11_told 19 = .ok (.iload_n 2, 1) := by decide +kernel
theorem dX11_told_20 : decode cX11_told 20 = .ok (.tableswitch 71 0 3 #[32, 41, 50, 59], 32) := by decide +kernel
theorem dX11_told_52 : decode cX11_told 52 = .ok (.aload_n 3, 1) := by decide +kernel
theorem dX11_told_53 : decode cX11_told 53 = .ok (.getfield 91, 3) := by decide +kernel
theorem dX11_told_56 : decode cX11_told 56 = .ok (.iload_n 1, 1) := by decide +kernel
theorem dX11_told_57 : decode cX11_told 57 = .ok (.invokevirtual 102, 3) := by decide +kernel
theorem dX11_told_60 : decode cX11_told 60 = .ok (.ireturn, 1) := by decide +kernel
theorem dX11_told_61 : decode cX11_told 61 = .ok (.aload_n 3, 1) := by decide +kernel
theorem dX11_told_62 : decode cX11_told 62 = .ok (.getfield 105, 3) := by decide +kernel
theorem dX11_told_65 : decode cX11_told 65 = .ok (.iload_n 1, 1) := by decide +kernel
theorem dX11_told_66 : decode cX11_told 66 = .ok (.invokevirtual 102, 3) := by decide +kernel
theorem dX11_told_69 : decode cX11_told 69 = .ok (.ireturn, 1) := by decide +kernel
theorem dX11_told_70 : decode cX11_told 70 = .ok (.aload_n 3, 1) := by decide +kernel
theorem dX11_told_71 : decode cX11_told 71 = .ok (.getfield 108, 3) := by decide +kernel
theorem dX11_told_74 : decode cX11_told 74 = .ok (.iload_n 1, 1) := by decide +kernel
theorem dX11_told_75 : decode cX11_told 75 = .ok (.invokevirtual 102, 3) := by decide +kernel
theorem dX11_told_78 : decode cX11_told 78 = .ok (.ireturn, 1) := by decide +kernel
theorem dX11_told_79 : decode cX11_told 79 = .ok (.aload_n 0, 1) := by decide +kernel
theorem dX11_told_80 : decode cX11_told 80 = .ok (.getfield 10, 3) := by decide +kernel
theorem dX11_told_83 : decode cX11_told 83 = .ok (.iload_n 1, 1) := by decide +kernel
theorem dX11_told_84 : decode cX11_told 84 = .ok (.invokevirtual 86, 3) := by decide +kernel
theorem dX11_told_87 : decode cX11_told 87 = .ok (.invokestatic 111, 3) := by decide +kernel
theorem dX11_told_90 : decode cX11_told 90 = .ok (.ireturn, 1) := by decide +kernel
theorem dX11_told_91 : decode cX11_told 91 = .ok (.ldc 67, 2) := by decide +kernel
theorem dX11_told_93 : decode cX11_told 93 = .ok (.ireturn, 1) := by decide +kernel
theorem dX11_isOf_0 : decode cX11_isOf 0 = .ok (.aload_n 0, 1) := by decide +kernel
theorem dX11_isOf_1 : decode cX11_isOf 1 = .ok (.getfield 10, 3) := by decide +kernel
theorem dX11_isOf_4 : decode cX11_isOf 4 = .ok (.getfield 72, 3) := by decide +kernel
theorem dX11_isOf_7 : decode cX11_isOf 7 = .ok (.iload_n 1, 1) := by decide +kernel
theorem dX11_isOf_8 : decode cX11_isOf 8 = .ok (.invokevirtual 82, 3) := by decide +kernel
theorem dX11_isOf_11 : decode cX11_isOf 11 = .ok (.ifCond .eq 12, 3) := by decide +kernel
theorem dX11_isOf_14 : decode cX11_isOf 14 = .ok (.iload_n 2, 1) := by decide +kernel
theorem dX11_isOf_15 : decode cX11_isOf 15 = .ok (.iconst 0, 1) := by decide +kernel
theorem dX11_isOf_16 : decode cX11_isOf 16 = .ok (.iconst 4, 1) := by decide +kernel
theorem dX11_isOf_17 : decode cX11_isOf 17 = .ok (.invokestatic 63, 3) := by decide +kernel
theorem dX11_isOf_20 : decode cX11_isOf 20 = .ok (.ifCond .ne 6, 3) := by decide +kernel
theorem dX11_isOf_23 : decode cX11_isOf 23 = .ok (.ldc 67, 2) := by decide +kernel
theorem dX11_isOf_25 : decode cX11_isOf 25 = .ok (.ireturn, 1) := by decide +kernel
theorem dX11_isOf_26 : decode cX11_isOf 26 = .ok (.aload_n 0, 1) := by decide +kernel
theorem dX11_isOf_27 : decode cX11_isOf 27 = .ok (.getfield 10, 3) := by decide +kernel
theorem dX11_isOf_30 : decode cX11_isOf 30 = .ok (.getfield 72, 3) := by decide +kernel
theorem dX11_isOf_33 : decode cX11_isOf 33 = .ok (.iload_n 1, 1) := by decide +kernel
theorem dX11_isOf_34 : decode cX11_isOf 34 = .ok (.iload_n 2, 1) := by decide +kernel
theorem dX11_isOf_35 : decode cX11_isOf 35 = .ok (.invokevirtual 114, 3) := by decide +kernel
theorem dX11_isOf_38 : decode cX11_isOf 38 = .ok (.invokestatic 118, 3) := by decide +kernel
theorem dX11_isOf_41 : decode cX11_isOf 41 = .ok (.ireturn, 1) := by decide +kernel
theorem dX11_map_0 : decode cX11_map 0 = .ok (.aload_n 0, 1) := by decide +kernel
theorem dX11_map_1 : decode cX11_map 1 = .ok (.getfield 10, 3) := by decide +kernel
theorem dX11_map_4 : decode cX11_map 4 = .ok (.getfield 72, 3) := by decide +kernel
theorem dX11_map_7 : decode cX11_map 7 = .ok (.iload_n 1, 1) := by decide +kernel
theorem dX11_map_8 : decode cX11_map 8 = .ok (.invokevirtual 82, 3) := by decide +kernel
theorem dX11_map_11 : decode cX11_map 11 = .ok (.ifCond .eq 12, 3) := by decide +kernel
theorem dX11_map_14 : decode cX11_map 14 = .ok (.iload_n 2, 1) := by decide +kernel
theorem dX11_map_15 : decode cX11_map 15 = .ok (.iconst 0, 1) := by decide +kernel
theorem dX11_map_16 : decode cX11_map 16 = .ok (.iconst 3, 1) := by decide +kernel
theorem dX11_map_17 : decode cX11_map 17 = .ok (.invokestatic 63, 3) := by decide +kernel
theorem dX11_map_20 : decode cX11_map 20 = .ok (.ifCond .ne 6, 3) := by decide +kernel
theorem dX11_map_23 : decode cX11_map 23 = .ok (.ldc 67, 2) := by decide +kernel
theorem dX11_map_25 : decode cX11_map 25 = .ok (.ireturn, 1) := by decide +kernel
theorem dX11_map_26 : decode cX11_map 26 = .ok (.aload_n 0, 1) := by decide +kernel
theorem dX11_map_27 : decode cX11_map 27 = .ok (.getfield 10, 3) := by decide +kernel
theorem dX11_map_30 : decode cX11_map 30 = .ok (.getfield 72, 3) := by decide +kernel
theorem dX11_map_33 : decode cX11_map 33 = .ok (.iload_n 1, 1) := by decide +kernel
theorem dX11_map_34 : decode cX11_map 34 = .ok (.iload_n 2, 1) := by decide +kernel
theorem dX11_map_35 : decode cX11_map 35 = .ok (.invokevirtual 122, 3) := by decide +kernel
theorem dX11_map_38 : decode cX11_map 38 = .ok (.ireturn, 1) := by decide +kernel
theorem dX11_lay_0 : decode cX11_lay 0 = .ok (.iload_n 1, 1) := by decide +kernel
theorem dX11_lay_1 : decode cX11_lay 1 = .ok (.iconst 0, 1) := by decide +kernel
theorem dX11_lay_2 : decode cX11_lay 2 = .ok (.iconst 1, 1) := by decide +kernel
theorem dX11_lay_3 : decode cX11_lay 3 = .ok (.invokestatic 63, 3) := by decide +kernel
theorem dX11_lay_6 : decode cX11_lay 6 = .ok (.ifCond .ne 6, 3) := by decide +kernel
theorem dX11_lay_9 : decode cX11_lay 9 = .ok (.ldc 67, 2) := by decide +kernel
theorem dX11_lay_11 : decode cX11_lay 11 = .ok (.ireturn, 1) := by decide +kernel
theorem dX11_lay_12 : decode cX11_lay 12 = .ok (.aload_n 0, 1) := by decide +kernel
theorem dX11_lay_13 : decode cX11_lay 13 = .ok (.getfield 59, 3) := by decide +kernel
theorem dX11_lay_16 : decode cX11_lay 16 = .ok (.iload_n 1, 1) := by decide +kernel
theorem dX11_lay_17 : decode cX11_lay 17 = .ok (.invokevirtual 125, 3) := by decide +kernel
theorem dX11_lay_20 : decode cX11_lay 20 = .ok (.ifCond .ne 6, 3) := by decide +kernel
theorem dX11_lay_23 : decode cX11_lay 23 = .ok (.ldc 128, 2) := by decide +kernel
theorem dX11_lay_25 : decode cX11_lay 25 = .ok (.ireturn, 1) := by decide +kernel
theorem dX11_lay_26 : decode cX11_lay 26 = .ok (.aload_n 0, 1) := by decide +kernel
theorem dX11_lay_27 : decode cX11_lay 27 = .ok (.getfield 10, 3) := by decide +kernel
theorem dX11_lay_30 : decode cX11_lay 30 = .ok (.getfield 72, 3) := by decide +kernel
theorem dX11_lay_33 : decode cX11_lay 33 = .ok (.invokevirtual 76, 3) := by decide +kernel
theorem dX11_lay_36 : decode cX11_lay 36 = .ok (.aload_n 0, 1) := by decide +kernel
theorem dX11_lay_37 : decode cX11_lay 37 = .ok (.getfield 59, 3) := by decide +kernel
theorem dX11_lay_40 : decode cX11_lay 40 = .ok (.iload_n 1, 1) := by decide +kernel
theorem dX11_lay_41 : decode cX11_lay 41 = .ok (.invokevirtual 129, 3) := by decide +kernel
theorem dX11_lay_44 : decode cX11_lay 44 = .ok (.invokestatic 132, 3) := by decide +kernel
theorem dX11_lay_47 : decode cX11_lay 47 = .ok (.istore_n 2, 1) := by decide +kernel
theorem dX11_lay_48 : decode cX11_lay 48 = .ok (.iconst 0, 1) := by decide +kernel
theorem dX11_lay_49 : decode cX11_lay 49 = .ok (.istore_n 3, 1) := by decide +kernel
theorem dX11_lay_50 : decode cX11_lay 50 = .ok (.iload_n 3, 1) := by decide +kernel
theorem dX11_lay_51 : decode cX11_lay 51 = .ok (.iload_n 2, 1) := by decide +kernel
theorem dX11_lay_52 : decode cX11_lay 52 = .ok (.if_icmp .ge 52, 3) := by decide +kernel
theorem dX11_lay_55 : decode cX11_lay 55 = .ok (.aload_n 0, 1) := by decide +kernel
theorem dX11_lay_56 : decode cX11_lay 56 = .ok (.getfield 59, 3) := by decide +kernel
theorem dX11_lay_59 : decode cX11_lay 59 = .ok (.iload_n 1, 1) := by decide +kernel
theorem dX11_lay_60 : decode cX11_lay 60 = .ok (.iload_n 3, 1) := by decide +kernel
theorem dX11_lay_61 : decode cX11_lay 61 = .ok (.invokevirtual 137, 3) := by decide +kernel
theorem dX11_lay_64 : decode cX11_lay 64 = .ok (.istore 4, 2) := by decide +kernel
theorem dX11_lay_66 : decode cX11_lay 66 = .ok (.aload_n 0, 1) := by decide +kernel
theorem dX11_lay_67 : decode cX11_lay 67 = .ok (.getfield 10, 3) := by decide +kernel
theorem dX11_lay_70 : decode cX11_lay 70 = .ok (.getfield 72, 3) := by decide +kernel
theorem dX11_lay_73 : decode cX11_lay 73 = .ok (.getfield 105, 3) := by decide +kernel
theorem dX11_lay_76 : decode cX11_lay 76 = .ok (.iload_n 3, 1) := by decide +kernel
theorem dX11_lay_77 : decode cX11_lay 77 = .ok (.iload 4, 2) := by decide +kernel
theorem dX11_lay_79 : decode cX11_lay 79 = .ok (.iconst 0, 1) := by decide +kernel
theorem dX11_lay_80 : decode cX11_lay 80 = .ok (.sipush 999, 3) := by decide +kernel
theorem dX11_lay_83 : decode cX11_lay 83 = .ok (.invokestatic 63, 3) := by decide +kernel
theorem dX11_lay_86 : decode cX11_lay 86 = .ok (.ifCond .eq 8, 3) := by decide +kernel
theorem dX11_lay_89 : decode cX11_lay 89 = .ok (.iload 4, 2) := by decide +kernel
theorem dX11_lay_91 : decode cX11_lay 91 = .ok (.goto 4, 3) := by decide +kernel
theorem dX11_lay_94 : decode cX11_lay 94 = .ok (.iconst 0, 1) := by decide +kernel
theorem dX11_lay_95 : decode cX11_lay 95 = .ok (.invokevirtual 139, 3) := by decide +kernel
theorem dX11_lay_98 : decode cX11_lay 98 = .ok (.iinc 3 1, 3) := by decide +kernel
theorem dX11_lay_101 : decode cX11_lay 101 = .ok (.goto (-51), 3) := by decide +kernel
theorem dX11_lay_104 : decode cX11_lay 104 = .ok (.iload_n 2, 1) := by decide +kernel
theorem dX11_lay_105 : decode cX11_lay 105 = .ok (.ireturn, 1) := by decide +kernel
theorem dX11_steps_0 : decode cX11_steps 0 = .ok (.aload_n 0, 1) := by decide +kernel
theorem dX11_steps_1 : decode cX11_steps 1 = .ok (.getfield 10, 3) := by decide +kernel
theorem dX11_steps_4 : decode cX11_steps 4 = .ok (.getfield 72, 3) := by decide +kernel
theorem dX11_steps_7 : decode cX11_steps 7 = .ok (.iload_n 1, 1) := by decide +kernel
theorem dX11_steps_8 : decode cX11_steps 8 = .ok (.invokevirtual 82, 3) := by decide +kernel
theorem dX11_steps_11 : decode cX11_steps 11 = .ok (.ifCond .eq 17, 3) := by decide +kernel
theorem dX11_steps_14 : decode cX11_steps 14 = .ok (.aload_n 0, 1) := by decide +kernel
theorem dX11_steps_15 : decode cX11_steps 15 = .ok (.getfield 10, 3) := by decide +kernel
theorem dX11_steps_18 : decode cX11_steps 18 = .ok (.getfield 72, 3) := by decide +kernel
theorem dX11_steps_21 : decode cX11_steps 21 = .ok (.iload_n 2, 1) := by decide +kernel
theorem dX11_steps_22 : decode cX11_steps 22 = .ok (.invokevirtual 82, 3) := by decide +kernel
theorem dX11_steps_25 : decode cX11_steps 25 = .ok (.ifCond .ne 6, 3) := by decide +kernel
theorem dX11_steps_28 : decode cX11_steps 28 = .ok (.ldc 67, 2) := by decide +kernel
theorem dX11_steps_30 : decode cX11_steps 30 = .ok (.ireturn, 1) := by decide +kernel
theorem dX11_steps_31 : decode cX11_steps 31 = .ok (.aload_n 0, 1) := by decide +kernel
theorem dX11_steps_32 : decode cX11_steps 32 = .ok (.getfield 10, 3) := by decide +kernel
theorem dX11_steps_35 : decode cX11_steps 35 = .ok (.getfield 72, 3) := by decide +kernel
theorem dX11_steps_38 : decode cX11_steps 38 = .ok (.iload_n 2, 1) := by decide +kernel
theorem dX11_steps_39 : decode cX11_steps 39 = .ok (.invokevirtual 142, 3) := by decide +kernel
theorem dX11_steps_42 : decode cX11_steps 42 = .ok (.aload_n 0, 1) := by decide +kernel
theorem dX11_steps_43 : decode cX11_steps 43 = .ok (.getfield 10, 3) := by decide +kernel
theorem dX11_steps_46 : decode cX11_steps 46 = .ok (.getfield 72, 3) := by decide +kernel
theorem dX11_steps_49 : decode cX11_steps 49 = .ok (.getfield 145, 3) := by decide +kernel
theorem dX11_steps_52 : decode cX11_steps 52 = .ok (.iload_n 1, 1) := by decide +kernel
theorem dX11_steps_53 : decode cX11_steps 53 = .ok (.invokevirtual 102, 3) := by decide +kernel
theorem dX11_steps_56 : decode cX11_steps 56 = .ok (.invokestatic 111, 3) := by decide +kernel
theorem dX11_steps_59 : decode cX11_steps 59 = .ok (.ireturn, 1) := by decide +kernel
theorem dX11_store_0 : decode cX11_store 0 = .ok (.iload_n 1, 1) := by decide +kernel
theorem dX11_store_1 : decode cX11_store 1 = .ok (.iconst 0, 1) := by decide +kernel
theorem dX11_store_2 : decode cX11_store 2 = .ok (.iconst 2, 1) := by decide +kernel
theorem dX11_store_3 : decode cX11_store 3 = .ok (.invokestatic 63, 3) := by decide +kernel
theorem dX11_store_6 : decode cX11_store 6 = .ok (.ifCond .eq 14, 3) := by decide +kernel
theorem dX11_store_9 : decode cX11_store 9 = .ok (.iload_n 2, 1) := by decide +kernel
theorem dX11_store_10 : decode cX11_store 10 = .ok (.iconst 0, 1) := by decide +kernel
theorem dX11_store_11 : decode cX11_store 11 = .ok (.sipush 9999, 3) := by decide +kernel
theorem dX11_store_14 : decode cX11_store 14 = .ok (.invokestatic 63, 3) := by decide +kernel
theorem dX11_store_17 : decode cX11_store 17 = .ok (.ifCond .ne 6, 3) := by decide +kernel
theorem dX11_store_20 : decode cX11_store 20 = .ok (.ldc 67, 2) := by decide +kernel
theorem dX11_store_22 : decode cX11_store 22 = .ok (.ireturn, 1) := by decide +kernel
theorem dX11_store_23 : decode cX11_store 23 = .ok (.aload_n 0, 1) := by decide +kernel
theorem dX11_store_24 : decode cX11_store 24 = .ok (.getfield 10, 3) := by decide +kernel
theorem dX11_store_27 : decode cX11_store 27 = .ok (.getfield 72, 3) := by decide +kernel
theorem dX11_store_30 : decode cX11_store 30 = .ok (.getfield 148, 3) := by decide +kernel
theorem dX11_store_33 : decode cX11_store 33 = .ok (.iload_n 1, 1) := by decide +kernel
theorem dX11_store_34 : decode cX11_store 34 = .ok (.iload_n 2, 1) := by decide +kernel
theorem dX11_store_35 : decode cX11_store 35 = .ok (.invokevirtual 94, 3) := by decide +kernel
theorem dX11_store_38 : decode cX11_store 38 = .ok (.ireturn, 1) := by decide +kernel
theorem dX11_rule_0 : decode cX11_rule 0 = .ok (.iload_n 1, 1) := by decide +kernel
theorem dX11_rule_1 : decode cX11_rule 1 = .ok (.ifCond .lt 19, 3) := by decide +kernel
theorem dX11_rule_4 : decode cX11_rule 4 = .ok (.iload_n 1, 1) := by decide +kernel
theorem dX11_rule_5 : decode cX11_rule 5 = .ok (.getstatic 151, 3) := by decide +kernel
theorem dX11_rule_8 : decode cX11_rule 8 = .ok (.arraylength, 1) := by decide +kernel
theorem dX11_rule_9 : decode cX11_rule 9 = .ok (.if_icmp .ge 11, 3) := by decide +kernel
theorem dX11_rule_12 : decode cX11_rule 12 = .ok (.iload_n 1, 1) := by decide +kernel
theorem dX11_rule_13 : decode cX11_rule 13 = .ok (.getstatic 155, 3) := by decide +kernel
theorem dX11_rule_16 : decode cX11_rule 16 = .ok (.arraylength, 1) := by decide +kernel
theorem dX11_rule_17 : decode cX11_rule 17 = .ok (.if_icmp .lt 6, 3) := by decide +kernel
theorem dX11_rule_20 : decode cX11_rule 20 = .ok (.ldc 67, 2) := by decide +kernel
theorem dX11_rule_22 : decode cX11_rule 22 = .ok (.ireturn, 1) := by decide +kernel
theorem dX11_rule_23 : decode cX11_rule 23 = .ok (.iload_n 2, 1) := by decide +kernel
theorem dX11_rule_24 : decode cX11_rule 24 = .ok (.getstatic 151, 3) := by decide +kernel
theorem dX11_rule_27 : decode cX11_rule 27 = .ok (.iload_n 1, 1) := by decide +kernel
theorem dX11_rule_28 : decode cX11_rule 28 = .ok (.iaload, 1) := by decide +kernel
theorem dX11_rule_29 : decode cX11_rule 29 = .ok (.getstatic 155, 3) := by decide +kernel
theorem dX11_rule_32 : decode cX11_rule 32 = .ok (.iload_n 1, 1) := by decide +kernel
theorem dX11_rule_33 : decode cX11_rule 33 = .ok (.iaload, 1) := by decide +kernel
theorem dX11_rule_34 : decode cX11_rule 34 = .ok (.invokestatic 63, 3) := by decide +kernel
theorem dX11_rule_37 : decode cX11_rule 37 = .ok (.ifCond .ne 6, 3) := by decide +kernel
theorem dX11_rule_40 : decode cX11_rule 40 = .ok (.ldc 67, 2) := by decide +kernel
theorem dX11_rule_42 : decode cX11_rule 42 = .ok (.ireturn, 1) := by decide +kernel
theorem dX11_rule_43 : decode cX11_rule 43 = .ok (.aload_n 0, 1) := by decide +kernel
theorem dX11_rule_44 : decode cX11_rule 44 = .ok (.getfield 10, 3) := by decide +kernel
theorem dX11_rule_47 : decode cX11_rule 47 = .ok (.getfield 158, 3) := by decide +kernel
theorem dX11_rule_50 : decode cX11_rule 50 = .ok (.iload_n 1, 1) := by decide +kernel
theorem dX11_rule_51 : decode cX11_rule 51 = .ok (.iload_n 2, 1) := by decide +kernel
theorem dX11_rule_52 : decode cX11_rule 52 = .ok (.invokevirtual 162, 3) := by decide +kernel
theorem dX11_rule_55 : decode cX11_rule 55 = .ok (.ireturn, 1) := by decide +kernel
theorem dX11_load_0 : decode cX11_load 0 = .ok (.iload_n 1, 1) := by decide +kernel
theorem dX11_load_1 : decode cX11_load 1 = .ok (.iconst 1, 1) := by decide +kernel
theorem dX11_load_2 : decode cX11_load 2 = .ok (.bipush 50, 2) := by decide +kernel
theorem dX11_load_4 : decode cX11_load 4 = .ok (.invokestatic 63, 3) := by decide +kernel
theorem dX11_load_7 : decode cX11_load 7 = .ok (.ifCond .eq 13, 3) := by decide +kernel
theorem dX11_load_10 : decode cX11_load 10 = .ok (.iload_n 2, 1) := by decide +kernel
theorem dX11_load_11 : decode cX11_load 11 = .ok (.iconst 1, 1) := by decide +kernel
theorem dX11_load_12 : decode cX11_load 12 = .ok (.bipush 99, 2) := by decide +kernel
theorem dX11_load_14 : decode cX11_load 14 = .ok (.invokestatic 63, 3) := by decide +kernel
theorem dX11_load_17 : decode cX11_load 17 = .ok (.ifCond .ne 6, 3) := by decide +kernel
theorem dX11_load_20 : decode cX11_load 20 = .ok (.ldc 67, 2) := by decide +kernel
theorem dX11_load_22 : decode cX11_load 22 = .ok (.ireturn, 1) := by decide +kernel
theorem dX11_load_23 : decode cX11_load 23 = .ok (.aload_n 0, 1) := by decide +kernel
theorem dX11_load_24 : decode cX11_load 24 = .ok (.getfield 10, 3) := by decide +kernel
theorem dX11_load_27 : decode cX11_load 27 = .ok (.getfield 158, 3) := by decide +kernel
theorem dX11_load_30 : decode cX11_load 30 = .ok (.invokevirtual 167, 3) := by decide +kernel
theorem dX11_load_33 : decode cX11_load 33 = .ok (.bipush 8, 2) := by decide +kernel
theorem dX11_load_35 : decode cX11_load 35 = .ok (.if_icmp .lt 6, 3) := by decide +kernel
theorem dX11_load_38 : decode cX11_load 38 = .ok (.ldc 170, 2) := by decide +kernel
theorem dX11_load_40 : decode cX11_load 40 = .ok (.ireturn, 1) := by decide +kernel
theorem dX11_load_41 : decode cX11_load 41 = .ok (.aload_n 0, 1) := by decide +kernel
theorem dX11_load_42 : decode cX11_load 42 = .ok (.getfield 10, 3) := by decide +kernel
theorem dX11_load_45 : decode cX11_load 45 = .ok (.getfield 158, 3) := by decide +kernel
theorem dX11_load_48 : decode cX11_load 48 = .ok (.iload_n 1, 1) := by decide +kernel
theorem dX11_load_49 : decode cX11_load 49 = .ok (.iload_n 2, 1) := by decide +kernel
theorem dX11_load_50 : decode cX11_load 50 = .ok (.invokevirtual 171, 3) := by decide +kernel
theorem dX11_load_53 : decode cX11_load 53 = .ok (.ireturn, 1) := by decide +kernel
theorem dX11_base_0 : decode cX11_base 0 = .ok (.aload_n 0, 1) := by decide +kernel
theorem dX11_base_1 : decode cX11_base 1 = .ok (.getfield 10, 3) := by decide +kernel
theorem dX11_base_4 : decode cX11_base 4 = .ok (.getfield 158, 3) := by decide +kernel
theorem dX11_base_7 : decode cX11_base 7 = .ok (.astore_n 2, 1) := by decide +kernel
theorem dX11_base_8 : decode cX11_base 8 = .ok (.iload_n 1, 1) := by decide +kernel
theorem dX11_base_9 : decode cX11_base 9 = .ok (.tableswitch 129 0 8 #[51, 56, 64, 69, 74, 79, 84, 99, 114], 51) := by decide +kernel
theorem dX11_base_60 : decode cX11_base 60 = .ok (.aload_n 2, 1) := by decide +kernel
theorem dX11_base_61 : decode cX11_base 61 = .ok (.getfield 174, 3) := by decide +kernel
theorem dX11_base_64 : decode cX11_base 64 = .ok (.ireturn, 1) := by decide +kernel
theorem dX11_base_65 : decode cX11_base 65 = .ok (.aload_n 2, 1) := by decide +kernel
theorem dX11_base_66 : decode cX11_base 66 = .ok (.invokevirtual 178, 3) := by decide +kernel
theorem dX11_base_69 : decode cX11_base 69 = .ok (.invokestatic 118, 3) := by decide +kernel
theorem dX11_base_72 : decode cX11_base 72 = .ok (.ireturn, 1) := by decide +kernel
theorem dX11_base_73 : decode cX11_base 73 = .ok (.aload_n 2, 1) := by decide +kernel
theorem dX11_base_74 : decode cX11_base 74 = .ok (.getfield 182, 3) := by decide +kernel
theorem dX11_base_77 : decode cX11_base 77 = .ok (.ireturn, 1) := by decide +kernel
theorem dX11_base_78 : decode cX11_base 78 = .ok (.aload_n 2, 1) := by decide +kernel
theorem dX11_base_79 : decode cX11_base 79 = .ok (.getfield 185, 3) := by decide +kernel
theorem dX11_base_82 : decode cX11_base 82 = .ok (.ireturn, 1) := by decide +kernel
theorem dX11_base_83 : decode cX11_base 83 = .ok (.aload_n 2, 1) := by decide +kernel
theorem dX11_base_84 : decode cX11_base 84 = .ok (.getfield 188, 3) := by decide +kernel
theorem dX11_base_87 : decode cX11_base 87 = .ok (.ireturn, 1) := by decide +kernel
theorem dX11_base_88 : decode cX11_base 88 = .ok (.aload_n 2, 1) := by decide +kernel
theorem dX11_base_89 : decode cX11_base 89 = .ok (.getfield 191, 3) := by decide +kernel
theorem dX11_base_92 : decode cX11_base 92 = .ok (.ireturn, 1) := by decide +kernel
theorem dX11_base_93 : decode cX11_base 93 = .ok (.aload_n 0, 1) := by decide +kernel
theorem dX11_base_94 : decode cX11_base 94 = .ok (.getfield 10, 3) := by decide +kernel
theorem dX11_base_97 : decode cX11_base 97 = .ok (.getfield 72, 3) := by decide +kernel
theorem dX11_base_100 : decode cX11_base 100 = .ok (.getfield 148, 3) := by decide +kernel
theorem dX11_base_103 : decode cX11_base 103 = .ok (.iconst 0, 1) := by decide +kernel
theorem dX11_base_104 : decode cX11_base 104 = .ok (.invokevirtual 102, 3) := by decide +kernel
theorem dX11_base_107 : decode cX11_base 107 = .ok (.ireturn, 1) := by decide +kernel
theorem dX11_base_108 : decode cX11_base 108 = .ok (.aload_n 0, 1) := by decide +kernel
theorem dX11_base_109 : decode cX11_base 109 = .ok (.getfield 10, 3) := by decide +kernel
theorem dX11_base_112 : decode cX11_base 112 = .ok (.getfield 72, 3) := by decide +kernel
theorem dX11_base_115 : decode cX11_base 115 = .ok (.getfield 148, 3) := by decide +kernel
theorem dX11_base_118 : decode cX11_base 118 = .ok (.iconst 1, 1) := by decide +kernel
theorem dX11_base_119 : decode cX11_base 119 = .ok (.invokevirtual 102, 3) := by decide +kernel
theorem dX11_base_122 : decode cX11_base 122 = .ok (.ireturn, 1) := by decide +kernel
theorem dX11_base_123 : decode cX11_base 123 = .ok (.aload_n 0, 1) := by decide +kernel
theorem dX11_base_124 : decode cX11_base 124 = .ok (.getfield 10, 3) := by decide +kernel
theorem dX11_base_127 : decode cX11_base 127 = .ok (.getfield 72, 3) := by decide +kernel
theorem dX11_base_130 : decode cX11_base 130 = .ok (.getfield 148, 3) := by decide +kernel
theorem dX11_base_133 : decode cX11_base 133 = .ok (.iconst 2, 1) := by decide +kernel
theorem dX11_base_134 : decode cX11_base 134 = .ok (.invokevirtual 102, 3) := by decide +kernel
theorem dX11_base_137 : decode cX11_base 137 = .ok (.ireturn, 1) := by decide +kernel
theorem dX11_base_138 : decode cX11_base 138 = .ok (.ldc 67, 2) := by decide +kernel
theorem dX11_base_140 : decode cX11_base 140 = .ok (.ireturn, 1) := by decide +kernel
theorem dX11_machine_0 : decode cX11_machine 0 = .ok (.iload_n 1, 1) := by decide +kernel
theorem dX11_machine_1 : decode cX11_machine 1 = .ok (.iconst 0, 1) := by decide +kernel
theorem dX11_machine_2 : decode cX11_machine 2 = .ok (.iconst 3, 1) := by decide +kernel
theorem dX11_machine_3 : decode cX11_machine 3 = .ok (.invokestatic 63, 3) := by decide +kernel
theorem dX11_machine_6 : decode cX11_machine 6 = .ok (.ifCond .eq 17, 3) := by decide +kernel
theorem dX11_machine_9 : decode cX11_machine 9 = .ok (.aload_n 0, 1) := by decide +kernel
theorem dX11_machine_10 : decode cX11_machine 10 = .ok (.getfield 10, 3) := by decide +kernel
theorem dX11_machine_13 : decode cX11_machine 13 = .ok (.getfield 72, 3) := by decide +kernel
theorem dX11_machine_16 : decode cX11_machine 16 = .ok (.iload_n 2, 1) := by decide +kernel
theorem dX11_machine_17 : decode cX11_machine 17 = .ok (.invokevirtual 82, 3) := by decide +kernel
theorem dX11_machine_20 : decode cX11_machine 20 = .ok (.ifCond .ne 6, 3) := by decide +kernel
theorem dX11_machine_23 : decode cX11_machine 23 = .ok (.ldc 67, 2) := by decide +kernel
theorem dX11_machine_25 : decode cX11_machine 25 = .ok (.ireturn, 1) := by decide +kernel
theorem dX11_machine_26 : decode cX11_machine 26 = .ok (.aload_n 0, 1) := by decide +kernel
theorem dX11_machine_27 : decode cX11_machine 27 = .ok (.getfield 10, 3) := by decide +kernel
theorem dX11_machine_30 : decode cX11_machine 30 = .ok (.getfield 72, 3) := by decide +kernel
theorem dX11_machine_33 : decode cX11_machine 33 = .ok (.iload_n 2, 1) := by decide +kernel
theorem dX11_machine_34 : decode cX11_machine 34 = .ok (.invokevirtual 194, 3) := by decide +kernel
theorem dX11_machine_37 : decode cX11_machine 37 = .ok (.ifCond .eq 14, 3) := by decide +kernel
theorem dX11_machine_40 : decode cX11_machine 40 = .ok (.aload_n 0, 1) := by decide +kernel
theorem dX11_machine_41 : decode cX11_machine 41 = .ok (.getfield 10, 3) := by decide +kernel
theorem dX11_machine_44 : decode cX11_machine 44 = .ok (.iload_n 2, 1) := by decide +kernel
theorem dX11_machine_45 : decode cX11_machine 45 = .ok (.invokevirtual 86, 3) := by decide +kernel
theorem dX11_machine_48 : decode cX11_machine 48 = .ok (.ifCond .lt 6, 3) := by decide +kernel
theorem dX11_machine_51 : decode cX11_machine 51 = .ok (.ldc 90, 2) := by decide +kernel
theorem dX11_machine_53 : decode cX11_machine 53 = .ok (.ireturn, 1) := by decide +kernel
theorem dX11_machine_54 : decode cX11_machine 54 = .ok (.aload_n 0, 1) := by decide +kernel
theorem dX11_machine_55 : decode cX11_machine 55 = .ok (.getfield 10, 3) := by decide +kernel
theorem dX11_machine_58 : decode cX11_machine 58 = .ok (.getfield 197, 3) := by decide +kernel
theorem dX11_machine_61 : decode cX11_machine 61 = .ok (.iconst 5, 1) := by decide +kernel
theorem dX11_machine_62 : decode cX11_machine 62 = .ok (.if_icmp .lt 6, 3) := by decide +kernel
theorem dX11_machine_65 : decode cX11_machine 65 = .ok (.ldc 170, 2) := by decide +kernel
theorem dX11_machine_67 : decode cX11_machine 67 = .ok (.ireturn, 1) := by decide +kernel
theorem dX11_machine_68 : decode cX11_machine 68 = .ok (.aload_n 0, 1) := by decide +kernel
theorem dX11_machine_69 : decode cX11_machine 69 = .ok (.getfield 10, 3) := by decide +kernel
theorem dX11_machine_72 : decode cX11_machine 72 = .ok (.iload_n 1, 1) := by decide +kernel
theorem dX11_machine_73 : decode cX11_machine 73 = .ok (.iload_n 2, 1) := by decide +kernel
theorem dX11_machine_74 : decode cX11_machine 74 = .ok (.invokevirtual 200, 3) := by decide +kernel
theorem dX11_machine_77 : decode cX11_machine 77 = .ok (.ireturn, 1) := by decide +kernel
theorem dX11_is_0 : decode cX11_is 0 = .ok (.aload_n 0, 1) := by decide +kernel
theorem dX11_is_1 : decode cX11_is 1 = .ok (.getfield 10, 3) := by decide +kernel
theorem dX11_is_4 : decode cX11_is 4 = .ok (.iload_n 1, 1) := by decide +kernel
theorem dX11_is_5 : decode cX11_is 5 = .ok (.invokevirtual 203, 3) := by decide +kernel
theorem dX11_is_8 : decode cX11_is 8 = .ok (.astore_n 3, 1) := by decide +kernel
theorem dX11_is_9 : decode cX11_is 9 = .ok (.aload_n 3, 1) := by decide +kernel
theorem dX11_is_10 : decode cX11_is 10 = .ok (.ifnull 12, 3) := by decide +kernel
theorem dX11_is_13 : decode cX11_is 13 = .ok (.iload_n 2, 1) := by decide +kernel
theorem dX11_is_14 : decode cX11_is 14 = .ok (.iconst 0, 1) := by decide +kernel
theorem dX11_is_15 : decode cX11_is 15 = .ok (.iconst 3, 1) := by decide +kernel
theorem dX11_is_16 : decode cX11_is 16 = .ok (.invokestatic 63, 3) := by decide +kernel
theorem dX11_is_19 : decode cX11_is 19 = .ok (.ifCond .ne 6, 3) := by decide +kernel
theorem dX11_is_22 : decode cX11_is 22 = .ok (.ldc 67, 2) := by decide +kernel
theorem dX11_is_24 : decode cX11_is 24 = .ok (.ireturn, 1) := by decide +kernel
theorem dX11_is_25 : decode cX11_is 25 = .ok (.aload_n 3, 1) := by decide +kernel
theorem dX11_is_26 : decode cX11_is 26 = .ok (.iload_n 2, 1) := by decide +kernel
theorem dX11_is_27 : decode cX11_is 27 = .ok (.invokevirtual 207, 3) := by decide +kernel
theorem dX11_is_30 : decode cX11_is 30 = .ok (.invokestatic 118, 3) := by decide +kernel
theorem dX11_is_33 : decode cX11_is 33 = .ok (.ireturn, 1) := by decide +kernel
theorem dX11_tune_0 : decode cX11_tune 0 = .ok (.aload_n 0, 1) := by decide +kernel
theorem dX11_tune_1 : decode cX11_tune 1 = .ok (.getfield 10, 3) := by decide +kernel
theorem dX11_tune_4 : decode cX11_tune 4 = .ok (.iload_n 1, 1) := by decide +kernel
theorem dX11_tune_5 : decode cX11_tune 5 = .ok (.invokevirtual 203, 3) := by decide +kernel
theorem dX11_tune_8 : decode cX11_tune 8 = .ok (.astore 4, 2) := by decide +kernel
theorem dX11_tune_10 : decode cX11_tune 10 = .ok (.aload 4, 2) := by decide +kernel
theorem dX11_tune_12 : decode cX11_tune 12 = .ok (.ifnull 22, 3) := by decide +kernel
theorem dX11_tune_15 : decode cX11_tune 15 = .ok (.iload_n 2, 1) := by decide +kernel
theorem dX11_tune_16 : decode cX11_tune 16 = .ok (.iconst 0, 1) := by decide +kernel
theorem dX11_tune_17 : decode cX11_tune 17 = .ok (.iconst 1, 1) := by decide +kernel
theorem dX11_tune_18 : decode cX11_tune 18 = .ok (.invokestatic 63, 3) := by decide +kernel
theorem dX11_tune_21 : decode cX11_tune 21 = .ok (.ifCond .eq 13, 3) := by decide +kernel
theorem dX11_tune_24 : decode cX11_tune 24 = .ok (.iload_n 3, 1) := by decide +kernel
theorem dX11_tune_25 : decode cX11_tune 25 = .ok (.iconst 0, 1) := by decide +kernel
theorem dX11_tune_26 : decode cX11_tune 26 = .ok (.bipush 100, 2) := by decide +kernel
theorem dX11_tune_28 : decode cX11_tune 28 = .ok (.invokestatic 63, 3) := by decide +kernel
theorem dX11_tune_31 : decode cX11_tune 31 = .ok (.ifCond .ne 6, 3) := by decide +kernel
theorem dX11_tune_34 : decode cX11_tune 34 = .ok (.ldc 67, 2) := by decide +kernel
theorem dX11_tune_36 : decode cX11_tune 36 = .ok (.ireturn, 1) := by decide +kernel
theorem dX11_tune_37 : decode cX11_tune 37 = .ok (.iload_n 2, 1) := by decide +kernel
theorem dX11_tune_38 : decode cX11_tune 38 = .ok (.ifCond .ne 11, 3) := by decide +kernel
theorem dX11_tune_41 : decode cX11_tune 41 = .ok (.aload 4, 2) := by decide +kernel
theorem dX11_tune_43 : decode cX11_tune 43 = .ok (.getfield 211, 3) := by decide +kernel
theorem dX11_tune_46 : decode cX11_tune 46 = .ok (.goto 8, 3) := by decide +kernel
theorem dX11_tune_49 : decode cX11_tune 49 = .ok (.aload 4, 2) := by decide +kernel
theorem dX11_tune_51 : decode cX11_tune 51 = .ok (.getfield 214, 3) := by decide +kernel
theorem dX11_tune_54 : decode cX11_tune 54 = .ok (.istore 5, 2) := by decide +kernel
theorem dX11_tune_56 : decode cX11_tune 56 = .ok (.iload_n 2, 1) := by decide +kernel
theorem dX11_tune_57 : decode cX11_tune 57 = .ok (.ifCond .ne 12, 3) := by decide +kernel
theorem dX11_tune_60 : decode cX11_tune 60 = .ok (.aload 4, 2) := by decide +kernel
theorem dX11_tune_62 : decode cX11_tune 62 = .ok (.iload_n 3, 1) := by decide +kernel
theorem dX11_tune_63 : decode cX11_tune 63 = .ok (.putfield 211, 3) := by decide +kernel
theorem dX11_tune_66 : decode cX11_tune 66 = .ok (.goto 9, 3) := by decide +kernel
theorem dX11_tune_69 : decode cX11_tune 69 = .ok (.aload 4, 2) := by decide +kernel
theorem dX11_tune_71 : decode cX11_tune 71 = .ok (.iload_n 3, 1) := by decide +kernel
theorem dX11_tune_72 : decode cX11_tune 72 = .ok (.putfield 214, 3) := by decide +kernel
theorem dX11_tune_75 : decode cX11_tune 75 = .ok (.iload 5, 2) := by decide +kernel
theorem dX11_tune_77 : decode cX11_tune 77 = .ok (.ireturn, 1) := by decide +kernel
theorem dX11_has_0 : decode cX11_has 0 = .ok (.aload_n 0, 1) := by decide +kernel
theorem dX11_has_1 : decode cX11_has 1 = .ok (.getfield 10, 3) := by decide +kernel
theorem dX11_has_4 : decode cX11_has 4 = .ok (.iload_n 1, 1) := by decide +kernel
theorem dX11_has_5 : decode cX11_has 5 = .ok (.invokevirtual 203, 3) := by decide +kernel
theorem dX11_has_8 : decode cX11_has 8 = .ok (.astore_n 3, 1) := by decide +kernel
theorem dX11_has_9 : decode cX11_has 9 = .ok (.aload_n 3, 1) := by decide +kernel
theorem dX11_has_10 : decode cX11_has 10 = .ok (.ifnonnull 6, 3) := by decide +kernel
theorem dX11_has_13 : decode cX11_has 13 = .ok (.ldc 67, 2) := by decide +kernel
theorem dX11_has_15 : decode cX11_has 15 = .ok (.ireturn, 1) := by decide +kernel
theorem dX11_has_16 : decode cX11_has 16 = .ok (.iload_n 2, 1) := by decide +kernel
theorem dX11_has_17 : decode cX11_has 17 = .ok (.tableswitch 105 0 7 #[47, 52, 57, 62, 67, 72, 89, 97], 47) := by decide +kernel
theorem dX11_has_64 : decode cX11_has 64 = .ok (.aload_n 3, 1) := by decide +kernel
theorem dX11_has_65 : decode cX11_has 65 = .ok (.getfield 217, 3) := by decide +kernel
theorem dX11_has_68 : decode cX11_has 68 = .ok (.ireturn, 1) := by decide +kernel
theorem dX11_has_69 : decode cX11_has 69 = .ok (.aload_n 3, 1) := by decide +kernel
theorem dX11_has_70 : decode cX11_has 70 = .ok (.getfield 220, 3) := by decide +kernel
theorem dX11_has_73 : decode cX11_has 73 = .ok (.ireturn, 1) := by decide +kernel
theorem dX11_has_74 : decode cX11_has 74 = .ok (.aload_n 3, 1) := by decide +kernel
theorem dX11_has_75 : decode cX11_has 75 = .ok (.getfield 211, 3) := by decide +kernel
theorem dX11_has_78 : decode cX11_has 78 = .ok (.ireturn, 1) := by decide +kernel
theorem dX11_has_79 : decode cX11_has 79 = .ok (.aload_n 3, 1) := by decide +kernel
theorem dX11_has_80 : decode cX11_has 80 = .ok (.getfield 214, 3) := by decide +kernel
theorem dX11_has_83 : decode cX11_has 83 = .ok (.ireturn, 1) := by decide +kernel
theorem dX11_has_84 : decode cX11_has 84 = .ok (.aload_n 3, 1) := by decide +kernel
theorem dX11_has_85 : decode cX11_has 85 = .ok (.getfield 223, 3) := by decide +kernel
theorem dX11_has_88 : decode cX11_has 88 = .ok (.ireturn, 1) := by decide +kernel
theorem dX11_has_89 : decode cX11_has 89 = .ok (.aload_n 3, 1) := by decide +kernel
theorem dX11_has_90 : decode cX11_has 90 = .ok (.getfield 223, 3) := by decide +kernel
theorem dX11_has_93 : decode cX11_has 93 = .ok (.ifCond .le 10, 3) := by decide +kernel
theorem dX11_has_96 : decode cX11_has 96 = .ok (.aload_n 3, 1) := by decide +kernel
theorem dX11_has_97 : decode cX11_has 97 = .ok (.getfield 226, 3) := by decide +kernel
theorem dX11_has_100 : decode cX11_has 100 = .ok (.goto 5, 3) := by decide +kernel
theorem dX11_has_103 : decode cX11_has 103 = .ok (.ldc 229, 2) := by decide +kernel
theorem dX11_has_105 : decode cX11_has 105 = .ok (.ireturn, 1) := by decide +kernel
theorem dX11_has_106 : decode cX11_has 106 = .ok (.aload_n 3, 1) := by decide +kernel
theorem dX11_has_107 : decode cX11_has 107 = .ok (.getfield 230, 3) := by decide +kernel
theorem dX11_has_110 : decode cX11_has 110 = .ok (.invokestatic 111, 3) := by decide +kernel
theorem dX11_has_113 : decode cX11_has 113 = .ok (.ireturn, 1) := by decide +kernel
theorem dX11_has_114 : decode cX11_has 114 = .ok (.aload_n 3, 1) := by decide +kernel
theorem dX11_has_115 : decode cX11_has 115 = .ok (.invokevirtual 233, 3) := by decide +kernel
theorem dX11_has_118 : decode cX11_has 118 = .ok (.invokestatic 118, 3) := by decide +kernel
theorem dX11_has_121 : decode cX11_has 121 = .ok (.ireturn, 1) := by decide +kernel
theorem dX11_has_122 : decode cX11_has 122 = .ok (.ldc 67, 2) := by decide +kernel
theorem dX11_has_124 : decode cX11_has 124 = .ok (.ireturn, 1) := by decide +kernel
theorem dX11_feed_0 : decode cX11_feed 0 = .ok (.aload_n 0, 1) := by decide +kernel
theorem dX11_feed_1 : decode cX11_feed 1 = .ok (.getfield 37, 3) := by decide +kernel
theorem dX11_feed_4 : decode cX11_feed 4 = .ok (.invokevirtual 236, 3) := by decide +kernel
theorem dX11_feed_7 : decode cX11_feed 7 = .ok (.bipush 12, 2) := by decide +kernel
theorem dX11_feed_9 : decode cX11_feed 9 = .ok (.iadd, 1) := by decide +kernel
theorem dX11_feed_10 : decode cX11_feed 10 = .ok (.bipush 96, 2) := by decide +kernel
theorem dX11_feed_12 : decode cX11_feed 12 = .ok (.if_icmp .le 6, 3) := by decide +kernel
theorem dX11_feed_15 : decode cX11_feed 15 = .ok (.ldc 170, 2) := by decide +kernel
theorem dX11_feed_17 : decode cX11_feed 17 = .ok (.ireturn, 1) := by decide +kernel
theorem dX11_feed_18 : decode cX11_feed 18 = .ok (.aload_n 0, 1) := by decide +kernel
theorem dX11_feed_19 : decode cX11_feed 19 = .ok (.iload_n 1, 1) := by decide +kernel
theorem dX11_feed_20 : decode cX11_feed 20 = .ok (.invokevirtual 239, 3) := by decide +kernel
theorem dX11_feed_23 : decode cX11_feed 23 = .ok (.aload_n 0, 1) := by decide +kernel
theorem dX11_feed_24 : decode cX11_feed 24 = .ok (.iload_n 2, 1) := by decide +kernel
theorem dX11_feed_25 : decode cX11_feed 25 = .ok (.invokevirtual 239, 3) := by decide +kernel
theorem dX11_feed_28 : decode cX11_feed 28 = .ok (.aload_n 0, 1) := by decide +kernel
theorem dX11_feed_29 : decode cX11_feed 29 = .ok (.iload_n 3, 1) := by decide +kernel
theorem dX11_feed_30 : decode cX11_feed 30 = .ok (.invokevirtual 239, 3) := by decide +kernel
theorem dX11_feed_33 : decode cX11_feed 33 = .ok (.aload_n 0, 1) := by decide +kernel
theorem dX11_feed_34 : decode cX11_feed 34 = .ok (.getfield 37, 3) := by decide +kernel
theorem dX11_feed_37 : decode cX11_feed 37 = .ok (.invokevirtual 236, 3) := by decide +kernel
theorem dX11_feed_40 : decode cX11_feed 40 = .ok (.ireturn, 1) := by decide +kernel
theorem dX11_trim_0 : decode cX11_trim 0 = .ok (.iload_n 1, 1) := by decide +kernel
theorem dX11_trim_1 : decode cX11_trim 1 = .ok (.iconst 0, 1) := by decide +kernel
theorem dX11_trim_2 : decode cX11_trim 2 = .ok (.aload_n 0, 1) := by decide +kernel
theorem dX11_trim_3 : decode cX11_trim 3 = .ok (.getfield 37, 3) := by decide +kernel
theorem dX11_trim_6 : decode cX11_trim 6 = .ok (.invokevirtual 236, 3) := by decide +kernel
theorem dX11_trim_9 : decode cX11_trim 9 = .ok (.invokestatic 63, 3) := by decide +kernel
theorem dX11_trim_12 : decode cX11_trim 12 = .ok (.ifCond .ne 6, 3) := by decide +kernel
theorem dX11_trim_15 : decode cX11_trim 15 = .ok (.ldc 67, 2) := by decide +kernel
theorem dX11_trim_17 : decode cX11_trim 17 = .ok (.ireturn, 1) := by decide +kernel
theorem dX11_trim_18 : decode cX11_trim 18 = .ok (.aload_n 0, 1) := by decide +kernel
theorem dX11_trim_19 : decode cX11_trim 19 = .ok (.getfield 37, 3) := by decide +kernel
theorem dX11_trim_22 : decode cX11_trim 22 = .ok (.iload_n 1, 1) := by decide +kernel
theorem dX11_trim_23 : decode cX11_trim 23 = .ok (.invokevirtual 242, 3) := by decide +kernel
theorem dX11_trim_26 : decode cX11_trim 26 = .ok (.iload_n 1, 1) := by decide +kernel
theorem dX11_trim_27 : decode cX11_trim 27 = .ok (.ireturn, 1) := by decide +kernel
theorem dX11_program_0 : decode cX11_program 0 = .ok (.aload_n 0, 1) := by decide +kernel
theorem dX11_program_1 : decode cX11_program 1 = .ok (.getfield 10, 3) := by decide +kernel
theorem dX11_program_4 : decode cX11_program 4 = .ok (.iload_n 1, 1) := by decide +kernel
theorem dX11_program_5 : decode cX11_program 5 = .ok (.invokevirtual 245, 3) := by decide +kernel
theorem dX11_program_8 : decode cX11_program 8 = .ok (.astore_n 2, 1) := by decide +kernel
theorem dX11_program_9 : decode cX11_program 9 = .ok (.aload_n 2, 1) := by decide +kernel
theorem dX11_program_10 : decode cX11_program 10 = .ok (.ifnonnull 14, 3) := by decide +kernel
theorem dX11_program_13 : decode cX11_program 13 = .ok (.aload_n 0, 1) := by decide +kernel
theorem dX11_program_14 : decode cX11_program 14 = .ok (.getfield 37, 3) := by decide +kernel
theorem dX11_program_17 : decode cX11_program 17 = .ok (.iconst 0, 1) := by decide +kernel
theorem dX11_program_18 : decode cX11_program 18 = .ok (.invokevirtual 242, 3) := by decide +kernel
theorem dX11_program_21 : decode cX11_program 21 = .ok (.ldc 67, 2) := by decide +kernel
theorem dX11_program_23 : decode cX11_program 23 = .ok (.ireturn, 1) := by decide +kernel
theorem dX11_program_24 : decode cX11_program 24 = .ok (.aload_n 0, 1) := by decide +kernel
theorem dX11_program_25 : decode cX11_program 25 = .ok (.getfield 46, 3) := by decide +kernel
theorem dX11_program_28 : decode cX11_program 28 = .ok (.invokevirtual 248, 3) := by decide +kernel
theorem dX11_program_31 : decode cX11_program 31 = .ok (.istore_n 3, 1) := by decide +kernel
theorem dX11_program_32 : decode cX11_program 32 = .ok (.aload_n 0, 1) := by decide +kernel
theorem dX11_program_33 : decode cX11_program 33 = .ok (.getfield 37, 3) := by decide +kernel
theorem dX11_program_36 : decode cX11_program 36 = .ok (.iconst 0, 1) := by decide +kernel
theorem dX11_program_37 : decode cX11_program 37 = .ok (.invokevirtual 242, 3) := by decide +kernel
theorem dX11_program_40 : decode cX11_program 40 = .ok (.aload_n 0, 1) := by decide +kernel
theorem dX11_program_41 : decode cX11_program 41 = .ok (.getfield 10, 3) := by decide +kernel
theorem dX11_program_44 : decode cX11_program 44 = .ok (.iload_n 1, 1) := by decide +kernel
theorem dX11_program_45 : decode cX11_program 45 = .ok (.invokevirtual 251, 3) := by decide +kernel
theorem dX11_program_48 : decode cX11_program 48 = .ok (.iload_n 3, 1) := by decide +kernel
theorem dX11_program_49 : decode cX11_program 49 = .ok (.ifCond .lt 12, 3) := by decide +kernel
theorem dX11_program_52 : decode cX11_program 52 = .ok (.aload_n 2, 1) := by decide +kernel
theorem dX11_program_53 : decode cX11_program 53 = .ok (.invokevirtual 254, 3) := by decide +kernel
theorem dX11_program_56 : decode cX11_program 56 = .ok (.bipush (-100), 2) := by decide +kernel
theorem dX11_program_58 : decode cX11_program 58 = .ok (.iload_n 3, 1) := by decide +kernel
theorem dX11_program_59 : decode cX11_program 59 = .ok (.isub, 1) := by decide +kernel
theorem dX11_program_60 : decode cX11_program 60 = .ok (.ireturn, 1) := by decide +kernel
theorem dX11_program_61 : decode cX11_program 61 = .ok (.aload_n 2, 1) := by decide +kernel
theorem dX11_program_62 : decode cX11_program 62 = .ok (.aload_n 0, 1) := by decide +kernel
theorem dX11_program_63 : decode cX11_program 63 = .ok (.getfield 46, 3) := by decide +kernel
theorem dX11_program_66 : decode cX11_program 66 = .ok (.getfield 259, 3) := by decide +kernel
theorem dX11_program_69 : decode cX11_program 69 = .ok (.invokevirtual 263, 3) := by decide +kernel
theorem dX11_program_72 : decode cX11_program 72 = .ok (.aload_n 2, 1) := by decide +kernel
theorem dX11_program_73 : decode cX11_program 73 = .ok (.getfield 267, 3) := by decide +kernel
theorem dX11_program_76 : decode cX11_program 76 = .ok (.ireturn, 1) := by decide +kernel
theorem dX11_send_0 : decode cX11_send 0 = .ok (.aload_n 0, 1) := by decide +kernel
theorem dX11_send_1 : decode cX11_send 1 = .ok (.getfield 10, 3) := by decide +kernel
theorem dX11_send_4 : decode cX11_send 4 = .ok (.iload_n 2, 1) := by decide +kernel
theorem dX11_send_5 : decode cX11_send 5 = .ok (.invokevirtual 245, 3) := by decide +kernel
theorem dX11_send_8 : decode cX11_send 8 = .ok (.astore_n 3, 1) := by decide +kernel
theorem dX11_send_9 : decode cX11_send 9 = .ok (.aload_n 0, 1) := by decide +kernel
theorem dX11_send_10 : decode cX11_send 10 = .ok (.getfield 10, 3) := by decide +kernel
theorem dX11_send_13 : decode cX11_send 13 = .ok (.iload_n 1, 1) := by decide +kernel
theorem dX11_send_14 : decode cX11_send 14 = .ok (.invokevirtual 203, 3) := by decide +kernel
theorem dX11_send_17 : decode cX11_send 17 = .ok (.ifnull 7, 3) := by decide +kernel
theorem dX11_send_20 : decode cX11_send 20 = .ok (.aload_n 3, 1) := by decide +kernel
theorem dX11_send_21 : decode cX11_send 21 = .ok (.ifnonnull 6, 3) := by decide +kernel
theorem dX11_send_24 : decode cX11_send 24 = .ok (.ldc 67, 2) := by decide +kernel
theorem dX11_send_26 : decode cX11_send 26 = .ok (.ireturn, 1) := by decide +kernel
theorem dX11_send_27 : decode cX11_send 27 = .ok (.aload_n 3, 1) := by decide +kernel
theorem dX11_send_28 : decode cX11_send 28 = .ok (.invokevirtual 270, 3) := by decide +kernel
theorem dX11_send_31 : decode cX11_send 31 = .ok (.ifCond .eq 6, 3) := by decide +kernel
theorem dX11_send_34 : decode cX11_send 34 = .ok (.ldc 90, 2) := by decide +kernel
theorem dX11_send_36 : decode cX11_send 36 = .ok (.ireturn, 1) := by decide +kernel
theorem dX11_send_37 : decode cX11_send 37 = .ok (.aload_n 0, 1) := by decide +kernel
theorem dX11_send_38 : decode cX11_send 38 = .ok (.getfield 10, 3) := by decide +kernel
theorem dX11_send_41 : decode cX11_send 41 = .ok (.invokevirtual 273, 3) := by decide +kernel
theorem dX11_send_44 : decode cX11_send 44 = .ok (.bipush 12, 2) := by decide +kernel
theorem dX11_send_46 : decode cX11_send 46 = .ok (.if_icmp .lt 6, 3) := by decide +kernel
theorem dX11_send_49 : decode cX11_send 49 = .ok (.ldc 170, 2) := by decide +kernel
theorem dX11_send_51 : decode cX11_send 51 = .ok (.ireturn, 1) := by decide +kernel
theorem dX11_send_52 : decode cX11_send 52 = .ok (.aload_n 0, 1) := by decide +kernel
theorem dX11_send_53 : decode cX11_send 53 = .ok (.getfield 10, 3) := by decide +kernel
theorem dX11_send_56 : decode cX11_send 56 = .ok (.iload_n 1, 1) := by decide +kernel
theorem dX11_send_57 : decode cX11_send 57 = .ok (.iload_n 2, 1) := by decide +kernel
theorem dX11_send_58 : decode cX11_send 58 = .ok (.invokevirtual 276, 3) := by decide +kernel
theorem dX11_send_61 : decode cX11_send 61 = .ok (.ireturn, 1) := by decide +kernel
theorem dX11_order_0 : decode cX11_order 0 = .ok (.iload_n 1, 1) := by decide +kernel
theorem dX11_order_1 : decode cX11_order 1 = .ok (.ifCond .lt 12, 3) := by decide +kernel
theorem dX11_order_4 : decode cX11_order 4 = .ok (.iload_n 2, 1) := by decide +kernel
theorem dX11_order_5 : decode cX11_order 5 = .ok (.iconst 0, 1) := by decide +kernel
theorem dX11_order_6 : decode cX11_order 6 = .ok (.iconst 2, 1) := by decide +kernel
theorem dX11_order_7 : decode cX11_order 7 = .ok (.invokestatic 63, 3) := by decide +kernel
theorem dX11_order_10 : decode cX11_order 10 = .ok (.ifCond .ne 6, 3) := by decide +kernel
theorem dX11_order_13 : decode cX11_order 13 = .ok (.ldc 67, 2) := by decide +kernel
theorem dX11_order_15 : decode cX11_order 15 = .ok (.ireturn, 1) := by decide +kernel
theorem dX11_order_16 : decode cX11_order 16 = .ok (.iload_n 1, 1) := by decide +kernel
theorem dX11_order_17 : decode cX11_order 17 = .ok (.aload_n 0, 1) := by decide +kernel
theorem dX11_order_18 : decode cX11_order 18 = .ok (.getfield 10, 3) := by decide +kernel
theorem dX11_order_21 : decode cX11_order 21 = .ok (.invokevirtual 273, 3) := by decide +kernel
theorem dX11_order_24 : decode cX11_order 24 = .ok (.if_icmp .lt 6, 3) := by decide +kernel
theorem dX11_order_27 : decode cX11_order 27 = .ok (.ldc 229, 2) := by decide +kernel
theorem dX11_order_29 : decode cX11_order 29 = .ok (.ireturn, 1) := by decide +kernel
theorem dX11_order_30 : decode cX11_order 30 = .ok (.aload_n 0, 1) := by decide +kernel
theorem dX11_order_31 : decode cX11_order 31 = .ok (.getfield 10, 3) := by decide +kernel
theorem dX11_order_34 : decode cX11_order 34 = .ok (.getfield 279, 3) := by decide +kernel
theorem dX11_order_37 : decode cX11_order 37 = .ok (.iload_n 1, 1) := by decide +kernel
theorem dX11_order_38 : decode cX11_order 38 = .ok (.iconst 3, 1) := by decide +kernel
theorem dX11_order_39 : decode cX11_order 39 = .ok (.imul, 1) := by decide +kernel
theorem dX11_order_40 : decode cX11_order 40 = .ok (.iload_n 2, 1) := by decide +kernel
theorem dX11_order_41 : decode cX11_order 41 = .ok (.iadd, 1) := by decide +kernel
theorem dX11_order_42 : decode cX11_order 42 = .ok (.invokevirtual 102, 3) := by decide +kernel
theorem dX11_order_45 : decode cX11_order 45 = .ok (.ireturn, 1) := by decide +kernel
theorem dX11_run_0 : decode cX11_run 0 = .ok (.iload_n 1, 1) := by decide +kernel
theorem dX11_run_1 : decode cX11_run 1 = .ok (.iconst 1, 1) := by decide +kernel
theorem dX11_run_2 : decode cX11_run 2 = .ok (.bipush 30, 2) := by decide +kernel
theorem dX11_run_4 : decode cX11_run 4 = .ok (.invokestatic 63, 3) := by decide +kernel
theorem dX11_run_7 : decode cX11_run 7 = .ok (.ifCond .ne 6, 3) := by decide +kernel
theorem dX11_run_10 : decode cX11_run 10 = .ok (.ldc 67, 2) := by decide +kernel
theorem dX11_run_12 : decode cX11_run 12 = .ok (.ireturn, 1) := by decide +kernel
theorem dX11_run_13 : decode cX11_run 13 = .ok (.aload_n 0, 1) := by decide +kernel
theorem dX11_run_14 : decode cX11_run 14 = .ok (.getfield 10, 3) := by decide +kernel
theorem dX11_run_17 : decode cX11_run 17 = .ok (.getfield 158, 3) := by decide +kernel
theorem dX11_run_20 : decode cX11_run 20 = .ok (.getfield 174, 3) := by decide +kernel
theorem dX11_run_23 : decode cX11_run 23 = .ok (.iload_n 1, 1) := by decide +kernel
theorem dX11_run_24 : decode cX11_run 24 = .ok (.iadd, 1) := by decide +kernel
theorem dX11_run_25 : decode cX11_run 25 = .ok (.sipush 2000, 3) := by decide +kernel
theorem dX11_run_28 : decode cX11_run 28 = .ok (.if_icmp .le 6, 3) := by decide +kernel
theorem dX11_run_31 : decode cX11_run 31 = .ok (.ldc 170, 2) := by decide +kernel
theorem dX11_run_33 : decode cX11_run 33 = .ok (.ireturn, 1) := by decide +kernel
theorem dX11_run_34 : decode cX11_run 34 = .ok (.iconst 0, 1) := by decide +kernel
theorem dX11_run_35 : decode cX11_run 35 = .ok (.istore_n 2, 1) := by decide +kernel
theorem dX11_run_36 : decode cX11_run 36 = .ok (.iload_n 2, 1) := by decide +kernel
theorem dX11_run_37 : decode cX11_run 37 = .ok (.iload_n 1, 1) := by decide +kernel
theorem dX11_run_38 : decode cX11_run 38 = .ok (.if_icmp .ge 16, 3) := by decide +kernel
theorem dX11_run_41 : decode cX11_run 41 = .ok (.aload_n 0, 1) := by decide +kernel
theorem dX11_run_42 : decode cX11_run 42 = .ok (.getfield 28, 3) := by decide +kernel
theorem dX11_run_45 : decode cX11_run 45 = .ok (.invokevirtual 282, 3) := by decide +kernel
theorem dX11_run_48 : decode cX11_run 48 = .ok (.iinc 2 1, 3) := by decide +kernel
theorem dX11_run_51 : decode cX11_run 51 = .ok (.goto (-15), 3) := by decide +kernel
theorem dX11_run_54 : decode cX11_run 54 = .ok (.aload_n 0, 1) := by decide +kernel
theorem dX11_run_55 : decode cX11_run 55 = .ok (.getfield 10, 3) := by decide +kernel
theorem dX11_run_58 : decode cX11_run 58 = .ok (.getfield 158, 3) := by decide +kernel
theorem dX11_run_61 : decode cX11_run 61 = .ok (.getfield 174, 3) := by decide +kernel
theorem dX11_run_64 : decode cX11_run 64 = .ok (.ireturn, 1) := by decide +kernel
theorem dX11_land_0 : decode cX11_land 0 = .ok (.aload_n 0, 1) := by decide +kernel
theorem dX11_land_1 : decode cX11_land 1 = .ok (.getfield 10, 3) := by decide +kernel
theorem dX11_land_4 : decode cX11_land 4 = .ok (.getfield 72, 3) := by decide +kernel
theorem dX11_land_7 : decode cX11_land 7 = .ok (.astore_n 3, 1) := by decide +kernel
theorem dX11_land_8 : decode cX11_land 8 = .ok (.aload_n 3, 1) := by decide +kernel
theorem dX11_land_9 : decode cX11_land 9 = .ok (.iload_n 1, 1) := by decide +kernel
theorem dX11_land_10 : decode cX11_land 10 = .ok (.invokevirtual 82, 3) := by decide +kernel
theorem dX11_land_13 : decode cX11_land 13 = .ok (.ifCond .eq 13, 3) := by decide +kernel
theorem dX11_land_16 : decode cX11_land 16 = .ok (.iload_n 2, 1) := by decide +kernel
theorem dX11_land_17 : decode cX11_land 17 = .ok (.iconst 0, 1) := by decide +kernel
theorem dX11_land_18 : decode cX11_land 18 = .ok (.bipush 99, 2) := by decide +kernel
theorem dX11_land_20 : decode cX11_land 20 = .ok (.invokestatic 63, 3) := by decide +kernel
theorem dX11_land_23 : decode cX11_land 23 = .ok (.ifCond .ne 6, 3) := by decide +kernel
theorem dX11_land_26 : decode cX11_land 26 = .ok (.ldc 67, 2) := by decide +kernel
theorem dX11_land_28 : decode cX11_land 28 = .ok (.ireturn, 1) := by decide +kernel
theorem dX11_land_29 : decode cX11_land 29 = .ok (.iload_n 1, 1) := by decide +kernel
theorem dX11_land_30 : decode cX11_land 30 = .ok (.ifCond .eq 22, 3) := by decide +kernel
theorem dX11_land_33 : decode cX11_land 33 = .ok (.aload_n 3, 1) := by decide +kernel
theorem dX11_land_34 : decode cX11_land 34 = .ok (.iload_n 1, 1) := by decide +kernel
theorem dX11_land_35 : decode cX11_land 35 = .ok (.invokevirtual 194, 3) := by decide +kernel
theorem dX11_land_38 : decode cX11_land 38 = .ok (.ifCond .eq 14, 3) := by decide +kernel
theorem dX11_land_41 : decode cX11_land 41 = .ok (.aload_n 0, 1) := by decide +kernel
theorem dX11_land_42 : decode cX11_land 42 = .ok (.getfield 10, 3) := by decide +kernel
theorem dX11_land_45 : decode cX11_land 45 = .ok (.iload_n 1, 1) := by decide +kernel
theorem dX11_land_46 : decode cX11_land 46 = .ok (.invokevirtual 86, 3) := by decide +kernel
theorem dX11_land_49 : decode cX11_land 49 = .ok (.ifCond .lt 6, 3) := by decide +kernel
theorem dX11_land_52 : decode cX11_land 52 = .ok (.ldc 90, 2) := by decide +kernel
theorem dX11_land_54 : decode cX11_land 54 = .ok (.ireturn, 1) := by decide +kernel
theorem dX11_land_55 : decode cX11_land 55 = .ok (.aload_n 3, 1) := by decide +kernel
theorem dX11_land_56 : decode cX11_land 56 = .ok (.iload_n 1, 1) := by decide +kernel
theorem dX11_land_57 : decode cX11_land 57 = .ok (.invokevirtual 285, 3) := by decide +kernel
theorem dX11_land_60 : decode cX11_land 60 = .ok (.aload_n 3, 1) := by decide +kernel
theorem dX11_land_61 : decode cX11_land 61 = .ok (.getfield 148, 3) := by decide +kernel
theorem dX11_land_64 : decode cX11_land 64 = .ok (.iconst 2, 1) := by decide +kernel
theorem dX11_land_65 : decode cX11_land 65 = .ok (.sipush 9999, 3) := by decide +kernel
theorem dX11_land_68 : decode cX11_land 68 = .ok (.aload_n 3, 1) := by decide +kernel
theorem dX11_land_69 : decode cX11_land 69 = .ok (.getfield 148, 3) := by decide +kernel
theorem dX11_land_72 : decode cX11_land 72 = .ok (.iconst 2, 1) := by decide +kernel
theorem dX11_land_73 : decode cX11_land 73 = .ok (.invokevirtual 102, 3) := by decide +kernel
theorem dX11_land_76 : decode cX11_land 76 = .ok (.iload_n 2, 1) := by decide +kernel
theorem dX11_land_77 : decode cX11_land 77 = .ok (.iadd, 1) := by decide +kernel
theorem dX11_land_78 : decode cX11_land 78 = .ok (.invokestatic 132, 3) := by decide +kernel
theorem dX11_land_81 : decode cX11_land 81 = .ok (.invokevirtual 139, 3) := by decide +kernel
theorem dX11_land_84 : decode cX11_land 84 = .ok (.aload_n 0, 1) := by decide +kernel
theorem dX11_land_85 : decode cX11_land 85 = .ok (.getfield 10, 3) := by decide +kernel
theorem dX11_land_88 : decode cX11_land 88 = .ok (.iload_n 1, 1) := by decide +kernel
theorem dX11_land_89 : decode cX11_land 89 = .ok (.invokevirtual 288, 3) := by decide +kernel
theorem dX11_land_92 : decode cX11_land 92 = .ok (.ireturn, 1) := by decide +kernel
theorem dX11_kilos_0 : decode cX11_kilos 0 = .ok (.aload_n 0, 1) := by decide +kernel
theorem dX11_kilos_1 : decode cX11_kilos 1 = .ok (.getfield 10, 3) := by decide +kernel
theorem dX11_kilos_4 : decode cX11_kilos 4 = .ok (.getfield 72, 3) := by decide +kernel
theorem dX11_kilos_7 : decode cX11_kilos 7 = .ok (.astore_n 2, 1) := by decide +kernel
theorem dX11_kilos_8 : decode cX11_kilos 8 = .ok (.iload_n 1, 1) := by decide +kernel
theorem dX11_kilos_9 : decode cX11_kilos 9 = .ok (.tableswitch 117 0 5 #[39, 51, 59, 68, 73, 78], 39) := by decide +kernel
theorem dX11_kilos_48 : decode cX11_kilos 48 = .ok (.aload_n 2, 1) := by decide +kernel
theorem dX11_kilos_49 : decode cX11_kilos 49 = .ok (.getfield 105, 3) := by decide +kernel
theorem dX11_kilos_52 : decode cX11_kilos 52 = .ok (.aload_n 2, 1) := by decide +kernel
theorem dX11_kilos_53 : decode cX11_kilos 53 = .ok (.invokevirtual 76, 3) := by decide +kernel
theorem dX11_kilos_56 : decode cX11_kilos 56 = .ok (.invokevirtual 291, 3) := by decide +kernel
theorem dX11_kilos_59 : decode cX11_kilos 59 = .ok (.ireturn, 1) := by decide +kernel
theorem dX11_kilos_60 : decode cX11_kilos 60 = .ok (.aload_n 0, 1) := by decide +kernel
theorem dX11_kilos_61 : decode cX11_kilos 61 = .ok (.getfield 10, 3) := by decide +kernel
theorem dX11_kilos_64 : decode cX11_kilos 64 = .ok (.invokevirtual 294, 3) := by decide +kernel
theorem dX11_kilos_67 : decode cX11_kilos 67 = .ok (.ireturn, 1) := by decide +kernel
theorem dX11_kilos_68 : decode cX11_kilos 68 = .ok (.aload_n 2, 1) := by decide +kernel
theorem dX11_kilos_69 : decode cX11_kilos 69 = .ok (.getfield 148, 3) := by decide +kernel
theorem dX11_kilos_72 : decode cX11_kilos 72 = .ok (.iconst 0, 1) := by decide +kernel
theorem dX11_kilos_73 : decode cX11_kilos 73 = .ok (.invokevirtual 102, 3) := by decide +kernel
theorem dX11_kilos_76 : decode cX11_kilos 76 = .ok (.ireturn, 1) := by decide +kernel
theorem dX11_kilos_77 : decode cX11_kilos 77 = .ok (.aload_n 2, 1) := by decide +kernel
theorem dX11_kilos_78 : decode cX11_kilos 78 = .ok (.getfield 297, 3) := by decide +kernel
theorem dX11_kilos_81 : decode cX11_kilos 81 = .ok (.ireturn, 1) := by decide +kernel
theorem dX11_kilos_82 : decode cX11_kilos 82 = .ok (.aload_n 2, 1) := by decide +kernel
theorem dX11_kilos_83 : decode cX11_kilos 83 = .ok (.getfield 300, 3) := by decide +kernel
theorem dX11_kilos_86 : decode cX11_kilos 86 = .ok (.ireturn, 1) := by decide +kernel
theorem dX11_kilos_87 : decode cX11_kilos 87 = .ok (.aload_n 2, 1) := by decide +kernel
theorem dX11_kilos_88 : decode cX11_kilos 88 = .ok (.getfield 105, 3) := by decide +kernel
theorem dX11_kilos_91 : decode cX11_kilos 91 = .ok (.aload_n 2, 1) := by decide +kernel
theorem dX11_kilos_92 : decode cX11_kilos 92 = .ok (.invokevirtual 76, 3) := by decide +kernel
theorem dX11_kilos_95 : decode cX11_kilos 95 = .ok (.invokevirtual 291, 3) := by decide +kernel
theorem dX11_kilos_98 : decode cX11_kilos 98 = .ok (.aload_n 0, 1) := by decide +kernel
theorem dX11_kilos_99 : decode cX11_kilos 99 = .ok (.getfield 10, 3) := by decide +kernel
theorem dX11_kilos_102 : decode cX11_kilos 102 = .ok (.invokevirtual 294, 3) := by decide +kernel
theorem dX11_kilos_105 : decode cX11_kilos 105 = .ok (.iadd, 1) := by decide +kernel
theorem dX11_kilos_106 : decode cX11_kilos 106 = .ok (.aload_n 2, 1) := by decide +kernel
theorem dX11_kilos_107 : decode cX11_kilos 107 = .ok (.getfield 148, 3) := by decide +kernel
theorem dX11_kilos_110 : decode cX11_kilos 110 = .ok (.iconst 0, 1) := by decide +kernel
theorem dX11_kilos_111 : decode cX11_kilos 111 = .ok (.invokevirtual 102, 3) := by decide +kernel
theorem dX11_kilos_114 : decode cX11_kilos 114 = .ok (.iadd, 1) := by decide +kernel
theorem dX11_kilos_115 : decode cX11_kilos 115 = .ok (.aload_n 2, 1) := by decide +kernel
theorem dX11_kilos_116 : decode cX11_kilos 116 = .ok (.getfield 297, 3) := by decide +kernel
theorem dX11_kilos_119 : decode cX11_kilos 119 = .ok (.iadd, 1) := by decide +kernel
theorem dX11_kilos_120 : decode cX11_kilos 120 = .ok (.aload_n 2, 1) := by decide +kernel
theorem dX11_kilos_121 : decode cX11_kilos 121 = .ok (.getfield 300, 3) := by decide +kernel
theorem dX11_kilos_124 : decode cX11_kilos 124 = .ok (.iadd, 1) := by decide +kernel
theorem dX11_kilos_125 : decode cX11_kilos 125 = .ok (.ireturn, 1) := by decide +kernel
theorem dX11_kilos_126 : decode cX11_kilos 126 = .ok (.ldc 67, 2) := by decide +kernel
theorem dX11_kilos_128 : decode cX11_kilos 128 = .ok (.ireturn, 1) := by decide +kernel
theorem dX11_night_0 : decode cX11_night 0 = .ok (.iload_n 1, 1) := by decide +kernel
theorem dX11_night_1 : decode cX11_night 1 = .ok (.iconst 1, 1) := by decide +kernel
theorem dX11_night_2 : decode cX11_night 2 = .ok (.bipush 24, 2) := by decide +kernel
theorem dX11_night_4 : decode cX11_night 4 = .ok (.invokestatic 63, 3) := by decide +kernel
theorem dX11_night_7 : decode cX11_night 7 = .ok (.ifCond .eq 27, 3) := by decide +kernel
theorem dX11_night_10 : decode cX11_night 10 = .ok (.aload_n 0, 1) := by decide +kernel
theorem dX11_night_11 : decode cX11_night 11 = .ok (.getfield 10, 3) := by decide +kernel
theorem dX11_night_14 : decode cX11_night 14 = .ok (.getfield 158, 3) := by decide +kernel
theorem dX11_night_17 : decode cX11_night 17 = .ok (.aload_n 0, 1) := by decide +kernel
theorem dX11_night_18 : decode cX11_night 18 = .ok (.getfield 10, 3) := by decide +kernel
theorem dX11_night_21 : decode cX11_night 21 = .ok (.getfield 158, 3) := by decide +kernel
theorem dX11_night_24 : decode cX11_night 24 = .ok (.iload_n 1, 1) := by decide +kernel
theorem dX11_night_25 : decode cX11_night 25 = .ok (.invokevirtual 303, 3) := by decide +kernel
theorem dX11_night_28 : decode cX11_night 28 = .ok (.invokevirtual 306, 3) := by decide +kernel
theorem dX11_night_31 : decode cX11_night 31 = .ok (.goto 5, 3) := by decide +kernel
theorem dX11_night_34 : decode cX11_night 34 = .ok (.ldc 67, 2) := by decide +kernel
theorem dX11_night_36 : decode cX11_night 36 = .ok (.ireturn, 1) := by decide +kernel
theorem dX11_cut_0 : decode cX11_cut 0 = .ok (.iload_n 1, 1) := by decide +kernel
theorem dX11_cut_1 : decode cX11_cut 1 = .ok (.iconst 1, 1) := by decide +kernel
theorem dX11_cut_2 : decode cX11_cut 2 = .ok (.bipush 24, 2) := by decide +kernel
theorem dX11_cut_4 : decode cX11_cut 4 = .ok (.invokestatic 63, 3) := by decide +kernel
theorem dX11_cut_7 : decode cX11_cut 7 = .ok (.ifCond .eq 17, 3) := by decide +kernel
theorem dX11_cut_10 : decode cX11_cut 10 = .ok (.aload_n 0, 1) := by decide +kernel
theorem dX11_cut_11 : decode cX11_cut 11 = .ok (.getfield 10, 3) := by decide +kernel
theorem dX11_cut_14 : decode cX11_cut 14 = .ok (.getfield 158, 3) := by decide +kernel
theorem dX11_cut_17 : decode cX11_cut 17 = .ok (.iload_n 1, 1) := by decide +kernel
theorem dX11_cut_18 : decode cX11_cut 18 = .ok (.invokevirtual 303, 3) := by decide +kernel
theorem dX11_cut_21 : decode cX11_cut 21 = .ok (.goto 5, 3) := by decide +kernel
theorem dX11_cut_24 : decode cX11_cut 24 = .ok (.ldc 67, 2) := by decide +kernel
theorem dX11_cut_26 : decode cX11_cut 26 = .ok (.ireturn, 1) := by decide +kernel
theorem dX11_work_0 : decode cX11_work 0 = .ok (.aload_n 0, 1) := by decide +kernel
theorem dX11_work_1 : decode cX11_work 1 = .ok (.getfield 10, 3) := by decide +kernel
theorem dX11_work_4 : decode cX11_work 4 = .ok (.getfield 309, 3) := by decide +kernel
theorem dX11_work_7 : decode cX11_work 7 = .ok (.astore 5, 2) := by decide +kernel
theorem dX11_work_9 : decode cX11_work 9 = .ok (.iload_n 1, 1) := by decide +kernel
theorem dX11_work_10 : decode cX11_work 10 = .ok (.iconst 1, 1) := by decide +kernel
theorem dX11_work_11 : decode cX11_work 11 = .ok (.bipush 9, 2) := by decide +kernel
theorem dX11_work_13 : decode cX11_work 13 = .ok (.invokestatic 63, 3) := by decide +kernel
theorem dX11_work_16 : decode cX11_work 16 = .ok (.ifCond .eq 23, 3) := by decide +kernel
theorem dX11_work_19 : decode cX11_work 19 = .ok (.iload_n 2, 1) := by decide +kernel
theorem dX11_work_20 : decode cX11_work 20 = .ok (.iconst 0, 1) := by decide +kernel
theorem dX11_work_21 : decode cX11_work 21 = .ok (.bipush 50, 2) := by decide +kernel
theorem dX11_work_23 : decode cX11_work 23 = .ok (.invokestatic 63, 3) := by decide +kernel
theorem dX11_work_26 : decode cX11_work 26 = .ok (.ifCond .eq 13, 3) := by decide +kernel
theorem dX11_work_29 : decode cX11_work 29 = .ok (.iload_n 3, 1) := by decide +kernel
theorem dX11_work_30 : decode cX11_work 30 = .ok (.iconst 0, 1) := by decide +kernel
theorem dX11_work_31 : decode cX11_work 31 = .ok (.bipush 20, 2) := by decide +kernel
theorem dX11_work_33 : decode cX11_work 33 = .ok (.invokestatic 63, 3) := by decide +kernel
theorem dX11_work_36 : decode cX11_work 36 = .ok (.ifCond .ne 6, 3) := by decide +kernel
theorem dX11_work_39 : decode cX11_work 39 = .ok (.ldc 67, 2) := by decide +kernel
theorem dX11_work_41 : decode cX11_work 41 = .ok (.ireturn, 1) := by decide +kernel
theorem dX11_work_42 : decode cX11_work 42 = .ok (.iload 4, 2) := by decide +kernel
theorem dX11_work_44 : decode cX11_work 44 = .ok (.iconst 0, 1) := by decide +kernel
theorem dX11_work_45 : decode cX11_work 45 = .ok (.iconst 1, 1) := by decide +kernel
theorem dX11_work_46 : decode cX11_work 46 = .ok (.aload 5, 2) := by decide +kernel
theorem dX11_work_48 : decode cX11_work 48 = .ok (.invokevirtual 313, 3) := by decide +kernel
theorem dX11_work_51 : decode cX11_work 51 = .ok (.ishl, 1) := by decide +kernel
theorem dX11_work_52 : decode cX11_work 52 = .ok (.iconst 1, 1) := by decide +kernel
theorem dX11_work_53 : decode cX11_work 53 = .ok (.isub, 1) := by decide +kernel
theorem dX11_work_54 : decode cX11_work 54 = .ok (.invokestatic 63, 3) := by decide +kernel
theorem dX11_work_57 : decode cX11_work 57 = .ok (.ifCond .ne 6, 3) := by decide +kernel
theorem dX11_work_60 : decode cX11_work 60 = .ok (.ldc 67, 2) := by decide +kernel
theorem dX11_work_62 : decode cX11_work 62 = .ok (.ireturn, 1) := by decide +kernel
theorem dX11_work_63 : decode cX11_work 63 = .ok (.aload 5, 2) := by decide +kernel
theorem dX11_work_65 : decode cX11_work 65 = .ok (.invokevirtual 313, 3) := by decide +kernel
theorem dX11_work_68 : decode cX11_work 68 = .ok (.bipush 6, 2) := by decide +kernel
theorem dX11_work_70 : decode cX11_work 70 = .ok (.if_icmp .lt 6, 3) := by decide +kernel
theorem dX11_work_73 : decode cX11_work 73 = .ok (.ldc 170, 2) := by decide +kernel
theorem dX11_work_75 : decode cX11_work 75 = .ok (.ireturn, 1) := by decide +kernel
theorem dX11_work_76 : decode cX11_work 76 = .ok (.aload 5, 2) := by decide +kernel
theorem dX11_work_78 : decode cX11_work 78 = .ok (.iload_n 1, 1) := by decide +kernel
theorem dX11_work_79 : decode cX11_work 79 = .ok (.iload_n 2, 1) := by decide +kernel
theorem dX11_work_80 : decode cX11_work 80 = .ok (.iload_n 3, 1) := by decide +kernel
theorem dX11_work_81 : decode cX11_work 81 = .ok (.iload 4, 2) := by decide +kernel
theorem dX11_work_83 : decode cX11_work 83 = .ok (.invokevirtual 317, 3) := by decide +kernel
theorem dX11_work_86 : decode cX11_work 86 = .ok (.ireturn, 1) := by decide +kernel
theorem dX11_clear_0 : decode cX11_clear 0 = .ok (.aload_n 0, 1) := by decide +kernel
theorem dX11_clear_1 : decode cX11_clear 1 = .ok (.getfield 10, 3) := by decide +kernel
theorem dX11_clear_4 : decode cX11_clear 4 = .ok (.getfield 309, 3) := by decide +kernel
theorem dX11_clear_7 : decode cX11_clear 7 = .ok (.invokevirtual 313, 3) := by decide +kernel
theorem dX11_clear_10 : decode cX11_clear 10 = .ok (.istore_n 1, 1) := by decide +kernel
theorem dX11_clear_11 : decode cX11_clear 11 = .ok (.aload_n 0, 1) := by decide +kernel
theorem dX11_clear_12 : decode cX11_clear 12 = .ok (.getfield 10, 3) := by decide +kernel
theorem dX11_clear_15 : decode cX11_clear 15 = .ok (.getfield 309, 3) := by decide +kernel
theorem dX11_clear_18 : decode cX11_clear 18 = .ok (.invokevirtual 321, 3) := by decide +kernel
theorem dX11_clear_21 : decode cX11_clear 21 = .ok (.iload_n 1, 1) := by decide +kernel
theorem dX11_clear_22 : decode cX11_clear 22 = .ok (.ireturn, 1) := by decide +kernel
theorem dX11_plan_0 : decode cX11_plan 0 = .ok (.iload_n 1, 1) := by decide +kernel
theorem dX11_plan_1 : decode cX11_plan 1 = .ok (.iconst 1, 1) := by decide +kernel
theorem dX11_plan_2 : decode cX11_plan 2 = .ok (.bipush 24, 2) := by decide +kernel
theorem dX11_plan_4 : decode cX11_plan 4 = .ok (.invokestatic 63, 3) := by decide +kernel
theorem dX11_plan_7 : decode cX11_plan 7 = .ok (.ifCond .eq 14, 3) := by decide +kernel
theorem dX11_plan_10 : decode cX11_plan 10 = .ok (.iload_n 2, 1) := by decide +kernel
theorem dX11_plan_11 : decode cX11_plan 11 = .ok (.iconst 1, 1) := by decide +kernel
theorem dX11_plan_12 : decode cX11_plan 12 = .ok (.sipush 20000, 3) := by decide +kernel
theorem dX11_plan_15 : decode cX11_plan 15 = .ok (.invokestatic 63, 3) := by decide +kernel
theorem dX11_plan_18 : decode cX11_plan 18 = .ok (.ifCond .ne 6, 3) := by decide +kernel
theorem dX11_plan_21 : decode cX11_plan 21 = .ok (.ldc 67, 2) := by decide +kernel
theorem dX11_plan_23 : decode cX11_plan 23 = .ok (.ireturn, 1) := by decide +kernel
theorem dX11_plan_24 : decode cX11_plan 24 = .ok (.aload_n 0, 1) := by decide +kernel
theorem dX11_plan_25 : decode cX11_plan 25 = .ok (.getfield 10, 3) := by decide +kernel
theorem dX11_plan_28 : decode cX11_plan 28 = .ok (.getfield 309, 3) := by decide +kernel
theorem dX11_plan_31 : decode cX11_plan 31 = .ok (.iload_n 1, 1) := by decide +kernel
theorem dX11_plan_32 : decode cX11_plan 32 = .ok (.iload_n 2, 1) := by decide +kernel
theorem dX11_plan_33 : decode cX11_plan 33 = .ok (.aload_n 0, 1) := by decide +kernel
theorem dX11_plan_34 : decode cX11_plan 34 = .ok (.getfield 10, 3) := by decide +kernel
theorem dX11_plan_37 : decode cX11_plan 37 = .ok (.getfield 158, 3) := by decide +kernel
theorem dX11_plan_40 : decode cX11_plan 40 = .ok (.invokevirtual 322, 3) := by decide +kernel
theorem dX11_plan_43 : decode cX11_plan 43 = .ok (.ireturn, 1) := by decide +kernel
theorem dX11_planned_0 : decode cX11_planned 0 = .ok (.iload_n 1, 1) := by decide +kernel
theorem dX11_planned_1 : decode cX11_planned 1 = .ok (.iconst 1, 1) := by decide +kernel
theorem dX11_planned_2 : decode cX11_planned 2 = .ok (.bipush 24, 2) := by decide +kernel
theorem dX11_planned_4 : decode cX11_planned 4 = .ok (.invokestatic 63, 3) := by decide +kernel
theorem dX11_planned_7 : decode cX11_planned 7 = .ok (.ifCond .eq 18, 3) := by decide +kernel
theorem dX11_planned_10 : decode cX11_planned 10 = .ok (.iload_n 2, 1) := by decide +kernel
theorem dX11_planned_11 : decode cX11_planned 11 = .ok (.iconst 1, 1) := by decide +kernel
theorem dX11_planned_12 : decode cX11_planned 12 = .ok (.sipush 20000, 3) := by decide +kernel
theorem dX11_planned_15 : decode cX11_planned 15 = .ok (.invokestatic 63, 3) := by decide +kernel
theorem dX11_planned_18 : decode cX11_planned 18 = .ok (.ifCond .eq 7, 3) := by decide +kernel
theorem dX11_planned_21 : decode cX11_planned 21 = .ok (.iload_n 3, 1) := by decide +kernel
theorem dX11_planned_22 : decode cX11_planned 22 = .ok (.ifCond .ge 6, 3) := by decide +kernel
theorem dX11_planned_25 : decode cX11_planned 25 = .ok (.ldc 67, 2) := by decide +kernel
theorem dX11_planned_27 : decode cX11_planned 27 = .ok (.ireturn, 1) := by decide +kernel
theorem dX11_planned_28 : decode cX11_planned 28 = .ok (.aload_n 0, 1) := by decide +kernel
theorem dX11_planned_29 : decode cX11_planned 29 = .ok (.getfield 10, 3) := by decide +kernel
theorem dX11_planned_32 : decode cX11_planned 32 = .ok (.getfield 309, 3) := by decide +kernel
theorem dX11_planned_35 : decode cX11_planned 35 = .ok (.iload_n 1, 1) := by decide +kernel
theorem dX11_planned_36 : decode cX11_planned 36 = .ok (.iload_n 2, 1) := by decide +kernel
theorem dX11_planned_37 : decode cX11_planned 37 = .ok (.aload_n 0, 1) := by decide +kernel
theorem dX11_planned_38 : decode cX11_planned 38 = .ok (.getfield 10, 3) := by decide +kernel
theorem dX11_planned_41 : decode cX11_planned 41 = .ok (.getfield 158, 3) := by decide +kernel
theorem dX11_planned_44 : decode cX11_planned 44 = .ok (.invokevirtual 322, 3) := by decide +kernel
theorem dX11_planned_47 : decode cX11_planned 47 = .ok (.istore 4, 2) := by decide +kernel
theorem dX11_planned_49 : decode cX11_planned 49 = .ok (.iload 4, 2) := by decide +kernel
theorem dX11_planned_51 : decode cX11_planned 51 = .ok (.ifCond .ge 6, 3) := by decide +kernel
theorem dX11_planned_54 : decode cX11_planned 54 = .ok (.iload 4, 2) := by decide +kernel
theorem dX11_planned_56 : decode cX11_planned 56 = .ok (.ireturn, 1) := by decide +kernel
theorem dX11_planned_57 : decode cX11_planned 57 = .ok (.iload_n 3, 1) := by decide +kernel
theorem dX11_planned_58 : decode cX11_planned 58 = .ok (.aload_n 0, 1) := by decide +kernel
theorem dX11_planned_59 : decode cX11_planned 59 = .ok (.getfield 10, 3) := by decide +kernel
theorem dX11_planned_62 : decode cX11_planned 62 = .ok (.getfield 309, 3) := by decide +kernel
theorem dX11_planned_65 : decode cX11_planned 65 = .ok (.getfield 326, 3) := by decide +kernel
theorem dX11_planned_68 : decode cX11_planned 68 = .ok (.invokevirtual 236, 3) := by decide +kernel
theorem dX11_planned_71 : decode cX11_planned 71 = .ok (.if_icmp .ge 20, 3) := by decide +kernel
theorem dX11_planned_74 : decode cX11_planned 74 = .ok (.aload_n 0, 1) := by decide +kernel
theorem dX11_planned_75 : decode cX11_planned 75 = .ok (.getfield 10, 3) := by decide +kernel
theorem dX11_planned_78 : decode cX11_planned 78 = .ok (.getfield 309, 3) := by decide +kernel
theorem dX11_planned_81 : decode cX11_planned 81 = .ok (.getfield 326, 3) := by decide +kernel
theorem dX11_planned_84 : decode cX11_planned 84 = .ok (.iload_n 3, 1) := by decide +kernel
theorem dX11_planned_85 : decode cX11_planned 85 = .ok (.invokevirtual 102, 3) := by decide +kernel
theorem dX11_planned_88 : decode cX11_planned 88 = .ok (.goto 5, 3) := by decide +kernel
theorem dX11_planned_91 : decode cX11_planned 91 = .ok (.ldc 229, 2) := by decide +kernel
theorem dX11_planned_93 : decode cX11_planned 93 = .ok (.ireturn, 1) := by decide +kernel
theorem dX11_tell_0 : decode cX11_tell 0 = .ok (.aload_n 0, 1) := by decide +kernel
theorem dX11_tell_1 : decode cX11_tell 1 = .ok (.getfield 50, 3) := by decide +kernel
theorem dX11_tell_4 : decode cX11_tell 4 = .ok (.iload_n 1, 1) := by decide +kernel
theorem dX11_tell_5 : decode cX11_tell 5 = .ok (.invokevirtual 329, 3) := by decide +kernel
theorem dX11_tell_8 : decode cX11_tell 8 = .ok (.ifCond .eq 13, 3) := by decide +kernel
theorem dX11_tell_11 : decode cX11_tell 11 = .ok (.aload_n 0, 1) := by decide +kernel
theorem dX11_tell_12 : decode cX11_tell 12 = .ok (.getfield 50, 3) := by decide +kernel
theorem dX11_tell_15 : decode cX11_tell 15 = .ok (.invokevirtual 236, 3) := by decide +kernel
theorem dX11_tell_18 : decode cX11_tell 18 = .ok (.goto 5, 3) := by decide +kernel
theorem dX11_tell_21 : decode cX11_tell 21 = .ok (.ldc 170, 2) := by decide +kernel
theorem dX11_tell_23 : decode cX11_tell 23 = .ok (.ireturn, 1) := by decide +kernel
theorem dX11_check_0 : decode cX11_check 0 = .ok (.aload_n 0, 1) := by decide +kernel
theorem dX11_check_1 : decode cX11_check 1 = .ok (.iload_n 1, 1) := by decide +kernel
theorem dX11_check_2 : decode cX11_check 2 = .ok (.iload_n 2, 1) := by decide +kernel
theorem dX11_check_3 : decode cX11_check 3 = .ok (.invokevirtual 332, 3) := by decide +kernel
theorem dX11_check_6 : decode cX11_check 6 = .ok (.istore_n 3, 1) := by decide +kernel
theorem dX11_check_7 : decode cX11_check 7 = .ok (.aload_n 0, 1) := by decide +kernel
theorem dX11_check_8 : decode cX11_check 8 = .ok (.getfield 50, 3) := by decide +kernel
theorem dX11_check_11 : decode cX11_check 11 = .ok (.iconst 0, 1) := by decide +kernel
theorem dX11_check_12 : decode cX11_check 12 = .ok (.invokevirtual 242, 3) := by decide +kernel
theorem dX11_check_15 : decode cX11_check 15 = .ok (.iload_n 3, 1) := by decide +kernel
theorem dX11_check_16 : decode cX11_check 16 = .ok (.ireturn, 1) := by decide +kernel
theorem dX11_keep_0 : decode cX11_keep 0 = .ok (.aload_n 0, 1) := by decide +kernel
theorem dX11_keep_1 : decode cX11_keep 1 = .ok (.getfield 16, 3) := by decide +kernel
theorem dX11_keep_4 : decode cX11_keep 4 = .ok (.aload_n 0, 1) := by decide +kernel
theorem dX11_keep_5 : decode cX11_keep 5 = .ok (.getfield 10, 3) := by decide +kernel
theorem dX11_keep_8 : decode cX11_keep 8 = .ok (.invokevirtual 335, 3) := by decide +kernel
theorem dX11_keep_11 : decode cX11_keep 11 = .ok (.aload_n 0, 1) := by decide +kernel
theorem dX11_keep_12 : decode cX11_keep 12 = .ok (.iconst 1, 1) := by decide +kernel
theorem dX11_keep_13 : decode cX11_keep 13 = .ok (.putfield 19, 3) := by decide +kernel
theorem dX11_keep_16 : decode cX11_keep 16 = .ok (.aload_n 0, 1) := by decide +kernel
theorem dX11_keep_17 : decode cX11_keep 17 = .ok (.getfield 10, 3) := by decide +kernel
theorem dX11_keep_20 : decode cX11_keep 20 = .ok (.getfield 158, 3) := by decide +kernel
theorem dX11_keep_23 : decode cX11_keep 23 = .ok (.getfield 174, 3) := by decide +kernel
theorem dX11_keep_26 : decode cX11_keep 26 = .ok (.ireturn, 1) := by decide +kernel
theorem dX11_back_0 : decode cX11_back 0 = .ok (.aload_n 0, 1) := by decide +kernel
theorem dX11_back_1 : decode cX11_back 1 = .ok (.getfield 19, 3) := by decide +kernel
theorem dX11_back_4 : decode cX11_back 4 = .ok (.ifCond .ne 6, 3) := by decide +kernel
theorem dX11_back_7 : decode cX11_back 7 = .ok (.ldc 90, 2) := by decide +kernel
theorem dX11_back_9 : decode cX11_back 9 = .ok (.ireturn, 1) := by decide +kernel
theorem dX11_back_10 : decode cX11_back 10 = .ok (.aload_n 0, 1) := by decide +kernel
theorem dX11_back_11 : decode cX11_back 11 = .ok (.getfield 10, 3) := by decide +kernel
theorem dX11_back_14 : decode cX11_back 14 = .ok (.aload_n 0, 1) := by decide +kernel
theorem dX11_back_15 : decode cX11_back 15 = .ok (.getfield 16, 3) := by decide +kernel
theorem dX11_back_18 : decode cX11_back 18 = .ok (.invokevirtual 335, 3) := by decide +kernel
theorem dX11_back_21 : decode cX11_back 21 = .ok (.aload_n 0, 1) := by decide +kernel
theorem dX11_back_22 : decode cX11_back 22 = .ok (.getfield 10, 3) := by decide +kernel
theorem dX11_back_25 : decode cX11_back 25 = .ok (.getfield 158, 3) := by decide +kernel
theorem dX11_back_28 : decode cX11_back 28 = .ok (.getfield 174, 3) := by decide +kernel
theorem dX11_back_31 : decode cX11_back 31 = .ok (.ireturn, 1) := by decide +kernel
theorem dX11_sheet_0 : decode cX11_sheet 0 = .ok (.iload_n 1, 1) := by decide +kernel
theorem dX11_sheet_1 : decode cX11_sheet 1 = .ok (.iconst 0, 1) := by decide +kernel
theorem dX11_sheet_2 : decode cX11_sheet 2 = .ok (.iconst 1, 1) := by decide +kernel
theorem dX11_sheet_3 : decode cX11_sheet 3 = .ok (.invokestatic 63, 3) := by decide +kernel
theorem dX11_sheet_6 : decode cX11_sheet 6 = .ok (.ifCond .eq 9, 3) := by decide +kernel
theorem dX11_sheet_9 : decode cX11_sheet 9 = .ok (.iload_n 2, 1) := by decide +kernel
theorem dX11_sheet_10 : decode cX11_sheet 10 = .ok (.bipush 80, 2) := by decide +kernel
theorem dX11_sheet_12 : decode cX11_sheet 12 = .ok (.if_icmp .le 6, 3) := by decide +kernel
theorem dX11_sheet_15 : decode cX11_sheet 15 = .ok (.ldc 67, 2) := by decide +kernel
theorem dX11_sheet_17 : decode cX11_sheet 17 = .ok (.ireturn, 1) := by decide +kernel
theorem dX11_sheet_18 : decode cX11_sheet 18 = .ok (.iload_n 2, 1) := by decide +kernel
theorem dX11_sheet_19 : decode cX11_sheet 19 = .ok (.ifCond .ge 7, 3) := by decide +kernel
theorem dX11_sheet_22 : decode cX11_sheet 22 = .ok (.ldc_w 337, 3) := by decide +kernel
theorem dX11_sheet_25 : decode cX11_sheet 25 = .ok (.ireturn, 1) := by decide +kernel
theorem dX11_sheet_26 : decode cX11_sheet 26 = .ok (.aload_n 0, 1) := by decide +kernel
theorem dX11_sheet_27 : decode cX11_sheet 27 = .ok (.getfield 59, 3) := by decide +kernel
theorem dX11_sheet_30 : decode cX11_sheet 30 = .ok (.iload_n 1, 1) := by decide +kernel
theorem dX11_sheet_31 : decode cX11_sheet 31 = .ok (.iload_n 2, 1) := by decide +kernel
theorem dX11_sheet_32 : decode cX11_sheet 32 = .ok (.invokevirtual 338, 3) := by decide +kernel
theorem dX11_sheet_35 : decode cX11_sheet 35 = .ok (.iload_n 2, 1) := by decide +kernel
theorem dX11_sheet_36 : decode cX11_sheet 36 = .ok (.ireturn, 1) := by decide +kernel
theorem dX11_mark_0 : decode cX11_mark 0 = .ok (.iload_n 1, 1) := by decide +kernel
theorem dX11_mark_1 : decode cX11_mark 1 = .ok (.iconst 0, 1) := by decide +kernel
theorem dX11_mark_2 : decode cX11_mark 2 = .ok (.iconst 1, 1) := by decide +kernel
theorem dX11_mark_3 : decode cX11_mark 3 = .ok (.invokestatic 63, 3) := by decide +kernel
theorem dX11_mark_6 : decode cX11_mark 6 = .ok (.ifCond .ne 6, 3) := by decide +kernel
theorem dX11_mark_9 : decode cX11_mark 9 = .ok (.ldc 67, 2) := by decide +kernel
theorem dX11_mark_11 : decode cX11_mark 11 = .ok (.ireturn, 1) := by decide +kernel
theorem dX11_mark_12 : decode cX11_mark 12 = .ok (.aload_n 0, 1) := by decide +kernel
theorem dX11_mark_13 : decode cX11_mark 13 = .ok (.getfield 59, 3) := by decide +kernel
theorem dX11_mark_16 : decode cX11_mark 16 = .ok (.iload_n 1, 1) := by decide +kernel
theorem dX11_mark_17 : decode cX11_mark 17 = .ok (.invokevirtual 125, 3) := by decide +kernel
theorem dX11_mark_20 : decode cX11_mark 20 = .ok (.ifCond .ne 6, 3) := by decide +kernel
theorem dX11_mark_23 : decode cX11_mark 23 = .ok (.ldc 128, 2) := by decide +kernel
theorem dX11_mark_25 : decode cX11_mark 25 = .ok (.ireturn, 1) := by decide +kernel
theorem dX11_mark_26 : decode cX11_mark 26 = .ok (.iload_n 2, 1) := by decide +kernel
theorem dX11_mark_27 : decode cX11_mark 27 = .ok (.ifCond .lt 15, 3) := by decide +kernel
theorem dX11_mark_30 : decode cX11_mark 30 = .ok (.iload_n 2, 1) := by decide +kernel
theorem dX11_mark_31 : decode cX11_mark 31 = .ok (.aload_n 0, 1) := by decide +kernel
theorem dX11_mark_32 : decode cX11_mark 32 = .ok (.getfield 59, 3) := by decide +kernel
theorem dX11_mark_35 : decode cX11_mark 35 = .ok (.iload_n 1, 1) := by decide +kernel
theorem dX11_mark_36 : decode cX11_mark 36 = .ok (.invokevirtual 129, 3) := by decide +kernel
theorem dX11_mark_39 : decode cX11_mark 39 = .ok (.if_icmp .lt 7, 3) := by decide +kernel
theorem dX11_mark_42 : decode cX11_mark 42 = .ok (.ldc_w 341, 3) := by decide +kernel
theorem dX11_mark_45 : decode cX11_mark 45 = .ok (.ireturn, 1) := by decide +kernel
theorem dX11_mark_46 : decode cX11_mark 46 = .ok (.aload_n 0, 1) := by decide +kernel
theorem dX11_mark_47 : decode cX11_mark 47 = .ok (.getfield 59, 3) := by decide +kernel
theorem dX11_mark_50 : decode cX11_mark 50 = .ok (.iload_n 1, 1) := by decide +kernel
theorem dX11_mark_51 : decode cX11_mark 51 = .ok (.iload_n 2, 1) := by decide +kernel
theorem dX11_mark_52 : decode cX11_mark 52 = .ok (.iload_n 3, 1) := by decide +kernel
theorem dX11_mark_53 : decode cX11_mark 53 = .ok (.i2s, 1) := by decide +kernel
theorem dX11_mark_54 : decode cX11_mark 54 = .ok (.invokevirtual 342, 3) := by decide +kernel
theorem dX11_mark_57 : decode cX11_mark 57 = .ok (.ireturn, 1) := by decide +kernel
theorem dX11_copy_0 : decode cX11_copy 0 = .ok (.iload_n 1, 1) := by decide +kernel
theorem dX11_copy_1 : decode cX11_copy 1 = .ok (.iconst 0, 1) := by decide +kernel
theorem dX11_copy_2 : decode cX11_copy 2 = .ok (.iconst 1, 1) := by decide +kernel
theorem dX11_copy_3 : decode cX11_copy 3 = .ok (.invokestatic 63, 3) := by decide +kernel
theorem dX11_copy_6 : decode cX11_copy 6 = .ok (.ifCond .eq 12, 3) := by decide +kernel
theorem dX11_copy_9 : decode cX11_copy 9 = .ok (.iload_n 3, 1) := by decide +kernel
theorem dX11_copy_10 : decode cX11_copy 10 = .ok (.iconst 0, 1) := by decide +kernel
theorem dX11_copy_11 : decode cX11_copy 11 = .ok (.iconst 1, 1) := by decide +kernel
theorem dX11_copy_12 : decode cX11_copy 12 = .ok (.invokestatic 63, 3) := by decide +kernel
theorem dX11_copy_15 : decode cX11_copy 15 = .ok (.ifCond .ne 6, 3) := by decide +kernel
theorem dX11_copy_18 : decode cX11_copy 18 = .ok (.ldc 67, 2) := by decide +kernel
theorem dX11_copy_20 : decode cX11_copy 20 = .ok (.ireturn, 1) := by decide +kernel
theorem dX11_copy_21 : decode cX11_copy 21 = .ok (.aload_n 0, 1) := by decide +kernel
theorem dX11_copy_22 : decode cX11_copy 22 = .ok (.getfield 59, 3) := by decide +kernel
theorem dX11_copy_25 : decode cX11_copy 25 = .ok (.iload_n 1, 1) := by decide +kernel
theorem dX11_copy_26 : decode cX11_copy 26 = .ok (.invokevirtual 125, 3) := by decide +kernel
theorem dX11_copy_29 : decode cX11_copy 29 = .ok (.ifCond .eq 14, 3) := by decide +kernel
theorem dX11_copy_32 : decode cX11_copy 32 = .ok (.aload_n 0, 1) := by decide +kernel
theorem dX11_copy_33 : decode cX11_copy 33 = .ok (.getfield 59, 3) := by decide +kernel
theorem dX11_copy_36 : decode cX11_copy 36 = .ok (.iload_n 3, 1) := by decide +kernel
theorem dX11_copy_37 : decode cX11_copy 37 = .ok (.invokevirtual 125, 3) := by decide +kernel
theorem dX11_copy_40 : decode cX11_copy 40 = .ok (.ifCond .ne 6, 3) := by decide +kernel
theorem dX11_copy_43 : decode cX11_copy 43 = .ok (.ldc 128, 2) := by decide +kernel
theorem dX11_copy_45 : decode cX11_copy 45 = .ok (.ireturn, 1) := by decide +kernel
theorem dX11_copy_46 : decode cX11_copy 46 = .ok (.aload_n 0, 1) := by decide +kernel
theorem dX11_copy_47 : decode cX11_copy 47 = .ok (.getfield 59, 3) := by decide +kernel
theorem dX11_copy_50 : decode cX11_copy 50 = .ok (.iload_n 1, 1) := by decide +kernel
theorem dX11_copy_51 : decode cX11_copy 51 = .ok (.iload_n 2, 1) := by decide +kernel
theorem dX11_copy_52 : decode cX11_copy 52 = .ok (.iload 5, 2) := by decide +kernel
theorem dX11_copy_54 : decode cX11_copy 54 = .ok (.invokevirtual 345, 3) := by decide +kernel
theorem dX11_copy_57 : decode cX11_copy 57 = .ok (.ifCond .eq 18, 3) := by decide +kernel
theorem dX11_copy_60 : decode cX11_copy 60 = .ok (.aload_n 0, 1) := by decide +kernel
theorem dX11_copy_61 : decode cX11_copy 61 = .ok (.getfield 59, 3) := by decide +kernel
theorem dX11_copy_64 : decode cX11_copy 64 = .ok (.iload_n 3, 1) := by decide +kernel
theorem dX11_copy_65 : decode cX11_copy 65 = .ok (.iload 4, 2) := by decide +kernel
theorem dX11_copy_67 : decode cX11_copy 67 = .ok (.iload 5, 2) := by decide +kernel
theorem dX11_copy_69 : decode cX11_copy 69 = .ok (.invokevirtual 345, 3) := by decide +kernel
theorem dX11_copy_72 : decode cX11_copy 72 = .ok (.ifCond .ne 7, 3) := by decide +kernel
theorem dX11_copy_75 : decode cX11_copy 75 = .ok (.ldc_w 341, 3) := by decide +kernel
theorem dX11_copy_78 : decode cX11_copy 78 = .ok (.ireturn, 1) := by decide +kernel
theorem dX11_copy_79 : decode cX11_copy 79 = .ok (.aload_n 0, 1) := by decide +kernel
theorem dX11_copy_80 : decode cX11_copy 80 = .ok (.getfield 59, 3) := by decide +kernel
theorem dX11_copy_83 : decode cX11_copy 83 = .ok (.iload_n 1, 1) := by decide +kernel
theorem dX11_copy_84 : decode cX11_copy 84 = .ok (.iload_n 2, 1) := by decide +kernel
theorem dX11_copy_85 : decode cX11_copy 85 = .ok (.iload_n 3, 1) := by decide +kernel
theorem dX11_copy_86 : decode cX11_copy 86 = .ok (.iload 4, 2) := by decide +kernel
theorem dX11_copy_88 : decode cX11_copy 88 = .ok (.iload 5, 2) := by decide +kernel
theorem dX11_copy_90 : decode cX11_copy 90 = .ok (.invokevirtual 348, 3) := by decide +kernel
theorem dX11_copy_93 : decode cX11_copy 93 = .ok (.iload 5, 2) := by decide +kernel
theorem dX11_copy_95 : decode cX11_copy 95 = .ok (.ireturn, 1) := by decide +kernel
theorem dX11_count_0 : decode cX11_count 0 = .ok (.iload_n 1, 1) := by decide +kernel
theorem dX11_count_1 : decode cX11_count 1 = .ok (.tableswitch 132 0 8 #[51, 62, 70, 81, 89, 97, 105, 116, 124], 51) := by decide +kernel
theorem dX11_count_52 : decode cX11_count 52 = .ok (.aload_n 0, 1) := by decide +kernel
theorem dX11_count_53 : decode cX11_count 53 = .ok (.getfield 10, 3) := by decide +kernel
theorem dX11_count_56 : decode cX11_count 56 = .ok (.getfield 72, 3) := by decide +kernel
theorem dX11_count_59 : decode cX11_count 59 = .ok (.invokevirtual 76, 3) := by decide +kernel
theorem dX11_count_62 : decode cX11_count 62 = .ok (.ireturn, 1) := by decide +kernel
theorem dX11_count_63 : decode cX11_count 63 = .ok (.aload_n 0, 1) := by decide +kernel
theorem dX11_count_64 : decode cX11_count 64 = .ok (.getfield 10, 3) := by decide +kernel
theorem dX11_count_67 : decode cX11_count 67 = .ok (.getfield 197, 3) := by decide +kernel
theorem dX11_count_70 : decode cX11_count 70 = .ok (.ireturn, 1) := by decide +kernel
theorem dX11_count_71 : decode cX11_count 71 = .ok (.aload_n 0, 1) := by decide +kernel
theorem dX11_count_72 : decode cX11_count 72 = .ok (.getfield 10, 3) := by decide +kernel
theorem dX11_count_75 : decode cX11_count 75 = .ok (.getfield 158, 3) := by decide +kernel
theorem dX11_count_78 : decode cX11_count 78 = .ok (.invokevirtual 167, 3) := by decide +kernel
theorem dX11_count_81 : decode cX11_count 81 = .ok (.ireturn, 1) := by decide +kernel
theorem dX11_count_82 : decode cX11_count 82 = .ok (.aload_n 0, 1) := by decide +kernel
theorem dX11_count_83 : decode cX11_count 83 = .ok (.getfield 10, 3) := by decide +kernel
theorem dX11_count_86 : decode cX11_count 86 = .ok (.invokevirtual 352, 3) := by decide +kernel
theorem dX11_count_89 : decode cX11_count 89 = .ok (.ireturn, 1) := by decide +kernel
theorem dX11_count_90 : decode cX11_count 90 = .ok (.aload_n 0, 1) := by decide +kernel
theorem dX11_count_91 : decode cX11_count 91 = .ok (.getfield 10, 3) := by decide +kernel
theorem dX11_count_94 : decode cX11_count 94 = .ok (.invokevirtual 273, 3) := by decide +kernel
theorem dX11_count_97 : decode cX11_count 97 = .ok (.ireturn, 1) := by decide +kernel
theorem dX11_count_98 : decode cX11_count 98 = .ok (.aload_n 0, 1) := by decide +kernel
theorem dX11_count_99 : decode cX11_count 99 = .ok (.getfield 10, 3) := by decide +kernel
theorem dX11_count_102 : decode cX11_count 102 = .ok (.invokevirtual 355, 3) := by decide +kernel
theorem dX11_count_105 : decode cX11_count 105 = .ok (.ireturn, 1) := by decide +kernel
theorem dX11_count_106 : decode cX11_count 106 = .ok (.aload_n 0, 1) := by decide +kernel
theorem dX11_count_107 : decode cX11_count 107 = .ok (.getfield 10, 3) := by decide +kernel
theorem dX11_count_110 : decode cX11_count 110 = .ok (.getfield 309, 3) := by decide +kernel
theorem dX11_count_113 : decode cX11_count 113 = .ok (.invokevirtual 313, 3) := by decide +kernel
theorem dX11_count_116 : decode cX11_count 116 = .ok (.ireturn, 1) := by decide +kernel
theorem dX11_count_117 : decode cX11_count 117 = .ok (.aload_n 0, 1) := by decide +kernel
theorem dX11_count_118 : decode cX11_count 118 = .ok (.getfield 50, 3) := by decide +kernel
theorem dX11_count_121 : decode cX11_count 121 = .ok (.invokevirtual 236, 3) := by decide +kernel
theorem dX11_count_124 : decode cX11_count 124 = .ok (.ireturn, 1) := by decide +kernel
theorem dX11_count_125 : decode cX11_count 125 = .ok (.aload_n 0, 1) := by decide +kernel
theorem dX11_count_126 : decode cX11_count 126 = .ok (.getfield 37, 3) := by decide +kernel
theorem dX11_count_129 : decode cX11_count 129 = .ok (.invokevirtual 236, 3) := by decide +kernel
theorem dX11_count_132 : decode cX11_count 132 = .ok (.ireturn, 1) := by decide +kernel
theorem dX11_count_133 : decode cX11_count 133 = .ok (.ldc 67, 2) := by decide +kernel
theorem dX11_count_135 : decode cX11_count 135 = .ok (.ireturn, 1) := by decide +kernel
theorem dX11_within_0 : decode cX11_within 0 = .ok (.iload_n 0, 1) := by decide +kernel
theorem dX11_within_1 : decode cX11_within 1 = .ok (.iload_n 1, 1) := by decide +kernel
theorem dX11_within_2 : decode cX11_within 2 = .ok (.if_icmp .lt 12, 3) := by decide +kernel
theorem dX11_within_5 : decode cX11_within 5 = .ok (.iload_n 0, 1) := by decide +kernel
theorem dX11_within_6 : decode cX11_within 6 = .ok (.iload_n 2, 1) := by decide +kernel
theorem dX11_within_7 : decode cX11_within 7 = .ok (.if_icmp .gt 7, 3) := by decide +kernel
theorem dX11_within_10 : decode cX11_within 10 = .ok (.iconst 1, 1) := by decide +kernel
theorem dX11_within_11 : decode cX11_within 11 = .ok (.goto 4, 3) := by decide +kernel
theorem dX11_within_14 : decode cX11_within 14 = .ok (.iconst 0, 1) := by decide +kernel
theorem dX11_within_15 : decode cX11_within 15 = .ok (.ireturn, 1) := by decide +kernel
theorem dX11_asBit_0 : decode cX11_asBit 0 = .ok (.iload_n 0, 1) := by decide +kernel
theorem dX11_asBit_1 : decode cX11_asBit 1 = .ok (.ifCond .eq 7, 3) := by decide +kernel
theorem dX11_asBit_4 : decode cX11_asBit 4 = .ok (.iconst 1, 1) := by decide +kernel
theorem dX11_asBit_5 : decode cX11_asBit 5 = .ok (.goto 4, 3) := by decide +kernel
theorem dX11_asBit_8 : decode cX11_asBit 8 = .ok (.iconst 0, 1) := by decide +kernel
theorem dX11_asBit_9 : decode cX11_asBit 9 = .ok (.ireturn, 1) := by decide +kernel
theorem dX11_orNone_0 : decode cX11_orNone 0 = .ok (.iload_n 0, 1) := by decide +kernel
theorem dX11_orNone_1 : decode cX11_orNone 1 = .ok (.ifCond .ge 8, 3) := by decide +kernel
theorem dX11_orNone_4 : decode cX11_orNone 4 = .ok (.ldc 229, 2) := by decide +kernel
theorem dX11_orNone_6 : decode cX11_orNone 6 = .ok (.goto 4, 3) := by decide +kernel
theorem dX11_orNone_9 : decode cX11_orNone 9 = .ok (.iload_n 0, 1) := by decide +kernel
theorem dX11_orNone_10 : decode cX11_orNone 10 = .ok (.ireturn, 1) := by decide +kernel
theorem dX11_isUnder_0 : decode cX11_isUnder 0 = .ok (.iload_n 1, 1) := by decide +kernel
theorem dX11_isUnder_1 : decode cX11_isUnder 1 = .ok (.istore_n 3, 1) := by decide +kernel
theorem dX11_isUnder_2 : decode cX11_isUnder 2 = .ok (.iconst 0, 1) := by decide +kernel
theorem dX11_isUnder_3 : decode cX11_isUnder 3 = .ok (.istore 4, 2) := by decide +kernel
theorem dX11_isUnder_5 : decode cX11_isUnder 5 = .ok (.iload 4, 2) := by decide +kernel
theorem dX11_isUnder_7 : decode cX11_isUnder 7 = .ok (.aload_n 0, 1) := by decide +kernel
theorem dX11_isUnder_8 : decode cX11_isUnder 8 = .ok (.arraylength, 1) := by decide +kernel
theorem dX11_isUnder_9 : decode cX11_isUnder 9 = .ok (.if_icmp .ge 30, 3) := by decide +kernel
theorem dX11_isUnder_12 : decode cX11_isUnder 12 = .ok (.iload_n 3, 1) := by decide +kernel
theorem dX11_isUnder_13 : decode cX11_isUnder 13 = .ok (.ifCond .lt 26, 3) := by decide +kernel
theorem dX11_isUnder_16 : decode cX11_isUnder 16 = .ok (.iload_n 3, 1) := by decide +kernel
theorem dX11_isUnder_17 : decode cX11_isUnder 17 = .ok (.aload_n 0, 1) := by decide +kernel
theorem dX11_isUnder_18 : decode cX11_isUnder 18 = .ok (.arraylength, 1) := by decide +kernel
theorem dX11_isUnder_19 : decode cX11_isUnder 19 = .ok (.if_icmp .ge 20, 3) := by decide +kernel
theorem dX11_isUnder_22 : decode cX11_isUnder 22 = .ok (.iload_n 3, 1) := by decide +kernel
theorem dX11_isUnder_23 : decode cX11_isUnder 23 = .ok (.iload_n 2, 1) := by decide +kernel
theorem dX11_isUnder_24 : decode cX11_isUnder 24 = .ok (.if_icmp .ne 5, 3) := by decide +kernel
theorem dX11_isUnder_27 : decode cX11_isUnder 27 = .ok (.iconst 1, 1) := by decide +kernel
theorem dX11_isUnder_28 : decode cX11_isUnder 28 = .ok (.ireturn, 1) := by decide +kernel
theorem dX11_isUnder_29 : decode cX11_isUnder 29 = .ok (.aload_n 0, 1) := by decide +kernel
theorem dX11_isUnder_30 : decode cX11_isUnder 30 = .ok (.iload_n 3, 1) := by decide +kernel
theorem dX11_isUnder_31 : decode cX11_isUnder 31 = .ok (.iaload, 1) := by decide +kernel
theorem dX11_isUnder_32 : decode cX11_isUnder 32 = .ok (.istore_n 3, 1) := by decide +kernel
theorem dX11_isUnder_33 : decode cX11_isUnder 33 = .ok (.iinc 4 1, 3) := by decide +kernel
theorem dX11_isUnder_36 : decode cX11_isUnder 36 = .ok (.goto (-31), 3) := by decide +kernel
theorem dX11_isUnder_39 : decode cX11_isUnder 39 = .ok (.iconst 0, 1) := by decide +kernel
theorem dX11_isUnder_40 : decode cX11_isUnder 40 = .ok (.ireturn, 1) := by decide +kernel
theorem dX11_addBytes_0 : decode cX11_addBytes 0 = .ok (.bipush 24, 2) := by decide +kernel
theorem dX11_addBytes_2 : decode cX11_addBytes 2 = .ok (.istore_n 2, 1) := by decide +kernel
theorem dX11_addBytes_3 : decode cX11_addBytes 3 = .ok (.iload_n 2, 1) := by decide +kernel
theorem dX11_addBytes_4 : decode cX11_addBytes 4 = .ok (.ifCond .lt 24, 3) := by decide +kernel
theorem dX11_addBytes_7 : decode cX11_addBytes 7 = .ok (.aload_n 0, 1) := by decide +kernel
theorem dX11_addBytes_8 : decode cX11_addBytes 8 = .ok (.getfield 37, 3) := by decide +kernel
theorem dX11_addBytes_11 : decode cX11_addBytes 11 = .ok (.iload_n 1, 1) := by decide +kernel
theorem dX11_addBytes_12 : decode cX11_addBytes 12 = .ok (.iload_n 2, 1) := by decide +kernel
theorem dX11_addBytes_13 : decode cX11_addBytes 13 = .ok (.iushr, 1) := by decide +kernel
theorem dX11_addBytes_14 : decode cX11_addBytes 14 = .ok (.sipush 255, 3) := by decide +kernel
theorem dX11_addBytes_17 : decode cX11_addBytes 17 = .ok (.iand, 1) := by decide +kernel
theorem dX11_addBytes_18 : decode cX11_addBytes 18 = .ok (.invokevirtual 329, 3) := by decide +kernel
theorem dX11_addBytes_21 : decode cX11_addBytes 21 = .ok (.pop, 1) := by decide +kernel
theorem dX11_addBytes_22 : decode cX11_addBytes 22 = .ok (.iinc 2 (-8), 3) := by decide +kernel
theorem dX11_addBytes_25 : decode cX11_addBytes 25 = .ok (.goto (-22), 3) := by decide +kernel
theorem dX11_addBytes_28 : decode cX11_addBytes 28 = .ok (.return_, 1) := by decide +kernel
theorem dX11_compareWaiting_0 : decode cX11_compareWaiting 0 = .ok (.iload_n 1, 1) := by decide +kernel
theorem dX11_compareWaiting_1 : decode cX11_compareWaiting 1 = .ok (.iconst 0, 1) := by decide +kernel
theorem dX11_compareWaiting_2 : decode cX11_compareWaiting 2 = .ok (.iconst 1, 1) := by decide +kernel
theorem dX11_compareWaiting_3 : decode cX11_compareWaiting 3 = .ok (.invokestatic 63, 3) := by decide +kernel
theorem dX11_compareWaiting_6 : decode cX11_compareWaiting 6 = .ok (.ifCond .eq 13, 3) := by decide +kernel
theorem dX11_compareWaiting_9 : decode cX11_compareWaiting 9 = .ok (.iload_n 2, 1) := by decide +kernel
theorem dX11_compareWaiting_10 : decode cX11_compareWaiting 10 = .ok (.iconst 1, 1) := by decide +kernel
theorem dX11_compareWaiting_11 : decode cX11_compareWaiting 11 = .ok (.bipush 24, 2) := by decide +kernel
theorem dX11_compareWaiting_13 : decode cX11_compareWaiting 13 = .ok (.invokestatic 63, 3) := by decide +kernel
theorem dX11_compareWaiting_16 : decode cX11_compareWaiting 16 = .ok (.ifCond .ne 6, 3) := by decide +kernel
theorem dX11_compareWaiting_19 : decode cX11_compareWaiting 19 = .ok (.ldc 67, 2) := by decide +kernel
theorem dX11_compareWaiting_21 : decode cX11_compareWaiting 21 = .ok (.ireturn, 1) := by decide +kernel
theorem dX11_compareWaiting_22 : decode cX11_compareWaiting 22 = .ok (.aload_n 0, 1) := by decide +kernel
theorem dX11_compareWaiting_23 : decode cX11_compareWaiting 23 = .ok (.getfield 53, 3) := by decide +kernel
theorem dX11_compareWaiting_26 : decode cX11_compareWaiting 26 = .ok (.iconst 0, 1) := by decide +kernel
theorem dX11_compareWaiting_27 : decode cX11_compareWaiting 27 = .ok (.invokevirtual 242, 3) := by decide +kernel
theorem dX11_compareWaiting_30 : decode cX11_compareWaiting 30 = .ok (.iload_n 1, 1) := by decide +kernel
theorem dX11_compareWaiting_31 : decode cX11_compareWaiting 31 = .ok (.ifCond .ne 55, 3) := by decide +kernel
theorem dX11_compareWaiting_34 : decode cX11_compareWaiting 34 = .ok (.aload_n 0, 1) := by decide +kernel
theorem dX11_compareWaiting_35 : decode cX11_compareWaiting 35 = .ok (.getfield 10, 3) := by decide +kernel
theorem dX11_compareWaiting_38 : decode cX11_compareWaiting 38 = .ok (.getfield 309, 3) := by decide +kernel
theorem dX11_compareWaiting_41 : decode cX11_compareWaiting 41 = .ok (.iload_n 2, 1) := by decide +kernel
theorem dX11_compareWaiting_42 : decode cX11_compareWaiting 42 = .ok (.sipush 20000, 3) := by decide +kernel
theorem dX11_compareWaiting_45 : decode cX11_compareWaiting 45 = .ok (.aload_n 0, 1) := by decide +kernel
theorem dX11_compareWaiting_46 : decode cX11_compareWaiting 46 = .ok (.getfield 10, 3) := by decide +kernel
theorem dX11_compareWaiting_49 : decode cX11_compareWaiting 49 = .ok (.getfield 158, 3) := by decide +kernel
theorem dX11_compareWaiting_52 : decode cX11_compareWaiting 52 = .ok (.invokevirtual 322, 3) := by decide +kernel
theorem dX11_compareWaiting_55 : decode cX11_compareWaiting 55 = .ok (.istore_n 3, 1) := by decide +kernel
theorem dX11_compareWaiting_56 : decode cX11_compareWaiting 56 = .ok (.iload_n 3, 1) := by decide +kernel
theorem dX11_compareWaiting_57 : decode cX11_compareWaiting 57 = .ok (.ifCond .ge 5, 3) := by decide +kernel
theorem dX11_compareWaiting_60 : decode cX11_compareWaiting 60 = .ok (.iload_n 3, 1) := by decide +kernel
theorem dX11_compareWaiting_61 : decode cX11_compareWaiting 61 = .ok (.ireturn, 1) := by decide +kernel
theorem dX11_compareWaiting_62 : decode cX11_compareWaiting 62 = .ok (.aload_n 0, 1) := by decide +kernel
theorem dX11_compareWaiting_63 : decode cX11_compareWaiting 63 = .ok (.getfield 10, 3) := by decide +kernel
theorem dX11_compareWaiting_66 : decode cX11_compareWaiting 66 = .ok (.getfield 309, 3) := by decide +kernel
theorem dX11_compareWaiting_69 : decode cX11_compareWaiting 69 = .ok (.aload_n 0, 1) := by decide +kernel
theorem dX11_compareWaiting_70 : decode cX11_compareWaiting 70 = .ok (.getfield 10, 3) := by decide +kernel
theorem dX11_compareWaiting_73 : decode cX11_compareWaiting 73 = .ok (.getfield 158, 3) := by decide +kernel
theorem dX11_compareWaiting_76 : decode cX11_compareWaiting 76 = .ok (.aload_n 0, 1) := by decide +kernel
theorem dX11_compareWaiting_77 : decode cX11_compareWaiting 77 = .ok (.getfield 53, 3) := by decide +kernel
theorem dX11_compareWaiting_80 : decode cX11_compareWaiting 80 = .ok (.invokevirtual 358, 3) := by decide +kernel
theorem dX11_compareWaiting_83 : decode cX11_compareWaiting 83 = .ok (.goto 18, 3) := by decide +kernel
theorem dX11_compareWaiting_86 : decode cX11_compareWaiting 86 = .ok (.aload_n 0, 1) := by decide +kernel
theorem dX11_compareWaiting_87 : decode cX11_compareWaiting 87 = .ok (.getfield 10, 3) := by decide +kernel
theorem dX11_compareWaiting_90 : decode cX11_compareWaiting 90 = .ok (.getfield 158, 3) := by decide +kernel
theorem dX11_compareWaiting_93 : decode cX11_compareWaiting 93 = .ok (.iload_n 2, 1) := by decide +kernel
theorem dX11_compareWaiting_94 : decode cX11_compareWaiting 94 = .ok (.aload_n 0, 1) := by decide +kernel
theorem dX11_compareWaiting_95 : decode cX11_compareWaiting 95 = .ok (.getfield 53, 3) := by decide +kernel
theorem dX11_compareWaiting_98 : decode cX11_compareWaiting 98 = .ok (.invokevirtual 362, 3) := by decide +kernel
theorem dX11_compareWaiting_101 : decode cX11_compareWaiting 101 = .ok (.aload_n 0, 1) := by decide +kernel
theorem dX11_compareWaiting_102 : decode cX11_compareWaiting 102 = .ok (.getfield 50, 3) := by decide +kernel
theorem dX11_compareWaiting_105 : decode cX11_compareWaiting 105 = .ok (.aload_n 0, 1) := by decide +kernel
theorem dX11_compareWaiting_106 : decode cX11_compareWaiting 106 = .ok (.getfield 53, 3) := by decide +kernel
theorem dX11_compareWaiting_109 : decode cX11_compareWaiting 109 = .ok (.invokevirtual 366, 3) := by decide +kernel
theorem dX11_compareWaiting_112 : decode cX11_compareWaiting 112 = .ok (.istore_n 3, 1) := by decide +kernel
theorem dX11_compareWaiting_113 : decode cX11_compareWaiting 113 = .ok (.iload_n 3, 1) := by decide +kernel
theorem dX11_compareWaiting_114 : decode cX11_compareWaiting 114 = .ok (.aload_n 0, 1) := by decide +kernel
theorem dX11_compareWaiting_115 : decode cX11_compareWaiting 115 = .ok (.getfield 53, 3) := by decide +kernel
theorem dX11_compareWaiting_118 : decode cX11_compareWaiting 118 = .ok (.invokevirtual 236, 3) := by decide +kernel
theorem dX11_compareWaiting_121 : decode cX11_compareWaiting 121 = .ok (.if_icmp .ne 18, 3) := by decide +kernel
theorem dX11_compareWaiting_124 : decode cX11_compareWaiting 124 = .ok (.iload_n 3, 1) := by decide +kernel
theorem dX11_compareWaiting_125 : decode cX11_compareWaiting 125 = .ok (.aload_n 0, 1) := by decide +kernel
theorem dX11_compareWaiting_126 : decode cX11_compareWaiting 126 = .ok (.getfield 50, 3) := by decide +kernel
theorem dX11_compareWaiting_129 : decode cX11_compareWaiting 129 = .ok (.invokevirtual 236, 3) := by decide +kernel
theorem dX11_compareWaiting_132 : decode cX11_compareWaiting 132 = .ok (.if_icmp .ne 7, 3) := by decide +kernel
theorem dX11_compareWaiting_135 : decode cX11_compareWaiting 135 = .ok (.iconst 0, 1) := by decide +kernel
theorem dX11_compareWaiting_136 : decode cX11_compareWaiting 136 = .ok (.goto 6, 3) := by decide +kernel
theorem dX11_compareWaiting_139 : decode cX11_compareWaiting 139 = .ok (.iconst 1, 1) := by decide +kernel
theorem dX11_compareWaiting_140 : decode cX11_compareWaiting 140 = .ok (.iload_n 3, 1) := by decide +kernel
theorem dX11_compareWaiting_141 : decode cX11_compareWaiting 141 = .ok (.iadd, 1) := by decide +kernel
theorem dX11_compareWaiting_142 : decode cX11_compareWaiting 142 = .ok (.ireturn, 1) := by decide +kernel
