theorem dX5_init_0 : decode cX5_init 0 = .ok (.aload_n 0, 1) := by decide +kernel
theorem dX5_init_1 : decode cX5_init 1 = .ok (.invokespecial 1, 3) := by decide +kernel
theorem dX5_init_4 : decode cX5_init 4 = .ok (.aload_n 0, 1) := by decide +kernel
theorem dX5_init_5 : decode cX5_init 5 = .ok (.bipush 8, 2) := by decide +kernel
theorem dX5_init_7 : decode cX5_init 7 = .ok (.newarray .int, 2) := by decide +kernel
theorem dX5_init_9 : decode cX5_init 9 = .ok (.putfield 7, 3) := by decide +kernel
theorem dX5_init_12 : decode cX5_init 12 = .ok (.aload_n 0, 1) := by decide +kernel
theorem dX5_init_13 : decode cX5_init 13 = .ok (.bipush 8, 2) := by decide +kernel
theorem dX5_init_15 : decode cX5_init 15 = .ok (.newarray .int, 2) := by decide +kernel
theorem dX5_init_17 : decode cX5_init 17 = .ok (.putfield 13, 3) := by decide +kernel
theorem dX5_init_20 : decode cX5_init 20 = .ok (.aload_n 0, 1) := by decide +kernel
theorem dX5_init_21 : decode cX5_init 21 = .ok (.sipush 320, 3) := by decide +kernel
theorem dX5_init_24 : decode cX5_init 24 = .ok (.newarray .int, 2) := by decide +kernel
theorem dX5_init_26 : decode cX5_init 26 = .ok (.putfield 16, 3) := by decide +kernel
theorem dX5_init_29 : decode cX5_init 29 = .ok (.aload_n 0, 1) := by decide +kernel
theorem dX5_init_30 : decode cX5_init 30 = .ok (.bipush 48, 2) := by decide +kernel
theorem dX5_init_32 : decode cX5_init 32 = .ok (.newarray .int, 2) := by decide +kernel
theorem dX5_init_34 : decode cX5_init 34 = .ok (.putfield 19, 3) := by decide +kernel
theorem dX5_init_37 : decode cX5_init 37 = .ok (.aload_n 0, 1) := by decide +kernel
theorem dX5_init_38 : decode cX5_init 38 = .ok (.bipush 40, 2) := by decide +kernel
theorem dX5_init_40 : decode cX5_init 40 = .ok (.newarray .int, 2) := by decide +kernel
theorem dX5_init_42 : decode cX5_init 42 = .ok (.putfield 22, 3) := by decide +kernel
theorem dX5_init_45 : decode cX5_init 45 = .ok (.aload_n 0, 1) := by decide +kernel
theorem dX5_init_46 : decode cX5_init 46 = .ok (.bipush 120, 2) := by decide +kernel
theorem dX5_init_48 : decode cX5_init 48 = .ok (.newarray .int, 2) := by decide +kernel
theorem dX5_init_50 : decode cX5_init 50 = .ok (.putfield 25, 3) := by decide +kernel
theorem dX5_init_53 : decode cX5_init 53 = .ok (.aload_n 0, 1) := by decide +kernel
theorem dX5_init_54 : decode cX5_init 54 = .ok (.bipush 48, 2) := by decide +kernel
theorem dX5_init_56 : decode cX5_init 56 = .ok (.newarray .int, 2) := by decide +kernel
theorem dX5_init_58 : decode cX5_init 58 = .ok (.putfield 28, 3) := by decide +kernel
theorem dX5_init_61 : decode cX5_init 61 = .ok (.aload_n 0, 1) := by decide +kernel
theorem dX5_init_62 : decode cX5_init 62 = .ok (.sipush 1152, 3) := by decide +kernel
theorem dX5_init_65 : decode cX5_init 65 = .ok (.newarray .int, 2) := by decide +kernel
theorem dX5_init_67 : decode cX5_init 67 = .ok (.putfield 31, 3) := by decide +kernel
theorem dX5_init_70 : decode cX5_init 70 = .ok (.aload_n 0, 1) := by decide +kernel
theorem dX5_init_71 : decode cX5_init 71 = .ok (.bipush 48, 2) := by decide +kernel
theorem dX5_init_73 : decode cX5_init 73 = .ok (.newarray .int, 2) := by decide +kernel
theorem dX5_init_75 : decode cX5_init 75 = .ok (.putfield 34, 3) := by decide +kernel
theorem dX5_init_78 : decode cX5_init 78 = .ok (.aload_n 0, 1) := by decide +kernel
theorem dX5_init_79 : decode cX5_init 79 = .ok (.iconst 2, 1) := by decide +kernel
theorem dX5_init_80 : decode cX5_init 80 = .ok (.newarray .boolean, 2) := by decide +kernel
theorem dX5_init_82 : decode cX5_init 82 = .ok (.putfield 37, 3) := by decide +kernel
theorem dX5_init_85 : decode cX5_init 85 = .ok (.aload_n 0, 1) := by decide +kernel
theorem dX5_init_86 : decode cX5_init 86 = .ok (.bipush 96, 2) := by decide +kernel
theorem dX5_init_88 : decode cX5_init 88 = .ok (.newarray .int, 2) := by decide +kernel
theorem dX5_init_90 : decode cX5_init 90 = .ok (.putfield 41, 3) := by decide +kernel
theorem dX5_init_93 : decode cX5_init 93 = .ok (.aload_n 0, 1) := by decide +kernel
theorem dX5_init_94 : decode cX5_init 94 = .ok (.bipush 16, 2) := by decide +kernel
theorem dX5_init_96 : decode cX5_init 96 = .ok (.newarray .int, 2) := by decide +kernel
theorem dX5_init_98 : decode cX5_init 98 = .ok (.putfield 44, 3) := by decide +kernel
theorem dX5_init_101 : decode cX5_init 101 = .ok (.iconst 0, 1) := by decide +kernel
theorem dX5_init_102 : decode cX5_init 102 = .ok (.istore_n 1, 1) := by decide +kernel
theorem dX5_init_103 : decode cX5_init 103 = .ok (.iload_n 1, 1) := by decide +kernel
theorem dX5_init_104 : decode cX5_init 104 = .ok (.bipush 8, 2) := by decide +kernel
theorem dX5_init_106 : decode cX5_init 106 = .ok (.if_icmp .ge 16, 3) := by decide +kernel
theorem dX5_init_109 : decode cX5_init 109 = .ok (.aload_n 0, 1) := by decide +kernel
theorem dX5_init_110 : decode cX5_init 110 = .ok (.getfield 13, 3) := by decide +kernel
theorem dX5_init_113 : decode cX5_init 113 = .ok (.iload_n 1, 1) := by decide +kernel
theorem dX5_init_114 : decode cX5_init 114 = .ok (.iconst (-1), 1) := by decide +kernel
theorem dX5_init_115 : decode cX5_init 115 = .ok (.iastore, 1) := by decide +kernel
theorem dX5_init_116 : decode cX5_init 116 = .ok (.iinc 1 1, 3) := by decide +kernel
theorem dX5_init_119 : decode cX5_init 119 = .ok (.goto (-16), 3) := by decide +kernel
theorem dX5_init_122 : decode cX5_init 122 = .ok (.return_, 1) := by decide +kernel
theorem dX5_in_0 : decode cX5_in 0 = .ok (.lload_n 0, 1) := by decide +kernel
theorem dX5_in_1 : decode cX5_in 1 = .ok (.lload_n 2, 1) := by decide +kernel
theorem dX5_in_2 : decode cX5_in 2 = .ok (.lcmp, 1) := by decide +kernel
theorem dX5_in_3 : decode cX5_in 3 = .ok (.ifCond .lt 14, 3) := by decide +kernel
theorem dX5_in_6 : decode cX5_in 6 = .ok (.lload_n 0, 1) := by decide +kernel
theorem dX5_in_7 : decode cX5_in 7 = .ok (.lload 4, 2) := by decide +kernel
theorem dX5_in_9 : decode cX5_in 9 = .ok (.lcmp, 1) := by decide +kernel
theorem dX5_in_10 : decode cX5_in 10 = .ok (.ifCond .gt 7, 3) := by decide +kernel
theorem dX5_in_13 : decode cX5_in 13 = .ok (.iconst 1, 1) := by decide +kernel
theorem dX5_in_14 : decode cX5_in 14 = .ok (.goto 4, 3) := by decide +kernel
theorem dX5_in_17 : decode cX5_in 17 = .ok (.iconst 0, 1) := by decide +kernel
theorem dX5_in_18 : decode cX5_in 18 = .ok (.ireturn, 1) := by decide +kernel
theorem dX5_has_0 : decode cX5_has 0 = .ok (.iload_n 0, 1) := by decide +kernel
theorem dX5_has_1 : decode cX5_has 1 = .ok (.iload_n 1, 1) := by decide +kernel
theorem dX5_has_2 : decode cX5_has 2 = .ok (.ishr, 1) := by decide +kernel
theorem dX5_has_3 : decode cX5_has 3 = .ok (.iconst 1, 1) := by decide +kernel
theorem dX5_has_4 : decode cX5_has 4 = .ok (.iand, 1) := by decide +kernel
theorem dX5_has_5 : decode cX5_has 5 = .ok (.iconst 1, 1) := by decide +kernel
theorem dX5_has_6 : decode cX5_has 6 = .ok (.if_icmp .ne 7, 3) := by decide +kernel
theorem dX5_has_9 : decode cX5_has 9 = .ok (.iconst 1, 1) := by decide +kernel
theorem dX5_has_10 : decode cX5_has 10 = .ok (.goto 4, 3) := by decide +kernel
theorem dX5_has_13 : decode cX5_has 13 = .ok (.iconst 0, 1) := by decide +kernel
theorem dX5_has_14 : decode cX5_has 14 = .ok (.ireturn, 1) := by decide +kernel
theorem dX5_ones_0 : decode cX5_ones 0 = .ok (.iconst 0, 1) := by decide +kernel
theorem dX5_ones_1 : decode cX5_ones 1 = .ok (.istore_n 1, 1) := by decide +kernel
theorem dX5_ones_2 : decode cX5_ones 2 = .ok (.iload_n 0, 1) := by decide +kernel
theorem dX5_ones_3 : decode cX5_ones 3 = .ok (.istore_n 2, 1) := by decide +kernel
theorem dX5_ones_4 : decode cX5_ones 4 = .ok (.iload_n 2, 1) := by decide +kernel
theorem dX5_ones_5 : decode cX5_ones 5 = .ok (.ifCond .eq 15, 3) := by decide +kernel
theorem dX5_ones_8 : decode cX5_ones 8 = .ok (.iinc 1 1, 3) := by decide +kernel
theorem dX5_ones_11 : decode cX5_ones 11 = .ok (.iload_n 2, 1) := by decide +kernel
theorem dX5_ones_12 : decode cX5_ones 12 = .ok (.iload_n 2, 1) := by decide +kernel
theorem dX5_ones_13 : decode cX5_ones 13 = .ok (.iconst 1, 1) := by decide +kernel
theorem dX5_ones_14 : decode cX5_ones 14 = .ok (.isub, 1) := by decide +kernel
theorem dX5_ones_15 : decode cX5_ones 15 = .ok (.iand, 1) := by decide +kernel
theorem dX5_ones_16 : decode cX5_ones 16 = .ok (.istore_n 2, 1) := by decide +kernel
theorem dX5_ones_17 : decode cX5_ones 17 = .ok (.goto (-13), 3) := by decide +kernel
theorem dX5_ones_20 : decode cX5_ones 20 = .ok (.iload_n 1, 1) := by decide +kernel
theorem dX5_ones_21 : decode cX5_ones 21 = .ok (.ireturn, 1) := by decide +kernel
theorem dX5_find_0 : decode cX5_find 0 = .ok (.aload_n 0, 1) := by decide +kernel
theorem dX5_find_1 : decode cX5_find 1 = .ok (.iload_n 1, 1) := by decide +kernel
theorem dX5_find_2 : decode cX5_find 2 = .ok (.putfield 47, 3) := by decide +kernel
theorem dX5_find_5 : decode cX5_find 5 = .ok (.ldc 51, 2) := by decide +kernel
theorem dX5_find_7 : decode cX5_find 7 = .ok (.iload_n 1, 1) := by decide +kernel
theorem dX5_find_8 : decode cX5_find 8 = .ok (.isub, 1) := by decide +kernel
theorem dX5_find_9 : decode cX5_find 9 = .ok (.ireturn, 1) := by decide +kernel
theorem dX5_well_0 : decode cX5_well 0 = .ok (.aload_n 0, 1) := by decide +kernel
theorem dX5_well_1 : decode cX5_well 1 = .ok (.iconst 0, 1) := by decide +kernel
theorem dX5_well_2 : decode cX5_well 2 = .ok (.putfield 47, 3) := by decide +kernel
theorem dX5_well_5 : decode cX5_well 5 = .ok (.iload_n 1, 1) := by decide +kernel
theorem dX5_well_6 : decode cX5_well 6 = .ok (.ireturn, 1) := by decide +kernel
theorem dX5_isRow_0 : decode cX5_isRow 0 = .ok (.iload_n 0, 1) := by decide +kernel
theorem dX5_isRow_1 : decode cX5_isRow 1 = .ok (.i2l, 1) := by decide +kernel
theorem dX5_isRow_2 : decode cX5_isRow 2 = .ok (.lconst 0, 1) := by decide +kernel
theorem dX5_isRow_3 : decode cX5_isRow 3 = .ok (.ldc2_w 52, 3) := by decide +kernel
theorem dX5_isRow_6 : decode cX5_isRow 6 = .ok (.invokestatic 54, 3) := by decide +kernel
theorem dX5_isRow_9 : decode cX5_isRow 9 = .ok (.ireturn, 1) := by decide +kernel
theorem dX5_row_0 : decode cX5_row 0 = .ok (.iload_n 1, 1) := by decide +kernel
theorem dX5_row_1 : decode cX5_row 1 = .ok (.invokestatic 58, 3) := by decide +kernel
theorem dX5_row_4 : decode cX5_row 4 = .ok (.ifCond .eq 21, 3) := by decide +kernel
theorem dX5_row_7 : decode cX5_row 7 = .ok (.iload_n 2, 1) := by decide +kernel
theorem dX5_row_8 : decode cX5_row 8 = .ok (.i2l, 1) := by decide +kernel
theorem dX5_row_9 : decode cX5_row 9 = .ok (.lconst 0, 1) := by decide +kernel
theorem dX5_row_10 : decode cX5_row 10 = .ok (.ldc2_w 62, 3) := by decide +kernel
theorem dX5_row_13 : decode cX5_row 13 = .ok (.invokestatic 54, 3) := by decide +kernel
theorem dX5_row_16 : decode cX5_row 16 = .ok (.ifCond .eq 9, 3) := by decide +kernel
theorem dX5_row_19 : decode cX5_row 19 = .ok (.iload_n 3, 1) := by decide +kernel
theorem dX5_row_20 : decode cX5_row 20 = .ok (.bipush 40, 2) := by decide +kernel
theorem dX5_row_22 : decode cX5_row 22 = .ok (.if_icmp .le 6, 3) := by decide +kernel
theorem dX5_row_25 : decode cX5_row 25 = .ok (.ldc 64, 2) := by decide +kernel
theorem dX5_row_27 : decode cX5_row 27 = .ok (.ireturn, 1) := by decide +kernel
theorem dX5_row_28 : decode cX5_row 28 = .ok (.iload_n 3, 1) := by decide +kernel
theorem dX5_row_29 : decode cX5_row 29 = .ok (.ifCond .ge 9, 3) := by decide +kernel
theorem dX5_row_32 : decode cX5_row 32 = .ok (.aload_n 0, 1) := by decide +kernel
theorem dX5_row_33 : decode cX5_row 33 = .ok (.iconst 4, 1) := by decide +kernel
theorem dX5_row_34 : decode cX5_row 34 = .ok (.invokevirtual 65, 3) := by decide +kernel
theorem dX5_row_37 : decode cX5_row 37 = .ok (.ireturn, 1) := by decide +kernel
theorem dX5_row_38 : decode cX5_row 38 = .ok (.aload_n 0, 1) := by decide +kernel
theorem dX5_row_39 : decode cX5_row 39 = .ok (.getfield 7, 3) := by decide +kernel
theorem dX5_row_42 : decode cX5_row 42 = .ok (.iload_n 1, 1) := by decide +kernel
theorem dX5_row_43 : decode cX5_row 43 = .ok (.iload_n 2, 1) := by decide +kernel
theorem dX5_row_44 : decode cX5_row 44 = .ok (.iastore, 1) := by decide +kernel
theorem dX5_row_45 : decode cX5_row 45 = .ok (.aload_n 0, 1) := by decide +kernel
theorem dX5_row_46 : decode cX5_row 46 = .ok (.getfield 13, 3) := by decide +kernel
theorem dX5_row_49 : decode cX5_row 49 = .ok (.iload_n 1, 1) := by decide +kernel
theorem dX5_row_50 : decode cX5_row 50 = .ok (.iload_n 3, 1) := by decide +kernel
theorem dX5_row_51 : decode cX5_row 51 = .ok (.iastore, 1) := by decide +kernel
theorem dX5_row_52 : decode cX5_row 52 = .ok (.iconst 0, 1) := by decide +kernel
theorem dX5_row_53 : decode cX5_row 53 = .ok (.istore 4, 2) := by decide +kernel
theorem dX5_row_55 : decode cX5_row 55 = .ok (.iload 4, 2) := by decide +kernel
theorem dX5_row_57 : decode cX5_row 57 = .ok (.bipush 40, 2) := by decide +kernel
theorem dX5_row_59 : decode cX5_row 59 = .ok (.if_icmp .ge 22, 3) := by decide +kernel
theorem dX5_row_62 : decode cX5_row 62 = .ok (.aload_n 0, 1) := by decide +kernel
theorem dX5_row_63 : decode cX5_row 63 = .ok (.getfield 16, 3) := by decide +kernel
theorem dX5_row_66 : decode cX5_row 66 = .ok (.bipush 40, 2) := by decide +kernel
theorem dX5_row_68 : decode cX5_row 68 = .ok (.iload_n 1, 1) := by decide +kernel
theorem dX5_row_69 : decode cX5_row 69 = .ok (.imul, 1) := by decide +kernel
theorem dX5_row_70 : decode cX5_row 70 = .ok (.iload 4, 2) := by decide +kernel
theorem dX5_row_72 : decode cX5_row 72 = .ok (.iadd, 1) := by decide +kernel
theorem dX5_row_73 : decode cX5_row 73 = .ok (.iconst 0, 1) := by decide +kernel
theorem dX5_row_74 : decode cX5_row 74 = .ok (.iastore, 1) := by decide +kernel
theorem dX5_row_75 : decode cX5_row 75 = .ok (.iinc 4 1, 3) := by decide +kernel
theorem dX5_row_78 : decode cX5_row 78 = .ok (.goto (-23), 3) := by decide +kernel
theorem dX5_row_81 : decode cX5_row 81 = .ok (.aload_n 0, 1) := by decide +kernel
theorem dX5_row_82 : decode cX5_row 82 = .ok (.iload_n 3, 1) := by decide +kernel
theorem dX5_row_83 : decode cX5_row 83 = .ok (.invokevirtual 69, 3) := by decide +kernel
theorem dX5_row_86 : decode cX5_row 86 = .ok (.ireturn, 1) := by decide +kernel
theorem dX5_asLane_0 : decode cX5_asLane 0 = .ok (.iload_n 0, 1) := by decide +kernel
theorem dX5_asLane_1 : decode cX5_asLane 1 = .ok (.ifCond .ne 13, 3) := by decide +kernel
theorem dX5_asLane_4 : decode cX5_asLane 4 = .ok (.iload_n 1, 1) := by decide +kernel
theorem dX5_asLane_5 : decode cX5_asLane 5 = .ok (.bipush 24, 2) := by decide +kernel
theorem dX5_asLane_7 : decode cX5_asLane 7 = .ok (.ishl, 1) := by decide +kernel
theorem dX5_asLane_8 : decode cX5_asLane 8 = .ok (.bipush 24, 2) := by decide +kernel
theorem dX5_asLane_10 : decode cX5_asLane 10 = .ok (.ishr, 1) := by decide +kernel
theorem dX5_asLane_11 : decode cX5_asLane 11 = .ok (.goto 19, 3) := by decide +kernel
theorem dX5_asLane_14 : decode cX5_asLane 14 = .ok (.iload_n 0, 1) := by decide +kernel
theorem dX5_asLane_15 : decode cX5_asLane 15 = .ok (.iconst 1, 1) := by decide +kernel
theorem dX5_asLane_16 : decode cX5_asLane 16 = .ok (.if_icmp .ne 13, 3) := by decide +kernel
theorem dX5_asLane_19 : decode cX5_asLane 19 = .ok (.iload_n 1, 1) := by decide +kernel
theorem dX5_asLane_20 : decode cX5_asLane 20 = .ok (.bipush 16, 2) := by decide +kernel
theorem dX5_asLane_22 : decode cX5_asLane 22 = .ok (.ishl, 1) := by decide +kernel
theorem dX5_asLane_23 : decode cX5_asLane 23 = .ok (.bipush 16, 2) := by decide +kernel
theorem dX5_asLane_25 : decode cX5_asLane 25 = .ok (.ishr, 1) := by decide +kernel
theorem dX5_asLane_26 : decode cX5_asLane 26 = .ok (.goto 4, 3) := by decide +kernel
theorem dX5_asLane_29 : decode cX5_asLane 29 = .ok (.iload_n 1, 1) := by decide +kernel
theorem dX5_asLane_30 : decode cX5_asLane 30 = .ok (.ireturn, 1) := by decide +kernel
theorem dX5_set_0 : decode cX5_set 0 = .ok (.iload_n 1, 1) := by decide +kernel
theorem dX5_set_1 : decode cX5_set 1 = .ok (.invokestatic 58, 3) := by decide +kernel
theorem dX5_set_4 : decode cX5_set 4 = .ok (.ifCond .ne 6, 3) := by decide +kernel
theorem dX5_set_7 : decode cX5_set 7 = .ok (.ldc 64, 2) := by decide +kernel
theorem dX5_set_9 : decode cX5_set 9 = .ok (.ireturn, 1) := by decide +kernel
theorem dX5_set_10 : decode cX5_set 10 = .ok (.aload_n 0, 1) := by decide +kernel
theorem dX5_set_11 : decode cX5_set 11 = .ok (.getfield 13, 3) := by decide +kernel
theorem dX5_set_14 : decode cX5_set 14 = .ok (.iload_n 1, 1) := by decide +kernel
theorem dX5_set_15 : decode cX5_set 15 = .ok (.iaload, 1) := by decide +kernel
theorem dX5_set_16 : decode cX5_set 16 = .ok (.ifCond .ge 9, 3) := by decide +kernel
theorem dX5_set_19 : decode cX5_set 19 = .ok (.aload_n 0, 1) := by decide +kernel
theorem dX5_set_20 : decode cX5_set 20 = .ok (.iconst 1, 1) := by decide +kernel
theorem dX5_set_21 : decode cX5_set 21 = .ok (.invokevirtual 65, 3) := by decide +kernel
theorem dX5_set_24 : decode cX5_set 24 = .ok (.ireturn, 1) := by decide +kernel
theorem dX5_set_25 : decode cX5_set 25 = .ok (.iload_n 2, 1) := by decide +kernel
theorem dX5_set_26 : decode cX5_set 26 = .ok (.i2l, 1) := by decide +kernel
theorem dX5_set_27 : decode cX5_set 27 = .ok (.lconst 0, 1) := by decide +kernel
theorem dX5_set_28 : decode cX5_set 28 = .ok (.aload_n 0, 1) := by decide +kernel
theorem dX5_set_29 : decode cX5_set 29 = .ok (.getfield 13, 3) := by decide +kernel
theorem dX5_set_32 : decode cX5_set 32 = .ok (.iload_n 1, 1) := by decide +kernel
theorem dX5_set_33 : decode cX5_set 33 = .ok (.iaload, 1) := by decide +kernel
theorem dX5_set_34 : decode cX5_set 34 = .ok (.iconst 1, 1) := by decide +kernel
theorem dX5_set_35 : decode cX5_set 35 = .ok (.isub, 1) := by decide +kernel
theorem dX5_set_36 : decode cX5_set 36 = .ok (.i2l, 1) := by decide +kernel
theorem dX5_set_37 : decode cX5_set 37 = .ok (.invokestatic 54, 3) := by decide +kernel
theorem dX5_set_40 : decode cX5_set 40 = .ok (.ifCond .ne 9, 3) := by decide +kernel
theorem dX5_set_43 : decode cX5_set 43 = .ok (.aload_n 0, 1) := by decide +kernel
theorem dX5_set_44 : decode cX5_set 44 = .ok (.iconst 2, 1) := by decide +kernel
theorem dX5_set_45 : decode cX5_set 45 = .ok (.invokevirtual 65, 3) := by decide +kernel
theorem dX5_set_48 : decode cX5_set 48 = .ok (.ireturn, 1) := by decide +kernel
theorem dX5_set_49 : decode cX5_set 49 = .ok (.aload_n 0, 1) := by decide +kernel
theorem dX5_set_50 : decode cX5_set 50 = .ok (.getfield 16, 3) := by decide +kernel
theorem dX5_set_53 : decode cX5_set 53 = .ok (.bipush 40, 2) := by decide +kernel
theorem dX5_set_55 : decode cX5_set 55 = .ok (.iload_n 1, 1) := by decide +kernel
theorem dX5_set_56 : decode cX5_set 56 = .ok (.imul, 1) := by decide +kernel
theorem dX5_set_57 : decode cX5_set 57 = .ok (.iload_n 2, 1) := by decide +kernel
theorem dX5_set_58 : decode cX5_set 58 = .ok (.iadd, 1) := by decide +kernel
theorem dX5_set_59 : decode cX5_set 59 = .ok (.aload_n 0, 1) := by decide +kernel
theorem dX5_set_60 : decode cX5_set 60 = .ok (.getfield 7, 3) := by decide +kernel
theorem dX5_set_63 : decode cX5_set 63 = .ok (.iload_n 1, 1) := by decide +kernel
theorem dX5_set_64 : decode cX5_set 64 = .ok (.iaload, 1) := by decide +kernel
theorem dX5_set_65 : decode cX5_set 65 = .ok (.iload_n 3, 1) := by decide +kernel
theorem dX5_set_66 : decode cX5_set 66 = .ok (.invokestatic 72, 3) := by decide +kernel
theorem dX5_set_69 : decode cX5_set 69 = .ok (.iastore, 1) := by decide +kernel
theorem dX5_set_70 : decode cX5_set 70 = .ok (.aload_n 0, 1) := by decide +kernel
theorem dX5_set_71 : decode cX5_set 71 = .ok (.aload_n 0, 1) := by decide +kernel
theorem dX5_set_72 : decode cX5_set 72 = .ok (.getfield 16, 3) := by decide +kernel
theorem dX5_set_75 : decode cX5_set 75 = .ok (.bipush 40, 2) := by decide +kernel
theorem dX5_set_77 : decode cX5_set 77 = .ok (.iload_n 1, 1) := by decide +kernel
theorem dX5_set_78 : decode cX5_set 78 = .ok (.imul, 1) := by decide +kernel
theorem dX5_set_79 : decode cX5_set 79 = .ok (.iload_n 2, 1) := by decide +kernel
theorem dX5_set_80 : decode cX5_set 80 = .ok (.iadd, 1) := by decide +kernel
theorem dX5_set_81 : decode cX5_set 81 = .ok (.iaload, 1) := by decide +kernel
theorem dX5_set_82 : decode cX5_set 82 = .ok (.invokevirtual 69, 3) := by decide +kernel
theorem dX5_set_85 : decode cX5_set 85 = .ok (.ireturn, 1) := by decide +kernel
theorem dX5_copy_0 : decode cX5_copy 0 = .ok (.iload_n 1, 1) := by decide +kernel
theorem dX5_copy_1 : decode cX5_copy 1 = .ok (.invokestatic 58, 3) := by decide +kernel
theorem dX5_copy_4 : decode cX5_copy 4 = .ok (.ifCond .eq 10, 3) := by decide +kernel
theorem dX5_copy_7 : decode cX5_copy 7 = .ok (.iload_n 3, 1) := by decide +kernel
theorem dX5_copy_8 : decode cX5_copy 8 = .ok (.invokestatic 58, 3) := by decide +kernel
theorem dX5_copy_11 : decode cX5_copy 11 = .ok (.ifCond .ne 6, 3) := by decide +kernel
theorem dX5_copy_14 : decode cX5_copy 14 = .ok (.ldc 64, 2) := by decide +kernel
theorem dX5_copy_16 : decode cX5_copy 16 = .ok (.ireturn, 1) := by decide +kernel
theorem dX5_copy_17 : decode cX5_copy 17 = .ok (.aload_n 0, 1) := by decide +kernel
theorem dX5_copy_18 : decode cX5_copy 18 = .ok (.getfield 13, 3) := by decide +kernel
theorem dX5_copy_21 : decode cX5_copy 21 = .ok (.iload_n 1, 1) := by decide +kernel
theorem dX5_copy_22 : decode cX5_copy 22 = .ok (.iaload, 1) := by decide +kernel
theorem dX5_copy_23 : decode cX5_copy 23 = .ok (.ifCond .lt 12, 3) := by decide +kernel
theorem dX5_copy_26 : decode cX5_copy 26 = .ok (.aload_n 0, 1) := by decide +kernel
theorem dX5_copy_27 : decode cX5_copy 27 = .ok (.getfield 13, 3) := by decide +kernel
theorem dX5_copy_30 : decode cX5_copy 30 = .ok (.iload_n 3, 1) := by decide +kernel
theorem dX5_copy_31 : decode cX5_copy 31 = .ok (.iaload, 1) := by decide +kernel
theorem dX5_copy_32 : decode cX5_copy 32 = .ok (.ifCond .ge 9, 3) := by decide +kernel
theorem dX5_copy_35 : decode cX5_copy 35 = .ok (.aload_n 0, 1) := by decide +kernel
theorem dX5_copy_36 : decode cX5_copy 36 = .ok (.iconst 1, 1) := by decide +kernel
theorem dX5_copy_37 : decode cX5_copy 37 = .ok (.invokevirtual 65, 3) := by decide +kernel
theorem dX5_copy_40 : decode cX5_copy 40 = .ok (.ireturn, 1) := by decide +kernel
theorem dX5_copy_41 : decode cX5_copy 41 = .ok (.aload_n 0, 1) := by decide +kernel
theorem dX5_copy_42 : decode cX5_copy 42 = .ok (.getfield 7, 3) := by decide +kernel
theorem dX5_copy_45 : decode cX5_copy 45 = .ok (.iload_n 1, 1) := by decide +kernel
theorem dX5_copy_46 : decode cX5_copy 46 = .ok (.iaload, 1) := by decide +kernel
theorem dX5_copy_47 : decode cX5_copy 47 = .ok (.aload_n 0, 1) := by decide +kernel
theorem dX5_copy_48 : decode cX5_copy 48 = .ok (.getfield 7, 3) := by decide +kernel
theorem dX5_copy_51 : decode cX5_copy 51 = .ok (.iload_n 3, 1) := by decide +kernel
theorem dX5_copy_52 : decode cX5_copy 52 = .ok (.iaload, 1) := by decide +kernel
theorem dX5_copy_53 : decode cX5_copy 53 = .ok (.if_icmp .eq 9, 3) := by decide +kernel
theorem dX5_copy_56 : decode cX5_copy 56 = .ok (.aload_n 0, 1) := by decide +kernel
theorem dX5_copy_57 : decode cX5_copy 57 = .ok (.iconst 5, 1) := by decide +kernel
theorem dX5_copy_58 : decode cX5_copy 58 = .ok (.invokevirtual 65, 3) := by decide +kernel
theorem dX5_copy_61 : decode cX5_copy 61 = .ok (.ireturn, 1) := by decide +kernel
theorem dX5_copy_62 : decode cX5_copy 62 = .ok (.iload 5, 2) := by decide +kernel
theorem dX5_copy_64 : decode cX5_copy 64 = .ok (.ifCond .lt 44, 3) := by decide +kernel
theorem dX5_copy_67 : decode cX5_copy 67 = .ok (.iload_n 2, 1) := by decide +kernel
theorem dX5_copy_68 : decode cX5_copy 68 = .ok (.i2l, 1) := by decide +kernel
theorem dX5_copy_69 : decode cX5_copy 69 = .ok (.lconst 0, 1) := by decide +kernel
theorem dX5_copy_70 : decode cX5_copy 70 = .ok (.aload_n 0, 1) := by decide +kernel
theorem dX5_copy_71 : decode cX5_copy 71 = .ok (.getfield 13, 3) := by decide +kernel
theorem dX5_copy_74 : decode cX5_copy 74 = .ok (.iload_n 1, 1) := by decide +kernel
theorem dX5_copy_75 : decode cX5_copy 75 = .ok (.iaload, 1) := by decide +kernel
theorem dX5_copy_76 : decode cX5_copy 76 = .ok (.i2l, 1) := by decide +kernel
theorem dX5_copy_77 : decode cX5_copy 77 = .ok (.iload 5, 2) := by decide +kernel
theorem dX5_copy_79 : decode cX5_copy 79 = .ok (.i2l, 1) := by decide +kernel
theorem dX5_copy_80 : decode cX5_copy 80 = .ok (.lsub, 1) := by decide +kernel
theorem dX5_copy_81 : decode cX5_copy 81 = .ok (.invokestatic 54, 3) := by decide +kernel
theorem dX5_copy_84 : decode cX5_copy 84 = .ok (.ifCond .eq 24, 3) := by decide +kernel
theorem dX5_copy_87 : decode cX5_copy 87 = .ok (.iload 4, 2) := by decide +kernel
theorem dX5_copy_89 : decode cX5_copy 89 = .ok (.i2l, 1) := by decide +kernel
theorem dX5_copy_90 : decode cX5_copy 90 = .ok (.lconst 0, 1) := by decide +kernel
theorem dX5_copy_91 : decode cX5_copy 91 = .ok (.aload_n 0, 1) := by decide +kernel
theorem dX5_copy_92 : decode cX5_copy 92 = .ok (.getfield 13, 3) := by decide +kernel
theorem dX5_copy_95 : decode cX5_copy 95 = .ok (.iload_n 3, 1) := by decide +kernel
theorem dX5_copy_96 : decode cX5_copy 96 = .ok (.iaload, 1) := by decide +kernel
theorem dX5_copy_97 : decode cX5_copy 97 = .ok (.i2l, 1) := by decide +kernel
theorem dX5_copy_98 : decode cX5_copy 98 = .ok (.iload 5, 2) := by decide +kernel
theorem dX5_copy_100 : decode cX5_copy 100 = .ok (.i2l, 1) := by decide +kernel
theorem dX5_copy_101 : decode cX5_copy 101 = .ok (.lsub, 1) := by decide +kernel
theorem dX5_copy_102 : decode cX5_copy 102 = .ok (.invokestatic 54, 3) := by decide +kernel
theorem dX5_copy_105 : decode cX5_copy 105 = .ok (.ifCond .ne 9, 3) := by decide +kernel
theorem dX5_copy_108 : decode cX5_copy 108 = .ok (.aload_n 0, 1) := by decide +kernel
theorem dX5_copy_109 : decode cX5_copy 109 = .ok (.iconst 2, 1) := by decide +kernel
theorem dX5_copy_110 : decode cX5_copy 110 = .ok (.invokevirtual 65, 3) := by decide +kernel
theorem dX5_copy_113 : decode cX5_copy 113 = .ok (.ireturn, 1) := by decide +kernel
theorem dX5_copy_114 : decode cX5_copy 114 = .ok (.iconst 0, 1) := by decide +kernel
theorem dX5_copy_115 : decode cX5_copy 115 = .ok (.istore 6, 2) := by decide +kernel
theorem dX5_copy_117 : decode cX5_copy 117 = .ok (.iload 6, 2) := by decide +kernel
theorem dX5_copy_119 : decode cX5_copy 119 = .ok (.iload 5, 2) := by decide +kernel
theorem dX5_copy_121 : decode cX5_copy 121 = .ok (.if_icmp .ge 30, 3) := by decide +kernel
theorem dX5_copy_124 : decode cX5_copy 124 = .ok (.aload_n 0, 1) := by decide +kernel
theorem dX5_copy_125 : decode cX5_copy 125 = .ok (.getfield 22, 3) := by decide +kernel
theorem dX5_copy_128 : decode cX5_copy 128 = .ok (.iload 6, 2) := by decide +kernel
theorem dX5_copy_130 : decode cX5_copy 130 = .ok (.aload_n 0, 1) := by decide +kernel
theorem dX5_copy_131 : decode cX5_copy 131 = .ok (.getfield 16, 3) := by decide +kernel
theorem dX5_copy_134 : decode cX5_copy 134 = .ok (.bipush 40, 2) := by decide +kernel
theorem dX5_copy_136 : decode cX5_copy 136 = .ok (.iload_n 1, 1) := by decide +kernel
theorem dX5_copy_137 : decode cX5_copy 137 = .ok (.imul, 1) := by decide +kernel
theorem dX5_copy_138 : decode cX5_copy 138 = .ok (.iload_n 2, 1) := by decide +kernel
theorem dX5_copy_139 : decode cX5_copy 139 = .ok (.iadd, 1) := by decide +kernel
theorem dX5_copy_140 : decode cX5_copy 140 = .ok (.iload 6, 2) := by decide +kernel
theorem dX5_copy_142 : decode cX5_copy 142 = .ok (.iadd, 1) := by decide +kernel
theorem dX5_copy_143 : decode cX5_copy 143 = .ok (.iaload, 1) := by decide +kernel
theorem dX5_copy_144 : decode cX5_copy 144 = .ok (.iastore, 1) := by decide +kernel
theorem dX5_copy_145 : decode cX5_copy 145 = .ok (.iinc 6 1, 3) := by decide +kernel
theorem dX5_copy_148 : decode cX5_copy 148 = .ok (.goto (-31), 3) := by decide +kernel
theorem dX5_copy_151 : decode cX5_copy 151 = .ok (.iconst 0, 1) := by decide +kernel
theorem dX5_copy_152 : decode cX5_copy 152 = .ok (.istore 6, 2) := by decide +kernel
theorem dX5_copy_154 : decode cX5_copy 154 = .ok (.iload 6, 2) := by decide +kernel
theorem dX5_copy_156 : decode cX5_copy 156 = .ok (.iload 5, 2) := by decide +kernel
theorem dX5_copy_158 : decode cX5_copy 158 = .ok (.if_icmp .ge 31, 3) := by decide +kernel
theorem dX5_copy_161 : decode cX5_copy 161 = .ok (.aload_n 0, 1) := by decide +kernel
theorem dX5_copy_162 : decode cX5_copy 162 = .ok (.getfield 16, 3) := by decide +kernel
theorem dX5_copy_165 : decode cX5_copy 165 = .ok (.bipush 40, 2) := by decide +kernel
theorem dX5_copy_167 : decode cX5_copy 167 = .ok (.iload_n 3, 1) := by decide +kernel
theorem dX5_copy_168 : decode cX5_copy 168 = .ok (.imul, 1) := by decide +kernel
theorem dX5_copy_169 : decode cX5_copy 169 = .ok (.iload 4, 2) := by decide +kernel
theorem dX5_copy_171 : decode cX5_copy 171 = .ok (.iadd, 1) := by decide +kernel
theorem dX5_copy_172 : decode cX5_copy 172 = .ok (.iload 6, 2) := by decide +kernel
theorem dX5_copy_174 : decode cX5_copy 174 = .ok (.iadd, 1) := by decide +kernel
theorem dX5_copy_175 : decode cX5_copy 175 = .ok (.aload_n 0, 1) := by decide +kernel
theorem dX5_copy_176 : decode cX5_copy 176 = .ok (.getfield 22, 3) := by decide +kernel
theorem dX5_copy_179 : decode cX5_copy 179 = .ok (.iload 6, 2) := by decide +kernel
theorem dX5_copy_181 : decode cX5_copy 181 = .ok (.iaload, 1) := by decide +kernel
theorem dX5_copy_182 : decode cX5_copy 182 = .ok (.iastore, 1) := by decide +kernel
theorem dX5_copy_183 : decode cX5_copy 183 = .ok (.iinc 6 1, 3) := by decide +kernel
theorem dX5_copy_186 : decode cX5_copy 186 = .ok (.goto (-32), 3) := by decide +kernel
theorem dX5_copy_189 : decode cX5_copy 189 = .ok (.aload_n 0, 1) := by decide +kernel
theorem dX5_copy_190 : decode cX5_copy 190 = .ok (.iload 5, 2) := by decide +kernel
theorem dX5_copy_192 : decode cX5_copy 192 = .ok (.invokevirtual 69, 3) := by decide +kernel
theorem dX5_copy_195 : decode cX5_copy 195 = .ok (.ireturn, 1) := by decide +kernel
theorem dX5_drop_0 : decode cX5_drop 0 = .ok (.iload_n 1, 1) := by decide +kernel
theorem dX5_drop_1 : decode cX5_drop 1 = .ok (.invokestatic 58, 3) := by decide +kernel
theorem dX5_drop_4 : decode cX5_drop 4 = .ok (.ifCond .ne 6, 3) := by decide +kernel
theorem dX5_drop_7 : decode cX5_drop 7 = .ok (.ldc 64, 2) := by decide +kernel
theorem dX5_drop_9 : decode cX5_drop 9 = .ok (.ireturn, 1) := by decide +kernel
theorem dX5_drop_10 : decode cX5_drop 10 = .ok (.aload_n 0, 1) := by decide +kernel
theorem dX5_drop_11 : decode cX5_drop 11 = .ok (.getfield 13, 3) := by decide +kernel
theorem dX5_drop_14 : decode cX5_drop 14 = .ok (.iload_n 1, 1) := by decide +kernel
theorem dX5_drop_15 : decode cX5_drop 15 = .ok (.iaload, 1) := by decide +kernel
theorem dX5_drop_16 : decode cX5_drop 16 = .ok (.ifCond .ge 9, 3) := by decide +kernel
theorem dX5_drop_19 : decode cX5_drop 19 = .ok (.aload_n 0, 1) := by decide +kernel
theorem dX5_drop_20 : decode cX5_drop 20 = .ok (.iconst 1, 1) := by decide +kernel
theorem dX5_drop_21 : decode cX5_drop 21 = .ok (.invokevirtual 65, 3) := by decide +kernel
theorem dX5_drop_24 : decode cX5_drop 24 = .ok (.ireturn, 1) := by decide +kernel
theorem dX5_drop_25 : decode cX5_drop 25 = .ok (.aload_n 0, 1) := by decide +kernel
theorem dX5_drop_26 : decode cX5_drop 26 = .ok (.getfield 13, 3) := by decide +kernel
theorem dX5_drop_29 : decode cX5_drop 29 = .ok (.iload_n 1, 1) := by decide +kernel
theorem dX5_drop_30 : decode cX5_drop 30 = .ok (.iaload, 1) := by decide +kernel
theorem dX5_drop_31 : decode cX5_drop 31 = .ok (.istore_n 2, 1) := by decide +kernel
theorem dX5_drop_32 : decode cX5_drop 32 = .ok (.aload_n 0, 1) := by decide +kernel
theorem dX5_drop_33 : decode cX5_drop 33 = .ok (.getfield 13, 3) := by decide +kernel
theorem dX5_drop_36 : decode cX5_drop 36 = .ok (.iload_n 1, 1) := by decide +kernel
theorem dX5_drop_37 : decode cX5_drop 37 = .ok (.iconst (-1), 1) := by decide +kernel
theorem dX5_drop_38 : decode cX5_drop 38 = .ok (.iastore, 1) := by decide +kernel
theorem dX5_drop_39 : decode cX5_drop 39 = .ok (.aload_n 0, 1) := by decide +kernel
theorem dX5_drop_40 : decode cX5_drop 40 = .ok (.iload_n 2, 1) := by decide +kernel
theorem dX5_drop_41 : decode cX5_drop 41 = .ok (.invokevirtual 69, 3) := by decide +kernel
theorem dX5_drop_44 : decode cX5_drop 44 = .ok (.ireturn, 1) := by decide +kernel
theorem dX5_feed_0 : decode cX5_feed 0 = .ok (.iload_n 1, 1) := by decide +kernel
theorem dX5_feed_1 : decode cX5_feed 1 = .ok (.i2l, 1) := by decide +kernel
theorem dX5_feed_2 : decode cX5_feed 2 = .ok (.lconst 0, 1) := by decide +kernel
theorem dX5_feed_3 : decode cX5_feed 3 = .ok (.ldc2_w 76, 3) := by decide +kernel
theorem dX5_feed_6 : decode cX5_feed 6 = .ok (.invokestatic 54, 3) := by decide +kernel
theorem dX5_feed_9 : decode cX5_feed 9 = .ok (.ifCond .ne 6, 3) := by decide +kernel
theorem dX5_feed_12 : decode cX5_feed 12 = .ok (.ldc 64, 2) := by decide +kernel
theorem dX5_feed_14 : decode cX5_feed 14 = .ok (.ireturn, 1) := by decide +kernel
theorem dX5_feed_15 : decode cX5_feed 15 = .ok (.aload_n 0, 1) := by decide +kernel
theorem dX5_feed_16 : decode cX5_feed 16 = .ok (.getfield 78, 3) := by decide +kernel
theorem dX5_feed_19 : decode cX5_feed 19 = .ok (.bipush 120, 2) := by decide +kernel
theorem dX5_feed_21 : decode cX5_feed 21 = .ok (.if_icmp .ne 6, 3) := by decide +kernel
theorem dX5_feed_24 : decode cX5_feed 24 = .ok (.ldc 81, 2) := by decide +kernel
theorem dX5_feed_26 : decode cX5_feed 26 = .ok (.ireturn, 1) := by decide +kernel
theorem dX5_feed_27 : decode cX5_feed 27 = .ok (.aload_n 0, 1) := by decide +kernel
theorem dX5_feed_28 : decode cX5_feed 28 = .ok (.getfield 25, 3) := by decide +kernel
theorem dX5_feed_31 : decode cX5_feed 31 = .ok (.aload_n 0, 1) := by decide +kernel
theorem dX5_feed_32 : decode cX5_feed 32 = .ok (.getfield 78, 3) := by decide +kernel
theorem dX5_feed_35 : decode cX5_feed 35 = .ok (.iload_n 1, 1) := by decide +kernel
theorem dX5_feed_36 : decode cX5_feed 36 = .ok (.iastore, 1) := by decide +kernel
theorem dX5_feed_37 : decode cX5_feed 37 = .ok (.aload_n 0, 1) := by decide +kernel
theorem dX5_feed_38 : decode cX5_feed 38 = .ok (.dup, 1) := by decide +kernel
theorem dX5_feed_39 : decode cX5_feed 39 = .ok (.getfield 78, 3) := by decide +kernel
theorem dX5_feed_42 : decode cX5_feed 42 = .ok (.iconst 1, 1) := by decide +kernel
theorem dX5_feed_43 : decode cX5_feed 43 = .ok (.iadd, 1) := by decide +kernel
theorem dX5_feed_44 : decode cX5_feed 44 = .ok (.putfield 78, 3) := by decide +kernel
theorem dX5_feed_47 : decode cX5_feed 47 = .ok (.aload_n 0, 1) := by decide +kernel
theorem dX5_feed_48 : decode cX5_feed 48 = .ok (.getfield 78, 3) := by decide +kernel
theorem dX5_feed_51 : decode cX5_feed 51 = .ok (.ireturn, 1) := by decide +kernel
theorem dX5_nextToken_0 : decode cX5_nextToken 0 = .ok (.aload_n 0, 1) := by decide +kernel
theorem dX5_nextToken_1 : decode cX5_nextToken 1 = .ok (.aload_n 0, 1) := by decide +kernel
theorem dX5_nextToken_2 : decode cX5_nextToken 2 = .ok (.getfield 82, 3) := by decide +kernel
theorem dX5_nextToken_5 : decode cX5_nextToken 5 = .ok (.putfield 85, 3) := by decide +kernel
theorem dX5_nextToken_8 : decode cX5_nextToken 8 = .ok (.aload_n 0, 1) := by decide +kernel
theorem dX5_nextToken_9 : decode cX5_nextToken 9 = .ok (.aload_n 0, 1) := by decide +kernel
theorem dX5_nextToken_10 : decode cX5_nextToken 10 = .ok (.getfield 82, 3) := by decide +kernel
theorem dX5_nextToken_13 : decode cX5_nextToken 13 = .ok (.aload_n 0, 1) := by decide +kernel
theorem dX5_nextToken_14 : decode cX5_nextToken 14 = .ok (.getfield 78, 3) := by decide +kernel
theorem dX5_nextToken_17 : decode cX5_nextToken 17 = .ok (.if_icmp .ne 7, 3) := by decide +kernel
theorem dX5_nextToken_20 : decode cX5_nextToken 20 = .ok (.iconst 3, 1) := by decide +kernel
theorem dX5_nextToken_21 : decode cX5_nextToken 21 = .ok (.goto 4, 3) := by decide +kernel
theorem dX5_nextToken_24 : decode cX5_nextToken 24 = .ok (.iconst 0, 1) := by decide +kernel
theorem dX5_nextToken_25 : decode cX5_nextToken 25 = .ok (.putfield 88, 3) := by decide +kernel
theorem dX5_nextToken_28 : decode cX5_nextToken 28 = .ok (.aload_n 0, 1) := by decide +kernel
theorem dX5_nextToken_29 : decode cX5_nextToken 29 = .ok (.iconst 0, 1) := by decide +kernel
theorem dX5_nextToken_30 : decode cX5_nextToken 30 = .ok (.putfield 91, 3) := by decide +kernel
theorem dX5_nextToken_33 : decode cX5_nextToken 33 = .ok (.aload_n 0, 1) := by decide +kernel
theorem dX5_nextToken_34 : decode cX5_nextToken 34 = .ok (.getfield 82, 3) := by decide +kernel
theorem dX5_nextToken_37 : decode cX5_nextToken 37 = .ok (.aload_n 0, 1) := by decide +kernel
theorem dX5_nextToken_38 : decode cX5_nextToken 38 = .ok (.getfield 78, 3) := by decide +kernel
theorem dX5_nextToken_41 : decode cX5_nextToken 41 = .ok (.if_icmp .ge 78, 3) := by decide +kernel
theorem dX5_nextToken_44 : decode cX5_nextToken 44 = .ok (.aload_n 0, 1) := by decide +kernel
theorem dX5_nextToken_45 : decode cX5_nextToken 45 = .ok (.getfield 25, 3) := by decide +kernel
theorem dX5_nextToken_48 : decode cX5_nextToken 48 = .ok (.aload_n 0, 1) := by decide +kernel
theorem dX5_nextToken_49 : decode cX5_nextToken 49 = .ok (.getfield 82, 3) := by decide +kernel
theorem dX5_nextToken_52 : decode cX5_nextToken 52 = .ok (.iaload, 1) := by decide +kernel
theorem dX5_nextToken_53 : decode cX5_nextToken 53 = .ok (.i2l, 1) := by decide +kernel
theorem dX5_nextToken_54 : decode cX5_nextToken 54 = .ok (.ldc2_w 94, 3) := by decide +kernel
theorem dX5_nextToken_57 : decode cX5_nextToken 57 = .ok (.ldc2_w 96, 3) := by decide +kernel
theorem dX5_nextToken_60 : decode cX5_nextToken 60 = .ok (.invokestatic 54, 3) := by decide +kernel
theorem dX5_nextToken_63 : decode cX5_nextToken 63 = .ok (.ifCond .eq 56, 3) := by decide +kernel
theorem dX5_nextToken_66 : decode cX5_nextToken 66 = .ok (.aload_n 0, 1) := by decide +kernel
theorem dX5_nextToken_67 : decode cX5_nextToken 67 = .ok (.aload_n 0, 1) := by decide +kernel
theorem dX5_nextToken_68 : decode cX5_nextToken 68 = .ok (.getfield 91, 3) := by decide +kernel
theorem dX5_nextToken_71 : decode cX5_nextToken 71 = .ok (.bipush 99, 2) := by decide +kernel
theorem dX5_nextToken_73 : decode cX5_nextToken 73 = .ok (.if_icmp .le 10, 3) := by decide +kernel
theorem dX5_nextToken_76 : decode cX5_nextToken 76 = .ok (.aload_n 0, 1) := by decide +kernel
theorem dX5_nextToken_77 : decode cX5_nextToken 77 = .ok (.getfield 91, 3) := by decide +kernel
theorem dX5_nextToken_80 : decode cX5_nextToken 80 = .ok (.goto 23, 3) := by decide +kernel
theorem dX5_nextToken_83 : decode cX5_nextToken 83 = .ok (.bipush 10, 2) := by decide +kernel
theorem dX5_nextToken_85 : decode cX5_nextToken 85 = .ok (.aload_n 0, 1) := by decide +kernel
theorem dX5_nextToken_86 : decode cX5_nextToken 86 = .ok (.getfield 91, 3) := by decide +kernel
theorem dX5_nextToken_89 : decode cX5_nextToken 89 = .ok (.imul, 1) := by decide +kernel
theorem dX5_nextToken_90 : decode cX5_nextToken 90 = .ok (.aload_n 0, 1) := by decide +kernel
theorem dX5_nextToken_91 : decode cX5_nextToken 91 = .ok (.getfield 25, 3) := by decide +kernel
theorem dX5_nextToken_94 : decode cX5_nextToken 94 = .ok (.aload_n 0, 1) := by decide +kernel
theorem dX5_nextToken_95 : decode cX5_nextToken 95 = .ok (.getfield 82, 3) := by decide +kernel
theorem dX5_nextToken_98 : decode cX5_nextToken 98 = .ok (.iaload, 1) := by decide +kernel
theorem dX5_nextToken_99 : decode cX5_nextToken 99 = .ok (.iadd, 1) := by decide +kernel
theorem dX5_nextToken_100 : decode cX5_nextToken 100 = .ok (.bipush 48, 2) := by decide +kernel
theorem dX5_nextToken_102 : decode cX5_nextToken 102 = .ok (.isub, 1) := by decide +kernel
theorem dX5_nextToken_103 : decode cX5_nextToken 103 = .ok (.putfield 91, 3) := by decide +kernel
theorem dX5_nextToken_106 : decode cX5_nextToken 106 = .ok (.aload_n 0, 1) := by decide +kernel
theorem dX5_nextToken_107 : decode cX5_nextToken 107 = .ok (.dup, 1) := by decide +kernel
theorem dX5_nextToken_108 : decode cX5_nextToken 108 = .ok (.getfield 82, 3) := by decide +kernel
theorem dX5_nextToken_111 : decode cX5_nextToken 111 = .ok (.iconst 1, 1) := by decide +kernel
theorem dX5_nextToken_112 : decode cX5_nextToken 112 = .ok (.iadd, 1) := by decide +kernel
theorem dX5_nextToken_113 : decode cX5_nextToken 113 = .ok (.putfield 82, 3) := by decide +kernel
theorem dX5_nextToken_116 : decode cX5_nextToken 116 = .ok (.goto (-83), 3) := by decide +kernel
theorem dX5_nextToken_119 : decode cX5_nextToken 119 = .ok (.aload_n 0, 1) := by decide +kernel
theorem dX5_nextToken_120 : decode cX5_nextToken 120 = .ok (.getfield 82, 3) := by decide +kernel
theorem dX5_nextToken_123 : decode cX5_nextToken 123 = .ok (.aload_n 0, 1) := by decide +kernel
theorem dX5_nextToken_124 : decode cX5_nextToken 124 = .ok (.getfield 85, 3) := by decide +kernel
theorem dX5_nextToken_127 : decode cX5_nextToken 127 = .ok (.if_icmp .le 28, 3) := by decide +kernel
theorem dX5_nextToken_130 : decode cX5_nextToken 130 = .ok (.aload_n 0, 1) := by decide +kernel
theorem dX5_nextToken_131 : decode cX5_nextToken 131 = .ok (.aload_n 0, 1) := by decide +kernel
theorem dX5_nextToken_132 : decode cX5_nextToken 132 = .ok (.getfield 82, 3) := by decide +kernel
theorem dX5_nextToken_135 : decode cX5_nextToken 135 = .ok (.aload_n 0, 1) := by decide +kernel
theorem dX5_nextToken_136 : decode cX5_nextToken 136 = .ok (.getfield 85, 3) := by decide +kernel
theorem dX5_nextToken_139 : decode cX5_nextToken 139 = .ok (.isub, 1) := by decide +kernel
theorem dX5_nextToken_140 : decode cX5_nextToken 140 = .ok (.iconst 2, 1) := by decide +kernel
theorem dX5_nextToken_141 : decode cX5_nextToken 141 = .ok (.if_icmp .le 7, 3) := by decide +kernel
theorem dX5_nextToken_144 : decode cX5_nextToken 144 = .ok (.iconst 0, 1) := by decide +kernel
theorem dX5_nextToken_145 : decode cX5_nextToken 145 = .ok (.goto 4, 3) := by decide +kernel
theorem dX5_nextToken_148 : decode cX5_nextToken 148 = .ok (.iconst 2, 1) := by decide +kernel
theorem dX5_nextToken_149 : decode cX5_nextToken 149 = .ok (.putfield 88, 3) := by decide +kernel
theorem dX5_nextToken_152 : decode cX5_nextToken 152 = .ok (.goto 77, 3) := by decide +kernel
theorem dX5_nextToken_155 : decode cX5_nextToken 155 = .ok (.aload_n 0, 1) := by decide +kernel
theorem dX5_nextToken_156 : decode cX5_nextToken 156 = .ok (.getfield 88, 3) := by decide +kernel
theorem dX5_nextToken_159 : decode cX5_nextToken 159 = .ok (.ifCond .ne 70, 3) := by decide +kernel
theorem dX5_nextToken_162 : decode cX5_nextToken 162 = .ok (.aload_n 0, 1) := by decide +kernel
theorem dX5_nextToken_163 : decode cX5_nextToken 163 = .ok (.aload_n 0, 1) := by decide +kernel
theorem dX5_nextToken_164 : decode cX5_nextToken 164 = .ok (.getfield 25, 3) := by decide +kernel
theorem dX5_nextToken_167 : decode cX5_nextToken 167 = .ok (.aload_n 0, 1) := by decide +kernel
theorem dX5_nextToken_168 : decode cX5_nextToken 168 = .ok (.getfield 82, 3) := by decide +kernel
theorem dX5_nextToken_171 : decode cX5_nextToken 171 = .ok (.iaload, 1) := by decide +kernel
theorem dX5_nextToken_172 : decode cX5_nextToken 172 = .ok (.putfield 91, 3) := by decide +kernel
theorem dX5_nextToken_175 : decode cX5_nextToken 175 = .ok (.aload_n 0, 1) := by decide +kernel
theorem dX5_nextToken_176 : decode cX5_nextToken 176 = .ok (.aload_n 0, 1) := by decide +kernel
theorem dX5_nextToken_177 : decode cX5_nextToken 177 = .ok (.getfield 91, 3) := by decide +kernel
theorem dX5_nextToken_180 : decode cX5_nextToken 180 = .ok (.i2l, 1) := by decide +kernel
theorem dX5_nextToken_181 : decode cX5_nextToken 181 = .ok (.ldc2_w 98, 3) := by decide +kernel
theorem dX5_nextToken_184 : decode cX5_nextToken 184 = .ok (.ldc2_w 100, 3) := by decide +kernel
theorem dX5_nextToken_187 : decode cX5_nextToken 187 = .ok (.invokestatic 54, 3) := by decide +kernel
theorem dX5_nextToken_190 : decode cX5_nextToken 190 = .ok (.ifCond .ne 21, 3) := by decide +kernel
theorem dX5_nextToken_193 : decode cX5_nextToken 193 = .ok (.aload_n 0, 1) := by decide +kernel
theorem dX5_nextToken_194 : decode cX5_nextToken 194 = .ok (.getfield 91, 3) := by decide +kernel
theorem dX5_nextToken_197 : decode cX5_nextToken 197 = .ok (.bipush 44, 2) := by decide +kernel
theorem dX5_nextToken_199 : decode cX5_nextToken 199 = .ok (.if_icmp .eq 12, 3) := by decide +kernel
theorem dX5_nextToken_202 : decode cX5_nextToken 202 = .ok (.aload_n 0, 1) := by decide +kernel
theorem dX5_nextToken_203 : decode cX5_nextToken 203 = .ok (.getfield 91, 3) := by decide +kernel
theorem dX5_nextToken_206 : decode cX5_nextToken 206 = .ok (.bipush 59, 2) := by decide +kernel
theorem dX5_nextToken_208 : decode cX5_nextToken 208 = .ok (.if_icmp .ne 7, 3) := by decide +kernel
theorem dX5_nextToken_211 : decode cX5_nextToken 211 = .ok (.iconst 1, 1) := by decide +kernel
theorem dX5_nextToken_212 : decode cX5_nextToken 212 = .ok (.goto 4, 3) := by decide +kernel
theorem dX5_nextToken_215 : decode cX5_nextToken 215 = .ok (.iconst 0, 1) := by decide +kernel
theorem dX5_nextToken_216 : decode cX5_nextToken 216 = .ok (.putfield 88, 3) := by decide +kernel
theorem dX5_nextToken_219 : decode cX5_nextToken 219 = .ok (.aload_n 0, 1) := by decide +kernel
theorem dX5_nextToken_220 : decode cX5_nextToken 220 = .ok (.dup, 1) := by decide +kernel
theorem dX5_nextToken_221 : decode cX5_nextToken 221 = .ok (.getfield 82, 3) := by decide +kernel
theorem dX5_nextToken_224 : decode cX5_nextToken 224 = .ok (.iconst 1, 1) := by decide +kernel
theorem dX5_nextToken_225 : decode cX5_nextToken 225 = .ok (.iadd, 1) := by decide +kernel
theorem dX5_nextToken_226 : decode cX5_nextToken 226 = .ok (.putfield 82, 3) := by decide +kernel
theorem dX5_nextToken_229 : decode cX5_nextToken 229 = .ok (.return_, 1) := by decide +kernel
theorem dX5_faults_0 : decode cX5_faults 0 = .ok (.aload_n 0, 1) := by decide +kernel
theorem dX5_faults_1 : decode cX5_faults 1 = .ok (.iload_n 1, 1) := by decide +kernel
theorem dX5_faults_2 : decode cX5_faults 2 = .ok (.putfield 102, 3) := by decide +kernel
theorem dX5_faults_5 : decode cX5_faults 5 = .ok (.iconst 0, 1) := by decide +kernel
theorem dX5_faults_6 : decode cX5_faults 6 = .ok (.ireturn, 1) := by decide +kernel
theorem dX5_isLetter_0 : decode cX5_isLetter 0 = .ok (.aload_n 0, 1) := by decide +kernel
theorem dX5_isLetter_1 : decode cX5_isLetter 1 = .ok (.getfield 88, 3) := by decide +kernel
theorem dX5_isLetter_4 : decode cX5_isLetter 4 = .ok (.iconst 1, 1) := by decide +kernel
theorem dX5_isLetter_5 : decode cX5_isLetter 5 = .ok (.if_icmp .ne 15, 3) := by decide +kernel
theorem dX5_isLetter_8 : decode cX5_isLetter 8 = .ok (.aload_n 0, 1) := by decide +kernel
theorem dX5_isLetter_9 : decode cX5_isLetter 9 = .ok (.getfield 91, 3) := by decide +kernel
theorem dX5_isLetter_12 : decode cX5_isLetter 12 = .ok (.iload_n 1, 1) := by decide +kernel
theorem dX5_isLetter_13 : decode cX5_isLetter 13 = .ok (.if_icmp .ne 7, 3) := by decide +kernel
theorem dX5_isLetter_16 : decode cX5_isLetter 16 = .ok (.iconst 1, 1) := by decide +kernel
theorem dX5_isLetter_17 : decode cX5_isLetter 17 = .ok (.goto 4, 3) := by decide +kernel
theorem dX5_isLetter_20 : decode cX5_isLetter 20 = .ok (.iconst 0, 1) := by decide +kernel
theorem dX5_isLetter_21 : decode cX5_isLetter 21 = .ok (.ireturn, 1) := by decide +kernel
theorem dX5_takes_0 : decode cX5_takes 0 = .ok (.aload_n 0, 1) := by decide +kernel
theorem dX5_takes_1 : decode cX5_takes 1 = .ok (.iload_n 1, 1) := by decide +kernel
theorem dX5_takes_2 : decode cX5_takes 2 = .ok (.invokevirtual 105, 3) := by decide +kernel
theorem dX5_takes_5 : decode cX5_takes 5 = .ok (.ifCond .ne 9, 3) := by decide +kernel
theorem dX5_takes_8 : decode cX5_takes 8 = .ok (.aload_n 0, 1) := by decide +kernel
theorem dX5_takes_9 : decode cX5_takes 9 = .ok (.iconst 1, 1) := by decide +kernel
theorem dX5_takes_10 : decode cX5_takes 10 = .ok (.invokevirtual 108, 3) := by decide +kernel
theorem dX5_takes_13 : decode cX5_takes 13 = .ok (.ireturn, 1) := by decide +kernel
theorem dX5_takes_14 : decode cX5_takes 14 = .ok (.aload_n 0, 1) := by decide +kernel
theorem dX5_takes_15 : decode cX5_takes 15 = .ok (.invokevirtual 111, 3) := by decide +kernel
theorem dX5_takes_18 : decode cX5_takes 18 = .ok (.iconst 1, 1) := by decide +kernel
theorem dX5_takes_19 : decode cX5_takes 19 = .ok (.ireturn, 1) := by decide +kernel
theorem dX5_takesNumber_0 : decode cX5_takesNumber 0 = .ok (.aload_n 0, 1) := by decide +kernel
theorem dX5_takesNumber_1 : decode cX5_takesNumber 1 = .ok (.getfield 88, 3) := by decide +kernel
theorem dX5_takesNumber_4 : decode cX5_takesNumber 4 = .ok (.iconst 2, 1) := by decide +kernel
theorem dX5_takesNumber_5 : decode cX5_takesNumber 5 = .ok (.if_icmp .ne 18, 3) := by decide +kernel
theorem dX5_takesNumber_8 : decode cX5_takesNumber 8 = .ok (.aload_n 0, 1) := by decide +kernel
theorem dX5_takesNumber_9 : decode cX5_takesNumber 9 = .ok (.getfield 91, 3) := by decide +kernel
theorem dX5_takesNumber_12 : decode cX5_takesNumber 12 = .ok (.i2l, 1) := by decide +kernel
theorem dX5_takesNumber_13 : decode cX5_takesNumber 13 = .ok (.iload_n 1, 1) := by decide +kernel
theorem dX5_takesNumber_14 : decode cX5_takesNumber 14 = .ok (.i2l, 1) := by decide +kernel
theorem dX5_takesNumber_15 : decode cX5_takesNumber 15 = .ok (.iload_n 2, 1) := by decide +kernel
theorem dX5_takesNumber_16 : decode cX5_takesNumber 16 = .ok (.i2l, 1) := by decide +kernel
theorem dX5_takesNumber_17 : decode cX5_takesNumber 17 = .ok (.invokestatic 54, 3) := by decide +kernel
theorem dX5_takesNumber_20 : decode cX5_takesNumber 20 = .ok (.ifCond .ne 21, 3) := by decide +kernel
theorem dX5_takesNumber_23 : decode cX5_takesNumber 23 = .ok (.aload_n 0, 1) := by decide +kernel
theorem dX5_takesNumber_24 : decode cX5_takesNumber 24 = .ok (.aload_n 0, 1) := by decide +kernel
theorem dX5_takesNumber_25 : decode cX5_takesNumber 25 = .ok (.getfield 88, 3) := by decide +kernel
theorem dX5_takesNumber_28 : decode cX5_takesNumber 28 = .ok (.iconst 2, 1) := by decide +kernel
theorem dX5_takesNumber_29 : decode cX5_takesNumber 29 = .ok (.if_icmp .ne 7, 3) := by decide +kernel
theorem dX5_takesNumber_32 : decode cX5_takesNumber 32 = .ok (.iconst 2, 1) := by decide +kernel
theorem dX5_takesNumber_33 : decode cX5_takesNumber 33 = .ok (.goto 4, 3) := by decide +kernel
theorem dX5_takesNumber_36 : decode cX5_takesNumber 36 = .ok (.iconst 1, 1) := by decide +kernel
theorem dX5_takesNumber_37 : decode cX5_takesNumber 37 = .ok (.invokevirtual 108, 3) := by decide +kernel
theorem dX5_takesNumber_40 : decode cX5_takesNumber 40 = .ok (.ireturn, 1) := by decide +kernel
theorem dX5_takesNumber_41 : decode cX5_takesNumber 41 = .ok (.aload_n 0, 1) := by decide +kernel
theorem dX5_takesNumber_42 : decode cX5_takesNumber 42 = .ok (.getfield 28, 3) := by decide +kernel
theorem dX5_takesNumber_45 : decode cX5_takesNumber 45 = .ok (.iload_n 3, 1) := by decide +kernel
theorem dX5_takesNumber_46 : decode cX5_takesNumber 46 = .ok (.aload_n 0, 1) := by decide +kernel
theorem dX5_takesNumber_47 : decode cX5_takesNumber 47 = .ok (.getfield 91, 3) := by decide +kernel
theorem dX5_takesNumber_50 : decode cX5_takesNumber 50 = .ok (.iastore, 1) := by decide +kernel
theorem dX5_takesNumber_51 : decode cX5_takesNumber 51 = .ok (.aload_n 0, 1) := by decide +kernel
theorem dX5_takesNumber_52 : decode cX5_takesNumber 52 = .ok (.invokevirtual 111, 3) := by decide +kernel
theorem dX5_takesNumber_55 : decode cX5_takesNumber 55 = .ok (.aload_n 0, 1) := by decide +kernel
theorem dX5_takesNumber_56 : decode cX5_takesNumber 56 = .ok (.iload 4, 2) := by decide +kernel
theorem dX5_takesNumber_58 : decode cX5_takesNumber 58 = .ok (.invokevirtual 114, 3) := by decide +kernel
theorem dX5_takesNumber_61 : decode cX5_takesNumber 61 = .ok (.ireturn, 1) := by decide +kernel
theorem dX5_readHouse_0 : decode cX5_readHouse 0 = .ok (.aload_n 0, 1) := by decide +kernel
theorem dX5_readHouse_1 : decode cX5_readHouse 1 = .ok (.bipush 107, 2) := by decide +kernel
theorem dX5_readHouse_3 : decode cX5_readHouse 3 = .ok (.invokevirtual 105, 3) := by decide +kernel
theorem dX5_readHouse_6 : decode cX5_readHouse 6 = .ok (.ifCond .eq 7, 3) := by decide +kernel
theorem dX5_readHouse_9 : decode cX5_readHouse 9 = .ok (.iconst 1, 1) := by decide +kernel
theorem dX5_readHouse_10 : decode cX5_readHouse 10 = .ok (.goto 56, 3) := by decide +kernel
theorem dX5_readHouse_13 : decode cX5_readHouse 13 = .ok (.aload_n 0, 1) := by decide +kernel
theorem dX5_readHouse_14 : decode cX5_readHouse 14 = .ok (.bipush 104, 2) := by decide +kernel
theorem dX5_readHouse_16 : decode cX5_readHouse 16 = .ok (.invokevirtual 105, 3) := by decide +kernel
theorem dX5_readHouse_19 : decode cX5_readHouse 19 = .ok (.ifCond .eq 7, 3) := by decide +kernel
theorem dX5_readHouse_22 : decode cX5_readHouse 22 = .ok (.iconst 2, 1) := by decide +kernel
theorem dX5_readHouse_23 : decode cX5_readHouse 23 = .ok (.goto 43, 3) := by decide +kernel
theorem dX5_readHouse_26 : decode cX5_readHouse 26 = .ok (.aload_n 0, 1) := by decide +kernel
theorem dX5_readHouse_27 : decode cX5_readHouse 27 = .ok (.bipush 109, 2) := by decide +kernel
theorem dX5_readHouse_29 : decode cX5_readHouse 29 = .ok (.invokevirtual 105, 3) := by decide +kernel
theorem dX5_readHouse_32 : decode cX5_readHouse 32 = .ok (.ifCond .eq 7, 3) := by decide +kernel
theorem dX5_readHouse_35 : decode cX5_readHouse 35 = .ok (.iconst 3, 1) := by decide +kernel
theorem dX5_readHouse_36 : decode cX5_readHouse 36 = .ok (.goto 30, 3) := by decide +kernel
theorem dX5_readHouse_39 : decode cX5_readHouse 39 = .ok (.aload_n 0, 1) := by decide +kernel
theorem dX5_readHouse_40 : decode cX5_readHouse 40 = .ok (.bipush 115, 2) := by decide +kernel
theorem dX5_readHouse_42 : decode cX5_readHouse 42 = .ok (.invokevirtual 105, 3) := by decide +kernel
theorem dX5_readHouse_45 : decode cX5_readHouse 45 = .ok (.ifCond .eq 7, 3) := by decide +kernel
theorem dX5_readHouse_48 : decode cX5_readHouse 48 = .ok (.iconst 4, 1) := by decide +kernel
theorem dX5_readHouse_49 : decode cX5_readHouse 49 = .ok (.goto 17, 3) := by decide +kernel
theorem dX5_readHouse_52 : decode cX5_readHouse 52 = .ok (.aload_n 0, 1) := by decide +kernel
theorem dX5_readHouse_53 : decode cX5_readHouse 53 = .ok (.bipush 110, 2) := by decide +kernel
theorem dX5_readHouse_55 : decode cX5_readHouse 55 = .ok (.invokevirtual 105, 3) := by decide +kernel
theorem dX5_readHouse_58 : decode cX5_readHouse 58 = .ok (.ifCond .eq 7, 3) := by decide +kernel
theorem dX5_readHouse_61 : decode cX5_readHouse 61 = .ok (.iconst 5, 1) := by decide +kernel
theorem dX5_readHouse_62 : decode cX5_readHouse 62 = .ok (.goto 4, 3) := by decide +kernel
theorem dX5_readHouse_65 : decode cX5_readHouse 65 = .ok (.iconst 0, 1) := by decide +kernel
theorem dX5_readHouse_66 : decode cX5_readHouse 66 = .ok (.istore_n 1, 1) := by decide +kernel
theorem dX5_readHouse_67 : decode cX5_readHouse 67 = .ok (.aload_n 0, 1) := by decide +kernel
theorem dX5_readHouse_68 : decode cX5_readHouse 68 = .ok (.getfield 28, 3) := by decide +kernel
theorem dX5_readHouse_71 : decode cX5_readHouse 71 = .ok (.iconst 2, 1) := by decide +kernel
theorem dX5_readHouse_72 : decode cX5_readHouse 72 = .ok (.iaload, 1) := by decide +kernel
theorem dX5_readHouse_73 : decode cX5_readHouse 73 = .ok (.istore_n 2, 1) := by decide +kernel
theorem dX5_readHouse_74 : decode cX5_readHouse 74 = .ok (.iload_n 1, 1) := by decide +kernel
theorem dX5_readHouse_75 : decode cX5_readHouse 75 = .ok (.ifCond .eq 9, 3) := by decide +kernel
theorem dX5_readHouse_78 : decode cX5_readHouse 78 = .ok (.iload_n 2, 1) := by decide +kernel
theorem dX5_readHouse_79 : decode cX5_readHouse 79 = .ok (.bipush 7, 2) := by decide +kernel
theorem dX5_readHouse_81 : decode cX5_readHouse 81 = .ok (.if_icmp .ne 17, 3) := by decide +kernel
theorem dX5_readHouse_84 : decode cX5_readHouse 84 = .ok (.aload_n 0, 1) := by decide +kernel
theorem dX5_readHouse_85 : decode cX5_readHouse 85 = .ok (.iload_n 1, 1) := by decide +kernel
theorem dX5_readHouse_86 : decode cX5_readHouse 86 = .ok (.ifCond .ne 7, 3) := by decide +kernel
theorem dX5_readHouse_89 : decode cX5_readHouse 89 = .ok (.iconst 1, 1) := by decide +kernel
theorem dX5_readHouse_90 : decode cX5_readHouse 90 = .ok (.goto 4, 3) := by decide +kernel
theorem dX5_readHouse_93 : decode cX5_readHouse 93 = .ok (.iconst 3, 1) := by decide +kernel
theorem dX5_readHouse_94 : decode cX5_readHouse 94 = .ok (.invokevirtual 108, 3) := by decide +kernel
theorem dX5_readHouse_97 : decode cX5_readHouse 97 = .ok (.ireturn, 1) := by decide +kernel
theorem dX5_readHouse_98 : decode cX5_readHouse 98 = .ok (.aload_n 0, 1) := by decide +kernel
theorem dX5_readHouse_99 : decode cX5_readHouse 99 = .ok (.invokevirtual 111, 3) := by decide +kernel
theorem dX5_readHouse_102 : decode cX5_readHouse 102 = .ok (.aload_n 0, 1) := by decide +kernel
theorem dX5_readHouse_103 : decode cX5_readHouse 103 = .ok (.getfield 28, 3) := by decide +kernel
theorem dX5_readHouse_106 : decode cX5_readHouse 106 = .ok (.bipush 6, 2) := by decide +kernel
theorem dX5_readHouse_108 : decode cX5_readHouse 108 = .ok (.iload_n 2, 1) := by decide +kernel
theorem dX5_readHouse_109 : decode cX5_readHouse 109 = .ok (.iadd, 1) := by decide +kernel
theorem dX5_readHouse_110 : decode cX5_readHouse 110 = .ok (.iload_n 1, 1) := by decide +kernel
theorem dX5_readHouse_111 : decode cX5_readHouse 111 = .ok (.iastore, 1) := by decide +kernel
theorem dX5_readHouse_112 : decode cX5_readHouse 112 = .ok (.aload_n 0, 1) := by decide +kernel
theorem dX5_readHouse_113 : decode cX5_readHouse 113 = .ok (.getfield 28, 3) := by decide +kernel
theorem dX5_readHouse_116 : decode cX5_readHouse 116 = .ok (.iconst 2, 1) := by decide +kernel
theorem dX5_readHouse_117 : decode cX5_readHouse 117 = .ok (.dup2, 1) := by decide +kernel
theorem dX5_readHouse_118 : decode cX5_readHouse 118 = .ok (.iaload, 1) := by decide +kernel
theorem dX5_readHouse_119 : decode cX5_readHouse 119 = .ok (.iconst 1, 1) := by decide +kernel
theorem dX5_readHouse_120 : decode cX5_readHouse 120 = .ok (.iadd, 1) := by decide +kernel
theorem dX5_readHouse_121 : decode cX5_readHouse 121 = .ok (.iastore, 1) := by decide +kernel
theorem dX5_readHouse_122 : decode cX5_readHouse 122 = .ok (.aload_n 0, 1) := by decide +kernel
theorem dX5_readHouse_123 : decode cX5_readHouse 123 = .ok (.iconst 0, 1) := by decide +kernel
theorem dX5_readHouse_124 : decode cX5_readHouse 124 = .ok (.bipush 20, 2) := by decide +kernel
theorem dX5_readHouse_126 : decode cX5_readHouse 126 = .ok (.bipush 13, 2) := by decide +kernel
theorem dX5_readHouse_128 : decode cX5_readHouse 128 = .ok (.iload_n 2, 1) := by decide +kernel
theorem dX5_readHouse_129 : decode cX5_readHouse 129 = .ok (.iadd, 1) := by decide +kernel
theorem dX5_readHouse_130 : decode cX5_readHouse 130 = .ok (.bipush 44, 2) := by decide +kernel
theorem dX5_readHouse_132 : decode cX5_readHouse 132 = .ok (.invokevirtual 117, 3) := by decide +kernel
theorem dX5_readHouse_135 : decode cX5_readHouse 135 = .ok (.ifCond .eq 39, 3) := by decide +kernel
theorem dX5_readHouse_138 : decode cX5_readHouse 138 = .ok (.aload_n 0, 1) := by decide +kernel
theorem dX5_readHouse_139 : decode cX5_readHouse 139 = .ok (.iconst 1, 1) := by decide +kernel
theorem dX5_readHouse_140 : decode cX5_readHouse 140 = .ok (.bipush 9, 2) := by decide +kernel
theorem dX5_readHouse_142 : decode cX5_readHouse 142 = .ok (.bipush 20, 2) := by decide +kernel
theorem dX5_readHouse_144 : decode cX5_readHouse 144 = .ok (.iload_n 2, 1) := by decide +kernel
theorem dX5_readHouse_145 : decode cX5_readHouse 145 = .ok (.iadd, 1) := by decide +kernel
theorem dX5_readHouse_146 : decode cX5_readHouse 146 = .ok (.bipush 44, 2) := by decide +kernel
theorem dX5_readHouse_148 : decode cX5_readHouse 148 = .ok (.invokevirtual 117, 3) := by decide +kernel
theorem dX5_readHouse_151 : decode cX5_readHouse 151 = .ok (.ifCond .eq 23, 3) := by decide +kernel
theorem dX5_readHouse_154 : decode cX5_readHouse 154 = .ok (.aload_n 0, 1) := by decide +kernel
theorem dX5_readHouse_155 : decode cX5_readHouse 155 = .ok (.iconst 0, 1) := by decide +kernel
theorem dX5_readHouse_156 : decode cX5_readHouse 156 = .ok (.bipush 9, 2) := by decide +kernel
theorem dX5_readHouse_158 : decode cX5_readHouse 158 = .ok (.bipush 27, 2) := by decide +kernel
theorem dX5_readHouse_160 : decode cX5_readHouse 160 = .ok (.iload_n 2, 1) := by decide +kernel
theorem dX5_readHouse_161 : decode cX5_readHouse 161 = .ok (.iadd, 1) := by decide +kernel
theorem dX5_readHouse_162 : decode cX5_readHouse 162 = .ok (.bipush 59, 2) := by decide +kernel
theorem dX5_readHouse_164 : decode cX5_readHouse 164 = .ok (.invokevirtual 117, 3) := by decide +kernel
theorem dX5_readHouse_167 : decode cX5_readHouse 167 = .ok (.ifCond .eq 7, 3) := by decide +kernel
theorem dX5_readHouse_170 : decode cX5_readHouse 170 = .ok (.iconst 1, 1) := by decide +kernel
theorem dX5_readHouse_171 : decode cX5_readHouse 171 = .ok (.goto 4, 3) := by decide +kernel
theorem dX5_readHouse_174 : decode cX5_readHouse 174 = .ok (.iconst 0, 1) := by decide +kernel
theorem dX5_readHouse_175 : decode cX5_readHouse 175 = .ok (.ireturn, 1) := by decide +kernel
theorem dX5_readStreet_0 : decode cX5_readStreet 0 = .ok (.aload_n 0, 1) := by decide +kernel
theorem dX5_readStreet_1 : decode cX5_readStreet 1 = .ok (.iconst 0, 1) := by decide +kernel
theorem dX5_readStreet_2 : decode cX5_readStreet 2 = .ok (.putfield 82, 3) := by decide +kernel
theorem dX5_readStreet_5 : decode cX5_readStreet 5 = .ok (.iconst 0, 1) := by decide +kernel
theorem dX5_readStreet_6 : decode cX5_readStreet 6 = .ok (.istore_n 1, 1) := by decide +kernel
theorem dX5_readStreet_7 : decode cX5_readStreet 7 = .ok (.iload_n 1, 1) := by decide +kernel
theorem dX5_readStreet_8 : decode cX5_readStreet 8 = .ok (.bipush 48, 2) := by decide +kernel
theorem dX5_readStreet_10 : decode cX5_readStreet 10 = .ok (.if_icmp .ge 16, 3) := by decide +kernel
theorem dX5_readStreet_13 : decode cX5_readStreet 13 = .ok (.aload_n 0, 1) := by decide +kernel
theorem dX5_readStreet_14 : decode cX5_readStreet 14 = .ok (.getfield 28, 3) := by decide +kernel
theorem dX5_readStreet_17 : decode cX5_readStreet 17 = .ok (.iload_n 1, 1) := by decide +kernel
theorem dX5_readStreet_18 : decode cX5_readStreet 18 = .ok (.iconst 0, 1) := by decide +kernel
theorem dX5_readStreet_19 : decode cX5_readStreet 19 = .ok (.iastore, 1) := by decide +kernel
theorem dX5_readStreet_20 : decode cX5_readStreet 20 = .ok (.iinc 1 1, 3) := by decide +kernel
theorem dX5_readStreet_23 : decode cX5_readStreet 23 = .ok (.goto (-16), 3) := by decide +kernel
theorem dX5_readStreet_26 : decode cX5_readStreet 26 = .ok (.aload_n 0, 1) := by decide +kernel
theorem dX5_readStreet_27 : decode cX5_readStreet 27 = .ok (.invokevirtual 111, 3) := by decide +kernel
theorem dX5_readStreet_30 : decode cX5_readStreet 30 = .ok (.aload_n 0, 1) := by decide +kernel
theorem dX5_readStreet_31 : decode cX5_readStreet 31 = .ok (.bipush 103, 2) := by decide +kernel
theorem dX5_readStreet_33 : decode cX5_readStreet 33 = .ok (.invokevirtual 114, 3) := by decide +kernel
theorem dX5_readStreet_36 : decode cX5_readStreet 36 = .ok (.ifCond .eq 29, 3) := by decide +kernel
theorem dX5_readStreet_39 : decode cX5_readStreet 39 = .ok (.aload_n 0, 1) := by decide +kernel
theorem dX5_readStreet_40 : decode cX5_readStreet 40 = .ok (.iconst 1, 1) := by decide +kernel
theorem dX5_readStreet_41 : decode cX5_readStreet 41 = .ok (.bipush 9, 2) := by decide +kernel
theorem dX5_readStreet_43 : decode cX5_readStreet 43 = .ok (.iconst 0, 1) := by decide +kernel
theorem dX5_readStreet_44 : decode cX5_readStreet 44 = .ok (.bipush 44, 2) := by decide +kernel
theorem dX5_readStreet_46 : decode cX5_readStreet 46 = .ok (.invokevirtual 117, 3) := by decide +kernel
theorem dX5_readStreet_49 : decode cX5_readStreet 49 = .ok (.ifCond .eq 16, 3) := by decide +kernel
theorem dX5_readStreet_52 : decode cX5_readStreet 52 = .ok (.aload_n 0, 1) := by decide +kernel
theorem dX5_readStreet_53 : decode cX5_readStreet 53 = .ok (.iconst 0, 1) := by decide +kernel
theorem dX5_readStreet_54 : decode cX5_readStreet 54 = .ok (.bipush 99, 2) := by decide +kernel
theorem dX5_readStreet_56 : decode cX5_readStreet 56 = .ok (.iconst 1, 1) := by decide +kernel
theorem dX5_readStreet_57 : decode cX5_readStreet 57 = .ok (.bipush 59, 2) := by decide +kernel
theorem dX5_readStreet_59 : decode cX5_readStreet 59 = .ok (.invokevirtual 117, 3) := by decide +kernel
theorem dX5_readStreet_62 : decode cX5_readStreet 62 = .ok (.ifCond .ne 5, 3) := by decide +kernel
theorem dX5_readStreet_65 : decode cX5_readStreet 65 = .ok (.iconst 0, 1) := by decide +kernel
theorem dX5_readStreet_66 : decode cX5_readStreet 66 = .ok (.ireturn, 1) := by decide +kernel
theorem dX5_readStreet_67 : decode cX5_readStreet 67 = .ok (.iconst 1, 1) := by decide +kernel
theorem dX5_readStreet_68 : decode cX5_readStreet 68 = .ok (.istore_n 1, 1) := by decide +kernel
theorem dX5_readStreet_69 : decode cX5_readStreet 69 = .ok (.iload_n 1, 1) := by decide +kernel
theorem dX5_readStreet_70 : decode cX5_readStreet 70 = .ok (.ifCond .eq 28, 3) := by decide +kernel
theorem dX5_readStreet_73 : decode cX5_readStreet 73 = .ok (.aload_n 0, 1) := by decide +kernel
theorem dX5_readStreet_74 : decode cX5_readStreet 74 = .ok (.getfield 88, 3) := by decide +kernel
theorem dX5_readStreet_77 : decode cX5_readStreet 77 = .ok (.iconst 3, 1) := by decide +kernel
theorem dX5_readStreet_78 : decode cX5_readStreet 78 = .ok (.if_icmp .ne 12, 3) := by decide +kernel
theorem dX5_readStreet_81 : decode cX5_readStreet 81 = .ok (.aload_n 0, 1) := by decide +kernel
theorem dX5_readStreet_82 : decode cX5_readStreet 82 = .ok (.getfield 28, 3) := by decide +kernel
theorem dX5_readStreet_85 : decode cX5_readStreet 85 = .ok (.iconst 2, 1) := by decide +kernel
theorem dX5_readStreet_86 : decode cX5_readStreet 86 = .ok (.iaload, 1) := by decide +kernel
theorem dX5_readStreet_87 : decode cX5_readStreet 87 = .ok (.ifCond .ne 11, 3) := by decide +kernel
theorem dX5_readStreet_90 : decode cX5_readStreet 90 = .ok (.aload_n 0, 1) := by decide +kernel
theorem dX5_readStreet_91 : decode cX5_readStreet 91 = .ok (.invokevirtual 121, 3) := by decide +kernel
theorem dX5_readStreet_94 : decode cX5_readStreet 94 = .ok (.istore_n 1, 1) := by decide +kernel
theorem dX5_readStreet_95 : decode cX5_readStreet 95 = .ok (.goto (-26), 3) := by decide +kernel
theorem dX5_readStreet_98 : decode cX5_readStreet 98 = .ok (.iload_n 1, 1) := by decide +kernel
theorem dX5_readStreet_99 : decode cX5_readStreet 99 = .ok (.ireturn, 1) := by decide +kernel
theorem dX5_street_0 : decode cX5_street 0 = .ok (.aload_n 0, 1) := by decide +kernel
theorem dX5_street_1 : decode cX5_street 1 = .ok (.invokevirtual 125, 3) := by decide +kernel
theorem dX5_street_4 : decode cX5_street 4 = .ok (.istore_n 1, 1) := by decide +kernel
theorem dX5_street_5 : decode cX5_street 5 = .ok (.aload_n 0, 1) := by decide +kernel
theorem dX5_street_6 : decode cX5_street 6 = .ok (.iconst 0, 1) := by decide +kernel
theorem dX5_street_7 : decode cX5_street 7 = .ok (.putfield 78, 3) := by decide +kernel
theorem dX5_street_10 : decode cX5_street 10 = .ok (.iload_n 1, 1) := by decide +kernel
theorem dX5_street_11 : decode cX5_street 11 = .ok (.ifCond .ne 19, 3) := by decide +kernel
theorem dX5_street_14 : decode cX5_street 14 = .ok (.aload_n 0, 1) := by decide +kernel
theorem dX5_street_15 : decode cX5_street 15 = .ok (.aload_n 0, 1) := by decide +kernel
theorem dX5_street_16 : decode cX5_street 16 = .ok (.getfield 102, 3) := by decide +kernel
theorem dX5_street_19 : decode cX5_street 19 = .ok (.putfield 128, 3) := by decide +kernel
theorem dX5_street_22 : decode cX5_street 22 = .ok (.ldc 131, 2) := by decide +kernel
theorem dX5_street_24 : decode cX5_street 24 = .ok (.aload_n 0, 1) := by decide +kernel
theorem dX5_street_25 : decode cX5_street 25 = .ok (.getfield 85, 3) := by decide +kernel
theorem dX5_street_28 : decode cX5_street 28 = .ok (.isub, 1) := by decide +kernel
theorem dX5_street_29 : decode cX5_street 29 = .ok (.ireturn, 1) := by decide +kernel
theorem dX5_street_30 : decode cX5_street 30 = .ok (.iconst 0, 1) := by decide +kernel
theorem dX5_street_31 : decode cX5_street 31 = .ok (.istore_n 2, 1) := by decide +kernel
theorem dX5_street_32 : decode cX5_street 32 = .ok (.iload_n 2, 1) := by decide +kernel
theorem dX5_street_33 : decode cX5_street 33 = .ok (.bipush 48, 2) := by decide +kernel
theorem dX5_street_35 : decode cX5_street 35 = .ok (.if_icmp .ge 21, 3) := by decide +kernel
theorem dX5_street_38 : decode cX5_street 38 = .ok (.aload_n 0, 1) := by decide +kernel
theorem dX5_street_39 : decode cX5_street 39 = .ok (.getfield 19, 3) := by decide +kernel
theorem dX5_street_42 : decode cX5_street 42 = .ok (.iload_n 2, 1) := by decide +kernel
theorem dX5_street_43 : decode cX5_street 43 = .ok (.aload_n 0, 1) := by decide +kernel
theorem dX5_street_44 : decode cX5_street 44 = .ok (.getfield 28, 3) := by decide +kernel
theorem dX5_street_47 : decode cX5_street 47 = .ok (.iload_n 2, 1) := by decide +kernel
theorem dX5_street_48 : decode cX5_street 48 = .ok (.iaload, 1) := by decide +kernel
theorem dX5_street_49 : decode cX5_street 49 = .ok (.iastore, 1) := by decide +kernel
theorem dX5_street_50 : decode cX5_street 50 = .ok (.iinc 2 1, 3) := by decide +kernel
theorem dX5_street_53 : decode cX5_street 53 = .ok (.goto (-21), 3) := by decide +kernel
theorem dX5_street_56 : decode cX5_street 56 = .ok (.aload_n 0, 1) := by decide +kernel
theorem dX5_street_57 : decode cX5_street 57 = .ok (.iconst 1, 1) := by decide +kernel
theorem dX5_street_58 : decode cX5_street 58 = .ok (.putfield 132, 3) := by decide +kernel
theorem dX5_street_61 : decode cX5_street 61 = .ok (.aload_n 0, 1) := by decide +kernel
theorem dX5_street_62 : decode cX5_street 62 = .ok (.iconst 0, 1) := by decide +kernel
theorem dX5_street_63 : decode cX5_street 63 = .ok (.putfield 136, 3) := by decide +kernel
theorem dX5_street_66 : decode cX5_street 66 = .ok (.aload_n 0, 1) := by decide +kernel
theorem dX5_street_67 : decode cX5_street 67 = .ok (.getfield 19, 3) := by decide +kernel
theorem dX5_street_70 : decode cX5_street 70 = .ok (.iconst 2, 1) := by decide +kernel
theorem dX5_street_71 : decode cX5_street 71 = .ok (.iaload, 1) := by decide +kernel
theorem dX5_street_72 : decode cX5_street 72 = .ok (.ireturn, 1) := by decide +kernel
theorem dX5_fault_0 : decode cX5_fault 0 = .ok (.aload_n 0, 1) := by decide +kernel
theorem dX5_fault_1 : decode cX5_fault 1 = .ok (.getfield 128, 3) := by decide +kernel
theorem dX5_fault_4 : decode cX5_fault 4 = .ok (.ireturn, 1) := by decide +kernel
theorem dX5_isHouse_0 : decode cX5_isHouse 0 = .ok (.iload_n 1, 1) := by decide +kernel
theorem dX5_isHouse_1 : decode cX5_isHouse 1 = .ok (.i2l, 1) := by decide +kernel
theorem dX5_isHouse_2 : decode cX5_isHouse 2 = .ok (.lconst 0, 1) := by decide +kernel
theorem dX5_isHouse_3 : decode cX5_isHouse 3 = .ok (.aload_n 0, 1) := by decide +kernel
theorem dX5_isHouse_4 : decode cX5_isHouse 4 = .ok (.getfield 19, 3) := by decide +kernel
theorem dX5_isHouse_7 : decode cX5_isHouse 7 = .ok (.iconst 2, 1) := by decide +kernel
theorem dX5_isHouse_8 : decode cX5_isHouse 8 = .ok (.iaload, 1) := by decide +kernel
theorem dX5_isHouse_9 : decode cX5_isHouse 9 = .ok (.iconst 1, 1) := by decide +kernel
theorem dX5_isHouse_10 : decode cX5_isHouse 10 = .ok (.isub, 1) := by decide +kernel
theorem dX5_isHouse_11 : decode cX5_isHouse 11 = .ok (.i2l, 1) := by decide +kernel
theorem dX5_isHouse_12 : decode cX5_isHouse 12 = .ok (.invokestatic 54, 3) := by decide +kernel
theorem dX5_isHouse_15 : decode cX5_isHouse 15 = .ok (.ireturn, 1) := by decide +kernel
theorem dX5_shedsOf_0 : decode cX5_shedsOf 0 = .ok (.aload_n 0, 1) := by decide +kernel
theorem dX5_shedsOf_1 : decode cX5_shedsOf 1 = .ok (.getfield 19, 3) := by decide +kernel
theorem dX5_shedsOf_4 : decode cX5_shedsOf 4 = .ok (.bipush 13, 2) := by decide +kernel
theorem dX5_shedsOf_6 : decode cX5_shedsOf 6 = .ok (.iload_n 1, 1) := by decide +kernel
theorem dX5_shedsOf_7 : decode cX5_shedsOf 7 = .ok (.iadd, 1) := by decide +kernel
theorem dX5_shedsOf_8 : decode cX5_shedsOf 8 = .ok (.iaload, 1) := by decide +kernel
theorem dX5_shedsOf_9 : decode cX5_shedsOf 9 = .ok (.istore_n 2, 1) := by decide +kernel
theorem dX5_shedsOf_10 : decode cX5_shedsOf 10 = .ok (.aload_n 0, 1) := by decide +kernel
theorem dX5_shedsOf_11 : decode cX5_shedsOf 11 = .ok (.getfield 19, 3) := by decide +kernel
theorem dX5_shedsOf_14 : decode cX5_shedsOf 14 = .ok (.bipush 20, 2) := by decide +kernel
theorem dX5_shedsOf_16 : decode cX5_shedsOf 16 = .ok (.iload_n 1, 1) := by decide +kernel
theorem dX5_shedsOf_17 : decode cX5_shedsOf 17 = .ok (.iadd, 1) := by decide +kernel
theorem dX5_shedsOf_18 : decode cX5_shedsOf 18 = .ok (.iaload, 1) := by decide +kernel
theorem dX5_shedsOf_19 : decode cX5_shedsOf 19 = .ok (.istore_n 3, 1) := by decide +kernel
theorem dX5_shedsOf_20 : decode cX5_shedsOf 20 = .ok (.aload_n 0, 1) := by decide +kernel
theorem dX5_shedsOf_21 : decode cX5_shedsOf 21 = .ok (.getfield 19, 3) := by decide +kernel
theorem dX5_shedsOf_24 : decode cX5_shedsOf 24 = .ok (.iconst 4, 1) := by decide +kernel
theorem dX5_shedsOf_25 : decode cX5_shedsOf 25 = .ok (.iaload, 1) := by decide +kernel
theorem dX5_shedsOf_26 : decode cX5_shedsOf 26 = .ok (.iload_n 1, 1) := by decide +kernel
theorem dX5_shedsOf_27 : decode cX5_shedsOf 27 = .ok (.invokestatic 139, 3) := by decide +kernel
theorem dX5_shedsOf_30 : decode cX5_shedsOf 30 = .ok (.ifCond .eq 5, 3) := by decide +kernel
theorem dX5_shedsOf_33 : decode cX5_shedsOf 33 = .ok (.iconst 0, 1) := by decide +kernel
theorem dX5_shedsOf_34 : decode cX5_shedsOf 34 = .ok (.ireturn, 1) := by decide +kernel
theorem dX5_shedsOf_35 : decode cX5_shedsOf 35 = .ok (.aload_n 0, 1) := by decide +kernel
theorem dX5_shedsOf_36 : decode cX5_shedsOf 36 = .ok (.getfield 19, 3) := by decide +kernel
theorem dX5_shedsOf_39 : decode cX5_shedsOf 39 = .ok (.bipush 6, 2) := by decide +kernel
theorem dX5_shedsOf_41 : decode cX5_shedsOf 41 = .ok (.iload_n 1, 1) := by decide +kernel
theorem dX5_shedsOf_42 : decode cX5_shedsOf 42 = .ok (.iadd, 1) := by decide +kernel
theorem dX5_shedsOf_43 : decode cX5_shedsOf 43 = .ok (.iaload, 1) := by decide +kernel
theorem dX5_shedsOf_44 : decode cX5_shedsOf 44 = .ok (.tableswitch 71 2 5 #[32, 38, 52, 54], 32) := by decide +kernel
theorem dX5_shedsOf_76 : decode cX5_shedsOf 76 = .ok (.iconst 2, 1) := by decide +kernel
theorem dX5_shedsOf_77 : decode cX5_shedsOf 77 = .ok (.iload_n 2, 1) := by decide +kernel
theorem dX5_shedsOf_78 : decode cX5_shedsOf 78 = .ok (.iload_n 3, 1) := by decide +kernel
theorem dX5_shedsOf_79 : decode cX5_shedsOf 79 = .ok (.idiv, 1) := by decide +kernel
theorem dX5_shedsOf_80 : decode cX5_shedsOf 80 = .ok (.imul, 1) := by decide +kernel
theorem dX5_shedsOf_81 : decode cX5_shedsOf 81 = .ok (.ireturn, 1) := by decide +kernel
theorem dX5_shedsOf_82 : decode cX5_shedsOf 82 = .ok (.iload_n 2, 1) := by decide +kernel
theorem dX5_shedsOf_83 : decode cX5_shedsOf 83 = .ok (.iload_n 3, 1) := by decide +kernel
theorem dX5_shedsOf_84 : decode cX5_shedsOf 84 = .ok (.idiv, 1) := by decide +kernel
theorem dX5_shedsOf_85 : decode cX5_shedsOf 85 = .ok (.iload_n 2, 1) := by decide +kernel
theorem dX5_shedsOf_86 : decode cX5_shedsOf 86 = .ok (.ifCond .le 7, 3) := by decide +kernel
theorem dX5_shedsOf_89 : decode cX5_shedsOf 89 = .ok (.iconst 1, 1) := by decide +kernel
theorem dX5_shedsOf_90 : decode cX5_shedsOf 90 = .ok (.goto 4, 3) := by decide +kernel
theorem dX5_shedsOf_93 : decode cX5_shedsOf 93 = .ok (.iconst 0, 1) := by decide +kernel
theorem dX5_shedsOf_94 : decode cX5_shedsOf 94 = .ok (.iadd, 1) := by decide +kernel
theorem dX5_shedsOf_95 : decode cX5_shedsOf 95 = .ok (.ireturn, 1) := by decide +kernel
theorem dX5_shedsOf_96 : decode cX5_shedsOf 96 = .ok (.iload_n 3, 1) := by decide +kernel
theorem dX5_shedsOf_97 : decode cX5_shedsOf 97 = .ok (.ireturn, 1) := by decide +kernel
theorem dX5_shedsOf_98 : decode cX5_shedsOf 98 = .ok (.aload_n 0, 1) := by decide +kernel
theorem dX5_shedsOf_99 : decode cX5_shedsOf 99 = .ok (.getfield 19, 3) := by decide +kernel
theorem dX5_shedsOf_102 : decode cX5_shedsOf 102 = .ok (.iconst 3, 1) := by decide +kernel
theorem dX5_shedsOf_103 : decode cX5_shedsOf 103 = .ok (.iaload, 1) := by decide +kernel
theorem dX5_shedsOf_104 : decode cX5_shedsOf 104 = .ok (.iconst 2, 1) := by decide +kernel
theorem dX5_shedsOf_105 : decode cX5_shedsOf 105 = .ok (.irem, 1) := by decide +kernel
theorem dX5_shedsOf_106 : decode cX5_shedsOf 106 = .ok (.ifCond .ne 7, 3) := by decide +kernel
theorem dX5_shedsOf_109 : decode cX5_shedsOf 109 = .ok (.iload_n 3, 1) := by decide +kernel
theorem dX5_shedsOf_110 : decode cX5_shedsOf 110 = .ok (.goto 4, 3) := by decide +kernel
theorem dX5_shedsOf_113 : decode cX5_shedsOf 113 = .ok (.iconst 0, 1) := by decide +kernel
theorem dX5_shedsOf_114 : decode cX5_shedsOf 114 = .ok (.ireturn, 1) := by decide +kernel
theorem dX5_shedsOf_115 : decode cX5_shedsOf 115 = .ok (.iload_n 2, 1) := by decide +kernel
theorem dX5_shedsOf_116 : decode cX5_shedsOf 116 = .ok (.iload_n 3, 1) := by decide +kernel
theorem dX5_shedsOf_117 : decode cX5_shedsOf 117 = .ok (.idiv, 1) := by decide +kernel
theorem dX5_shedsOf_118 : decode cX5_shedsOf 118 = .ok (.ireturn, 1) := by decide +kernel
theorem dX5_oneMinute_0 : decode cX5_oneMinute 0 = .ok (.iconst 0, 1) := by decide +kernel
theorem dX5_oneMinute_1 : decode cX5_oneMinute 1 = .ok (.istore_n 1, 1) := by decide +kernel
theorem dX5_oneMinute_2 : decode cX5_oneMinute 2 = .ok (.iconst 0, 1) := by decide +kernel
theorem dX5_oneMinute_3 : decode cX5_oneMinute 3 = .ok (.istore_n 2, 1) := by decide +kernel
theorem dX5_oneMinute_4 : decode cX5_oneMinute 4 = .ok (.iload_n 2, 1) := by decide +kernel
theorem dX5_oneMinute_5 : decode cX5_oneMinute 5 = .ok (.aload_n 0, 1) := by decide +kernel
theorem dX5_oneMinute_6 : decode cX5_oneMinute 6 = .ok (.getfield 19, 3) := by decide +kernel
theorem dX5_oneMinute_9 : decode cX5_oneMinute 9 = .ok (.iconst 2, 1) := by decide +kernel
theorem dX5_oneMinute_10 : decode cX5_oneMinute 10 = .ok (.iaload, 1) := by decide +kernel
theorem dX5_oneMinute_11 : decode cX5_oneMinute 11 = .ok (.if_icmp .ge 148, 3) := by decide +kernel
theorem dX5_oneMinute_14 : decode cX5_oneMinute 14 = .ok (.aload_n 0, 1) := by decide +kernel
theorem dX5_oneMinute_15 : decode cX5_oneMinute 15 = .ok (.getfield 19, 3) := by decide +kernel
theorem dX5_oneMinute_18 : decode cX5_oneMinute 18 = .ok (.bipush 34, 2) := by decide +kernel
theorem dX5_oneMinute_20 : decode cX5_oneMinute 20 = .ok (.iload_n 2, 1) := by decide +kernel
theorem dX5_oneMinute_21 : decode cX5_oneMinute 21 = .ok (.iadd, 1) := by decide +kernel
theorem dX5_oneMinute_22 : decode cX5_oneMinute 22 = .ok (.iaload, 1) := by decide +kernel
theorem dX5_oneMinute_23 : decode cX5_oneMinute 23 = .ok (.istore_n 3, 1) := by decide +kernel
theorem dX5_oneMinute_24 : decode cX5_oneMinute 24 = .ok (.iload_n 3, 1) := by decide +kernel
theorem dX5_oneMinute_25 : decode cX5_oneMinute 25 = .ok (.aload_n 0, 1) := by decide +kernel
theorem dX5_oneMinute_26 : decode cX5_oneMinute 26 = .ok (.getfield 19, 3) := by decide +kernel
theorem dX5_oneMinute_29 : decode cX5_oneMinute 29 = .ok (.iconst 0, 1) := by decide +kernel
theorem dX5_oneMinute_30 : decode cX5_oneMinute 30 = .ok (.iaload, 1) := by decide +kernel
theorem dX5_oneMinute_31 : decode cX5_oneMinute 31 = .ok (.if_icmp .ge 7, 3) := by decide +kernel
theorem dX5_oneMinute_34 : decode cX5_oneMinute 34 = .ok (.iload_n 3, 1) := by decide +kernel
theorem dX5_oneMinute_35 : decode cX5_oneMinute 35 = .ok (.goto 9, 3) := by decide +kernel
theorem dX5_oneMinute_38 : decode cX5_oneMinute 38 = .ok (.aload_n 0, 1) := by decide +kernel
theorem dX5_oneMinute_39 : decode cX5_oneMinute 39 = .ok (.getfield 19, 3) := by decide +kernel
theorem dX5_oneMinute_42 : decode cX5_oneMinute 42 = .ok (.iconst 0, 1) := by decide +kernel
theorem dX5_oneMinute_43 : decode cX5_oneMinute 43 = .ok (.iaload, 1) := by decide +kernel
theorem dX5_oneMinute_44 : decode cX5_oneMinute 44 = .ok (.istore 4, 2) := by decide +kernel
theorem dX5_oneMinute_46 : decode cX5_oneMinute 46 = .ok (.iload_n 1, 1) := by decide +kernel
theorem dX5_oneMinute_47 : decode cX5_oneMinute 47 = .ok (.ifCond .le 28, 3) := by decide +kernel
theorem dX5_oneMinute_50 : decode cX5_oneMinute 50 = .ok (.aload_n 0, 1) := by decide +kernel
theorem dX5_oneMinute_51 : decode cX5_oneMinute 51 = .ok (.getfield 19, 3) := by decide +kernel
theorem dX5_oneMinute_54 : decode cX5_oneMinute 54 = .ok (.bipush 41, 2) := by decide +kernel
theorem dX5_oneMinute_56 : decode cX5_oneMinute 56 = .ok (.iload_n 2, 1) := by decide +kernel
theorem dX5_oneMinute_57 : decode cX5_oneMinute 57 = .ok (.iadd, 1) := by decide +kernel
theorem dX5_oneMinute_58 : decode cX5_oneMinute 58 = .ok (.iaload, 1) := by decide +kernel
theorem dX5_oneMinute_59 : decode cX5_oneMinute 59 = .ok (.aload_n 0, 1) := by decide +kernel
theorem dX5_oneMinute_60 : decode cX5_oneMinute 60 = .ok (.getfield 19, 3) := by decide +kernel
theorem dX5_oneMinute_63 : decode cX5_oneMinute 63 = .ok (.bipush 27, 2) := by decide +kernel
theorem dX5_oneMinute_65 : decode cX5_oneMinute 65 = .ok (.iload_n 2, 1) := by decide +kernel
theorem dX5_oneMinute_66 : decode cX5_oneMinute 66 = .ok (.iadd, 1) := by decide +kernel
theorem dX5_oneMinute_67 : decode cX5_oneMinute 67 = .ok (.iaload, 1) := by decide +kernel
theorem dX5_oneMinute_68 : decode cX5_oneMinute 68 = .ok (.if_icmp .ge 7, 3) := by decide +kernel
theorem dX5_oneMinute_71 : decode cX5_oneMinute 71 = .ok (.iconst 1, 1) := by decide +kernel
theorem dX5_oneMinute_72 : decode cX5_oneMinute 72 = .ok (.goto 4, 3) := by decide +kernel
theorem dX5_oneMinute_75 : decode cX5_oneMinute 75 = .ok (.iconst 0, 1) := by decide +kernel
theorem dX5_oneMinute_76 : decode cX5_oneMinute 76 = .ok (.istore 5, 2) := by decide +kernel
theorem dX5_oneMinute_78 : decode cX5_oneMinute 78 = .ok (.aload_n 0, 1) := by decide +kernel
theorem dX5_oneMinute_79 : decode cX5_oneMinute 79 = .ok (.getfield 19, 3) := by decide +kernel
theorem dX5_oneMinute_82 : decode cX5_oneMinute 82 = .ok (.bipush 41, 2) := by decide +kernel
theorem dX5_oneMinute_84 : decode cX5_oneMinute 84 = .ok (.iload_n 2, 1) := by decide +kernel
theorem dX5_oneMinute_85 : decode cX5_oneMinute 85 = .ok (.iadd, 1) := by decide +kernel
theorem dX5_oneMinute_86 : decode cX5_oneMinute 86 = .ok (.dup2, 1) := by decide +kernel
theorem dX5_oneMinute_87 : decode cX5_oneMinute 87 = .ok (.iaload, 1) := by decide +kernel
theorem dX5_oneMinute_88 : decode cX5_oneMinute 88 = .ok (.iload 5, 2) := by decide +kernel
theorem dX5_oneMinute_90 : decode cX5_oneMinute 90 = .ok (.ifCond .eq 7, 3) := by decide +kernel
theorem dX5_oneMinute_93 : decode cX5_oneMinute 93 = .ok (.iconst 1, 1) := by decide +kernel
theorem dX5_oneMinute_94 : decode cX5_oneMinute 94 = .ok (.goto 4, 3) := by decide +kernel
theorem dX5_oneMinute_97 : decode cX5_oneMinute 97 = .ok (.iconst 0, 1) := by decide +kernel
theorem dX5_oneMinute_98 : decode cX5_oneMinute 98 = .ok (.iadd, 1) := by decide +kernel
theorem dX5_oneMinute_99 : decode cX5_oneMinute 99 = .ok (.iastore, 1) := by decide +kernel
theorem dX5_oneMinute_100 : decode cX5_oneMinute 100 = .ok (.iload_n 3, 1) := by decide +kernel
theorem dX5_oneMinute_101 : decode cX5_oneMinute 101 = .ok (.iload 4, 2) := by decide +kernel
theorem dX5_oneMinute_103 : decode cX5_oneMinute 103 = .ok (.isub, 1) := by decide +kernel
theorem dX5_oneMinute_104 : decode cX5_oneMinute 104 = .ok (.iload_n 1, 1) := by decide +kernel
theorem dX5_oneMinute_105 : decode cX5_oneMinute 105 = .ok (.iadd, 1) := by decide +kernel
theorem dX5_oneMinute_106 : decode cX5_oneMinute 106 = .ok (.iload 5, 2) := by decide +kernel
theorem dX5_oneMinute_108 : decode cX5_oneMinute 108 = .ok (.ifCond .eq 7, 3) := by decide +kernel
theorem dX5_oneMinute_111 : decode cX5_oneMinute 111 = .ok (.iconst 1, 1) := by decide +kernel
theorem dX5_oneMinute_112 : decode cX5_oneMinute 112 = .ok (.goto 4, 3) := by decide +kernel
theorem dX5_oneMinute_115 : decode cX5_oneMinute 115 = .ok (.iconst 0, 1) := by decide +kernel
theorem dX5_oneMinute_116 : decode cX5_oneMinute 116 = .ok (.isub, 1) := by decide +kernel
theorem dX5_oneMinute_117 : decode cX5_oneMinute 117 = .ok (.aload_n 0, 1) := by decide +kernel
theorem dX5_oneMinute_118 : decode cX5_oneMinute 118 = .ok (.iload_n 2, 1) := by decide +kernel
theorem dX5_oneMinute_119 : decode cX5_oneMinute 119 = .ok (.invokevirtual 143, 3) := by decide +kernel
theorem dX5_oneMinute_122 : decode cX5_oneMinute 122 = .ok (.iadd, 1) := by decide +kernel
theorem dX5_oneMinute_123 : decode cX5_oneMinute 123 = .ok (.istore 6, 2) := by decide +kernel
theorem dX5_oneMinute_125 : decode cX5_oneMinute 125 = .ok (.aload_n 0, 1) := by decide +kernel
theorem dX5_oneMinute_126 : decode cX5_oneMinute 126 = .ok (.getfield 19, 3) := by decide +kernel
theorem dX5_oneMinute_129 : decode cX5_oneMinute 129 = .ok (.bipush 34, 2) := by decide +kernel
theorem dX5_oneMinute_131 : decode cX5_oneMinute 131 = .ok (.iload_n 2, 1) := by decide +kernel
theorem dX5_oneMinute_132 : decode cX5_oneMinute 132 = .ok (.iadd, 1) := by decide +kernel
theorem dX5_oneMinute_133 : decode cX5_oneMinute 133 = .ok (.iload 6, 2) := by decide +kernel
theorem dX5_oneMinute_135 : decode cX5_oneMinute 135 = .ok (.sipush 999, 3) := by decide +kernel
theorem dX5_oneMinute_138 : decode cX5_oneMinute 138 = .ok (.if_icmp .le 9, 3) := by decide +kernel
theorem dX5_oneMinute_141 : decode cX5_oneMinute 141 = .ok (.sipush 999, 3) := by decide +kernel
theorem dX5_oneMinute_144 : decode cX5_oneMinute 144 = .ok (.goto 5, 3) := by decide +kernel
theorem dX5_oneMinute_147 : decode cX5_oneMinute 147 = .ok (.iload 6, 2) := by decide +kernel
theorem dX5_oneMinute_149 : decode cX5_oneMinute 149 = .ok (.iastore, 1) := by decide +kernel
theorem dX5_oneMinute_150 : decode cX5_oneMinute 150 = .ok (.iload 4, 2) := by decide +kernel
theorem dX5_oneMinute_152 : decode cX5_oneMinute 152 = .ok (.istore_n 1, 1) := by decide +kernel
theorem dX5_oneMinute_153 : decode cX5_oneMinute 153 = .ok (.iinc 2 1, 3) := by decide +kernel
theorem dX5_oneMinute_156 : decode cX5_oneMinute 156 = .ok (.goto (-152), 3) := by decide +kernel
theorem dX5_oneMinute_159 : decode cX5_oneMinute 159 = .ok (.aload_n 0, 1) := by decide +kernel
theorem dX5_oneMinute_160 : decode cX5_oneMinute 160 = .ok (.getfield 19, 3) := by decide +kernel
theorem dX5_oneMinute_163 : decode cX5_oneMinute 163 = .ok (.iconst 5, 1) := by decide +kernel
theorem dX5_oneMinute_164 : decode cX5_oneMinute 164 = .ok (.iaload, 1) := by decide +kernel
theorem dX5_oneMinute_165 : decode cX5_oneMinute 165 = .ok (.iload_n 1, 1) := by decide +kernel
theorem dX5_oneMinute_166 : decode cX5_oneMinute 166 = .ok (.iadd, 1) := by decide +kernel
theorem dX5_oneMinute_167 : decode cX5_oneMinute 167 = .ok (.istore_n 2, 1) := by decide +kernel
theorem dX5_oneMinute_168 : decode cX5_oneMinute 168 = .ok (.aload_n 0, 1) := by decide +kernel
theorem dX5_oneMinute_169 : decode cX5_oneMinute 169 = .ok (.getfield 19, 3) := by decide +kernel
theorem dX5_oneMinute_172 : decode cX5_oneMinute 172 = .ok (.iconst 5, 1) := by decide +kernel
theorem dX5_oneMinute_173 : decode cX5_oneMinute 173 = .ok (.iload_n 2, 1) := by decide +kernel
theorem dX5_oneMinute_174 : decode cX5_oneMinute 174 = .ok (.sipush 9999, 3) := by decide +kernel
theorem dX5_oneMinute_177 : decode cX5_oneMinute 177 = .ok (.if_icmp .le 9, 3) := by decide +kernel
theorem dX5_oneMinute_180 : decode cX5_oneMinute 180 = .ok (.sipush 9999, 3) := by decide +kernel
theorem dX5_oneMinute_183 : decode cX5_oneMinute 183 = .ok (.goto 4, 3) := by decide +kernel
theorem dX5_oneMinute_186 : decode cX5_oneMinute 186 = .ok (.iload_n 2, 1) := by decide +kernel
theorem dX5_oneMinute_187 : decode cX5_oneMinute 187 = .ok (.iastore, 1) := by decide +kernel
theorem dX5_oneMinute_188 : decode cX5_oneMinute 188 = .ok (.aload_n 0, 1) := by decide +kernel
theorem dX5_oneMinute_189 : decode cX5_oneMinute 189 = .ok (.getfield 19, 3) := by decide +kernel
theorem dX5_oneMinute_192 : decode cX5_oneMinute 192 = .ok (.iconst 3, 1) := by decide +kernel
theorem dX5_oneMinute_193 : decode cX5_oneMinute 193 = .ok (.dup2, 1) := by decide +kernel
theorem dX5_oneMinute_194 : decode cX5_oneMinute 194 = .ok (.iaload, 1) := by decide +kernel
theorem dX5_oneMinute_195 : decode cX5_oneMinute 195 = .ok (.iconst 1, 1) := by decide +kernel
theorem dX5_oneMinute_196 : decode cX5_oneMinute 196 = .ok (.iadd, 1) := by decide +kernel
theorem dX5_oneMinute_197 : decode cX5_oneMinute 197 = .ok (.iastore, 1) := by decide +kernel
theorem dX5_oneMinute_198 : decode cX5_oneMinute 198 = .ok (.return_, 1) := by decide +kernel
theorem dX5_sumOf_0 : decode cX5_sumOf 0 = .ok (.iconst 0, 1) := by decide +kernel
theorem dX5_sumOf_1 : decode cX5_sumOf 1 = .ok (.istore_n 2, 1) := by decide +kernel
theorem dX5_sumOf_2 : decode cX5_sumOf 2 = .ok (.iconst 0, 1) := by decide +kernel
theorem dX5_sumOf_3 : decode cX5_sumOf 3 = .ok (.istore_n 3, 1) := by decide +kernel
theorem dX5_sumOf_4 : decode cX5_sumOf 4 = .ok (.iload_n 3, 1) := by decide +kernel
theorem dX5_sumOf_5 : decode cX5_sumOf 5 = .ok (.aload_n 0, 1) := by decide +kernel
theorem dX5_sumOf_6 : decode cX5_sumOf 6 = .ok (.getfield 19, 3) := by decide +kernel
theorem dX5_sumOf_9 : decode cX5_sumOf 9 = .ok (.iconst 2, 1) := by decide +kernel
theorem dX5_sumOf_10 : decode cX5_sumOf 10 = .ok (.iaload, 1) := by decide +kernel
theorem dX5_sumOf_11 : decode cX5_sumOf 11 = .ok (.if_icmp .ge 20, 3) := by decide +kernel
theorem dX5_sumOf_14 : decode cX5_sumOf 14 = .ok (.iload_n 2, 1) := by decide +kernel
theorem dX5_sumOf_15 : decode cX5_sumOf 15 = .ok (.aload_n 0, 1) := by decide +kernel
theorem dX5_sumOf_16 : decode cX5_sumOf 16 = .ok (.getfield 19, 3) := by decide +kernel
theorem dX5_sumOf_19 : decode cX5_sumOf 19 = .ok (.iload_n 1, 1) := by decide +kernel
theorem dX5_sumOf_20 : decode cX5_sumOf 20 = .ok (.iload_n 3, 1) := by decide +kernel
theorem dX5_sumOf_21 : decode cX5_sumOf 21 = .ok (.iadd, 1) := by decide +kernel
theorem dX5_sumOf_22 : decode cX5_sumOf 22 = .ok (.iaload, 1) := by decide +kernel
theorem dX5_sumOf_23 : decode cX5_sumOf 23 = .ok (.iadd, 1) := by decide +kernel
theorem dX5_sumOf_24 : decode cX5_sumOf 24 = .ok (.istore_n 2, 1) := by decide +kernel
theorem dX5_sumOf_25 : decode cX5_sumOf 25 = .ok (.iinc 3 1, 3) := by decide +kernel
theorem dX5_sumOf_28 : decode cX5_sumOf 28 = .ok (.goto (-24), 3) := by decide +kernel
theorem dX5_sumOf_31 : decode cX5_sumOf 31 = .ok (.iload_n 2, 1) := by decide +kernel
theorem dX5_sumOf_32 : decode cX5_sumOf 32 = .ok (.ireturn, 1) := by decide +kernel
theorem dX5_letOff_0 : decode cX5_letOff 0 = .ok (.aload_n 0, 1) := by decide +kernel
theorem dX5_letOff_1 : decode cX5_letOff 1 = .ok (.getfield 19, 3) := by decide +kernel
theorem dX5_letOff_4 : decode cX5_letOff 4 = .ok (.iconst 5, 1) := by decide +kernel
theorem dX5_letOff_5 : decode cX5_letOff 5 = .ok (.aload_n 0, 1) := by decide +kernel
theorem dX5_letOff_6 : decode cX5_letOff 6 = .ok (.getfield 19, 3) := by decide +kernel
theorem dX5_letOff_9 : decode cX5_letOff 9 = .ok (.iconst 5, 1) := by decide +kernel
theorem dX5_letOff_10 : decode cX5_letOff 10 = .ok (.iaload, 1) := by decide +kernel
theorem dX5_letOff_11 : decode cX5_letOff 11 = .ok (.iload_n 1, 1) := by decide +kernel
theorem dX5_letOff_12 : decode cX5_letOff 12 = .ok (.if_icmp .le 14, 3) := by decide +kernel
theorem dX5_letOff_15 : decode cX5_letOff 15 = .ok (.aload_n 0, 1) := by decide +kernel
theorem dX5_letOff_16 : decode cX5_letOff 16 = .ok (.getfield 19, 3) := by decide +kernel
theorem dX5_letOff_19 : decode cX5_letOff 19 = .ok (.iconst 5, 1) := by decide +kernel
theorem dX5_letOff_20 : decode cX5_letOff 20 = .ok (.iaload, 1) := by decide +kernel
theorem dX5_letOff_21 : decode cX5_letOff 21 = .ok (.iload_n 1, 1) := by decide +kernel
theorem dX5_letOff_22 : decode cX5_letOff 22 = .ok (.isub, 1) := by decide +kernel
theorem dX5_letOff_23 : decode cX5_letOff 23 = .ok (.goto 4, 3) := by decide +kernel
theorem dX5_letOff_26 : decode cX5_letOff 26 = .ok (.iconst 0, 1) := by decide +kernel
theorem dX5_letOff_27 : decode cX5_letOff 27 = .ok (.iastore, 1) := by decide +kernel
theorem dX5_letOff_28 : decode cX5_letOff 28 = .ok (.return_, 1) := by decide +kernel
theorem dX5_isOver_0 : decode cX5_isOver 0 = .ok (.aload_n 0, 1) := by decide +kernel
theorem dX5_isOver_1 : decode cX5_isOver 1 = .ok (.getfield 19, 3) := by decide +kernel
theorem dX5_isOver_4 : decode cX5_isOver 4 = .ok (.iconst 5, 1) := by decide +kernel
theorem dX5_isOver_5 : decode cX5_isOver 5 = .ok (.iaload, 1) := by decide +kernel
theorem dX5_isOver_6 : decode cX5_isOver 6 = .ok (.aload_n 0, 1) := by decide +kernel
theorem dX5_isOver_7 : decode cX5_isOver 7 = .ok (.getfield 19, 3) := by decide +kernel
theorem dX5_isOver_10 : decode cX5_isOver 10 = .ok (.iconst 1, 1) := by decide +kernel
theorem dX5_isOver_11 : decode cX5_isOver 11 = .ok (.iaload, 1) := by decide +kernel
theorem dX5_isOver_12 : decode cX5_isOver 12 = .ok (.if_icmp .le 7, 3) := by decide +kernel
theorem dX5_isOver_15 : decode cX5_isOver 15 = .ok (.iconst 1, 1) := by decide +kernel
theorem dX5_isOver_16 : decode cX5_isOver 16 = .ok (.goto 4, 3) := by decide +kernel
theorem dX5_isOver_19 : decode cX5_isOver 19 = .ok (.iconst 0, 1) := by decide +kernel
theorem dX5_isOver_20 : decode cX5_isOver 20 = .ok (.ireturn, 1) := by decide +kernel
theorem dX5_note_0 : decode cX5_note 0 = .ok (.aload_n 0, 1) := by decide +kernel
theorem dX5_note_1 : decode cX5_note 1 = .ok (.getfield 136, 3) := by decide +kernel
theorem dX5_note_4 : decode cX5_note 4 = .ok (.bipush 24, 2) := by decide +kernel
theorem dX5_note_6 : decode cX5_note 6 = .ok (.if_icmp .ne 43, 3) := by decide +kernel
theorem dX5_note_9 : decode cX5_note 9 = .ok (.iconst 0, 1) := by decide +kernel
theorem dX5_note_10 : decode cX5_note 10 = .ok (.istore_n 1, 1) := by decide +kernel
theorem dX5_note_11 : decode cX5_note 11 = .ok (.iload_n 1, 1) := by decide +kernel
theorem dX5_note_12 : decode cX5_note 12 = .ok (.sipush 1104, 3) := by decide +kernel
theorem dX5_note_15 : decode cX5_note 15 = .ok (.if_icmp .ge 24, 3) := by decide +kernel
theorem dX5_note_18 : decode cX5_note 18 = .ok (.aload_n 0, 1) := by decide +kernel
theorem dX5_note_19 : decode cX5_note 19 = .ok (.getfield 31, 3) := by decide +kernel
theorem dX5_note_22 : decode cX5_note 22 = .ok (.iload_n 1, 1) := by decide +kernel
theorem dX5_note_23 : decode cX5_note 23 = .ok (.aload_n 0, 1) := by decide +kernel
theorem dX5_note_24 : decode cX5_note 24 = .ok (.getfield 31, 3) := by decide +kernel
theorem dX5_note_27 : decode cX5_note 27 = .ok (.iload_n 1, 1) := by decide +kernel
theorem dX5_note_28 : decode cX5_note 28 = .ok (.bipush 48, 2) := by decide +kernel
theorem dX5_note_30 : decode cX5_note 30 = .ok (.iadd, 1) := by decide +kernel
theorem dX5_note_31 : decode cX5_note 31 = .ok (.iaload, 1) := by decide +kernel
theorem dX5_note_32 : decode cX5_note 32 = .ok (.iastore, 1) := by decide +kernel
theorem dX5_note_33 : decode cX5_note 33 = .ok (.iinc 1 1, 3) := by decide +kernel
theorem dX5_note_36 : decode cX5_note 36 = .ok (.goto (-25), 3) := by decide +kernel
theorem dX5_note_39 : decode cX5_note 39 = .ok (.aload_n 0, 1) := by decide +kernel
theorem dX5_note_40 : decode cX5_note 40 = .ok (.dup, 1) := by decide +kernel
theorem dX5_note_41 : decode cX5_note 41 = .ok (.getfield 136, 3) := by decide +kernel
theorem dX5_note_44 : decode cX5_note 44 = .ok (.iconst 1, 1) := by decide +kernel
theorem dX5_note_45 : decode cX5_note 45 = .ok (.isub, 1) := by decide +kernel
theorem dX5_note_46 : decode cX5_note 46 = .ok (.putfield 136, 3) := by decide +kernel
theorem dX5_note_49 : decode cX5_note 49 = .ok (.iconst 0, 1) := by decide +kernel
theorem dX5_note_50 : decode cX5_note 50 = .ok (.istore_n 1, 1) := by decide +kernel
theorem dX5_note_51 : decode cX5_note 51 = .ok (.iload_n 1, 1) := by decide +kernel
theorem dX5_note_52 : decode cX5_note 52 = .ok (.bipush 48, 2) := by decide +kernel
theorem dX5_note_54 : decode cX5_note 54 = .ok (.if_icmp .ge 29, 3) := by decide +kernel
theorem dX5_note_57 : decode cX5_note 57 = .ok (.aload_n 0, 1) := by decide +kernel
theorem dX5_note_58 : decode cX5_note 58 = .ok (.getfield 31, 3) := by decide +kernel
theorem dX5_note_61 : decode cX5_note 61 = .ok (.bipush 48, 2) := by decide +kernel
theorem dX5_note_63 : decode cX5_note 63 = .ok (.aload_n 0, 1) := by decide +kernel
theorem dX5_note_64 : decode cX5_note 64 = .ok (.getfield 136, 3) := by decide +kernel
theorem dX5_note_67 : decode cX5_note 67 = .ok (.imul, 1) := by decide +kernel
theorem dX5_note_68 : decode cX5_note 68 = .ok (.iload_n 1, 1) := by decide +kernel
theorem dX5_note_69 : decode cX5_note 69 = .ok (.iadd, 1) := by decide +kernel
theorem dX5_note_70 : decode cX5_note 70 = .ok (.aload_n 0, 1) := by decide +kernel
theorem dX5_note_71 : decode cX5_note 71 = .ok (.getfield 19, 3) := by decide +kernel
theorem dX5_note_74 : decode cX5_note 74 = .ok (.iload_n 1, 1) := by decide +kernel
theorem dX5_note_75 : decode cX5_note 75 = .ok (.iaload, 1) := by decide +kernel
theorem dX5_note_76 : decode cX5_note 76 = .ok (.iastore, 1) := by decide +kernel
theorem dX5_note_77 : decode cX5_note 77 = .ok (.iinc 1 1, 3) := by decide +kernel
theorem dX5_note_80 : decode cX5_note 80 = .ok (.goto (-29), 3) := by decide +kernel
theorem dX5_note_83 : decode cX5_note 83 = .ok (.aload_n 0, 1) := by decide +kernel
theorem dX5_note_84 : decode cX5_note 84 = .ok (.dup, 1) := by decide +kernel
theorem dX5_note_85 : decode cX5_note 85 = .ok (.getfield 136, 3) := by decide +kernel
theorem dX5_note_88 : decode cX5_note 88 = .ok (.iconst 1, 1) := by decide +kernel
theorem dX5_note_89 : decode cX5_note 89 = .ok (.iadd, 1) := by decide +kernel
theorem dX5_note_90 : decode cX5_note 90 = .ok (.putfield 136, 3) := by decide +kernel
theorem dX5_note_93 : decode cX5_note 93 = .ok (.return_, 1) := by decide +kernel
theorem dX5_undo_0 : decode cX5_undo 0 = .ok (.aload_n 0, 1) := by decide +kernel
theorem dX5_undo_1 : decode cX5_undo 1 = .ok (.getfield 136, 3) := by decide +kernel
theorem dX5_undo_4 : decode cX5_undo 4 = .ok (.ifCond .ne 6, 3) := by decide +kernel
theorem dX5_undo_7 : decode cX5_undo 7 = .ok (.ldc 146, 2) := by decide +kernel
theorem dX5_undo_9 : decode cX5_undo 9 = .ok (.ireturn, 1) := by decide +kernel
theorem dX5_undo_10 : decode cX5_undo 10 = .ok (.aload_n 0, 1) := by decide +kernel
theorem dX5_undo_11 : decode cX5_undo 11 = .ok (.dup, 1) := by decide +kernel
theorem dX5_undo_12 : decode cX5_undo 12 = .ok (.getfield 136, 3) := by decide +kernel
theorem dX5_undo_15 : decode cX5_undo 15 = .ok (.iconst 1, 1) := by decide +kernel
theorem dX5_undo_16 : decode cX5_undo 16 = .ok (.isub, 1) := by decide +kernel
theorem dX5_undo_17 : decode cX5_undo 17 = .ok (.putfield 136, 3) := by decide +kernel
theorem dX5_undo_20 : decode cX5_undo 20 = .ok (.iconst 0, 1) := by decide +kernel
theorem dX5_undo_21 : decode cX5_undo 21 = .ok (.istore_n 1, 1) := by decide +kernel
theorem dX5_undo_22 : decode cX5_undo 22 = .ok (.iload_n 1, 1) := by decide +kernel
theorem dX5_undo_23 : decode cX5_undo 23 = .ok (.bipush 48, 2) := by decide +kernel
theorem dX5_undo_25 : decode cX5_undo 25 = .ok (.if_icmp .ge 29, 3) := by decide +kernel
theorem dX5_undo_28 : decode cX5_undo 28 = .ok (.aload_n 0, 1) := by decide +kernel
theorem dX5_undo_29 : decode cX5_undo 29 = .ok (.getfield 19, 3) := by decide +kernel
theorem dX5_undo_32 : decode cX5_undo 32 = .ok (.iload_n 1, 1) := by decide +kernel
theorem dX5_undo_33 : decode cX5_undo 33 = .ok (.aload_n 0, 1) := by decide +kernel
theorem dX5_undo_34 : decode cX5_undo 34 = .ok (.getfield 31, 3) := by decide +kernel
theorem dX5_undo_37 : decode cX5_undo 37 = .ok (.bipush 48, 2) := by decide +kernel
theorem dX5_undo_39 : decode cX5_undo 39 = .ok (.aload_n 0, 1) := by decide +kernel
theorem dX5_undo_40 : decode cX5_undo 40 = .ok (.getfield 136, 3) := by decide +kernel
theorem dX5_undo_43 : decode cX5_undo 43 = .ok (.imul, 1) := by decide +kernel
theorem dX5_undo_44 : decode cX5_undo 44 = .ok (.iload_n 1, 1) := by decide +kernel
theorem dX5_undo_45 : decode cX5_undo 45 = .ok (.iadd, 1) := by decide +kernel
theorem dX5_undo_46 : decode cX5_undo 46 = .ok (.iaload, 1) := by decide +kernel
theorem dX5_undo_47 : decode cX5_undo 47 = .ok (.iastore, 1) := by decide +kernel
theorem dX5_undo_48 : decode cX5_undo 48 = .ok (.iinc 1 1, 3) := by decide +kernel
theorem dX5_undo_51 : decode cX5_undo 51 = .ok (.goto (-29), 3) := by decide +kernel
theorem dX5_undo_54 : decode cX5_undo 54 = .ok (.aload_n 0, 1) := by decide +kernel
theorem dX5_undo_55 : decode cX5_undo 55 = .ok (.getfield 136, 3) := by decide +kernel
theorem dX5_undo_58 : decode cX5_undo 58 = .ok (.ireturn, 1) := by decide +kernel
theorem dX5_minutes_0 : decode cX5_minutes 0 = .ok (.aload_n 0, 1) := by decide +kernel
theorem dX5_minutes_1 : decode cX5_minutes 1 = .ok (.getfield 132, 3) := by decide +kernel
theorem dX5_minutes_4 : decode cX5_minutes 4 = .ok (.ifCond .ne 6, 3) := by decide +kernel
theorem dX5_minutes_7 : decode cX5_minutes 7 = .ok (.ldc 146, 2) := by decide +kernel
theorem dX5_minutes_9 : decode cX5_minutes 9 = .ok (.ireturn, 1) := by decide +kernel
theorem dX5_minutes_10 : decode cX5_minutes 10 = .ok (.iload_n 1, 1) := by decide +kernel
theorem dX5_minutes_11 : decode cX5_minutes 11 = .ok (.i2l, 1) := by decide +kernel
theorem dX5_minutes_12 : decode cX5_minutes 12 = .ok (.lconst 1, 1) := by decide +kernel
theorem dX5_minutes_13 : decode cX5_minutes 13 = .ok (.ldc2_w 147, 3) := by decide +kernel
theorem dX5_minutes_16 : decode cX5_minutes 16 = .ok (.invokestatic 54, 3) := by decide +kernel
theorem dX5_minutes_19 : decode cX5_minutes 19 = .ok (.ifCond .ne 6, 3) := by decide +kernel
theorem dX5_minutes_22 : decode cX5_minutes 22 = .ok (.ldc 64, 2) := by decide +kernel
theorem dX5_minutes_24 : decode cX5_minutes 24 = .ok (.ireturn, 1) := by decide +kernel
theorem dX5_minutes_25 : decode cX5_minutes 25 = .ok (.aload_n 0, 1) := by decide +kernel
theorem dX5_minutes_26 : decode cX5_minutes 26 = .ok (.getfield 19, 3) := by decide +kernel
theorem dX5_minutes_29 : decode cX5_minutes 29 = .ok (.iconst 3, 1) := by decide +kernel
theorem dX5_minutes_30 : decode cX5_minutes 30 = .ok (.iaload, 1) := by decide +kernel
theorem dX5_minutes_31 : decode cX5_minutes 31 = .ok (.iload_n 1, 1) := by decide +kernel
theorem dX5_minutes_32 : decode cX5_minutes 32 = .ok (.iadd, 1) := by decide +kernel
theorem dX5_minutes_33 : decode cX5_minutes 33 = .ok (.sipush 999, 3) := by decide +kernel
theorem dX5_minutes_36 : decode cX5_minutes 36 = .ok (.if_icmp .le 6, 3) := by decide +kernel
theorem dX5_minutes_39 : decode cX5_minutes 39 = .ok (.ldc 81, 2) := by decide +kernel
theorem dX5_minutes_41 : decode cX5_minutes 41 = .ok (.ireturn, 1) := by decide +kernel
theorem dX5_minutes_42 : decode cX5_minutes 42 = .ok (.iconst 0, 1) := by decide +kernel
theorem dX5_minutes_43 : decode cX5_minutes 43 = .ok (.istore_n 2, 1) := by decide +kernel
theorem dX5_minutes_44 : decode cX5_minutes 44 = .ok (.iload_n 2, 1) := by decide +kernel
theorem dX5_minutes_45 : decode cX5_minutes 45 = .ok (.iload_n 1, 1) := by decide +kernel
theorem dX5_minutes_46 : decode cX5_minutes 46 = .ok (.if_icmp .ge 17, 3) := by decide +kernel
theorem dX5_minutes_49 : decode cX5_minutes 49 = .ok (.aload_n 0, 1) := by decide +kernel
theorem dX5_minutes_50 : decode cX5_minutes 50 = .ok (.invokevirtual 149, 3) := by decide +kernel
theorem dX5_minutes_53 : decode cX5_minutes 53 = .ok (.aload_n 0, 1) := by decide +kernel
theorem dX5_minutes_54 : decode cX5_minutes 54 = .ok (.invokevirtual 152, 3) := by decide +kernel
theorem dX5_minutes_57 : decode cX5_minutes 57 = .ok (.iinc 2 1, 3) := by decide +kernel
theorem dX5_minutes_60 : decode cX5_minutes 60 = .ok (.goto (-16), 3) := by decide +kernel
theorem dX5_minutes_63 : decode cX5_minutes 63 = .ok (.aload_n 0, 1) := by decide +kernel
theorem dX5_minutes_64 : decode cX5_minutes 64 = .ok (.getfield 19, 3) := by decide +kernel
theorem dX5_minutes_67 : decode cX5_minutes 67 = .ok (.iconst 5, 1) := by decide +kernel
theorem dX5_minutes_68 : decode cX5_minutes 68 = .ok (.iaload, 1) := by decide +kernel
theorem dX5_minutes_69 : decode cX5_minutes 69 = .ok (.ireturn, 1) := by decide +kernel
theorem dX5_talk_0 : decode cX5_talk 0 = .ok (.aload_n 0, 1) := by decide +kernel
theorem dX5_talk_1 : decode cX5_talk 1 = .ok (.iload_n 1, 1) := by decide +kernel
theorem dX5_talk_2 : decode cX5_talk 2 = .ok (.invokevirtual 155, 3) := by decide +kernel
theorem dX5_talk_5 : decode cX5_talk 5 = .ok (.ifCond .eq 15, 3) := by decide +kernel
theorem dX5_talk_8 : decode cX5_talk 8 = .ok (.iload_n 2, 1) := by decide +kernel
theorem dX5_talk_9 : decode cX5_talk 9 = .ok (.i2l, 1) := by decide +kernel
theorem dX5_talk_10 : decode cX5_talk 10 = .ok (.lconst 0, 1) := by decide +kernel
theorem dX5_talk_11 : decode cX5_talk 11 = .ok (.ldc2_w 158, 3) := by decide +kernel
theorem dX5_talk_14 : decode cX5_talk 14 = .ok (.invokestatic 54, 3) := by decide +kernel
theorem dX5_talk_17 : decode cX5_talk 17 = .ok (.ifCond .ne 6, 3) := by decide +kernel
theorem dX5_talk_20 : decode cX5_talk 20 = .ok (.ldc 64, 2) := by decide +kernel
theorem dX5_talk_22 : decode cX5_talk 22 = .ok (.ireturn, 1) := by decide +kernel
theorem dX5_talk_23 : decode cX5_talk 23 = .ok (.aload_n 0, 1) := by decide +kernel
theorem dX5_talk_24 : decode cX5_talk 24 = .ok (.invokevirtual 149, 3) := by decide +kernel
theorem dX5_talk_27 : decode cX5_talk 27 = .ok (.aload_n 0, 1) := by decide +kernel
theorem dX5_talk_28 : decode cX5_talk 28 = .ok (.getfield 19, 3) := by decide +kernel
theorem dX5_talk_31 : decode cX5_talk 31 = .ok (.bipush 13, 2) := by decide +kernel
theorem dX5_talk_33 : decode cX5_talk 33 = .ok (.iload_n 1, 1) := by decide +kernel
theorem dX5_talk_34 : decode cX5_talk 34 = .ok (.iadd, 1) := by decide +kernel
theorem dX5_talk_35 : decode cX5_talk 35 = .ok (.iaload, 1) := by decide +kernel
theorem dX5_talk_36 : decode cX5_talk 36 = .ok (.istore_n 3, 1) := by decide +kernel
theorem dX5_talk_37 : decode cX5_talk 37 = .ok (.aload_n 0, 1) := by decide +kernel
theorem dX5_talk_38 : decode cX5_talk 38 = .ok (.getfield 19, 3) := by decide +kernel
theorem dX5_talk_41 : decode cX5_talk 41 = .ok (.bipush 13, 2) := by decide +kernel
theorem dX5_talk_43 : decode cX5_talk 43 = .ok (.iload_n 1, 1) := by decide +kernel
theorem dX5_talk_44 : decode cX5_talk 44 = .ok (.iadd, 1) := by decide +kernel
theorem dX5_talk_45 : decode cX5_talk 45 = .ok (.iload_n 2, 1) := by decide +kernel
theorem dX5_talk_46 : decode cX5_talk 46 = .ok (.iastore, 1) := by decide +kernel
theorem dX5_talk_47 : decode cX5_talk 47 = .ok (.iload_n 3, 1) := by decide +kernel
theorem dX5_talk_48 : decode cX5_talk 48 = .ok (.ireturn, 1) := by decide +kernel
theorem dX5_hush_0 : decode cX5_hush 0 = .ok (.aload_n 0, 1) := by decide +kernel
theorem dX5_hush_1 : decode cX5_hush 1 = .ok (.iload_n 1, 1) := by decide +kernel
theorem dX5_hush_2 : decode cX5_hush 2 = .ok (.invokevirtual 155, 3) := by decide +kernel
theorem dX5_hush_5 : decode cX5_hush 5 = .ok (.ifCond .eq 13, 3) := by decide +kernel
theorem dX5_hush_8 : decode cX5_hush 8 = .ok (.iload_n 2, 1) := by decide +kernel
theorem dX5_hush_9 : decode cX5_hush 9 = .ok (.i2l, 1) := by decide +kernel
theorem dX5_hush_10 : decode cX5_hush 10 = .ok (.lconst 0, 1) := by decide +kernel
theorem dX5_hush_11 : decode cX5_hush 11 = .ok (.lconst 1, 1) := by decide +kernel
theorem dX5_hush_12 : decode cX5_hush 12 = .ok (.invokestatic 54, 3) := by decide +kernel
theorem dX5_hush_15 : decode cX5_hush 15 = .ok (.ifCond .ne 6, 3) := by decide +kernel
theorem dX5_hush_18 : decode cX5_hush 18 = .ok (.ldc 64, 2) := by decide +kernel
theorem dX5_hush_20 : decode cX5_hush 20 = .ok (.ireturn, 1) := by decide +kernel
theorem dX5_hush_21 : decode cX5_hush 21 = .ok (.aload_n 0, 1) := by decide +kernel
theorem dX5_hush_22 : decode cX5_hush 22 = .ok (.getfield 19, 3) := by decide +kernel
theorem dX5_hush_25 : decode cX5_hush 25 = .ok (.iconst 4, 1) := by decide +kernel
theorem dX5_hush_26 : decode cX5_hush 26 = .ok (.iaload, 1) := by decide +kernel
theorem dX5_hush_27 : decode cX5_hush 27 = .ok (.iload_n 1, 1) := by decide +kernel
theorem dX5_hush_28 : decode cX5_hush 28 = .ok (.invokestatic 139, 3) := by decide +kernel
theorem dX5_hush_31 : decode cX5_hush 31 = .ok (.iload_n 2, 1) := by decide +kernel
theorem dX5_hush_32 : decode cX5_hush 32 = .ok (.iconst 1, 1) := by decide +kernel
theorem dX5_hush_33 : decode cX5_hush 33 = .ok (.if_icmp .ne 7, 3) := by decide +kernel
theorem dX5_hush_36 : decode cX5_hush 36 = .ok (.iconst 1, 1) := by decide +kernel
theorem dX5_hush_37 : decode cX5_hush 37 = .ok (.goto 4, 3) := by decide +kernel
theorem dX5_hush_40 : decode cX5_hush 40 = .ok (.iconst 0, 1) := by decide +kernel
theorem dX5_hush_41 : decode cX5_hush 41 = .ok (.if_icmp .ne 6, 3) := by decide +kernel
theorem dX5_hush_44 : decode cX5_hush 44 = .ok (.ldc 146, 2) := by decide +kernel
theorem dX5_hush_46 : decode cX5_hush 46 = .ok (.ireturn, 1) := by decide +kernel
theorem dX5_hush_47 : decode cX5_hush 47 = .ok (.aload_n 0, 1) := by decide +kernel
theorem dX5_hush_48 : decode cX5_hush 48 = .ok (.invokevirtual 149, 3) := by decide +kernel
theorem dX5_hush_51 : decode cX5_hush 51 = .ok (.aload_n 0, 1) := by decide +kernel
theorem dX5_hush_52 : decode cX5_hush 52 = .ok (.getfield 19, 3) := by decide +kernel
theorem dX5_hush_55 : decode cX5_hush 55 = .ok (.iconst 4, 1) := by decide +kernel
theorem dX5_hush_56 : decode cX5_hush 56 = .ok (.dup2, 1) := by decide +kernel
theorem dX5_hush_57 : decode cX5_hush 57 = .ok (.iaload, 1) := by decide +kernel
theorem dX5_hush_58 : decode cX5_hush 58 = .ok (.iconst 1, 1) := by decide +kernel
theorem dX5_hush_59 : decode cX5_hush 59 = .ok (.iload_n 1, 1) := by decide +kernel
theorem dX5_hush_60 : decode cX5_hush 60 = .ok (.ishl, 1) := by decide +kernel
theorem dX5_hush_61 : decode cX5_hush 61 = .ok (.ixor, 1) := by decide +kernel
theorem dX5_hush_62 : decode cX5_hush 62 = .ok (.iastore, 1) := by decide +kernel
theorem dX5_hush_63 : decode cX5_hush 63 = .ok (.aload_n 0, 1) := by decide +kernel
theorem dX5_hush_64 : decode cX5_hush 64 = .ok (.getfield 19, 3) := by decide +kernel
theorem dX5_hush_67 : decode cX5_hush 67 = .ok (.iconst 4, 1) := by decide +kernel
theorem dX5_hush_68 : decode cX5_hush 68 = .ok (.iaload, 1) := by decide +kernel
theorem dX5_hush_69 : decode cX5_hush 69 = .ok (.ireturn, 1) := by decide +kernel
theorem dX5_bars_0 : decode cX5_bars 0 = .ok (.aload_n 0, 1) := by decide +kernel
theorem dX5_bars_1 : decode cX5_bars 1 = .ok (.iload_n 1, 1) := by decide +kernel
theorem dX5_bars_2 : decode cX5_bars 2 = .ok (.invokevirtual 155, 3) := by decide +kernel
theorem dX5_bars_5 : decode cX5_bars 5 = .ok (.ifCond .eq 15, 3) := by decide +kernel
theorem dX5_bars_8 : decode cX5_bars 8 = .ok (.iload_n 2, 1) := by decide +kernel
theorem dX5_bars_9 : decode cX5_bars 9 = .ok (.i2l, 1) := by decide +kernel
theorem dX5_bars_10 : decode cX5_bars 10 = .ok (.lconst 0, 1) := by decide +kernel
theorem dX5_bars_11 : decode cX5_bars 11 = .ok (.ldc2_w 160, 3) := by decide +kernel
theorem dX5_bars_14 : decode cX5_bars 14 = .ok (.invokestatic 54, 3) := by decide +kernel
theorem dX5_bars_17 : decode cX5_bars 17 = .ok (.ifCond .ne 6, 3) := by decide +kernel
theorem dX5_bars_20 : decode cX5_bars 20 = .ok (.ldc 64, 2) := by decide +kernel
theorem dX5_bars_22 : decode cX5_bars 22 = .ok (.ireturn, 1) := by decide +kernel
theorem dX5_bars_23 : decode cX5_bars 23 = .ok (.aload_n 0, 1) := by decide +kernel
theorem dX5_bars_24 : decode cX5_bars 24 = .ok (.invokevirtual 149, 3) := by decide +kernel
theorem dX5_bars_27 : decode cX5_bars 27 = .ok (.aload_n 0, 1) := by decide +kernel
theorem dX5_bars_28 : decode cX5_bars 28 = .ok (.getfield 19, 3) := by decide +kernel
theorem dX5_bars_31 : decode cX5_bars 31 = .ok (.bipush 41, 2) := by decide +kernel
theorem dX5_bars_33 : decode cX5_bars 33 = .ok (.iload_n 1, 1) := by decide +kernel
theorem dX5_bars_34 : decode cX5_bars 34 = .ok (.iadd, 1) := by decide +kernel
theorem dX5_bars_35 : decode cX5_bars 35 = .ok (.iaload, 1) := by decide +kernel
theorem dX5_bars_36 : decode cX5_bars 36 = .ok (.istore_n 3, 1) := by decide +kernel
theorem dX5_bars_37 : decode cX5_bars 37 = .ok (.aload_n 0, 1) := by decide +kernel
theorem dX5_bars_38 : decode cX5_bars 38 = .ok (.getfield 19, 3) := by decide +kernel
theorem dX5_bars_41 : decode cX5_bars 41 = .ok (.bipush 27, 2) := by decide +kernel
theorem dX5_bars_43 : decode cX5_bars 43 = .ok (.iload_n 1, 1) := by decide +kernel
theorem dX5_bars_44 : decode cX5_bars 44 = .ok (.iadd, 1) := by decide +kernel
theorem dX5_bars_45 : decode cX5_bars 45 = .ok (.iload_n 2, 1) := by decide +kernel
theorem dX5_bars_46 : decode cX5_bars 46 = .ok (.iastore, 1) := by decide +kernel
theorem dX5_bars_47 : decode cX5_bars 47 = .ok (.aload_n 0, 1) := by decide +kernel
theorem dX5_bars_48 : decode cX5_bars 48 = .ok (.getfield 19, 3) := by decide +kernel
theorem dX5_bars_51 : decode cX5_bars 51 = .ok (.bipush 41, 2) := by decide +kernel
theorem dX5_bars_53 : decode cX5_bars 53 = .ok (.iload_n 1, 1) := by decide +kernel
theorem dX5_bars_54 : decode cX5_bars 54 = .ok (.iadd, 1) := by decide +kernel
theorem dX5_bars_55 : decode cX5_bars 55 = .ok (.iconst 0, 1) := by decide +kernel
theorem dX5_bars_56 : decode cX5_bars 56 = .ok (.iastore, 1) := by decide +kernel
theorem dX5_bars_57 : decode cX5_bars 57 = .ok (.iload_n 3, 1) := by decide +kernel
theorem dX5_bars_58 : decode cX5_bars 58 = .ok (.ireturn, 1) := by decide +kernel
theorem dX5_letDown_0 : decode cX5_letDown 0 = .ok (.aload_n 0, 1) := by decide +kernel
theorem dX5_letDown_1 : decode cX5_letDown 1 = .ok (.getfield 132, 3) := by decide +kernel
theorem dX5_letDown_4 : decode cX5_letDown 4 = .ok (.ifCond .ne 6, 3) := by decide +kernel
theorem dX5_letDown_7 : decode cX5_letDown 7 = .ok (.ldc 146, 2) := by decide +kernel
theorem dX5_letDown_9 : decode cX5_letDown 9 = .ok (.ireturn, 1) := by decide +kernel
theorem dX5_letDown_10 : decode cX5_letDown 10 = .ok (.iload_n 1, 1) := by decide +kernel
theorem dX5_letDown_11 : decode cX5_letDown 11 = .ok (.i2l, 1) := by decide +kernel
theorem dX5_letDown_12 : decode cX5_letDown 12 = .ok (.lconst 1, 1) := by decide +kernel
theorem dX5_letDown_13 : decode cX5_letDown 13 = .ok (.ldc2_w 162, 3) := by decide +kernel
theorem dX5_letDown_16 : decode cX5_letDown 16 = .ok (.invokestatic 54, 3) := by decide +kernel
theorem dX5_letDown_19 : decode cX5_letDown 19 = .ok (.ifCond .ne 6, 3) := by decide +kernel
theorem dX5_letDown_22 : decode cX5_letDown 22 = .ok (.ldc 64, 2) := by decide +kernel
theorem dX5_letDown_24 : decode cX5_letDown 24 = .ok (.ireturn, 1) := by decide +kernel
theorem dX5_letDown_25 : decode cX5_letDown 25 = .ok (.aload_n 0, 1) := by decide +kernel
theorem dX5_letDown_26 : decode cX5_letDown 26 = .ok (.invokevirtual 149, 3) := by decide +kernel
theorem dX5_letDown_29 : decode cX5_letDown 29 = .ok (.aload_n 0, 1) := by decide +kernel
theorem dX5_letDown_30 : decode cX5_letDown 30 = .ok (.iload_n 1, 1) := by decide +kernel
theorem dX5_letDown_31 : decode cX5_letDown 31 = .ok (.invokevirtual 164, 3) := by decide +kernel
theorem dX5_letDown_34 : decode cX5_letDown 34 = .ok (.aload_n 0, 1) := by decide +kernel
theorem dX5_letDown_35 : decode cX5_letDown 35 = .ok (.getfield 19, 3) := by decide +kernel
theorem dX5_letDown_38 : decode cX5_letDown 38 = .ok (.iconst 5, 1) := by decide +kernel
theorem dX5_letDown_39 : decode cX5_letDown 39 = .ok (.iaload, 1) := by decide +kernel
theorem dX5_letDown_40 : decode cX5_letDown 40 = .ok (.ireturn, 1) := by decide +kernel
theorem dX5_house_0 : decode cX5_house 0 = .ok (.aload_n 0, 1) := by decide +kernel
theorem dX5_house_1 : decode cX5_house 1 = .ok (.iload_n 1, 1) := by decide +kernel
theorem dX5_house_2 : decode cX5_house 2 = .ok (.invokevirtual 155, 3) := by decide +kernel
theorem dX5_house_5 : decode cX5_house 5 = .ok (.ifCond .ne 6, 3) := by decide +kernel
theorem dX5_house_8 : decode cX5_house 8 = .ok (.ldc 64, 2) := by decide +kernel
theorem dX5_house_10 : decode cX5_house 10 = .ok (.ireturn, 1) := by decide +kernel
theorem dX5_house_11 : decode cX5_house 11 = .ok (.iload_n 2, 1) := by decide +kernel
theorem dX5_house_12 : decode cX5_house 12 = .ok (.tableswitch 119 0 6 #[44, 54, 64, 74, 84, 94, 100], 44) := by decide +kernel
theorem dX5_house_56 : decode cX5_house 56 = .ok (.aload_n 0, 1) := by decide +kernel
theorem dX5_house_57 : decode cX5_house 57 = .ok (.getfield 19, 3) := by decide +kernel
theorem dX5_house_60 : decode cX5_house 60 = .ok (.bipush 13, 2) := by decide +kernel
theorem dX5_house_62 : decode cX5_house 62 = .ok (.iload_n 1, 1) := by decide +kernel
theorem dX5_house_63 : decode cX5_house 63 = .ok (.iadd, 1) := by decide +kernel
theorem dX5_house_64 : decode cX5_house 64 = .ok (.iaload, 1) := by decide +kernel
theorem dX5_house_65 : decode cX5_house 65 = .ok (.ireturn, 1) := by decide +kernel
theorem dX5_house_66 : decode cX5_house 66 = .ok (.aload_n 0, 1) := by decide +kernel
theorem dX5_house_67 : decode cX5_house 67 = .ok (.getfield 19, 3) := by decide +kernel
theorem dX5_house_70 : decode cX5_house 70 = .ok (.bipush 20, 2) := by decide +kernel
theorem dX5_house_72 : decode cX5_house 72 = .ok (.iload_n 1, 1) := by decide +kernel
theorem dX5_house_73 : decode cX5_house 73 = .ok (.iadd, 1) := by decide +kernel
theorem dX5_house_74 : decode cX5_house 74 = .ok (.iaload, 1) := by decide +kernel
theorem dX5_house_75 : decode cX5_house 75 = .ok (.ireturn, 1) := by decide +kernel
theorem dX5_house_76 : decode cX5_house 76 = .ok (.aload_n 0, 1) := by decide +kernel
theorem dX5_house_77 : decode cX5_house 77 = .ok (.getfield 19, 3) := by decide +kernel
theorem dX5_house_80 : decode cX5_house 80 = .ok (.bipush 27, 2) := by decide +kernel
theorem dX5_house_82 : decode cX5_house 82 = .ok (.iload_n 1, 1) := by decide +kernel
theorem dX5_house_83 : decode cX5_house 83 = .ok (.iadd, 1) := by decide +kernel
theorem dX5_house_84 : decode cX5_house 84 = .ok (.iaload, 1) := by decide +kernel
theorem dX5_house_85 : decode cX5_house 85 = .ok (.ireturn, 1) := by decide +kernel
theorem dX5_house_86 : decode cX5_house 86 = .ok (.aload_n 0, 1) := by decide +kernel
theorem dX5_house_87 : decode cX5_house 87 = .ok (.getfield 19, 3) := by decide +kernel
theorem dX5_house_90 : decode cX5_house 90 = .ok (.bipush 34, 2) := by decide +kernel
theorem dX5_house_92 : decode cX5_house 92 = .ok (.iload_n 1, 1) := by decide +kernel
theorem dX5_house_93 : decode cX5_house 93 = .ok (.iadd, 1) := by decide +kernel
theorem dX5_house_94 : decode cX5_house 94 = .ok (.iaload, 1) := by decide +kernel
theorem dX5_house_95 : decode cX5_house 95 = .ok (.ireturn, 1) := by decide +kernel
theorem dX5_house_96 : decode cX5_house 96 = .ok (.aload_n 0, 1) := by decide +kernel
theorem dX5_house_97 : decode cX5_house 97 = .ok (.getfield 19, 3) := by decide +kernel
theorem dX5_house_100 : decode cX5_house 100 = .ok (.bipush 41, 2) := by decide +kernel
theorem dX5_house_102 : decode cX5_house 102 = .ok (.iload_n 1, 1) := by decide +kernel
theorem dX5_house_103 : decode cX5_house 103 = .ok (.iadd, 1) := by decide +kernel
theorem dX5_house_104 : decode cX5_house 104 = .ok (.iaload, 1) := by decide +kernel
theorem dX5_house_105 : decode cX5_house 105 = .ok (.ireturn, 1) := by decide +kernel
theorem dX5_house_106 : decode cX5_house 106 = .ok (.aload_n 0, 1) := by decide +kernel
theorem dX5_house_107 : decode cX5_house 107 = .ok (.iload_n 1, 1) := by decide +kernel
theorem dX5_house_108 : decode cX5_house 108 = .ok (.invokevirtual 143, 3) := by decide +kernel
theorem dX5_house_111 : decode cX5_house 111 = .ok (.ireturn, 1) := by decide +kernel
theorem dX5_house_112 : decode cX5_house 112 = .ok (.aload_n 0, 1) := by decide +kernel
theorem dX5_house_113 : decode cX5_house 113 = .ok (.getfield 19, 3) := by decide +kernel
theorem dX5_house_116 : decode cX5_house 116 = .ok (.iconst 4, 1) := by decide +kernel
theorem dX5_house_117 : decode cX5_house 117 = .ok (.iaload, 1) := by decide +kernel
theorem dX5_house_118 : decode cX5_house 118 = .ok (.iload_n 1, 1) := by decide +kernel
theorem dX5_house_119 : decode cX5_house 119 = .ok (.invokestatic 139, 3) := by decide +kernel
theorem dX5_house_122 : decode cX5_house 122 = .ok (.ifCond .eq 7, 3) := by decide +kernel
theorem dX5_house_125 : decode cX5_house 125 = .ok (.iconst 1, 1) := by decide +kernel
theorem dX5_house_126 : decode cX5_house 126 = .ok (.goto 4, 3) := by decide +kernel
theorem dX5_house_129 : decode cX5_house 129 = .ok (.iconst 0, 1) := by decide +kernel
theorem dX5_house_130 : decode cX5_house 130 = .ok (.ireturn, 1) := by decide +kernel
theorem dX5_house_131 : decode cX5_house 131 = .ok (.ldc 64, 2) := by decide +kernel
theorem dX5_house_133 : decode cX5_house 133 = .ok (.ireturn, 1) := by decide +kernel
theorem dX5_stand_0 : decode cX5_stand 0 = .ok (.aload_n 0, 1) := by decide +kernel
theorem dX5_stand_1 : decode cX5_stand 1 = .ok (.getfield 132, 3) := by decide +kernel
theorem dX5_stand_4 : decode cX5_stand 4 = .ok (.ifCond .ne 6, 3) := by decide +kernel
theorem dX5_stand_7 : decode cX5_stand 7 = .ok (.ldc 146, 2) := by decide +kernel
theorem dX5_stand_9 : decode cX5_stand 9 = .ok (.ireturn, 1) := by decide +kernel
theorem dX5_stand_10 : decode cX5_stand 10 = .ok (.iload_n 1, 1) := by decide +kernel
theorem dX5_stand_11 : decode cX5_stand 11 = .ok (.tableswitch 74 0 4 #[33, 40, 53, 60, 67], 33) := by decide +kernel
theorem dX5_stand_44 : decode cX5_stand 44 = .ok (.aload_n 0, 1) := by decide +kernel
theorem dX5_stand_45 : decode cX5_stand 45 = .ok (.getfield 19, 3) := by decide +kernel
theorem dX5_stand_48 : decode cX5_stand 48 = .ok (.iconst 5, 1) := by decide +kernel
theorem dX5_stand_49 : decode cX5_stand 49 = .ok (.iaload, 1) := by decide +kernel
theorem dX5_stand_50 : decode cX5_stand 50 = .ok (.ireturn, 1) := by decide +kernel
theorem dX5_stand_51 : decode cX5_stand 51 = .ok (.aload_n 0, 1) := by decide +kernel
theorem dX5_stand_52 : decode cX5_stand 52 = .ok (.invokevirtual 168, 3) := by decide +kernel
theorem dX5_stand_55 : decode cX5_stand 55 = .ok (.ifCond .eq 7, 3) := by decide +kernel
theorem dX5_stand_58 : decode cX5_stand 58 = .ok (.iconst 1, 1) := by decide +kernel
theorem dX5_stand_59 : decode cX5_stand 59 = .ok (.goto 4, 3) := by decide +kernel
theorem dX5_stand_62 : decode cX5_stand 62 = .ok (.iconst 0, 1) := by decide +kernel
theorem dX5_stand_63 : decode cX5_stand 63 = .ok (.ireturn, 1) := by decide +kernel
theorem dX5_stand_64 : decode cX5_stand 64 = .ok (.aload_n 0, 1) := by decide +kernel
theorem dX5_stand_65 : decode cX5_stand 65 = .ok (.getfield 19, 3) := by decide +kernel
theorem dX5_stand_68 : decode cX5_stand 68 = .ok (.iconst 4, 1) := by decide +kernel
theorem dX5_stand_69 : decode cX5_stand 69 = .ok (.iaload, 1) := by decide +kernel
theorem dX5_stand_70 : decode cX5_stand 70 = .ok (.ireturn, 1) := by decide +kernel
theorem dX5_stand_71 : decode cX5_stand 71 = .ok (.aload_n 0, 1) := by decide +kernel
theorem dX5_stand_72 : decode cX5_stand 72 = .ok (.bipush 41, 2) := by decide +kernel
theorem dX5_stand_74 : decode cX5_stand 74 = .ok (.invokevirtual 171, 3) := by decide +kernel
theorem dX5_stand_77 : decode cX5_stand 77 = .ok (.ireturn, 1) := by decide +kernel
theorem dX5_stand_78 : decode cX5_stand 78 = .ok (.aload_n 0, 1) := by decide +kernel
theorem dX5_stand_79 : decode cX5_stand 79 = .ok (.bipush 34, 2) := by decide +kernel
theorem dX5_stand_81 : decode cX5_stand 81 = .ok (.invokevirtual 171, 3) := by decide +kernel
theorem dX5_stand_84 : decode cX5_stand 84 = .ok (.ireturn, 1) := by decide +kernel
theorem dX5_stand_85 : decode cX5_stand 85 = .ok (.ldc 64, 2) := by decide +kernel
theorem dX5_stand_87 : decode cX5_stand 87 = .ok (.ireturn, 1) := by decide +kernel
theorem dX5_putAside_0 : decode cX5_putAside 0 = .ok (.iconst 0, 1) := by decide +kernel
theorem dX5_putAside_1 : decode cX5_putAside 1 = .ok (.istore_n 1, 1) := by decide +kernel
theorem dX5_putAside_2 : decode cX5_putAside 2 = .ok (.iload_n 1, 1) := by decide +kernel
theorem dX5_putAside_3 : decode cX5_putAside 3 = .ok (.bipush 48, 2) := by decide +kernel
theorem dX5_putAside_5 : decode cX5_putAside 5 = .ok (.if_icmp .ge 21, 3) := by decide +kernel
theorem dX5_putAside_8 : decode cX5_putAside 8 = .ok (.aload_n 0, 1) := by decide +kernel
theorem dX5_putAside_9 : decode cX5_putAside 9 = .ok (.getfield 34, 3) := by decide +kernel
theorem dX5_putAside_12 : decode cX5_putAside 12 = .ok (.iload_n 1, 1) := by decide +kernel
theorem dX5_putAside_13 : decode cX5_putAside 13 = .ok (.aload_n 0, 1) := by decide +kernel
theorem dX5_putAside_14 : decode cX5_putAside 14 = .ok (.getfield 19, 3) := by decide +kernel
theorem dX5_putAside_17 : decode cX5_putAside 17 = .ok (.iload_n 1, 1) := by decide +kernel
theorem dX5_putAside_18 : decode cX5_putAside 18 = .ok (.iaload, 1) := by decide +kernel
theorem dX5_putAside_19 : decode cX5_putAside 19 = .ok (.iastore, 1) := by decide +kernel
theorem dX5_putAside_20 : decode cX5_putAside 20 = .ok (.iinc 1 1, 3) := by decide +kernel
theorem dX5_putAside_23 : decode cX5_putAside 23 = .ok (.goto (-21), 3) := by decide +kernel
theorem dX5_putAside_26 : decode cX5_putAside 26 = .ok (.return_, 1) := by decide +kernel
theorem dX5_takeBack_0 : decode cX5_takeBack 0 = .ok (.iconst 0, 1) := by decide +kernel
theorem dX5_takeBack_1 : decode cX5_takeBack 1 = .ok (.istore_n 1, 1) := by decide +kernel
theorem dX5_takeBack_2 : decode cX5_takeBack 2 = .ok (.iload_n 1, 1) := by decide +kernel
theorem dX5_takeBack_3 : decode cX5_takeBack 3 = .ok (.bipush 48, 2) := by decide +kernel
theorem dX5_takeBack_5 : decode cX5_takeBack 5 = .ok (.if_icmp .ge 21, 3) := by decide +kernel
theorem dX5_takeBack_8 : decode cX5_takeBack 8 = .ok (.aload_n 0, 1) := by decide +kernel
theorem dX5_takeBack_9 : decode cX5_takeBack 9 = .ok (.getfield 19, 3) := by decide +kernel
theorem dX5_takeBack_12 : decode cX5_takeBack 12 = .ok (.iload_n 1, 1) := by decide +kernel
theorem dX5_takeBack_13 : decode cX5_takeBack 13 = .ok (.aload_n 0, 1) := by decide +kernel
theorem dX5_takeBack_14 : decode cX5_takeBack 14 = .ok (.getfield 34, 3) := by decide +kernel
theorem dX5_takeBack_17 : decode cX5_takeBack 17 = .ok (.iload_n 1, 1) := by decide +kernel
theorem dX5_takeBack_18 : decode cX5_takeBack 18 = .ok (.iaload, 1) := by decide +kernel
theorem dX5_takeBack_19 : decode cX5_takeBack 19 = .ok (.iastore, 1) := by decide +kernel
theorem dX5_takeBack_20 : decode cX5_takeBack 20 = .ok (.iinc 1 1, 3) := by decide +kernel
theorem dX5_takeBack_23 : decode cX5_takeBack 23 = .ok (.goto (-21), 3) := by decide +kernel
theorem dX5_takeBack_26 : decode cX5_takeBack 26 = .ok (.return_, 1) := by decide +kernel
theorem dX5_goOn_0 : decode cX5_goOn 0 = .ok (.iconst 0, 1) := by decide +kernel
theorem dX5_goOn_1 : decode cX5_goOn 1 = .ok (.istore_n 2, 1) := by decide +kernel
theorem dX5_goOn_2 : decode cX5_goOn 2 = .ok (.iload_n 2, 1) := by decide +kernel
theorem dX5_goOn_3 : decode cX5_goOn 3 = .ok (.iload_n 1, 1) := by decide +kernel
theorem dX5_goOn_4 : decode cX5_goOn 4 = .ok (.if_icmp .ge 13, 3) := by decide +kernel
theorem dX5_goOn_7 : decode cX5_goOn 7 = .ok (.aload_n 0, 1) := by decide +kernel
theorem dX5_goOn_8 : decode cX5_goOn 8 = .ok (.invokevirtual 152, 3) := by decide +kernel
theorem dX5_goOn_11 : decode cX5_goOn 11 = .ok (.iinc 2 1, 3) := by decide +kernel
theorem dX5_goOn_14 : decode cX5_goOn 14 = .ok (.goto (-12), 3) := by decide +kernel
theorem dX5_goOn_17 : decode cX5_goOn 17 = .ok (.return_, 1) := by decide +kernel
theorem dX5_isWhat_0 : decode cX5_isWhat 0 = .ok (.iload_n 0, 1) := by decide +kernel
theorem dX5_isWhat_1 : decode cX5_isWhat 1 = .ok (.i2l, 1) := by decide +kernel
theorem dX5_isWhat_2 : decode cX5_isWhat 2 = .ok (.lconst 0, 1) := by decide +kernel
theorem dX5_isWhat_3 : decode cX5_isWhat 3 = .ok (.lconst 1, 1) := by decide +kernel
theorem dX5_isWhat_4 : decode cX5_isWhat 4 = .ok (.invokestatic 54, 3) := by decide +kernel
theorem dX5_isWhat_7 : decode cX5_isWhat 7 = .ok (.ireturn, 1) := by decide +kernel
theorem dX5_ahead_0 : decode cX5_ahead 0 = .ok (.aload_n 0, 1) := by decide +kernel
theorem dX5_ahead_1 : decode cX5_ahead 1 = .ok (.iload_n 1, 1) := by decide +kernel
theorem dX5_ahead_2 : decode cX5_ahead 2 = .ok (.invokevirtual 155, 3) := by decide +kernel
theorem dX5_ahead_5 : decode cX5_ahead 5 = .ok (.ifCond .eq 15, 3) := by decide +kernel
theorem dX5_ahead_8 : decode cX5_ahead 8 = .ok (.iload_n 2, 1) := by decide +kernel
theorem dX5_ahead_9 : decode cX5_ahead 9 = .ok (.i2l, 1) := by decide +kernel
theorem dX5_ahead_10 : decode cX5_ahead 10 = .ok (.lconst 0, 1) := by decide +kernel
theorem dX5_ahead_11 : decode cX5_ahead 11 = .ok (.ldc2_w 162, 3) := by decide +kernel
theorem dX5_ahead_14 : decode cX5_ahead 14 = .ok (.invokestatic 54, 3) := by decide +kernel
theorem dX5_ahead_17 : decode cX5_ahead 17 = .ok (.ifCond .ne 6, 3) := by decide +kernel
theorem dX5_ahead_20 : decode cX5_ahead 20 = .ok (.ldc 64, 2) := by decide +kernel
theorem dX5_ahead_22 : decode cX5_ahead 22 = .ok (.ireturn, 1) := by decide +kernel
theorem dX5_ahead_23 : decode cX5_ahead 23 = .ok (.aload_n 0, 1) := by decide +kernel
theorem dX5_ahead_24 : decode cX5_ahead 24 = .ok (.invokevirtual 174, 3) := by decide +kernel
theorem dX5_ahead_27 : decode cX5_ahead 27 = .ok (.aload_n 0, 1) := by decide +kernel
theorem dX5_ahead_28 : decode cX5_ahead 28 = .ok (.iload_n 2, 1) := by decide +kernel
theorem dX5_ahead_29 : decode cX5_ahead 29 = .ok (.invokevirtual 177, 3) := by decide +kernel
theorem dX5_ahead_32 : decode cX5_ahead 32 = .ok (.aload_n 0, 1) := by decide +kernel
theorem dX5_ahead_33 : decode cX5_ahead 33 = .ok (.getfield 19, 3) := by decide +kernel
theorem dX5_ahead_36 : decode cX5_ahead 36 = .ok (.bipush 34, 2) := by decide +kernel
theorem dX5_ahead_38 : decode cX5_ahead 38 = .ok (.iload_n 1, 1) := by decide +kernel
theorem dX5_ahead_39 : decode cX5_ahead 39 = .ok (.iadd, 1) := by decide +kernel
theorem dX5_ahead_40 : decode cX5_ahead 40 = .ok (.iaload, 1) := by decide +kernel
theorem dX5_ahead_41 : decode cX5_ahead 41 = .ok (.istore_n 3, 1) := by decide +kernel
theorem dX5_ahead_42 : decode cX5_ahead 42 = .ok (.aload_n 0, 1) := by decide +kernel
theorem dX5_ahead_43 : decode cX5_ahead 43 = .ok (.invokevirtual 180, 3) := by decide +kernel
theorem dX5_ahead_46 : decode cX5_ahead 46 = .ok (.iload_n 3, 1) := by decide +kernel
theorem dX5_ahead_47 : decode cX5_ahead 47 = .ok (.ireturn, 1) := by decide +kernel
theorem dX5_pond_0 : decode cX5_pond 0 = .ok (.aload_n 0, 1) := by decide +kernel
theorem dX5_pond_1 : decode cX5_pond 1 = .ok (.getfield 132, 3) := by decide +kernel
theorem dX5_pond_4 : decode cX5_pond 4 = .ok (.ifCond .ne 6, 3) := by decide +kernel
theorem dX5_pond_7 : decode cX5_pond 7 = .ok (.ldc 146, 2) := by decide +kernel
theorem dX5_pond_9 : decode cX5_pond 9 = .ok (.ireturn, 1) := by decide +kernel
theorem dX5_pond_10 : decode cX5_pond 10 = .ok (.iload_n 1, 1) := by decide +kernel
theorem dX5_pond_11 : decode cX5_pond 11 = .ok (.i2l, 1) := by decide +kernel
theorem dX5_pond_12 : decode cX5_pond 12 = .ok (.lconst 0, 1) := by decide +kernel
theorem dX5_pond_13 : decode cX5_pond 13 = .ok (.ldc2_w 162, 3) := by decide +kernel
theorem dX5_pond_16 : decode cX5_pond 16 = .ok (.invokestatic 54, 3) := by decide +kernel
theorem dX5_pond_19 : decode cX5_pond 19 = .ok (.ifCond .eq 10, 3) := by decide +kernel
theorem dX5_pond_22 : decode cX5_pond 22 = .ok (.iload_n 2, 1) := by decide +kernel
theorem dX5_pond_23 : decode cX5_pond 23 = .ok (.invokestatic 183, 3) := by decide +kernel
theorem dX5_pond_26 : decode cX5_pond 26 = .ok (.ifCond .ne 6, 3) := by decide +kernel
theorem dX5_pond_29 : decode cX5_pond 29 = .ok (.ldc 64, 2) := by decide +kernel
theorem dX5_pond_31 : decode cX5_pond 31 = .ok (.ireturn, 1) := by decide +kernel
theorem dX5_pond_32 : decode cX5_pond 32 = .ok (.aload_n 0, 1) := by decide +kernel
theorem dX5_pond_33 : decode cX5_pond 33 = .ok (.invokevirtual 174, 3) := by decide +kernel
theorem dX5_pond_36 : decode cX5_pond 36 = .ok (.aload_n 0, 1) := by decide +kernel
theorem dX5_pond_37 : decode cX5_pond 37 = .ok (.iload_n 1, 1) := by decide +kernel
theorem dX5_pond_38 : decode cX5_pond 38 = .ok (.invokevirtual 177, 3) := by decide +kernel
theorem dX5_pond_41 : decode cX5_pond 41 = .ok (.iload_n 2, 1) := by decide +kernel
theorem dX5_pond_42 : decode cX5_pond 42 = .ok (.ifCond .ne 12, 3) := by decide +kernel
theorem dX5_pond_45 : decode cX5_pond 45 = .ok (.aload_n 0, 1) := by decide +kernel
theorem dX5_pond_46 : decode cX5_pond 46 = .ok (.getfield 19, 3) := by decide +kernel
theorem dX5_pond_49 : decode cX5_pond 49 = .ok (.iconst 5, 1) := by decide +kernel
theorem dX5_pond_50 : decode cX5_pond 50 = .ok (.iaload, 1) := by decide +kernel
theorem dX5_pond_51 : decode cX5_pond 51 = .ok (.goto 9, 3) := by decide +kernel
theorem dX5_pond_54 : decode cX5_pond 54 = .ok (.aload_n 0, 1) := by decide +kernel
theorem dX5_pond_55 : decode cX5_pond 55 = .ok (.bipush 41, 2) := by decide +kernel
theorem dX5_pond_57 : decode cX5_pond 57 = .ok (.invokevirtual 171, 3) := by decide +kernel
theorem dX5_pond_60 : decode cX5_pond 60 = .ok (.istore_n 3, 1) := by decide +kernel
theorem dX5_pond_61 : decode cX5_pond 61 = .ok (.aload_n 0, 1) := by decide +kernel
theorem dX5_pond_62 : decode cX5_pond 62 = .ok (.invokevirtual 180, 3) := by decide +kernel
theorem dX5_pond_65 : decode cX5_pond 65 = .ok (.iload_n 3, 1) := by decide +kernel
theorem dX5_pond_66 : decode cX5_pond 66 = .ok (.ireturn, 1) := by decide +kernel
theorem dX5_over_0 : decode cX5_over 0 = .ok (.aload_n 0, 1) := by decide +kernel
theorem dX5_over_1 : decode cX5_over 1 = .ok (.getfield 132, 3) := by decide +kernel
theorem dX5_over_4 : decode cX5_over 4 = .ok (.ifCond .ne 6, 3) := by decide +kernel
theorem dX5_over_7 : decode cX5_over 7 = .ok (.ldc 146, 2) := by decide +kernel
theorem dX5_over_9 : decode cX5_over 9 = .ok (.ireturn, 1) := by decide +kernel
theorem dX5_over_10 : decode cX5_over 10 = .ok (.aload_n 0, 1) := by decide +kernel
theorem dX5_over_11 : decode cX5_over 11 = .ok (.invokevirtual 174, 3) := by decide +kernel
theorem dX5_over_14 : decode cX5_over 14 = .ok (.iconst 0, 1) := by decide +kernel
theorem dX5_over_15 : decode cX5_over 15 = .ok (.istore_n 1, 1) := by decide +kernel
theorem dX5_over_16 : decode cX5_over 16 = .ok (.aload_n 0, 1) := by decide +kernel
theorem dX5_over_17 : decode cX5_over 17 = .ok (.invokevirtual 168, 3) := by decide +kernel
theorem dX5_over_20 : decode cX5_over 20 = .ok (.ifCond .ne 20, 3) := by decide +kernel
theorem dX5_over_23 : decode cX5_over 23 = .ok (.iload_n 1, 1) := by decide +kernel
theorem dX5_over_24 : decode cX5_over 24 = .ok (.sipush 200, 3) := by decide +kernel
theorem dX5_over_27 : decode cX5_over 27 = .ok (.if_icmp .ge 13, 3) := by decide +kernel
theorem dX5_over_30 : decode cX5_over 30 = .ok (.aload_n 0, 1) := by decide +kernel
theorem dX5_over_31 : decode cX5_over 31 = .ok (.invokevirtual 152, 3) := by decide +kernel
theorem dX5_over_34 : decode cX5_over 34 = .ok (.iinc 1 1, 3) := by decide +kernel
theorem dX5_over_37 : decode cX5_over 37 = .ok (.goto (-21), 3) := by decide +kernel
theorem dX5_over_40 : decode cX5_over 40 = .ok (.aload_n 0, 1) := by decide +kernel
theorem dX5_over_41 : decode cX5_over 41 = .ok (.invokevirtual 168, 3) := by decide +kernel
theorem dX5_over_44 : decode cX5_over 44 = .ok (.istore_n 2, 1) := by decide +kernel
theorem dX5_over_45 : decode cX5_over 45 = .ok (.aload_n 0, 1) := by decide +kernel
theorem dX5_over_46 : decode cX5_over 46 = .ok (.invokevirtual 180, 3) := by decide +kernel
theorem dX5_over_49 : decode cX5_over 49 = .ok (.iload_n 2, 1) := by decide +kernel
theorem dX5_over_50 : decode cX5_over 50 = .ok (.ifCond .eq 7, 3) := by decide +kernel
theorem dX5_over_53 : decode cX5_over 53 = .ok (.iload_n 1, 1) := by decide +kernel
theorem dX5_over_54 : decode cX5_over 54 = .ok (.goto 5, 3) := by decide +kernel
theorem dX5_over_57 : decode cX5_over 57 = .ok (.ldc 186, 2) := by decide +kernel
theorem dX5_over_59 : decode cX5_over 59 = .ok (.ireturn, 1) := by decide +kernel
theorem dX5_fullNow_0 : decode cX5_fullNow 0 = .ok (.ldc 186, 2) := by decide +kernel
theorem dX5_fullNow_2 : decode cX5_fullNow 2 = .ok (.istore_n 1, 1) := by decide +kernel
theorem dX5_fullNow_3 : decode cX5_fullNow 3 = .ok (.aload_n 0, 1) := by decide +kernel
theorem dX5_fullNow_4 : decode cX5_fullNow 4 = .ok (.getfield 19, 3) := by decide +kernel
theorem dX5_fullNow_7 : decode cX5_fullNow 7 = .ok (.iconst 2, 1) := by decide +kernel
theorem dX5_fullNow_8 : decode cX5_fullNow 8 = .ok (.iaload, 1) := by decide +kernel
theorem dX5_fullNow_9 : decode cX5_fullNow 9 = .ok (.iconst 1, 1) := by decide +kernel
theorem dX5_fullNow_10 : decode cX5_fullNow 10 = .ok (.isub, 1) := by decide +kernel
theorem dX5_fullNow_11 : decode cX5_fullNow 11 = .ok (.istore_n 2, 1) := by decide +kernel
theorem dX5_fullNow_12 : decode cX5_fullNow 12 = .ok (.iload_n 2, 1) := by decide +kernel
theorem dX5_fullNow_13 : decode cX5_fullNow 13 = .ok (.ifCond .lt 48, 3) := by decide +kernel
theorem dX5_fullNow_16 : decode cX5_fullNow 16 = .ok (.aload_n 0, 1) := by decide +kernel
theorem dX5_fullNow_17 : decode cX5_fullNow 17 = .ok (.getfield 19, 3) := by decide +kernel
theorem dX5_fullNow_20 : decode cX5_fullNow 20 = .ok (.bipush 27, 2) := by decide +kernel
theorem dX5_fullNow_22 : decode cX5_fullNow 22 = .ok (.iload_n 2, 1) := by decide +kernel
theorem dX5_fullNow_23 : decode cX5_fullNow 23 = .ok (.iadd, 1) := by decide +kernel
theorem dX5_fullNow_24 : decode cX5_fullNow 24 = .ok (.iaload, 1) := by decide +kernel
theorem dX5_fullNow_25 : decode cX5_fullNow 25 = .ok (.ifCond .le 28, 3) := by decide +kernel
theorem dX5_fullNow_28 : decode cX5_fullNow 28 = .ok (.aload_n 0, 1) := by decide +kernel
theorem dX5_fullNow_29 : decode cX5_fullNow 29 = .ok (.getfield 19, 3) := by decide +kernel
theorem dX5_fullNow_32 : decode cX5_fullNow 32 = .ok (.bipush 41, 2) := by decide +kernel
theorem dX5_fullNow_34 : decode cX5_fullNow 34 = .ok (.iload_n 2, 1) := by decide +kernel
theorem dX5_fullNow_35 : decode cX5_fullNow 35 = .ok (.iadd, 1) := by decide +kernel
theorem dX5_fullNow_36 : decode cX5_fullNow 36 = .ok (.iaload, 1) := by decide +kernel
theorem dX5_fullNow_37 : decode cX5_fullNow 37 = .ok (.aload_n 0, 1) := by decide +kernel
theorem dX5_fullNow_38 : decode cX5_fullNow 38 = .ok (.getfield 19, 3) := by decide +kernel
theorem dX5_fullNow_41 : decode cX5_fullNow 41 = .ok (.bipush 27, 2) := by decide +kernel
theorem dX5_fullNow_43 : decode cX5_fullNow 43 = .ok (.iload_n 2, 1) := by decide +kernel
theorem dX5_fullNow_44 : decode cX5_fullNow 44 = .ok (.iadd, 1) := by decide +kernel
theorem dX5_fullNow_45 : decode cX5_fullNow 45 = .ok (.iaload, 1) := by decide +kernel
theorem dX5_fullNow_46 : decode cX5_fullNow 46 = .ok (.if_icmp .ne 7, 3) := by decide +kernel
theorem dX5_fullNow_49 : decode cX5_fullNow 49 = .ok (.iload_n 2, 1) := by decide +kernel
theorem dX5_fullNow_50 : decode cX5_fullNow 50 = .ok (.goto 4, 3) := by decide +kernel
theorem dX5_fullNow_53 : decode cX5_fullNow 53 = .ok (.iload_n 1, 1) := by decide +kernel
theorem dX5_fullNow_54 : decode cX5_fullNow 54 = .ok (.istore_n 1, 1) := by decide +kernel
theorem dX5_fullNow_55 : decode cX5_fullNow 55 = .ok (.iinc 2 (-1), 3) := by decide +kernel
theorem dX5_fullNow_58 : decode cX5_fullNow 58 = .ok (.goto (-46), 3) := by decide +kernel
theorem dX5_fullNow_61 : decode cX5_fullNow 61 = .ok (.iload_n 1, 1) := by decide +kernel
theorem dX5_fullNow_62 : decode cX5_fullNow 62 = .ok (.ireturn, 1) := by decide +kernel
theorem dX5_full_0 : decode cX5_full 0 = .ok (.aload_n 0, 1) := by decide +kernel
theorem dX5_full_1 : decode cX5_full 1 = .ok (.getfield 132, 3) := by decide +kernel
theorem dX5_full_4 : decode cX5_full 4 = .ok (.ifCond .ne 6, 3) := by decide +kernel
theorem dX5_full_7 : decode cX5_full 7 = .ok (.ldc 146, 2) := by decide +kernel
theorem dX5_full_9 : decode cX5_full 9 = .ok (.ireturn, 1) := by decide +kernel
theorem dX5_full_10 : decode cX5_full 10 = .ok (.iload_n 1, 1) := by decide +kernel
theorem dX5_full_11 : decode cX5_full 11 = .ok (.invokestatic 183, 3) := by decide +kernel
theorem dX5_full_14 : decode cX5_full 14 = .ok (.ifCond .ne 6, 3) := by decide +kernel
theorem dX5_full_17 : decode cX5_full 17 = .ok (.ldc 64, 2) := by decide +kernel
theorem dX5_full_19 : decode cX5_full 19 = .ok (.ireturn, 1) := by decide +kernel
theorem dX5_full_20 : decode cX5_full 20 = .ok (.aload_n 0, 1) := by decide +kernel
theorem dX5_full_21 : decode cX5_full 21 = .ok (.invokevirtual 174, 3) := by decide +kernel
theorem dX5_full_24 : decode cX5_full 24 = .ok (.iconst 0, 1) := by decide +kernel
theorem dX5_full_25 : decode cX5_full 25 = .ok (.istore_n 2, 1) := by decide +kernel
theorem dX5_full_26 : decode cX5_full 26 = .ok (.aload_n 0, 1) := by decide +kernel
theorem dX5_full_27 : decode cX5_full 27 = .ok (.invokevirtual 187, 3) := by decide +kernel
theorem dX5_full_30 : decode cX5_full 30 = .ok (.ifCond .ge 19, 3) := by decide +kernel
theorem dX5_full_33 : decode cX5_full 33 = .ok (.iload_n 2, 1) := by decide +kernel
theorem dX5_full_34 : decode cX5_full 34 = .ok (.bipush 99, 2) := by decide +kernel
theorem dX5_full_36 : decode cX5_full 36 = .ok (.if_icmp .ge 13, 3) := by decide +kernel
theorem dX5_full_39 : decode cX5_full 39 = .ok (.aload_n 0, 1) := by decide +kernel
theorem dX5_full_40 : decode cX5_full 40 = .ok (.invokevirtual 152, 3) := by decide +kernel
theorem dX5_full_43 : decode cX5_full 43 = .ok (.iinc 2 1, 3) := by decide +kernel
theorem dX5_full_46 : decode cX5_full 46 = .ok (.goto (-20), 3) := by decide +kernel
theorem dX5_full_49 : decode cX5_full 49 = .ok (.aload_n 0, 1) := by decide +kernel
theorem dX5_full_50 : decode cX5_full 50 = .ok (.invokevirtual 187, 3) := by decide +kernel
theorem dX5_full_53 : decode cX5_full 53 = .ok (.istore_n 3, 1) := by decide +kernel
theorem dX5_full_54 : decode cX5_full 54 = .ok (.aload_n 0, 1) := by decide +kernel
theorem dX5_full_55 : decode cX5_full 55 = .ok (.invokevirtual 180, 3) := by decide +kernel
theorem dX5_full_58 : decode cX5_full 58 = .ok (.iload_n 3, 1) := by decide +kernel
theorem dX5_full_59 : decode cX5_full 59 = .ok (.ifCond .lt 7, 3) := by decide +kernel
theorem dX5_full_62 : decode cX5_full 62 = .ok (.iload_n 1, 1) := by decide +kernel
theorem dX5_full_63 : decode cX5_full 63 = .ok (.ifCond .ne 7, 3) := by decide +kernel
theorem dX5_full_66 : decode cX5_full 66 = .ok (.iload_n 3, 1) := by decide +kernel
theorem dX5_full_67 : decode cX5_full 67 = .ok (.goto 4, 3) := by decide +kernel
theorem dX5_full_70 : decode cX5_full 70 = .ok (.iload_n 2, 1) := by decide +kernel
theorem dX5_full_71 : decode cX5_full 71 = .ok (.ireturn, 1) := by decide +kernel
theorem dX5_most_0 : decode cX5_most 0 = .ok (.aload_n 0, 1) := by decide +kernel
theorem dX5_most_1 : decode cX5_most 1 = .ok (.iload_n 1, 1) := by decide +kernel
theorem dX5_most_2 : decode cX5_most 2 = .ok (.invokevirtual 155, 3) := by decide +kernel
theorem dX5_most_5 : decode cX5_most 5 = .ok (.ifCond .eq 22, 3) := by decide +kernel
theorem dX5_most_8 : decode cX5_most 8 = .ok (.iload_n 2, 1) := by decide +kernel
theorem dX5_most_9 : decode cX5_most 9 = .ok (.i2l, 1) := by decide +kernel
theorem dX5_most_10 : decode cX5_most 10 = .ok (.lconst 0, 1) := by decide +kernel
theorem dX5_most_11 : decode cX5_most 11 = .ok (.ldc2_w 162, 3) := by decide +kernel
theorem dX5_most_14 : decode cX5_most 14 = .ok (.invokestatic 54, 3) := by decide +kernel
theorem dX5_most_17 : decode cX5_most 17 = .ok (.ifCond .eq 10, 3) := by decide +kernel
theorem dX5_most_20 : decode cX5_most 20 = .ok (.iload_n 3, 1) := by decide +kernel
theorem dX5_most_21 : decode cX5_most 21 = .ok (.invokestatic 183, 3) := by decide +kernel
theorem dX5_most_24 : decode cX5_most 24 = .ok (.ifCond .ne 6, 3) := by decide +kernel
theorem dX5_most_27 : decode cX5_most 27 = .ok (.ldc 64, 2) := by decide +kernel
theorem dX5_most_29 : decode cX5_most 29 = .ok (.ireturn, 1) := by decide +kernel
theorem dX5_most_30 : decode cX5_most 30 = .ok (.aload_n 0, 1) := by decide +kernel
theorem dX5_most_31 : decode cX5_most 31 = .ok (.invokevirtual 174, 3) := by decide +kernel
theorem dX5_most_34 : decode cX5_most 34 = .ok (.aload_n 0, 1) := by decide +kernel
theorem dX5_most_35 : decode cX5_most 35 = .ok (.getfield 19, 3) := by decide +kernel
theorem dX5_most_38 : decode cX5_most 38 = .ok (.bipush 34, 2) := by decide +kernel
theorem dX5_most_40 : decode cX5_most 40 = .ok (.iload_n 1, 1) := by decide +kernel
theorem dX5_most_41 : decode cX5_most 41 = .ok (.iadd, 1) := by decide +kernel
theorem dX5_most_42 : decode cX5_most 42 = .ok (.iaload, 1) := by decide +kernel
theorem dX5_most_43 : decode cX5_most 43 = .ok (.istore 4, 2) := by decide +kernel
theorem dX5_most_45 : decode cX5_most 45 = .ok (.iconst 0, 1) := by decide +kernel
theorem dX5_most_46 : decode cX5_most 46 = .ok (.istore 5, 2) := by decide +kernel
theorem dX5_most_48 : decode cX5_most 48 = .ok (.iconst 1, 1) := by decide +kernel
theorem dX5_most_49 : decode cX5_most 49 = .ok (.istore 6, 2) := by decide +kernel
theorem dX5_most_51 : decode cX5_most 51 = .ok (.iload 6, 2) := by decide +kernel
theorem dX5_most_53 : decode cX5_most 53 = .ok (.iload_n 2, 1) := by decide +kernel
theorem dX5_most_54 : decode cX5_most 54 = .ok (.if_icmp .gt 66, 3) := by decide +kernel
theorem dX5_most_57 : decode cX5_most 57 = .ok (.aload_n 0, 1) := by decide +kernel
theorem dX5_most_58 : decode cX5_most 58 = .ok (.invokevirtual 152, 3) := by decide +kernel
theorem dX5_most_61 : decode cX5_most 61 = .ok (.aload_n 0, 1) := by decide +kernel
theorem dX5_most_62 : decode cX5_most 62 = .ok (.getfield 19, 3) := by decide +kernel
theorem dX5_most_65 : decode cX5_most 65 = .ok (.bipush 34, 2) := by decide +kernel
theorem dX5_most_67 : decode cX5_most 67 = .ok (.iload_n 1, 1) := by decide +kernel
theorem dX5_most_68 : decode cX5_most 68 = .ok (.iadd, 1) := by decide +kernel
theorem dX5_most_69 : decode cX5_most 69 = .ok (.iaload, 1) := by decide +kernel
theorem dX5_most_70 : decode cX5_most 70 = .ok (.iload 4, 2) := by decide +kernel
theorem dX5_most_72 : decode cX5_most 72 = .ok (.if_icmp .le 8, 3) := by decide +kernel
theorem dX5_most_75 : decode cX5_most 75 = .ok (.iload 6, 2) := by decide +kernel
theorem dX5_most_77 : decode cX5_most 77 = .ok (.goto 5, 3) := by decide +kernel
theorem dX5_most_80 : decode cX5_most 80 = .ok (.iload 5, 2) := by decide +kernel
theorem dX5_most_82 : decode cX5_most 82 = .ok (.istore 5, 2) := by decide +kernel
theorem dX5_most_84 : decode cX5_most 84 = .ok (.aload_n 0, 1) := by decide +kernel
theorem dX5_most_85 : decode cX5_most 85 = .ok (.getfield 19, 3) := by decide +kernel
theorem dX5_most_88 : decode cX5_most 88 = .ok (.bipush 34, 2) := by decide +kernel
theorem dX5_most_90 : decode cX5_most 90 = .ok (.iload_n 1, 1) := by decide +kernel
theorem dX5_most_91 : decode cX5_most 91 = .ok (.iadd, 1) := by decide +kernel
theorem dX5_most_92 : decode cX5_most 92 = .ok (.iaload, 1) := by decide +kernel
theorem dX5_most_93 : decode cX5_most 93 = .ok (.iload 4, 2) := by decide +kernel
theorem dX5_most_95 : decode cX5_most 95 = .ok (.if_icmp .le 15, 3) := by decide +kernel
theorem dX5_most_98 : decode cX5_most 98 = .ok (.aload_n 0, 1) := by decide +kernel
theorem dX5_most_99 : decode cX5_most 99 = .ok (.getfield 19, 3) := by decide +kernel
theorem dX5_most_102 : decode cX5_most 102 = .ok (.bipush 34, 2) := by decide +kernel
theorem dX5_most_104 : decode cX5_most 104 = .ok (.iload_n 1, 1) := by decide +kernel
theorem dX5_most_105 : decode cX5_most 105 = .ok (.iadd, 1) := by decide +kernel
theorem dX5_most_106 : decode cX5_most 106 = .ok (.iaload, 1) := by decide +kernel
theorem dX5_most_107 : decode cX5_most 107 = .ok (.goto 5, 3) := by decide +kernel
theorem dX5_most_110 : decode cX5_most 110 = .ok (.iload 4, 2) := by decide +kernel
theorem dX5_most_112 : decode cX5_most 112 = .ok (.istore 4, 2) := by decide +kernel
theorem dX5_most_114 : decode cX5_most 114 = .ok (.iinc 6 1, 3) := by decide +kernel
theorem dX5_most_117 : decode cX5_most 117 = .ok (.goto (-66), 3) := by decide +kernel
theorem dX5_most_120 : decode cX5_most 120 = .ok (.aload_n 0, 1) := by decide +kernel
theorem dX5_most_121 : decode cX5_most 121 = .ok (.invokevirtual 180, 3) := by decide +kernel
theorem dX5_most_124 : decode cX5_most 124 = .ok (.iload_n 3, 1) := by decide +kernel
theorem dX5_most_125 : decode cX5_most 125 = .ok (.ifCond .ne 8, 3) := by decide +kernel
theorem dX5_most_128 : decode cX5_most 128 = .ok (.iload 4, 2) := by decide +kernel
theorem dX5_most_130 : decode cX5_most 130 = .ok (.goto 5, 3) := by decide +kernel
theorem dX5_most_133 : decode cX5_most 133 = .ok (.iload 5, 2) := by decide +kernel
theorem dX5_most_135 : decode cX5_most 135 = .ok (.ireturn, 1) := by decide +kernel
theorem dX5_quietBy_0 : decode cX5_quietBy 0 = .ok (.aload_n 0, 1) := by decide +kernel
theorem dX5_quietBy_1 : decode cX5_quietBy 1 = .ok (.invokevirtual 174, 3) := by decide +kernel
theorem dX5_quietBy_4 : decode cX5_quietBy 4 = .ok (.iconst 1, 1) := by decide +kernel
theorem dX5_quietBy_5 : decode cX5_quietBy 5 = .ok (.aload_n 0, 1) := by decide +kernel
theorem dX5_quietBy_6 : decode cX5_quietBy 6 = .ok (.getfield 19, 3) := by decide +kernel
theorem dX5_quietBy_9 : decode cX5_quietBy 9 = .ok (.iconst 2, 1) := by decide +kernel
theorem dX5_quietBy_10 : decode cX5_quietBy 10 = .ok (.iaload, 1) := by decide +kernel
theorem dX5_quietBy_11 : decode cX5_quietBy 11 = .ok (.ishl, 1) := by decide +kernel
theorem dX5_quietBy_12 : decode cX5_quietBy 12 = .ok (.iconst 1, 1) := by decide +kernel
theorem dX5_quietBy_13 : decode cX5_quietBy 13 = .ok (.isub, 1) := by decide +kernel
theorem dX5_quietBy_14 : decode cX5_quietBy 14 = .ok (.aload_n 0, 1) := by decide +kernel
theorem dX5_quietBy_15 : decode cX5_quietBy 15 = .ok (.getfield 19, 3) := by decide +kernel
theorem dX5_quietBy_18 : decode cX5_quietBy 18 = .ok (.iconst 4, 1) := by decide +kernel
theorem dX5_quietBy_19 : decode cX5_quietBy 19 = .ok (.iaload, 1) := by decide +kernel
theorem dX5_quietBy_20 : decode cX5_quietBy 20 = .ok (.iconst (-1), 1) := by decide +kernel
theorem dX5_quietBy_21 : decode cX5_quietBy 21 = .ok (.ixor, 1) := by decide +kernel
theorem dX5_quietBy_22 : decode cX5_quietBy 22 = .ok (.iand, 1) := by decide +kernel
theorem dX5_quietBy_23 : decode cX5_quietBy 23 = .ok (.istore_n 3, 1) := by decide +kernel
theorem dX5_quietBy_24 : decode cX5_quietBy 24 = .ok (.ldc 186, 2) := by decide +kernel
theorem dX5_quietBy_26 : decode cX5_quietBy 26 = .ok (.istore 4, 2) := by decide +kernel
theorem dX5_quietBy_28 : decode cX5_quietBy 28 = .ok (.iconst 0, 1) := by decide +kernel
theorem dX5_quietBy_29 : decode cX5_quietBy 29 = .ok (.istore 5, 2) := by decide +kernel
theorem dX5_quietBy_31 : decode cX5_quietBy 31 = .ok (.iload 5, 2) := by decide +kernel
theorem dX5_quietBy_33 : decode cX5_quietBy 33 = .ok (.iload_n 3, 1) := by decide +kernel
theorem dX5_quietBy_34 : decode cX5_quietBy 34 = .ok (.if_icmp .gt 108, 3) := by decide +kernel
theorem dX5_quietBy_37 : decode cX5_quietBy 37 = .ok (.iload 5, 2) := by decide +kernel
theorem dX5_quietBy_39 : decode cX5_quietBy 39 = .ok (.iload_n 3, 1) := by decide +kernel
theorem dX5_quietBy_40 : decode cX5_quietBy 40 = .ok (.iconst (-1), 1) := by decide +kernel
theorem dX5_quietBy_41 : decode cX5_quietBy 41 = .ok (.ixor, 1) := by decide +kernel
theorem dX5_quietBy_42 : decode cX5_quietBy 42 = .ok (.iand, 1) := by decide +kernel
theorem dX5_quietBy_43 : decode cX5_quietBy 43 = .ok (.ifCond .ne 93, 3) := by decide +kernel
theorem dX5_quietBy_46 : decode cX5_quietBy 46 = .ok (.iload 4, 2) := by decide +kernel
theorem dX5_quietBy_48 : decode cX5_quietBy 48 = .ok (.ifCond .lt 16, 3) := by decide +kernel
theorem dX5_quietBy_51 : decode cX5_quietBy 51 = .ok (.iload 5, 2) := by decide +kernel
theorem dX5_quietBy_53 : decode cX5_quietBy 53 = .ok (.invokestatic 191, 3) := by decide +kernel
theorem dX5_quietBy_56 : decode cX5_quietBy 56 = .ok (.iload 4, 2) := by decide +kernel
theorem dX5_quietBy_58 : decode cX5_quietBy 58 = .ok (.invokestatic 191, 3) := by decide +kernel
theorem dX5_quietBy_61 : decode cX5_quietBy 61 = .ok (.if_icmp .ge 75, 3) := by decide +kernel
theorem dX5_quietBy_64 : decode cX5_quietBy 64 = .ok (.aload_n 0, 1) := by decide +kernel
theorem dX5_quietBy_65 : decode cX5_quietBy 65 = .ok (.getfield 19, 3) := by decide +kernel
theorem dX5_quietBy_68 : decode cX5_quietBy 68 = .ok (.iconst 4, 1) := by decide +kernel
theorem dX5_quietBy_69 : decode cX5_quietBy 69 = .ok (.dup2, 1) := by decide +kernel
theorem dX5_quietBy_70 : decode cX5_quietBy 70 = .ok (.iaload, 1) := by decide +kernel
theorem dX5_quietBy_71 : decode cX5_quietBy 71 = .ok (.iload 5, 2) := by decide +kernel
theorem dX5_quietBy_73 : decode cX5_quietBy 73 = .ok (.ior, 1) := by decide +kernel
theorem dX5_quietBy_74 : decode cX5_quietBy 74 = .ok (.iastore, 1) := by decide +kernel
theorem dX5_quietBy_75 : decode cX5_quietBy 75 = .ok (.aload_n 0, 1) := by decide +kernel
theorem dX5_quietBy_76 : decode cX5_quietBy 76 = .ok (.iload_n 2, 1) := by decide +kernel
theorem dX5_quietBy_77 : decode cX5_quietBy 77 = .ok (.invokevirtual 177, 3) := by decide +kernel
theorem dX5_quietBy_80 : decode cX5_quietBy 80 = .ok (.iload_n 1, 1) := by decide +kernel
theorem dX5_quietBy_81 : decode cX5_quietBy 81 = .ok (.ifCond .ge 18, 3) := by decide +kernel
theorem dX5_quietBy_84 : decode cX5_quietBy 84 = .ok (.aload_n 0, 1) := by decide +kernel
theorem dX5_quietBy_85 : decode cX5_quietBy 85 = .ok (.invokevirtual 168, 3) := by decide +kernel
theorem dX5_quietBy_88 : decode cX5_quietBy 88 = .ok (.ifCond .ne 7, 3) := by decide +kernel
theorem dX5_quietBy_91 : decode cX5_quietBy 91 = .ok (.iconst 1, 1) := by decide +kernel
theorem dX5_quietBy_92 : decode cX5_quietBy 92 = .ok (.goto 24, 3) := by decide +kernel
theorem dX5_quietBy_95 : decode cX5_quietBy 95 = .ok (.iconst 0, 1) := by decide +kernel
theorem dX5_quietBy_96 : decode cX5_quietBy 96 = .ok (.goto 20, 3) := by decide +kernel
theorem dX5_quietBy_99 : decode cX5_quietBy 99 = .ok (.aload_n 0, 1) := by decide +kernel
theorem dX5_quietBy_100 : decode cX5_quietBy 100 = .ok (.getfield 19, 3) := by decide +kernel
theorem dX5_quietBy_103 : decode cX5_quietBy 103 = .ok (.bipush 34, 2) := by decide +kernel
theorem dX5_quietBy_105 : decode cX5_quietBy 105 = .ok (.iload_n 1, 1) := by decide +kernel
theorem dX5_quietBy_106 : decode cX5_quietBy 106 = .ok (.iadd, 1) := by decide +kernel
theorem dX5_quietBy_107 : decode cX5_quietBy 107 = .ok (.iaload, 1) := by decide +kernel
theorem dX5_quietBy_108 : decode cX5_quietBy 108 = .ok (.ifCond .ne 7, 3) := by decide +kernel
theorem dX5_quietBy_111 : decode cX5_quietBy 111 = .ok (.iconst 1, 1) := by decide +kernel
theorem dX5_quietBy_112 : decode cX5_quietBy 112 = .ok (.goto 4, 3) := by decide +kernel
theorem dX5_quietBy_115 : decode cX5_quietBy 115 = .ok (.iconst 0, 1) := by decide +kernel
theorem dX5_quietBy_116 : decode cX5_quietBy 116 = .ok (.istore 6, 2) := by decide +kernel
theorem dX5_quietBy_118 : decode cX5_quietBy 118 = .ok (.iload 6, 2) := by decide +kernel
theorem dX5_quietBy_120 : decode cX5_quietBy 120 = .ok (.ifCond .eq 8, 3) := by decide +kernel
theorem dX5_quietBy_123 : decode cX5_quietBy 123 = .ok (.iload 5, 2) := by decide +kernel
theorem dX5_quietBy_125 : decode cX5_quietBy 125 = .ok (.goto 5, 3) := by decide +kernel
theorem dX5_quietBy_128 : decode cX5_quietBy 128 = .ok (.iload 4, 2) := by decide +kernel
theorem dX5_quietBy_130 : decode cX5_quietBy 130 = .ok (.istore 4, 2) := by decide +kernel
theorem dX5_quietBy_132 : decode cX5_quietBy 132 = .ok (.aload_n 0, 1) := by decide +kernel
theorem dX5_quietBy_133 : decode cX5_quietBy 133 = .ok (.invokevirtual 180, 3) := by decide +kernel
theorem dX5_quietBy_136 : decode cX5_quietBy 136 = .ok (.iinc 5 1, 3) := by decide +kernel
theorem dX5_quietBy_139 : decode cX5_quietBy 139 = .ok (.goto (-108), 3) := by decide +kernel
theorem dX5_quietBy_142 : decode cX5_quietBy 142 = .ok (.iload 4, 2) := by decide +kernel
theorem dX5_quietBy_144 : decode cX5_quietBy 144 = .ok (.ireturn, 1) := by decide +kernel
theorem dX5_hushes_0 : decode cX5_hushes 0 = .ok (.aload_n 0, 1) := by decide +kernel
theorem dX5_hushes_1 : decode cX5_hushes 1 = .ok (.iload_n 1, 1) := by decide +kernel
theorem dX5_hushes_2 : decode cX5_hushes 2 = .ok (.invokevirtual 155, 3) := by decide +kernel
theorem dX5_hushes_5 : decode cX5_hushes 5 = .ok (.ifCond .eq 22, 3) := by decide +kernel
theorem dX5_hushes_8 : decode cX5_hushes 8 = .ok (.iload_n 2, 1) := by decide +kernel
theorem dX5_hushes_9 : decode cX5_hushes 9 = .ok (.i2l, 1) := by decide +kernel
theorem dX5_hushes_10 : decode cX5_hushes 10 = .ok (.lconst 1, 1) := by decide +kernel
theorem dX5_hushes_11 : decode cX5_hushes 11 = .ok (.ldc2_w 194, 3) := by decide +kernel
theorem dX5_hushes_14 : decode cX5_hushes 14 = .ok (.invokestatic 54, 3) := by decide +kernel
theorem dX5_hushes_17 : decode cX5_hushes 17 = .ok (.ifCond .eq 10, 3) := by decide +kernel
theorem dX5_hushes_20 : decode cX5_hushes 20 = .ok (.iload_n 3, 1) := by decide +kernel
theorem dX5_hushes_21 : decode cX5_hushes 21 = .ok (.invokestatic 183, 3) := by decide +kernel
theorem dX5_hushes_24 : decode cX5_hushes 24 = .ok (.ifCond .ne 6, 3) := by decide +kernel
theorem dX5_hushes_27 : decode cX5_hushes 27 = .ok (.ldc 64, 2) := by decide +kernel
theorem dX5_hushes_29 : decode cX5_hushes 29 = .ok (.ireturn, 1) := by decide +kernel
theorem dX5_hushes_30 : decode cX5_hushes 30 = .ok (.aload_n 0, 1) := by decide +kernel
theorem dX5_hushes_31 : decode cX5_hushes 31 = .ok (.iload_n 1, 1) := by decide +kernel
theorem dX5_hushes_32 : decode cX5_hushes 32 = .ok (.iload_n 2, 1) := by decide +kernel
theorem dX5_hushes_33 : decode cX5_hushes 33 = .ok (.invokevirtual 196, 3) := by decide +kernel
theorem dX5_hushes_36 : decode cX5_hushes 36 = .ok (.istore 4, 2) := by decide +kernel
theorem dX5_hushes_38 : decode cX5_hushes 38 = .ok (.iload 4, 2) := by decide +kernel
theorem dX5_hushes_40 : decode cX5_hushes 40 = .ok (.ifCond .lt 8, 3) := by decide +kernel
theorem dX5_hushes_43 : decode cX5_hushes 43 = .ok (.iload_n 3, 1) := by decide +kernel
theorem dX5_hushes_44 : decode cX5_hushes 44 = .ok (.iconst 1, 1) := by decide +kernel
theorem dX5_hushes_45 : decode cX5_hushes 45 = .ok (.if_icmp .ne 8, 3) := by decide +kernel
theorem dX5_hushes_48 : decode cX5_hushes 48 = .ok (.iload 4, 2) := by decide +kernel
theorem dX5_hushes_50 : decode cX5_hushes 50 = .ok (.goto 8, 3) := by decide +kernel
theorem dX5_hushes_53 : decode cX5_hushes 53 = .ok (.iload 4, 2) := by decide +kernel
theorem dX5_hushes_55 : decode cX5_hushes 55 = .ok (.invokestatic 191, 3) := by decide +kernel
theorem dX5_hushes_58 : decode cX5_hushes 58 = .ok (.ireturn, 1) := by decide +kernel
theorem dX5_spares_0 : decode cX5_spares 0 = .ok (.aload_n 0, 1) := by decide +kernel
theorem dX5_spares_1 : decode cX5_spares 1 = .ok (.getfield 132, 3) := by decide +kernel
theorem dX5_spares_4 : decode cX5_spares 4 = .ok (.ifCond .ne 6, 3) := by decide +kernel
theorem dX5_spares_7 : decode cX5_spares 7 = .ok (.ldc 146, 2) := by decide +kernel
theorem dX5_spares_9 : decode cX5_spares 9 = .ok (.ireturn, 1) := by decide +kernel
theorem dX5_spares_10 : decode cX5_spares 10 = .ok (.iload_n 1, 1) := by decide +kernel
theorem dX5_spares_11 : decode cX5_spares 11 = .ok (.i2l, 1) := by decide +kernel
theorem dX5_spares_12 : decode cX5_spares 12 = .ok (.lconst 1, 1) := by decide +kernel
theorem dX5_spares_13 : decode cX5_spares 13 = .ok (.ldc2_w 194, 3) := by decide +kernel
theorem dX5_spares_16 : decode cX5_spares 16 = .ok (.invokestatic 54, 3) := by decide +kernel
theorem dX5_spares_19 : decode cX5_spares 19 = .ok (.ifCond .eq 10, 3) := by decide +kernel
theorem dX5_spares_22 : decode cX5_spares 22 = .ok (.iload_n 2, 1) := by decide +kernel
theorem dX5_spares_23 : decode cX5_spares 23 = .ok (.invokestatic 183, 3) := by decide +kernel
theorem dX5_spares_26 : decode cX5_spares 26 = .ok (.ifCond .ne 6, 3) := by decide +kernel
theorem dX5_spares_29 : decode cX5_spares 29 = .ok (.ldc 64, 2) := by decide +kernel
theorem dX5_spares_31 : decode cX5_spares 31 = .ok (.ireturn, 1) := by decide +kernel
theorem dX5_spares_32 : decode cX5_spares 32 = .ok (.aload_n 0, 1) := by decide +kernel
theorem dX5_spares_33 : decode cX5_spares 33 = .ok (.iconst (-1), 1) := by decide +kernel
theorem dX5_spares_34 : decode cX5_spares 34 = .ok (.iload_n 1, 1) := by decide +kernel
theorem dX5_spares_35 : decode cX5_spares 35 = .ok (.invokevirtual 196, 3) := by decide +kernel
theorem dX5_spares_38 : decode cX5_spares 38 = .ok (.istore_n 3, 1) := by decide +kernel
theorem dX5_spares_39 : decode cX5_spares 39 = .ok (.iload_n 3, 1) := by decide +kernel
theorem dX5_spares_40 : decode cX5_spares 40 = .ok (.ifCond .lt 8, 3) := by decide +kernel
theorem dX5_spares_43 : decode cX5_spares 43 = .ok (.iload_n 2, 1) := by decide +kernel
theorem dX5_spares_44 : decode cX5_spares 44 = .ok (.iconst 1, 1) := by decide +kernel
theorem dX5_spares_45 : decode cX5_spares 45 = .ok (.if_icmp .ne 7, 3) := by decide +kernel
theorem dX5_spares_48 : decode cX5_spares 48 = .ok (.iload_n 3, 1) := by decide +kernel
theorem dX5_spares_49 : decode cX5_spares 49 = .ok (.goto 7, 3) := by decide +kernel
theorem dX5_spares_52 : decode cX5_spares 52 = .ok (.iload_n 3, 1) := by decide +kernel
theorem dX5_spares_53 : decode cX5_spares 53 = .ok (.invokestatic 191, 3) := by decide +kernel
theorem dX5_spares_56 : decode cX5_spares 56 = .ok (.ireturn, 1) := by decide +kernel
theorem dX5_pondBy_0 : decode cX5_pondBy 0 = .ok (.aload_n 0, 1) := by decide +kernel
theorem dX5_pondBy_1 : decode cX5_pondBy 1 = .ok (.iload_n 1, 1) := by decide +kernel
theorem dX5_pondBy_2 : decode cX5_pondBy 2 = .ok (.invokevirtual 177, 3) := by decide +kernel
theorem dX5_pondBy_5 : decode cX5_pondBy 5 = .ok (.aload_n 0, 1) := by decide +kernel
theorem dX5_pondBy_6 : decode cX5_pondBy 6 = .ok (.getfield 19, 3) := by decide +kernel
theorem dX5_pondBy_9 : decode cX5_pondBy 9 = .ok (.iconst 5, 1) := by decide +kernel
theorem dX5_pondBy_10 : decode cX5_pondBy 10 = .ok (.iaload, 1) := by decide +kernel
theorem dX5_pondBy_11 : decode cX5_pondBy 11 = .ok (.istore_n 2, 1) := by decide +kernel
theorem dX5_pondBy_12 : decode cX5_pondBy 12 = .ok (.aload_n 0, 1) := by decide +kernel
theorem dX5_pondBy_13 : decode cX5_pondBy 13 = .ok (.invokevirtual 180, 3) := by decide +kernel
theorem dX5_pondBy_16 : decode cX5_pondBy 16 = .ok (.iload_n 2, 1) := by decide +kernel
theorem dX5_pondBy_17 : decode cX5_pondBy 17 = .ok (.ireturn, 1) := by decide +kernel
theorem dX5_catches_0 : decode cX5_catches 0 = .ok (.aload_n 0, 1) := by decide +kernel
theorem dX5_catches_1 : decode cX5_catches 1 = .ok (.getfield 132, 3) := by decide +kernel
theorem dX5_catches_4 : decode cX5_catches 4 = .ok (.ifCond .ne 6, 3) := by decide +kernel
theorem dX5_catches_7 : decode cX5_catches 7 = .ok (.ldc 146, 2) := by decide +kernel
theorem dX5_catches_9 : decode cX5_catches 9 = .ok (.ireturn, 1) := by decide +kernel
theorem dX5_catches_10 : decode cX5_catches 10 = .ok (.iload_n 1, 1) := by decide +kernel
theorem dX5_catches_11 : decode cX5_catches 11 = .ok (.i2l, 1) := by decide +kernel
theorem dX5_catches_12 : decode cX5_catches 12 = .ok (.lconst 1, 1) := by decide +kernel
theorem dX5_catches_13 : decode cX5_catches 13 = .ok (.ldc2_w 194, 3) := by decide +kernel
theorem dX5_catches_16 : decode cX5_catches 16 = .ok (.invokestatic 54, 3) := by decide +kernel
theorem dX5_catches_19 : decode cX5_catches 19 = .ok (.ifCond .eq 10, 3) := by decide +kernel
theorem dX5_catches_22 : decode cX5_catches 22 = .ok (.iload_n 2, 1) := by decide +kernel
theorem dX5_catches_23 : decode cX5_catches 23 = .ok (.invokestatic 183, 3) := by decide +kernel
theorem dX5_catches_26 : decode cX5_catches 26 = .ok (.ifCond .ne 6, 3) := by decide +kernel
theorem dX5_catches_29 : decode cX5_catches 29 = .ok (.ldc 64, 2) := by decide +kernel
theorem dX5_catches_31 : decode cX5_catches 31 = .ok (.ireturn, 1) := by decide +kernel
theorem dX5_catches_32 : decode cX5_catches 32 = .ok (.aload_n 0, 1) := by decide +kernel
theorem dX5_catches_33 : decode cX5_catches 33 = .ok (.invokevirtual 174, 3) := by decide +kernel
theorem dX5_catches_36 : decode cX5_catches 36 = .ok (.iconst 0, 1) := by decide +kernel
theorem dX5_catches_37 : decode cX5_catches 37 = .ok (.istore_n 3, 1) := by decide +kernel
theorem dX5_catches_38 : decode cX5_catches 38 = .ok (.ldc 199, 2) := by decide +kernel
theorem dX5_catches_40 : decode cX5_catches 40 = .ok (.istore 4, 2) := by decide +kernel
theorem dX5_catches_42 : decode cX5_catches 42 = .ok (.iconst 0, 1) := by decide +kernel
theorem dX5_catches_43 : decode cX5_catches 43 = .ok (.istore 5, 2) := by decide +kernel
theorem dX5_catches_45 : decode cX5_catches 45 = .ok (.iload 5, 2) := by decide +kernel
theorem dX5_catches_47 : decode cX5_catches 47 = .ok (.aload_n 0, 1) := by decide +kernel
theorem dX5_catches_48 : decode cX5_catches 48 = .ok (.getfield 19, 3) := by decide +kernel
theorem dX5_catches_51 : decode cX5_catches 51 = .ok (.iconst 2, 1) := by decide +kernel
theorem dX5_catches_52 : decode cX5_catches 52 = .ok (.iaload, 1) := by decide +kernel
theorem dX5_catches_53 : decode cX5_catches 53 = .ok (.if_icmp .ge 69, 3) := by decide +kernel
theorem dX5_catches_56 : decode cX5_catches 56 = .ok (.aload_n 0, 1) := by decide +kernel
theorem dX5_catches_57 : decode cX5_catches 57 = .ok (.getfield 19, 3) := by decide +kernel
theorem dX5_catches_60 : decode cX5_catches 60 = .ok (.bipush 27, 2) := by decide +kernel
theorem dX5_catches_62 : decode cX5_catches 62 = .ok (.iload 5, 2) := by decide +kernel
theorem dX5_catches_64 : decode cX5_catches 64 = .ok (.iadd, 1) := by decide +kernel
theorem dX5_catches_65 : decode cX5_catches 65 = .ok (.bipush 9, 2) := by decide +kernel
theorem dX5_catches_67 : decode cX5_catches 67 = .ok (.iastore, 1) := by decide +kernel
theorem dX5_catches_68 : decode cX5_catches 68 = .ok (.aload_n 0, 1) := by decide +kernel
theorem dX5_catches_69 : decode cX5_catches 69 = .ok (.getfield 19, 3) := by decide +kernel
theorem dX5_catches_72 : decode cX5_catches 72 = .ok (.bipush 41, 2) := by decide +kernel
theorem dX5_catches_74 : decode cX5_catches 74 = .ok (.iload 5, 2) := by decide +kernel
theorem dX5_catches_76 : decode cX5_catches 76 = .ok (.iadd, 1) := by decide +kernel
theorem dX5_catches_77 : decode cX5_catches 77 = .ok (.iconst 0, 1) := by decide +kernel
theorem dX5_catches_78 : decode cX5_catches 78 = .ok (.iastore, 1) := by decide +kernel
theorem dX5_catches_79 : decode cX5_catches 79 = .ok (.aload_n 0, 1) := by decide +kernel
theorem dX5_catches_80 : decode cX5_catches 80 = .ok (.iload_n 1, 1) := by decide +kernel
theorem dX5_catches_81 : decode cX5_catches 81 = .ok (.invokevirtual 200, 3) := by decide +kernel
theorem dX5_catches_84 : decode cX5_catches 84 = .ok (.istore 6, 2) := by decide +kernel
theorem dX5_catches_86 : decode cX5_catches 86 = .ok (.iload 6, 2) := by decide +kernel
theorem dX5_catches_88 : decode cX5_catches 88 = .ok (.iload 4, 2) := by decide +kernel
theorem dX5_catches_90 : decode cX5_catches 90 = .ok (.if_icmp .ge 8, 3) := by decide +kernel
theorem dX5_catches_93 : decode cX5_catches 93 = .ok (.iload 5, 2) := by decide +kernel
theorem dX5_catches_95 : decode cX5_catches 95 = .ok (.goto 4, 3) := by decide +kernel
theorem dX5_catches_98 : decode cX5_catches 98 = .ok (.iload_n 3, 1) := by decide +kernel
theorem dX5_catches_99 : decode cX5_catches 99 = .ok (.istore_n 3, 1) := by decide +kernel
theorem dX5_catches_100 : decode cX5_catches 100 = .ok (.iload 6, 2) := by decide +kernel
theorem dX5_catches_102 : decode cX5_catches 102 = .ok (.iload 4, 2) := by decide +kernel
theorem dX5_catches_104 : decode cX5_catches 104 = .ok (.if_icmp .ge 8, 3) := by decide +kernel
theorem dX5_catches_107 : decode cX5_catches 107 = .ok (.iload 6, 2) := by decide +kernel
theorem dX5_catches_109 : decode cX5_catches 109 = .ok (.goto 5, 3) := by decide +kernel
theorem dX5_catches_112 : decode cX5_catches 112 = .ok (.iload 4, 2) := by decide +kernel
theorem dX5_catches_114 : decode cX5_catches 114 = .ok (.istore 4, 2) := by decide +kernel
theorem dX5_catches_116 : decode cX5_catches 116 = .ok (.iinc 5 1, 3) := by decide +kernel
theorem dX5_catches_119 : decode cX5_catches 119 = .ok (.goto (-74), 3) := by decide +kernel
theorem dX5_catches_122 : decode cX5_catches 122 = .ok (.iload_n 2, 1) := by decide +kernel
theorem dX5_catches_123 : decode cX5_catches 123 = .ok (.ifCond .ne 7, 3) := by decide +kernel
theorem dX5_catches_126 : decode cX5_catches 126 = .ok (.iload_n 3, 1) := by decide +kernel
theorem dX5_catches_127 : decode cX5_catches 127 = .ok (.goto 5, 3) := by decide +kernel
theorem dX5_catches_130 : decode cX5_catches 130 = .ok (.iload 4, 2) := by decide +kernel
theorem dX5_catches_132 : decode cX5_catches 132 = .ok (.ireturn, 1) := by decide +kernel
theorem dX5_from_0 : decode cX5_from 0 = .ok (.aload_n 0, 1) := by decide +kernel
theorem dX5_from_1 : decode cX5_from 1 = .ok (.iload_n 1, 1) := by decide +kernel
theorem dX5_from_2 : decode cX5_from 2 = .ok (.invokevirtual 155, 3) := by decide +kernel
theorem dX5_from_5 : decode cX5_from 5 = .ok (.ifCond .eq 15, 3) := by decide +kernel
theorem dX5_from_8 : decode cX5_from 8 = .ok (.iload_n 2, 1) := by decide +kernel
theorem dX5_from_9 : decode cX5_from 9 = .ok (.i2l, 1) := by decide +kernel
theorem dX5_from_10 : decode cX5_from 10 = .ok (.lconst 1, 1) := by decide +kernel
theorem dX5_from_11 : decode cX5_from 11 = .ok (.ldc2_w 194, 3) := by decide +kernel
theorem dX5_from_14 : decode cX5_from 14 = .ok (.invokestatic 54, 3) := by decide +kernel
theorem dX5_from_17 : decode cX5_from 17 = .ok (.ifCond .ne 6, 3) := by decide +kernel
theorem dX5_from_20 : decode cX5_from 20 = .ok (.ldc 64, 2) := by decide +kernel
theorem dX5_from_22 : decode cX5_from 22 = .ok (.ireturn, 1) := by decide +kernel
theorem dX5_from_23 : decode cX5_from 23 = .ok (.aload_n 0, 1) := by decide +kernel
theorem dX5_from_24 : decode cX5_from 24 = .ok (.invokevirtual 174, 3) := by decide +kernel
theorem dX5_from_27 : decode cX5_from 27 = .ok (.aload_n 0, 1) := by decide +kernel
theorem dX5_from_28 : decode cX5_from 28 = .ok (.iload_n 2, 1) := by decide +kernel
theorem dX5_from_29 : decode cX5_from 29 = .ok (.invokevirtual 200, 3) := by decide +kernel
theorem dX5_from_32 : decode cX5_from 32 = .ok (.istore_n 3, 1) := by decide +kernel
theorem dX5_from_33 : decode cX5_from 33 = .ok (.aload_n 0, 1) := by decide +kernel
theorem dX5_from_34 : decode cX5_from 34 = .ok (.getfield 19, 3) := by decide +kernel
theorem dX5_from_37 : decode cX5_from 37 = .ok (.iconst 4, 1) := by decide +kernel
theorem dX5_from_38 : decode cX5_from 38 = .ok (.dup2, 1) := by decide +kernel
theorem dX5_from_39 : decode cX5_from 39 = .ok (.iaload, 1) := by decide +kernel
theorem dX5_from_40 : decode cX5_from 40 = .ok (.iconst 1, 1) := by decide +kernel
theorem dX5_from_41 : decode cX5_from 41 = .ok (.iload_n 1, 1) := by decide +kernel
theorem dX5_from_42 : decode cX5_from 42 = .ok (.ishl, 1) := by decide +kernel
theorem dX5_from_43 : decode cX5_from 43 = .ok (.ior, 1) := by decide +kernel
theorem dX5_from_44 : decode cX5_from 44 = .ok (.iastore, 1) := by decide +kernel
theorem dX5_from_45 : decode cX5_from 45 = .ok (.iload_n 3, 1) := by decide +kernel
theorem dX5_from_46 : decode cX5_from 46 = .ok (.aload_n 0, 1) := by decide +kernel
theorem dX5_from_47 : decode cX5_from 47 = .ok (.iload_n 2, 1) := by decide +kernel
theorem dX5_from_48 : decode cX5_from 48 = .ok (.invokevirtual 200, 3) := by decide +kernel
theorem dX5_from_51 : decode cX5_from 51 = .ok (.isub, 1) := by decide +kernel
theorem dX5_from_52 : decode cX5_from 52 = .ok (.sipush 1000, 3) := by decide +kernel
theorem dX5_from_55 : decode cX5_from 55 = .ok (.iadd, 1) := by decide +kernel
theorem dX5_from_56 : decode cX5_from 56 = .ok (.ireturn, 1) := by decide +kernel
theorem dX5_loud_0 : decode cX5_loud 0 = .ok (.aload_n 0, 1) := by decide +kernel
theorem dX5_loud_1 : decode cX5_loud 1 = .ok (.iload_n 1, 1) := by decide +kernel
theorem dX5_loud_2 : decode cX5_loud 2 = .ok (.invokevirtual 155, 3) := by decide +kernel
theorem dX5_loud_5 : decode cX5_loud 5 = .ok (.ifCond .eq 15, 3) := by decide +kernel
theorem dX5_loud_8 : decode cX5_loud 8 = .ok (.iload_n 2, 1) := by decide +kernel
theorem dX5_loud_9 : decode cX5_loud 9 = .ok (.i2l, 1) := by decide +kernel
theorem dX5_loud_10 : decode cX5_loud 10 = .ok (.lconst 1, 1) := by decide +kernel
theorem dX5_loud_11 : decode cX5_loud 11 = .ok (.ldc2_w 162, 3) := by decide +kernel
theorem dX5_loud_14 : decode cX5_loud 14 = .ok (.invokestatic 54, 3) := by decide +kernel
theorem dX5_loud_17 : decode cX5_loud 17 = .ok (.ifCond .ne 6, 3) := by decide +kernel
theorem dX5_loud_20 : decode cX5_loud 20 = .ok (.ldc 64, 2) := by decide +kernel
theorem dX5_loud_22 : decode cX5_loud 22 = .ok (.ireturn, 1) := by decide +kernel
theorem dX5_loud_23 : decode cX5_loud 23 = .ok (.aload_n 0, 1) := by decide +kernel
theorem dX5_loud_24 : decode cX5_loud 24 = .ok (.invokevirtual 174, 3) := by decide +kernel
theorem dX5_loud_27 : decode cX5_loud 27 = .ok (.ldc 186, 2) := by decide +kernel
theorem dX5_loud_29 : decode cX5_loud 29 = .ok (.istore_n 3, 1) := by decide +kernel
theorem dX5_loud_30 : decode cX5_loud 30 = .ok (.iconst 0, 1) := by decide +kernel
theorem dX5_loud_31 : decode cX5_loud 31 = .ok (.istore 4, 2) := by decide +kernel
theorem dX5_loud_33 : decode cX5_loud 33 = .ok (.iload 4, 2) := by decide +kernel
theorem dX5_loud_35 : decode cX5_loud 35 = .ok (.bipush 20, 2) := by decide +kernel
theorem dX5_loud_37 : decode cX5_loud 37 = .ok (.if_icmp .gt 45, 3) := by decide +kernel
theorem dX5_loud_40 : decode cX5_loud 40 = .ok (.iload_n 3, 1) := by decide +kernel
theorem dX5_loud_41 : decode cX5_loud 41 = .ok (.ifCond .ge 41, 3) := by decide +kernel
theorem dX5_loud_44 : decode cX5_loud 44 = .ok (.aload_n 0, 1) := by decide +kernel
theorem dX5_loud_45 : decode cX5_loud 45 = .ok (.getfield 19, 3) := by decide +kernel
theorem dX5_loud_48 : decode cX5_loud 48 = .ok (.bipush 13, 2) := by decide +kernel
theorem dX5_loud_50 : decode cX5_loud 50 = .ok (.iload_n 1, 1) := by decide +kernel
theorem dX5_loud_51 : decode cX5_loud 51 = .ok (.iadd, 1) := by decide +kernel
theorem dX5_loud_52 : decode cX5_loud 52 = .ok (.iload 4, 2) := by decide +kernel
theorem dX5_loud_54 : decode cX5_loud 54 = .ok (.iastore, 1) := by decide +kernel
theorem dX5_loud_55 : decode cX5_loud 55 = .ok (.aload_n 0, 1) := by decide +kernel
theorem dX5_loud_56 : decode cX5_loud 56 = .ok (.iload_n 2, 1) := by decide +kernel
theorem dX5_loud_57 : decode cX5_loud 57 = .ok (.invokevirtual 200, 3) := by decide +kernel
theorem dX5_loud_60 : decode cX5_loud 60 = .ok (.aload_n 0, 1) := by decide +kernel
theorem dX5_loud_61 : decode cX5_loud 61 = .ok (.getfield 19, 3) := by decide +kernel
theorem dX5_loud_64 : decode cX5_loud 64 = .ok (.iconst 1, 1) := by decide +kernel
theorem dX5_loud_65 : decode cX5_loud 65 = .ok (.iaload, 1) := by decide +kernel
theorem dX5_loud_66 : decode cX5_loud 66 = .ok (.if_icmp .le 8, 3) := by decide +kernel
theorem dX5_loud_69 : decode cX5_loud 69 = .ok (.iload 4, 2) := by decide +kernel
theorem dX5_loud_71 : decode cX5_loud 71 = .ok (.goto 4, 3) := by decide +kernel
theorem dX5_loud_74 : decode cX5_loud 74 = .ok (.iload_n 3, 1) := by decide +kernel
theorem dX5_loud_75 : decode cX5_loud 75 = .ok (.istore_n 3, 1) := by decide +kernel
theorem dX5_loud_76 : decode cX5_loud 76 = .ok (.iinc 4 1, 3) := by decide +kernel
theorem dX5_loud_79 : decode cX5_loud 79 = .ok (.goto (-46), 3) := by decide +kernel
theorem dX5_loud_82 : decode cX5_loud 82 = .ok (.iload_n 3, 1) := by decide +kernel
theorem dX5_loud_83 : decode cX5_loud 83 = .ok (.ireturn, 1) := by decide +kernel
theorem dX5_dry_0 : decode cX5_dry 0 = .ok (.aload_n 0, 1) := by decide +kernel
theorem dX5_dry_1 : decode cX5_dry 1 = .ok (.getfield 132, 3) := by decide +kernel
theorem dX5_dry_4 : decode cX5_dry 4 = .ok (.ifCond .ne 6, 3) := by decide +kernel
theorem dX5_dry_7 : decode cX5_dry 7 = .ok (.ldc 146, 2) := by decide +kernel
theorem dX5_dry_9 : decode cX5_dry 9 = .ok (.ireturn, 1) := by decide +kernel
theorem dX5_dry_10 : decode cX5_dry 10 = .ok (.iconst 0, 1) := by decide +kernel
theorem dX5_dry_11 : decode cX5_dry 11 = .ok (.istore_n 1, 1) := by decide +kernel
theorem dX5_dry_12 : decode cX5_dry 12 = .ok (.iconst 0, 1) := by decide +kernel
theorem dX5_dry_13 : decode cX5_dry 13 = .ok (.istore_n 2, 1) := by decide +kernel
theorem dX5_dry_14 : decode cX5_dry 14 = .ok (.iload_n 2, 1) := by decide +kernel
theorem dX5_dry_15 : decode cX5_dry 15 = .ok (.aload_n 0, 1) := by decide +kernel
theorem dX5_dry_16 : decode cX5_dry 16 = .ok (.getfield 19, 3) := by decide +kernel
theorem dX5_dry_19 : decode cX5_dry 19 = .ok (.iconst 2, 1) := by decide +kernel
theorem dX5_dry_20 : decode cX5_dry 20 = .ok (.iaload, 1) := by decide +kernel
theorem dX5_dry_21 : decode cX5_dry 21 = .ok (.if_icmp .ge 31, 3) := by decide +kernel
theorem dX5_dry_24 : decode cX5_dry 24 = .ok (.iload_n 1, 1) := by decide +kernel
theorem dX5_dry_25 : decode cX5_dry 25 = .ok (.aload_n 0, 1) := by decide +kernel
theorem dX5_dry_26 : decode cX5_dry 26 = .ok (.getfield 19, 3) := by decide +kernel
theorem dX5_dry_29 : decode cX5_dry 29 = .ok (.bipush 34, 2) := by decide +kernel
theorem dX5_dry_31 : decode cX5_dry 31 = .ok (.iload_n 2, 1) := by decide +kernel
theorem dX5_dry_32 : decode cX5_dry 32 = .ok (.iadd, 1) := by decide +kernel
theorem dX5_dry_33 : decode cX5_dry 33 = .ok (.iaload, 1) := by decide +kernel
theorem dX5_dry_34 : decode cX5_dry 34 = .ok (.ifCond .ne 9, 3) := by decide +kernel
theorem dX5_dry_37 : decode cX5_dry 37 = .ok (.iconst 1, 1) := by decide +kernel
theorem dX5_dry_38 : decode cX5_dry 38 = .ok (.iload_n 2, 1) := by decide +kernel
theorem dX5_dry_39 : decode cX5_dry 39 = .ok (.ishl, 1) := by decide +kernel
theorem dX5_dry_40 : decode cX5_dry 40 = .ok (.goto 4, 3) := by decide +kernel
theorem dX5_dry_43 : decode cX5_dry 43 = .ok (.iconst 0, 1) := by decide +kernel
theorem dX5_dry_44 : decode cX5_dry 44 = .ok (.ior, 1) := by decide +kernel
theorem dX5_dry_45 : decode cX5_dry 45 = .ok (.istore_n 1, 1) := by decide +kernel
theorem dX5_dry_46 : decode cX5_dry 46 = .ok (.iinc 2 1, 3) := by decide +kernel
theorem dX5_dry_49 : decode cX5_dry 49 = .ok (.goto (-35), 3) := by decide +kernel
theorem dX5_dry_52 : decode cX5_dry 52 = .ok (.iload_n 1, 1) := by decide +kernel
theorem dX5_dry_53 : decode cX5_dry 53 = .ok (.ireturn, 1) := by decide +kernel
theorem dX5_lag_0 : decode cX5_lag 0 = .ok (.aload_n 0, 1) := by decide +kernel
theorem dX5_lag_1 : decode cX5_lag 1 = .ok (.iload_n 1, 1) := by decide +kernel
theorem dX5_lag_2 : decode cX5_lag 2 = .ok (.invokevirtual 155, 3) := by decide +kernel
theorem dX5_lag_5 : decode cX5_lag 5 = .ok (.ifCond .ne 6, 3) := by decide +kernel
theorem dX5_lag_8 : decode cX5_lag 8 = .ok (.ldc 64, 2) := by decide +kernel
theorem dX5_lag_10 : decode cX5_lag 10 = .ok (.ireturn, 1) := by decide +kernel
theorem dX5_lag_11 : decode cX5_lag 11 = .ok (.aload_n 0, 1) := by decide +kernel
theorem dX5_lag_12 : decode cX5_lag 12 = .ok (.invokevirtual 174, 3) := by decide +kernel
theorem dX5_lag_15 : decode cX5_lag 15 = .ok (.aload_n 0, 1) := by decide +kernel
theorem dX5_lag_16 : decode cX5_lag 16 = .ok (.getfield 19, 3) := by decide +kernel
theorem dX5_lag_19 : decode cX5_lag 19 = .ok (.iconst 4, 1) := by decide +kernel
theorem dX5_lag_20 : decode cX5_lag 20 = .ok (.iconst 1, 1) := by decide +kernel
theorem dX5_lag_21 : decode cX5_lag 21 = .ok (.aload_n 0, 1) := by decide +kernel
theorem dX5_lag_22 : decode cX5_lag 22 = .ok (.getfield 19, 3) := by decide +kernel
theorem dX5_lag_25 : decode cX5_lag 25 = .ok (.iconst 2, 1) := by decide +kernel
theorem dX5_lag_26 : decode cX5_lag 26 = .ok (.iaload, 1) := by decide +kernel
theorem dX5_lag_27 : decode cX5_lag 27 = .ok (.ishl, 1) := by decide +kernel
theorem dX5_lag_28 : decode cX5_lag 28 = .ok (.iconst 1, 1) := by decide +kernel
theorem dX5_lag_29 : decode cX5_lag 29 = .ok (.isub, 1) := by decide +kernel
theorem dX5_lag_30 : decode cX5_lag 30 = .ok (.iastore, 1) := by decide +kernel
theorem dX5_lag_31 : decode cX5_lag 31 = .ok (.aload_n 0, 1) := by decide +kernel
theorem dX5_lag_32 : decode cX5_lag 32 = .ok (.getfield 19, 3) := by decide +kernel
theorem dX5_lag_35 : decode cX5_lag 35 = .ok (.iconst 5, 1) := by decide +kernel
theorem dX5_lag_36 : decode cX5_lag 36 = .ok (.iconst 0, 1) := by decide +kernel
theorem dX5_lag_37 : decode cX5_lag 37 = .ok (.iastore, 1) := by decide +kernel
theorem dX5_lag_38 : decode cX5_lag 38 = .ok (.iconst 0, 1) := by decide +kernel
theorem dX5_lag_39 : decode cX5_lag 39 = .ok (.istore_n 2, 1) := by decide +kernel
theorem dX5_lag_40 : decode cX5_lag 40 = .ok (.iload_n 2, 1) := by decide +kernel
theorem dX5_lag_41 : decode cX5_lag 41 = .ok (.aload_n 0, 1) := by decide +kernel
theorem dX5_lag_42 : decode cX5_lag 42 = .ok (.getfield 19, 3) := by decide +kernel
theorem dX5_lag_45 : decode cX5_lag 45 = .ok (.iconst 2, 1) := by decide +kernel
theorem dX5_lag_46 : decode cX5_lag 46 = .ok (.iaload, 1) := by decide +kernel
theorem dX5_lag_47 : decode cX5_lag 47 = .ok (.if_icmp .ge 46, 3) := by decide +kernel
theorem dX5_lag_50 : decode cX5_lag 50 = .ok (.aload_n 0, 1) := by decide +kernel
theorem dX5_lag_51 : decode cX5_lag 51 = .ok (.getfield 19, 3) := by decide +kernel
theorem dX5_lag_54 : decode cX5_lag 54 = .ok (.bipush 27, 2) := by decide +kernel
theorem dX5_lag_56 : decode cX5_lag 56 = .ok (.iload_n 2, 1) := by decide +kernel
theorem dX5_lag_57 : decode cX5_lag 57 = .ok (.iadd, 1) := by decide +kernel
theorem dX5_lag_58 : decode cX5_lag 58 = .ok (.iconst 0, 1) := by decide +kernel
theorem dX5_lag_59 : decode cX5_lag 59 = .ok (.iastore, 1) := by decide +kernel
theorem dX5_lag_60 : decode cX5_lag 60 = .ok (.aload_n 0, 1) := by decide +kernel
theorem dX5_lag_61 : decode cX5_lag 61 = .ok (.getfield 19, 3) := by decide +kernel
theorem dX5_lag_64 : decode cX5_lag 64 = .ok (.bipush 34, 2) := by decide +kernel
theorem dX5_lag_66 : decode cX5_lag 66 = .ok (.iload_n 2, 1) := by decide +kernel
theorem dX5_lag_67 : decode cX5_lag 67 = .ok (.iadd, 1) := by decide +kernel
theorem dX5_lag_68 : decode cX5_lag 68 = .ok (.iload_n 2, 1) := by decide +kernel
theorem dX5_lag_69 : decode cX5_lag 69 = .ok (.iload_n 1, 1) := by decide +kernel
theorem dX5_lag_70 : decode cX5_lag 70 = .ok (.if_icmp .ne 15, 3) := by decide +kernel
theorem dX5_lag_73 : decode cX5_lag 73 = .ok (.aload_n 0, 1) := by decide +kernel
theorem dX5_lag_74 : decode cX5_lag 74 = .ok (.getfield 19, 3) := by decide +kernel
theorem dX5_lag_77 : decode cX5_lag 77 = .ok (.bipush 34, 2) := by decide +kernel
theorem dX5_lag_79 : decode cX5_lag 79 = .ok (.iload_n 2, 1) := by decide +kernel
theorem dX5_lag_80 : decode cX5_lag 80 = .ok (.iadd, 1) := by decide +kernel
theorem dX5_lag_81 : decode cX5_lag 81 = .ok (.iaload, 1) := by decide +kernel
theorem dX5_lag_82 : decode cX5_lag 82 = .ok (.goto 4, 3) := by decide +kernel
theorem dX5_lag_85 : decode cX5_lag 85 = .ok (.iconst 0, 1) := by decide +kernel
theorem dX5_lag_86 : decode cX5_lag 86 = .ok (.iastore, 1) := by decide +kernel
theorem dX5_lag_87 : decode cX5_lag 87 = .ok (.iinc 2 1, 3) := by decide +kernel
theorem dX5_lag_90 : decode cX5_lag 90 = .ok (.goto (-50), 3) := by decide +kernel
theorem dX5_lag_93 : decode cX5_lag 93 = .ok (.iconst 0, 1) := by decide +kernel
theorem dX5_lag_94 : decode cX5_lag 94 = .ok (.istore_n 2, 1) := by decide +kernel
theorem dX5_lag_95 : decode cX5_lag 95 = .ok (.aload_n 0, 1) := by decide +kernel
theorem dX5_lag_96 : decode cX5_lag 96 = .ok (.getfield 19, 3) := by decide +kernel
theorem dX5_lag_99 : decode cX5_lag 99 = .ok (.iconst 5, 1) := by decide +kernel
theorem dX5_lag_100 : decode cX5_lag 100 = .ok (.iaload, 1) := by decide +kernel
theorem dX5_lag_101 : decode cX5_lag 101 = .ok (.ifCond .ne 19, 3) := by decide +kernel
theorem dX5_lag_104 : decode cX5_lag 104 = .ok (.iload_n 2, 1) := by decide +kernel
theorem dX5_lag_105 : decode cX5_lag 105 = .ok (.bipush 99, 2) := by decide +kernel
theorem dX5_lag_107 : decode cX5_lag 107 = .ok (.if_icmp .ge 13, 3) := by decide +kernel
theorem dX5_lag_110 : decode cX5_lag 110 = .ok (.aload_n 0, 1) := by decide +kernel
theorem dX5_lag_111 : decode cX5_lag 111 = .ok (.invokevirtual 152, 3) := by decide +kernel
theorem dX5_lag_114 : decode cX5_lag 114 = .ok (.iinc 2 1, 3) := by decide +kernel
theorem dX5_lag_117 : decode cX5_lag 117 = .ok (.goto (-22), 3) := by decide +kernel
theorem dX5_lag_120 : decode cX5_lag 120 = .ok (.aload_n 0, 1) := by decide +kernel
theorem dX5_lag_121 : decode cX5_lag 121 = .ok (.getfield 19, 3) := by decide +kernel
theorem dX5_lag_124 : decode cX5_lag 124 = .ok (.iconst 5, 1) := by decide +kernel
theorem dX5_lag_125 : decode cX5_lag 125 = .ok (.iaload, 1) := by decide +kernel
theorem dX5_lag_126 : decode cX5_lag 126 = .ok (.ifCond .le 7, 3) := by decide +kernel
theorem dX5_lag_129 : decode cX5_lag 129 = .ok (.iconst 1, 1) := by decide +kernel
theorem dX5_lag_130 : decode cX5_lag 130 = .ok (.goto 4, 3) := by decide +kernel
theorem dX5_lag_133 : decode cX5_lag 133 = .ok (.iconst 0, 1) := by decide +kernel
theorem dX5_lag_134 : decode cX5_lag 134 = .ok (.istore_n 3, 1) := by decide +kernel
theorem dX5_lag_135 : decode cX5_lag 135 = .ok (.aload_n 0, 1) := by decide +kernel
theorem dX5_lag_136 : decode cX5_lag 136 = .ok (.invokevirtual 180, 3) := by decide +kernel
theorem dX5_lag_139 : decode cX5_lag 139 = .ok (.iload_n 3, 1) := by decide +kernel
theorem dX5_lag_140 : decode cX5_lag 140 = .ok (.ifCond .eq 7, 3) := by decide +kernel
theorem dX5_lag_143 : decode cX5_lag 143 = .ok (.iload_n 2, 1) := by decide +kernel
theorem dX5_lag_144 : decode cX5_lag 144 = .ok (.goto 5, 3) := by decide +kernel
theorem dX5_lag_147 : decode cX5_lag 147 = .ok (.ldc 186, 2) := by decide +kernel
theorem dX5_lag_149 : decode cX5_lag 149 = .ok (.ireturn, 1) := by decide +kernel
theorem dX5_lacks_0 : decode cX5_lacks 0 = .ok (.iload_n 1, 1) := by decide +kernel
theorem dX5_lacks_1 : decode cX5_lacks 1 = .ok (.invokestatic 58, 3) := by decide +kernel
theorem dX5_lacks_4 : decode cX5_lacks 4 = .ok (.ifCond .eq 15, 3) := by decide +kernel
theorem dX5_lacks_7 : decode cX5_lacks 7 = .ok (.iload_n 3, 1) := by decide +kernel
theorem dX5_lacks_8 : decode cX5_lacks 8 = .ok (.i2l, 1) := by decide +kernel
theorem dX5_lacks_9 : decode cX5_lacks 9 = .ok (.lconst 1, 1) := by decide +kernel
theorem dX5_lacks_10 : decode cX5_lacks 10 = .ok (.ldc2_w 203, 3) := by decide +kernel
theorem dX5_lacks_13 : decode cX5_lacks 13 = .ok (.invokestatic 54, 3) := by decide +kernel
theorem dX5_lacks_16 : decode cX5_lacks 16 = .ok (.ifCond .ne 6, 3) := by decide +kernel
theorem dX5_lacks_19 : decode cX5_lacks 19 = .ok (.ldc 64, 2) := by decide +kernel
theorem dX5_lacks_21 : decode cX5_lacks 21 = .ok (.ireturn, 1) := by decide +kernel
theorem dX5_lacks_22 : decode cX5_lacks 22 = .ok (.aload_n 0, 1) := by decide +kernel
theorem dX5_lacks_23 : decode cX5_lacks 23 = .ok (.getfield 13, 3) := by decide +kernel
theorem dX5_lacks_26 : decode cX5_lacks 26 = .ok (.iload_n 1, 1) := by decide +kernel
theorem dX5_lacks_27 : decode cX5_lacks 27 = .ok (.iaload, 1) := by decide +kernel
theorem dX5_lacks_28 : decode cX5_lacks 28 = .ok (.ifCond .ge 9, 3) := by decide +kernel
theorem dX5_lacks_31 : decode cX5_lacks 31 = .ok (.aload_n 0, 1) := by decide +kernel
theorem dX5_lacks_32 : decode cX5_lacks 32 = .ok (.iconst 1, 1) := by decide +kernel
theorem dX5_lacks_33 : decode cX5_lacks 33 = .ok (.invokevirtual 65, 3) := by decide +kernel
theorem dX5_lacks_36 : decode cX5_lacks 36 = .ok (.ireturn, 1) := by decide +kernel
theorem dX5_lacks_37 : decode cX5_lacks 37 = .ok (.iload_n 2, 1) := by decide +kernel
theorem dX5_lacks_38 : decode cX5_lacks 38 = .ok (.i2l, 1) := by decide +kernel
theorem dX5_lacks_39 : decode cX5_lacks 39 = .ok (.lconst 0, 1) := by decide +kernel
theorem dX5_lacks_40 : decode cX5_lacks 40 = .ok (.aload_n 0, 1) := by decide +kernel
theorem dX5_lacks_41 : decode cX5_lacks 41 = .ok (.getfield 13, 3) := by decide +kernel
theorem dX5_lacks_44 : decode cX5_lacks 44 = .ok (.iload_n 1, 1) := by decide +kernel
theorem dX5_lacks_45 : decode cX5_lacks 45 = .ok (.iaload, 1) := by decide +kernel
theorem dX5_lacks_46 : decode cX5_lacks 46 = .ok (.iload_n 3, 1) := by decide +kernel
theorem dX5_lacks_47 : decode cX5_lacks 47 = .ok (.isub, 1) := by decide +kernel
theorem dX5_lacks_48 : decode cX5_lacks 48 = .ok (.i2l, 1) := by decide +kernel
theorem dX5_lacks_49 : decode cX5_lacks 49 = .ok (.invokestatic 54, 3) := by decide +kernel
theorem dX5_lacks_52 : decode cX5_lacks 52 = .ok (.ifCond .eq 7, 3) := by decide +kernel
theorem dX5_lacks_55 : decode cX5_lacks 55 = .ok (.iconst 0, 1) := by decide +kernel
theorem dX5_lacks_56 : decode cX5_lacks 56 = .ok (.goto 8, 3) := by decide +kernel
theorem dX5_lacks_59 : decode cX5_lacks 59 = .ok (.aload_n 0, 1) := by decide +kernel
theorem dX5_lacks_60 : decode cX5_lacks 60 = .ok (.iconst 2, 1) := by decide +kernel
theorem dX5_lacks_61 : decode cX5_lacks 61 = .ok (.invokevirtual 65, 3) := by decide +kernel
theorem dX5_lacks_64 : decode cX5_lacks 64 = .ok (.ireturn, 1) := by decide +kernel
theorem dX5_isSo_0 : decode cX5_isSo 0 = .ok (.iconst 1, 1) := by decide +kernel
theorem dX5_isSo_1 : decode cX5_isSo 1 = .ok (.istore 4, 2) := by decide +kernel
theorem dX5_isSo_3 : decode cX5_isSo 3 = .ok (.iconst 0, 1) := by decide +kernel
theorem dX5_isSo_4 : decode cX5_isSo 4 = .ok (.istore 5, 2) := by decide +kernel
theorem dX5_isSo_6 : decode cX5_isSo 6 = .ok (.iload 5, 2) := by decide +kernel
theorem dX5_isSo_8 : decode cX5_isSo 8 = .ok (.iload_n 3, 1) := by decide +kernel
theorem dX5_isSo_9 : decode cX5_isSo 9 = .ok (.if_icmp .ge 46, 3) := by decide +kernel
theorem dX5_isSo_12 : decode cX5_isSo 12 = .ok (.aload_n 0, 1) := by decide +kernel
theorem dX5_isSo_13 : decode cX5_isSo 13 = .ok (.invokevirtual 152, 3) := by decide +kernel
theorem dX5_isSo_16 : decode cX5_isSo 16 = .ok (.iload 4, 2) := by decide +kernel
theorem dX5_isSo_18 : decode cX5_isSo 18 = .ok (.ifCond .eq 28, 3) := by decide +kernel
theorem dX5_isSo_21 : decode cX5_isSo 21 = .ok (.aload_n 0, 1) := by decide +kernel
theorem dX5_isSo_22 : decode cX5_isSo 22 = .ok (.getfield 16, 3) := by decide +kernel
theorem dX5_isSo_25 : decode cX5_isSo 25 = .ok (.iload_n 2, 1) := by decide +kernel
theorem dX5_isSo_26 : decode cX5_isSo 26 = .ok (.iload 5, 2) := by decide +kernel
theorem dX5_isSo_28 : decode cX5_isSo 28 = .ok (.iadd, 1) := by decide +kernel
theorem dX5_isSo_29 : decode cX5_isSo 29 = .ok (.iaload, 1) := by decide +kernel
theorem dX5_isSo_30 : decode cX5_isSo 30 = .ok (.aload_n 0, 1) := by decide +kernel
theorem dX5_isSo_31 : decode cX5_isSo 31 = .ok (.getfield 19, 3) := by decide +kernel
theorem dX5_isSo_34 : decode cX5_isSo 34 = .ok (.bipush 34, 2) := by decide +kernel
theorem dX5_isSo_36 : decode cX5_isSo 36 = .ok (.iload_n 1, 1) := by decide +kernel
theorem dX5_isSo_37 : decode cX5_isSo 37 = .ok (.iadd, 1) := by decide +kernel
theorem dX5_isSo_38 : decode cX5_isSo 38 = .ok (.iaload, 1) := by decide +kernel
theorem dX5_isSo_39 : decode cX5_isSo 39 = .ok (.if_icmp .ne 7, 3) := by decide +kernel
theorem dX5_isSo_42 : decode cX5_isSo 42 = .ok (.iconst 1, 1) := by decide +kernel
theorem dX5_isSo_43 : decode cX5_isSo 43 = .ok (.goto 4, 3) := by decide +kernel
theorem dX5_isSo_46 : decode cX5_isSo 46 = .ok (.iconst 0, 1) := by decide +kernel
theorem dX5_isSo_47 : decode cX5_isSo 47 = .ok (.istore 4, 2) := by decide +kernel
theorem dX5_isSo_49 : decode cX5_isSo 49 = .ok (.iinc 5 1, 3) := by decide +kernel
theorem dX5_isSo_52 : decode cX5_isSo 52 = .ok (.goto (-46), 3) := by decide +kernel
theorem dX5_isSo_55 : decode cX5_isSo 55 = .ok (.aload_n 0, 1) := by decide +kernel
theorem dX5_isSo_56 : decode cX5_isSo 56 = .ok (.invokevirtual 180, 3) := by decide +kernel
theorem dX5_isSo_59 : decode cX5_isSo 59 = .ok (.iload 4, 2) := by decide +kernel
theorem dX5_isSo_61 : decode cX5_isSo 61 = .ok (.ireturn, 1) := by decide +kernel
theorem dX5_who_0 : decode cX5_who 0 = .ok (.aload_n 0, 1) := by decide +kernel
theorem dX5_who_1 : decode cX5_who 1 = .ok (.iload_n 1, 1) := by decide +kernel
theorem dX5_who_2 : decode cX5_who 2 = .ok (.invokevirtual 155, 3) := by decide +kernel
theorem dX5_who_5 : decode cX5_who 5 = .ok (.ifCond .eq 23, 3) := by decide +kernel
theorem dX5_who_8 : decode cX5_who 8 = .ok (.iload_n 2, 1) := by decide +kernel
theorem dX5_who_9 : decode cX5_who 9 = .ok (.i2l, 1) := by decide +kernel
theorem dX5_who_10 : decode cX5_who 10 = .ok (.lconst 0, 1) := by decide +kernel
theorem dX5_who_11 : decode cX5_who 11 = .ok (.ldc2_w 62, 3) := by decide +kernel
theorem dX5_who_14 : decode cX5_who 14 = .ok (.invokestatic 54, 3) := by decide +kernel
theorem dX5_who_17 : decode cX5_who 17 = .ok (.ifCond .eq 11, 3) := by decide +kernel
theorem dX5_who_20 : decode cX5_who 20 = .ok (.aload_n 0, 1) := by decide +kernel
theorem dX5_who_21 : decode cX5_who 21 = .ok (.iload_n 3, 1) := by decide +kernel
theorem dX5_who_22 : decode cX5_who 22 = .ok (.invokevirtual 155, 3) := by decide +kernel
theorem dX5_who_25 : decode cX5_who 25 = .ok (.ifCond .ne 8, 3) := by decide +kernel
theorem dX5_who_28 : decode cX5_who 28 = .ok (.ldc 64, 2) := by decide +kernel
theorem dX5_who_30 : decode cX5_who 30 = .ok (.goto 13, 3) := by decide +kernel
theorem dX5_who_33 : decode cX5_who 33 = .ok (.aload_n 0, 1) := by decide +kernel
theorem dX5_who_34 : decode cX5_who 34 = .ok (.iload 4, 2) := by decide +kernel
theorem dX5_who_36 : decode cX5_who 36 = .ok (.iload 5, 2) := by decide +kernel
theorem dX5_who_38 : decode cX5_who 38 = .ok (.iload 6, 2) := by decide +kernel
theorem dX5_who_40 : decode cX5_who 40 = .ok (.invokevirtual 205, 3) := by decide +kernel
theorem dX5_who_43 : decode cX5_who 43 = .ok (.istore 7, 2) := by decide +kernel
theorem dX5_who_45 : decode cX5_who 45 = .ok (.iload 7, 2) := by decide +kernel
theorem dX5_who_47 : decode cX5_who 47 = .ok (.ifCond .ge 6, 3) := by decide +kernel
theorem dX5_who_50 : decode cX5_who 50 = .ok (.iload 7, 2) := by decide +kernel
theorem dX5_who_52 : decode cX5_who 52 = .ok (.ireturn, 1) := by decide +kernel
theorem dX5_who_53 : decode cX5_who 53 = .ok (.aload_n 0, 1) := by decide +kernel
theorem dX5_who_54 : decode cX5_who 54 = .ok (.invokevirtual 174, 3) := by decide +kernel
theorem dX5_who_57 : decode cX5_who 57 = .ok (.iload_n 2, 1) := by decide +kernel
theorem dX5_who_58 : decode cX5_who 58 = .ok (.ifCond .ne 10, 3) := by decide +kernel
theorem dX5_who_61 : decode cX5_who 61 = .ok (.bipush 6, 2) := by decide +kernel
theorem dX5_who_63 : decode cX5_who 63 = .ok (.iload_n 1, 1) := by decide +kernel
theorem dX5_who_64 : decode cX5_who 64 = .ok (.iadd, 1) := by decide +kernel
theorem dX5_who_65 : decode cX5_who 65 = .ok (.goto 19, 3) := by decide +kernel
theorem dX5_who_68 : decode cX5_who 68 = .ok (.iload_n 2, 1) := by decide +kernel
theorem dX5_who_69 : decode cX5_who 69 = .ok (.iconst 1, 1) := by decide +kernel
theorem dX5_who_70 : decode cX5_who 70 = .ok (.if_icmp .ne 10, 3) := by decide +kernel
theorem dX5_who_73 : decode cX5_who 73 = .ok (.bipush 13, 2) := by decide +kernel
theorem dX5_who_75 : decode cX5_who 75 = .ok (.iload_n 1, 1) := by decide +kernel
theorem dX5_who_76 : decode cX5_who 76 = .ok (.iadd, 1) := by decide +kernel
theorem dX5_who_77 : decode cX5_who 77 = .ok (.goto 7, 3) := by decide +kernel
theorem dX5_who_80 : decode cX5_who 80 = .ok (.bipush 20, 2) := by decide +kernel
theorem dX5_who_82 : decode cX5_who 82 = .ok (.iload_n 1, 1) := by decide +kernel
theorem dX5_who_83 : decode cX5_who 83 = .ok (.iadd, 1) := by decide +kernel
theorem dX5_who_84 : decode cX5_who 84 = .ok (.istore 8, 2) := by decide +kernel
theorem dX5_who_86 : decode cX5_who 86 = .ok (.iconst 0, 1) := by decide +kernel
theorem dX5_who_87 : decode cX5_who 87 = .ok (.istore 9, 2) := by decide +kernel
theorem dX5_who_89 : decode cX5_who 89 = .ok (.iload_n 2, 1) := by decide +kernel
theorem dX5_who_90 : decode cX5_who 90 = .ok (.iconst 1, 1) := by decide +kernel
theorem dX5_who_91 : decode cX5_who 91 = .ok (.if_icmp .ne 7, 3) := by decide +kernel
theorem dX5_who_94 : decode cX5_who 94 = .ok (.iconst 0, 1) := by decide +kernel
theorem dX5_who_95 : decode cX5_who 95 = .ok (.goto 4, 3) := by decide +kernel
theorem dX5_who_98 : decode cX5_who 98 = .ok (.iconst 1, 1) := by decide +kernel
theorem dX5_who_99 : decode cX5_who 99 = .ok (.istore 10, 2) := by decide +kernel
theorem dX5_who_101 : decode cX5_who 101 = .ok (.iload 10, 2) := by decide +kernel
theorem dX5_who_103 : decode cX5_who 103 = .ok (.iload_n 2, 1) := by decide +kernel
theorem dX5_who_104 : decode cX5_who 104 = .ok (.ifCond .ne 7, 3) := by decide +kernel
theorem dX5_who_107 : decode cX5_who 107 = .ok (.iconst 5, 1) := by decide +kernel
theorem dX5_who_108 : decode cX5_who 108 = .ok (.goto 15, 3) := by decide +kernel
theorem dX5_who_111 : decode cX5_who 111 = .ok (.iload_n 2, 1) := by decide +kernel
theorem dX5_who_112 : decode cX5_who 112 = .ok (.iconst 1, 1) := by decide +kernel
theorem dX5_who_113 : decode cX5_who 113 = .ok (.if_icmp .ne 8, 3) := by decide +kernel
theorem dX5_who_116 : decode cX5_who 116 = .ok (.bipush 20, 2) := by decide +kernel
theorem dX5_who_118 : decode cX5_who 118 = .ok (.goto 5, 3) := by decide +kernel
theorem dX5_who_121 : decode cX5_who 121 = .ok (.bipush 9, 2) := by decide +kernel
theorem dX5_who_123 : decode cX5_who 123 = .ok (.if_icmp .gt 49, 3) := by decide +kernel
theorem dX5_who_126 : decode cX5_who 126 = .ok (.aload_n 0, 1) := by decide +kernel
theorem dX5_who_127 : decode cX5_who 127 = .ok (.getfield 19, 3) := by decide +kernel
theorem dX5_who_130 : decode cX5_who 130 = .ok (.iload 8, 2) := by decide +kernel
theorem dX5_who_132 : decode cX5_who 132 = .ok (.iload 10, 2) := by decide +kernel
theorem dX5_who_134 : decode cX5_who 134 = .ok (.iastore, 1) := by decide +kernel
theorem dX5_who_135 : decode cX5_who 135 = .ok (.iload 9, 2) := by decide +kernel
theorem dX5_who_137 : decode cX5_who 137 = .ok (.aload_n 0, 1) := by decide +kernel
theorem dX5_who_138 : decode cX5_who 138 = .ok (.iload_n 3, 1) := by decide +kernel
theorem dX5_who_139 : decode cX5_who 139 = .ok (.bipush 40, 2) := by decide +kernel
theorem dX5_who_141 : decode cX5_who 141 = .ok (.iload 4, 2) := by decide +kernel
theorem dX5_who_143 : decode cX5_who 143 = .ok (.imul, 1) := by decide +kernel
theorem dX5_who_144 : decode cX5_who 144 = .ok (.iload 5, 2) := by decide +kernel
theorem dX5_who_146 : decode cX5_who 146 = .ok (.iadd, 1) := by decide +kernel
theorem dX5_who_147 : decode cX5_who 147 = .ok (.iload 6, 2) := by decide +kernel
theorem dX5_who_149 : decode cX5_who 149 = .ok (.invokevirtual 209, 3) := by decide +kernel
theorem dX5_who_152 : decode cX5_who 152 = .ok (.ifCond .eq 10, 3) := by decide +kernel
theorem dX5_who_155 : decode cX5_who 155 = .ok (.iconst 1, 1) := by decide +kernel
theorem dX5_who_156 : decode cX5_who 156 = .ok (.iload 10, 2) := by decide +kernel
theorem dX5_who_158 : decode cX5_who 158 = .ok (.ishl, 1) := by decide +kernel
theorem dX5_who_159 : decode cX5_who 159 = .ok (.goto 4, 3) := by decide +kernel
theorem dX5_who_162 : decode cX5_who 162 = .ok (.iconst 0, 1) := by decide +kernel
theorem dX5_who_163 : decode cX5_who 163 = .ok (.ior, 1) := by decide +kernel
theorem dX5_who_164 : decode cX5_who 164 = .ok (.istore 9, 2) := by decide +kernel
theorem dX5_who_166 : decode cX5_who 166 = .ok (.iinc 10 1, 3) := by decide +kernel
theorem dX5_who_169 : decode cX5_who 169 = .ok (.goto (-68), 3) := by decide +kernel
theorem dX5_who_172 : decode cX5_who 172 = .ok (.aload_n 0, 1) := by decide +kernel
theorem dX5_who_173 : decode cX5_who 173 = .ok (.iload 9, 2) := by decide +kernel
theorem dX5_who_175 : decode cX5_who 175 = .ok (.invokevirtual 69, 3) := by decide +kernel
theorem dX5_who_178 : decode cX5_who 178 = .ok (.ireturn, 1) := by decide +kernel
theorem dX5_silent_0 : decode cX5_silent 0 = .ok (.aload_n 0, 1) := by decide +kernel
theorem dX5_silent_1 : decode cX5_silent 1 = .ok (.iload_n 1, 1) := by decide +kernel
theorem dX5_silent_2 : decode cX5_silent 2 = .ok (.invokevirtual 155, 3) := by decide +kernel
theorem dX5_silent_5 : decode cX5_silent 5 = .ok (.ifCond .eq 14, 3) := by decide +kernel
theorem dX5_silent_8 : decode cX5_silent 8 = .ok (.aload_n 0, 1) := by decide +kernel
theorem dX5_silent_9 : decode cX5_silent 9 = .ok (.iload_n 2, 1) := by decide +kernel
theorem dX5_silent_10 : decode cX5_silent 10 = .ok (.iload_n 3, 1) := by decide +kernel
theorem dX5_silent_11 : decode cX5_silent 11 = .ok (.iload 4, 2) := by decide +kernel
theorem dX5_silent_13 : decode cX5_silent 13 = .ok (.invokevirtual 205, 3) := by decide +kernel
theorem dX5_silent_16 : decode cX5_silent 16 = .ok (.goto 5, 3) := by decide +kernel
theorem dX5_silent_19 : decode cX5_silent 19 = .ok (.ldc 64, 2) := by decide +kernel
theorem dX5_silent_21 : decode cX5_silent 21 = .ok (.istore 5, 2) := by decide +kernel
theorem dX5_silent_23 : decode cX5_silent 23 = .ok (.iload 5, 2) := by decide +kernel
theorem dX5_silent_25 : decode cX5_silent 25 = .ok (.ifCond .ge 6, 3) := by decide +kernel
theorem dX5_silent_28 : decode cX5_silent 28 = .ok (.iload 5, 2) := by decide +kernel
theorem dX5_silent_30 : decode cX5_silent 30 = .ok (.ireturn, 1) := by decide +kernel
theorem dX5_silent_31 : decode cX5_silent 31 = .ok (.aload_n 0, 1) := by decide +kernel
theorem dX5_silent_32 : decode cX5_silent 32 = .ok (.invokevirtual 174, 3) := by decide +kernel
theorem dX5_silent_35 : decode cX5_silent 35 = .ok (.aload_n 0, 1) := by decide +kernel
theorem dX5_silent_36 : decode cX5_silent 36 = .ok (.iload_n 1, 1) := by decide +kernel
theorem dX5_silent_37 : decode cX5_silent 37 = .ok (.bipush 40, 2) := by decide +kernel
theorem dX5_silent_39 : decode cX5_silent 39 = .ok (.iload_n 2, 1) := by decide +kernel
theorem dX5_silent_40 : decode cX5_silent 40 = .ok (.imul, 1) := by decide +kernel
theorem dX5_silent_41 : decode cX5_silent 41 = .ok (.iload_n 3, 1) := by decide +kernel
theorem dX5_silent_42 : decode cX5_silent 42 = .ok (.iadd, 1) := by decide +kernel
theorem dX5_silent_43 : decode cX5_silent 43 = .ok (.iload 4, 2) := by decide +kernel
theorem dX5_silent_45 : decode cX5_silent 45 = .ok (.invokevirtual 209, 3) := by decide +kernel
theorem dX5_silent_48 : decode cX5_silent 48 = .ok (.ifCond .eq 9, 3) := by decide +kernel
theorem dX5_silent_51 : decode cX5_silent 51 = .ok (.sipush 128, 3) := by decide +kernel
theorem dX5_silent_54 : decode cX5_silent 54 = .ok (.goto 4, 3) := by decide +kernel
theorem dX5_silent_57 : decode cX5_silent 57 = .ok (.iconst 0, 1) := by decide +kernel
theorem dX5_silent_58 : decode cX5_silent 58 = .ok (.istore 6, 2) := by decide +kernel
theorem dX5_silent_60 : decode cX5_silent 60 = .ok (.iconst 0, 1) := by decide +kernel
theorem dX5_silent_61 : decode cX5_silent 61 = .ok (.istore 7, 2) := by decide +kernel
theorem dX5_silent_63 : decode cX5_silent 63 = .ok (.iload 7, 2) := by decide +kernel
theorem dX5_silent_65 : decode cX5_silent 65 = .ok (.aload_n 0, 1) := by decide +kernel
theorem dX5_silent_66 : decode cX5_silent 66 = .ok (.getfield 19, 3) := by decide +kernel
theorem dX5_silent_69 : decode cX5_silent 69 = .ok (.iconst 2, 1) := by decide +kernel
theorem dX5_silent_70 : decode cX5_silent 70 = .ok (.iaload, 1) := by decide +kernel
theorem dX5_silent_71 : decode cX5_silent 71 = .ok (.if_icmp .ge 65, 3) := by decide +kernel
theorem dX5_silent_74 : decode cX5_silent 74 = .ok (.aload_n 0, 1) := by decide +kernel
theorem dX5_silent_75 : decode cX5_silent 75 = .ok (.getfield 19, 3) := by decide +kernel
theorem dX5_silent_78 : decode cX5_silent 78 = .ok (.iconst 4, 1) := by decide +kernel
theorem dX5_silent_79 : decode cX5_silent 79 = .ok (.iaload, 1) := by decide +kernel
theorem dX5_silent_80 : decode cX5_silent 80 = .ok (.iload 7, 2) := by decide +kernel
theorem dX5_silent_82 : decode cX5_silent 82 = .ok (.invokestatic 139, 3) := by decide +kernel
theorem dX5_silent_85 : decode cX5_silent 85 = .ok (.ifCond .ne 45, 3) := by decide +kernel
theorem dX5_silent_88 : decode cX5_silent 88 = .ok (.aload_n 0, 1) := by decide +kernel
theorem dX5_silent_89 : decode cX5_silent 89 = .ok (.getfield 19, 3) := by decide +kernel
theorem dX5_silent_92 : decode cX5_silent 92 = .ok (.iconst 4, 1) := by decide +kernel
theorem dX5_silent_93 : decode cX5_silent 93 = .ok (.dup2, 1) := by decide +kernel
theorem dX5_silent_94 : decode cX5_silent 94 = .ok (.iaload, 1) := by decide +kernel
theorem dX5_silent_95 : decode cX5_silent 95 = .ok (.iconst 1, 1) := by decide +kernel
theorem dX5_silent_96 : decode cX5_silent 96 = .ok (.iload 7, 2) := by decide +kernel
theorem dX5_silent_98 : decode cX5_silent 98 = .ok (.ishl, 1) := by decide +kernel
theorem dX5_silent_99 : decode cX5_silent 99 = .ok (.ior, 1) := by decide +kernel
theorem dX5_silent_100 : decode cX5_silent 100 = .ok (.iastore, 1) := by decide +kernel
theorem dX5_silent_101 : decode cX5_silent 101 = .ok (.iload 6, 2) := by decide +kernel
theorem dX5_silent_103 : decode cX5_silent 103 = .ok (.aload_n 0, 1) := by decide +kernel
theorem dX5_silent_104 : decode cX5_silent 104 = .ok (.iload_n 1, 1) := by decide +kernel
theorem dX5_silent_105 : decode cX5_silent 105 = .ok (.bipush 40, 2) := by decide +kernel
theorem dX5_silent_107 : decode cX5_silent 107 = .ok (.iload_n 2, 1) := by decide +kernel
theorem dX5_silent_108 : decode cX5_silent 108 = .ok (.imul, 1) := by decide +kernel
theorem dX5_silent_109 : decode cX5_silent 109 = .ok (.iload_n 3, 1) := by decide +kernel
theorem dX5_silent_110 : decode cX5_silent 110 = .ok (.iadd, 1) := by decide +kernel
theorem dX5_silent_111 : decode cX5_silent 111 = .ok (.iload 4, 2) := by decide +kernel
theorem dX5_silent_113 : decode cX5_silent 113 = .ok (.invokevirtual 209, 3) := by decide +kernel
theorem dX5_silent_116 : decode cX5_silent 116 = .ok (.ifCond .eq 10, 3) := by decide +kernel
theorem dX5_silent_119 : decode cX5_silent 119 = .ok (.iconst 1, 1) := by decide +kernel
theorem dX5_silent_120 : decode cX5_silent 120 = .ok (.iload 7, 2) := by decide +kernel
theorem dX5_silent_122 : decode cX5_silent 122 = .ok (.ishl, 1) := by decide +kernel
theorem dX5_silent_123 : decode cX5_silent 123 = .ok (.goto 4, 3) := by decide +kernel
theorem dX5_silent_126 : decode cX5_silent 126 = .ok (.iconst 0, 1) := by decide +kernel
theorem dX5_silent_127 : decode cX5_silent 127 = .ok (.ior, 1) := by decide +kernel
theorem dX5_silent_128 : decode cX5_silent 128 = .ok (.istore 6, 2) := by decide +kernel
theorem dX5_silent_130 : decode cX5_silent 130 = .ok (.iinc 7 1, 3) := by decide +kernel
theorem dX5_silent_133 : decode cX5_silent 133 = .ok (.goto (-70), 3) := by decide +kernel
theorem dX5_silent_136 : decode cX5_silent 136 = .ok (.aload_n 0, 1) := by decide +kernel
theorem dX5_silent_137 : decode cX5_silent 137 = .ok (.iload 6, 2) := by decide +kernel
theorem dX5_silent_139 : decode cX5_silent 139 = .ok (.invokevirtual 69, 3) := by decide +kernel
theorem dX5_silent_142 : decode cX5_silent 142 = .ok (.ireturn, 1) := by decide +kernel
theorem dX5_hushed_0 : decode cX5_hushed 0 = .ok (.aload_n 0, 1) := by decide +kernel
theorem dX5_hushed_1 : decode cX5_hushed 1 = .ok (.getfield 132, 3) := by decide +kernel
theorem dX5_hushed_4 : decode cX5_hushed 4 = .ok (.ifCond .ne 7, 3) := by decide +kernel
theorem dX5_hushed_7 : decode cX5_hushed 7 = .ok (.ldc2_w 213, 3) := by decide +kernel
theorem dX5_hushed_10 : decode cX5_hushed 10 = .ok (.lreturn, 1) := by decide +kernel
theorem dX5_hushed_11 : decode cX5_hushed 11 = .ok (.iload_n 1, 1) := by decide +kernel
theorem dX5_hushed_12 : decode cX5_hushed 12 = .ok (.i2l, 1) := by decide +kernel
theorem dX5_hushed_13 : decode cX5_hushed 13 = .ok (.lconst 0, 1) := by decide +kernel
theorem dX5_hushed_14 : decode cX5_hushed 14 = .ok (.ldc2_w 194, 3) := by decide +kernel
theorem dX5_hushed_17 : decode cX5_hushed 17 = .ok (.invokestatic 54, 3) := by decide +kernel
theorem dX5_hushed_20 : decode cX5_hushed 20 = .ok (.ifCond .eq 22, 3) := by decide +kernel
theorem dX5_hushed_23 : decode cX5_hushed 23 = .ok (.iload_n 2, 1) := by decide +kernel
theorem dX5_hushed_24 : decode cX5_hushed 24 = .ok (.i2l, 1) := by decide +kernel
theorem dX5_hushed_25 : decode cX5_hushed 25 = .ok (.lconst 0, 1) := by decide +kernel
theorem dX5_hushed_26 : decode cX5_hushed 26 = .ok (.ldc2_w 215, 3) := by decide +kernel
theorem dX5_hushed_29 : decode cX5_hushed 29 = .ok (.invokestatic 54, 3) := by decide +kernel
theorem dX5_hushed_32 : decode cX5_hushed 32 = .ok (.ifCond .eq 10, 3) := by decide +kernel
theorem dX5_hushed_35 : decode cX5_hushed 35 = .ok (.iload_n 3, 1) := by decide +kernel
theorem dX5_hushed_36 : decode cX5_hushed 36 = .ok (.invokestatic 183, 3) := by decide +kernel
theorem dX5_hushed_39 : decode cX5_hushed 39 = .ok (.ifCond .ne 7, 3) := by decide +kernel
theorem dX5_hushed_42 : decode cX5_hushed 42 = .ok (.ldc2_w 217, 3) := by decide +kernel
theorem dX5_hushed_45 : decode cX5_hushed 45 = .ok (.lreturn, 1) := by decide +kernel
theorem dX5_hushed_46 : decode cX5_hushed 46 = .ok (.aload_n 0, 1) := by decide +kernel
theorem dX5_hushed_47 : decode cX5_hushed 47 = .ok (.invokevirtual 174, 3) := by decide +kernel
theorem dX5_hushed_50 : decode cX5_hushed 50 = .ok (.iconst 1, 1) := by decide +kernel
theorem dX5_hushed_51 : decode cX5_hushed 51 = .ok (.aload_n 0, 1) := by decide +kernel
theorem dX5_hushed_52 : decode cX5_hushed 52 = .ok (.getfield 19, 3) := by decide +kernel
theorem dX5_hushed_55 : decode cX5_hushed 55 = .ok (.iconst 2, 1) := by decide +kernel
theorem dX5_hushed_56 : decode cX5_hushed 56 = .ok (.iaload, 1) := by decide +kernel
theorem dX5_hushed_57 : decode cX5_hushed 57 = .ok (.ishl, 1) := by decide +kernel
theorem dX5_hushed_58 : decode cX5_hushed 58 = .ok (.iconst 1, 1) := by decide +kernel
theorem dX5_hushed_59 : decode cX5_hushed 59 = .ok (.isub, 1) := by decide +kernel
theorem dX5_hushed_60 : decode cX5_hushed 60 = .ok (.aload_n 0, 1) := by decide +kernel
theorem dX5_hushed_61 : decode cX5_hushed 61 = .ok (.getfield 19, 3) := by decide +kernel
theorem dX5_hushed_64 : decode cX5_hushed 64 = .ok (.iconst 4, 1) := by decide +kernel
theorem dX5_hushed_65 : decode cX5_hushed 65 = .ok (.iaload, 1) := by decide +kernel
theorem dX5_hushed_66 : decode cX5_hushed 66 = .ok (.iconst (-1), 1) := by decide +kernel
theorem dX5_hushed_67 : decode cX5_hushed 67 = .ok (.ixor, 1) := by decide +kernel
theorem dX5_hushed_68 : decode cX5_hushed 68 = .ok (.iand, 1) := by decide +kernel
theorem dX5_hushed_69 : decode cX5_hushed 69 = .ok (.istore 4, 2) := by decide +kernel
theorem dX5_hushed_71 : decode cX5_hushed 71 = .ok (.lconst 0, 1) := by decide +kernel
theorem dX5_hushed_72 : decode cX5_hushed 72 = .ok (.lstore 5, 2) := by decide +kernel
theorem dX5_hushed_74 : decode cX5_hushed 74 = .ok (.lconst 1, 1) := by decide +kernel
theorem dX5_hushed_75 : decode cX5_hushed 75 = .ok (.lstore 7, 2) := by decide +kernel
theorem dX5_hushed_77 : decode cX5_hushed 77 = .ok (.iconst 0, 1) := by decide +kernel
theorem dX5_hushed_78 : decode cX5_hushed 78 = .ok (.istore 9, 2) := by decide +kernel
theorem dX5_hushed_80 : decode cX5_hushed 80 = .ok (.iload 9, 2) := by decide +kernel
theorem dX5_hushed_82 : decode cX5_hushed 82 = .ok (.aload_n 0, 1) := by decide +kernel
theorem dX5_hushed_83 : decode cX5_hushed 83 = .ok (.getfield 19, 3) := by decide +kernel
theorem dX5_hushed_86 : decode cX5_hushed 86 = .ok (.iconst 2, 1) := by decide +kernel
theorem dX5_hushed_87 : decode cX5_hushed 87 = .ok (.iaload, 1) := by decide +kernel
theorem dX5_hushed_88 : decode cX5_hushed 88 = .ok (.if_icmp .ge 31, 3) := by decide +kernel
theorem dX5_hushed_91 : decode cX5_hushed 91 = .ok (.lload 7, 2) := by decide +kernel
theorem dX5_hushed_93 : decode cX5_hushed 93 = .ok (.iload 4, 2) := by decide +kernel
theorem dX5_hushed_95 : decode cX5_hushed 95 = .ok (.iload 9, 2) := by decide +kernel
theorem dX5_hushed_97 : decode cX5_hushed 97 = .ok (.invokestatic 139, 3) := by decide +kernel
theorem dX5_hushed_100 : decode cX5_hushed 100 = .ok (.ifCond .eq 9, 3) := by decide +kernel
theorem dX5_hushed_103 : decode cX5_hushed 103 = .ok (.ldc2_w 215, 3) := by decide +kernel
theorem dX5_hushed_106 : decode cX5_hushed 106 = .ok (.goto 4, 3) := by decide +kernel
theorem dX5_hushed_109 : decode cX5_hushed 109 = .ok (.lconst 1, 1) := by decide +kernel
theorem dX5_hushed_110 : decode cX5_hushed 110 = .ok (.lmul, 1) := by decide +kernel
theorem dX5_hushed_111 : decode cX5_hushed 111 = .ok (.lstore 7, 2) := by decide +kernel
theorem dX5_hushed_113 : decode cX5_hushed 113 = .ok (.iinc 9 1, 3) := by decide +kernel
theorem dX5_hushed_116 : decode cX5_hushed 116 = .ok (.goto (-36), 3) := by decide +kernel
theorem dX5_hushed_119 : decode cX5_hushed 119 = .ok (.iconst 0, 1) := by decide +kernel
theorem dX5_hushed_120 : decode cX5_hushed 120 = .ok (.istore 9, 2) := by decide +kernel
theorem dX5_hushed_122 : decode cX5_hushed 122 = .ok (.iload 9, 2) := by decide +kernel
theorem dX5_hushed_124 : decode cX5_hushed 124 = .ok (.iload 4, 2) := by decide +kernel
theorem dX5_hushed_126 : decode cX5_hushed 126 = .ok (.if_icmp .gt 117, 3) := by decide +kernel
theorem dX5_hushed_129 : decode cX5_hushed 129 = .ok (.iload 9, 2) := by decide +kernel
theorem dX5_hushed_131 : decode cX5_hushed 131 = .ok (.iload 4, 2) := by decide +kernel
theorem dX5_hushed_133 : decode cX5_hushed 133 = .ok (.iconst (-1), 1) := by decide +kernel
theorem dX5_hushed_134 : decode cX5_hushed 134 = .ok (.ixor, 1) := by decide +kernel
theorem dX5_hushed_135 : decode cX5_hushed 135 = .ok (.iand, 1) := by decide +kernel
theorem dX5_hushed_136 : decode cX5_hushed 136 = .ok (.ifCond .ne 101, 3) := by decide +kernel
theorem dX5_hushed_139 : decode cX5_hushed 139 = .ok (.lconst 1, 1) := by decide +kernel
theorem dX5_hushed_140 : decode cX5_hushed 140 = .ok (.lstore 10, 2) := by decide +kernel
theorem dX5_hushed_142 : decode cX5_hushed 142 = .ok (.iconst 0, 1) := by decide +kernel
theorem dX5_hushed_143 : decode cX5_hushed 143 = .ok (.istore 12, 2) := by decide +kernel
theorem dX5_hushed_145 : decode cX5_hushed 145 = .ok (.iload 12, 2) := by decide +kernel
theorem dX5_hushed_147 : decode cX5_hushed 147 = .ok (.aload_n 0, 1) := by decide +kernel
theorem dX5_hushed_148 : decode cX5_hushed 148 = .ok (.getfield 19, 3) := by decide +kernel
theorem dX5_hushed_151 : decode cX5_hushed 151 = .ok (.iconst 2, 1) := by decide +kernel
theorem dX5_hushed_152 : decode cX5_hushed 152 = .ok (.iaload, 1) := by decide +kernel
theorem dX5_hushed_153 : decode cX5_hushed 153 = .ok (.if_icmp .ge 48, 3) := by decide +kernel
theorem dX5_hushed_156 : decode cX5_hushed 156 = .ok (.lload 10, 2) := by decide +kernel
theorem dX5_hushed_158 : decode cX5_hushed 158 = .ok (.iload 4, 2) := by decide +kernel
theorem dX5_hushed_160 : decode cX5_hushed 160 = .ok (.iload 12, 2) := by decide +kernel
theorem dX5_hushed_162 : decode cX5_hushed 162 = .ok (.invokestatic 139, 3) := by decide +kernel
theorem dX5_hushed_165 : decode cX5_hushed 165 = .ok (.ifCond .ne 7, 3) := by decide +kernel
theorem dX5_hushed_168 : decode cX5_hushed 168 = .ok (.lconst 1, 1) := by decide +kernel
theorem dX5_hushed_169 : decode cX5_hushed 169 = .ok (.goto 23, 3) := by decide +kernel
theorem dX5_hushed_172 : decode cX5_hushed 172 = .ok (.iload 9, 2) := by decide +kernel
theorem dX5_hushed_174 : decode cX5_hushed 174 = .ok (.iload 12, 2) := by decide +kernel
theorem dX5_hushed_176 : decode cX5_hushed 176 = .ok (.invokestatic 139, 3) := by decide +kernel
theorem dX5_hushed_179 : decode cX5_hushed 179 = .ok (.ifCond .eq 8, 3) := by decide +kernel
theorem dX5_hushed_182 : decode cX5_hushed 182 = .ok (.iload_n 2, 1) := by decide +kernel
theorem dX5_hushed_183 : decode cX5_hushed 183 = .ok (.i2l, 1) := by decide +kernel
theorem dX5_hushed_184 : decode cX5_hushed 184 = .ok (.goto 8, 3) := by decide +kernel
theorem dX5_hushed_187 : decode cX5_hushed 187 = .ok (.bipush 10, 2) := by decide +kernel
theorem dX5_hushed_189 : decode cX5_hushed 189 = .ok (.iload_n 2, 1) := by decide +kernel
theorem dX5_hushed_190 : decode cX5_hushed 190 = .ok (.isub, 1) := by decide +kernel
theorem dX5_hushed_191 : decode cX5_hushed 191 = .ok (.i2l, 1) := by decide +kernel
theorem dX5_hushed_192 : decode cX5_hushed 192 = .ok (.lmul, 1) := by decide +kernel
theorem dX5_hushed_193 : decode cX5_hushed 193 = .ok (.lstore 10, 2) := by decide +kernel
theorem dX5_hushed_195 : decode cX5_hushed 195 = .ok (.iinc 12 1, 3) := by decide +kernel
theorem dX5_hushed_198 : decode cX5_hushed 198 = .ok (.goto (-53), 3) := by decide +kernel
theorem dX5_hushed_201 : decode cX5_hushed 201 = .ok (.aload_n 0, 1) := by decide +kernel
theorem dX5_hushed_202 : decode cX5_hushed 202 = .ok (.getfield 19, 3) := by decide +kernel
theorem dX5_hushed_205 : decode cX5_hushed 205 = .ok (.iconst 4, 1) := by decide +kernel
theorem dX5_hushed_206 : decode cX5_hushed 206 = .ok (.dup2, 1) := by decide +kernel
theorem dX5_hushed_207 : decode cX5_hushed 207 = .ok (.iaload, 1) := by decide +kernel
theorem dX5_hushed_208 : decode cX5_hushed 208 = .ok (.iload 9, 2) := by decide +kernel
theorem dX5_hushed_210 : decode cX5_hushed 210 = .ok (.ior, 1) := by decide +kernel
theorem dX5_hushed_211 : decode cX5_hushed 211 = .ok (.iastore, 1) := by decide +kernel
theorem dX5_hushed_212 : decode cX5_hushed 212 = .ok (.lload 5, 2) := by decide +kernel
theorem dX5_hushed_214 : decode cX5_hushed 214 = .ok (.aload_n 0, 1) := by decide +kernel
theorem dX5_hushed_215 : decode cX5_hushed 215 = .ok (.iload_n 1, 1) := by decide +kernel
theorem dX5_hushed_216 : decode cX5_hushed 216 = .ok (.invokevirtual 200, 3) := by decide +kernel
theorem dX5_hushed_219 : decode cX5_hushed 219 = .ok (.aload_n 0, 1) := by decide +kernel
theorem dX5_hushed_220 : decode cX5_hushed 220 = .ok (.getfield 19, 3) := by decide +kernel
theorem dX5_hushed_223 : decode cX5_hushed 223 = .ok (.iconst 1, 1) := by decide +kernel
theorem dX5_hushed_224 : decode cX5_hushed 224 = .ok (.iaload, 1) := by decide +kernel
theorem dX5_hushed_225 : decode cX5_hushed 225 = .ok (.if_icmp .le 8, 3) := by decide +kernel
theorem dX5_hushed_228 : decode cX5_hushed 228 = .ok (.lload 10, 2) := by decide +kernel
theorem dX5_hushed_230 : decode cX5_hushed 230 = .ok (.goto 4, 3) := by decide +kernel
theorem dX5_hushed_233 : decode cX5_hushed 233 = .ok (.lconst 0, 1) := by decide +kernel
theorem dX5_hushed_234 : decode cX5_hushed 234 = .ok (.ladd, 1) := by decide +kernel
theorem dX5_hushed_235 : decode cX5_hushed 235 = .ok (.lstore 5, 2) := by decide +kernel
theorem dX5_hushed_237 : decode cX5_hushed 237 = .ok (.iinc 9 1, 3) := by decide +kernel
theorem dX5_hushed_240 : decode cX5_hushed 240 = .ok (.goto (-118), 3) := by decide +kernel
theorem dX5_hushed_243 : decode cX5_hushed 243 = .ok (.lload 5, 2) := by decide +kernel
theorem dX5_hushed_245 : decode cX5_hushed 245 = .ok (.lstore 9, 2) := by decide +kernel
theorem dX5_hushed_247 : decode cX5_hushed 247 = .ok (.lload 7, 2) := by decide +kernel
theorem dX5_hushed_249 : decode cX5_hushed 249 = .ok (.lstore 11, 2) := by decide +kernel
theorem dX5_hushed_251 : decode cX5_hushed 251 = .ok (.lload 11, 2) := by decide +kernel
theorem dX5_hushed_253 : decode cX5_hushed 253 = .ok (.lconst 0, 1) := by decide +kernel
theorem dX5_hushed_254 : decode cX5_hushed 254 = .ok (.lcmp, 1) := by decide +kernel
theorem dX5_hushed_255 : decode cX5_hushed 255 = .ok (.ifCond .eq 21, 3) := by decide +kernel
theorem dX5_hushed_258 : decode cX5_hushed 258 = .ok (.lload 9, 2) := by decide +kernel
theorem dX5_hushed_260 : decode cX5_hushed 260 = .ok (.lload 11, 2) := by decide +kernel
theorem dX5_hushed_262 : decode cX5_hushed 262 = .ok (.lrem, 1) := by decide +kernel
theorem dX5_hushed_263 : decode cX5_hushed 263 = .ok (.lstore 13, 2) := by decide +kernel
theorem dX5_hushed_265 : decode cX5_hushed 265 = .ok (.lload 11, 2) := by decide +kernel
theorem dX5_hushed_267 : decode cX5_hushed 267 = .ok (.lstore 9, 2) := by decide +kernel
theorem dX5_hushed_269 : decode cX5_hushed 269 = .ok (.lload 13, 2) := by decide +kernel
theorem dX5_hushed_271 : decode cX5_hushed 271 = .ok (.lstore 11, 2) := by decide +kernel
theorem dX5_hushed_273 : decode cX5_hushed 273 = .ok (.goto (-22), 3) := by decide +kernel
theorem dX5_hushed_276 : decode cX5_hushed 276 = .ok (.iload_n 3, 1) := by decide +kernel
theorem dX5_hushed_277 : decode cX5_hushed 277 = .ok (.ifCond .ne 11, 3) := by decide +kernel
theorem dX5_hushed_280 : decode cX5_hushed 280 = .ok (.lload 5, 2) := by decide +kernel
theorem dX5_hushed_282 : decode cX5_hushed 282 = .ok (.lload 9, 2) := by decide +kernel
theorem dX5_hushed_284 : decode cX5_hushed 284 = .ok (.ldiv, 1) := by decide +kernel
theorem dX5_hushed_285 : decode cX5_hushed 285 = .ok (.goto 8, 3) := by decide +kernel
theorem dX5_hushed_288 : decode cX5_hushed 288 = .ok (.lload 7, 2) := by decide +kernel
theorem dX5_hushed_290 : decode cX5_hushed 290 = .ok (.lload 9, 2) := by decide +kernel
theorem dX5_hushed_292 : decode cX5_hushed 292 = .ok (.ldiv, 1) := by decide +kernel
theorem dX5_hushed_293 : decode cX5_hushed 293 = .ok (.lreturn, 1) := by decide +kernel
theorem dX5_drawn_0 : decode cX5_drawn 0 = .ok (.aload_n 0, 1) := by decide +kernel
theorem dX5_drawn_1 : decode cX5_drawn 1 = .ok (.getfield 132, 3) := by decide +kernel
theorem dX5_drawn_4 : decode cX5_drawn 4 = .ok (.ifCond .ne 6, 3) := by decide +kernel
theorem dX5_drawn_7 : decode cX5_drawn 7 = .ok (.ldc 146, 2) := by decide +kernel
theorem dX5_drawn_9 : decode cX5_drawn 9 = .ok (.ireturn, 1) := by decide +kernel
theorem dX5_drawn_10 : decode cX5_drawn 10 = .ok (.iload_n 1, 1) := by decide +kernel
theorem dX5_drawn_11 : decode cX5_drawn 11 = .ok (.i2l, 1) := by decide +kernel
theorem dX5_drawn_12 : decode cX5_drawn 12 = .ok (.lconst 0, 1) := by decide +kernel
theorem dX5_drawn_13 : decode cX5_drawn 13 = .ok (.ldc2_w 219, 3) := by decide +kernel
theorem dX5_drawn_16 : decode cX5_drawn 16 = .ok (.invokestatic 54, 3) := by decide +kernel
theorem dX5_drawn_19 : decode cX5_drawn 19 = .ok (.ifCond .eq 22, 3) := by decide +kernel
theorem dX5_drawn_22 : decode cX5_drawn 22 = .ok (.iload_n 2, 1) := by decide +kernel
theorem dX5_drawn_23 : decode cX5_drawn 23 = .ok (.i2l, 1) := by decide +kernel
theorem dX5_drawn_24 : decode cX5_drawn 24 = .ok (.lconst 1, 1) := by decide +kernel
theorem dX5_drawn_25 : decode cX5_drawn 25 = .ok (.ldc2_w 221, 3) := by decide +kernel
theorem dX5_drawn_28 : decode cX5_drawn 28 = .ok (.invokestatic 54, 3) := by decide +kernel
theorem dX5_drawn_31 : decode cX5_drawn 31 = .ok (.ifCond .eq 10, 3) := by decide +kernel
theorem dX5_drawn_34 : decode cX5_drawn 34 = .ok (.iload_n 3, 1) := by decide +kernel
theorem dX5_drawn_35 : decode cX5_drawn 35 = .ok (.invokestatic 183, 3) := by decide +kernel
theorem dX5_drawn_38 : decode cX5_drawn 38 = .ok (.ifCond .ne 6, 3) := by decide +kernel
theorem dX5_drawn_41 : decode cX5_drawn 41 = .ok (.ldc 64, 2) := by decide +kernel
theorem dX5_drawn_43 : decode cX5_drawn 43 = .ok (.ireturn, 1) := by decide +kernel
theorem dX5_drawn_44 : decode cX5_drawn 44 = .ok (.aload_n 0, 1) := by decide +kernel
theorem dX5_drawn_45 : decode cX5_drawn 45 = .ok (.invokevirtual 174, 3) := by decide +kernel
theorem dX5_drawn_48 : decode cX5_drawn 48 = .ok (.iload_n 2, 1) := by decide +kernel
theorem dX5_drawn_49 : decode cX5_drawn 49 = .ok (.i2l, 1) := by decide +kernel
theorem dX5_drawn_50 : decode cX5_drawn 50 = .ok (.lstore 4, 2) := by decide +kernel
theorem dX5_drawn_52 : decode cX5_drawn 52 = .ok (.iconst 0, 1) := by decide +kernel
theorem dX5_drawn_53 : decode cX5_drawn 53 = .ok (.istore 6, 2) := by decide +kernel
theorem dX5_drawn_55 : decode cX5_drawn 55 = .ok (.iconst 0, 1) := by decide +kernel
theorem dX5_drawn_56 : decode cX5_drawn 56 = .ok (.istore 7, 2) := by decide +kernel
theorem dX5_drawn_58 : decode cX5_drawn 58 = .ok (.iload 7, 2) := by decide +kernel
theorem dX5_drawn_60 : decode cX5_drawn 60 = .ok (.iload_n 1, 1) := by decide +kernel
theorem dX5_drawn_61 : decode cX5_drawn 61 = .ok (.if_icmp .ge 91, 3) := by decide +kernel
theorem dX5_drawn_64 : decode cX5_drawn 64 = .ok (.lload 4, 2) := by decide +kernel
theorem dX5_drawn_66 : decode cX5_drawn 66 = .ok (.ldc2_w 223, 3) := by decide +kernel
theorem dX5_drawn_69 : decode cX5_drawn 69 = .ok (.lmul, 1) := by decide +kernel
theorem dX5_drawn_70 : decode cX5_drawn 70 = .ok (.ldc2_w 225, 3) := by decide +kernel
theorem dX5_drawn_73 : decode cX5_drawn 73 = .ok (.lrem, 1) := by decide +kernel
theorem dX5_drawn_74 : decode cX5_drawn 74 = .ok (.lstore 4, 2) := by decide +kernel
theorem dX5_drawn_76 : decode cX5_drawn 76 = .ok (.aload_n 0, 1) := by decide +kernel
theorem dX5_drawn_77 : decode cX5_drawn 77 = .ok (.getfield 19, 3) := by decide +kernel
theorem dX5_drawn_80 : decode cX5_drawn 80 = .ok (.bipush 13, 2) := by decide +kernel
theorem dX5_drawn_82 : decode cX5_drawn 82 = .ok (.lload 4, 2) := by decide +kernel
theorem dX5_drawn_84 : decode cX5_drawn 84 = .ok (.aload_n 0, 1) := by decide +kernel
theorem dX5_drawn_85 : decode cX5_drawn 85 = .ok (.getfield 19, 3) := by decide +kernel
theorem dX5_drawn_88 : decode cX5_drawn 88 = .ok (.iconst 2, 1) := by decide +kernel
theorem dX5_drawn_89 : decode cX5_drawn 89 = .ok (.iaload, 1) := by decide +kernel
theorem dX5_drawn_90 : decode cX5_drawn 90 = .ok (.i2l, 1) := by decide +kernel
theorem dX5_drawn_91 : decode cX5_drawn 91 = .ok (.lrem, 1) := by decide +kernel
theorem dX5_drawn_92 : decode cX5_drawn 92 = .ok (.l2i, 1) := by decide +kernel
theorem dX5_drawn_93 : decode cX5_drawn 93 = .ok (.iadd, 1) := by decide +kernel
theorem dX5_drawn_94 : decode cX5_drawn 94 = .ok (.lload 4, 2) := by decide +kernel
theorem dX5_drawn_96 : decode cX5_drawn 96 = .ok (.ldc2_w 227, 3) := by decide +kernel
theorem dX5_drawn_99 : decode cX5_drawn 99 = .ok (.lrem, 1) := by decide +kernel
theorem dX5_drawn_100 : decode cX5_drawn 100 = .ok (.l2i, 1) := by decide +kernel
theorem dX5_drawn_101 : decode cX5_drawn 101 = .ok (.iastore, 1) := by decide +kernel
theorem dX5_drawn_102 : decode cX5_drawn 102 = .ok (.lload 4, 2) := by decide +kernel
theorem dX5_drawn_104 : decode cX5_drawn 104 = .ok (.ldc2_w 160, 3) := by decide +kernel
theorem dX5_drawn_107 : decode cX5_drawn 107 = .ok (.lrem, 1) := by decide +kernel
theorem dX5_drawn_108 : decode cX5_drawn 108 = .ok (.lconst 0, 1) := by decide +kernel
theorem dX5_drawn_109 : decode cX5_drawn 109 = .ok (.lcmp, 1) := by decide +kernel
theorem dX5_drawn_110 : decode cX5_drawn 110 = .ok (.ifCond .ne 8, 3) := by decide +kernel
theorem dX5_drawn_113 : decode cX5_drawn 113 = .ok (.aload_n 0, 1) := by decide +kernel
theorem dX5_drawn_114 : decode cX5_drawn 114 = .ok (.iconst 5, 1) := by decide +kernel
theorem dX5_drawn_115 : decode cX5_drawn 115 = .ok (.invokevirtual 164, 3) := by decide +kernel
theorem dX5_drawn_118 : decode cX5_drawn 118 = .ok (.aload_n 0, 1) := by decide +kernel
theorem dX5_drawn_119 : decode cX5_drawn 119 = .ok (.invokevirtual 152, 3) := by decide +kernel
theorem dX5_drawn_122 : decode cX5_drawn 122 = .ok (.aload_n 0, 1) := by decide +kernel
theorem dX5_drawn_123 : decode cX5_drawn 123 = .ok (.getfield 19, 3) := by decide +kernel
theorem dX5_drawn_126 : decode cX5_drawn 126 = .ok (.iconst 5, 1) := by decide +kernel
theorem dX5_drawn_127 : decode cX5_drawn 127 = .ok (.iaload, 1) := by decide +kernel
theorem dX5_drawn_128 : decode cX5_drawn 128 = .ok (.iload 6, 2) := by decide +kernel
theorem dX5_drawn_130 : decode cX5_drawn 130 = .ok (.if_icmp .le 12, 3) := by decide +kernel
theorem dX5_drawn_133 : decode cX5_drawn 133 = .ok (.aload_n 0, 1) := by decide +kernel
theorem dX5_drawn_134 : decode cX5_drawn 134 = .ok (.getfield 19, 3) := by decide +kernel
theorem dX5_drawn_137 : decode cX5_drawn 137 = .ok (.iconst 5, 1) := by decide +kernel
theorem dX5_drawn_138 : decode cX5_drawn 138 = .ok (.iaload, 1) := by decide +kernel
theorem dX5_drawn_139 : decode cX5_drawn 139 = .ok (.goto 5, 3) := by decide +kernel
theorem dX5_drawn_142 : decode cX5_drawn 142 = .ok (.iload 6, 2) := by decide +kernel
theorem dX5_drawn_144 : decode cX5_drawn 144 = .ok (.istore 6, 2) := by decide +kernel
theorem dX5_drawn_146 : decode cX5_drawn 146 = .ok (.iinc 7 1, 3) := by decide +kernel
theorem dX5_drawn_149 : decode cX5_drawn 149 = .ok (.goto (-91), 3) := by decide +kernel
theorem dX5_drawn_152 : decode cX5_drawn 152 = .ok (.iload_n 3, 1) := by decide +kernel
theorem dX5_drawn_153 : decode cX5_drawn 153 = .ok (.ifCond .ne 12, 3) := by decide +kernel
theorem dX5_drawn_156 : decode cX5_drawn 156 = .ok (.aload_n 0, 1) := by decide +kernel
theorem dX5_drawn_157 : decode cX5_drawn 157 = .ok (.getfield 19, 3) := by decide +kernel
theorem dX5_drawn_160 : decode cX5_drawn 160 = .ok (.iconst 5, 1) := by decide +kernel
theorem dX5_drawn_161 : decode cX5_drawn 161 = .ok (.iaload, 1) := by decide +kernel
theorem dX5_drawn_162 : decode cX5_drawn 162 = .ok (.goto 5, 3) := by decide +kernel
theorem dX5_drawn_165 : decode cX5_drawn 165 = .ok (.iload 6, 2) := by decide +kernel
theorem dX5_drawn_167 : decode cX5_drawn 167 = .ok (.istore 7, 2) := by decide +kernel
theorem dX5_drawn_169 : decode cX5_drawn 169 = .ok (.aload_n 0, 1) := by decide +kernel
theorem dX5_drawn_170 : decode cX5_drawn 170 = .ok (.invokevirtual 180, 3) := by decide +kernel
theorem dX5_drawn_173 : decode cX5_drawn 173 = .ok (.iload 7, 2) := by decide +kernel
theorem dX5_drawn_175 : decode cX5_drawn 175 = .ok (.ireturn, 1) := by decide +kernel
theorem dX5_image_0 : decode cX5_image 0 = .ok (.iload_n 1, 1) := by decide +kernel
theorem dX5_image_1 : decode cX5_image 1 = .ok (.i2l, 1) := by decide +kernel
theorem dX5_image_2 : decode cX5_image 2 = .ok (.lconst 0, 1) := by decide +kernel
theorem dX5_image_3 : decode cX5_image 3 = .ok (.lconst 1, 1) := by decide +kernel
theorem dX5_image_4 : decode cX5_image 4 = .ok (.invokestatic 54, 3) := by decide +kernel
theorem dX5_image_7 : decode cX5_image 7 = .ok (.ifCond .ne 6, 3) := by decide +kernel
theorem dX5_image_10 : decode cX5_image 10 = .ok (.ldc 64, 2) := by decide +kernel
theorem dX5_image_12 : decode cX5_image 12 = .ok (.ireturn, 1) := by decide +kernel
theorem dX5_image_13 : decode cX5_image 13 = .ok (.aload_n 0, 1) := by decide +kernel
theorem dX5_image_14 : decode cX5_image 14 = .ok (.getfield 132, 3) := by decide +kernel
theorem dX5_image_17 : decode cX5_image 17 = .ok (.ifCond .ne 6, 3) := by decide +kernel
theorem dX5_image_20 : decode cX5_image 20 = .ok (.ldc 146, 2) := by decide +kernel
theorem dX5_image_22 : decode cX5_image 22 = .ok (.ireturn, 1) := by decide +kernel
theorem dX5_image_23 : decode cX5_image 23 = .ok (.iconst 0, 1) := by decide +kernel
theorem dX5_image_24 : decode cX5_image 24 = .ok (.istore_n 2, 1) := by decide +kernel
theorem dX5_image_25 : decode cX5_image 25 = .ok (.iload_n 2, 1) := by decide +kernel
theorem dX5_image_26 : decode cX5_image 26 = .ok (.bipush 48, 2) := by decide +kernel
theorem dX5_image_28 : decode cX5_image 28 = .ok (.if_icmp .ge 26, 3) := by decide +kernel
theorem dX5_image_31 : decode cX5_image 31 = .ok (.aload_n 0, 1) := by decide +kernel
theorem dX5_image_32 : decode cX5_image 32 = .ok (.getfield 41, 3) := by decide +kernel
theorem dX5_image_35 : decode cX5_image 35 = .ok (.bipush 48, 2) := by decide +kernel
theorem dX5_image_37 : decode cX5_image 37 = .ok (.iload_n 1, 1) := by decide +kernel
theorem dX5_image_38 : decode cX5_image 38 = .ok (.imul, 1) := by decide +kernel
theorem dX5_image_39 : decode cX5_image 39 = .ok (.iload_n 2, 1) := by decide +kernel
theorem dX5_image_40 : decode cX5_image 40 = .ok (.iadd, 1) := by decide +kernel
theorem dX5_image_41 : decode cX5_image 41 = .ok (.aload_n 0, 1) := by decide +kernel
theorem dX5_image_42 : decode cX5_image 42 = .ok (.getfield 19, 3) := by decide +kernel
theorem dX5_image_45 : decode cX5_image 45 = .ok (.iload_n 2, 1) := by decide +kernel
theorem dX5_image_46 : decode cX5_image 46 = .ok (.iaload, 1) := by decide +kernel
theorem dX5_image_47 : decode cX5_image 47 = .ok (.iastore, 1) := by decide +kernel
theorem dX5_image_48 : decode cX5_image 48 = .ok (.iinc 2 1, 3) := by decide +kernel
theorem dX5_image_51 : decode cX5_image 51 = .ok (.goto (-26), 3) := by decide +kernel
theorem dX5_image_54 : decode cX5_image 54 = .ok (.aload_n 0, 1) := by decide +kernel
theorem dX5_image_55 : decode cX5_image 55 = .ok (.getfield 37, 3) := by decide +kernel
theorem dX5_image_58 : decode cX5_image 58 = .ok (.iload_n 1, 1) := by decide +kernel
theorem dX5_image_59 : decode cX5_image 59 = .ok (.iconst 1, 1) := by decide +kernel
theorem dX5_image_60 : decode cX5_image 60 = .ok (.bastore, 1) := by decide +kernel
theorem dX5_image_61 : decode cX5_image 61 = .ok (.iconst 1, 1) := by decide +kernel
theorem dX5_image_62 : decode cX5_image 62 = .ok (.ireturn, 1) := by decide +kernel
theorem dX5_restore_0 : decode cX5_restore 0 = .ok (.iload_n 1, 1) := by decide +kernel
theorem dX5_restore_1 : decode cX5_restore 1 = .ok (.i2l, 1) := by decide +kernel
theorem dX5_restore_2 : decode cX5_restore 2 = .ok (.lconst 0, 1) := by decide +kernel
theorem dX5_restore_3 : decode cX5_restore 3 = .ok (.lconst 1, 1) := by decide +kernel
theorem dX5_restore_4 : decode cX5_restore 4 = .ok (.invokestatic 54, 3) := by decide +kernel
theorem dX5_restore_7 : decode cX5_restore 7 = .ok (.ifCond .ne 6, 3) := by decide +kernel
theorem dX5_restore_10 : decode cX5_restore 10 = .ok (.ldc 64, 2) := by decide +kernel
theorem dX5_restore_12 : decode cX5_restore 12 = .ok (.ireturn, 1) := by decide +kernel
theorem dX5_restore_13 : decode cX5_restore 13 = .ok (.aload_n 0, 1) := by decide +kernel
theorem dX5_restore_14 : decode cX5_restore 14 = .ok (.getfield 37, 3) := by decide +kernel
theorem dX5_restore_17 : decode cX5_restore 17 = .ok (.iload_n 1, 1) := by decide +kernel
theorem dX5_restore_18 : decode cX5_restore 18 = .ok (.baload, 1) := by decide +kernel
theorem dX5_restore_19 : decode cX5_restore 19 = .ok (.ifCond .ne 6, 3) := by decide +kernel
theorem dX5_restore_22 : decode cX5_restore 22 = .ok (.ldc 146, 2) := by decide +kernel
theorem dX5_restore_24 : decode cX5_restore 24 = .ok (.ireturn, 1) := by decide +kernel
theorem dX5_restore_25 : decode cX5_restore 25 = .ok (.iconst 0, 1) := by decide +kernel
theorem dX5_restore_26 : decode cX5_restore 26 = .ok (.istore_n 2, 1) := by decide +kernel
theorem dX5_restore_27 : decode cX5_restore 27 = .ok (.iload_n 2, 1) := by decide +kernel
theorem dX5_restore_28 : decode cX5_restore 28 = .ok (.bipush 48, 2) := by decide +kernel
theorem dX5_restore_30 : decode cX5_restore 30 = .ok (.if_icmp .ge 26, 3) := by decide +kernel
theorem dX5_restore_33 : decode cX5_restore 33 = .ok (.aload_n 0, 1) := by decide +kernel
theorem dX5_restore_34 : decode cX5_restore 34 = .ok (.getfield 19, 3) := by decide +kernel
theorem dX5_restore_37 : decode cX5_restore 37 = .ok (.iload_n 2, 1) := by decide +kernel
theorem dX5_restore_38 : decode cX5_restore 38 = .ok (.aload_n 0, 1) := by decide +kernel
theorem dX5_restore_39 : decode cX5_restore 39 = .ok (.getfield 41, 3) := by decide +kernel
theorem dX5_restore_42 : decode cX5_restore 42 = .ok (.bipush 48, 2) := by decide +kernel
theorem dX5_restore_44 : decode cX5_restore 44 = .ok (.iload_n 1, 1) := by decide +kernel
theorem dX5_restore_45 : decode cX5_restore 45 = .ok (.imul, 1) := by decide +kernel
theorem dX5_restore_46 : decode cX5_restore 46 = .ok (.iload_n 2, 1) := by decide +kernel
theorem dX5_restore_47 : decode cX5_restore 47 = .ok (.iadd, 1) := by decide +kernel
theorem dX5_restore_48 : decode cX5_restore 48 = .ok (.iaload, 1) := by decide +kernel
theorem dX5_restore_49 : decode cX5_restore 49 = .ok (.iastore, 1) := by decide +kernel
theorem dX5_restore_50 : decode cX5_restore 50 = .ok (.iinc 2 1, 3) := by decide +kernel
theorem dX5_restore_53 : decode cX5_restore 53 = .ok (.goto (-26), 3) := by decide +kernel
theorem dX5_restore_56 : decode cX5_restore 56 = .ok (.aload_n 0, 1) := by decide +kernel
theorem dX5_restore_57 : decode cX5_restore 57 = .ok (.iconst 0, 1) := by decide +kernel
theorem dX5_restore_58 : decode cX5_restore 58 = .ok (.putfield 136, 3) := by decide +kernel
theorem dX5_restore_61 : decode cX5_restore 61 = .ok (.iconst 1, 1) := by decide +kernel
theorem dX5_restore_62 : decode cX5_restore 62 = .ok (.ireturn, 1) := by decide +kernel
theorem dX5_kind_0 : decode cX5_kind 0 = .ok (.aload_n 0, 1) := by decide +kernel
theorem dX5_kind_1 : decode cX5_kind 1 = .ok (.iload_n 1, 1) := by decide +kernel
theorem dX5_kind_2 : decode cX5_kind 2 = .ok (.invokevirtual 155, 3) := by decide +kernel
theorem dX5_kind_5 : decode cX5_kind 5 = .ok (.ifCond .eq 15, 3) := by decide +kernel
theorem dX5_kind_8 : decode cX5_kind 8 = .ok (.aload_n 0, 1) := by decide +kernel
theorem dX5_kind_9 : decode cX5_kind 9 = .ok (.getfield 19, 3) := by decide +kernel
theorem dX5_kind_12 : decode cX5_kind 12 = .ok (.bipush 6, 2) := by decide +kernel
theorem dX5_kind_14 : decode cX5_kind 14 = .ok (.iload_n 1, 1) := by decide +kernel
theorem dX5_kind_15 : decode cX5_kind 15 = .ok (.iadd, 1) := by decide +kernel
theorem dX5_kind_16 : decode cX5_kind 16 = .ok (.iaload, 1) := by decide +kernel
theorem dX5_kind_17 : decode cX5_kind 17 = .ok (.goto 5, 3) := by decide +kernel
theorem dX5_kind_20 : decode cX5_kind 20 = .ok (.ldc 64, 2) := by decide +kernel
theorem dX5_kind_22 : decode cX5_kind 22 = .ok (.ireturn, 1) := by decide +kernel
theorem dX5_isKind_0 : decode cX5_isKind 0 = .ok (.iload_n 1, 1) := by decide +kernel
theorem dX5_isKind_1 : decode cX5_isKind 1 = .ok (.ifCond .eq 28, 3) := by decide +kernel
theorem dX5_isKind_4 : decode cX5_isKind 4 = .ok (.iload_n 0, 1) := by decide +kernel
theorem dX5_isKind_5 : decode cX5_isKind 5 = .ok (.iload_n 1, 1) := by decide +kernel
theorem dX5_isKind_6 : decode cX5_isKind 6 = .ok (.if_icmp .eq 23, 3) := by decide +kernel
theorem dX5_isKind_9 : decode cX5_isKind 9 = .ok (.iload_n 1, 1) := by decide +kernel
theorem dX5_isKind_10 : decode cX5_isKind 10 = .ok (.iconst 1, 1) := by decide +kernel
theorem dX5_isKind_11 : decode cX5_isKind 11 = .ok (.if_icmp .ne 8, 3) := by decide +kernel
theorem dX5_isKind_14 : decode cX5_isKind 14 = .ok (.iload_n 0, 1) := by decide +kernel
theorem dX5_isKind_15 : decode cX5_isKind 15 = .ok (.iconst 4, 1) := by decide +kernel
theorem dX5_isKind_16 : decode cX5_isKind 16 = .ok (.if_icmp .lt 13, 3) := by decide +kernel
theorem dX5_isKind_19 : decode cX5_isKind 19 = .ok (.iload_n 1, 1) := by decide +kernel
theorem dX5_isKind_20 : decode cX5_isKind 20 = .ok (.iconst 4, 1) := by decide +kernel
theorem dX5_isKind_21 : decode cX5_isKind 21 = .ok (.if_icmp .ne 12, 3) := by decide +kernel
theorem dX5_isKind_24 : decode cX5_isKind 24 = .ok (.iload_n 0, 1) := by decide +kernel
theorem dX5_isKind_25 : decode cX5_isKind 25 = .ok (.iconst 5, 1) := by decide +kernel
theorem dX5_isKind_26 : decode cX5_isKind 26 = .ok (.if_icmp .ne 7, 3) := by decide +kernel
theorem dX5_isKind_29 : decode cX5_isKind 29 = .ok (.iconst 1, 1) := by decide +kernel
theorem dX5_isKind_30 : decode cX5_isKind 30 = .ok (.goto 4, 3) := by decide +kernel
theorem dX5_isKind_33 : decode cX5_isKind 33 = .ok (.iconst 0, 1) := by decide +kernel
theorem dX5_isKind_34 : decode cX5_isKind 34 = .ok (.ireturn, 1) := by decide +kernel
theorem dX5_as_0 : decode cX5_as 0 = .ok (.aload_n 0, 1) := by decide +kernel
theorem dX5_as_1 : decode cX5_as 1 = .ok (.iload_n 1, 1) := by decide +kernel
theorem dX5_as_2 : decode cX5_as 2 = .ok (.invokevirtual 155, 3) := by decide +kernel
theorem dX5_as_5 : decode cX5_as 5 = .ok (.ifCond .eq 15, 3) := by decide +kernel
theorem dX5_as_8 : decode cX5_as 8 = .ok (.iload_n 2, 1) := by decide +kernel
theorem dX5_as_9 : decode cX5_as 9 = .ok (.i2l, 1) := by decide +kernel
theorem dX5_as_10 : decode cX5_as 10 = .ok (.lconst 0, 1) := by decide +kernel
theorem dX5_as_11 : decode cX5_as 11 = .ok (.ldc2_w 229, 3) := by decide +kernel
theorem dX5_as_14 : decode cX5_as 14 = .ok (.invokestatic 54, 3) := by decide +kernel
theorem dX5_as_17 : decode cX5_as 17 = .ok (.ifCond .ne 6, 3) := by decide +kernel
theorem dX5_as_20 : decode cX5_as 20 = .ok (.ldc 64, 2) := by decide +kernel
theorem dX5_as_22 : decode cX5_as 22 = .ok (.ireturn, 1) := by decide +kernel
theorem dX5_as_23 : decode cX5_as 23 = .ok (.aload_n 0, 1) := by decide +kernel
theorem dX5_as_24 : decode cX5_as 24 = .ok (.getfield 19, 3) := by decide +kernel
theorem dX5_as_27 : decode cX5_as 27 = .ok (.bipush 6, 2) := by decide +kernel
theorem dX5_as_29 : decode cX5_as 29 = .ok (.iload_n 1, 1) := by decide +kernel
theorem dX5_as_30 : decode cX5_as 30 = .ok (.iadd, 1) := by decide +kernel
theorem dX5_as_31 : decode cX5_as 31 = .ok (.iaload, 1) := by decide +kernel
theorem dX5_as_32 : decode cX5_as 32 = .ok (.iload_n 2, 1) := by decide +kernel
theorem dX5_as_33 : decode cX5_as 33 = .ok (.invokestatic 231, 3) := by decide +kernel
theorem dX5_as_36 : decode cX5_as 36 = .ok (.ifCond .eq 11, 3) := by decide +kernel
theorem dX5_as_39 : decode cX5_as 39 = .ok (.aload_n 0, 1) := by decide +kernel
theorem dX5_as_40 : decode cX5_as 40 = .ok (.iload_n 1, 1) := by decide +kernel
theorem dX5_as_41 : decode cX5_as 41 = .ok (.invokevirtual 69, 3) := by decide +kernel
theorem dX5_as_44 : decode cX5_as 44 = .ok (.goto 8, 3) := by decide +kernel
theorem dX5_as_47 : decode cX5_as 47 = .ok (.aload_n 0, 1) := by decide +kernel
theorem dX5_as_48 : decode cX5_as 48 = .ok (.iconst 3, 1) := by decide +kernel
theorem dX5_as_49 : decode cX5_as 49 = .ok (.invokevirtual 65, 3) := by decide +kernel
theorem dX5_as_52 : decode cX5_as 52 = .ok (.ireturn, 1) := by decide +kernel
theorem dX5_begin_0 : decode cX5_begin 0 = .ok (.aload_n 0, 1) := by decide +kernel
theorem dX5_begin_1 : decode cX5_begin 1 = .ok (.getfield 234, 3) := by decide +kernel
theorem dX5_begin_4 : decode cX5_begin 4 = .ok (.bipush 16, 2) := by decide +kernel
theorem dX5_begin_6 : decode cX5_begin 6 = .ok (.if_icmp .ge 23, 3) := by decide +kernel
theorem dX5_begin_9 : decode cX5_begin 9 = .ok (.aload_n 0, 1) := by decide +kernel
theorem dX5_begin_10 : decode cX5_begin 10 = .ok (.getfield 44, 3) := by decide +kernel
theorem dX5_begin_13 : decode cX5_begin 13 = .ok (.aload_n 0, 1) := by decide +kernel
theorem dX5_begin_14 : decode cX5_begin 14 = .ok (.getfield 234, 3) := by decide +kernel
theorem dX5_begin_17 : decode cX5_begin 17 = .ok (.iload_n 1, 1) := by decide +kernel
theorem dX5_begin_18 : decode cX5_begin 18 = .ok (.iastore, 1) := by decide +kernel
theorem dX5_begin_19 : decode cX5_begin 19 = .ok (.aload_n 0, 1) := by decide +kernel
theorem dX5_begin_20 : decode cX5_begin 20 = .ok (.dup, 1) := by decide +kernel
theorem dX5_begin_21 : decode cX5_begin 21 = .ok (.getfield 234, 3) := by decide +kernel
theorem dX5_begin_24 : decode cX5_begin 24 = .ok (.iconst 1, 1) := by decide +kernel
theorem dX5_begin_25 : decode cX5_begin 25 = .ok (.iadd, 1) := by decide +kernel
theorem dX5_begin_26 : decode cX5_begin 26 = .ok (.putfield 234, 3) := by decide +kernel
theorem dX5_begin_29 : decode cX5_begin 29 = .ok (.return_, 1) := by decide +kernel
theorem dX5_lent_0 : decode cX5_lent 0 = .ok (.aload_n 0, 1) := by decide +kernel
theorem dX5_lent_1 : decode cX5_lent 1 = .ok (.iload_n 2, 1) := by decide +kernel
theorem dX5_lent_2 : decode cX5_lent 2 = .ok (.invokevirtual 237, 3) := by decide +kernel
theorem dX5_lent_5 : decode cX5_lent 5 = .ok (.iload_n 2, 1) := by decide +kernel
theorem dX5_lent_6 : decode cX5_lent 6 = .ok (.bipush 10, 2) := by decide +kernel
theorem dX5_lent_8 : decode cX5_lent 8 = .ok (.if_icmp .ne 15, 3) := by decide +kernel
theorem dX5_lent_11 : decode cX5_lent 11 = .ok (.aload_n 0, 1) := by decide +kernel
theorem dX5_lent_12 : decode cX5_lent 12 = .ok (.getfield 19, 3) := by decide +kernel
theorem dX5_lent_15 : decode cX5_lent 15 = .ok (.bipush 13, 2) := by decide +kernel
theorem dX5_lent_17 : decode cX5_lent 17 = .ok (.iload_n 1, 1) := by decide +kernel
theorem dX5_lent_18 : decode cX5_lent 18 = .ok (.iadd, 1) := by decide +kernel
theorem dX5_lent_19 : decode cX5_lent 19 = .ok (.iaload, 1) := by decide +kernel
theorem dX5_lent_20 : decode cX5_lent 20 = .ok (.goto 4, 3) := by decide +kernel
theorem dX5_lent_23 : decode cX5_lent 23 = .ok (.iload_n 1, 1) := by decide +kernel
theorem dX5_lent_24 : decode cX5_lent 24 = .ok (.ireturn, 1) := by decide +kernel
theorem dX5_kindlyMark_0 : decode cX5_kindlyMark 0 = .ok (.aload_n 0, 1) := by decide +kernel
theorem dX5_kindlyMark_1 : decode cX5_kindlyMark 1 = .ok (.bipush 21, 2) := by decide +kernel
theorem dX5_kindlyMark_3 : decode cX5_kindlyMark 3 = .ok (.invokevirtual 237, 3) := by decide +kernel
theorem dX5_kindlyMark_6 : decode cX5_kindlyMark 6 = .ok (.aload_n 0, 1) := by decide +kernel
theorem dX5_kindlyMark_7 : decode cX5_kindlyMark 7 = .ok (.iload_n 1, 1) := by decide +kernel
theorem dX5_kindlyMark_8 : decode cX5_kindlyMark 8 = .ok (.bipush 20, 2) := by decide +kernel
theorem dX5_kindlyMark_10 : decode cX5_kindlyMark 10 = .ok (.invokevirtual 240, 3) := by decide +kernel
theorem dX5_kindlyMark_13 : decode cX5_kindlyMark 13 = .ok (.aload_n 0, 1) := by decide +kernel
theorem dX5_kindlyMark_14 : decode cX5_kindlyMark 14 = .ok (.getfield 19, 3) := by decide +kernel
theorem dX5_kindlyMark_17 : decode cX5_kindlyMark 17 = .ok (.bipush 34, 2) := by decide +kernel
theorem dX5_kindlyMark_19 : decode cX5_kindlyMark 19 = .ok (.iload_n 1, 1) := by decide +kernel
theorem dX5_kindlyMark_20 : decode cX5_kindlyMark 20 = .ok (.iadd, 1) := by decide +kernel
theorem dX5_kindlyMark_21 : decode cX5_kindlyMark 21 = .ok (.iaload, 1) := by decide +kernel
theorem dX5_kindlyMark_22 : decode cX5_kindlyMark 22 = .ok (.iadd, 1) := by decide +kernel
theorem dX5_kindlyMark_23 : decode cX5_kindlyMark 23 = .ok (.ireturn, 1) := by decide +kernel
theorem dX5_silentSize_0 : decode cX5_silentSize 0 = .ok (.aload_n 0, 1) := by decide +kernel
theorem dX5_silentSize_1 : decode cX5_silentSize 1 = .ok (.bipush 13, 2) := by decide +kernel
theorem dX5_silentSize_3 : decode cX5_silentSize 3 = .ok (.invokevirtual 237, 3) := by decide +kernel
theorem dX5_silentSize_6 : decode cX5_silentSize 6 = .ok (.aload_n 0, 1) := by decide +kernel
theorem dX5_silentSize_7 : decode cX5_silentSize 7 = .ok (.iload_n 1, 1) := by decide +kernel
theorem dX5_silentSize_8 : decode cX5_silentSize 8 = .ok (.bipush 10, 2) := by decide +kernel
theorem dX5_silentSize_10 : decode cX5_silentSize 10 = .ok (.invokevirtual 240, 3) := by decide +kernel
theorem dX5_silentSize_13 : decode cX5_silentSize 13 = .ok (.bipush 100, 2) := by decide +kernel
theorem dX5_silentSize_15 : decode cX5_silentSize 15 = .ok (.isub, 1) := by decide +kernel
theorem dX5_silentSize_16 : decode cX5_silentSize 16 = .ok (.ireturn, 1) := by decide +kernel
theorem dX5_sizeOfSilent_0 : decode cX5_sizeOfSilent 0 = .ok (.aload_n 0, 1) := by decide +kernel
theorem dX5_sizeOfSilent_1 : decode cX5_sizeOfSilent 1 = .ok (.getfield 19, 3) := by decide +kernel
theorem dX5_sizeOfSilent_4 : decode cX5_sizeOfSilent 4 = .ok (.bipush 6, 2) := by decide +kernel
theorem dX5_sizeOfSilent_6 : decode cX5_sizeOfSilent 6 = .ok (.iload_n 1, 1) := by decide +kernel
theorem dX5_sizeOfSilent_7 : decode cX5_sizeOfSilent 7 = .ok (.iadd, 1) := by decide +kernel
theorem dX5_sizeOfSilent_8 : decode cX5_sizeOfSilent 8 = .ok (.iaload, 1) := by decide +kernel
theorem dX5_sizeOfSilent_9 : decode cX5_sizeOfSilent 9 = .ok (.iconst 5, 1) := by decide +kernel
theorem dX5_sizeOfSilent_10 : decode cX5_sizeOfSilent 10 = .ok (.if_icmp .ne 17, 3) := by decide +kernel
theorem dX5_sizeOfSilent_13 : decode cX5_sizeOfSilent 13 = .ok (.aload_n 0, 1) := by decide +kernel
theorem dX5_sizeOfSilent_14 : decode cX5_sizeOfSilent 14 = .ok (.bipush 14, 2) := by decide +kernel
theorem dX5_sizeOfSilent_16 : decode cX5_sizeOfSilent 16 = .ok (.invokevirtual 237, 3) := by decide +kernel
theorem dX5_sizeOfSilent_19 : decode cX5_sizeOfSilent 19 = .ok (.iconst 2, 1) := by decide +kernel
theorem dX5_sizeOfSilent_20 : decode cX5_sizeOfSilent 20 = .ok (.aload_n 0, 1) := by decide +kernel
theorem dX5_sizeOfSilent_21 : decode cX5_sizeOfSilent 21 = .ok (.iload_n 1, 1) := by decide +kernel
theorem dX5_sizeOfSilent_22 : decode cX5_sizeOfSilent 22 = .ok (.invokevirtual 243, 3) := by decide +kernel
theorem dX5_sizeOfSilent_25 : decode cX5_sizeOfSilent 25 = .ok (.imul, 1) := by decide +kernel
theorem dX5_sizeOfSilent_26 : decode cX5_sizeOfSilent 26 = .ok (.ireturn, 1) := by decide +kernel
theorem dX5_sizeOfSilent_27 : decode cX5_sizeOfSilent 27 = .ok (.aload_n 0, 1) := by decide +kernel
theorem dX5_sizeOfSilent_28 : decode cX5_sizeOfSilent 28 = .ok (.iload_n 1, 1) := by decide +kernel
theorem dX5_sizeOfSilent_29 : decode cX5_sizeOfSilent 29 = .ok (.invokevirtual 243, 3) := by decide +kernel
theorem dX5_sizeOfSilent_32 : decode cX5_sizeOfSilent 32 = .ok (.ireturn, 1) := by decide +kernel
theorem dX5_markOf_0 : decode cX5_markOf 0 = .ok (.aload_n 0, 1) := by decide +kernel
theorem dX5_markOf_1 : decode cX5_markOf 1 = .ok (.getfield 19, 3) := by decide +kernel
theorem dX5_markOf_4 : decode cX5_markOf 4 = .ok (.bipush 6, 2) := by decide +kernel
theorem dX5_markOf_6 : decode cX5_markOf 6 = .ok (.iload_n 1, 1) := by decide +kernel
theorem dX5_markOf_7 : decode cX5_markOf 7 = .ok (.iadd, 1) := by decide +kernel
theorem dX5_markOf_8 : decode cX5_markOf 8 = .ok (.iaload, 1) := by decide +kernel
theorem dX5_markOf_9 : decode cX5_markOf 9 = .ok (.istore_n 2, 1) := by decide +kernel
theorem dX5_markOf_10 : decode cX5_markOf 10 = .ok (.iload_n 2, 1) := by decide +kernel
theorem dX5_markOf_11 : decode cX5_markOf 11 = .ok (.iconst 2, 1) := by decide +kernel
theorem dX5_markOf_12 : decode cX5_markOf 12 = .ok (.if_icmp .ne 17, 3) := by decide +kernel
theorem dX5_markOf_15 : decode cX5_markOf 15 = .ok (.aload_n 0, 1) := by decide +kernel
theorem dX5_markOf_16 : decode cX5_markOf 16 = .ok (.bipush 24, 2) := by decide +kernel
theorem dX5_markOf_18 : decode cX5_markOf 18 = .ok (.invokevirtual 237, 3) := by decide +kernel
theorem dX5_markOf_21 : decode cX5_markOf 21 = .ok (.iconst 2, 1) := by decide +kernel
theorem dX5_markOf_22 : decode cX5_markOf 22 = .ok (.aload_n 0, 1) := by decide +kernel
theorem dX5_markOf_23 : decode cX5_markOf 23 = .ok (.iload_n 1, 1) := by decide +kernel
theorem dX5_markOf_24 : decode cX5_markOf 24 = .ok (.invokevirtual 246, 3) := by decide +kernel
theorem dX5_markOf_27 : decode cX5_markOf 27 = .ok (.imul, 1) := by decide +kernel
theorem dX5_markOf_28 : decode cX5_markOf 28 = .ok (.ireturn, 1) := by decide +kernel
theorem dX5_markOf_29 : decode cX5_markOf 29 = .ok (.iload_n 2, 1) := by decide +kernel
theorem dX5_markOf_30 : decode cX5_markOf 30 = .ok (.iconst 3, 1) := by decide +kernel
theorem dX5_markOf_31 : decode cX5_markOf 31 = .ok (.if_icmp .ne 19, 3) := by decide +kernel
theorem dX5_markOf_34 : decode cX5_markOf 34 = .ok (.aload_n 0, 1) := by decide +kernel
theorem dX5_markOf_35 : decode cX5_markOf 35 = .ok (.bipush 22, 2) := by decide +kernel
theorem dX5_markOf_37 : decode cX5_markOf 37 = .ok (.invokevirtual 237, 3) := by decide +kernel
theorem dX5_markOf_40 : decode cX5_markOf 40 = .ok (.aload_n 0, 1) := by decide +kernel
theorem dX5_markOf_41 : decode cX5_markOf 41 = .ok (.iload_n 1, 1) := by decide +kernel
theorem dX5_markOf_42 : decode cX5_markOf 42 = .ok (.invokevirtual 246, 3) := by decide +kernel
theorem dX5_markOf_45 : decode cX5_markOf 45 = .ok (.sipush 1000, 3) := by decide +kernel
theorem dX5_markOf_48 : decode cX5_markOf 48 = .ok (.isub, 1) := by decide +kernel
theorem dX5_markOf_49 : decode cX5_markOf 49 = .ok (.ireturn, 1) := by decide +kernel
theorem dX5_markOf_50 : decode cX5_markOf 50 = .ok (.iload_n 2, 1) := by decide +kernel
theorem dX5_markOf_51 : decode cX5_markOf 51 = .ok (.iconst 1, 1) := by decide +kernel
theorem dX5_markOf_52 : decode cX5_markOf 52 = .ok (.if_icmp .ne 9, 3) := by decide +kernel
theorem dX5_markOf_55 : decode cX5_markOf 55 = .ok (.aload_n 0, 1) := by decide +kernel
theorem dX5_markOf_56 : decode cX5_markOf 56 = .ok (.iload_n 1, 1) := by decide +kernel
theorem dX5_markOf_57 : decode cX5_markOf 57 = .ok (.invokevirtual 246, 3) := by decide +kernel
theorem dX5_markOf_60 : decode cX5_markOf 60 = .ok (.ireturn, 1) := by decide +kernel
theorem dX5_markOf_61 : decode cX5_markOf 61 = .ok (.aload_n 0, 1) := by decide +kernel
theorem dX5_markOf_62 : decode cX5_markOf 62 = .ok (.bipush 23, 2) := by decide +kernel
theorem dX5_markOf_64 : decode cX5_markOf 64 = .ok (.invokevirtual 237, 3) := by decide +kernel
theorem dX5_markOf_67 : decode cX5_markOf 67 = .ok (.aload_n 0, 1) := by decide +kernel
theorem dX5_markOf_68 : decode cX5_markOf 68 = .ok (.iload_n 1, 1) := by decide +kernel
theorem dX5_markOf_69 : decode cX5_markOf 69 = .ok (.bipush 20, 2) := by decide +kernel
theorem dX5_markOf_71 : decode cX5_markOf 71 = .ok (.invokevirtual 240, 3) := by decide +kernel
theorem dX5_markOf_74 : decode cX5_markOf 74 = .ok (.istore_n 3, 1) := by decide +kernel
theorem dX5_markOf_75 : decode cX5_markOf 75 = .ok (.iload_n 3, 1) := by decide +kernel
theorem dX5_markOf_76 : decode cX5_markOf 76 = .ok (.aload_n 0, 1) := by decide +kernel
theorem dX5_markOf_77 : decode cX5_markOf 77 = .ok (.iload_n 1, 1) := by decide +kernel
theorem dX5_markOf_78 : decode cX5_markOf 78 = .ok (.invokevirtual 249, 3) := by decide +kernel
theorem dX5_markOf_81 : decode cX5_markOf 81 = .ok (.isub, 1) := by decide +kernel
theorem dX5_markOf_82 : decode cX5_markOf 82 = .ok (.ireturn, 1) := by decide +kernel
theorem dX5_kindlySize_0 : decode cX5_kindlySize 0 = .ok (.aload_n 0, 1) := by decide +kernel
theorem dX5_kindlySize_1 : decode cX5_kindlySize 1 = .ok (.bipush 11, 2) := by decide +kernel
theorem dX5_kindlySize_3 : decode cX5_kindlySize 3 = .ok (.invokevirtual 237, 3) := by decide +kernel
theorem dX5_kindlySize_6 : decode cX5_kindlySize 6 = .ok (.aload_n 0, 1) := by decide +kernel
theorem dX5_kindlySize_7 : decode cX5_kindlySize 7 = .ok (.iload_n 1, 1) := by decide +kernel
theorem dX5_kindlySize_8 : decode cX5_kindlySize 8 = .ok (.bipush 10, 2) := by decide +kernel
theorem dX5_kindlySize_10 : decode cX5_kindlySize 10 = .ok (.invokevirtual 240, 3) := by decide +kernel
theorem dX5_kindlySize_13 : decode cX5_kindlySize 13 = .ok (.istore_n 2, 1) := by decide +kernel
theorem dX5_kindlySize_14 : decode cX5_kindlySize 14 = .ok (.iload_n 2, 1) := by decide +kernel
theorem dX5_kindlySize_15 : decode cX5_kindlySize 15 = .ok (.aload_n 0, 1) := by decide +kernel
theorem dX5_kindlySize_16 : decode cX5_kindlySize 16 = .ok (.iload_n 1, 1) := by decide +kernel
theorem dX5_kindlySize_17 : decode cX5_kindlySize 17 = .ok (.invokevirtual 252, 3) := by decide +kernel
theorem dX5_kindlySize_20 : decode cX5_kindlySize 20 = .ok (.iadd, 1) := by decide +kernel
theorem dX5_kindlySize_21 : decode cX5_kindlySize 21 = .ok (.ireturn, 1) := by decide +kernel
theorem dX5_sizeOf_0 : decode cX5_sizeOf 0 = .ok (.aload_n 0, 1) := by decide +kernel
theorem dX5_sizeOf_1 : decode cX5_sizeOf 1 = .ok (.getfield 19, 3) := by decide +kernel
theorem dX5_sizeOf_4 : decode cX5_sizeOf 4 = .ok (.bipush 6, 2) := by decide +kernel
theorem dX5_sizeOf_6 : decode cX5_sizeOf 6 = .ok (.iload_n 1, 1) := by decide +kernel
theorem dX5_sizeOf_7 : decode cX5_sizeOf 7 = .ok (.iadd, 1) := by decide +kernel
theorem dX5_sizeOf_8 : decode cX5_sizeOf 8 = .ok (.iaload, 1) := by decide +kernel
theorem dX5_sizeOf_9 : decode cX5_sizeOf 9 = .ok (.istore_n 2, 1) := by decide +kernel
theorem dX5_sizeOf_10 : decode cX5_sizeOf 10 = .ok (.iload_n 2, 1) := by decide +kernel
theorem dX5_sizeOf_11 : decode cX5_sizeOf 11 = .ok (.iconst 2, 1) := by decide +kernel
theorem dX5_sizeOf_12 : decode cX5_sizeOf 12 = .ok (.if_icmp .ne 16, 3) := by decide +kernel
theorem dX5_sizeOf_15 : decode cX5_sizeOf 15 = .ok (.aload_n 0, 1) := by decide +kernel
theorem dX5_sizeOf_16 : decode cX5_sizeOf 16 = .ok (.bipush 12, 2) := by decide +kernel
theorem dX5_sizeOf_18 : decode cX5_sizeOf 18 = .ok (.invokevirtual 237, 3) := by decide +kernel
theorem dX5_sizeOf_21 : decode cX5_sizeOf 21 = .ok (.aload_n 0, 1) := by decide +kernel
theorem dX5_sizeOf_22 : decode cX5_sizeOf 22 = .ok (.iload_n 1, 1) := by decide +kernel
theorem dX5_sizeOf_23 : decode cX5_sizeOf 23 = .ok (.invokevirtual 255, 3) := by decide +kernel
theorem dX5_sizeOf_26 : decode cX5_sizeOf 26 = .ok (.ineg, 1) := by decide +kernel
theorem dX5_sizeOf_27 : decode cX5_sizeOf 27 = .ok (.ireturn, 1) := by decide +kernel
theorem dX5_sizeOf_28 : decode cX5_sizeOf 28 = .ok (.iload_n 2, 1) := by decide +kernel
theorem dX5_sizeOf_29 : decode cX5_sizeOf 29 = .ok (.iconst 4, 1) := by decide +kernel
theorem dX5_sizeOf_30 : decode cX5_sizeOf 30 = .ok (.if_icmp .lt 11, 3) := by decide +kernel
theorem dX5_sizeOf_33 : decode cX5_sizeOf 33 = .ok (.aload_n 0, 1) := by decide +kernel
theorem dX5_sizeOf_34 : decode cX5_sizeOf 34 = .ok (.iload_n 1, 1) := by decide +kernel
theorem dX5_sizeOf_35 : decode cX5_sizeOf 35 = .ok (.invokevirtual 249, 3) := by decide +kernel
theorem dX5_sizeOf_38 : decode cX5_sizeOf 38 = .ok (.goto 8, 3) := by decide +kernel
theorem dX5_sizeOf_41 : decode cX5_sizeOf 41 = .ok (.aload_n 0, 1) := by decide +kernel
theorem dX5_sizeOf_42 : decode cX5_sizeOf 42 = .ok (.iload_n 1, 1) := by decide +kernel
theorem dX5_sizeOf_43 : decode cX5_sizeOf 43 = .ok (.invokevirtual 255, 3) := by decide +kernel
theorem dX5_sizeOf_46 : decode cX5_sizeOf 46 = .ok (.ireturn, 1) := by decide +kernel
theorem dX5_ask_0 : decode cX5_ask 0 = .ok (.aload_n 0, 1) := by decide +kernel
theorem dX5_ask_1 : decode cX5_ask 1 = .ok (.iload_n 1, 1) := by decide +kernel
theorem dX5_ask_2 : decode cX5_ask 2 = .ok (.invokevirtual 155, 3) := by decide +kernel
theorem dX5_ask_5 : decode cX5_ask 5 = .ok (.ifCond .eq 13, 3) := by decide +kernel
theorem dX5_ask_8 : decode cX5_ask 8 = .ok (.iload_n 2, 1) := by decide +kernel
theorem dX5_ask_9 : decode cX5_ask 9 = .ok (.i2l, 1) := by decide +kernel
theorem dX5_ask_10 : decode cX5_ask 10 = .ok (.lconst 0, 1) := by decide +kernel
theorem dX5_ask_11 : decode cX5_ask 11 = .ok (.lconst 1, 1) := by decide +kernel
theorem dX5_ask_12 : decode cX5_ask 12 = .ok (.invokestatic 54, 3) := by decide +kernel
theorem dX5_ask_15 : decode cX5_ask 15 = .ok (.ifCond .ne 6, 3) := by decide +kernel
theorem dX5_ask_18 : decode cX5_ask 18 = .ok (.ldc 64, 2) := by decide +kernel
theorem dX5_ask_20 : decode cX5_ask 20 = .ok (.ireturn, 1) := by decide +kernel
theorem dX5_ask_21 : decode cX5_ask 21 = .ok (.aload_n 0, 1) := by decide +kernel
theorem dX5_ask_22 : decode cX5_ask 22 = .ok (.iconst 0, 1) := by decide +kernel
theorem dX5_ask_23 : decode cX5_ask 23 = .ok (.putfield 234, 3) := by decide +kernel
theorem dX5_ask_26 : decode cX5_ask 26 = .ok (.iload_n 2, 1) := by decide +kernel
theorem dX5_ask_27 : decode cX5_ask 27 = .ok (.ifCond .ne 11, 3) := by decide +kernel
theorem dX5_ask_30 : decode cX5_ask 30 = .ok (.aload_n 0, 1) := by decide +kernel
theorem dX5_ask_31 : decode cX5_ask 31 = .ok (.iload_n 1, 1) := by decide +kernel
theorem dX5_ask_32 : decode cX5_ask 32 = .ok (.invokevirtual 258, 3) := by decide +kernel
theorem dX5_ask_35 : decode cX5_ask 35 = .ok (.goto 8, 3) := by decide +kernel
theorem dX5_ask_38 : decode cX5_ask 38 = .ok (.aload_n 0, 1) := by decide +kernel
theorem dX5_ask_39 : decode cX5_ask 39 = .ok (.iload_n 1, 1) := by decide +kernel
theorem dX5_ask_40 : decode cX5_ask 40 = .ok (.invokevirtual 252, 3) := by decide +kernel
theorem dX5_ask_43 : decode cX5_ask 43 = .ok (.ireturn, 1) := by decide +kernel
theorem dX5_trace_0 : decode cX5_trace 0 = .ok (.iload_n 1, 1) := by decide +kernel
theorem dX5_trace_1 : decode cX5_trace 1 = .ok (.i2l, 1) := by decide +kernel
theorem dX5_trace_2 : decode cX5_trace 2 = .ok (.lconst 0, 1) := by decide +kernel
theorem dX5_trace_3 : decode cX5_trace 3 = .ok (.aload_n 0, 1) := by decide +kernel
theorem dX5_trace_4 : decode cX5_trace 4 = .ok (.getfield 234, 3) := by decide +kernel
theorem dX5_trace_7 : decode cX5_trace 7 = .ok (.iconst 1, 1) := by decide +kernel
theorem dX5_trace_8 : decode cX5_trace 8 = .ok (.isub, 1) := by decide +kernel
theorem dX5_trace_9 : decode cX5_trace 9 = .ok (.i2l, 1) := by decide +kernel
theorem dX5_trace_10 : decode cX5_trace 10 = .ok (.invokestatic 54, 3) := by decide +kernel
theorem dX5_trace_13 : decode cX5_trace 13 = .ok (.ifCond .eq 12, 3) := by decide +kernel
theorem dX5_trace_16 : decode cX5_trace 16 = .ok (.aload_n 0, 1) := by decide +kernel
theorem dX5_trace_17 : decode cX5_trace 17 = .ok (.getfield 44, 3) := by decide +kernel
theorem dX5_trace_20 : decode cX5_trace 20 = .ok (.iload_n 1, 1) := by decide +kernel
theorem dX5_trace_21 : decode cX5_trace 21 = .ok (.iaload, 1) := by decide +kernel
theorem dX5_trace_22 : decode cX5_trace 22 = .ok (.goto 5, 3) := by decide +kernel
theorem dX5_trace_25 : decode cX5_trace 25 = .ok (.ldc 186, 2) := by decide +kernel
theorem dX5_trace_27 : decode cX5_trace 27 = .ok (.ireturn, 1) := by decide +kernel
theorem dX5_count_0 : decode cX5_count 0 = .ok (.iconst 0, 1) := by decide +kernel
theorem dX5_count_1 : decode cX5_count 1 = .ok (.istore_n 2, 1) := by decide +kernel
theorem dX5_count_2 : decode cX5_count 2 = .ok (.iconst 0, 1) := by decide +kernel
theorem dX5_count_3 : decode cX5_count 3 = .ok (.istore_n 3, 1) := by decide +kernel
theorem dX5_count_4 : decode cX5_count 4 = .ok (.iload_n 3, 1) := by decide +kernel
theorem dX5_count_5 : decode cX5_count 5 = .ok (.bipush 8, 2) := by decide +kernel
theorem dX5_count_7 : decode cX5_count 7 = .ok (.if_icmp .ge 26, 3) := by decide +kernel
theorem dX5_count_10 : decode cX5_count 10 = .ok (.iload_n 2, 1) := by decide +kernel
theorem dX5_count_11 : decode cX5_count 11 = .ok (.aload_n 0, 1) := by decide +kernel
theorem dX5_count_12 : decode cX5_count 12 = .ok (.getfield 13, 3) := by decide +kernel
theorem dX5_count_15 : decode cX5_count 15 = .ok (.iload_n 3, 1) := by decide +kernel
theorem dX5_count_16 : decode cX5_count 16 = .ok (.iaload, 1) := by decide +kernel
theorem dX5_count_17 : decode cX5_count 17 = .ok (.ifCond .lt 7, 3) := by decide +kernel
theorem dX5_count_20 : decode cX5_count 20 = .ok (.iconst 1, 1) := by decide +kernel
theorem dX5_count_21 : decode cX5_count 21 = .ok (.goto 4, 3) := by decide +kernel
theorem dX5_count_24 : decode cX5_count 24 = .ok (.iconst 0, 1) := by decide +kernel
theorem dX5_count_25 : decode cX5_count 25 = .ok (.iadd, 1) := by decide +kernel
theorem dX5_count_26 : decode cX5_count 26 = .ok (.istore_n 2, 1) := by decide +kernel
theorem dX5_count_27 : decode cX5_count 27 = .ok (.iinc 3 1, 3) := by decide +kernel
theorem dX5_count_30 : decode cX5_count 30 = .ok (.goto (-26), 3) := by decide +kernel
theorem dX5_count_33 : decode cX5_count 33 = .ok (.iload_n 1, 1) := by decide +kernel
theorem dX5_count_34 : decode cX5_count 34 = .ok (.tableswitch 93 0 7 #[46, 48, 55, 62, 69, 76, 83, 88], 46) := by decide +kernel
theorem dX5_count_80 : decode cX5_count 80 = .ok (.iload_n 2, 1) := by decide +kernel
theorem dX5_count_81 : decode cX5_count 81 = .ok (.ireturn, 1) := by decide +kernel
theorem dX5_count_82 : decode cX5_count 82 = .ok (.aload_n 0, 1) := by decide +kernel
theorem dX5_count_83 : decode cX5_count 83 = .ok (.getfield 19, 3) := by decide +kernel
theorem dX5_count_86 : decode cX5_count 86 = .ok (.iconst 2, 1) := by decide +kernel
theorem dX5_count_87 : decode cX5_count 87 = .ok (.iaload, 1) := by decide +kernel
theorem dX5_count_88 : decode cX5_count 88 = .ok (.ireturn, 1) := by decide +kernel
theorem dX5_count_89 : decode cX5_count 89 = .ok (.aload_n 0, 1) := by decide +kernel
theorem dX5_count_90 : decode cX5_count 90 = .ok (.getfield 19, 3) := by decide +kernel
theorem dX5_count_93 : decode cX5_count 93 = .ok (.iconst 3, 1) := by decide +kernel
theorem dX5_count_94 : decode cX5_count 94 = .ok (.iaload, 1) := by decide +kernel
theorem dX5_count_95 : decode cX5_count 95 = .ok (.ireturn, 1) := by decide +kernel
theorem dX5_count_96 : decode cX5_count 96 = .ok (.aload_n 0, 1) := by decide +kernel
theorem dX5_count_97 : decode cX5_count 97 = .ok (.getfield 19, 3) := by decide +kernel
theorem dX5_count_100 : decode cX5_count 100 = .ok (.iconst 5, 1) := by decide +kernel
theorem dX5_count_101 : decode cX5_count 101 = .ok (.iaload, 1) := by decide +kernel
theorem dX5_count_102 : decode cX5_count 102 = .ok (.ireturn, 1) := by decide +kernel
theorem dX5_count_103 : decode cX5_count 103 = .ok (.aload_n 0, 1) := by decide +kernel
theorem dX5_count_104 : decode cX5_count 104 = .ok (.bipush 41, 2) := by decide +kernel
theorem dX5_count_106 : decode cX5_count 106 = .ok (.invokevirtual 171, 3) := by decide +kernel
theorem dX5_count_109 : decode cX5_count 109 = .ok (.ireturn, 1) := by decide +kernel
theorem dX5_count_110 : decode cX5_count 110 = .ok (.aload_n 0, 1) := by decide +kernel
theorem dX5_count_111 : decode cX5_count 111 = .ok (.getfield 19, 3) := by decide +kernel
theorem dX5_count_114 : decode cX5_count 114 = .ok (.iconst 4, 1) := by decide +kernel
theorem dX5_count_115 : decode cX5_count 115 = .ok (.iaload, 1) := by decide +kernel
theorem dX5_count_116 : decode cX5_count 116 = .ok (.ireturn, 1) := by decide +kernel
theorem dX5_count_117 : decode cX5_count 117 = .ok (.aload_n 0, 1) := by decide +kernel
theorem dX5_count_118 : decode cX5_count 118 = .ok (.getfield 136, 3) := by decide +kernel
theorem dX5_count_121 : decode cX5_count 121 = .ok (.ireturn, 1) := by decide +kernel
theorem dX5_count_122 : decode cX5_count 122 = .ok (.aload_n 0, 1) := by decide +kernel
theorem dX5_count_123 : decode cX5_count 123 = .ok (.getfield 78, 3) := by decide +kernel
theorem dX5_count_126 : decode cX5_count 126 = .ok (.ireturn, 1) := by decide +kernel
theorem dX5_count_127 : decode cX5_count 127 = .ok (.ldc 64, 2) := by decide +kernel
theorem dX5_count_129 : decode cX5_count 129 = .ok (.ireturn, 1) := by decide +kernel
theorem dX5_status_0 : decode cX5_status 0 = .ok (.aload_n 0, 1) := by decide +kernel
theorem dX5_status_1 : decode cX5_status 1 = .ok (.getfield 47, 3) := by decide +kernel
theorem dX5_status_4 : decode cX5_status 4 = .ok (.ireturn, 1) := by decide +kernel
