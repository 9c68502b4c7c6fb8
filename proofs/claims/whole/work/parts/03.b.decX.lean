theorem dX0_init_0 : decode cX0_init 0 = .ok (.aload_n 0, 1) := by decide +kernel
theorem dX0_init_1 : decode cX0_init 1 = .ok (.invokespecial 3, 3) := by decide +kernel
theorem dX0_init_4 : decode cX0_init 4 = .ok (.aload_n 0, 1) := by decide +kernel
theorem dX0_init_5 : decode cX0_init 5 = .ok (.bipush 24, 2) := by decide +kernel
theorem dX0_init_7 : decode cX0_init 7 = .ok (.anewarray 9, 3) := by decide +kernel
theorem dX0_init_10 : decode cX0_init 10 = .ok (.putfield 11, 3) := by decide +kernel
theorem dX0_init_13 : decode cX0_init 13 = .ok (.iconst 0, 1) := by decide +kernel
theorem dX0_init_14 : decode cX0_init 14 = .ok (.istore_n 1, 1) := by decide +kernel
theorem dX0_init_15 : decode cX0_init 15 = .ok (.iload_n 1, 1) := by decide +kernel
theorem dX0_init_16 : decode cX0_init 16 = .ok (.bipush 24, 2) := by decide +kernel
theorem dX0_init_18 : decode cX0_init 18 = .ok (.if_icmp .ge 22, 3) := by decide +kernel
theorem dX0_init_21 : decode cX0_init 21 = .ok (.aload_n 0, 1) := by decide +kernel
theorem dX0_init_22 : decode cX0_init 22 = .ok (.getfield 11, 3) := by decide +kernel
theorem dX0_init_25 : decode cX0_init 25 = .ok (.iload_n 1, 1) := by decide +kernel
theorem dX0_init_26 : decode cX0_init 26 = .ok (.new 9, 3) := by decide +kernel
theorem dX0_init_29 : decode cX0_init 29 = .ok (.dup, 1) := by decide +kernel
theorem dX0_init_30 : decode cX0_init 30 = .ok (.invokespecial 17, 3) := by decide +kernel
theorem dX0_init_33 : decode cX0_init 33 = .ok (.aastore, 1) := by decide +kernel
theorem dX0_init_34 : decode cX0_init 34 = .ok (.iinc 1 1, 3) := by decide +kernel
theorem dX0_init_37 : decode cX0_init 37 = .ok (.goto (-22), 3) := by decide +kernel
theorem dX0_init_40 : decode cX0_init 40 = .ok (.return_, 1) := by decide +kernel
theorem dX0_keep_0 : decode cX0_keep 0 = .ok (.aload_n 0, 1) := by decide +kernel
theorem dX0_keep_1 : decode cX0_keep 1 = .ok (.getfield 11, 3) := by decide +kernel
theorem dX0_keep_4 : decode cX0_keep 4 = .ok (.aload_n 0, 1) := by decide +kernel
theorem dX0_keep_5 : decode cX0_keep 5 = .ok (.getfield 18, 3) := by decide +kernel
theorem dX0_keep_8 : decode cX0_keep 8 = .ok (.aaload, 1) := by decide +kernel
theorem dX0_keep_9 : decode cX0_keep 9 = .ok (.aload_n 1, 1) := by decide +kernel
theorem dX0_keep_10 : decode cX0_keep 10 = .ok (.invokevirtual 22, 3) := by decide +kernel
theorem dX0_keep_13 : decode cX0_keep 13 = .ok (.aload_n 0, 1) := by decide +kernel
theorem dX0_keep_14 : decode cX0_keep 14 = .ok (.aload_n 0, 1) := by decide +kernel
theorem dX0_keep_15 : decode cX0_keep 15 = .ok (.getfield 18, 3) := by decide +kernel
theorem dX0_keep_18 : decode cX0_keep 18 = .ok (.iconst 1, 1) := by decide +kernel
theorem dX0_keep_19 : decode cX0_keep 19 = .ok (.iadd, 1) := by decide +kernel
theorem dX0_keep_20 : decode cX0_keep 20 = .ok (.bipush 24, 2) := by decide +kernel
theorem dX0_keep_22 : decode cX0_keep 22 = .ok (.irem, 1) := by decide +kernel
theorem dX0_keep_23 : decode cX0_keep 23 = .ok (.putfield 18, 3) := by decide +kernel
theorem dX0_keep_26 : decode cX0_keep 26 = .ok (.aload_n 0, 1) := by decide +kernel
theorem dX0_keep_27 : decode cX0_keep 27 = .ok (.bipush 24, 2) := by decide +kernel
theorem dX0_keep_29 : decode cX0_keep 29 = .ok (.aload_n 0, 1) := by decide +kernel
theorem dX0_keep_30 : decode cX0_keep 30 = .ok (.getfield 26, 3) := by decide +kernel
theorem dX0_keep_33 : decode cX0_keep 33 = .ok (.iconst 1, 1) := by decide +kernel
theorem dX0_keep_34 : decode cX0_keep 34 = .ok (.iadd, 1) := by decide +kernel
theorem dX0_keep_35 : decode cX0_keep 35 = .ok (.invokestatic 29, 3) := by decide +kernel
theorem dX0_keep_38 : decode cX0_keep 38 = .ok (.putfield 26, 3) := by decide +kernel
theorem dX0_keep_41 : decode cX0_keep 41 = .ok (.return_, 1) := by decide +kernel
theorem dX0_undoLatest_0 : decode cX0_undoLatest 0 = .ok (.aload_n 0, 1) := by decide +kernel
theorem dX0_undoLatest_1 : decode cX0_undoLatest 1 = .ok (.getfield 26, 3) := by decide +kernel
theorem dX0_undoLatest_4 : decode cX0_undoLatest 4 = .ok (.ifCond .ne 5, 3) := by decide +kernel
theorem dX0_undoLatest_7 : decode cX0_undoLatest 7 = .ok (.iconst 0, 1) := by decide +kernel
theorem dX0_undoLatest_8 : decode cX0_undoLatest 8 = .ok (.ireturn, 1) := by decide +kernel
theorem dX0_undoLatest_9 : decode cX0_undoLatest 9 = .ok (.aload_n 0, 1) := by decide +kernel
theorem dX0_undoLatest_10 : decode cX0_undoLatest 10 = .ok (.aload_n 0, 1) := by decide +kernel
theorem dX0_undoLatest_11 : decode cX0_undoLatest 11 = .ok (.getfield 18, 3) := by decide +kernel
theorem dX0_undoLatest_14 : decode cX0_undoLatest 14 = .ok (.bipush 24, 2) := by decide +kernel
theorem dX0_undoLatest_16 : decode cX0_undoLatest 16 = .ok (.iadd, 1) := by decide +kernel
theorem dX0_undoLatest_17 : decode cX0_undoLatest 17 = .ok (.iconst 1, 1) := by decide +kernel
theorem dX0_undoLatest_18 : decode cX0_undoLatest 18 = .ok (.isub, 1) := by decide +kernel
theorem dX0_undoLatest_19 : decode cX0_undoLatest 19 = .ok (.bipush 24, 2) := by decide +kernel
theorem dX0_undoLatest_21 : decode cX0_undoLatest 21 = .ok (.irem, 1) := by decide +kernel
theorem dX0_undoLatest_22 : decode cX0_undoLatest 22 = .ok (.putfield 18, 3) := by decide +kernel
theorem dX0_undoLatest_25 : decode cX0_undoLatest 25 = .ok (.aload_n 0, 1) := by decide +kernel
theorem dX0_undoLatest_26 : decode cX0_undoLatest 26 = .ok (.dup, 1) := by decide +kernel
theorem dX0_undoLatest_27 : decode cX0_undoLatest 27 = .ok (.getfield 26, 3) := by decide +kernel
theorem dX0_undoLatest_30 : decode cX0_undoLatest 30 = .ok (.iconst 1, 1) := by decide +kernel
theorem dX0_undoLatest_31 : decode cX0_undoLatest 31 = .ok (.isub, 1) := by decide +kernel
theorem dX0_undoLatest_32 : decode cX0_undoLatest 32 = .ok (.putfield 26, 3) := by decide +kernel
theorem dX0_undoLatest_35 : decode cX0_undoLatest 35 = .ok (.aload_n 1, 1) := by decide +kernel
theorem dX0_undoLatest_36 : decode cX0_undoLatest 36 = .ok (.aload_n 0, 1) := by decide +kernel
theorem dX0_undoLatest_37 : decode cX0_undoLatest 37 = .ok (.getfield 11, 3) := by decide +kernel
theorem dX0_undoLatest_40 : decode cX0_undoLatest 40 = .ok (.aload_n 0, 1) := by decide +kernel
theorem dX0_undoLatest_41 : decode cX0_undoLatest 41 = .ok (.getfield 18, 3) := by decide +kernel
theorem dX0_undoLatest_44 : decode cX0_undoLatest 44 = .ok (.aaload, 1) := by decide +kernel
theorem dX0_undoLatest_45 : decode cX0_undoLatest 45 = .ok (.invokevirtual 22, 3) := by decide +kernel
theorem dX0_undoLatest_48 : decode cX0_undoLatest 48 = .ok (.iconst 1, 1) := by decide +kernel
theorem dX0_undoLatest_49 : decode cX0_undoLatest 49 = .ok (.ireturn, 1) := by decide +kernel
theorem dX0_forgetAll_0 : decode cX0_forgetAll 0 = .ok (.aload_n 0, 1) := by decide +kernel
theorem dX0_forgetAll_1 : decode cX0_forgetAll 1 = .ok (.iconst 0, 1) := by decide +kernel
theorem dX0_forgetAll_2 : decode cX0_forgetAll 2 = .ok (.putfield 26, 3) := by decide +kernel
theorem dX0_forgetAll_5 : decode cX0_forgetAll 5 = .ok (.return_, 1) := by decide +kernel
theorem dX1_init_0 : decode cX1_init 0 = .ok (.aload_n 0, 1) := by decide +kernel
theorem dX1_init_1 : decode cX1_init 1 = .ok (.invokespecial 3, 3) := by decide +kernel
theorem dX1_init_4 : decode cX1_init 4 = .ok (.aload_n 0, 1) := by decide +kernel
theorem dX1_init_5 : decode cX1_init 5 = .ok (.bipush 40, 2) := by decide +kernel
theorem dX1_init_7 : decode cX1_init 7 = .ok (.newarray .int, 2) := by decide +kernel
theorem dX1_init_9 : decode cX1_init 9 = .ok (.putfield 9, 3) := by decide +kernel
theorem dX1_init_12 : decode cX1_init 12 = .ok (.aload_n 0, 1) := by decide +kernel
theorem dX1_init_13 : decode cX1_init 13 = .ok (.iconst (-1), 1) := by decide +kernel
theorem dX1_init_14 : decode cX1_init 14 = .ok (.putfield 15, 3) := by decide +kernel
theorem dX1_init_17 : decode cX1_init 17 = .ok (.return_, 1) := by decide +kernel
theorem dX1_isMissing_0 : decode cX1_isMissing 0 = .ok (.aload_n 0, 1) := by decide +kernel
theorem dX1_isMissing_1 : decode cX1_isMissing 1 = .ok (.getfield 15, 3) := by decide +kernel
theorem dX1_isMissing_4 : decode cX1_isMissing 4 = .ok (.iconst (-1), 1) := by decide +kernel
theorem dX1_isMissing_5 : decode cX1_isMissing 5 = .ok (.if_icmp .ne 7, 3) := by decide +kernel
theorem dX1_isMissing_8 : decode cX1_isMissing 8 = .ok (.iconst 1, 1) := by decide +kernel
theorem dX1_isMissing_9 : decode cX1_isMissing 9 = .ok (.goto 4, 3) := by decide +kernel
theorem dX1_isMissing_12 : decode cX1_isMissing 12 = .ok (.iconst 0, 1) := by decide +kernel
theorem dX1_isMissing_13 : decode cX1_isMissing 13 = .ok (.ireturn, 1) := by decide +kernel
theorem dX1_begin_0 : decode cX1_begin 0 = .ok (.aload_n 0, 1) := by decide +kernel
theorem dX1_begin_1 : decode cX1_begin 1 = .ok (.iload_n 1, 1) := by decide +kernel
theorem dX1_begin_2 : decode cX1_begin 2 = .ok (.putfield 15, 3) := by decide +kernel
theorem dX1_begin_5 : decode cX1_begin 5 = .ok (.aload_n 0, 1) := by decide +kernel
theorem dX1_begin_6 : decode cX1_begin 6 = .ok (.iload_n 2, 1) := by decide +kernel
theorem dX1_begin_7 : decode cX1_begin 7 = .ok (.putfield 19, 3) := by decide +kernel
theorem dX1_begin_10 : decode cX1_begin 10 = .ok (.aload_n 0, 1) := by decide +kernel
theorem dX1_begin_11 : decode cX1_begin 11 = .ok (.getfield 9, 3) := by decide +kernel
theorem dX1_begin_14 : decode cX1_begin 14 = .ok (.iconst 0, 1) := by decide +kernel
theorem dX1_begin_15 : decode cX1_begin 15 = .ok (.invokestatic 22, 3) := by decide +kernel
theorem dX1_begin_18 : decode cX1_begin 18 = .ok (.return_, 1) := by decide +kernel
theorem dX1_has_0 : decode cX1_has 0 = .ok (.iload_n 1, 1) := by decide +kernel
theorem dX1_has_1 : decode cX1_has 1 = .ok (.ifCond .lt 21, 3) := by decide +kernel
theorem dX1_has_4 : decode cX1_has 4 = .ok (.iload_n 2, 1) := by decide +kernel
theorem dX1_has_5 : decode cX1_has 5 = .ok (.ifCond .lt 17, 3) := by decide +kernel
theorem dX1_has_8 : decode cX1_has 8 = .ok (.iload_n 1, 1) := by decide +kernel
theorem dX1_has_9 : decode cX1_has 9 = .ok (.aload_n 0, 1) := by decide +kernel
theorem dX1_has_10 : decode cX1_has 10 = .ok (.getfield 19, 3) := by decide +kernel
theorem dX1_has_13 : decode cX1_has 13 = .ok (.iload_n 2, 1) := by decide +kernel
theorem dX1_has_14 : decode cX1_has 14 = .ok (.isub, 1) := by decide +kernel
theorem dX1_has_15 : decode cX1_has 15 = .ok (.if_icmp .gt 7, 3) := by decide +kernel
theorem dX1_has_18 : decode cX1_has 18 = .ok (.iconst 1, 1) := by decide +kernel
theorem dX1_has_19 : decode cX1_has 19 = .ok (.goto 4, 3) := by decide +kernel
theorem dX1_has_22 : decode cX1_has 22 = .ok (.iconst 0, 1) := by decide +kernel
theorem dX1_has_23 : decode cX1_has 23 = .ok (.ireturn, 1) := by decide +kernel
theorem dX1_findingOf_0 : decode cX1_findingOf 0 = .ok (.aload_n 0, 1) := by decide +kernel
theorem dX1_findingOf_1 : decode cX1_findingOf 1 = .ok (.invokevirtual 28, 3) := by decide +kernel
theorem dX1_findingOf_4 : decode cX1_findingOf 4 = .ok (.ifCond .eq 5, 3) := by decide +kernel
theorem dX1_findingOf_7 : decode cX1_findingOf 7 = .ok (.iconst 1, 1) := by decide +kernel
theorem dX1_findingOf_8 : decode cX1_findingOf 8 = .ok (.ireturn, 1) := by decide +kernel
theorem dX1_findingOf_9 : decode cX1_findingOf 9 = .ok (.aload_n 0, 1) := by decide +kernel
theorem dX1_findingOf_10 : decode cX1_findingOf 10 = .ok (.iload_n 1, 1) := by decide +kernel
theorem dX1_findingOf_11 : decode cX1_findingOf 11 = .ok (.iload_n 2, 1) := by decide +kernel
theorem dX1_findingOf_12 : decode cX1_findingOf 12 = .ok (.invokevirtual 32, 3) := by decide +kernel
theorem dX1_findingOf_15 : decode cX1_findingOf 15 = .ok (.ifCond .eq 7, 3) := by decide +kernel
theorem dX1_findingOf_18 : decode cX1_findingOf 18 = .ok (.iconst 0, 1) := by decide +kernel
theorem dX1_findingOf_19 : decode cX1_findingOf 19 = .ok (.goto 4, 3) := by decide +kernel
theorem dX1_findingOf_22 : decode cX1_findingOf 22 = .ok (.iconst 2, 1) := by decide +kernel
theorem dX1_findingOf_23 : decode cX1_findingOf 23 = .ok (.ireturn, 1) := by decide +kernel
theorem dX1_put_0 : decode cX1_put 0 = .ok (.aload_n 0, 1) := by decide +kernel
theorem dX1_put_1 : decode cX1_put 1 = .ok (.getfield 15, 3) := by decide +kernel
theorem dX1_put_4 : decode cX1_put 4 = .ok (.lookupswitch 50 #[(0, 28), (1, 39)], 28) := by decide +kernel
theorem dX1_put_32 : decode cX1_put 32 = .ok (.aload_n 0, 1) := by decide +kernel
theorem dX1_put_33 : decode cX1_put 33 = .ok (.getfield 9, 3) := by decide +kernel
theorem dX1_put_36 : decode cX1_put 36 = .ok (.iload_n 1, 1) := by decide +kernel
theorem dX1_put_37 : decode cX1_put 37 = .ok (.iload_n 2, 1) := by decide +kernel
theorem dX1_put_38 : decode cX1_put 38 = .ok (.i2b, 1) := by decide +kernel
theorem dX1_put_39 : decode cX1_put 39 = .ok (.iastore, 1) := by decide +kernel
theorem dX1_put_40 : decode cX1_put 40 = .ok (.goto 21, 3) := by decide +kernel
theorem dX1_put_43 : decode cX1_put 43 = .ok (.aload_n 0, 1) := by decide +kernel
theorem dX1_put_44 : decode cX1_put 44 = .ok (.getfield 9, 3) := by decide +kernel
theorem dX1_put_47 : decode cX1_put 47 = .ok (.iload_n 1, 1) := by decide +kernel
theorem dX1_put_48 : decode cX1_put 48 = .ok (.iload_n 2, 1) := by decide +kernel
theorem dX1_put_49 : decode cX1_put 49 = .ok (.i2s, 1) := by decide +kernel
theorem dX1_put_50 : decode cX1_put 50 = .ok (.iastore, 1) := by decide +kernel
theorem dX1_put_51 : decode cX1_put 51 = .ok (.goto 10, 3) := by decide +kernel
theorem dX1_put_54 : decode cX1_put 54 = .ok (.aload_n 0, 1) := by decide +kernel
theorem dX1_put_55 : decode cX1_put 55 = .ok (.getfield 9, 3) := by decide +kernel
theorem dX1_put_58 : decode cX1_put 58 = .ok (.iload_n 1, 1) := by decide +kernel
theorem dX1_put_59 : decode cX1_put 59 = .ok (.iload_n 2, 1) := by decide +kernel
theorem dX1_put_60 : decode cX1_put 60 = .ok (.iastore, 1) := by decide +kernel
theorem dX1_put_61 : decode cX1_put 61 = .ok (.aload_n 0, 1) := by decide +kernel
theorem dX1_put_62 : decode cX1_put 62 = .ok (.getfield 9, 3) := by decide +kernel
theorem dX1_put_65 : decode cX1_put 65 = .ok (.iload_n 1, 1) := by decide +kernel
theorem dX1_put_66 : decode cX1_put 66 = .ok (.iaload, 1) := by decide +kernel
theorem dX1_put_67 : decode cX1_put 67 = .ok (.ireturn, 1) := by decide +kernel
theorem dX2_init_0 : decode cX2_init 0 = .ok (.aload_n 0, 1) := by decide +kernel
theorem dX2_init_1 : decode cX2_init 1 = .ok (.invokespecial 3, 3) := by decide +kernel
theorem dX2_init_4 : decode cX2_init 4 = .ok (.aload_n 0, 1) := by decide +kernel
theorem dX2_init_5 : decode cX2_init 5 = .ok (.bipush 7, 2) := by decide +kernel
theorem dX2_init_7 : decode cX2_init 7 = .ok (.newarray .int, 2) := by decide +kernel
theorem dX2_init_9 : decode cX2_init 9 = .ok (.putfield 9, 3) := by decide +kernel
theorem dX2_init_12 : decode cX2_init 12 = .ok (.aload_n 0, 1) := by decide +kernel
theorem dX2_init_13 : decode cX2_init 13 = .ok (.bipush 7, 2) := by decide +kernel
theorem dX2_init_15 : decode cX2_init 15 = .ok (.newarray .int, 2) := by decide +kernel
theorem dX2_init_17 : decode cX2_init 17 = .ok (.putfield 15, 3) := by decide +kernel
theorem dX2_init_20 : decode cX2_init 20 = .ok (.aload_n 0, 1) := by decide +kernel
theorem dX2_init_21 : decode cX2_init 21 = .ok (.bipush 7, 2) := by decide +kernel
theorem dX2_init_23 : decode cX2_init 23 = .ok (.newarray .int, 2) := by decide +kernel
theorem dX2_init_25 : decode cX2_init 25 = .ok (.putfield 18, 3) := by decide +kernel
theorem dX2_init_28 : decode cX2_init 28 = .ok (.aload_n 0, 1) := by decide +kernel
theorem dX2_init_29 : decode cX2_init 29 = .ok (.bipush 7, 2) := by decide +kernel
theorem dX2_init_31 : decode cX2_init 31 = .ok (.newarray .int, 2) := by decide +kernel
theorem dX2_init_33 : decode cX2_init 33 = .ok (.putfield 21, 3) := by decide +kernel
theorem dX2_init_36 : decode cX2_init 36 = .ok (.aload_n 0, 1) := by decide +kernel
theorem dX2_init_37 : decode cX2_init 37 = .ok (.bipush 7, 2) := by decide +kernel
theorem dX2_init_39 : decode cX2_init 39 = .ok (.newarray .int, 2) := by decide +kernel
theorem dX2_init_41 : decode cX2_init 41 = .ok (.putfield 24, 3) := by decide +kernel
theorem dX2_init_44 : decode cX2_init 44 = .ok (.aload_n 0, 1) := by decide +kernel
theorem dX2_init_45 : decode cX2_init 45 = .ok (.bipush 7, 2) := by decide +kernel
theorem dX2_init_47 : decode cX2_init 47 = .ok (.newarray .int, 2) := by decide +kernel
theorem dX2_init_49 : decode cX2_init 49 = .ok (.putfield 27, 3) := by decide +kernel
theorem dX2_init_52 : decode cX2_init 52 = .ok (.return_, 1) := by decide +kernel
theorem dX2_stands_0 : decode cX2_stands 0 = .ok (.aload_n 0, 1) := by decide +kernel
theorem dX2_stands_1 : decode cX2_stands 1 = .ok (.getfield 30, 3) := by decide +kernel
theorem dX2_stands_4 : decode cX2_stands 4 = .ok (.ifCond .le 7, 3) := by decide +kernel
theorem dX2_stands_7 : decode cX2_stands 7 = .ok (.iconst 1, 1) := by decide +kernel
theorem dX2_stands_8 : decode cX2_stands 8 = .ok (.goto 4, 3) := by decide +kernel
theorem dX2_stands_11 : decode cX2_stands 11 = .ok (.iconst 0, 1) := by decide +kernel
theorem dX2_stands_12 : decode cX2_stands 12 = .ok (.ireturn, 1) := by decide +kernel
theorem dX2_takeFrom_0 : decode cX2_takeFrom 0 = .ok (.aload_n 0, 1) := by decide +kernel
theorem dX2_takeFrom_1 : decode cX2_takeFrom 1 = .ok (.aload_n 1, 1) := by decide +kernel
theorem dX2_takeFrom_2 : decode cX2_takeFrom 2 = .ok (.getfield 34, 3) := by decide +kernel
theorem dX2_takeFrom_5 : decode cX2_takeFrom 5 = .ok (.putfield 34, 3) := by decide +kernel
theorem dX2_takeFrom_8 : decode cX2_takeFrom 8 = .ok (.aload_n 0, 1) := by decide +kernel
theorem dX2_takeFrom_9 : decode cX2_takeFrom 9 = .ok (.aload_n 1, 1) := by decide +kernel
theorem dX2_takeFrom_10 : decode cX2_takeFrom 10 = .ok (.getfield 37, 3) := by decide +kernel
theorem dX2_takeFrom_13 : decode cX2_takeFrom 13 = .ok (.putfield 37, 3) := by decide +kernel
theorem dX2_takeFrom_16 : decode cX2_takeFrom 16 = .ok (.aload_n 0, 1) := by decide +kernel
theorem dX2_takeFrom_17 : decode cX2_takeFrom 17 = .ok (.aload_n 1, 1) := by decide +kernel
theorem dX2_takeFrom_18 : decode cX2_takeFrom 18 = .ok (.getfield 30, 3) := by decide +kernel
theorem dX2_takeFrom_21 : decode cX2_takeFrom 21 = .ok (.putfield 30, 3) := by decide +kernel
theorem dX2_takeFrom_24 : decode cX2_takeFrom 24 = .ok (.aload_n 0, 1) := by decide +kernel
theorem dX2_takeFrom_25 : decode cX2_takeFrom 25 = .ok (.aload_n 1, 1) := by decide +kernel
theorem dX2_takeFrom_26 : decode cX2_takeFrom 26 = .ok (.getfield 40, 3) := by decide +kernel
theorem dX2_takeFrom_29 : decode cX2_takeFrom 29 = .ok (.putfield 40, 3) := by decide +kernel
theorem dX2_takeFrom_32 : decode cX2_takeFrom 32 = .ok (.aload_n 0, 1) := by decide +kernel
theorem dX2_takeFrom_33 : decode cX2_takeFrom 33 = .ok (.aload_n 1, 1) := by decide +kernel
theorem dX2_takeFrom_34 : decode cX2_takeFrom 34 = .ok (.getfield 43, 3) := by decide +kernel
theorem dX2_takeFrom_37 : decode cX2_takeFrom 37 = .ok (.putfield 43, 3) := by decide +kernel
theorem dX2_takeFrom_40 : decode cX2_takeFrom 40 = .ok (.aload_n 0, 1) := by decide +kernel
theorem dX2_takeFrom_41 : decode cX2_takeFrom 41 = .ok (.aload_n 1, 1) := by decide +kernel
theorem dX2_takeFrom_42 : decode cX2_takeFrom 42 = .ok (.getfield 46, 3) := by decide +kernel
theorem dX2_takeFrom_45 : decode cX2_takeFrom 45 = .ok (.putfield 46, 3) := by decide +kernel
theorem dX2_takeFrom_48 : decode cX2_takeFrom 48 = .ok (.aload_n 1, 1) := by decide +kernel
theorem dX2_takeFrom_49 : decode cX2_takeFrom 49 = .ok (.getfield 9, 3) := by decide +kernel
theorem dX2_takeFrom_52 : decode cX2_takeFrom 52 = .ok (.iconst 0, 1) := by decide +kernel
theorem dX2_takeFrom_53 : decode cX2_takeFrom 53 = .ok (.aload_n 0, 1) := by decide +kernel
theorem dX2_takeFrom_54 : decode cX2_takeFrom 54 = .ok (.getfield 9, 3) := by decide +kernel
theorem dX2_takeFrom_57 : decode cX2_takeFrom 57 = .ok (.iconst 0, 1) := by decide +kernel
theorem dX2_takeFrom_58 : decode cX2_takeFrom 58 = .ok (.bipush 7, 2) := by decide +kernel
theorem dX2_takeFrom_60 : decode cX2_takeFrom 60 = .ok (.invokestatic 49, 3) := by decide +kernel
theorem dX2_takeFrom_63 : decode cX2_takeFrom 63 = .ok (.aload_n 1, 1) := by decide +kernel
theorem dX2_takeFrom_64 : decode cX2_takeFrom 64 = .ok (.getfield 15, 3) := by decide +kernel
theorem dX2_takeFrom_67 : decode cX2_takeFrom 67 = .ok (.iconst 0, 1) := by decide +kernel
theorem dX2_takeFrom_68 : decode cX2_takeFrom 68 = .ok (.aload_n 0, 1) := by decide +kernel
theorem dX2_takeFrom_69 : decode cX2_takeFrom 69 = .ok (.getfield 15, 3) := by decide +kernel
theorem dX2_takeFrom_72 : decode cX2_takeFrom 72 = .ok (.iconst 0, 1) := by decide +kernel
theorem dX2_takeFrom_73 : decode cX2_takeFrom 73 = .ok (.bipush 7, 2) := by decide +kernel
theorem dX2_takeFrom_75 : decode cX2_takeFrom 75 = .ok (.invokestatic 49, 3) := by decide +kernel
theorem dX2_takeFrom_78 : decode cX2_takeFrom 78 = .ok (.aload_n 1, 1) := by decide +kernel
theorem dX2_takeFrom_79 : decode cX2_takeFrom 79 = .ok (.getfield 18, 3) := by decide +kernel
theorem dX2_takeFrom_82 : decode cX2_takeFrom 82 = .ok (.iconst 0, 1) := by decide +kernel
theorem dX2_takeFrom_83 : decode cX2_takeFrom 83 = .ok (.aload_n 0, 1) := by decide +kernel
theorem dX2_takeFrom_84 : decode cX2_takeFrom 84 = .ok (.getfield 18, 3) := by decide +kernel
theorem dX2_takeFrom_87 : decode cX2_takeFrom 87 = .ok (.iconst 0, 1) := by decide +kernel
theorem dX2_takeFrom_88 : decode cX2_takeFrom 88 = .ok (.bipush 7, 2) := by decide +kernel
theorem dX2_takeFrom_90 : decode cX2_takeFrom 90 = .ok (.invokestatic 49, 3) := by decide +kernel
theorem dX2_takeFrom_93 : decode cX2_takeFrom 93 = .ok (.aload_n 1, 1) := by decide +kernel
theorem dX2_takeFrom_94 : decode cX2_takeFrom 94 = .ok (.getfield 21, 3) := by decide +kernel
theorem dX2_takeFrom_97 : decode cX2_takeFrom 97 = .ok (.iconst 0, 1) := by decide +kernel
theorem dX2_takeFrom_98 : decode cX2_takeFrom 98 = .ok (.aload_n 0, 1) := by decide +kernel
theorem dX2_takeFrom_99 : decode cX2_takeFrom 99 = .ok (.getfield 21, 3) := by decide +kernel
theorem dX2_takeFrom_102 : decode cX2_takeFrom 102 = .ok (.iconst 0, 1) := by decide +kernel
theorem dX2_takeFrom_103 : decode cX2_takeFrom 103 = .ok (.bipush 7, 2) := by decide +kernel
theorem dX2_takeFrom_105 : decode cX2_takeFrom 105 = .ok (.invokestatic 49, 3) := by decide +kernel
theorem dX2_takeFrom_108 : decode cX2_takeFrom 108 = .ok (.aload_n 1, 1) := by decide +kernel
theorem dX2_takeFrom_109 : decode cX2_takeFrom 109 = .ok (.getfield 24, 3) := by decide +kernel
theorem dX2_takeFrom_112 : decode cX2_takeFrom 112 = .ok (.iconst 0, 1) := by decide +kernel
theorem dX2_takeFrom_113 : decode cX2_takeFrom 113 = .ok (.aload_n 0, 1) := by decide +kernel
theorem dX2_takeFrom_114 : decode cX2_takeFrom 114 = .ok (.getfield 24, 3) := by decide +kernel
theorem dX2_takeFrom_117 : decode cX2_takeFrom 117 = .ok (.iconst 0, 1) := by decide +kernel
theorem dX2_takeFrom_118 : decode cX2_takeFrom 118 = .ok (.bipush 7, 2) := by decide +kernel
theorem dX2_takeFrom_120 : decode cX2_takeFrom 120 = .ok (.invokestatic 49, 3) := by decide +kernel
theorem dX2_takeFrom_123 : decode cX2_takeFrom 123 = .ok (.aload_n 1, 1) := by decide +kernel
theorem dX2_takeFrom_124 : decode cX2_takeFrom 124 = .ok (.getfield 27, 3) := by decide +kernel
theorem dX2_takeFrom_127 : decode cX2_takeFrom 127 = .ok (.iconst 0, 1) := by decide +kernel
theorem dX2_takeFrom_128 : decode cX2_takeFrom 128 = .ok (.aload_n 0, 1) := by decide +kernel
theorem dX2_takeFrom_129 : decode cX2_takeFrom 129 = .ok (.getfield 27, 3) := by decide +kernel
theorem dX2_takeFrom_132 : decode cX2_takeFrom 132 = .ok (.iconst 0, 1) := by decide +kernel
theorem dX2_takeFrom_133 : decode cX2_takeFrom 133 = .ok (.bipush 7, 2) := by decide +kernel
theorem dX2_takeFrom_135 : decode cX2_takeFrom 135 = .ok (.invokestatic 49, 3) := by decide +kernel
theorem dX2_takeFrom_138 : decode cX2_takeFrom 138 = .ok (.return_, 1) := by decide +kernel
theorem dX2_begin_0 : decode cX2_begin 0 = .ok (.aload_n 0, 1) := by decide +kernel
theorem dX2_begin_1 : decode cX2_begin 1 = .ok (.iload_n 1, 1) := by decide +kernel
theorem dX2_begin_2 : decode cX2_begin 2 = .ok (.putfield 34, 3) := by decide +kernel
theorem dX2_begin_5 : decode cX2_begin 5 = .ok (.aload_n 0, 1) := by decide +kernel
theorem dX2_begin_6 : decode cX2_begin 6 = .ok (.iload_n 2, 1) := by decide +kernel
theorem dX2_begin_7 : decode cX2_begin 7 = .ok (.putfield 37, 3) := by decide +kernel
theorem dX2_begin_10 : decode cX2_begin 10 = .ok (.aload_n 0, 1) := by decide +kernel
theorem dX2_begin_11 : decode cX2_begin 11 = .ok (.iconst 0, 1) := by decide +kernel
theorem dX2_begin_12 : decode cX2_begin 12 = .ok (.putfield 30, 3) := by decide +kernel
theorem dX2_begin_15 : decode cX2_begin 15 = .ok (.aload_n 0, 1) := by decide +kernel
theorem dX2_begin_16 : decode cX2_begin 16 = .ok (.iconst 0, 1) := by decide +kernel
theorem dX2_begin_17 : decode cX2_begin 17 = .ok (.putfield 40, 3) := by decide +kernel
theorem dX2_begin_20 : decode cX2_begin 20 = .ok (.aload_n 0, 1) := by decide +kernel
theorem dX2_begin_21 : decode cX2_begin 21 = .ok (.iconst 0, 1) := by decide +kernel
theorem dX2_begin_22 : decode cX2_begin 22 = .ok (.putfield 43, 3) := by decide +kernel
theorem dX2_begin_25 : decode cX2_begin 25 = .ok (.aload_n 0, 1) := by decide +kernel
theorem dX2_begin_26 : decode cX2_begin 26 = .ok (.iconst 0, 1) := by decide +kernel
theorem dX2_begin_27 : decode cX2_begin 27 = .ok (.putfield 46, 3) := by decide +kernel
theorem dX2_begin_30 : decode cX2_begin 30 = .ok (.return_, 1) := by decide +kernel
theorem dX2_hasRoom_0 : decode cX2_hasRoom 0 = .ok (.aload_n 0, 1) := by decide +kernel
theorem dX2_hasRoom_1 : decode cX2_hasRoom 1 = .ok (.getfield 30, 3) := by decide +kernel
theorem dX2_hasRoom_4 : decode cX2_hasRoom 4 = .ok (.bipush 7, 2) := by decide +kernel
theorem dX2_hasRoom_6 : decode cX2_hasRoom 6 = .ok (.if_icmp .ge 7, 3) := by decide +kernel
theorem dX2_hasRoom_9 : decode cX2_hasRoom 9 = .ok (.iconst 1, 1) := by decide +kernel
theorem dX2_hasRoom_10 : decode cX2_hasRoom 10 = .ok (.goto 4, 3) := by decide +kernel
theorem dX2_hasRoom_13 : decode cX2_hasRoom 13 = .ok (.iconst 0, 1) := by decide +kernel
theorem dX2_hasRoom_14 : decode cX2_hasRoom 14 = .ok (.ireturn, 1) := by decide +kernel
theorem dX2_build_0 : decode cX2_build 0 = .ok (.aload_n 0, 1) := by decide +kernel
theorem dX2_build_1 : decode cX2_build 1 = .ok (.invokevirtual 55, 3) := by decide +kernel
theorem dX2_build_4 : decode cX2_build 4 = .ok (.ifCond .eq 63, 3) := by decide +kernel
theorem dX2_build_7 : decode cX2_build 7 = .ok (.aload_n 0, 1) := by decide +kernel
theorem dX2_build_8 : decode cX2_build 8 = .ok (.getfield 9, 3) := by decide +kernel
theorem dX2_build_11 : decode cX2_build 11 = .ok (.aload_n 0, 1) := by decide +kernel
theorem dX2_build_12 : decode cX2_build 12 = .ok (.getfield 30, 3) := by decide +kernel
theorem dX2_build_15 : decode cX2_build 15 = .ok (.iload_n 1, 1) := by decide +kernel
theorem dX2_build_16 : decode cX2_build 16 = .ok (.iastore, 1) := by decide +kernel
theorem dX2_build_17 : decode cX2_build 17 = .ok (.aload_n 0, 1) := by decide +kernel
theorem dX2_build_18 : decode cX2_build 18 = .ok (.getfield 15, 3) := by decide +kernel
theorem dX2_build_21 : decode cX2_build 21 = .ok (.aload_n 0, 1) := by decide +kernel
theorem dX2_build_22 : decode cX2_build 22 = .ok (.getfield 30, 3) := by decide +kernel
theorem dX2_build_25 : decode cX2_build 25 = .ok (.iload_n 2, 1) := by decide +kernel
theorem dX2_build_26 : decode cX2_build 26 = .ok (.iastore, 1) := by decide +kernel
theorem dX2_build_27 : decode cX2_build 27 = .ok (.aload_n 0, 1) := by decide +kernel
theorem dX2_build_28 : decode cX2_build 28 = .ok (.getfield 18, 3) := by decide +kernel
theorem dX2_build_31 : decode cX2_build 31 = .ok (.aload_n 0, 1) := by decide +kernel
theorem dX2_build_32 : decode cX2_build 32 = .ok (.getfield 30, 3) := by decide +kernel
theorem dX2_build_35 : decode cX2_build 35 = .ok (.iload_n 3, 1) := by decide +kernel
theorem dX2_build_36 : decode cX2_build 36 = .ok (.iastore, 1) := by decide +kernel
theorem dX2_build_37 : decode cX2_build 37 = .ok (.aload_n 0, 1) := by decide +kernel
theorem dX2_build_38 : decode cX2_build 38 = .ok (.getfield 24, 3) := by decide +kernel
theorem dX2_build_41 : decode cX2_build 41 = .ok (.aload_n 0, 1) := by decide +kernel
theorem dX2_build_42 : decode cX2_build 42 = .ok (.getfield 30, 3) := by decide +kernel
theorem dX2_build_45 : decode cX2_build 45 = .ok (.iconst 0, 1) := by decide +kernel
theorem dX2_build_46 : decode cX2_build 46 = .ok (.iastore, 1) := by decide +kernel
theorem dX2_build_47 : decode cX2_build 47 = .ok (.aload_n 0, 1) := by decide +kernel
theorem dX2_build_48 : decode cX2_build 48 = .ok (.aload_n 0, 1) := by decide +kernel
theorem dX2_build_49 : decode cX2_build 49 = .ok (.getfield 30, 3) := by decide +kernel
theorem dX2_build_52 : decode cX2_build 52 = .ok (.iload 4, 2) := by decide +kernel
theorem dX2_build_54 : decode cX2_build 54 = .ok (.invokevirtual 59, 3) := by decide +kernel
theorem dX2_build_57 : decode cX2_build 57 = .ok (.aload_n 0, 1) := by decide +kernel
theorem dX2_build_58 : decode cX2_build 58 = .ok (.dup, 1) := by decide +kernel
theorem dX2_build_59 : decode cX2_build 59 = .ok (.getfield 30, 3) := by decide +kernel
theorem dX2_build_62 : decode cX2_build 62 = .ok (.iconst 1, 1) := by decide +kernel
theorem dX2_build_63 : decode cX2_build 63 = .ok (.iadd, 1) := by decide +kernel
theorem dX2_build_64 : decode cX2_build 64 = .ok (.putfield 30, 3) := by decide +kernel
theorem dX2_build_67 : decode cX2_build 67 = .ok (.return_, 1) := by decide +kernel
theorem dX2_putBars_0 : decode cX2_putBars 0 = .ok (.aload_n 0, 1) := by decide +kernel
theorem dX2_putBars_1 : decode cX2_putBars 1 = .ok (.getfield 21, 3) := by decide +kernel
theorem dX2_putBars_4 : decode cX2_putBars 4 = .ok (.iload_n 1, 1) := by decide +kernel
theorem dX2_putBars_5 : decode cX2_putBars 5 = .ok (.iload_n 2, 1) := by decide +kernel
theorem dX2_putBars_6 : decode cX2_putBars 6 = .ok (.iastore, 1) := by decide +kernel
theorem dX2_putBars_7 : decode cX2_putBars 7 = .ok (.aload_n 0, 1) := by decide +kernel
theorem dX2_putBars_8 : decode cX2_putBars 8 = .ok (.getfield 27, 3) := by decide +kernel
theorem dX2_putBars_11 : decode cX2_putBars 11 = .ok (.iload_n 1, 1) := by decide +kernel
theorem dX2_putBars_12 : decode cX2_putBars 12 = .ok (.iconst 0, 1) := by decide +kernel
theorem dX2_putBars_13 : decode cX2_putBars 13 = .ok (.iastore, 1) := by decide +kernel
theorem dX2_putBars_14 : decode cX2_putBars 14 = .ok (.return_, 1) := by decide +kernel
theorem dX2_lowerPond_0 : decode cX2_lowerPond 0 = .ok (.aload_n 0, 1) := by decide +kernel
theorem dX2_lowerPond_1 : decode cX2_lowerPond 1 = .ok (.iconst 0, 1) := by decide +kernel
theorem dX2_lowerPond_2 : decode cX2_lowerPond 2 = .ok (.aload_n 0, 1) := by decide +kernel
theorem dX2_lowerPond_3 : decode cX2_lowerPond 3 = .ok (.getfield 43, 3) := by decide +kernel
theorem dX2_lowerPond_6 : decode cX2_lowerPond 6 = .ok (.iload_n 1, 1) := by decide +kernel
theorem dX2_lowerPond_7 : decode cX2_lowerPond 7 = .ok (.isub, 1) := by decide +kernel
theorem dX2_lowerPond_8 : decode cX2_lowerPond 8 = .ok (.invokestatic 63, 3) := by decide +kernel
theorem dX2_lowerPond_11 : decode cX2_lowerPond 11 = .ok (.putfield 43, 3) := by decide +kernel
theorem dX2_lowerPond_14 : decode cX2_lowerPond 14 = .ok (.return_, 1) := by decide +kernel
theorem dX2_takeDraw_0 : decode cX2_takeDraw 0 = .ok (.aload_n 0, 1) := by decide +kernel
theorem dX2_takeDraw_1 : decode cX2_takeDraw 1 = .ok (.getfield 30, 3) := by decide +kernel
theorem dX2_takeDraw_4 : decode cX2_takeDraw 4 = .ok (.ifCond .le 18, 3) := by decide +kernel
theorem dX2_takeDraw_7 : decode cX2_takeDraw 7 = .ok (.aload_n 0, 1) := by decide +kernel
theorem dX2_takeDraw_8 : decode cX2_takeDraw 8 = .ok (.getfield 15, 3) := by decide +kernel
theorem dX2_takeDraw_11 : decode cX2_takeDraw 11 = .ok (.iload_n 1, 1) := by decide +kernel
theorem dX2_takeDraw_12 : decode cX2_takeDraw 12 = .ok (.aload_n 0, 1) := by decide +kernel
theorem dX2_takeDraw_13 : decode cX2_takeDraw 13 = .ok (.getfield 30, 3) := by decide +kernel
theorem dX2_takeDraw_16 : decode cX2_takeDraw 16 = .ok (.irem, 1) := by decide +kernel
theorem dX2_takeDraw_17 : decode cX2_takeDraw 17 = .ok (.iload_n 1, 1) := by decide +kernel
theorem dX2_takeDraw_18 : decode cX2_takeDraw 18 = .ok (.bipush 21, 2) := by decide +kernel
theorem dX2_takeDraw_20 : decode cX2_takeDraw 20 = .ok (.irem, 1) := by decide +kernel
theorem dX2_takeDraw_21 : decode cX2_takeDraw 21 = .ok (.iastore, 1) := by decide +kernel
theorem dX2_takeDraw_22 : decode cX2_takeDraw 22 = .ok (.iload_n 1, 1) := by decide +kernel
theorem dX2_takeDraw_23 : decode cX2_takeDraw 23 = .ok (.bipush 9, 2) := by decide +kernel
theorem dX2_takeDraw_25 : decode cX2_takeDraw 25 = .ok (.irem, 1) := by decide +kernel
theorem dX2_takeDraw_26 : decode cX2_takeDraw 26 = .ok (.ifCond .ne 8, 3) := by decide +kernel
theorem dX2_takeDraw_29 : decode cX2_takeDraw 29 = .ok (.aload_n 0, 1) := by decide +kernel
theorem dX2_takeDraw_30 : decode cX2_takeDraw 30 = .ok (.iconst 5, 1) := by decide +kernel
theorem dX2_takeDraw_31 : decode cX2_takeDraw 31 = .ok (.invokevirtual 69, 3) := by decide +kernel
theorem dX2_takeDraw_34 : decode cX2_takeDraw 34 = .ok (.return_, 1) := by decide +kernel
theorem dX2_isHushed_0 : decode cX2_isHushed 0 = .ok (.aload_n 0, 1) := by decide +kernel
theorem dX2_isHushed_1 : decode cX2_isHushed 1 = .ok (.getfield 46, 3) := by decide +kernel
theorem dX2_isHushed_4 : decode cX2_isHushed 4 = .ok (.iload_n 1, 1) := by decide +kernel
theorem dX2_isHushed_5 : decode cX2_isHushed 5 = .ok (.ishr, 1) := by decide +kernel
theorem dX2_isHushed_6 : decode cX2_isHushed 6 = .ok (.iconst 1, 1) := by decide +kernel
theorem dX2_isHushed_7 : decode cX2_isHushed 7 = .ok (.iand, 1) := by decide +kernel
theorem dX2_isHushed_8 : decode cX2_isHushed 8 = .ok (.iconst 1, 1) := by decide +kernel
theorem dX2_isHushed_9 : decode cX2_isHushed 9 = .ok (.if_icmp .ne 7, 3) := by decide +kernel
theorem dX2_isHushed_12 : decode cX2_isHushed 12 = .ok (.iconst 1, 1) := by decide +kernel
theorem dX2_isHushed_13 : decode cX2_isHushed 13 = .ok (.goto 4, 3) := by decide +kernel
theorem dX2_isHushed_16 : decode cX2_isHushed 16 = .ok (.iconst 0, 1) := by decide +kernel
theorem dX2_isHushed_17 : decode cX2_isHushed 17 = .ok (.ireturn, 1) := by decide +kernel
theorem dX2_shedsOf_0 : decode cX2_shedsOf 0 = .ok (.aload_n 0, 1) := by decide +kernel
theorem dX2_shedsOf_1 : decode cX2_shedsOf 1 = .ok (.iload_n 1, 1) := by decide +kernel
theorem dX2_shedsOf_2 : decode cX2_shedsOf 2 = .ok (.invokevirtual 73, 3) := by decide +kernel
theorem dX2_shedsOf_5 : decode cX2_shedsOf 5 = .ok (.ifCond .eq 7, 3) := by decide +kernel
theorem dX2_shedsOf_8 : decode cX2_shedsOf 8 = .ok (.iconst 0, 1) := by decide +kernel
theorem dX2_shedsOf_9 : decode cX2_shedsOf 9 = .ok (.goto 28, 3) := by decide +kernel
theorem dX2_shedsOf_12 : decode cX2_shedsOf 12 = .ok (.aload_n 0, 1) := by decide +kernel
theorem dX2_shedsOf_13 : decode cX2_shedsOf 13 = .ok (.getfield 9, 3) := by decide +kernel
theorem dX2_shedsOf_16 : decode cX2_shedsOf 16 = .ok (.iload_n 1, 1) := by decide +kernel
theorem dX2_shedsOf_17 : decode cX2_shedsOf 17 = .ok (.iaload, 1) := by decide +kernel
theorem dX2_shedsOf_18 : decode cX2_shedsOf 18 = .ok (.aload_n 0, 1) := by decide +kernel
theorem dX2_shedsOf_19 : decode cX2_shedsOf 19 = .ok (.getfield 15, 3) := by decide +kernel
theorem dX2_shedsOf_22 : decode cX2_shedsOf 22 = .ok (.iload_n 1, 1) := by decide +kernel
theorem dX2_shedsOf_23 : decode cX2_shedsOf 23 = .ok (.iaload, 1) := by decide +kernel
theorem dX2_shedsOf_24 : decode cX2_shedsOf 24 = .ok (.aload_n 0, 1) := by decide +kernel
theorem dX2_shedsOf_25 : decode cX2_shedsOf 25 = .ok (.getfield 18, 3) := by decide +kernel
theorem dX2_shedsOf_28 : decode cX2_shedsOf 28 = .ok (.iload_n 1, 1) := by decide +kernel
theorem dX2_shedsOf_29 : decode cX2_shedsOf 29 = .ok (.iaload, 1) := by decide +kernel
theorem dX2_shedsOf_30 : decode cX2_shedsOf 30 = .ok (.aload_n 0, 1) := by decide +kernel
theorem dX2_shedsOf_31 : decode cX2_shedsOf 31 = .ok (.getfield 40, 3) := by decide +kernel
theorem dX2_shedsOf_34 : decode cX2_shedsOf 34 = .ok (.invokestatic 77, 3) := by decide +kernel
theorem dX2_shedsOf_37 : decode cX2_shedsOf 37 = .ok (.ireturn, 1) := by decide +kernel
theorem dX2_passMinutes_0 : decode cX2_passMinutes 0 = .ok (.iconst 0, 1) := by decide +kernel
theorem dX2_passMinutes_1 : decode cX2_passMinutes 1 = .ok (.istore_n 2, 1) := by decide +kernel
theorem dX2_passMinutes_2 : decode cX2_passMinutes 2 = .ok (.iload_n 2, 1) := by decide +kernel
theorem dX2_passMinutes_3 : decode cX2_passMinutes 3 = .ok (.iload_n 1, 1) := by decide +kernel
theorem dX2_passMinutes_4 : decode cX2_passMinutes 4 = .ok (.if_icmp .ge 13, 3) := by decide +kernel
theorem dX2_passMinutes_7 : decode cX2_passMinutes 7 = .ok (.aload_n 0, 1) := by decide +kernel
theorem dX2_passMinutes_8 : decode cX2_passMinutes 8 = .ok (.invokevirtual 81, 3) := by decide +kernel
theorem dX2_passMinutes_11 : decode cX2_passMinutes 11 = .ok (.iinc 2 1, 3) := by decide +kernel
theorem dX2_passMinutes_14 : decode cX2_passMinutes 14 = .ok (.goto (-12), 3) := by decide +kernel
theorem dX2_passMinutes_17 : decode cX2_passMinutes 17 = .ok (.return_, 1) := by decide +kernel
theorem dX2_passMinute_0 : decode cX2_passMinute 0 = .ok (.aload_n 0, 1) := by decide +kernel
theorem dX2_passMinute_1 : decode cX2_passMinute 1 = .ok (.getfield 30, 3) := by decide +kernel
theorem dX2_passMinute_4 : decode cX2_passMinute 4 = .ok (.ifCond .le 16, 3) := by decide +kernel
theorem dX2_passMinute_7 : decode cX2_passMinute 7 = .ok (.aload_n 0, 1) := by decide +kernel
theorem dX2_passMinute_8 : decode cX2_passMinute 8 = .ok (.aload_n 0, 1) := by decide +kernel
theorem dX2_passMinute_9 : decode cX2_passMinute 9 = .ok (.getfield 30, 3) := by decide +kernel
theorem dX2_passMinute_12 : decode cX2_passMinute 12 = .ok (.iconst 1, 1) := by decide +kernel
theorem dX2_passMinute_13 : decode cX2_passMinute 13 = .ok (.isub, 1) := by decide +kernel
theorem dX2_passMinute_14 : decode cX2_passMinute 14 = .ok (.invokevirtual 84, 3) := by decide +kernel
theorem dX2_passMinute_17 : decode cX2_passMinute 17 = .ok (.goto 4, 3) := by decide +kernel
theorem dX2_passMinute_20 : decode cX2_passMinute 20 = .ok (.iconst 0, 1) := by decide +kernel
theorem dX2_passMinute_21 : decode cX2_passMinute 21 = .ok (.istore_n 1, 1) := by decide +kernel
theorem dX2_passMinute_22 : decode cX2_passMinute 22 = .ok (.aload_n 0, 1) := by decide +kernel
theorem dX2_passMinute_23 : decode cX2_passMinute 23 = .ok (.sipush 9999, 3) := by decide +kernel
theorem dX2_passMinute_26 : decode cX2_passMinute 26 = .ok (.aload_n 0, 1) := by decide +kernel
theorem dX2_passMinute_27 : decode cX2_passMinute 27 = .ok (.getfield 43, 3) := by decide +kernel
theorem dX2_passMinute_30 : decode cX2_passMinute 30 = .ok (.iload_n 1, 1) := by decide +kernel
theorem dX2_passMinute_31 : decode cX2_passMinute 31 = .ok (.iadd, 1) := by decide +kernel
theorem dX2_passMinute_32 : decode cX2_passMinute 32 = .ok (.invokestatic 88, 3) := by decide +kernel
theorem dX2_passMinute_35 : decode cX2_passMinute 35 = .ok (.putfield 43, 3) := by decide +kernel
theorem dX2_passMinute_38 : decode cX2_passMinute 38 = .ok (.aload_n 0, 1) := by decide +kernel
theorem dX2_passMinute_39 : decode cX2_passMinute 39 = .ok (.getfield 30, 3) := by decide +kernel
theorem dX2_passMinute_42 : decode cX2_passMinute 42 = .ok (.iconst 1, 1) := by decide +kernel
theorem dX2_passMinute_43 : decode cX2_passMinute 43 = .ok (.isub, 1) := by decide +kernel
theorem dX2_passMinute_44 : decode cX2_passMinute 44 = .ok (.istore_n 2, 1) := by decide +kernel
theorem dX2_passMinute_45 : decode cX2_passMinute 45 = .ok (.iload_n 2, 1) := by decide +kernel
theorem dX2_passMinute_46 : decode cX2_passMinute 46 = .ok (.ifCond .lt 66, 3) := by decide +kernel
theorem dX2_passMinute_49 : decode cX2_passMinute 49 = .ok (.aload_n 0, 1) := by decide +kernel
theorem dX2_passMinute_50 : decode cX2_passMinute 50 = .ok (.getfield 24, 3) := by decide +kernel
theorem dX2_passMinute_53 : decode cX2_passMinute 53 = .ok (.iload_n 2, 1) := by decide +kernel
theorem dX2_passMinute_54 : decode cX2_passMinute 54 = .ok (.iaload, 1) := by decide +kernel
theorem dX2_passMinute_55 : decode cX2_passMinute 55 = .ok (.aload_n 0, 1) := by decide +kernel
theorem dX2_passMinute_56 : decode cX2_passMinute 56 = .ok (.iload_n 2, 1) := by decide +kernel
theorem dX2_passMinute_57 : decode cX2_passMinute 57 = .ok (.invokevirtual 84, 3) := by decide +kernel
theorem dX2_passMinute_60 : decode cX2_passMinute 60 = .ok (.isub, 1) := by decide +kernel
theorem dX2_passMinute_61 : decode cX2_passMinute 61 = .ok (.istore_n 3, 1) := by decide +kernel
theorem dX2_passMinute_62 : decode cX2_passMinute 62 = .ok (.iload_n 2, 1) := by decide +kernel
theorem dX2_passMinute_63 : decode cX2_passMinute 63 = .ok (.ifCond .le 18, 3) := by decide +kernel
theorem dX2_passMinute_66 : decode cX2_passMinute 66 = .ok (.aload_n 0, 1) := by decide +kernel
theorem dX2_passMinute_67 : decode cX2_passMinute 67 = .ok (.iload_n 2, 1) := by decide +kernel
theorem dX2_passMinute_68 : decode cX2_passMinute 68 = .ok (.aload_n 0, 1) := by decide +kernel
theorem dX2_passMinute_69 : decode cX2_passMinute 69 = .ok (.iload_n 2, 1) := by decide +kernel
theorem dX2_passMinute_70 : decode cX2_passMinute 70 = .ok (.iconst 1, 1) := by decide +kernel
theorem dX2_passMinute_71 : decode cX2_passMinute 71 = .ok (.isub, 1) := by decide +kernel
theorem dX2_passMinute_72 : decode cX2_passMinute 72 = .ok (.invokevirtual 84, 3) := by decide +kernel
theorem dX2_passMinute_75 : decode cX2_passMinute 75 = .ok (.invokevirtual 91, 3) := by decide +kernel
theorem dX2_passMinute_78 : decode cX2_passMinute 78 = .ok (.goto 4, 3) := by decide +kernel
theorem dX2_passMinute_81 : decode cX2_passMinute 81 = .ok (.iconst 0, 1) := by decide +kernel
theorem dX2_passMinute_82 : decode cX2_passMinute 82 = .ok (.istore 4, 2) := by decide +kernel
theorem dX2_passMinute_84 : decode cX2_passMinute 84 = .ok (.aload_n 0, 1) := by decide +kernel
theorem dX2_passMinute_85 : decode cX2_passMinute 85 = .ok (.getfield 24, 3) := by decide +kernel
theorem dX2_passMinute_88 : decode cX2_passMinute 88 = .ok (.iload_n 2, 1) := by decide +kernel
theorem dX2_passMinute_89 : decode cX2_passMinute 89 = .ok (.sipush 999, 3) := by decide +kernel
theorem dX2_passMinute_92 : decode cX2_passMinute 92 = .ok (.iload_n 3, 1) := by decide +kernel
theorem dX2_passMinute_93 : decode cX2_passMinute 93 = .ok (.iload 4, 2) := by decide +kernel
theorem dX2_passMinute_95 : decode cX2_passMinute 95 = .ok (.iadd, 1) := by decide +kernel
theorem dX2_passMinute_96 : decode cX2_passMinute 96 = .ok (.aload_n 0, 1) := by decide +kernel
theorem dX2_passMinute_97 : decode cX2_passMinute 97 = .ok (.iload_n 2, 1) := by decide +kernel
theorem dX2_passMinute_98 : decode cX2_passMinute 98 = .ok (.invokevirtual 94, 3) := by decide +kernel
theorem dX2_passMinute_101 : decode cX2_passMinute 101 = .ok (.iadd, 1) := by decide +kernel
theorem dX2_passMinute_102 : decode cX2_passMinute 102 = .ok (.invokestatic 88, 3) := by decide +kernel
theorem dX2_passMinute_105 : decode cX2_passMinute 105 = .ok (.iastore, 1) := by decide +kernel
theorem dX2_passMinute_106 : decode cX2_passMinute 106 = .ok (.iinc 2 (-1), 3) := by decide +kernel
theorem dX2_passMinute_109 : decode cX2_passMinute 109 = .ok (.goto (-64), 3) := by decide +kernel
theorem dX2_passMinute_112 : decode cX2_passMinute 112 = .ok (.aload_n 0, 1) := by decide +kernel
theorem dX2_passMinute_113 : decode cX2_passMinute 113 = .ok (.dup, 1) := by decide +kernel
theorem dX2_passMinute_114 : decode cX2_passMinute 114 = .ok (.getfield 40, 3) := by decide +kernel
theorem dX2_passMinute_117 : decode cX2_passMinute 117 = .ok (.iconst 1, 1) := by decide +kernel
theorem dX2_passMinute_118 : decode cX2_passMinute 118 = .ok (.iadd, 1) := by decide +kernel
theorem dX2_passMinute_119 : decode cX2_passMinute 119 = .ok (.putfield 40, 3) := by decide +kernel
theorem dX2_passMinute_122 : decode cX2_passMinute 122 = .ok (.return_, 1) := by decide +kernel
theorem dX2_flowOf_0 : decode cX2_flowOf 0 = .ok (.aload_n 0, 1) := by decide +kernel
theorem dX2_flowOf_1 : decode cX2_flowOf 1 = .ok (.getfield 34, 3) := by decide +kernel
theorem dX2_flowOf_4 : decode cX2_flowOf 4 = .ok (.aload_n 0, 1) := by decide +kernel
theorem dX2_flowOf_5 : decode cX2_flowOf 5 = .ok (.getfield 24, 3) := by decide +kernel
theorem dX2_flowOf_8 : decode cX2_flowOf 8 = .ok (.iload_n 1, 1) := by decide +kernel
theorem dX2_flowOf_9 : decode cX2_flowOf 9 = .ok (.iaload, 1) := by decide +kernel
theorem dX2_flowOf_10 : decode cX2_flowOf 10 = .ok (.invokestatic 88, 3) := by decide +kernel
theorem dX2_flowOf_13 : decode cX2_flowOf 13 = .ok (.ireturn, 1) := by decide +kernel
theorem dX2_behindBars_0 : decode cX2_behindBars 0 = .ok (.iload_n 2, 1) := by decide +kernel
theorem dX2_behindBars_1 : decode cX2_behindBars 1 = .ok (.ifCond .eq 18, 3) := by decide +kernel
theorem dX2_behindBars_4 : decode cX2_behindBars 4 = .ok (.aload_n 0, 1) := by decide +kernel
theorem dX2_behindBars_5 : decode cX2_behindBars 5 = .ok (.getfield 27, 3) := by decide +kernel
theorem dX2_behindBars_8 : decode cX2_behindBars 8 = .ok (.iload_n 1, 1) := by decide +kernel
theorem dX2_behindBars_9 : decode cX2_behindBars 9 = .ok (.iaload, 1) := by decide +kernel
theorem dX2_behindBars_10 : decode cX2_behindBars 10 = .ok (.aload_n 0, 1) := by decide +kernel
theorem dX2_behindBars_11 : decode cX2_behindBars 11 = .ok (.getfield 21, 3) := by decide +kernel
theorem dX2_behindBars_14 : decode cX2_behindBars 14 = .ok (.iload_n 1, 1) := by decide +kernel
theorem dX2_behindBars_15 : decode cX2_behindBars 15 = .ok (.iaload, 1) := by decide +kernel
theorem dX2_behindBars_16 : decode cX2_behindBars 16 = .ok (.if_icmp .lt 5, 3) := by decide +kernel
theorem dX2_behindBars_19 : decode cX2_behindBars 19 = .ok (.iload_n 2, 1) := by decide +kernel
theorem dX2_behindBars_20 : decode cX2_behindBars 20 = .ok (.ireturn, 1) := by decide +kernel
theorem dX2_behindBars_21 : decode cX2_behindBars 21 = .ok (.aload_n 0, 1) := by decide +kernel
theorem dX2_behindBars_22 : decode cX2_behindBars 22 = .ok (.getfield 27, 3) := by decide +kernel
theorem dX2_behindBars_25 : decode cX2_behindBars 25 = .ok (.iload_n 1, 1) := by decide +kernel
theorem dX2_behindBars_26 : decode cX2_behindBars 26 = .ok (.dup2, 1) := by decide +kernel
theorem dX2_behindBars_27 : decode cX2_behindBars 27 = .ok (.iaload, 1) := by decide +kernel
theorem dX2_behindBars_28 : decode cX2_behindBars 28 = .ok (.iconst 1, 1) := by decide +kernel
theorem dX2_behindBars_29 : decode cX2_behindBars 29 = .ok (.iadd, 1) := by decide +kernel
theorem dX2_behindBars_30 : decode cX2_behindBars 30 = .ok (.iastore, 1) := by decide +kernel
theorem dX2_behindBars_31 : decode cX2_behindBars 31 = .ok (.iload_n 2, 1) := by decide +kernel
theorem dX2_behindBars_32 : decode cX2_behindBars 32 = .ok (.iconst 1, 1) := by decide +kernel
theorem dX2_behindBars_33 : decode cX2_behindBars 33 = .ok (.isub, 1) := by decide +kernel
theorem dX2_behindBars_34 : decode cX2_behindBars 34 = .ok (.ireturn, 1) := by decide +kernel
theorem dX2_isOverPlank_0 : decode cX2_isOverPlank 0 = .ok (.aload_n 0, 1) := by decide +kernel
theorem dX2_isOverPlank_1 : decode cX2_isOverPlank 1 = .ok (.getfield 43, 3) := by decide +kernel
theorem dX2_isOverPlank_4 : decode cX2_isOverPlank 4 = .ok (.aload_n 0, 1) := by decide +kernel
theorem dX2_isOverPlank_5 : decode cX2_isOverPlank 5 = .ok (.getfield 37, 3) := by decide +kernel
theorem dX2_isOverPlank_8 : decode cX2_isOverPlank 8 = .ok (.if_icmp .le 7, 3) := by decide +kernel
theorem dX2_isOverPlank_11 : decode cX2_isOverPlank 11 = .ok (.iconst 1, 1) := by decide +kernel
theorem dX2_isOverPlank_12 : decode cX2_isOverPlank 12 = .ok (.goto 4, 3) := by decide +kernel
theorem dX2_isOverPlank_15 : decode cX2_isOverPlank 15 = .ok (.iconst 0, 1) := by decide +kernel
theorem dX2_isOverPlank_16 : decode cX2_isOverPlank 16 = .ok (.ireturn, 1) := by decide +kernel
theorem dX2_isClearAt_0 : decode cX2_isClearAt 0 = .ok (.iload_n 1, 1) := by decide +kernel
theorem dX2_isClearAt_1 : decode cX2_isClearAt 1 = .ok (.iconst (-1), 1) := by decide +kernel
theorem dX2_isClearAt_2 : decode cX2_isClearAt 2 = .ok (.if_icmp .ne 18, 3) := by decide +kernel
theorem dX2_isClearAt_5 : decode cX2_isClearAt 5 = .ok (.aload_n 0, 1) := by decide +kernel
theorem dX2_isClearAt_6 : decode cX2_isClearAt 6 = .ok (.invokevirtual 97, 3) := by decide +kernel
theorem dX2_isClearAt_9 : decode cX2_isClearAt 9 = .ok (.ifCond .ne 7, 3) := by decide +kernel
theorem dX2_isClearAt_12 : decode cX2_isClearAt 12 = .ok (.iconst 1, 1) := by decide +kernel
theorem dX2_isClearAt_13 : decode cX2_isClearAt 13 = .ok (.goto 21, 3) := by decide +kernel
theorem dX2_isClearAt_16 : decode cX2_isClearAt 16 = .ok (.iconst 0, 1) := by decide +kernel
theorem dX2_isClearAt_17 : decode cX2_isClearAt 17 = .ok (.goto 17, 3) := by decide +kernel
theorem dX2_isClearAt_20 : decode cX2_isClearAt 20 = .ok (.aload_n 0, 1) := by decide +kernel
theorem dX2_isClearAt_21 : decode cX2_isClearAt 21 = .ok (.getfield 24, 3) := by decide +kernel
theorem dX2_isClearAt_24 : decode cX2_isClearAt 24 = .ok (.iload_n 1, 1) := by decide +kernel
theorem dX2_isClearAt_25 : decode cX2_isClearAt 25 = .ok (.iaload, 1) := by decide +kernel
theorem dX2_isClearAt_26 : decode cX2_isClearAt 26 = .ok (.ifCond .ne 7, 3) := by decide +kernel
theorem dX2_isClearAt_29 : decode cX2_isClearAt 29 = .ok (.iconst 1, 1) := by decide +kernel
theorem dX2_isClearAt_30 : decode cX2_isClearAt 30 = .ok (.goto 4, 3) := by decide +kernel
theorem dX2_isClearAt_33 : decode cX2_isClearAt 33 = .ok (.iconst 0, 1) := by decide +kernel
theorem dX2_isClearAt_34 : decode cX2_isClearAt 34 = .ok (.ireturn, 1) := by decide +kernel
theorem dX2_firstFullBars_0 : decode cX2_firstFullBars 0 = .ok (.iconst 0, 1) := by decide +kernel
theorem dX2_firstFullBars_1 : decode cX2_firstFullBars 1 = .ok (.istore_n 1, 1) := by decide +kernel
theorem dX2_firstFullBars_2 : decode cX2_firstFullBars 2 = .ok (.iload_n 1, 1) := by decide +kernel
theorem dX2_firstFullBars_3 : decode cX2_firstFullBars 3 = .ok (.aload_n 0, 1) := by decide +kernel
theorem dX2_firstFullBars_4 : decode cX2_firstFullBars 4 = .ok (.getfield 30, 3) := by decide +kernel
theorem dX2_firstFullBars_7 : decode cX2_firstFullBars 7 = .ok (.if_icmp .ge 35, 3) := by decide +kernel
theorem dX2_firstFullBars_10 : decode cX2_firstFullBars 10 = .ok (.aload_n 0, 1) := by decide +kernel
theorem dX2_firstFullBars_11 : decode cX2_firstFullBars 11 = .ok (.getfield 21, 3) := by decide +kernel
theorem dX2_firstFullBars_14 : decode cX2_firstFullBars 14 = .ok (.iload_n 1, 1) := by decide +kernel
theorem dX2_firstFullBars_15 : decode cX2_firstFullBars 15 = .ok (.iaload, 1) := by decide +kernel
theorem dX2_firstFullBars_16 : decode cX2_firstFullBars 16 = .ok (.ifCond .le 20, 3) := by decide +kernel
theorem dX2_firstFullBars_19 : decode cX2_firstFullBars 19 = .ok (.aload_n 0, 1) := by decide +kernel
theorem dX2_firstFullBars_20 : decode cX2_firstFullBars 20 = .ok (.getfield 27, 3) := by decide +kernel
theorem dX2_firstFullBars_23 : decode cX2_firstFullBars 23 = .ok (.iload_n 1, 1) := by decide +kernel
theorem dX2_firstFullBars_24 : decode cX2_firstFullBars 24 = .ok (.iaload, 1) := by decide +kernel
theorem dX2_firstFullBars_25 : decode cX2_firstFullBars 25 = .ok (.aload_n 0, 1) := by decide +kernel
theorem dX2_firstFullBars_26 : decode cX2_firstFullBars 26 = .ok (.getfield 21, 3) := by decide +kernel
theorem dX2_firstFullBars_29 : decode cX2_firstFullBars 29 = .ok (.iload_n 1, 1) := by decide +kernel
theorem dX2_firstFullBars_30 : decode cX2_firstFullBars 30 = .ok (.iaload, 1) := by decide +kernel
theorem dX2_firstFullBars_31 : decode cX2_firstFullBars 31 = .ok (.if_icmp .ne 5, 3) := by decide +kernel
theorem dX2_firstFullBars_34 : decode cX2_firstFullBars 34 = .ok (.iload_n 1, 1) := by decide +kernel
theorem dX2_firstFullBars_35 : decode cX2_firstFullBars 35 = .ok (.ireturn, 1) := by decide +kernel
theorem dX2_firstFullBars_36 : decode cX2_firstFullBars 36 = .ok (.iinc 1 1, 3) := by decide +kernel
theorem dX2_firstFullBars_39 : decode cX2_firstFullBars 39 = .ok (.goto (-37), 3) := by decide +kernel
theorem dX2_firstFullBars_42 : decode cX2_firstFullBars 42 = .ok (.ldc 100, 2) := by decide +kernel
theorem dX2_firstFullBars_44 : decode cX2_firstFullBars 44 = .ok (.ireturn, 1) := by decide +kernel
theorem dX2_caughtInAll_0 : decode cX2_caughtInAll 0 = .ok (.iconst 0, 1) := by decide +kernel
theorem dX2_caughtInAll_1 : decode cX2_caughtInAll 1 = .ok (.istore_n 1, 1) := by decide +kernel
theorem dX2_caughtInAll_2 : decode cX2_caughtInAll 2 = .ok (.iconst 0, 1) := by decide +kernel
theorem dX2_caughtInAll_3 : decode cX2_caughtInAll 3 = .ok (.istore_n 2, 1) := by decide +kernel
theorem dX2_caughtInAll_4 : decode cX2_caughtInAll 4 = .ok (.iload_n 2, 1) := by decide +kernel
theorem dX2_caughtInAll_5 : decode cX2_caughtInAll 5 = .ok (.aload_n 0, 1) := by decide +kernel
theorem dX2_caughtInAll_6 : decode cX2_caughtInAll 6 = .ok (.getfield 30, 3) := by decide +kernel
theorem dX2_caughtInAll_9 : decode cX2_caughtInAll 9 = .ok (.if_icmp .ge 18, 3) := by decide +kernel
theorem dX2_caughtInAll_12 : decode cX2_caughtInAll 12 = .ok (.iload_n 1, 1) := by decide +kernel
theorem dX2_caughtInAll_13 : decode cX2_caughtInAll 13 = .ok (.aload_n 0, 1) := by decide +kernel
theorem dX2_caughtInAll_14 : decode cX2_caughtInAll 14 = .ok (.getfield 27, 3) := by decide +kernel
theorem dX2_caughtInAll_17 : decode cX2_caughtInAll 17 = .ok (.iload_n 2, 1) := by decide +kernel
theorem dX2_caughtInAll_18 : decode cX2_caughtInAll 18 = .ok (.iaload, 1) := by decide +kernel
theorem dX2_caughtInAll_19 : decode cX2_caughtInAll 19 = .ok (.iadd, 1) := by decide +kernel
theorem dX2_caughtInAll_20 : decode cX2_caughtInAll 20 = .ok (.istore_n 1, 1) := by decide +kernel
theorem dX2_caughtInAll_21 : decode cX2_caughtInAll 21 = .ok (.iinc 2 1, 3) := by decide +kernel
theorem dX2_caughtInAll_24 : decode cX2_caughtInAll 24 = .ok (.goto (-20), 3) := by decide +kernel
theorem dX2_caughtInAll_27 : decode cX2_caughtInAll 27 = .ok (.iload_n 1, 1) := by decide +kernel
theorem dX2_caughtInAll_28 : decode cX2_caughtInAll 28 = .ok (.ireturn, 1) := by decide +kernel
theorem dX2_inAllGutters_0 : decode cX2_inAllGutters 0 = .ok (.iconst 0, 1) := by decide +kernel
theorem dX2_inAllGutters_1 : decode cX2_inAllGutters 1 = .ok (.istore_n 1, 1) := by decide +kernel
theorem dX2_inAllGutters_2 : decode cX2_inAllGutters 2 = .ok (.iconst 0, 1) := by decide +kernel
theorem dX2_inAllGutters_3 : decode cX2_inAllGutters 3 = .ok (.istore_n 2, 1) := by decide +kernel
theorem dX2_inAllGutters_4 : decode cX2_inAllGutters 4 = .ok (.iload_n 2, 1) := by decide +kernel
theorem dX2_inAllGutters_5 : decode cX2_inAllGutters 5 = .ok (.aload_n 0, 1) := by decide +kernel
theorem dX2_inAllGutters_6 : decode cX2_inAllGutters 6 = .ok (.getfield 30, 3) := by decide +kernel
theorem dX2_inAllGutters_9 : decode cX2_inAllGutters 9 = .ok (.if_icmp .ge 18, 3) := by decide +kernel
theorem dX2_inAllGutters_12 : decode cX2_inAllGutters 12 = .ok (.iload_n 1, 1) := by decide +kernel
theorem dX2_inAllGutters_13 : decode cX2_inAllGutters 13 = .ok (.aload_n 0, 1) := by decide +kernel
theorem dX2_inAllGutters_14 : decode cX2_inAllGutters 14 = .ok (.getfield 24, 3) := by decide +kernel
theorem dX2_inAllGutters_17 : decode cX2_inAllGutters 17 = .ok (.iload_n 2, 1) := by decide +kernel
theorem dX2_inAllGutters_18 : decode cX2_inAllGutters 18 = .ok (.iaload, 1) := by decide +kernel
theorem dX2_inAllGutters_19 : decode cX2_inAllGutters 19 = .ok (.iadd, 1) := by decide +kernel
theorem dX2_inAllGutters_20 : decode cX2_inAllGutters 20 = .ok (.istore_n 1, 1) := by decide +kernel
theorem dX2_inAllGutters_21 : decode cX2_inAllGutters 21 = .ok (.iinc 2 1, 3) := by decide +kernel
theorem dX2_inAllGutters_24 : decode cX2_inAllGutters 24 = .ok (.goto (-20), 3) := by decide +kernel
theorem dX2_inAllGutters_27 : decode cX2_inAllGutters 27 = .ok (.iload_n 1, 1) := by decide +kernel
theorem dX2_inAllGutters_28 : decode cX2_inAllGutters 28 = .ok (.ireturn, 1) := by decide +kernel
theorem dX2_dryGutters_0 : decode cX2_dryGutters 0 = .ok (.iconst 0, 1) := by decide +kernel
theorem dX2_dryGutters_1 : decode cX2_dryGutters 1 = .ok (.istore_n 1, 1) := by decide +kernel
theorem dX2_dryGutters_2 : decode cX2_dryGutters 2 = .ok (.iconst 0, 1) := by decide +kernel
theorem dX2_dryGutters_3 : decode cX2_dryGutters 3 = .ok (.istore_n 2, 1) := by decide +kernel
theorem dX2_dryGutters_4 : decode cX2_dryGutters 4 = .ok (.iload_n 2, 1) := by decide +kernel
theorem dX2_dryGutters_5 : decode cX2_dryGutters 5 = .ok (.aload_n 0, 1) := by decide +kernel
theorem dX2_dryGutters_6 : decode cX2_dryGutters 6 = .ok (.getfield 30, 3) := by decide +kernel
theorem dX2_dryGutters_9 : decode cX2_dryGutters 9 = .ok (.if_icmp .ge 24, 3) := by decide +kernel
theorem dX2_dryGutters_12 : decode cX2_dryGutters 12 = .ok (.aload_n 0, 1) := by decide +kernel
theorem dX2_dryGutters_13 : decode cX2_dryGutters 13 = .ok (.getfield 24, 3) := by decide +kernel
theorem dX2_dryGutters_16 : decode cX2_dryGutters 16 = .ok (.iload_n 2, 1) := by decide +kernel
theorem dX2_dryGutters_17 : decode cX2_dryGutters 17 = .ok (.iaload, 1) := by decide +kernel
theorem dX2_dryGutters_18 : decode cX2_dryGutters 18 = .ok (.ifCond .ne 9, 3) := by decide +kernel
theorem dX2_dryGutters_21 : decode cX2_dryGutters 21 = .ok (.iload_n 1, 1) := by decide +kernel
theorem dX2_dryGutters_22 : decode cX2_dryGutters 22 = .ok (.iconst 1, 1) := by decide +kernel
theorem dX2_dryGutters_23 : decode cX2_dryGutters 23 = .ok (.iload_n 2, 1) := by decide +kernel
theorem dX2_dryGutters_24 : decode cX2_dryGutters 24 = .ok (.ishl, 1) := by decide +kernel
theorem dX2_dryGutters_25 : decode cX2_dryGutters 25 = .ok (.ior, 1) := by decide +kernel
theorem dX2_dryGutters_26 : decode cX2_dryGutters 26 = .ok (.istore_n 1, 1) := by decide +kernel
theorem dX2_dryGutters_27 : decode cX2_dryGutters 27 = .ok (.iinc 2 1, 3) := by decide +kernel
theorem dX2_dryGutters_30 : decode cX2_dryGutters 30 = .ok (.goto (-26), 3) := by decide +kernel
theorem dX2_dryGutters_33 : decode cX2_dryGutters 33 = .ok (.iload_n 1, 1) := by decide +kernel
theorem dX2_dryGutters_34 : decode cX2_dryGutters 34 = .ok (.ireturn, 1) := by decide +kernel
theorem dX3_init_0 : decode cX3_init 0 = .ok (.aload_n 0, 1) := by decide +kernel
theorem dX3_init_1 : decode cX3_init 1 = .ok (.invokespecial 3, 3) := by decide +kernel
theorem dX3_init_4 : decode cX3_init 4 = .ok (.aload_n 0, 1) := by decide +kernel
theorem dX3_init_5 : decode cX3_init 5 = .ok (.bipush 120, 2) := by decide +kernel
theorem dX3_init_7 : decode cX3_init 7 = .ok (.newarray .int, 2) := by decide +kernel
theorem dX3_init_9 : decode cX3_init 9 = .ok (.putfield 9, 3) := by decide +kernel
theorem dX3_init_12 : decode cX3_init 12 = .ok (.return_, 1) := by decide +kernel
theorem dX3_add_0 : decode cX3_add 0 = .ok (.aload_n 0, 1) := by decide +kernel
theorem dX3_add_1 : decode cX3_add 1 = .ok (.getfield 15, 3) := by decide +kernel
theorem dX3_add_4 : decode cX3_add 4 = .ok (.bipush 120, 2) := by decide +kernel
theorem dX3_add_6 : decode cX3_add 6 = .ok (.if_icmp .lt 5, 3) := by decide +kernel
theorem dX3_add_9 : decode cX3_add 9 = .ok (.iconst 0, 1) := by decide +kernel
theorem dX3_add_10 : decode cX3_add 10 = .ok (.ireturn, 1) := by decide +kernel
theorem dX3_add_11 : decode cX3_add 11 = .ok (.aload_n 0, 1) := by decide +kernel
theorem dX3_add_12 : decode cX3_add 12 = .ok (.getfield 9, 3) := by decide +kernel
theorem dX3_add_15 : decode cX3_add 15 = .ok (.aload_n 0, 1) := by decide +kernel
theorem dX3_add_16 : decode cX3_add 16 = .ok (.getfield 15, 3) := by decide +kernel
theorem dX3_add_19 : decode cX3_add 19 = .ok (.iload_n 1, 1) := by decide +kernel
theorem dX3_add_20 : decode cX3_add 20 = .ok (.iastore, 1) := by decide +kernel
theorem dX3_add_21 : decode cX3_add 21 = .ok (.aload_n 0, 1) := by decide +kernel
theorem dX3_add_22 : decode cX3_add 22 = .ok (.dup, 1) := by decide +kernel
theorem dX3_add_23 : decode cX3_add 23 = .ok (.getfield 15, 3) := by decide +kernel
theorem dX3_add_26 : decode cX3_add 26 = .ok (.iconst 1, 1) := by decide +kernel
theorem dX3_add_27 : decode cX3_add 27 = .ok (.iadd, 1) := by decide +kernel
theorem dX3_add_28 : decode cX3_add 28 = .ok (.putfield 15, 3) := by decide +kernel
theorem dX3_add_31 : decode cX3_add 31 = .ok (.iconst 1, 1) := by decide +kernel
theorem dX3_add_32 : decode cX3_add 32 = .ok (.ireturn, 1) := by decide +kernel
theorem dX3_readStreet_0 : decode cX3_readStreet 0 = .ok (.aload_n 0, 1) := by decide +kernel
theorem dX3_readStreet_1 : decode cX3_readStreet 1 = .ok (.iconst 0, 1) := by decide +kernel
theorem dX3_readStreet_2 : decode cX3_readStreet 2 = .ok (.putfield 19, 3) := by decide +kernel
theorem dX3_readStreet_5 : decode cX3_readStreet 5 = .ok (.aload_n 0, 1) := by decide +kernel
theorem dX3_readStreet_6 : decode cX3_readStreet 6 = .ok (.iconst 0, 1) := by decide +kernel
theorem dX3_readStreet_7 : decode cX3_readStreet 7 = .ok (.putfield 22, 3) := by decide +kernel
theorem dX3_readStreet_10 : decode cX3_readStreet 10 = .ok (.aload_n 0, 1) := by decide +kernel
theorem dX3_readStreet_11 : decode cX3_readStreet 11 = .ok (.invokevirtual 25, 3) := by decide +kernel
theorem dX3_readStreet_14 : decode cX3_readStreet 14 = .ok (.aload_n 0, 1) := by decide +kernel
theorem dX3_readStreet_15 : decode cX3_readStreet 15 = .ok (.aload_n 1, 1) := by decide +kernel
theorem dX3_readStreet_16 : decode cX3_readStreet 16 = .ok (.invokevirtual 28, 3) := by decide +kernel
theorem dX3_readStreet_19 : decode cX3_readStreet 19 = .ok (.ifCond .eq 15, 3) := by decide +kernel
theorem dX3_readStreet_22 : decode cX3_readStreet 22 = .ok (.aload_n 0, 1) := by decide +kernel
theorem dX3_readStreet_23 : decode cX3_readStreet 23 = .ok (.aload_n 1, 1) := by decide +kernel
theorem dX3_readStreet_24 : decode cX3_readStreet 24 = .ok (.invokevirtual 32, 3) := by decide +kernel
theorem dX3_readStreet_27 : decode cX3_readStreet 27 = .ok (.ifCond .eq 7, 3) := by decide +kernel
theorem dX3_readStreet_30 : decode cX3_readStreet 30 = .ok (.iconst 1, 1) := by decide +kernel
theorem dX3_readStreet_31 : decode cX3_readStreet 31 = .ok (.goto 4, 3) := by decide +kernel
theorem dX3_readStreet_34 : decode cX3_readStreet 34 = .ok (.iconst 0, 1) := by decide +kernel
theorem dX3_readStreet_35 : decode cX3_readStreet 35 = .ok (.istore_n 2, 1) := by decide +kernel
theorem dX3_readStreet_36 : decode cX3_readStreet 36 = .ok (.iconst 0, 1) := by decide +kernel
theorem dX3_readStreet_37 : decode cX3_readStreet 37 = .ok (.istore_n 3, 1) := by decide +kernel
theorem dX3_readStreet_38 : decode cX3_readStreet 38 = .ok (.iload_n 3, 1) := by decide +kernel
theorem dX3_readStreet_39 : decode cX3_readStreet 39 = .ok (.bipush 120, 2) := by decide +kernel
theorem dX3_readStreet_41 : decode cX3_readStreet 41 = .ok (.if_icmp .ge 29, 3) := by decide +kernel
theorem dX3_readStreet_44 : decode cX3_readStreet 44 = .ok (.iload_n 2, 1) := by decide +kernel
theorem dX3_readStreet_45 : decode cX3_readStreet 45 = .ok (.ifCond .eq 25, 3) := by decide +kernel
theorem dX3_readStreet_48 : decode cX3_readStreet 48 = .ok (.aload_n 0, 1) := by decide +kernel
theorem dX3_readStreet_49 : decode cX3_readStreet 49 = .ok (.getfield 35, 3) := by decide +kernel
theorem dX3_readStreet_52 : decode cX3_readStreet 52 = .ok (.sipush 258, 3) := by decide +kernel
theorem dX3_readStreet_55 : decode cX3_readStreet 55 = .ok (.if_icmp .eq 15, 3) := by decide +kernel
theorem dX3_readStreet_58 : decode cX3_readStreet 58 = .ok (.aload_n 0, 1) := by decide +kernel
theorem dX3_readStreet_59 : decode cX3_readStreet 59 = .ok (.aload_n 1, 1) := by decide +kernel
theorem dX3_readStreet_60 : decode cX3_readStreet 60 = .ok (.invokevirtual 32, 3) := by decide +kernel
theorem dX3_readStreet_63 : decode cX3_readStreet 63 = .ok (.istore_n 2, 1) := by decide +kernel
theorem dX3_readStreet_64 : decode cX3_readStreet 64 = .ok (.iinc 3 1, 3) := by decide +kernel
theorem dX3_readStreet_67 : decode cX3_readStreet 67 = .ok (.goto (-29), 3) := by decide +kernel
theorem dX3_readStreet_70 : decode cX3_readStreet 70 = .ok (.iload_n 2, 1) := by decide +kernel
theorem dX3_readStreet_71 : decode cX3_readStreet 71 = .ok (.ireturn, 1) := by decide +kernel
theorem dX3_readLaw_0 : decode cX3_readLaw 0 = .ok (.aload_n 0, 1) := by decide +kernel
theorem dX3_readLaw_1 : decode cX3_readLaw 1 = .ok (.bipush 103, 2) := by decide +kernel
theorem dX3_readLaw_3 : decode cX3_readLaw 3 = .ok (.invokevirtual 38, 3) := by decide +kernel
theorem dX3_readLaw_6 : decode cX3_readLaw 6 = .ok (.ifCond .eq 13, 3) := by decide +kernel
theorem dX3_readLaw_9 : decode cX3_readLaw 9 = .ok (.aload_n 0, 1) := by decide +kernel
theorem dX3_readLaw_10 : decode cX3_readLaw 10 = .ok (.iconst 1, 1) := by decide +kernel
theorem dX3_readLaw_11 : decode cX3_readLaw 11 = .ok (.bipush 9, 2) := by decide +kernel
theorem dX3_readLaw_13 : decode cX3_readLaw 13 = .ok (.invokevirtual 42, 3) := by decide +kernel
theorem dX3_readLaw_16 : decode cX3_readLaw 16 = .ok (.ifCond .ne 5, 3) := by decide +kernel
theorem dX3_readLaw_19 : decode cX3_readLaw 19 = .ok (.iconst 0, 1) := by decide +kernel
theorem dX3_readLaw_20 : decode cX3_readLaw 20 = .ok (.ireturn, 1) := by decide +kernel
theorem dX3_readLaw_21 : decode cX3_readLaw 21 = .ok (.aload_n 0, 1) := by decide +kernel
theorem dX3_readLaw_22 : decode cX3_readLaw 22 = .ok (.getfield 46, 3) := by decide +kernel
theorem dX3_readLaw_25 : decode cX3_readLaw 25 = .ok (.istore_n 2, 1) := by decide +kernel
theorem dX3_readLaw_26 : decode cX3_readLaw 26 = .ok (.aload_n 0, 1) := by decide +kernel
theorem dX3_readLaw_27 : decode cX3_readLaw 27 = .ok (.bipush 44, 2) := by decide +kernel
theorem dX3_readLaw_29 : decode cX3_readLaw 29 = .ok (.invokevirtual 38, 3) := by decide +kernel
theorem dX3_readLaw_32 : decode cX3_readLaw 32 = .ok (.ifCond .eq 22, 3) := by decide +kernel
theorem dX3_readLaw_35 : decode cX3_readLaw 35 = .ok (.aload_n 0, 1) := by decide +kernel
theorem dX3_readLaw_36 : decode cX3_readLaw 36 = .ok (.iconst 0, 1) := by decide +kernel
theorem dX3_readLaw_37 : decode cX3_readLaw 37 = .ok (.bipush 99, 2) := by decide +kernel
theorem dX3_readLaw_39 : decode cX3_readLaw 39 = .ok (.invokevirtual 42, 3) := by decide +kernel
theorem dX3_readLaw_42 : decode cX3_readLaw 42 = .ok (.ifCond .eq 12, 3) := by decide +kernel
theorem dX3_readLaw_45 : decode cX3_readLaw 45 = .ok (.aload_n 0, 1) := by decide +kernel
theorem dX3_readLaw_46 : decode cX3_readLaw 46 = .ok (.bipush 59, 2) := by decide +kernel
theorem dX3_readLaw_48 : decode cX3_readLaw 48 = .ok (.invokevirtual 38, 3) := by decide +kernel
theorem dX3_readLaw_51 : decode cX3_readLaw 51 = .ok (.ifCond .ne 5, 3) := by decide +kernel
theorem dX3_readLaw_54 : decode cX3_readLaw 54 = .ok (.iconst 0, 1) := by decide +kernel
theorem dX3_readLaw_55 : decode cX3_readLaw 55 = .ok (.ireturn, 1) := by decide +kernel
theorem dX3_readLaw_56 : decode cX3_readLaw 56 = .ok (.aload_n 1, 1) := by decide +kernel
theorem dX3_readLaw_57 : decode cX3_readLaw 57 = .ok (.iload_n 2, 1) := by decide +kernel
theorem dX3_readLaw_58 : decode cX3_readLaw 58 = .ok (.aload_n 0, 1) := by decide +kernel
theorem dX3_readLaw_59 : decode cX3_readLaw 59 = .ok (.getfield 46, 3) := by decide +kernel
theorem dX3_readLaw_62 : decode cX3_readLaw 62 = .ok (.invokevirtual 49, 3) := by decide +kernel
theorem dX3_readLaw_65 : decode cX3_readLaw 65 = .ok (.iconst 1, 1) := by decide +kernel
theorem dX3_readLaw_66 : decode cX3_readLaw 66 = .ok (.ireturn, 1) := by decide +kernel
theorem dX3_readHouse_0 : decode cX3_readHouse 0 = .ok (.aload_n 0, 1) := by decide +kernel
theorem dX3_readHouse_1 : decode cX3_readHouse 1 = .ok (.getfield 35, 3) := by decide +kernel
theorem dX3_readHouse_4 : decode cX3_readHouse 4 = .ok (.invokestatic 55, 3) := by decide +kernel
theorem dX3_readHouse_7 : decode cX3_readHouse 7 = .ok (.istore_n 2, 1) := by decide +kernel
theorem dX3_readHouse_8 : decode cX3_readHouse 8 = .ok (.iload_n 2, 1) := by decide +kernel
theorem dX3_readHouse_9 : decode cX3_readHouse 9 = .ok (.iconst (-1), 1) := by decide +kernel
theorem dX3_readHouse_10 : decode cX3_readHouse 10 = .ok (.if_icmp .ne 9, 3) := by decide +kernel
theorem dX3_readHouse_13 : decode cX3_readHouse 13 = .ok (.aload_n 0, 1) := by decide +kernel
theorem dX3_readHouse_14 : decode cX3_readHouse 14 = .ok (.iconst 1, 1) := by decide +kernel
theorem dX3_readHouse_15 : decode cX3_readHouse 15 = .ok (.invokevirtual 59, 3) := by decide +kernel
theorem dX3_readHouse_18 : decode cX3_readHouse 18 = .ok (.ireturn, 1) := by decide +kernel
theorem dX3_readHouse_19 : decode cX3_readHouse 19 = .ok (.aload_n 1, 1) := by decide +kernel
theorem dX3_readHouse_20 : decode cX3_readHouse 20 = .ok (.invokevirtual 62, 3) := by decide +kernel
theorem dX3_readHouse_23 : decode cX3_readHouse 23 = .ok (.ifCond .ne 9, 3) := by decide +kernel
theorem dX3_readHouse_26 : decode cX3_readHouse 26 = .ok (.aload_n 0, 1) := by decide +kernel
theorem dX3_readHouse_27 : decode cX3_readHouse 27 = .ok (.iconst 3, 1) := by decide +kernel
theorem dX3_readHouse_28 : decode cX3_readHouse 28 = .ok (.invokevirtual 59, 3) := by decide +kernel
theorem dX3_readHouse_31 : decode cX3_readHouse 31 = .ok (.ireturn, 1) := by decide +kernel
theorem dX3_readHouse_32 : decode cX3_readHouse 32 = .ok (.aload_n 0, 1) := by decide +kernel
theorem dX3_readHouse_33 : decode cX3_readHouse 33 = .ok (.invokevirtual 25, 3) := by decide +kernel
theorem dX3_readHouse_36 : decode cX3_readHouse 36 = .ok (.aload_n 0, 1) := by decide +kernel
theorem dX3_readHouse_37 : decode cX3_readHouse 37 = .ok (.iconst 0, 1) := by decide +kernel
theorem dX3_readHouse_38 : decode cX3_readHouse 38 = .ok (.bipush 20, 2) := by decide +kernel
theorem dX3_readHouse_40 : decode cX3_readHouse 40 = .ok (.invokevirtual 42, 3) := by decide +kernel
theorem dX3_readHouse_43 : decode cX3_readHouse 43 = .ok (.ifCond .ne 5, 3) := by decide +kernel
theorem dX3_readHouse_46 : decode cX3_readHouse 46 = .ok (.iconst 0, 1) := by decide +kernel
theorem dX3_readHouse_47 : decode cX3_readHouse 47 = .ok (.ireturn, 1) := by decide +kernel
theorem dX3_readHouse_48 : decode cX3_readHouse 48 = .ok (.aload_n 0, 1) := by decide +kernel
theorem dX3_readHouse_49 : decode cX3_readHouse 49 = .ok (.getfield 46, 3) := by decide +kernel
theorem dX3_readHouse_52 : decode cX3_readHouse 52 = .ok (.istore_n 3, 1) := by decide +kernel
theorem dX3_readHouse_53 : decode cX3_readHouse 53 = .ok (.aload_n 0, 1) := by decide +kernel
theorem dX3_readHouse_54 : decode cX3_readHouse 54 = .ok (.bipush 44, 2) := by decide +kernel
theorem dX3_readHouse_56 : decode cX3_readHouse 56 = .ok (.invokevirtual 38, 3) := by decide +kernel
theorem dX3_readHouse_59 : decode cX3_readHouse 59 = .ok (.ifCond .eq 13, 3) := by decide +kernel
theorem dX3_readHouse_62 : decode cX3_readHouse 62 = .ok (.aload_n 0, 1) := by decide +kernel
theorem dX3_readHouse_63 : decode cX3_readHouse 63 = .ok (.iconst 1, 1) := by decide +kernel
theorem dX3_readHouse_64 : decode cX3_readHouse 64 = .ok (.bipush 9, 2) := by decide +kernel
theorem dX3_readHouse_66 : decode cX3_readHouse 66 = .ok (.invokevirtual 42, 3) := by decide +kernel
theorem dX3_readHouse_69 : decode cX3_readHouse 69 = .ok (.ifCond .ne 5, 3) := by decide +kernel
theorem dX3_readHouse_72 : decode cX3_readHouse 72 = .ok (.iconst 0, 1) := by decide +kernel
theorem dX3_readHouse_73 : decode cX3_readHouse 73 = .ok (.ireturn, 1) := by decide +kernel
theorem dX3_readHouse_74 : decode cX3_readHouse 74 = .ok (.aload_n 0, 1) := by decide +kernel
theorem dX3_readHouse_75 : decode cX3_readHouse 75 = .ok (.getfield 46, 3) := by decide +kernel
theorem dX3_readHouse_78 : decode cX3_readHouse 78 = .ok (.istore 4, 2) := by decide +kernel
theorem dX3_readHouse_80 : decode cX3_readHouse 80 = .ok (.aload_n 0, 1) := by decide +kernel
theorem dX3_readHouse_81 : decode cX3_readHouse 81 = .ok (.bipush 44, 2) := by decide +kernel
theorem dX3_readHouse_83 : decode cX3_readHouse 83 = .ok (.invokevirtual 38, 3) := by decide +kernel
theorem dX3_readHouse_86 : decode cX3_readHouse 86 = .ok (.ifCond .eq 22, 3) := by decide +kernel
theorem dX3_readHouse_89 : decode cX3_readHouse 89 = .ok (.aload_n 0, 1) := by decide +kernel
theorem dX3_readHouse_90 : decode cX3_readHouse 90 = .ok (.iconst 0, 1) := by decide +kernel
theorem dX3_readHouse_91 : decode cX3_readHouse 91 = .ok (.bipush 9, 2) := by decide +kernel
theorem dX3_readHouse_93 : decode cX3_readHouse 93 = .ok (.invokevirtual 42, 3) := by decide +kernel
theorem dX3_readHouse_96 : decode cX3_readHouse 96 = .ok (.ifCond .eq 12, 3) := by decide +kernel
theorem dX3_readHouse_99 : decode cX3_readHouse 99 = .ok (.aload_n 0, 1) := by decide +kernel
theorem dX3_readHouse_100 : decode cX3_readHouse 100 = .ok (.bipush 59, 2) := by decide +kernel
theorem dX3_readHouse_102 : decode cX3_readHouse 102 = .ok (.invokevirtual 38, 3) := by decide +kernel
theorem dX3_readHouse_105 : decode cX3_readHouse 105 = .ok (.ifCond .ne 5, 3) := by decide +kernel
theorem dX3_readHouse_108 : decode cX3_readHouse 108 = .ok (.iconst 0, 1) := by decide +kernel
theorem dX3_readHouse_109 : decode cX3_readHouse 109 = .ok (.ireturn, 1) := by decide +kernel
theorem dX3_readHouse_110 : decode cX3_readHouse 110 = .ok (.aload_n 1, 1) := by decide +kernel
theorem dX3_readHouse_111 : decode cX3_readHouse 111 = .ok (.iload_n 2, 1) := by decide +kernel
theorem dX3_readHouse_112 : decode cX3_readHouse 112 = .ok (.iload_n 3, 1) := by decide +kernel
theorem dX3_readHouse_113 : decode cX3_readHouse 113 = .ok (.iload 4, 2) := by decide +kernel
theorem dX3_readHouse_115 : decode cX3_readHouse 115 = .ok (.aload_n 0, 1) := by decide +kernel
theorem dX3_readHouse_116 : decode cX3_readHouse 116 = .ok (.getfield 46, 3) := by decide +kernel
theorem dX3_readHouse_119 : decode cX3_readHouse 119 = .ok (.invokevirtual 66, 3) := by decide +kernel
theorem dX3_readHouse_122 : decode cX3_readHouse 122 = .ok (.iconst 1, 1) := by decide +kernel
theorem dX3_readHouse_123 : decode cX3_readHouse 123 = .ok (.ireturn, 1) := by decide +kernel
theorem dX3_kindOfSort_0 : decode cX3_kindOfSort 0 = .ok (.iload_n 0, 1) := by decide +kernel
theorem dX3_kindOfSort_1 : decode cX3_kindOfSort 1 = .ok (.tableswitch 73 104 115 #[65, 73, 73, 63, 73, 67, 71, 73, 73, 73, 73, 69], 63) := by decide +kernel
theorem dX3_kindOfSort_64 : decode cX3_kindOfSort 64 = .ok (.iconst 1, 1) := by decide +kernel
theorem dX3_kindOfSort_65 : decode cX3_kindOfSort 65 = .ok (.ireturn, 1) := by decide +kernel
theorem dX3_kindOfSort_66 : decode cX3_kindOfSort 66 = .ok (.iconst 2, 1) := by decide +kernel
theorem dX3_kindOfSort_67 : decode cX3_kindOfSort 67 = .ok (.ireturn, 1) := by decide +kernel
theorem dX3_kindOfSort_68 : decode cX3_kindOfSort 68 = .ok (.iconst 3, 1) := by decide +kernel
theorem dX3_kindOfSort_69 : decode cX3_kindOfSort 69 = .ok (.ireturn, 1) := by decide +kernel
theorem dX3_kindOfSort_70 : decode cX3_kindOfSort 70 = .ok (.iconst 4, 1) := by decide +kernel
theorem dX3_kindOfSort_71 : decode cX3_kindOfSort 71 = .ok (.ireturn, 1) := by decide +kernel
theorem dX3_kindOfSort_72 : decode cX3_kindOfSort 72 = .ok (.iconst 5, 1) := by decide +kernel
theorem dX3_kindOfSort_73 : decode cX3_kindOfSort 73 = .ok (.ireturn, 1) := by decide +kernel
theorem dX3_kindOfSort_74 : decode cX3_kindOfSort 74 = .ok (.iconst (-1), 1) := by decide +kernel
theorem dX3_kindOfSort_75 : decode cX3_kindOfSort 75 = .ok (.ireturn, 1) := by decide +kernel
theorem dX3_takesByte_0 : decode cX3_takesByte 0 = .ok (.aload_n 0, 1) := by decide +kernel
theorem dX3_takesByte_1 : decode cX3_takesByte 1 = .ok (.getfield 35, 3) := by decide +kernel
theorem dX3_takesByte_4 : decode cX3_takesByte 4 = .ok (.iload_n 1, 1) := by decide +kernel
theorem dX3_takesByte_5 : decode cX3_takesByte 5 = .ok (.if_icmp .eq 9, 3) := by decide +kernel
theorem dX3_takesByte_8 : decode cX3_takesByte 8 = .ok (.aload_n 0, 1) := by decide +kernel
theorem dX3_takesByte_9 : decode cX3_takesByte 9 = .ok (.iconst 1, 1) := by decide +kernel
theorem dX3_takesByte_10 : decode cX3_takesByte 10 = .ok (.invokevirtual 59, 3) := by decide +kernel
theorem dX3_takesByte_13 : decode cX3_takesByte 13 = .ok (.ireturn, 1) := by decide +kernel
theorem dX3_takesByte_14 : decode cX3_takesByte 14 = .ok (.aload_n 0, 1) := by decide +kernel
theorem dX3_takesByte_15 : decode cX3_takesByte 15 = .ok (.invokevirtual 25, 3) := by decide +kernel
theorem dX3_takesByte_18 : decode cX3_takesByte 18 = .ok (.iconst 1, 1) := by decide +kernel
theorem dX3_takesByte_19 : decode cX3_takesByte 19 = .ok (.ireturn, 1) := by decide +kernel
theorem dX3_takesNumber_0 : decode cX3_takesNumber 0 = .ok (.aload_n 0, 1) := by decide +kernel
theorem dX3_takesNumber_1 : decode cX3_takesNumber 1 = .ok (.getfield 35, 3) := by decide +kernel
theorem dX3_takesNumber_4 : decode cX3_takesNumber 4 = .ok (.sipush 256, 3) := by decide +kernel
theorem dX3_takesNumber_7 : decode cX3_takesNumber 7 = .ok (.if_icmp .eq 9, 3) := by decide +kernel
theorem dX3_takesNumber_10 : decode cX3_takesNumber 10 = .ok (.aload_n 0, 1) := by decide +kernel
theorem dX3_takesNumber_11 : decode cX3_takesNumber 11 = .ok (.iconst 1, 1) := by decide +kernel
theorem dX3_takesNumber_12 : decode cX3_takesNumber 12 = .ok (.invokevirtual 59, 3) := by decide +kernel
theorem dX3_takesNumber_15 : decode cX3_takesNumber 15 = .ok (.ireturn, 1) := by decide +kernel
theorem dX3_takesNumber_16 : decode cX3_takesNumber 16 = .ok (.aload_n 0, 1) := by decide +kernel
theorem dX3_takesNumber_17 : decode cX3_takesNumber 17 = .ok (.getfield 70, 3) := by decide +kernel
theorem dX3_takesNumber_20 : decode cX3_takesNumber 20 = .ok (.iload_n 1, 1) := by decide +kernel
theorem dX3_takesNumber_21 : decode cX3_takesNumber 21 = .ok (.iload_n 2, 1) := by decide +kernel
theorem dX3_takesNumber_22 : decode cX3_takesNumber 22 = .ok (.invokestatic 73, 3) := by decide +kernel
theorem dX3_takesNumber_25 : decode cX3_takesNumber 25 = .ok (.ifCond .ne 9, 3) := by decide +kernel
theorem dX3_takesNumber_28 : decode cX3_takesNumber 28 = .ok (.aload_n 0, 1) := by decide +kernel
theorem dX3_takesNumber_29 : decode cX3_takesNumber 29 = .ok (.iconst 2, 1) := by decide +kernel
theorem dX3_takesNumber_30 : decode cX3_takesNumber 30 = .ok (.invokevirtual 59, 3) := by decide +kernel
theorem dX3_takesNumber_33 : decode cX3_takesNumber 33 = .ok (.ireturn, 1) := by decide +kernel
theorem dX3_takesNumber_34 : decode cX3_takesNumber 34 = .ok (.aload_n 0, 1) := by decide +kernel
theorem dX3_takesNumber_35 : decode cX3_takesNumber 35 = .ok (.aload_n 0, 1) := by decide +kernel
theorem dX3_takesNumber_36 : decode cX3_takesNumber 36 = .ok (.getfield 70, 3) := by decide +kernel
theorem dX3_takesNumber_39 : decode cX3_takesNumber 39 = .ok (.putfield 46, 3) := by decide +kernel
theorem dX3_takesNumber_42 : decode cX3_takesNumber 42 = .ok (.aload_n 0, 1) := by decide +kernel
theorem dX3_takesNumber_43 : decode cX3_takesNumber 43 = .ok (.invokevirtual 25, 3) := by decide +kernel
theorem dX3_takesNumber_46 : decode cX3_takesNumber 46 = .ok (.iconst 1, 1) := by decide +kernel
theorem dX3_takesNumber_47 : decode cX3_takesNumber 47 = .ok (.ireturn, 1) := by decide +kernel
theorem dX3_fails_0 : decode cX3_fails 0 = .ok (.aload_n 0, 1) := by decide +kernel
theorem dX3_fails_1 : decode cX3_fails 1 = .ok (.iload_n 1, 1) := by decide +kernel
theorem dX3_fails_2 : decode cX3_fails 2 = .ok (.putfield 22, 3) := by decide +kernel
theorem dX3_fails_5 : decode cX3_fails 5 = .ok (.iconst 0, 1) := by decide +kernel
theorem dX3_fails_6 : decode cX3_fails 6 = .ok (.ireturn, 1) := by decide +kernel
theorem dX3_advance_0 : decode cX3_advance 0 = .ok (.aload_n 0, 1) := by decide +kernel
theorem dX3_advance_1 : decode cX3_advance 1 = .ok (.aload_n 0, 1) := by decide +kernel
theorem dX3_advance_2 : decode cX3_advance 2 = .ok (.getfield 19, 3) := by decide +kernel
theorem dX3_advance_5 : decode cX3_advance 5 = .ok (.putfield 77, 3) := by decide +kernel
theorem dX3_advance_8 : decode cX3_advance 8 = .ok (.aload_n 0, 1) := by decide +kernel
theorem dX3_advance_9 : decode cX3_advance 9 = .ok (.getfield 77, 3) := by decide +kernel
theorem dX3_advance_12 : decode cX3_advance 12 = .ok (.aload_n 0, 1) := by decide +kernel
theorem dX3_advance_13 : decode cX3_advance 13 = .ok (.getfield 15, 3) := by decide +kernel
theorem dX3_advance_16 : decode cX3_advance 16 = .ok (.if_icmp .lt 13, 3) := by decide +kernel
theorem dX3_advance_19 : decode cX3_advance 19 = .ok (.aload_n 0, 1) := by decide +kernel
theorem dX3_advance_20 : decode cX3_advance 20 = .ok (.sipush 258, 3) := by decide +kernel
theorem dX3_advance_23 : decode cX3_advance 23 = .ok (.putfield 35, 3) := by decide +kernel
theorem dX3_advance_26 : decode cX3_advance 26 = .ok (.goto 48, 3) := by decide +kernel
theorem dX3_advance_29 : decode cX3_advance 29 = .ok (.aload_n 0, 1) := by decide +kernel
theorem dX3_advance_30 : decode cX3_advance 30 = .ok (.getfield 9, 3) := by decide +kernel
theorem dX3_advance_33 : decode cX3_advance 33 = .ok (.aload_n 0, 1) := by decide +kernel
theorem dX3_advance_34 : decode cX3_advance 34 = .ok (.getfield 77, 3) := by decide +kernel
theorem dX3_advance_37 : decode cX3_advance 37 = .ok (.iaload, 1) := by decide +kernel
theorem dX3_advance_38 : decode cX3_advance 38 = .ok (.invokestatic 80, 3) := by decide +kernel
theorem dX3_advance_41 : decode cX3_advance 41 = .ok (.ifCond .eq 10, 3) := by decide +kernel
theorem dX3_advance_44 : decode cX3_advance 44 = .ok (.aload_n 0, 1) := by decide +kernel
theorem dX3_advance_45 : decode cX3_advance 45 = .ok (.invokevirtual 83, 3) := by decide +kernel
theorem dX3_advance_48 : decode cX3_advance 48 = .ok (.goto 26, 3) := by decide +kernel
theorem dX3_advance_51 : decode cX3_advance 51 = .ok (.aload_n 0, 1) := by decide +kernel
theorem dX3_advance_52 : decode cX3_advance 52 = .ok (.aload_n 0, 1) := by decide +kernel
theorem dX3_advance_53 : decode cX3_advance 53 = .ok (.getfield 9, 3) := by decide +kernel
theorem dX3_advance_56 : decode cX3_advance 56 = .ok (.aload_n 0, 1) := by decide +kernel
theorem dX3_advance_57 : decode cX3_advance 57 = .ok (.getfield 77, 3) := by decide +kernel
theorem dX3_advance_60 : decode cX3_advance 60 = .ok (.iaload, 1) := by decide +kernel
theorem dX3_advance_61 : decode cX3_advance 61 = .ok (.putfield 35, 3) := by decide +kernel
theorem dX3_advance_64 : decode cX3_advance 64 = .ok (.aload_n 0, 1) := by decide +kernel
theorem dX3_advance_65 : decode cX3_advance 65 = .ok (.aload_n 0, 1) := by decide +kernel
theorem dX3_advance_66 : decode cX3_advance 66 = .ok (.getfield 77, 3) := by decide +kernel
theorem dX3_advance_69 : decode cX3_advance 69 = .ok (.iconst 1, 1) := by decide +kernel
theorem dX3_advance_70 : decode cX3_advance 70 = .ok (.iadd, 1) := by decide +kernel
theorem dX3_advance_71 : decode cX3_advance 71 = .ok (.putfield 19, 3) := by decide +kernel
theorem dX3_advance_74 : decode cX3_advance 74 = .ok (.return_, 1) := by decide +kernel
theorem dX3_readFigures_0 : decode cX3_readFigures 0 = .ok (.aload_n 0, 1) := by decide +kernel
theorem dX3_readFigures_1 : decode cX3_readFigures 1 = .ok (.iconst 0, 1) := by decide +kernel
theorem dX3_readFigures_2 : decode cX3_readFigures 2 = .ok (.putfield 70, 3) := by decide +kernel
theorem dX3_readFigures_5 : decode cX3_readFigures 5 = .ok (.aload_n 0, 1) := by decide +kernel
theorem dX3_readFigures_6 : decode cX3_readFigures 6 = .ok (.getfield 19, 3) := by decide +kernel
theorem dX3_readFigures_9 : decode cX3_readFigures 9 = .ok (.aload_n 0, 1) := by decide +kernel
theorem dX3_readFigures_10 : decode cX3_readFigures 10 = .ok (.getfield 15, 3) := by decide +kernel
theorem dX3_readFigures_13 : decode cX3_readFigures 13 = .ok (.if_icmp .ge 75, 3) := by decide +kernel
theorem dX3_readFigures_16 : decode cX3_readFigures 16 = .ok (.aload_n 0, 1) := by decide +kernel
theorem dX3_readFigures_17 : decode cX3_readFigures 17 = .ok (.getfield 9, 3) := by decide +kernel
theorem dX3_readFigures_20 : decode cX3_readFigures 20 = .ok (.aload_n 0, 1) := by decide +kernel
theorem dX3_readFigures_21 : decode cX3_readFigures 21 = .ok (.getfield 19, 3) := by decide +kernel
theorem dX3_readFigures_24 : decode cX3_readFigures 24 = .ok (.iaload, 1) := by decide +kernel
theorem dX3_readFigures_25 : decode cX3_readFigures 25 = .ok (.invokestatic 80, 3) := by decide +kernel
theorem dX3_readFigures_28 : decode cX3_readFigures 28 = .ok (.ifCond .eq 60, 3) := by decide +kernel
theorem dX3_readFigures_31 : decode cX3_readFigures 31 = .ok (.aload_n 0, 1) := by decide +kernel
theorem dX3_readFigures_32 : decode cX3_readFigures 32 = .ok (.aload_n 0, 1) := by decide +kernel
theorem dX3_readFigures_33 : decode cX3_readFigures 33 = .ok (.getfield 19, 3) := by decide +kernel
theorem dX3_readFigures_36 : decode cX3_readFigures 36 = .ok (.aload_n 0, 1) := by decide +kernel
theorem dX3_readFigures_37 : decode cX3_readFigures 37 = .ok (.getfield 77, 3) := by decide +kernel
theorem dX3_readFigures_40 : decode cX3_readFigures 40 = .ok (.isub, 1) := by decide +kernel
theorem dX3_readFigures_41 : decode cX3_readFigures 41 = .ok (.iconst 2, 1) := by decide +kernel
theorem dX3_readFigures_42 : decode cX3_readFigures 42 = .ok (.if_icmp .ge 26, 3) := by decide +kernel
theorem dX3_readFigures_45 : decode cX3_readFigures 45 = .ok (.aload_n 0, 1) := by decide +kernel
theorem dX3_readFigures_46 : decode cX3_readFigures 46 = .ok (.getfield 70, 3) := by decide +kernel
theorem dX3_readFigures_49 : decode cX3_readFigures 49 = .ok (.bipush 10, 2) := by decide +kernel
theorem dX3_readFigures_51 : decode cX3_readFigures 51 = .ok (.imul, 1) := by decide +kernel
theorem dX3_readFigures_52 : decode cX3_readFigures 52 = .ok (.aload_n 0, 1) := by decide +kernel
theorem dX3_readFigures_53 : decode cX3_readFigures 53 = .ok (.getfield 9, 3) := by decide +kernel
theorem dX3_readFigures_56 : decode cX3_readFigures 56 = .ok (.aload_n 0, 1) := by decide +kernel
theorem dX3_readFigures_57 : decode cX3_readFigures 57 = .ok (.getfield 19, 3) := by decide +kernel
theorem dX3_readFigures_60 : decode cX3_readFigures 60 = .ok (.iaload, 1) := by decide +kernel
theorem dX3_readFigures_61 : decode cX3_readFigures 61 = .ok (.iadd, 1) := by decide +kernel
theorem dX3_readFigures_62 : decode cX3_readFigures 62 = .ok (.bipush 48, 2) := by decide +kernel
theorem dX3_readFigures_64 : decode cX3_readFigures 64 = .ok (.isub, 1) := by decide +kernel
theorem dX3_readFigures_65 : decode cX3_readFigures 65 = .ok (.goto 7, 3) := by decide +kernel
theorem dX3_readFigures_68 : decode cX3_readFigures 68 = .ok (.aload_n 0, 1) := by decide +kernel
theorem dX3_readFigures_69 : decode cX3_readFigures 69 = .ok (.getfield 70, 3) := by decide +kernel
theorem dX3_readFigures_72 : decode cX3_readFigures 72 = .ok (.putfield 70, 3) := by decide +kernel
theorem dX3_readFigures_75 : decode cX3_readFigures 75 = .ok (.aload_n 0, 1) := by decide +kernel
theorem dX3_readFigures_76 : decode cX3_readFigures 76 = .ok (.dup, 1) := by decide +kernel
theorem dX3_readFigures_77 : decode cX3_readFigures 77 = .ok (.getfield 19, 3) := by decide +kernel
theorem dX3_readFigures_80 : decode cX3_readFigures 80 = .ok (.iconst 1, 1) := by decide +kernel
theorem dX3_readFigures_81 : decode cX3_readFigures 81 = .ok (.iadd, 1) := by decide +kernel
theorem dX3_readFigures_82 : decode cX3_readFigures 82 = .ok (.putfield 19, 3) := by decide +kernel
theorem dX3_readFigures_85 : decode cX3_readFigures 85 = .ok (.goto (-80), 3) := by decide +kernel
theorem dX3_readFigures_88 : decode cX3_readFigures 88 = .ok (.aload_n 0, 1) := by decide +kernel
theorem dX3_readFigures_89 : decode cX3_readFigures 89 = .ok (.aload_n 0, 1) := by decide +kernel
theorem dX3_readFigures_90 : decode cX3_readFigures 90 = .ok (.getfield 19, 3) := by decide +kernel
theorem dX3_readFigures_93 : decode cX3_readFigures 93 = .ok (.aload_n 0, 1) := by decide +kernel
theorem dX3_readFigures_94 : decode cX3_readFigures 94 = .ok (.getfield 77, 3) := by decide +kernel
theorem dX3_readFigures_97 : decode cX3_readFigures 97 = .ok (.isub, 1) := by decide +kernel
theorem dX3_readFigures_98 : decode cX3_readFigures 98 = .ok (.iconst 2, 1) := by decide +kernel
theorem dX3_readFigures_99 : decode cX3_readFigures 99 = .ok (.if_icmp .gt 9, 3) := by decide +kernel
theorem dX3_readFigures_102 : decode cX3_readFigures 102 = .ok (.sipush 256, 3) := by decide +kernel
theorem dX3_readFigures_105 : decode cX3_readFigures 105 = .ok (.goto 6, 3) := by decide +kernel
theorem dX3_readFigures_108 : decode cX3_readFigures 108 = .ok (.sipush 257, 3) := by decide +kernel
theorem dX3_readFigures_111 : decode cX3_readFigures 111 = .ok (.putfield 35, 3) := by decide +kernel
theorem dX3_readFigures_114 : decode cX3_readFigures 114 = .ok (.return_, 1) := by decide +kernel
theorem dX3_isFigure_0 : decode cX3_isFigure 0 = .ok (.iload_n 0, 1) := by decide +kernel
theorem dX3_isFigure_1 : decode cX3_isFigure 1 = .ok (.bipush 48, 2) := by decide +kernel
theorem dX3_isFigure_3 : decode cX3_isFigure 3 = .ok (.if_icmp .lt 13, 3) := by decide +kernel
theorem dX3_isFigure_6 : decode cX3_isFigure 6 = .ok (.iload_n 0, 1) := by decide +kernel
theorem dX3_isFigure_7 : decode cX3_isFigure 7 = .ok (.bipush 57, 2) := by decide +kernel
theorem dX3_isFigure_9 : decode cX3_isFigure 9 = .ok (.if_icmp .gt 7, 3) := by decide +kernel
theorem dX3_isFigure_12 : decode cX3_isFigure 12 = .ok (.iconst 1, 1) := by decide +kernel
theorem dX3_isFigure_13 : decode cX3_isFigure 13 = .ok (.goto 4, 3) := by decide +kernel
theorem dX3_isFigure_16 : decode cX3_isFigure 16 = .ok (.iconst 0, 1) := by decide +kernel
theorem dX3_isFigure_17 : decode cX3_isFigure 17 = .ok (.ireturn, 1) := by decide +kernel
theorem dX4_init_0 : decode cX4_init 0 = .ok (.aload_n 0, 1) := by decide +kernel
theorem dX4_init_1 : decode cX4_init 1 = .ok (.invokespecial 1, 3) := by decide +kernel
theorem dX4_init_4 : decode cX4_init 4 = .ok (.aload_n 0, 1) := by decide +kernel
theorem dX4_init_5 : decode cX4_init 5 = .ok (.bipush 8, 2) := by decide +kernel
theorem dX4_init_7 : decode cX4_init 7 = .ok (.anewarray 9, 3) := by decide +kernel
theorem dX4_init_10 : decode cX4_init 10 = .ok (.putfield 11, 3) := by decide +kernel
theorem dX4_init_13 : decode cX4_init 13 = .ok (.aload_n 0, 1) := by decide +kernel
theorem dX4_init_14 : decode cX4_init 14 = .ok (.new 15, 3) := by decide +kernel
theorem dX4_init_17 : decode cX4_init 17 = .ok (.dup, 1) := by decide +kernel
theorem dX4_init_18 : decode cX4_init 18 = .ok (.invokespecial 17, 3) := by decide +kernel
theorem dX4_init_21 : decode cX4_init 21 = .ok (.putfield 18, 3) := by decide +kernel
theorem dX4_init_24 : decode cX4_init 24 = .ok (.aload_n 0, 1) := by decide +kernel
theorem dX4_init_25 : decode cX4_init 25 = .ok (.new 22, 3) := by decide +kernel
theorem dX4_init_28 : decode cX4_init 28 = .ok (.dup, 1) := by decide +kernel
theorem dX4_init_29 : decode cX4_init 29 = .ok (.invokespecial 24, 3) := by decide +kernel
theorem dX4_init_32 : decode cX4_init 32 = .ok (.putfield 25, 3) := by decide +kernel
theorem dX4_init_35 : decode cX4_init 35 = .ok (.aload_n 0, 1) := by decide +kernel
theorem dX4_init_36 : decode cX4_init 36 = .ok (.new 22, 3) := by decide +kernel
theorem dX4_init_39 : decode cX4_init 39 = .ok (.dup, 1) := by decide +kernel
theorem dX4_init_40 : decode cX4_init 40 = .ok (.invokespecial 24, 3) := by decide +kernel
theorem dX4_init_43 : decode cX4_init 43 = .ok (.putfield 29, 3) := by decide +kernel
theorem dX4_init_46 : decode cX4_init 46 = .ok (.aload_n 0, 1) := by decide +kernel
theorem dX4_init_47 : decode cX4_init 47 = .ok (.new 32, 3) := by decide +kernel
theorem dX4_init_50 : decode cX4_init 50 = .ok (.dup, 1) := by decide +kernel
theorem dX4_init_51 : decode cX4_init 51 = .ok (.invokespecial 34, 3) := by decide +kernel
theorem dX4_init_54 : decode cX4_init 54 = .ok (.putfield 35, 3) := by decide +kernel
theorem dX4_init_57 : decode cX4_init 57 = .ok (.aload_n 0, 1) := by decide +kernel
theorem dX4_init_58 : decode cX4_init 58 = .ok (.iconst 2, 1) := by decide +kernel
theorem dX4_init_59 : decode cX4_init 59 = .ok (.anewarray 22, 3) := by decide +kernel
theorem dX4_init_62 : decode cX4_init 62 = .ok (.putfield 39, 3) := by decide +kernel
theorem dX4_init_65 : decode cX4_init 65 = .ok (.aload_n 0, 1) := by decide +kernel
theorem dX4_init_66 : decode cX4_init 66 = .ok (.bipush 16, 2) := by decide +kernel
theorem dX4_init_68 : decode cX4_init 68 = .ok (.newarray .int, 2) := by decide +kernel
theorem dX4_init_70 : decode cX4_init 70 = .ok (.putfield 43, 3) := by decide +kernel
theorem dX4_init_73 : decode cX4_init 73 = .ok (.iconst 0, 1) := by decide +kernel
theorem dX4_init_74 : decode cX4_init 74 = .ok (.istore_n 1, 1) := by decide +kernel
theorem dX4_init_75 : decode cX4_init 75 = .ok (.iload_n 1, 1) := by decide +kernel
theorem dX4_init_76 : decode cX4_init 76 = .ok (.bipush 8, 2) := by decide +kernel
theorem dX4_init_78 : decode cX4_init 78 = .ok (.if_icmp .ge 22, 3) := by decide +kernel
theorem dX4_init_81 : decode cX4_init 81 = .ok (.aload_n 0, 1) := by decide +kernel
theorem dX4_init_82 : decode cX4_init 82 = .ok (.getfield 11, 3) := by decide +kernel
theorem dX4_init_85 : decode cX4_init 85 = .ok (.iload_n 1, 1) := by decide +kernel
theorem dX4_init_86 : decode cX4_init 86 = .ok (.new 9, 3) := by decide +kernel
theorem dX4_init_89 : decode cX4_init 89 = .ok (.dup, 1) := by decide +kernel
theorem dX4_init_90 : decode cX4_init 90 = .ok (.invokespecial 47, 3) := by decide +kernel
theorem dX4_init_93 : decode cX4_init 93 = .ok (.aastore, 1) := by decide +kernel
theorem dX4_init_94 : decode cX4_init 94 = .ok (.iinc 1 1, 3) := by decide +kernel
theorem dX4_init_97 : decode cX4_init 97 = .ok (.goto (-22), 3) := by decide +kernel
theorem dX4_init_100 : decode cX4_init 100 = .ok (.iconst 0, 1) := by decide +kernel
theorem dX4_init_101 : decode cX4_init 101 = .ok (.istore_n 1, 1) := by decide +kernel
theorem dX4_init_102 : decode cX4_init 102 = .ok (.iload_n 1, 1) := by decide +kernel
theorem dX4_init_103 : decode cX4_init 103 = .ok (.iconst 2, 1) := by decide +kernel
theorem dX4_init_104 : decode cX4_init 104 = .ok (.if_icmp .ge 22, 3) := by decide +kernel
theorem dX4_init_107 : decode cX4_init 107 = .ok (.aload_n 0, 1) := by decide +kernel
theorem dX4_init_108 : decode cX4_init 108 = .ok (.getfield 39, 3) := by decide +kernel
theorem dX4_init_111 : decode cX4_init 111 = .ok (.iload_n 1, 1) := by decide +kernel
theorem dX4_init_112 : decode cX4_init 112 = .ok (.new 22, 3) := by decide +kernel
theorem dX4_init_115 : decode cX4_init 115 = .ok (.dup, 1) := by decide +kernel
theorem dX4_init_116 : decode cX4_init 116 = .ok (.invokespecial 24, 3) := by decide +kernel
theorem dX4_init_119 : decode cX4_init 119 = .ok (.aastore, 1) := by decide +kernel
theorem dX4_init_120 : decode cX4_init 120 = .ok (.iinc 1 1, 3) := by decide +kernel
theorem dX4_init_123 : decode cX4_init 123 = .ok (.goto (-21), 3) := by decide +kernel
theorem dX4_init_126 : decode cX4_init 126 = .ok (.return_, 1) := by decide +kernel
theorem dX4_row_0 : decode cX4_row 0 = .ok (.iload_n 1, 1) := by decide +kernel
theorem dX4_row_1 : decode cX4_row 1 = .ok (.invokestatic 48, 3) := by decide +kernel
theorem dX4_row_4 : decode cX4_row 4 = .ok (.ifCond .eq 18, 3) := by decide +kernel
theorem dX4_row_7 : decode cX4_row 7 = .ok (.iload_n 2, 1) := by decide +kernel
theorem dX4_row_8 : decode cX4_row 8 = .ok (.iconst 0, 1) := by decide +kernel
theorem dX4_row_9 : decode cX4_row 9 = .ok (.iconst 2, 1) := by decide +kernel
theorem dX4_row_10 : decode cX4_row 10 = .ok (.invokestatic 52, 3) := by decide +kernel
theorem dX4_row_13 : decode cX4_row 13 = .ok (.ifCond .eq 9, 3) := by decide +kernel
theorem dX4_row_16 : decode cX4_row 16 = .ok (.iload_n 3, 1) := by decide +kernel
theorem dX4_row_17 : decode cX4_row 17 = .ok (.bipush 40, 2) := by decide +kernel
theorem dX4_row_19 : decode cX4_row 19 = .ok (.if_icmp .le 6, 3) := by decide +kernel
theorem dX4_row_22 : decode cX4_row 22 = .ok (.ldc 56, 2) := by decide +kernel
theorem dX4_row_24 : decode cX4_row 24 = .ok (.ireturn, 1) := by decide +kernel
theorem dX4_row_25 : decode cX4_row 25 = .ok (.iload_n 3, 1) := by decide +kernel
theorem dX4_row_26 : decode cX4_row 26 = .ok (.ifCond .ge 9, 3) := by decide +kernel
theorem dX4_row_29 : decode cX4_row 29 = .ok (.aload_n 0, 1) := by decide +kernel
theorem dX4_row_30 : decode cX4_row 30 = .ok (.iconst 4, 1) := by decide +kernel
theorem dX4_row_31 : decode cX4_row 31 = .ok (.invokevirtual 57, 3) := by decide +kernel
theorem dX4_row_34 : decode cX4_row 34 = .ok (.ireturn, 1) := by decide +kernel
theorem dX4_row_35 : decode cX4_row 35 = .ok (.aload_n 0, 1) := by decide +kernel
theorem dX4_row_36 : decode cX4_row 36 = .ok (.getfield 11, 3) := by decide +kernel
theorem dX4_row_39 : decode cX4_row 39 = .ok (.iload_n 1, 1) := by decide +kernel
theorem dX4_row_40 : decode cX4_row 40 = .ok (.aaload, 1) := by decide +kernel
theorem dX4_row_41 : decode cX4_row 41 = .ok (.iload_n 2, 1) := by decide +kernel
theorem dX4_row_42 : decode cX4_row 42 = .ok (.iload_n 3, 1) := by decide +kernel
theorem dX4_row_43 : decode cX4_row 43 = .ok (.invokevirtual 61, 3) := by decide +kernel
theorem dX4_row_46 : decode cX4_row 46 = .ok (.aload_n 0, 1) := by decide +kernel
theorem dX4_row_47 : decode cX4_row 47 = .ok (.iload_n 3, 1) := by decide +kernel
theorem dX4_row_48 : decode cX4_row 48 = .ok (.invokevirtual 65, 3) := by decide +kernel
theorem dX4_row_51 : decode cX4_row 51 = .ok (.ireturn, 1) := by decide +kernel
theorem dX4_set_0 : decode cX4_set 0 = .ok (.iload_n 1, 1) := by decide +kernel
theorem dX4_set_1 : decode cX4_set 1 = .ok (.invokestatic 48, 3) := by decide +kernel
theorem dX4_set_4 : decode cX4_set 4 = .ok (.ifCond .ne 6, 3) := by decide +kernel
theorem dX4_set_7 : decode cX4_set 7 = .ok (.ldc 56, 2) := by decide +kernel
theorem dX4_set_9 : decode cX4_set 9 = .ok (.ireturn, 1) := by decide +kernel
theorem dX4_set_10 : decode cX4_set 10 = .ok (.aload_n 0, 1) := by decide +kernel
theorem dX4_set_11 : decode cX4_set 11 = .ok (.getfield 11, 3) := by decide +kernel
theorem dX4_set_14 : decode cX4_set 14 = .ok (.iload_n 1, 1) := by decide +kernel
theorem dX4_set_15 : decode cX4_set 15 = .ok (.aaload, 1) := by decide +kernel
theorem dX4_set_16 : decode cX4_set 16 = .ok (.iload_n 2, 1) := by decide +kernel
theorem dX4_set_17 : decode cX4_set 17 = .ok (.iconst 1, 1) := by decide +kernel
theorem dX4_set_18 : decode cX4_set 18 = .ok (.invokevirtual 68, 3) := by decide +kernel
theorem dX4_set_21 : decode cX4_set 21 = .ok (.istore 4, 2) := by decide +kernel
theorem dX4_set_23 : decode cX4_set 23 = .ok (.iload 4, 2) := by decide +kernel
theorem dX4_set_25 : decode cX4_set 25 = .ok (.ifCond .eq 12, 3) := by decide +kernel
theorem dX4_set_28 : decode cX4_set 28 = .ok (.aload_n 0, 1) := by decide +kernel
theorem dX4_set_29 : decode cX4_set 29 = .ok (.iload 4, 2) := by decide +kernel
theorem dX4_set_31 : decode cX4_set 31 = .ok (.invokevirtual 57, 3) := by decide +kernel
theorem dX4_set_34 : decode cX4_set 34 = .ok (.goto 18, 3) := by decide +kernel
theorem dX4_set_37 : decode cX4_set 37 = .ok (.aload_n 0, 1) := by decide +kernel
theorem dX4_set_38 : decode cX4_set 38 = .ok (.aload_n 0, 1) := by decide +kernel
theorem dX4_set_39 : decode cX4_set 39 = .ok (.getfield 11, 3) := by decide +kernel
theorem dX4_set_42 : decode cX4_set 42 = .ok (.iload_n 1, 1) := by decide +kernel
theorem dX4_set_43 : decode cX4_set 43 = .ok (.aaload, 1) := by decide +kernel
theorem dX4_set_44 : decode cX4_set 44 = .ok (.iload_n 2, 1) := by decide +kernel
theorem dX4_set_45 : decode cX4_set 45 = .ok (.iload_n 3, 1) := by decide +kernel
theorem dX4_set_46 : decode cX4_set 46 = .ok (.invokevirtual 72, 3) := by decide +kernel
theorem dX4_set_49 : decode cX4_set 49 = .ok (.invokevirtual 65, 3) := by decide +kernel
theorem dX4_set_52 : decode cX4_set 52 = .ok (.ireturn, 1) := by decide +kernel
theorem dX4_copy_0 : decode cX4_copy 0 = .ok (.iload_n 1, 1) := by decide +kernel
theorem dX4_copy_1 : decode cX4_copy 1 = .ok (.invokestatic 48, 3) := by decide +kernel
theorem dX4_copy_4 : decode cX4_copy 4 = .ok (.ifCond .eq 10, 3) := by decide +kernel
theorem dX4_copy_7 : decode cX4_copy 7 = .ok (.iload_n 3, 1) := by decide +kernel
theorem dX4_copy_8 : decode cX4_copy 8 = .ok (.invokestatic 48, 3) := by decide +kernel
theorem dX4_copy_11 : decode cX4_copy 11 = .ok (.ifCond .ne 6, 3) := by decide +kernel
theorem dX4_copy_14 : decode cX4_copy 14 = .ok (.ldc 56, 2) := by decide +kernel
theorem dX4_copy_16 : decode cX4_copy 16 = .ok (.ireturn, 1) := by decide +kernel
theorem dX4_copy_17 : decode cX4_copy 17 = .ok (.aload_n 0, 1) := by decide +kernel
theorem dX4_copy_18 : decode cX4_copy 18 = .ok (.getfield 11, 3) := by decide +kernel
theorem dX4_copy_21 : decode cX4_copy 21 = .ok (.iload_n 1, 1) := by decide +kernel
theorem dX4_copy_22 : decode cX4_copy 22 = .ok (.aaload, 1) := by decide +kernel
theorem dX4_copy_23 : decode cX4_copy 23 = .ok (.astore 6, 2) := by decide +kernel
theorem dX4_copy_25 : decode cX4_copy 25 = .ok (.aload_n 0, 1) := by decide +kernel
theorem dX4_copy_26 : decode cX4_copy 26 = .ok (.getfield 11, 3) := by decide +kernel
theorem dX4_copy_29 : decode cX4_copy 29 = .ok (.iload_n 3, 1) := by decide +kernel
theorem dX4_copy_30 : decode cX4_copy 30 = .ok (.aaload, 1) := by decide +kernel
theorem dX4_copy_31 : decode cX4_copy 31 = .ok (.astore 7, 2) := by decide +kernel
theorem dX4_copy_33 : decode cX4_copy 33 = .ok (.aload 6, 2) := by decide +kernel
theorem dX4_copy_35 : decode cX4_copy 35 = .ok (.invokevirtual 75, 3) := by decide +kernel
theorem dX4_copy_38 : decode cX4_copy 38 = .ok (.ifCond .ne 11, 3) := by decide +kernel
theorem dX4_copy_41 : decode cX4_copy 41 = .ok (.aload 7, 2) := by decide +kernel
theorem dX4_copy_43 : decode cX4_copy 43 = .ok (.invokevirtual 75, 3) := by decide +kernel
theorem dX4_copy_46 : decode cX4_copy 46 = .ok (.ifCond .eq 9, 3) := by decide +kernel
theorem dX4_copy_49 : decode cX4_copy 49 = .ok (.aload_n 0, 1) := by decide +kernel
theorem dX4_copy_50 : decode cX4_copy 50 = .ok (.iconst 1, 1) := by decide +kernel
theorem dX4_copy_51 : decode cX4_copy 51 = .ok (.invokevirtual 57, 3) := by decide +kernel
theorem dX4_copy_54 : decode cX4_copy 54 = .ok (.ireturn, 1) := by decide +kernel
theorem dX4_copy_55 : decode cX4_copy 55 = .ok (.aload 6, 2) := by decide +kernel
theorem dX4_copy_57 : decode cX4_copy 57 = .ok (.getfield 79, 3) := by decide +kernel
theorem dX4_copy_60 : decode cX4_copy 60 = .ok (.aload 7, 2) := by decide +kernel
theorem dX4_copy_62 : decode cX4_copy 62 = .ok (.getfield 79, 3) := by decide +kernel
theorem dX4_copy_65 : decode cX4_copy 65 = .ok (.if_icmp .eq 9, 3) := by decide +kernel
theorem dX4_copy_68 : decode cX4_copy 68 = .ok (.aload_n 0, 1) := by decide +kernel
theorem dX4_copy_69 : decode cX4_copy 69 = .ok (.iconst 5, 1) := by decide +kernel
theorem dX4_copy_70 : decode cX4_copy 70 = .ok (.invokevirtual 57, 3) := by decide +kernel
theorem dX4_copy_73 : decode cX4_copy 73 = .ok (.ireturn, 1) := by decide +kernel
theorem dX4_copy_74 : decode cX4_copy 74 = .ok (.aload 6, 2) := by decide +kernel
theorem dX4_copy_76 : decode cX4_copy 76 = .ok (.iload_n 2, 1) := by decide +kernel
theorem dX4_copy_77 : decode cX4_copy 77 = .ok (.iload 5, 2) := by decide +kernel
theorem dX4_copy_79 : decode cX4_copy 79 = .ok (.invokevirtual 83, 3) := by decide +kernel
theorem dX4_copy_82 : decode cX4_copy 82 = .ok (.ifCond .eq 15, 3) := by decide +kernel
theorem dX4_copy_85 : decode cX4_copy 85 = .ok (.aload 7, 2) := by decide +kernel
theorem dX4_copy_87 : decode cX4_copy 87 = .ok (.iload 4, 2) := by decide +kernel
theorem dX4_copy_89 : decode cX4_copy 89 = .ok (.iload 5, 2) := by decide +kernel
theorem dX4_copy_91 : decode cX4_copy 91 = .ok (.invokevirtual 83, 3) := by decide +kernel
theorem dX4_copy_94 : decode cX4_copy 94 = .ok (.ifCond .ne 9, 3) := by decide +kernel
theorem dX4_copy_97 : decode cX4_copy 97 = .ok (.aload_n 0, 1) := by decide +kernel
theorem dX4_copy_98 : decode cX4_copy 98 = .ok (.iconst 2, 1) := by decide +kernel
theorem dX4_copy_99 : decode cX4_copy 99 = .ok (.invokevirtual 57, 3) := by decide +kernel
theorem dX4_copy_102 : decode cX4_copy 102 = .ok (.ireturn, 1) := by decide +kernel
theorem dX4_copy_103 : decode cX4_copy 103 = .ok (.aload 6, 2) := by decide +kernel
theorem dX4_copy_105 : decode cX4_copy 105 = .ok (.getfield 87, 3) := by decide +kernel
theorem dX4_copy_108 : decode cX4_copy 108 = .ok (.iload_n 2, 1) := by decide +kernel
theorem dX4_copy_109 : decode cX4_copy 109 = .ok (.aload 7, 2) := by decide +kernel
theorem dX4_copy_111 : decode cX4_copy 111 = .ok (.getfield 87, 3) := by decide +kernel
theorem dX4_copy_114 : decode cX4_copy 114 = .ok (.iload 4, 2) := by decide +kernel
theorem dX4_copy_116 : decode cX4_copy 116 = .ok (.iload 5, 2) := by decide +kernel
theorem dX4_copy_118 : decode cX4_copy 118 = .ok (.invokestatic 90, 3) := by decide +kernel
theorem dX4_copy_121 : decode cX4_copy 121 = .ok (.aload_n 0, 1) := by decide +kernel
theorem dX4_copy_122 : decode cX4_copy 122 = .ok (.iload 5, 2) := by decide +kernel
theorem dX4_copy_124 : decode cX4_copy 124 = .ok (.invokevirtual 65, 3) := by decide +kernel
theorem dX4_copy_127 : decode cX4_copy 127 = .ok (.ireturn, 1) := by decide +kernel
theorem dX4_drop_0 : decode cX4_drop 0 = .ok (.iload_n 1, 1) := by decide +kernel
theorem dX4_drop_1 : decode cX4_drop 1 = .ok (.invokestatic 48, 3) := by decide +kernel
theorem dX4_drop_4 : decode cX4_drop 4 = .ok (.ifCond .ne 6, 3) := by decide +kernel
theorem dX4_drop_7 : decode cX4_drop 7 = .ok (.ldc 56, 2) := by decide +kernel
theorem dX4_drop_9 : decode cX4_drop 9 = .ok (.ireturn, 1) := by decide +kernel
theorem dX4_drop_10 : decode cX4_drop 10 = .ok (.aload_n 0, 1) := by decide +kernel
theorem dX4_drop_11 : decode cX4_drop 11 = .ok (.getfield 11, 3) := by decide +kernel
theorem dX4_drop_14 : decode cX4_drop 14 = .ok (.iload_n 1, 1) := by decide +kernel
theorem dX4_drop_15 : decode cX4_drop 15 = .ok (.aaload, 1) := by decide +kernel
theorem dX4_drop_16 : decode cX4_drop 16 = .ok (.invokevirtual 75, 3) := by decide +kernel
theorem dX4_drop_19 : decode cX4_drop 19 = .ok (.ifCond .eq 9, 3) := by decide +kernel
theorem dX4_drop_22 : decode cX4_drop 22 = .ok (.aload_n 0, 1) := by decide +kernel
theorem dX4_drop_23 : decode cX4_drop 23 = .ok (.iconst 1, 1) := by decide +kernel
theorem dX4_drop_24 : decode cX4_drop 24 = .ok (.invokevirtual 57, 3) := by decide +kernel
theorem dX4_drop_27 : decode cX4_drop 27 = .ok (.ireturn, 1) := by decide +kernel
theorem dX4_drop_28 : decode cX4_drop 28 = .ok (.aload_n 0, 1) := by decide +kernel
theorem dX4_drop_29 : decode cX4_drop 29 = .ok (.getfield 11, 3) := by decide +kernel
theorem dX4_drop_32 : decode cX4_drop 32 = .ok (.iload_n 1, 1) := by decide +kernel
theorem dX4_drop_33 : decode cX4_drop 33 = .ok (.aaload, 1) := by decide +kernel
theorem dX4_drop_34 : decode cX4_drop 34 = .ok (.iconst (-1), 1) := by decide +kernel
theorem dX4_drop_35 : decode cX4_drop 35 = .ok (.putfield 79, 3) := by decide +kernel
theorem dX4_drop_38 : decode cX4_drop 38 = .ok (.aload_n 0, 1) := by decide +kernel
theorem dX4_drop_39 : decode cX4_drop 39 = .ok (.aload_n 0, 1) := by decide +kernel
theorem dX4_drop_40 : decode cX4_drop 40 = .ok (.getfield 11, 3) := by decide +kernel
theorem dX4_drop_43 : decode cX4_drop 43 = .ok (.iload_n 1, 1) := by decide +kernel
theorem dX4_drop_44 : decode cX4_drop 44 = .ok (.aaload, 1) := by decide +kernel
theorem dX4_drop_45 : decode cX4_drop 45 = .ok (.getfield 96, 3) := by decide +kernel
theorem dX4_drop_48 : decode cX4_drop 48 = .ok (.invokevirtual 65, 3) := by decide +kernel
theorem dX4_drop_51 : decode cX4_drop 51 = .ok (.ireturn, 1) := by decide +kernel
theorem dX4_feed_0 : decode cX4_feed 0 = .ok (.iload_n 1, 1) := by decide +kernel
theorem dX4_feed_1 : decode cX4_feed 1 = .ok (.iconst 0, 1) := by decide +kernel
theorem dX4_feed_2 : decode cX4_feed 2 = .ok (.sipush 255, 3) := by decide +kernel
theorem dX4_feed_5 : decode cX4_feed 5 = .ok (.invokestatic 52, 3) := by decide +kernel
theorem dX4_feed_8 : decode cX4_feed 8 = .ok (.ifCond .ne 6, 3) := by decide +kernel
theorem dX4_feed_11 : decode cX4_feed 11 = .ok (.ldc 56, 2) := by decide +kernel
theorem dX4_feed_13 : decode cX4_feed 13 = .ok (.ireturn, 1) := by decide +kernel
theorem dX4_feed_14 : decode cX4_feed 14 = .ok (.aload_n 0, 1) := by decide +kernel
theorem dX4_feed_15 : decode cX4_feed 15 = .ok (.getfield 18, 3) := by decide +kernel
theorem dX4_feed_18 : decode cX4_feed 18 = .ok (.iload_n 1, 1) := by decide +kernel
theorem dX4_feed_19 : decode cX4_feed 19 = .ok (.invokevirtual 99, 3) := by decide +kernel
theorem dX4_feed_22 : decode cX4_feed 22 = .ok (.ifCond .eq 13, 3) := by decide +kernel
theorem dX4_feed_25 : decode cX4_feed 25 = .ok (.aload_n 0, 1) := by decide +kernel
theorem dX4_feed_26 : decode cX4_feed 26 = .ok (.getfield 18, 3) := by decide +kernel
theorem dX4_feed_29 : decode cX4_feed 29 = .ok (.getfield 102, 3) := by decide +kernel
theorem dX4_feed_32 : decode cX4_feed 32 = .ok (.goto 5, 3) := by decide +kernel
theorem dX4_feed_35 : decode cX4_feed 35 = .ok (.ldc 105, 2) := by decide +kernel
theorem dX4_feed_37 : decode cX4_feed 37 = .ok (.ireturn, 1) := by decide +kernel
theorem dX4_street_0 : decode cX4_street 0 = .ok (.aload_n 0, 1) := by decide +kernel
theorem dX4_street_1 : decode cX4_street 1 = .ok (.getfield 18, 3) := by decide +kernel
theorem dX4_street_4 : decode cX4_street 4 = .ok (.aload_n 0, 1) := by decide +kernel
theorem dX4_street_5 : decode cX4_street 5 = .ok (.getfield 29, 3) := by decide +kernel
theorem dX4_street_8 : decode cX4_street 8 = .ok (.invokevirtual 106, 3) := by decide +kernel
theorem dX4_street_11 : decode cX4_street 11 = .ok (.istore_n 1, 1) := by decide +kernel
theorem dX4_street_12 : decode cX4_street 12 = .ok (.aload_n 0, 1) := by decide +kernel
theorem dX4_street_13 : decode cX4_street 13 = .ok (.getfield 18, 3) := by decide +kernel
theorem dX4_street_16 : decode cX4_street 16 = .ok (.iconst 0, 1) := by decide +kernel
theorem dX4_street_17 : decode cX4_street 17 = .ok (.putfield 102, 3) := by decide +kernel
theorem dX4_street_20 : decode cX4_street 20 = .ok (.iload_n 1, 1) := by decide +kernel
theorem dX4_street_21 : decode cX4_street 21 = .ok (.ifCond .ne 25, 3) := by decide +kernel
theorem dX4_street_24 : decode cX4_street 24 = .ok (.aload_n 0, 1) := by decide +kernel
theorem dX4_street_25 : decode cX4_street 25 = .ok (.aload_n 0, 1) := by decide +kernel
theorem dX4_street_26 : decode cX4_street 26 = .ok (.getfield 18, 3) := by decide +kernel
theorem dX4_street_29 : decode cX4_street 29 = .ok (.getfield 110, 3) := by decide +kernel
theorem dX4_street_32 : decode cX4_street 32 = .ok (.putfield 113, 3) := by decide +kernel
theorem dX4_street_35 : decode cX4_street 35 = .ok (.ldc 116, 2) := by decide +kernel
theorem dX4_street_37 : decode cX4_street 37 = .ok (.aload_n 0, 1) := by decide +kernel
theorem dX4_street_38 : decode cX4_street 38 = .ok (.getfield 18, 3) := by decide +kernel
theorem dX4_street_41 : decode cX4_street 41 = .ok (.getfield 117, 3) := by decide +kernel
theorem dX4_street_44 : decode cX4_street 44 = .ok (.isub, 1) := by decide +kernel
theorem dX4_street_45 : decode cX4_street 45 = .ok (.ireturn, 1) := by decide +kernel
theorem dX4_street_46 : decode cX4_street 46 = .ok (.aload_n 0, 1) := by decide +kernel
theorem dX4_street_47 : decode cX4_street 47 = .ok (.getfield 25, 3) := by decide +kernel
theorem dX4_street_50 : decode cX4_street 50 = .ok (.aload_n 0, 1) := by decide +kernel
theorem dX4_street_51 : decode cX4_street 51 = .ok (.getfield 29, 3) := by decide +kernel
theorem dX4_street_54 : decode cX4_street 54 = .ok (.invokevirtual 120, 3) := by decide +kernel
theorem dX4_street_57 : decode cX4_street 57 = .ok (.aload_n 0, 1) := by decide +kernel
theorem dX4_street_58 : decode cX4_street 58 = .ok (.getfield 35, 3) := by decide +kernel
theorem dX4_street_61 : decode cX4_street 61 = .ok (.invokevirtual 124, 3) := by decide +kernel
theorem dX4_street_64 : decode cX4_street 64 = .ok (.aload_n 0, 1) := by decide +kernel
theorem dX4_street_65 : decode cX4_street 65 = .ok (.getfield 25, 3) := by decide +kernel
theorem dX4_street_68 : decode cX4_street 68 = .ok (.getfield 127, 3) := by decide +kernel
theorem dX4_street_71 : decode cX4_street 71 = .ok (.ireturn, 1) := by decide +kernel
theorem dX4_fault_0 : decode cX4_fault 0 = .ok (.aload_n 0, 1) := by decide +kernel
theorem dX4_fault_1 : decode cX4_fault 1 = .ok (.getfield 113, 3) := by decide +kernel
theorem dX4_fault_4 : decode cX4_fault 4 = .ok (.ireturn, 1) := by decide +kernel
theorem dX4_undo_0 : decode cX4_undo 0 = .ok (.aload_n 0, 1) := by decide +kernel
theorem dX4_undo_1 : decode cX4_undo 1 = .ok (.getfield 35, 3) := by decide +kernel
theorem dX4_undo_4 : decode cX4_undo 4 = .ok (.aload_n 0, 1) := by decide +kernel
theorem dX4_undo_5 : decode cX4_undo 5 = .ok (.getfield 25, 3) := by decide +kernel
theorem dX4_undo_8 : decode cX4_undo 8 = .ok (.invokevirtual 130, 3) := by decide +kernel
theorem dX4_undo_11 : decode cX4_undo 11 = .ok (.ifCond .eq 13, 3) := by decide +kernel
theorem dX4_undo_14 : decode cX4_undo 14 = .ok (.aload_n 0, 1) := by decide +kernel
theorem dX4_undo_15 : decode cX4_undo 15 = .ok (.getfield 35, 3) := by decide +kernel
theorem dX4_undo_18 : decode cX4_undo 18 = .ok (.getfield 133, 3) := by decide +kernel
theorem dX4_undo_21 : decode cX4_undo 21 = .ok (.goto 5, 3) := by decide +kernel
theorem dX4_undo_24 : decode cX4_undo 24 = .ok (.ldc 136, 2) := by decide +kernel
theorem dX4_undo_26 : decode cX4_undo 26 = .ok (.ireturn, 1) := by decide +kernel
theorem dX4_minutes_0 : decode cX4_minutes 0 = .ok (.aload_n 0, 1) := by decide +kernel
theorem dX4_minutes_1 : decode cX4_minutes 1 = .ok (.getfield 25, 3) := by decide +kernel
theorem dX4_minutes_4 : decode cX4_minutes 4 = .ok (.invokevirtual 137, 3) := by decide +kernel
theorem dX4_minutes_7 : decode cX4_minutes 7 = .ok (.ifCond .ne 6, 3) := by decide +kernel
theorem dX4_minutes_10 : decode cX4_minutes 10 = .ok (.ldc 136, 2) := by decide +kernel
theorem dX4_minutes_12 : decode cX4_minutes 12 = .ok (.ireturn, 1) := by decide +kernel
theorem dX4_minutes_13 : decode cX4_minutes 13 = .ok (.iload_n 1, 1) := by decide +kernel
theorem dX4_minutes_14 : decode cX4_minutes 14 = .ok (.iconst 1, 1) := by decide +kernel
theorem dX4_minutes_15 : decode cX4_minutes 15 = .ok (.bipush 24, 2) := by decide +kernel
theorem dX4_minutes_17 : decode cX4_minutes 17 = .ok (.invokestatic 52, 3) := by decide +kernel
theorem dX4_minutes_20 : decode cX4_minutes 20 = .ok (.ifCond .ne 6, 3) := by decide +kernel
theorem dX4_minutes_23 : decode cX4_minutes 23 = .ok (.ldc 56, 2) := by decide +kernel
theorem dX4_minutes_25 : decode cX4_minutes 25 = .ok (.ireturn, 1) := by decide +kernel
theorem dX4_minutes_26 : decode cX4_minutes 26 = .ok (.aload_n 0, 1) := by decide +kernel
theorem dX4_minutes_27 : decode cX4_minutes 27 = .ok (.getfield 25, 3) := by decide +kernel
theorem dX4_minutes_30 : decode cX4_minutes 30 = .ok (.getfield 140, 3) := by decide +kernel
theorem dX4_minutes_33 : decode cX4_minutes 33 = .ok (.iload_n 1, 1) := by decide +kernel
theorem dX4_minutes_34 : decode cX4_minutes 34 = .ok (.iadd, 1) := by decide +kernel
theorem dX4_minutes_35 : decode cX4_minutes 35 = .ok (.sipush 999, 3) := by decide +kernel
theorem dX4_minutes_38 : decode cX4_minutes 38 = .ok (.if_icmp .le 6, 3) := by decide +kernel
theorem dX4_minutes_41 : decode cX4_minutes 41 = .ok (.ldc 105, 2) := by decide +kernel
theorem dX4_minutes_43 : decode cX4_minutes 43 = .ok (.ireturn, 1) := by decide +kernel
theorem dX4_minutes_44 : decode cX4_minutes 44 = .ok (.iconst 0, 1) := by decide +kernel
theorem dX4_minutes_45 : decode cX4_minutes 45 = .ok (.istore_n 2, 1) := by decide +kernel
theorem dX4_minutes_46 : decode cX4_minutes 46 = .ok (.iload_n 2, 1) := by decide +kernel
theorem dX4_minutes_47 : decode cX4_minutes 47 = .ok (.iload_n 1, 1) := by decide +kernel
theorem dX4_minutes_48 : decode cX4_minutes 48 = .ok (.if_icmp .ge 27, 3) := by decide +kernel
theorem dX4_minutes_51 : decode cX4_minutes 51 = .ok (.aload_n 0, 1) := by decide +kernel
theorem dX4_minutes_52 : decode cX4_minutes 52 = .ok (.getfield 35, 3) := by decide +kernel
theorem dX4_minutes_55 : decode cX4_minutes 55 = .ok (.aload_n 0, 1) := by decide +kernel
theorem dX4_minutes_56 : decode cX4_minutes 56 = .ok (.getfield 25, 3) := by decide +kernel
theorem dX4_minutes_59 : decode cX4_minutes 59 = .ok (.invokevirtual 143, 3) := by decide +kernel
theorem dX4_minutes_62 : decode cX4_minutes 62 = .ok (.aload_n 0, 1) := by decide +kernel
theorem dX4_minutes_63 : decode cX4_minutes 63 = .ok (.getfield 25, 3) := by decide +kernel
theorem dX4_minutes_66 : decode cX4_minutes 66 = .ok (.invokevirtual 146, 3) := by decide +kernel
theorem dX4_minutes_69 : decode cX4_minutes 69 = .ok (.iinc 2 1, 3) := by decide +kernel
theorem dX4_minutes_72 : decode cX4_minutes 72 = .ok (.goto (-26), 3) := by decide +kernel
theorem dX4_minutes_75 : decode cX4_minutes 75 = .ok (.aload_n 0, 1) := by decide +kernel
theorem dX4_minutes_76 : decode cX4_minutes 76 = .ok (.getfield 25, 3) := by decide +kernel
theorem dX4_minutes_79 : decode cX4_minutes 79 = .ok (.getfield 149, 3) := by decide +kernel
theorem dX4_minutes_82 : decode cX4_minutes 82 = .ok (.ireturn, 1) := by decide +kernel
theorem dX4_talk_0 : decode cX4_talk 0 = .ok (.aload_n 0, 1) := by decide +kernel
theorem dX4_talk_1 : decode cX4_talk 1 = .ok (.iload_n 1, 1) := by decide +kernel
theorem dX4_talk_2 : decode cX4_talk 2 = .ok (.invokevirtual 152, 3) := by decide +kernel
theorem dX4_talk_5 : decode cX4_talk 5 = .ok (.ifCond .eq 13, 3) := by decide +kernel
theorem dX4_talk_8 : decode cX4_talk 8 = .ok (.iload_n 2, 1) := by decide +kernel
theorem dX4_talk_9 : decode cX4_talk 9 = .ok (.iconst 0, 1) := by decide +kernel
theorem dX4_talk_10 : decode cX4_talk 10 = .ok (.bipush 20, 2) := by decide +kernel
theorem dX4_talk_12 : decode cX4_talk 12 = .ok (.invokestatic 52, 3) := by decide +kernel
theorem dX4_talk_15 : decode cX4_talk 15 = .ok (.ifCond .ne 6, 3) := by decide +kernel
theorem dX4_talk_18 : decode cX4_talk 18 = .ok (.ldc 56, 2) := by decide +kernel
theorem dX4_talk_20 : decode cX4_talk 20 = .ok (.ireturn, 1) := by decide +kernel
theorem dX4_talk_21 : decode cX4_talk 21 = .ok (.aload_n 0, 1) := by decide +kernel
theorem dX4_talk_22 : decode cX4_talk 22 = .ok (.getfield 25, 3) := by decide +kernel
theorem dX4_talk_25 : decode cX4_talk 25 = .ok (.getfield 155, 3) := by decide +kernel
theorem dX4_talk_28 : decode cX4_talk 28 = .ok (.iload_n 1, 1) := by decide +kernel
theorem dX4_talk_29 : decode cX4_talk 29 = .ok (.iaload, 1) := by decide +kernel
theorem dX4_talk_30 : decode cX4_talk 30 = .ok (.istore_n 3, 1) := by decide +kernel
theorem dX4_talk_31 : decode cX4_talk 31 = .ok (.aload_n 0, 1) := by decide +kernel
theorem dX4_talk_32 : decode cX4_talk 32 = .ok (.getfield 35, 3) := by decide +kernel
theorem dX4_talk_35 : decode cX4_talk 35 = .ok (.aload_n 0, 1) := by decide +kernel
theorem dX4_talk_36 : decode cX4_talk 36 = .ok (.getfield 25, 3) := by decide +kernel
theorem dX4_talk_39 : decode cX4_talk 39 = .ok (.invokevirtual 143, 3) := by decide +kernel
theorem dX4_talk_42 : decode cX4_talk 42 = .ok (.aload_n 0, 1) := by decide +kernel
theorem dX4_talk_43 : decode cX4_talk 43 = .ok (.getfield 25, 3) := by decide +kernel
theorem dX4_talk_46 : decode cX4_talk 46 = .ok (.getfield 155, 3) := by decide +kernel
theorem dX4_talk_49 : decode cX4_talk 49 = .ok (.iload_n 1, 1) := by decide +kernel
theorem dX4_talk_50 : decode cX4_talk 50 = .ok (.iload_n 2, 1) := by decide +kernel
theorem dX4_talk_51 : decode cX4_talk 51 = .ok (.iastore, 1) := by decide +kernel
theorem dX4_talk_52 : decode cX4_talk 52 = .ok (.iload_n 3, 1) := by decide +kernel
theorem dX4_talk_53 : decode cX4_talk 53 = .ok (.ireturn, 1) := by decide +kernel
theorem dX4_hush_0 : decode cX4_hush 0 = .ok (.aload_n 0, 1) := by decide +kernel
theorem dX4_hush_1 : decode cX4_hush 1 = .ok (.iload_n 1, 1) := by decide +kernel
theorem dX4_hush_2 : decode cX4_hush 2 = .ok (.invokevirtual 152, 3) := by decide +kernel
theorem dX4_hush_5 : decode cX4_hush 5 = .ok (.ifCond .eq 12, 3) := by decide +kernel
theorem dX4_hush_8 : decode cX4_hush 8 = .ok (.iload_n 2, 1) := by decide +kernel
theorem dX4_hush_9 : decode cX4_hush 9 = .ok (.iconst 0, 1) := by decide +kernel
theorem dX4_hush_10 : decode cX4_hush 10 = .ok (.iconst 1, 1) := by decide +kernel
theorem dX4_hush_11 : decode cX4_hush 11 = .ok (.invokestatic 52, 3) := by decide +kernel
theorem dX4_hush_14 : decode cX4_hush 14 = .ok (.ifCond .ne 6, 3) := by decide +kernel
theorem dX4_hush_17 : decode cX4_hush 17 = .ok (.ldc 56, 2) := by decide +kernel
theorem dX4_hush_19 : decode cX4_hush 19 = .ok (.ireturn, 1) := by decide +kernel
theorem dX4_hush_20 : decode cX4_hush 20 = .ok (.aload_n 0, 1) := by decide +kernel
theorem dX4_hush_21 : decode cX4_hush 21 = .ok (.getfield 25, 3) := by decide +kernel
theorem dX4_hush_24 : decode cX4_hush 24 = .ok (.iload_n 1, 1) := by decide +kernel
theorem dX4_hush_25 : decode cX4_hush 25 = .ok (.invokevirtual 158, 3) := by decide +kernel
theorem dX4_hush_28 : decode cX4_hush 28 = .ok (.iload_n 2, 1) := by decide +kernel
theorem dX4_hush_29 : decode cX4_hush 29 = .ok (.iconst 1, 1) := by decide +kernel
theorem dX4_hush_30 : decode cX4_hush 30 = .ok (.if_icmp .ne 7, 3) := by decide +kernel
theorem dX4_hush_33 : decode cX4_hush 33 = .ok (.iconst 1, 1) := by decide +kernel
theorem dX4_hush_34 : decode cX4_hush 34 = .ok (.goto 4, 3) := by decide +kernel
theorem dX4_hush_37 : decode cX4_hush 37 = .ok (.iconst 0, 1) := by decide +kernel
theorem dX4_hush_38 : decode cX4_hush 38 = .ok (.if_icmp .ne 6, 3) := by decide +kernel
theorem dX4_hush_41 : decode cX4_hush 41 = .ok (.ldc 136, 2) := by decide +kernel
theorem dX4_hush_43 : decode cX4_hush 43 = .ok (.ireturn, 1) := by decide +kernel
theorem dX4_hush_44 : decode cX4_hush 44 = .ok (.aload_n 0, 1) := by decide +kernel
theorem dX4_hush_45 : decode cX4_hush 45 = .ok (.getfield 35, 3) := by decide +kernel
theorem dX4_hush_48 : decode cX4_hush 48 = .ok (.aload_n 0, 1) := by decide +kernel
theorem dX4_hush_49 : decode cX4_hush 49 = .ok (.getfield 25, 3) := by decide +kernel
theorem dX4_hush_52 : decode cX4_hush 52 = .ok (.invokevirtual 143, 3) := by decide +kernel
theorem dX4_hush_55 : decode cX4_hush 55 = .ok (.aload_n 0, 1) := by decide +kernel
theorem dX4_hush_56 : decode cX4_hush 56 = .ok (.getfield 25, 3) := by decide +kernel
theorem dX4_hush_59 : decode cX4_hush 59 = .ok (.dup, 1) := by decide +kernel
theorem dX4_hush_60 : decode cX4_hush 60 = .ok (.getfield 161, 3) := by decide +kernel
theorem dX4_hush_63 : decode cX4_hush 63 = .ok (.iconst 1, 1) := by decide +kernel
theorem dX4_hush_64 : decode cX4_hush 64 = .ok (.iload_n 1, 1) := by decide +kernel
theorem dX4_hush_65 : decode cX4_hush 65 = .ok (.ishl, 1) := by decide +kernel
theorem dX4_hush_66 : decode cX4_hush 66 = .ok (.ixor, 1) := by decide +kernel
theorem dX4_hush_67 : decode cX4_hush 67 = .ok (.putfield 161, 3) := by decide +kernel
theorem dX4_hush_70 : decode cX4_hush 70 = .ok (.aload_n 0, 1) := by decide +kernel
theorem dX4_hush_71 : decode cX4_hush 71 = .ok (.getfield 25, 3) := by decide +kernel
theorem dX4_hush_74 : decode cX4_hush 74 = .ok (.getfield 161, 3) := by decide +kernel
theorem dX4_hush_77 : decode cX4_hush 77 = .ok (.ireturn, 1) := by decide +kernel
theorem dX4_bars_0 : decode cX4_bars 0 = .ok (.aload_n 0, 1) := by decide +kernel
theorem dX4_bars_1 : decode cX4_bars 1 = .ok (.iload_n 1, 1) := by decide +kernel
theorem dX4_bars_2 : decode cX4_bars 2 = .ok (.invokevirtual 152, 3) := by decide +kernel
theorem dX4_bars_5 : decode cX4_bars 5 = .ok (.ifCond .eq 13, 3) := by decide +kernel
theorem dX4_bars_8 : decode cX4_bars 8 = .ok (.iload_n 2, 1) := by decide +kernel
theorem dX4_bars_9 : decode cX4_bars 9 = .ok (.iconst 0, 1) := by decide +kernel
theorem dX4_bars_10 : decode cX4_bars 10 = .ok (.bipush 9, 2) := by decide +kernel
theorem dX4_bars_12 : decode cX4_bars 12 = .ok (.invokestatic 52, 3) := by decide +kernel
theorem dX4_bars_15 : decode cX4_bars 15 = .ok (.ifCond .ne 6, 3) := by decide +kernel
theorem dX4_bars_18 : decode cX4_bars 18 = .ok (.ldc 56, 2) := by decide +kernel
theorem dX4_bars_20 : decode cX4_bars 20 = .ok (.ireturn, 1) := by decide +kernel
theorem dX4_bars_21 : decode cX4_bars 21 = .ok (.aload_n 0, 1) := by decide +kernel
theorem dX4_bars_22 : decode cX4_bars 22 = .ok (.getfield 25, 3) := by decide +kernel
theorem dX4_bars_25 : decode cX4_bars 25 = .ok (.getfield 164, 3) := by decide +kernel
theorem dX4_bars_28 : decode cX4_bars 28 = .ok (.iload_n 1, 1) := by decide +kernel
theorem dX4_bars_29 : decode cX4_bars 29 = .ok (.iaload, 1) := by decide +kernel
theorem dX4_bars_30 : decode cX4_bars 30 = .ok (.istore_n 3, 1) := by decide +kernel
theorem dX4_bars_31 : decode cX4_bars 31 = .ok (.aload_n 0, 1) := by decide +kernel
theorem dX4_bars_32 : decode cX4_bars 32 = .ok (.getfield 35, 3) := by decide +kernel
theorem dX4_bars_35 : decode cX4_bars 35 = .ok (.aload_n 0, 1) := by decide +kernel
theorem dX4_bars_36 : decode cX4_bars 36 = .ok (.getfield 25, 3) := by decide +kernel
theorem dX4_bars_39 : decode cX4_bars 39 = .ok (.invokevirtual 143, 3) := by decide +kernel
theorem dX4_bars_42 : decode cX4_bars 42 = .ok (.aload_n 0, 1) := by decide +kernel
theorem dX4_bars_43 : decode cX4_bars 43 = .ok (.getfield 25, 3) := by decide +kernel
theorem dX4_bars_46 : decode cX4_bars 46 = .ok (.iload_n 1, 1) := by decide +kernel
theorem dX4_bars_47 : decode cX4_bars 47 = .ok (.iload_n 2, 1) := by decide +kernel
theorem dX4_bars_48 : decode cX4_bars 48 = .ok (.invokevirtual 167, 3) := by decide +kernel
theorem dX4_bars_51 : decode cX4_bars 51 = .ok (.iload_n 3, 1) := by decide +kernel
theorem dX4_bars_52 : decode cX4_bars 52 = .ok (.ireturn, 1) := by decide +kernel
theorem dX4_letDown_0 : decode cX4_letDown 0 = .ok (.aload_n 0, 1) := by decide +kernel
theorem dX4_letDown_1 : decode cX4_letDown 1 = .ok (.getfield 25, 3) := by decide +kernel
theorem dX4_letDown_4 : decode cX4_letDown 4 = .ok (.invokevirtual 137, 3) := by decide +kernel
theorem dX4_letDown_7 : decode cX4_letDown 7 = .ok (.ifCond .ne 6, 3) := by decide +kernel
theorem dX4_letDown_10 : decode cX4_letDown 10 = .ok (.ldc 136, 2) := by decide +kernel
theorem dX4_letDown_12 : decode cX4_letDown 12 = .ok (.ireturn, 1) := by decide +kernel
theorem dX4_letDown_13 : decode cX4_letDown 13 = .ok (.iload_n 1, 1) := by decide +kernel
theorem dX4_letDown_14 : decode cX4_letDown 14 = .ok (.iconst 1, 1) := by decide +kernel
theorem dX4_letDown_15 : decode cX4_letDown 15 = .ok (.bipush 99, 2) := by decide +kernel
theorem dX4_letDown_17 : decode cX4_letDown 17 = .ok (.invokestatic 52, 3) := by decide +kernel
theorem dX4_letDown_20 : decode cX4_letDown 20 = .ok (.ifCond .ne 6, 3) := by decide +kernel
theorem dX4_letDown_23 : decode cX4_letDown 23 = .ok (.ldc 56, 2) := by decide +kernel
theorem dX4_letDown_25 : decode cX4_letDown 25 = .ok (.ireturn, 1) := by decide +kernel
theorem dX4_letDown_26 : decode cX4_letDown 26 = .ok (.aload_n 0, 1) := by decide +kernel
theorem dX4_letDown_27 : decode cX4_letDown 27 = .ok (.getfield 35, 3) := by decide +kernel
theorem dX4_letDown_30 : decode cX4_letDown 30 = .ok (.aload_n 0, 1) := by decide +kernel
theorem dX4_letDown_31 : decode cX4_letDown 31 = .ok (.getfield 25, 3) := by decide +kernel
theorem dX4_letDown_34 : decode cX4_letDown 34 = .ok (.invokevirtual 143, 3) := by decide +kernel
theorem dX4_letDown_37 : decode cX4_letDown 37 = .ok (.aload_n 0, 1) := by decide +kernel
theorem dX4_letDown_38 : decode cX4_letDown 38 = .ok (.getfield 25, 3) := by decide +kernel
theorem dX4_letDown_41 : decode cX4_letDown 41 = .ok (.iload_n 1, 1) := by decide +kernel
theorem dX4_letDown_42 : decode cX4_letDown 42 = .ok (.invokevirtual 170, 3) := by decide +kernel
theorem dX4_letDown_45 : decode cX4_letDown 45 = .ok (.aload_n 0, 1) := by decide +kernel
theorem dX4_letDown_46 : decode cX4_letDown 46 = .ok (.getfield 25, 3) := by decide +kernel
theorem dX4_letDown_49 : decode cX4_letDown 49 = .ok (.getfield 149, 3) := by decide +kernel
theorem dX4_letDown_52 : decode cX4_letDown 52 = .ok (.ireturn, 1) := by decide +kernel
theorem dX4_house_0 : decode cX4_house 0 = .ok (.aload_n 0, 1) := by decide +kernel
theorem dX4_house_1 : decode cX4_house 1 = .ok (.iload_n 1, 1) := by decide +kernel
theorem dX4_house_2 : decode cX4_house 2 = .ok (.invokevirtual 152, 3) := by decide +kernel
theorem dX4_house_5 : decode cX4_house 5 = .ok (.ifCond .ne 6, 3) := by decide +kernel
theorem dX4_house_8 : decode cX4_house 8 = .ok (.ldc 56, 2) := by decide +kernel
theorem dX4_house_10 : decode cX4_house 10 = .ok (.ireturn, 1) := by decide +kernel
theorem dX4_house_11 : decode cX4_house 11 = .ok (.iload_n 2, 1) := by decide +kernel
theorem dX4_house_12 : decode cX4_house 12 = .ok (.tableswitch 120 0 6 #[44, 54, 64, 74, 84, 94, 103], 44) := by decide +kernel
theorem dX4_house_56 : decode cX4_house 56 = .ok (.aload_n 0, 1) := by decide +kernel
theorem dX4_house_57 : decode cX4_house 57 = .ok (.getfield 25, 3) := by decide +kernel
theorem dX4_house_60 : decode cX4_house 60 = .ok (.getfield 155, 3) := by decide +kernel
theorem dX4_house_63 : decode cX4_house 63 = .ok (.iload_n 1, 1) := by decide +kernel
theorem dX4_house_64 : decode cX4_house 64 = .ok (.iaload, 1) := by decide +kernel
theorem dX4_house_65 : decode cX4_house 65 = .ok (.ireturn, 1) := by decide +kernel
theorem dX4_house_66 : decode cX4_house 66 = .ok (.aload_n 0, 1) := by decide +kernel
theorem dX4_house_67 : decode cX4_house 67 = .ok (.getfield 25, 3) := by decide +kernel
theorem dX4_house_70 : decode cX4_house 70 = .ok (.getfield 174, 3) := by decide +kernel
theorem dX4_house_73 : decode cX4_house 73 = .ok (.iload_n 1, 1) := by decide +kernel
theorem dX4_house_74 : decode cX4_house 74 = .ok (.iaload, 1) := by decide +kernel
theorem dX4_house_75 : decode cX4_house 75 = .ok (.ireturn, 1) := by decide +kernel
theorem dX4_house_76 : decode cX4_house 76 = .ok (.aload_n 0, 1) := by decide +kernel
theorem dX4_house_77 : decode cX4_house 77 = .ok (.getfield 25, 3) := by decide +kernel
theorem dX4_house_80 : decode cX4_house 80 = .ok (.getfield 177, 3) := by decide +kernel
theorem dX4_house_83 : decode cX4_house 83 = .ok (.iload_n 1, 1) := by decide +kernel
theorem dX4_house_84 : decode cX4_house 84 = .ok (.iaload, 1) := by decide +kernel
theorem dX4_house_85 : decode cX4_house 85 = .ok (.ireturn, 1) := by decide +kernel
theorem dX4_house_86 : decode cX4_house 86 = .ok (.aload_n 0, 1) := by decide +kernel
theorem dX4_house_87 : decode cX4_house 87 = .ok (.getfield 25, 3) := by decide +kernel
theorem dX4_house_90 : decode cX4_house 90 = .ok (.getfield 180, 3) := by decide +kernel
theorem dX4_house_93 : decode cX4_house 93 = .ok (.iload_n 1, 1) := by decide +kernel
theorem dX4_house_94 : decode cX4_house 94 = .ok (.iaload, 1) := by decide +kernel
theorem dX4_house_95 : decode cX4_house 95 = .ok (.ireturn, 1) := by decide +kernel
theorem dX4_house_96 : decode cX4_house 96 = .ok (.aload_n 0, 1) := by decide +kernel
theorem dX4_house_97 : decode cX4_house 97 = .ok (.getfield 25, 3) := by decide +kernel
theorem dX4_house_100 : decode cX4_house 100 = .ok (.getfield 164, 3) := by decide +kernel
theorem dX4_house_103 : decode cX4_house 103 = .ok (.iload_n 1, 1) := by decide +kernel
theorem dX4_house_104 : decode cX4_house 104 = .ok (.iaload, 1) := by decide +kernel
theorem dX4_house_105 : decode cX4_house 105 = .ok (.ireturn, 1) := by decide +kernel
theorem dX4_house_106 : decode cX4_house 106 = .ok (.aload_n 0, 1) := by decide +kernel
theorem dX4_house_107 : decode cX4_house 107 = .ok (.getfield 25, 3) := by decide +kernel
theorem dX4_house_110 : decode cX4_house 110 = .ok (.iload_n 1, 1) := by decide +kernel
theorem dX4_house_111 : decode cX4_house 111 = .ok (.invokevirtual 183, 3) := by decide +kernel
theorem dX4_house_114 : decode cX4_house 114 = .ok (.ireturn, 1) := by decide +kernel
theorem dX4_house_115 : decode cX4_house 115 = .ok (.aload_n 0, 1) := by decide +kernel
theorem dX4_house_116 : decode cX4_house 116 = .ok (.getfield 25, 3) := by decide +kernel
theorem dX4_house_119 : decode cX4_house 119 = .ok (.iload_n 1, 1) := by decide +kernel
theorem dX4_house_120 : decode cX4_house 120 = .ok (.invokevirtual 158, 3) := by decide +kernel
theorem dX4_house_123 : decode cX4_house 123 = .ok (.ifCond .eq 7, 3) := by decide +kernel
theorem dX4_house_126 : decode cX4_house 126 = .ok (.iconst 1, 1) := by decide +kernel
theorem dX4_house_127 : decode cX4_house 127 = .ok (.goto 4, 3) := by decide +kernel
theorem dX4_house_130 : decode cX4_house 130 = .ok (.iconst 0, 1) := by decide +kernel
theorem dX4_house_131 : decode cX4_house 131 = .ok (.ireturn, 1) := by decide +kernel
theorem dX4_house_132 : decode cX4_house 132 = .ok (.ldc 56, 2) := by decide +kernel
theorem dX4_house_134 : decode cX4_house 134 = .ok (.ireturn, 1) := by decide +kernel
theorem dX4_stand_0 : decode cX4_stand 0 = .ok (.aload_n 0, 1) := by decide +kernel
theorem dX4_stand_1 : decode cX4_stand 1 = .ok (.getfield 25, 3) := by decide +kernel
theorem dX4_stand_4 : decode cX4_stand 4 = .ok (.invokevirtual 137, 3) := by decide +kernel
theorem dX4_stand_7 : decode cX4_stand 7 = .ok (.ifCond .ne 6, 3) := by decide +kernel
theorem dX4_stand_10 : decode cX4_stand 10 = .ok (.ldc 136, 2) := by decide +kernel
theorem dX4_stand_12 : decode cX4_stand 12 = .ok (.ireturn, 1) := by decide +kernel
theorem dX4_stand_13 : decode cX4_stand 13 = .ok (.iload_n 1, 1) := by decide +kernel
theorem dX4_stand_14 : decode cX4_stand 14 = .ok (.tableswitch 82 0 4 #[34, 42, 58, 66, 74], 34) := by decide +kernel
theorem dX4_stand_48 : decode cX4_stand 48 = .ok (.aload_n 0, 1) := by decide +kernel
theorem dX4_stand_49 : decode cX4_stand 49 = .ok (.getfield 25, 3) := by decide +kernel
theorem dX4_stand_52 : decode cX4_stand 52 = .ok (.getfield 149, 3) := by decide +kernel
theorem dX4_stand_55 : decode cX4_stand 55 = .ok (.ireturn, 1) := by decide +kernel
theorem dX4_stand_56 : decode cX4_stand 56 = .ok (.aload_n 0, 1) := by decide +kernel
theorem dX4_stand_57 : decode cX4_stand 57 = .ok (.getfield 25, 3) := by decide +kernel
theorem dX4_stand_60 : decode cX4_stand 60 = .ok (.invokevirtual 186, 3) := by decide +kernel
theorem dX4_stand_63 : decode cX4_stand 63 = .ok (.ifCond .eq 7, 3) := by decide +kernel
theorem dX4_stand_66 : decode cX4_stand 66 = .ok (.iconst 1, 1) := by decide +kernel
theorem dX4_stand_67 : decode cX4_stand 67 = .ok (.goto 4, 3) := by decide +kernel
theorem dX4_stand_70 : decode cX4_stand 70 = .ok (.iconst 0, 1) := by decide +kernel
theorem dX4_stand_71 : decode cX4_stand 71 = .ok (.ireturn, 1) := by decide +kernel
theorem dX4_stand_72 : decode cX4_stand 72 = .ok (.aload_n 0, 1) := by decide +kernel
theorem dX4_stand_73 : decode cX4_stand 73 = .ok (.getfield 25, 3) := by decide +kernel
theorem dX4_stand_76 : decode cX4_stand 76 = .ok (.getfield 161, 3) := by decide +kernel
theorem dX4_stand_79 : decode cX4_stand 79 = .ok (.ireturn, 1) := by decide +kernel
theorem dX4_stand_80 : decode cX4_stand 80 = .ok (.aload_n 0, 1) := by decide +kernel
theorem dX4_stand_81 : decode cX4_stand 81 = .ok (.getfield 25, 3) := by decide +kernel
theorem dX4_stand_84 : decode cX4_stand 84 = .ok (.invokevirtual 189, 3) := by decide +kernel
theorem dX4_stand_87 : decode cX4_stand 87 = .ok (.ireturn, 1) := by decide +kernel
theorem dX4_stand_88 : decode cX4_stand 88 = .ok (.aload_n 0, 1) := by decide +kernel
theorem dX4_stand_89 : decode cX4_stand 89 = .ok (.getfield 25, 3) := by decide +kernel
theorem dX4_stand_92 : decode cX4_stand 92 = .ok (.invokevirtual 193, 3) := by decide +kernel
theorem dX4_stand_95 : decode cX4_stand 95 = .ok (.ireturn, 1) := by decide +kernel
theorem dX4_stand_96 : decode cX4_stand 96 = .ok (.ldc 56, 2) := by decide +kernel
theorem dX4_stand_98 : decode cX4_stand 98 = .ok (.ireturn, 1) := by decide +kernel
theorem dX4_ahead_0 : decode cX4_ahead 0 = .ok (.aload_n 0, 1) := by decide +kernel
theorem dX4_ahead_1 : decode cX4_ahead 1 = .ok (.iload_n 1, 1) := by decide +kernel
theorem dX4_ahead_2 : decode cX4_ahead 2 = .ok (.invokevirtual 152, 3) := by decide +kernel
theorem dX4_ahead_5 : decode cX4_ahead 5 = .ok (.ifCond .eq 13, 3) := by decide +kernel
theorem dX4_ahead_8 : decode cX4_ahead 8 = .ok (.iload_n 2, 1) := by decide +kernel
theorem dX4_ahead_9 : decode cX4_ahead 9 = .ok (.iconst 0, 1) := by decide +kernel
theorem dX4_ahead_10 : decode cX4_ahead 10 = .ok (.bipush 99, 2) := by decide +kernel
theorem dX4_ahead_12 : decode cX4_ahead 12 = .ok (.invokestatic 52, 3) := by decide +kernel
theorem dX4_ahead_15 : decode cX4_ahead 15 = .ok (.ifCond .ne 6, 3) := by decide +kernel
theorem dX4_ahead_18 : decode cX4_ahead 18 = .ok (.ldc 56, 2) := by decide +kernel
theorem dX4_ahead_20 : decode cX4_ahead 20 = .ok (.ireturn, 1) := by decide +kernel
theorem dX4_ahead_21 : decode cX4_ahead 21 = .ok (.aload_n 0, 1) := by decide +kernel
theorem dX4_ahead_22 : decode cX4_ahead 22 = .ok (.getfield 29, 3) := by decide +kernel
theorem dX4_ahead_25 : decode cX4_ahead 25 = .ok (.aload_n 0, 1) := by decide +kernel
theorem dX4_ahead_26 : decode cX4_ahead 26 = .ok (.getfield 25, 3) := by decide +kernel
theorem dX4_ahead_29 : decode cX4_ahead 29 = .ok (.invokevirtual 120, 3) := by decide +kernel
theorem dX4_ahead_32 : decode cX4_ahead 32 = .ok (.aload_n 0, 1) := by decide +kernel
theorem dX4_ahead_33 : decode cX4_ahead 33 = .ok (.getfield 29, 3) := by decide +kernel
theorem dX4_ahead_36 : decode cX4_ahead 36 = .ok (.iload_n 2, 1) := by decide +kernel
theorem dX4_ahead_37 : decode cX4_ahead 37 = .ok (.invokevirtual 196, 3) := by decide +kernel
theorem dX4_ahead_40 : decode cX4_ahead 40 = .ok (.aload_n 0, 1) := by decide +kernel
theorem dX4_ahead_41 : decode cX4_ahead 41 = .ok (.getfield 29, 3) := by decide +kernel
theorem dX4_ahead_44 : decode cX4_ahead 44 = .ok (.getfield 180, 3) := by decide +kernel
theorem dX4_ahead_47 : decode cX4_ahead 47 = .ok (.iload_n 1, 1) := by decide +kernel
theorem dX4_ahead_48 : decode cX4_ahead 48 = .ok (.iaload, 1) := by decide +kernel
theorem dX4_ahead_49 : decode cX4_ahead 49 = .ok (.ireturn, 1) := by decide +kernel
theorem dX4_pond_0 : decode cX4_pond 0 = .ok (.aload_n 0, 1) := by decide +kernel
theorem dX4_pond_1 : decode cX4_pond 1 = .ok (.getfield 25, 3) := by decide +kernel
theorem dX4_pond_4 : decode cX4_pond 4 = .ok (.invokevirtual 137, 3) := by decide +kernel
theorem dX4_pond_7 : decode cX4_pond 7 = .ok (.ifCond .ne 6, 3) := by decide +kernel
theorem dX4_pond_10 : decode cX4_pond 10 = .ok (.ldc 136, 2) := by decide +kernel
theorem dX4_pond_12 : decode cX4_pond 12 = .ok (.ireturn, 1) := by decide +kernel
theorem dX4_pond_13 : decode cX4_pond 13 = .ok (.iload_n 1, 1) := by decide +kernel
theorem dX4_pond_14 : decode cX4_pond 14 = .ok (.iconst 0, 1) := by decide +kernel
theorem dX4_pond_15 : decode cX4_pond 15 = .ok (.bipush 99, 2) := by decide +kernel
theorem dX4_pond_17 : decode cX4_pond 17 = .ok (.invokestatic 52, 3) := by decide +kernel
theorem dX4_pond_20 : decode cX4_pond 20 = .ok (.ifCond .eq 12, 3) := by decide +kernel
theorem dX4_pond_23 : decode cX4_pond 23 = .ok (.iload_n 2, 1) := by decide +kernel
theorem dX4_pond_24 : decode cX4_pond 24 = .ok (.iconst 0, 1) := by decide +kernel
theorem dX4_pond_25 : decode cX4_pond 25 = .ok (.iconst 1, 1) := by decide +kernel
theorem dX4_pond_26 : decode cX4_pond 26 = .ok (.invokestatic 52, 3) := by decide +kernel
theorem dX4_pond_29 : decode cX4_pond 29 = .ok (.ifCond .ne 6, 3) := by decide +kernel
theorem dX4_pond_32 : decode cX4_pond 32 = .ok (.ldc 56, 2) := by decide +kernel
theorem dX4_pond_34 : decode cX4_pond 34 = .ok (.ireturn, 1) := by decide +kernel
theorem dX4_pond_35 : decode cX4_pond 35 = .ok (.aload_n 0, 1) := by decide +kernel
theorem dX4_pond_36 : decode cX4_pond 36 = .ok (.getfield 29, 3) := by decide +kernel
theorem dX4_pond_39 : decode cX4_pond 39 = .ok (.aload_n 0, 1) := by decide +kernel
theorem dX4_pond_40 : decode cX4_pond 40 = .ok (.getfield 25, 3) := by decide +kernel
theorem dX4_pond_43 : decode cX4_pond 43 = .ok (.invokevirtual 120, 3) := by decide +kernel
theorem dX4_pond_46 : decode cX4_pond 46 = .ok (.aload_n 0, 1) := by decide +kernel
theorem dX4_pond_47 : decode cX4_pond 47 = .ok (.getfield 29, 3) := by decide +kernel
theorem dX4_pond_50 : decode cX4_pond 50 = .ok (.iload_n 1, 1) := by decide +kernel
theorem dX4_pond_51 : decode cX4_pond 51 = .ok (.invokevirtual 196, 3) := by decide +kernel
theorem dX4_pond_54 : decode cX4_pond 54 = .ok (.iload_n 2, 1) := by decide +kernel
theorem dX4_pond_55 : decode cX4_pond 55 = .ok (.ifCond .ne 13, 3) := by decide +kernel
theorem dX4_pond_58 : decode cX4_pond 58 = .ok (.aload_n 0, 1) := by decide +kernel
theorem dX4_pond_59 : decode cX4_pond 59 = .ok (.getfield 29, 3) := by decide +kernel
theorem dX4_pond_62 : decode cX4_pond 62 = .ok (.getfield 149, 3) := by decide +kernel
theorem dX4_pond_65 : decode cX4_pond 65 = .ok (.goto 10, 3) := by decide +kernel
theorem dX4_pond_68 : decode cX4_pond 68 = .ok (.aload_n 0, 1) := by decide +kernel
theorem dX4_pond_69 : decode cX4_pond 69 = .ok (.getfield 29, 3) := by decide +kernel
theorem dX4_pond_72 : decode cX4_pond 72 = .ok (.invokevirtual 189, 3) := by decide +kernel
theorem dX4_pond_75 : decode cX4_pond 75 = .ok (.ireturn, 1) := by decide +kernel
theorem dX4_over_0 : decode cX4_over 0 = .ok (.aload_n 0, 1) := by decide +kernel
theorem dX4_over_1 : decode cX4_over 1 = .ok (.getfield 25, 3) := by decide +kernel
theorem dX4_over_4 : decode cX4_over 4 = .ok (.invokevirtual 137, 3) := by decide +kernel
theorem dX4_over_7 : decode cX4_over 7 = .ok (.ifCond .ne 6, 3) := by decide +kernel
theorem dX4_over_10 : decode cX4_over 10 = .ok (.ldc 136, 2) := by decide +kernel
theorem dX4_over_12 : decode cX4_over 12 = .ok (.ireturn, 1) := by decide +kernel
theorem dX4_over_13 : decode cX4_over 13 = .ok (.aload_n 0, 1) := by decide +kernel
theorem dX4_over_14 : decode cX4_over 14 = .ok (.getfield 29, 3) := by decide +kernel
theorem dX4_over_17 : decode cX4_over 17 = .ok (.aload_n 0, 1) := by decide +kernel
theorem dX4_over_18 : decode cX4_over 18 = .ok (.getfield 25, 3) := by decide +kernel
theorem dX4_over_21 : decode cX4_over 21 = .ok (.invokevirtual 120, 3) := by decide +kernel
theorem dX4_over_24 : decode cX4_over 24 = .ok (.iconst 0, 1) := by decide +kernel
theorem dX4_over_25 : decode cX4_over 25 = .ok (.istore_n 1, 1) := by decide +kernel
theorem dX4_over_26 : decode cX4_over 26 = .ok (.iload_n 1, 1) := by decide +kernel
theorem dX4_over_27 : decode cX4_over 27 = .ok (.sipush 200, 3) := by decide +kernel
theorem dX4_over_30 : decode cX4_over 30 = .ok (.if_icmp .gt 28, 3) := by decide +kernel
theorem dX4_over_33 : decode cX4_over 33 = .ok (.aload_n 0, 1) := by decide +kernel
theorem dX4_over_34 : decode cX4_over 34 = .ok (.getfield 29, 3) := by decide +kernel
theorem dX4_over_37 : decode cX4_over 37 = .ok (.invokevirtual 186, 3) := by decide +kernel
theorem dX4_over_40 : decode cX4_over 40 = .ok (.ifCond .eq 5, 3) := by decide +kernel
theorem dX4_over_43 : decode cX4_over 43 = .ok (.iload_n 1, 1) := by decide +kernel
theorem dX4_over_44 : decode cX4_over 44 = .ok (.ireturn, 1) := by decide +kernel
theorem dX4_over_45 : decode cX4_over 45 = .ok (.aload_n 0, 1) := by decide +kernel
theorem dX4_over_46 : decode cX4_over 46 = .ok (.getfield 29, 3) := by decide +kernel
theorem dX4_over_49 : decode cX4_over 49 = .ok (.invokevirtual 146, 3) := by decide +kernel
theorem dX4_over_52 : decode cX4_over 52 = .ok (.iinc 1 1, 3) := by decide +kernel
theorem dX4_over_55 : decode cX4_over 55 = .ok (.goto (-29), 3) := by decide +kernel
theorem dX4_over_58 : decode cX4_over 58 = .ok (.ldc 199, 2) := by decide +kernel
theorem dX4_over_60 : decode cX4_over 60 = .ok (.ireturn, 1) := by decide +kernel
theorem dX4_full_0 : decode cX4_full 0 = .ok (.aload_n 0, 1) := by decide +kernel
theorem dX4_full_1 : decode cX4_full 1 = .ok (.getfield 25, 3) := by decide +kernel
theorem dX4_full_4 : decode cX4_full 4 = .ok (.invokevirtual 137, 3) := by decide +kernel
theorem dX4_full_7 : decode cX4_full 7 = .ok (.ifCond .ne 6, 3) := by decide +kernel
theorem dX4_full_10 : decode cX4_full 10 = .ok (.ldc 136, 2) := by decide +kernel
theorem dX4_full_12 : decode cX4_full 12 = .ok (.ireturn, 1) := by decide +kernel
theorem dX4_full_13 : decode cX4_full 13 = .ok (.iload_n 1, 1) := by decide +kernel
theorem dX4_full_14 : decode cX4_full 14 = .ok (.iconst 0, 1) := by decide +kernel
theorem dX4_full_15 : decode cX4_full 15 = .ok (.iconst 1, 1) := by decide +kernel
theorem dX4_full_16 : decode cX4_full 16 = .ok (.invokestatic 52, 3) := by decide +kernel
theorem dX4_full_19 : decode cX4_full 19 = .ok (.ifCond .ne 6, 3) := by decide +kernel
theorem dX4_full_22 : decode cX4_full 22 = .ok (.ldc 56, 2) := by decide +kernel
theorem dX4_full_24 : decode cX4_full 24 = .ok (.ireturn, 1) := by decide +kernel
theorem dX4_full_25 : decode cX4_full 25 = .ok (.aload_n 0, 1) := by decide +kernel
theorem dX4_full_26 : decode cX4_full 26 = .ok (.getfield 29, 3) := by decide +kernel
theorem dX4_full_29 : decode cX4_full 29 = .ok (.aload_n 0, 1) := by decide +kernel
theorem dX4_full_30 : decode cX4_full 30 = .ok (.getfield 25, 3) := by decide +kernel
theorem dX4_full_33 : decode cX4_full 33 = .ok (.invokevirtual 120, 3) := by decide +kernel
theorem dX4_full_36 : decode cX4_full 36 = .ok (.iconst 0, 1) := by decide +kernel
theorem dX4_full_37 : decode cX4_full 37 = .ok (.istore_n 2, 1) := by decide +kernel
theorem dX4_full_38 : decode cX4_full 38 = .ok (.iload_n 2, 1) := by decide +kernel
theorem dX4_full_39 : decode cX4_full 39 = .ok (.bipush 99, 2) := by decide +kernel
theorem dX4_full_41 : decode cX4_full 41 = .ok (.if_icmp .gt 40, 3) := by decide +kernel
theorem dX4_full_44 : decode cX4_full 44 = .ok (.aload_n 0, 1) := by decide +kernel
theorem dX4_full_45 : decode cX4_full 45 = .ok (.getfield 29, 3) := by decide +kernel
theorem dX4_full_48 : decode cX4_full 48 = .ok (.invokevirtual 200, 3) := by decide +kernel
theorem dX4_full_51 : decode cX4_full 51 = .ok (.istore_n 3, 1) := by decide +kernel
theorem dX4_full_52 : decode cX4_full 52 = .ok (.iload_n 3, 1) := by decide +kernel
theorem dX4_full_53 : decode cX4_full 53 = .ok (.ldc 199, 2) := by decide +kernel
theorem dX4_full_55 : decode cX4_full 55 = .ok (.if_icmp .eq 13, 3) := by decide +kernel
theorem dX4_full_58 : decode cX4_full 58 = .ok (.iload_n 1, 1) := by decide +kernel
theorem dX4_full_59 : decode cX4_full 59 = .ok (.ifCond .ne 7, 3) := by decide +kernel
theorem dX4_full_62 : decode cX4_full 62 = .ok (.iload_n 3, 1) := by decide +kernel
theorem dX4_full_63 : decode cX4_full 63 = .ok (.goto 4, 3) := by decide +kernel
theorem dX4_full_66 : decode cX4_full 66 = .ok (.iload_n 2, 1) := by decide +kernel
theorem dX4_full_67 : decode cX4_full 67 = .ok (.ireturn, 1) := by decide +kernel
theorem dX4_full_68 : decode cX4_full 68 = .ok (.aload_n 0, 1) := by decide +kernel
theorem dX4_full_69 : decode cX4_full 69 = .ok (.getfield 29, 3) := by decide +kernel
theorem dX4_full_72 : decode cX4_full 72 = .ok (.invokevirtual 146, 3) := by decide +kernel
theorem dX4_full_75 : decode cX4_full 75 = .ok (.iinc 2 1, 3) := by decide +kernel
theorem dX4_full_78 : decode cX4_full 78 = .ok (.goto (-40), 3) := by decide +kernel
theorem dX4_full_81 : decode cX4_full 81 = .ok (.ldc 199, 2) := by decide +kernel
theorem dX4_full_83 : decode cX4_full 83 = .ok (.ireturn, 1) := by decide +kernel
theorem dX4_most_0 : decode cX4_most 0 = .ok (.aload_n 0, 1) := by decide +kernel
theorem dX4_most_1 : decode cX4_most 1 = .ok (.iload_n 1, 1) := by decide +kernel
theorem dX4_most_2 : decode cX4_most 2 = .ok (.invokevirtual 152, 3) := by decide +kernel
theorem dX4_most_5 : decode cX4_most 5 = .ok (.ifCond .eq 22, 3) := by decide +kernel
theorem dX4_most_8 : decode cX4_most 8 = .ok (.iload_n 2, 1) := by decide +kernel
theorem dX4_most_9 : decode cX4_most 9 = .ok (.iconst 0, 1) := by decide +kernel
theorem dX4_most_10 : decode cX4_most 10 = .ok (.bipush 99, 2) := by decide +kernel
theorem dX4_most_12 : decode cX4_most 12 = .ok (.invokestatic 52, 3) := by decide +kernel
theorem dX4_most_15 : decode cX4_most 15 = .ok (.ifCond .eq 12, 3) := by decide +kernel
theorem dX4_most_18 : decode cX4_most 18 = .ok (.iload_n 3, 1) := by decide +kernel
theorem dX4_most_19 : decode cX4_most 19 = .ok (.iconst 0, 1) := by decide +kernel
theorem dX4_most_20 : decode cX4_most 20 = .ok (.iconst 1, 1) := by decide +kernel
theorem dX4_most_21 : decode cX4_most 21 = .ok (.invokestatic 52, 3) := by decide +kernel
theorem dX4_most_24 : decode cX4_most 24 = .ok (.ifCond .ne 6, 3) := by decide +kernel
theorem dX4_most_27 : decode cX4_most 27 = .ok (.ldc 56, 2) := by decide +kernel
theorem dX4_most_29 : decode cX4_most 29 = .ok (.ireturn, 1) := by decide +kernel
theorem dX4_most_30 : decode cX4_most 30 = .ok (.aload_n 0, 1) := by decide +kernel
theorem dX4_most_31 : decode cX4_most 31 = .ok (.getfield 29, 3) := by decide +kernel
theorem dX4_most_34 : decode cX4_most 34 = .ok (.aload_n 0, 1) := by decide +kernel
theorem dX4_most_35 : decode cX4_most 35 = .ok (.getfield 25, 3) := by decide +kernel
theorem dX4_most_38 : decode cX4_most 38 = .ok (.invokevirtual 120, 3) := by decide +kernel
theorem dX4_most_41 : decode cX4_most 41 = .ok (.aload_n 0, 1) := by decide +kernel
theorem dX4_most_42 : decode cX4_most 42 = .ok (.getfield 29, 3) := by decide +kernel
theorem dX4_most_45 : decode cX4_most 45 = .ok (.getfield 180, 3) := by decide +kernel
theorem dX4_most_48 : decode cX4_most 48 = .ok (.iload_n 1, 1) := by decide +kernel
theorem dX4_most_49 : decode cX4_most 49 = .ok (.iaload, 1) := by decide +kernel
theorem dX4_most_50 : decode cX4_most 50 = .ok (.istore 4, 2) := by decide +kernel
theorem dX4_most_52 : decode cX4_most 52 = .ok (.iconst 0, 1) := by decide +kernel
theorem dX4_most_53 : decode cX4_most 53 = .ok (.istore 5, 2) := by decide +kernel
theorem dX4_most_55 : decode cX4_most 55 = .ok (.iconst 1, 1) := by decide +kernel
theorem dX4_most_56 : decode cX4_most 56 = .ok (.istore 6, 2) := by decide +kernel
theorem dX4_most_58 : decode cX4_most 58 = .ok (.iload 6, 2) := by decide +kernel
theorem dX4_most_60 : decode cX4_most 60 = .ok (.iload_n 2, 1) := by decide +kernel
theorem dX4_most_61 : decode cX4_most 61 = .ok (.if_icmp .gt 45, 3) := by decide +kernel
theorem dX4_most_64 : decode cX4_most 64 = .ok (.aload_n 0, 1) := by decide +kernel
theorem dX4_most_65 : decode cX4_most 65 = .ok (.getfield 29, 3) := by decide +kernel
theorem dX4_most_68 : decode cX4_most 68 = .ok (.invokevirtual 146, 3) := by decide +kernel
theorem dX4_most_71 : decode cX4_most 71 = .ok (.aload_n 0, 1) := by decide +kernel
theorem dX4_most_72 : decode cX4_most 72 = .ok (.getfield 29, 3) := by decide +kernel
theorem dX4_most_75 : decode cX4_most 75 = .ok (.getfield 180, 3) := by decide +kernel
theorem dX4_most_78 : decode cX4_most 78 = .ok (.iload_n 1, 1) := by decide +kernel
theorem dX4_most_79 : decode cX4_most 79 = .ok (.iaload, 1) := by decide +kernel
theorem dX4_most_80 : decode cX4_most 80 = .ok (.iload 4, 2) := by decide +kernel
theorem dX4_most_82 : decode cX4_most 82 = .ok (.if_icmp .le 18, 3) := by decide +kernel
theorem dX4_most_85 : decode cX4_most 85 = .ok (.aload_n 0, 1) := by decide +kernel
theorem dX4_most_86 : decode cX4_most 86 = .ok (.getfield 29, 3) := by decide +kernel
theorem dX4_most_89 : decode cX4_most 89 = .ok (.getfield 180, 3) := by decide +kernel
theorem dX4_most_92 : decode cX4_most 92 = .ok (.iload_n 1, 1) := by decide +kernel
theorem dX4_most_93 : decode cX4_most 93 = .ok (.iaload, 1) := by decide +kernel
theorem dX4_most_94 : decode cX4_most 94 = .ok (.istore 4, 2) := by decide +kernel
theorem dX4_most_96 : decode cX4_most 96 = .ok (.iload 6, 2) := by decide +kernel
theorem dX4_most_98 : decode cX4_most 98 = .ok (.istore 5, 2) := by decide +kernel
theorem dX4_most_100 : decode cX4_most 100 = .ok (.iinc 6 1, 3) := by decide +kernel
theorem dX4_most_103 : decode cX4_most 103 = .ok (.goto (-45), 3) := by decide +kernel
theorem dX4_most_106 : decode cX4_most 106 = .ok (.iload_n 3, 1) := by decide +kernel
theorem dX4_most_107 : decode cX4_most 107 = .ok (.ifCond .ne 8, 3) := by decide +kernel
theorem dX4_most_110 : decode cX4_most 110 = .ok (.iload 4, 2) := by decide +kernel
theorem dX4_most_112 : decode cX4_most 112 = .ok (.goto 5, 3) := by decide +kernel
theorem dX4_most_115 : decode cX4_most 115 = .ok (.iload 5, 2) := by decide +kernel
theorem dX4_most_117 : decode cX4_most 117 = .ok (.ireturn, 1) := by decide +kernel
theorem dX4_hushes_0 : decode cX4_hushes 0 = .ok (.aload_n 0, 1) := by decide +kernel
theorem dX4_hushes_1 : decode cX4_hushes 1 = .ok (.iload_n 1, 1) := by decide +kernel
theorem dX4_hushes_2 : decode cX4_hushes 2 = .ok (.invokevirtual 152, 3) := by decide +kernel
theorem dX4_hushes_5 : decode cX4_hushes 5 = .ok (.ifCond .eq 22, 3) := by decide +kernel
theorem dX4_hushes_8 : decode cX4_hushes 8 = .ok (.iload_n 2, 1) := by decide +kernel
theorem dX4_hushes_9 : decode cX4_hushes 9 = .ok (.iconst 1, 1) := by decide +kernel
theorem dX4_hushes_10 : decode cX4_hushes 10 = .ok (.bipush 40, 2) := by decide +kernel
theorem dX4_hushes_12 : decode cX4_hushes 12 = .ok (.invokestatic 52, 3) := by decide +kernel
theorem dX4_hushes_15 : decode cX4_hushes 15 = .ok (.ifCond .eq 12, 3) := by decide +kernel
theorem dX4_hushes_18 : decode cX4_hushes 18 = .ok (.iload_n 3, 1) := by decide +kernel
theorem dX4_hushes_19 : decode cX4_hushes 19 = .ok (.iconst 0, 1) := by decide +kernel
theorem dX4_hushes_20 : decode cX4_hushes 20 = .ok (.iconst 1, 1) := by decide +kernel
theorem dX4_hushes_21 : decode cX4_hushes 21 = .ok (.invokestatic 52, 3) := by decide +kernel
theorem dX4_hushes_24 : decode cX4_hushes 24 = .ok (.ifCond .ne 6, 3) := by decide +kernel
theorem dX4_hushes_27 : decode cX4_hushes 27 = .ok (.ldc 56, 2) := by decide +kernel
theorem dX4_hushes_29 : decode cX4_hushes 29 = .ok (.ireturn, 1) := by decide +kernel
theorem dX4_hushes_30 : decode cX4_hushes 30 = .ok (.aload_n 0, 1) := by decide +kernel
theorem dX4_hushes_31 : decode cX4_hushes 31 = .ok (.iload_n 1, 1) := by decide +kernel
theorem dX4_hushes_32 : decode cX4_hushes 32 = .ok (.iload_n 2, 1) := by decide +kernel
theorem dX4_hushes_33 : decode cX4_hushes 33 = .ok (.invokevirtual 203, 3) := by decide +kernel
theorem dX4_hushes_36 : decode cX4_hushes 36 = .ok (.iload_n 3, 1) := by decide +kernel
theorem dX4_hushes_37 : decode cX4_hushes 37 = .ok (.invokestatic 206, 3) := by decide +kernel
theorem dX4_hushes_40 : decode cX4_hushes 40 = .ok (.ireturn, 1) := by decide +kernel
theorem dX4_spares_0 : decode cX4_spares 0 = .ok (.aload_n 0, 1) := by decide +kernel
theorem dX4_spares_1 : decode cX4_spares 1 = .ok (.getfield 25, 3) := by decide +kernel
theorem dX4_spares_4 : decode cX4_spares 4 = .ok (.invokevirtual 137, 3) := by decide +kernel
theorem dX4_spares_7 : decode cX4_spares 7 = .ok (.ifCond .ne 6, 3) := by decide +kernel
theorem dX4_spares_10 : decode cX4_spares 10 = .ok (.ldc 136, 2) := by decide +kernel
theorem dX4_spares_12 : decode cX4_spares 12 = .ok (.ireturn, 1) := by decide +kernel
theorem dX4_spares_13 : decode cX4_spares 13 = .ok (.iload_n 1, 1) := by decide +kernel
theorem dX4_spares_14 : decode cX4_spares 14 = .ok (.iconst 1, 1) := by decide +kernel
theorem dX4_spares_15 : decode cX4_spares 15 = .ok (.bipush 40, 2) := by decide +kernel
theorem dX4_spares_17 : decode cX4_spares 17 = .ok (.invokestatic 52, 3) := by decide +kernel
theorem dX4_spares_20 : decode cX4_spares 20 = .ok (.ifCond .eq 12, 3) := by decide +kernel
theorem dX4_spares_23 : decode cX4_spares 23 = .ok (.iload_n 2, 1) := by decide +kernel
theorem dX4_spares_24 : decode cX4_spares 24 = .ok (.iconst 0, 1) := by decide +kernel
theorem dX4_spares_25 : decode cX4_spares 25 = .ok (.iconst 1, 1) := by decide +kernel
theorem dX4_spares_26 : decode cX4_spares 26 = .ok (.invokestatic 52, 3) := by decide +kernel
theorem dX4_spares_29 : decode cX4_spares 29 = .ok (.ifCond .ne 6, 3) := by decide +kernel
theorem dX4_spares_32 : decode cX4_spares 32 = .ok (.ldc 56, 2) := by decide +kernel
theorem dX4_spares_34 : decode cX4_spares 34 = .ok (.ireturn, 1) := by decide +kernel
theorem dX4_spares_35 : decode cX4_spares 35 = .ok (.aload_n 0, 1) := by decide +kernel
theorem dX4_spares_36 : decode cX4_spares 36 = .ok (.iconst (-1), 1) := by decide +kernel
theorem dX4_spares_37 : decode cX4_spares 37 = .ok (.iload_n 1, 1) := by decide +kernel
theorem dX4_spares_38 : decode cX4_spares 38 = .ok (.invokevirtual 203, 3) := by decide +kernel
theorem dX4_spares_41 : decode cX4_spares 41 = .ok (.iload_n 2, 1) := by decide +kernel
theorem dX4_spares_42 : decode cX4_spares 42 = .ok (.invokestatic 206, 3) := by decide +kernel
theorem dX4_spares_45 : decode cX4_spares 45 = .ok (.ireturn, 1) := by decide +kernel
theorem dX4_catches_0 : decode cX4_catches 0 = .ok (.aload_n 0, 1) := by decide +kernel
theorem dX4_catches_1 : decode cX4_catches 1 = .ok (.getfield 25, 3) := by decide +kernel
theorem dX4_catches_4 : decode cX4_catches 4 = .ok (.invokevirtual 137, 3) := by decide +kernel
theorem dX4_catches_7 : decode cX4_catches 7 = .ok (.ifCond .ne 6, 3) := by decide +kernel
theorem dX4_catches_10 : decode cX4_catches 10 = .ok (.ldc 136, 2) := by decide +kernel
theorem dX4_catches_12 : decode cX4_catches 12 = .ok (.ireturn, 1) := by decide +kernel
theorem dX4_catches_13 : decode cX4_catches 13 = .ok (.iload_n 1, 1) := by decide +kernel
theorem dX4_catches_14 : decode cX4_catches 14 = .ok (.iconst 1, 1) := by decide +kernel
theorem dX4_catches_15 : decode cX4_catches 15 = .ok (.bipush 40, 2) := by decide +kernel
theorem dX4_catches_17 : decode cX4_catches 17 = .ok (.invokestatic 52, 3) := by decide +kernel
theorem dX4_catches_20 : decode cX4_catches 20 = .ok (.ifCond .eq 12, 3) := by decide +kernel
theorem dX4_catches_23 : decode cX4_catches 23 = .ok (.iload_n 2, 1) := by decide +kernel
theorem dX4_catches_24 : decode cX4_catches 24 = .ok (.iconst 0, 1) := by decide +kernel
theorem dX4_catches_25 : decode cX4_catches 25 = .ok (.iconst 1, 1) := by decide +kernel
theorem dX4_catches_26 : decode cX4_catches 26 = .ok (.invokestatic 52, 3) := by decide +kernel
theorem dX4_catches_29 : decode cX4_catches 29 = .ok (.ifCond .ne 6, 3) := by decide +kernel
theorem dX4_catches_32 : decode cX4_catches 32 = .ok (.ldc 56, 2) := by decide +kernel
theorem dX4_catches_34 : decode cX4_catches 34 = .ok (.ireturn, 1) := by decide +kernel
theorem dX4_catches_35 : decode cX4_catches 35 = .ok (.iconst 0, 1) := by decide +kernel
theorem dX4_catches_36 : decode cX4_catches 36 = .ok (.istore_n 3, 1) := by decide +kernel
theorem dX4_catches_37 : decode cX4_catches 37 = .ok (.sipush 10000, 3) := by decide +kernel
theorem dX4_catches_40 : decode cX4_catches 40 = .ok (.istore 4, 2) := by decide +kernel
theorem dX4_catches_42 : decode cX4_catches 42 = .ok (.iconst 0, 1) := by decide +kernel
theorem dX4_catches_43 : decode cX4_catches 43 = .ok (.istore 5, 2) := by decide +kernel
theorem dX4_catches_45 : decode cX4_catches 45 = .ok (.iload 5, 2) := by decide +kernel
theorem dX4_catches_47 : decode cX4_catches 47 = .ok (.aload_n 0, 1) := by decide +kernel
theorem dX4_catches_48 : decode cX4_catches 48 = .ok (.getfield 25, 3) := by decide +kernel
theorem dX4_catches_51 : decode cX4_catches 51 = .ok (.getfield 127, 3) := by decide +kernel
theorem dX4_catches_54 : decode cX4_catches 54 = .ok (.if_icmp .ge 63, 3) := by decide +kernel
theorem dX4_catches_57 : decode cX4_catches 57 = .ok (.aload_n 0, 1) := by decide +kernel
theorem dX4_catches_58 : decode cX4_catches 58 = .ok (.getfield 29, 3) := by decide +kernel
theorem dX4_catches_61 : decode cX4_catches 61 = .ok (.aload_n 0, 1) := by decide +kernel
theorem dX4_catches_62 : decode cX4_catches 62 = .ok (.getfield 25, 3) := by decide +kernel
theorem dX4_catches_65 : decode cX4_catches 65 = .ok (.invokevirtual 120, 3) := by decide +kernel
theorem dX4_catches_68 : decode cX4_catches 68 = .ok (.aload_n 0, 1) := by decide +kernel
theorem dX4_catches_69 : decode cX4_catches 69 = .ok (.getfield 29, 3) := by decide +kernel
theorem dX4_catches_72 : decode cX4_catches 72 = .ok (.iload 5, 2) := by decide +kernel
theorem dX4_catches_74 : decode cX4_catches 74 = .ok (.bipush 9, 2) := by decide +kernel
theorem dX4_catches_76 : decode cX4_catches 76 = .ok (.invokevirtual 167, 3) := by decide +kernel
theorem dX4_catches_79 : decode cX4_catches 79 = .ok (.aload_n 0, 1) := by decide +kernel
theorem dX4_catches_80 : decode cX4_catches 80 = .ok (.getfield 29, 3) := by decide +kernel
theorem dX4_catches_83 : decode cX4_catches 83 = .ok (.iload_n 1, 1) := by decide +kernel
theorem dX4_catches_84 : decode cX4_catches 84 = .ok (.invokevirtual 196, 3) := by decide +kernel
theorem dX4_catches_87 : decode cX4_catches 87 = .ok (.aload_n 0, 1) := by decide +kernel
theorem dX4_catches_88 : decode cX4_catches 88 = .ok (.getfield 29, 3) := by decide +kernel
theorem dX4_catches_91 : decode cX4_catches 91 = .ok (.getfield 149, 3) := by decide +kernel
theorem dX4_catches_94 : decode cX4_catches 94 = .ok (.iload 4, 2) := by decide +kernel
theorem dX4_catches_96 : decode cX4_catches 96 = .ok (.if_icmp .ge 15, 3) := by decide +kernel
theorem dX4_catches_99 : decode cX4_catches 99 = .ok (.aload_n 0, 1) := by decide +kernel
theorem dX4_catches_100 : decode cX4_catches 100 = .ok (.getfield 29, 3) := by decide +kernel
theorem dX4_catches_103 : decode cX4_catches 103 = .ok (.getfield 149, 3) := by decide +kernel
theorem dX4_catches_106 : decode cX4_catches 106 = .ok (.istore 4, 2) := by decide +kernel
theorem dX4_catches_108 : decode cX4_catches 108 = .ok (.iload 5, 2) := by decide +kernel
theorem dX4_catches_110 : decode cX4_catches 110 = .ok (.istore_n 3, 1) := by decide +kernel
theorem dX4_catches_111 : decode cX4_catches 111 = .ok (.iinc 5 1, 3) := by decide +kernel
theorem dX4_catches_114 : decode cX4_catches 114 = .ok (.goto (-69), 3) := by decide +kernel
theorem dX4_catches_117 : decode cX4_catches 117 = .ok (.iload_n 2, 1) := by decide +kernel
theorem dX4_catches_118 : decode cX4_catches 118 = .ok (.ifCond .ne 7, 3) := by decide +kernel
theorem dX4_catches_121 : decode cX4_catches 121 = .ok (.iload_n 3, 1) := by decide +kernel
theorem dX4_catches_122 : decode cX4_catches 122 = .ok (.goto 5, 3) := by decide +kernel
theorem dX4_catches_125 : decode cX4_catches 125 = .ok (.iload 4, 2) := by decide +kernel
theorem dX4_catches_127 : decode cX4_catches 127 = .ok (.ireturn, 1) := by decide +kernel
theorem dX4_from_0 : decode cX4_from 0 = .ok (.aload_n 0, 1) := by decide +kernel
theorem dX4_from_1 : decode cX4_from 1 = .ok (.iload_n 1, 1) := by decide +kernel
theorem dX4_from_2 : decode cX4_from 2 = .ok (.invokevirtual 152, 3) := by decide +kernel
theorem dX4_from_5 : decode cX4_from 5 = .ok (.ifCond .eq 13, 3) := by decide +kernel
theorem dX4_from_8 : decode cX4_from 8 = .ok (.iload_n 2, 1) := by decide +kernel
theorem dX4_from_9 : decode cX4_from 9 = .ok (.iconst 1, 1) := by decide +kernel
theorem dX4_from_10 : decode cX4_from 10 = .ok (.bipush 40, 2) := by decide +kernel
theorem dX4_from_12 : decode cX4_from 12 = .ok (.invokestatic 52, 3) := by decide +kernel
theorem dX4_from_15 : decode cX4_from 15 = .ok (.ifCond .ne 6, 3) := by decide +kernel
theorem dX4_from_18 : decode cX4_from 18 = .ok (.ldc 56, 2) := by decide +kernel
theorem dX4_from_20 : decode cX4_from 20 = .ok (.ireturn, 1) := by decide +kernel
theorem dX4_from_21 : decode cX4_from 21 = .ok (.aload_n 0, 1) := by decide +kernel
theorem dX4_from_22 : decode cX4_from 22 = .ok (.iconst 0, 1) := by decide +kernel
theorem dX4_from_23 : decode cX4_from 23 = .ok (.iload_n 2, 1) := by decide +kernel
theorem dX4_from_24 : decode cX4_from 24 = .ok (.invokevirtual 209, 3) := by decide +kernel
theorem dX4_from_27 : decode cX4_from 27 = .ok (.aload_n 0, 1) := by decide +kernel
theorem dX4_from_28 : decode cX4_from 28 = .ok (.getfield 29, 3) := by decide +kernel
theorem dX4_from_31 : decode cX4_from 31 = .ok (.getfield 149, 3) := by decide +kernel
theorem dX4_from_34 : decode cX4_from 34 = .ok (.istore_n 3, 1) := by decide +kernel
theorem dX4_from_35 : decode cX4_from 35 = .ok (.aload_n 0, 1) := by decide +kernel
theorem dX4_from_36 : decode cX4_from 36 = .ok (.iconst 1, 1) := by decide +kernel
theorem dX4_from_37 : decode cX4_from 37 = .ok (.iload_n 1, 1) := by decide +kernel
theorem dX4_from_38 : decode cX4_from 38 = .ok (.ishl, 1) := by decide +kernel
theorem dX4_from_39 : decode cX4_from 39 = .ok (.iload_n 2, 1) := by decide +kernel
theorem dX4_from_40 : decode cX4_from 40 = .ok (.invokevirtual 209, 3) := by decide +kernel
theorem dX4_from_43 : decode cX4_from 43 = .ok (.sipush 1000, 3) := by decide +kernel
theorem dX4_from_46 : decode cX4_from 46 = .ok (.iload_n 3, 1) := by decide +kernel
theorem dX4_from_47 : decode cX4_from 47 = .ok (.iadd, 1) := by decide +kernel
theorem dX4_from_48 : decode cX4_from 48 = .ok (.aload_n 0, 1) := by decide +kernel
theorem dX4_from_49 : decode cX4_from 49 = .ok (.getfield 29, 3) := by decide +kernel
theorem dX4_from_52 : decode cX4_from 52 = .ok (.getfield 149, 3) := by decide +kernel
theorem dX4_from_55 : decode cX4_from 55 = .ok (.isub, 1) := by decide +kernel
theorem dX4_from_56 : decode cX4_from 56 = .ok (.ireturn, 1) := by decide +kernel
theorem dX4_loud_0 : decode cX4_loud 0 = .ok (.aload_n 0, 1) := by decide +kernel
theorem dX4_loud_1 : decode cX4_loud 1 = .ok (.iload_n 1, 1) := by decide +kernel
theorem dX4_loud_2 : decode cX4_loud 2 = .ok (.invokevirtual 152, 3) := by decide +kernel
theorem dX4_loud_5 : decode cX4_loud 5 = .ok (.ifCond .eq 13, 3) := by decide +kernel
theorem dX4_loud_8 : decode cX4_loud 8 = .ok (.iload_n 2, 1) := by decide +kernel
theorem dX4_loud_9 : decode cX4_loud 9 = .ok (.iconst 1, 1) := by decide +kernel
theorem dX4_loud_10 : decode cX4_loud 10 = .ok (.bipush 99, 2) := by decide +kernel
theorem dX4_loud_12 : decode cX4_loud 12 = .ok (.invokestatic 52, 3) := by decide +kernel
theorem dX4_loud_15 : decode cX4_loud 15 = .ok (.ifCond .ne 6, 3) := by decide +kernel
theorem dX4_loud_18 : decode cX4_loud 18 = .ok (.ldc 56, 2) := by decide +kernel
theorem dX4_loud_20 : decode cX4_loud 20 = .ok (.ireturn, 1) := by decide +kernel
theorem dX4_loud_21 : decode cX4_loud 21 = .ok (.iconst 0, 1) := by decide +kernel
theorem dX4_loud_22 : decode cX4_loud 22 = .ok (.istore_n 3, 1) := by decide +kernel
theorem dX4_loud_23 : decode cX4_loud 23 = .ok (.iload_n 3, 1) := by decide +kernel
theorem dX4_loud_24 : decode cX4_loud 24 = .ok (.bipush 20, 2) := by decide +kernel
theorem dX4_loud_26 : decode cX4_loud 26 = .ok (.if_icmp .gt 50, 3) := by decide +kernel
theorem dX4_loud_29 : decode cX4_loud 29 = .ok (.aload_n 0, 1) := by decide +kernel
theorem dX4_loud_30 : decode cX4_loud 30 = .ok (.getfield 29, 3) := by decide +kernel
theorem dX4_loud_33 : decode cX4_loud 33 = .ok (.aload_n 0, 1) := by decide +kernel
theorem dX4_loud_34 : decode cX4_loud 34 = .ok (.getfield 25, 3) := by decide +kernel
theorem dX4_loud_37 : decode cX4_loud 37 = .ok (.invokevirtual 120, 3) := by decide +kernel
theorem dX4_loud_40 : decode cX4_loud 40 = .ok (.aload_n 0, 1) := by decide +kernel
theorem dX4_loud_41 : decode cX4_loud 41 = .ok (.getfield 29, 3) := by decide +kernel
theorem dX4_loud_44 : decode cX4_loud 44 = .ok (.getfield 155, 3) := by decide +kernel
theorem dX4_loud_47 : decode cX4_loud 47 = .ok (.iload_n 1, 1) := by decide +kernel
theorem dX4_loud_48 : decode cX4_loud 48 = .ok (.iload_n 3, 1) := by decide +kernel
theorem dX4_loud_49 : decode cX4_loud 49 = .ok (.iastore, 1) := by decide +kernel
theorem dX4_loud_50 : decode cX4_loud 50 = .ok (.aload_n 0, 1) := by decide +kernel
theorem dX4_loud_51 : decode cX4_loud 51 = .ok (.getfield 29, 3) := by decide +kernel
theorem dX4_loud_54 : decode cX4_loud 54 = .ok (.iload_n 2, 1) := by decide +kernel
theorem dX4_loud_55 : decode cX4_loud 55 = .ok (.invokevirtual 196, 3) := by decide +kernel
theorem dX4_loud_58 : decode cX4_loud 58 = .ok (.aload_n 0, 1) := by decide +kernel
theorem dX4_loud_59 : decode cX4_loud 59 = .ok (.getfield 29, 3) := by decide +kernel
theorem dX4_loud_62 : decode cX4_loud 62 = .ok (.invokevirtual 186, 3) := by decide +kernel
theorem dX4_loud_65 : decode cX4_loud 65 = .ok (.ifCond .eq 5, 3) := by decide +kernel
theorem dX4_loud_68 : decode cX4_loud 68 = .ok (.iload_n 3, 1) := by decide +kernel
theorem dX4_loud_69 : decode cX4_loud 69 = .ok (.ireturn, 1) := by decide +kernel
theorem dX4_loud_70 : decode cX4_loud 70 = .ok (.iinc 3 1, 3) := by decide +kernel
theorem dX4_loud_73 : decode cX4_loud 73 = .ok (.goto (-50), 3) := by decide +kernel
theorem dX4_loud_76 : decode cX4_loud 76 = .ok (.ldc 199, 2) := by decide +kernel
theorem dX4_loud_78 : decode cX4_loud 78 = .ok (.ireturn, 1) := by decide +kernel
theorem dX4_dry_0 : decode cX4_dry 0 = .ok (.aload_n 0, 1) := by decide +kernel
theorem dX4_dry_1 : decode cX4_dry 1 = .ok (.getfield 25, 3) := by decide +kernel
theorem dX4_dry_4 : decode cX4_dry 4 = .ok (.invokevirtual 137, 3) := by decide +kernel
theorem dX4_dry_7 : decode cX4_dry 7 = .ok (.ifCond .eq 13, 3) := by decide +kernel
theorem dX4_dry_10 : decode cX4_dry 10 = .ok (.aload_n 0, 1) := by decide +kernel
theorem dX4_dry_11 : decode cX4_dry 11 = .ok (.getfield 25, 3) := by decide +kernel
theorem dX4_dry_14 : decode cX4_dry 14 = .ok (.invokevirtual 212, 3) := by decide +kernel
theorem dX4_dry_17 : decode cX4_dry 17 = .ok (.goto 5, 3) := by decide +kernel
theorem dX4_dry_20 : decode cX4_dry 20 = .ok (.ldc 136, 2) := by decide +kernel
theorem dX4_dry_22 : decode cX4_dry 22 = .ok (.ireturn, 1) := by decide +kernel
theorem dX4_lag_0 : decode cX4_lag 0 = .ok (.aload_n 0, 1) := by decide +kernel
theorem dX4_lag_1 : decode cX4_lag 1 = .ok (.iload_n 1, 1) := by decide +kernel
theorem dX4_lag_2 : decode cX4_lag 2 = .ok (.invokevirtual 152, 3) := by decide +kernel
theorem dX4_lag_5 : decode cX4_lag 5 = .ok (.ifCond .ne 6, 3) := by decide +kernel
theorem dX4_lag_8 : decode cX4_lag 8 = .ok (.ldc 56, 2) := by decide +kernel
theorem dX4_lag_10 : decode cX4_lag 10 = .ok (.ireturn, 1) := by decide +kernel
theorem dX4_lag_11 : decode cX4_lag 11 = .ok (.aload_n 0, 1) := by decide +kernel
theorem dX4_lag_12 : decode cX4_lag 12 = .ok (.getfield 25, 3) := by decide +kernel
theorem dX4_lag_15 : decode cX4_lag 15 = .ok (.getfield 180, 3) := by decide +kernel
theorem dX4_lag_18 : decode cX4_lag 18 = .ok (.iload_n 1, 1) := by decide +kernel
theorem dX4_lag_19 : decode cX4_lag 19 = .ok (.iaload, 1) := by decide +kernel
theorem dX4_lag_20 : decode cX4_lag 20 = .ok (.ifCond .le 15, 3) := by decide +kernel
theorem dX4_lag_23 : decode cX4_lag 23 = .ok (.aload_n 0, 1) := by decide +kernel
theorem dX4_lag_24 : decode cX4_lag 24 = .ok (.getfield 25, 3) := by decide +kernel
theorem dX4_lag_27 : decode cX4_lag 27 = .ok (.getfield 127, 3) := by decide +kernel
theorem dX4_lag_30 : decode cX4_lag 30 = .ok (.iload_n 1, 1) := by decide +kernel
theorem dX4_lag_31 : decode cX4_lag 31 = .ok (.isub, 1) := by decide +kernel
theorem dX4_lag_32 : decode cX4_lag 32 = .ok (.goto 5, 3) := by decide +kernel
theorem dX4_lag_35 : decode cX4_lag 35 = .ok (.ldc 199, 2) := by decide +kernel
theorem dX4_lag_37 : decode cX4_lag 37 = .ok (.ireturn, 1) := by decide +kernel
theorem dX4_who_0 : decode cX4_who 0 = .ok (.aload_n 0, 1) := by decide +kernel
theorem dX4_who_1 : decode cX4_who 1 = .ok (.iload_n 1, 1) := by decide +kernel
theorem dX4_who_2 : decode cX4_who 2 = .ok (.invokevirtual 152, 3) := by decide +kernel
theorem dX4_who_5 : decode cX4_who 5 = .ok (.ifCond .eq 20, 3) := by decide +kernel
theorem dX4_who_8 : decode cX4_who 8 = .ok (.iload_n 2, 1) := by decide +kernel
theorem dX4_who_9 : decode cX4_who 9 = .ok (.iconst 0, 1) := by decide +kernel
theorem dX4_who_10 : decode cX4_who 10 = .ok (.iconst 2, 1) := by decide +kernel
theorem dX4_who_11 : decode cX4_who 11 = .ok (.invokestatic 52, 3) := by decide +kernel
theorem dX4_who_14 : decode cX4_who 14 = .ok (.ifCond .eq 11, 3) := by decide +kernel
theorem dX4_who_17 : decode cX4_who 17 = .ok (.aload_n 0, 1) := by decide +kernel
theorem dX4_who_18 : decode cX4_who 18 = .ok (.iload_n 3, 1) := by decide +kernel
theorem dX4_who_19 : decode cX4_who 19 = .ok (.invokevirtual 152, 3) := by decide +kernel
theorem dX4_who_22 : decode cX4_who 22 = .ok (.ifCond .ne 6, 3) := by decide +kernel
theorem dX4_who_25 : decode cX4_who 25 = .ok (.ldc 56, 2) := by decide +kernel
theorem dX4_who_27 : decode cX4_who 27 = .ok (.ireturn, 1) := by decide +kernel
theorem dX4_who_28 : decode cX4_who 28 = .ok (.iload 4, 2) := by decide +kernel
theorem dX4_who_30 : decode cX4_who 30 = .ok (.invokestatic 48, 3) := by decide +kernel
theorem dX4_who_33 : decode cX4_who 33 = .ok (.ifCond .eq 14, 3) := by decide +kernel
theorem dX4_who_36 : decode cX4_who 36 = .ok (.iload 6, 2) := by decide +kernel
theorem dX4_who_38 : decode cX4_who 38 = .ok (.iconst 1, 1) := by decide +kernel
theorem dX4_who_39 : decode cX4_who 39 = .ok (.bipush 12, 2) := by decide +kernel
theorem dX4_who_41 : decode cX4_who 41 = .ok (.invokestatic 52, 3) := by decide +kernel
theorem dX4_who_44 : decode cX4_who 44 = .ok (.ifCond .ne 6, 3) := by decide +kernel
theorem dX4_who_47 : decode cX4_who 47 = .ok (.ldc 56, 2) := by decide +kernel
theorem dX4_who_49 : decode cX4_who 49 = .ok (.ireturn, 1) := by decide +kernel
theorem dX4_who_50 : decode cX4_who 50 = .ok (.aload_n 0, 1) := by decide +kernel
theorem dX4_who_51 : decode cX4_who 51 = .ok (.getfield 11, 3) := by decide +kernel
theorem dX4_who_54 : decode cX4_who 54 = .ok (.iload 4, 2) := by decide +kernel
theorem dX4_who_56 : decode cX4_who 56 = .ok (.aaload, 1) := by decide +kernel
theorem dX4_who_57 : decode cX4_who 57 = .ok (.iload 5, 2) := by decide +kernel
theorem dX4_who_59 : decode cX4_who 59 = .ok (.iload 6, 2) := by decide +kernel
theorem dX4_who_61 : decode cX4_who 61 = .ok (.invokevirtual 68, 3) := by decide +kernel
theorem dX4_who_64 : decode cX4_who 64 = .ok (.istore 7, 2) := by decide +kernel
theorem dX4_who_66 : decode cX4_who 66 = .ok (.iload 7, 2) := by decide +kernel
theorem dX4_who_68 : decode cX4_who 68 = .ok (.ifCond .eq 12, 3) := by decide +kernel
theorem dX4_who_71 : decode cX4_who 71 = .ok (.aload_n 0, 1) := by decide +kernel
theorem dX4_who_72 : decode cX4_who 72 = .ok (.iload 7, 2) := by decide +kernel
theorem dX4_who_74 : decode cX4_who 74 = .ok (.invokevirtual 57, 3) := by decide +kernel
theorem dX4_who_77 : decode cX4_who 77 = .ok (.goto 25, 3) := by decide +kernel
theorem dX4_who_80 : decode cX4_who 80 = .ok (.aload_n 0, 1) := by decide +kernel
theorem dX4_who_81 : decode cX4_who 81 = .ok (.aload_n 0, 1) := by decide +kernel
theorem dX4_who_82 : decode cX4_who 82 = .ok (.iload_n 1, 1) := by decide +kernel
theorem dX4_who_83 : decode cX4_who 83 = .ok (.iload_n 2, 1) := by decide +kernel
theorem dX4_who_84 : decode cX4_who 84 = .ok (.iload_n 3, 1) := by decide +kernel
theorem dX4_who_85 : decode cX4_who 85 = .ok (.aload_n 0, 1) := by decide +kernel
theorem dX4_who_86 : decode cX4_who 86 = .ok (.getfield 11, 3) := by decide +kernel
theorem dX4_who_89 : decode cX4_who 89 = .ok (.iload 4, 2) := by decide +kernel
theorem dX4_who_91 : decode cX4_who 91 = .ok (.aaload, 1) := by decide +kernel
theorem dX4_who_92 : decode cX4_who 92 = .ok (.iload 5, 2) := by decide +kernel
theorem dX4_who_94 : decode cX4_who 94 = .ok (.iload 6, 2) := by decide +kernel
theorem dX4_who_96 : decode cX4_who 96 = .ok (.invokevirtual 215, 3) := by decide +kernel
theorem dX4_who_99 : decode cX4_who 99 = .ok (.invokevirtual 65, 3) := by decide +kernel
theorem dX4_who_102 : decode cX4_who 102 = .ok (.ireturn, 1) := by decide +kernel
theorem dX4_silent_0 : decode cX4_silent 0 = .ok (.aload_n 0, 1) := by decide +kernel
theorem dX4_silent_1 : decode cX4_silent 1 = .ok (.iload_n 1, 1) := by decide +kernel
theorem dX4_silent_2 : decode cX4_silent 2 = .ok (.invokevirtual 152, 3) := by decide +kernel
theorem dX4_silent_5 : decode cX4_silent 5 = .ok (.ifCond .eq 21, 3) := by decide +kernel
theorem dX4_silent_8 : decode cX4_silent 8 = .ok (.iload_n 2, 1) := by decide +kernel
theorem dX4_silent_9 : decode cX4_silent 9 = .ok (.invokestatic 48, 3) := by decide +kernel
theorem dX4_silent_12 : decode cX4_silent 12 = .ok (.ifCond .eq 14, 3) := by decide +kernel
theorem dX4_silent_15 : decode cX4_silent 15 = .ok (.iload 4, 2) := by decide +kernel
theorem dX4_silent_17 : decode cX4_silent 17 = .ok (.iconst 1, 1) := by decide +kernel
theorem dX4_silent_18 : decode cX4_silent 18 = .ok (.bipush 12, 2) := by decide +kernel
theorem dX4_silent_20 : decode cX4_silent 20 = .ok (.invokestatic 52, 3) := by decide +kernel
theorem dX4_silent_23 : decode cX4_silent 23 = .ok (.ifCond .ne 6, 3) := by decide +kernel
theorem dX4_silent_26 : decode cX4_silent 26 = .ok (.ldc 56, 2) := by decide +kernel
theorem dX4_silent_28 : decode cX4_silent 28 = .ok (.ireturn, 1) := by decide +kernel
theorem dX4_silent_29 : decode cX4_silent 29 = .ok (.aload_n 0, 1) := by decide +kernel
theorem dX4_silent_30 : decode cX4_silent 30 = .ok (.getfield 11, 3) := by decide +kernel
theorem dX4_silent_33 : decode cX4_silent 33 = .ok (.iload_n 2, 1) := by decide +kernel
theorem dX4_silent_34 : decode cX4_silent 34 = .ok (.aaload, 1) := by decide +kernel
theorem dX4_silent_35 : decode cX4_silent 35 = .ok (.iload_n 3, 1) := by decide +kernel
theorem dX4_silent_36 : decode cX4_silent 36 = .ok (.iload 4, 2) := by decide +kernel
theorem dX4_silent_38 : decode cX4_silent 38 = .ok (.invokevirtual 68, 3) := by decide +kernel
theorem dX4_silent_41 : decode cX4_silent 41 = .ok (.istore 5, 2) := by decide +kernel
theorem dX4_silent_43 : decode cX4_silent 43 = .ok (.iload 5, 2) := by decide +kernel
theorem dX4_silent_45 : decode cX4_silent 45 = .ok (.ifCond .eq 12, 3) := by decide +kernel
theorem dX4_silent_48 : decode cX4_silent 48 = .ok (.aload_n 0, 1) := by decide +kernel
theorem dX4_silent_49 : decode cX4_silent 49 = .ok (.iload 5, 2) := by decide +kernel
theorem dX4_silent_51 : decode cX4_silent 51 = .ok (.invokevirtual 57, 3) := by decide +kernel
theorem dX4_silent_54 : decode cX4_silent 54 = .ok (.goto 21, 3) := by decide +kernel
theorem dX4_silent_57 : decode cX4_silent 57 = .ok (.aload_n 0, 1) := by decide +kernel
theorem dX4_silent_58 : decode cX4_silent 58 = .ok (.aload_n 0, 1) := by decide +kernel
theorem dX4_silent_59 : decode cX4_silent 59 = .ok (.iload_n 1, 1) := by decide +kernel
theorem dX4_silent_60 : decode cX4_silent 60 = .ok (.aload_n 0, 1) := by decide +kernel
theorem dX4_silent_61 : decode cX4_silent 61 = .ok (.getfield 11, 3) := by decide +kernel
theorem dX4_silent_64 : decode cX4_silent 64 = .ok (.iload_n 2, 1) := by decide +kernel
theorem dX4_silent_65 : decode cX4_silent 65 = .ok (.aaload, 1) := by decide +kernel
theorem dX4_silent_66 : decode cX4_silent 66 = .ok (.iload_n 3, 1) := by decide +kernel
theorem dX4_silent_67 : decode cX4_silent 67 = .ok (.iload 4, 2) := by decide +kernel
theorem dX4_silent_69 : decode cX4_silent 69 = .ok (.invokevirtual 219, 3) := by decide +kernel
theorem dX4_silent_72 : decode cX4_silent 72 = .ok (.invokevirtual 65, 3) := by decide +kernel
theorem dX4_silent_75 : decode cX4_silent 75 = .ok (.ireturn, 1) := by decide +kernel
theorem dX4_hushed_0 : decode cX4_hushed 0 = .ok (.aload_n 0, 1) := by decide +kernel
theorem dX4_hushed_1 : decode cX4_hushed 1 = .ok (.getfield 25, 3) := by decide +kernel
theorem dX4_hushed_4 : decode cX4_hushed 4 = .ok (.invokevirtual 137, 3) := by decide +kernel
theorem dX4_hushed_7 : decode cX4_hushed 7 = .ok (.ifCond .ne 7, 3) := by decide +kernel
theorem dX4_hushed_10 : decode cX4_hushed 10 = .ok (.ldc2_w 223, 3) := by decide +kernel
theorem dX4_hushed_13 : decode cX4_hushed 13 = .ok (.lreturn, 1) := by decide +kernel
theorem dX4_hushed_14 : decode cX4_hushed 14 = .ok (.iload_n 1, 1) := by decide +kernel
theorem dX4_hushed_15 : decode cX4_hushed 15 = .ok (.iconst 0, 1) := by decide +kernel
theorem dX4_hushed_16 : decode cX4_hushed 16 = .ok (.bipush 40, 2) := by decide +kernel
theorem dX4_hushed_18 : decode cX4_hushed 18 = .ok (.invokestatic 52, 3) := by decide +kernel
theorem dX4_hushed_21 : decode cX4_hushed 21 = .ok (.ifCond .eq 22, 3) := by decide +kernel
theorem dX4_hushed_24 : decode cX4_hushed 24 = .ok (.iload_n 2, 1) := by decide +kernel
theorem dX4_hushed_25 : decode cX4_hushed 25 = .ok (.iconst 0, 1) := by decide +kernel
theorem dX4_hushed_26 : decode cX4_hushed 26 = .ok (.bipush 10, 2) := by decide +kernel
theorem dX4_hushed_28 : decode cX4_hushed 28 = .ok (.invokestatic 52, 3) := by decide +kernel
theorem dX4_hushed_31 : decode cX4_hushed 31 = .ok (.ifCond .eq 12, 3) := by decide +kernel
theorem dX4_hushed_34 : decode cX4_hushed 34 = .ok (.iload_n 3, 1) := by decide +kernel
theorem dX4_hushed_35 : decode cX4_hushed 35 = .ok (.iconst 0, 1) := by decide +kernel
theorem dX4_hushed_36 : decode cX4_hushed 36 = .ok (.iconst 1, 1) := by decide +kernel
theorem dX4_hushed_37 : decode cX4_hushed 37 = .ok (.invokestatic 52, 3) := by decide +kernel
theorem dX4_hushed_40 : decode cX4_hushed 40 = .ok (.ifCond .ne 7, 3) := by decide +kernel
theorem dX4_hushed_43 : decode cX4_hushed 43 = .ok (.ldc2_w 225, 3) := by decide +kernel
theorem dX4_hushed_46 : decode cX4_hushed 46 = .ok (.lreturn, 1) := by decide +kernel
theorem dX4_hushed_47 : decode cX4_hushed 47 = .ok (.aload_n 0, 1) := by decide +kernel
theorem dX4_hushed_48 : decode cX4_hushed 48 = .ok (.iload_n 1, 1) := by decide +kernel
theorem dX4_hushed_49 : decode cX4_hushed 49 = .ok (.iload_n 2, 1) := by decide +kernel
theorem dX4_hushed_50 : decode cX4_hushed 50 = .ok (.invokevirtual 227, 3) := by decide +kernel
theorem dX4_hushed_53 : decode cX4_hushed 53 = .ok (.lstore 4, 2) := by decide +kernel
theorem dX4_hushed_55 : decode cX4_hushed 55 = .ok (.ldc2_w 231, 3) := by decide +kernel
theorem dX4_hushed_58 : decode cX4_hushed 58 = .ok (.aload_n 0, 1) := by decide +kernel
theorem dX4_hushed_59 : decode cX4_hushed 59 = .ok (.getfield 25, 3) := by decide +kernel
theorem dX4_hushed_62 : decode cX4_hushed 62 = .ok (.getfield 127, 3) := by decide +kernel
theorem dX4_hushed_65 : decode cX4_hushed 65 = .ok (.aload_n 0, 1) := by decide +kernel
theorem dX4_hushed_66 : decode cX4_hushed 66 = .ok (.getfield 25, 3) := by decide +kernel
theorem dX4_hushed_69 : decode cX4_hushed 69 = .ok (.getfield 161, 3) := by decide +kernel
theorem dX4_hushed_72 : decode cX4_hushed 72 = .ok (.invokestatic 233, 3) := by decide +kernel
theorem dX4_hushed_75 : decode cX4_hushed 75 = .ok (.isub, 1) := by decide +kernel
theorem dX4_hushed_76 : decode cX4_hushed 76 = .ok (.invokestatic 238, 3) := by decide +kernel
theorem dX4_hushed_79 : decode cX4_hushed 79 = .ok (.lstore 6, 2) := by decide +kernel
theorem dX4_hushed_81 : decode cX4_hushed 81 = .ok (.lload 4, 2) := by decide +kernel
theorem dX4_hushed_83 : decode cX4_hushed 83 = .ok (.lload 6, 2) := by decide +kernel
theorem dX4_hushed_85 : decode cX4_hushed 85 = .ok (.invokestatic 242, 3) := by decide +kernel
theorem dX4_hushed_88 : decode cX4_hushed 88 = .ok (.lstore 8, 2) := by decide +kernel
theorem dX4_hushed_90 : decode cX4_hushed 90 = .ok (.iload_n 3, 1) := by decide +kernel
theorem dX4_hushed_91 : decode cX4_hushed 91 = .ok (.ifCond .ne 8, 3) := by decide +kernel
theorem dX4_hushed_94 : decode cX4_hushed 94 = .ok (.lload 4, 2) := by decide +kernel
theorem dX4_hushed_96 : decode cX4_hushed 96 = .ok (.goto 5, 3) := by decide +kernel
theorem dX4_hushed_99 : decode cX4_hushed 99 = .ok (.lload 6, 2) := by decide +kernel
theorem dX4_hushed_101 : decode cX4_hushed 101 = .ok (.lstore 10, 2) := by decide +kernel
theorem dX4_hushed_103 : decode cX4_hushed 103 = .ok (.lload 8, 2) := by decide +kernel
theorem dX4_hushed_105 : decode cX4_hushed 105 = .ok (.lconst 0, 1) := by decide +kernel
theorem dX4_hushed_106 : decode cX4_hushed 106 = .ok (.lcmp, 1) := by decide +kernel
theorem dX4_hushed_107 : decode cX4_hushed 107 = .ok (.ifCond .le 11, 3) := by decide +kernel
theorem dX4_hushed_110 : decode cX4_hushed 110 = .ok (.lload 10, 2) := by decide +kernel
theorem dX4_hushed_112 : decode cX4_hushed 112 = .ok (.lload 8, 2) := by decide +kernel
theorem dX4_hushed_114 : decode cX4_hushed 114 = .ok (.ldiv, 1) := by decide +kernel
theorem dX4_hushed_115 : decode cX4_hushed 115 = .ok (.goto 5, 3) := by decide +kernel
theorem dX4_hushed_118 : decode cX4_hushed 118 = .ok (.lload 10, 2) := by decide +kernel
theorem dX4_hushed_120 : decode cX4_hushed 120 = .ok (.lreturn, 1) := by decide +kernel
theorem dX4_drawn_0 : decode cX4_drawn 0 = .ok (.aload_n 0, 1) := by decide +kernel
theorem dX4_drawn_1 : decode cX4_drawn 1 = .ok (.getfield 25, 3) := by decide +kernel
theorem dX4_drawn_4 : decode cX4_drawn 4 = .ok (.invokevirtual 137, 3) := by decide +kernel
theorem dX4_drawn_7 : decode cX4_drawn 7 = .ok (.ifCond .ne 6, 3) := by decide +kernel
theorem dX4_drawn_10 : decode cX4_drawn 10 = .ok (.ldc 136, 2) := by decide +kernel
theorem dX4_drawn_12 : decode cX4_drawn 12 = .ok (.ireturn, 1) := by decide +kernel
theorem dX4_drawn_13 : decode cX4_drawn 13 = .ok (.iload_n 1, 1) := by decide +kernel
theorem dX4_drawn_14 : decode cX4_drawn 14 = .ok (.iconst 0, 1) := by decide +kernel
theorem dX4_drawn_15 : decode cX4_drawn 15 = .ok (.bipush 60, 2) := by decide +kernel
theorem dX4_drawn_17 : decode cX4_drawn 17 = .ok (.invokestatic 52, 3) := by decide +kernel
theorem dX4_drawn_20 : decode cX4_drawn 20 = .ok (.ifCond .eq 22, 3) := by decide +kernel
theorem dX4_drawn_23 : decode cX4_drawn 23 = .ok (.iload_n 2, 1) := by decide +kernel
theorem dX4_drawn_24 : decode cX4_drawn 24 = .ok (.iconst 1, 1) := by decide +kernel
theorem dX4_drawn_25 : decode cX4_drawn 25 = .ok (.ldc 246, 2) := by decide +kernel
theorem dX4_drawn_27 : decode cX4_drawn 27 = .ok (.invokestatic 52, 3) := by decide +kernel
theorem dX4_drawn_30 : decode cX4_drawn 30 = .ok (.ifCond .eq 12, 3) := by decide +kernel
theorem dX4_drawn_33 : decode cX4_drawn 33 = .ok (.iload_n 3, 1) := by decide +kernel
theorem dX4_drawn_34 : decode cX4_drawn 34 = .ok (.iconst 0, 1) := by decide +kernel
theorem dX4_drawn_35 : decode cX4_drawn 35 = .ok (.iconst 1, 1) := by decide +kernel
theorem dX4_drawn_36 : decode cX4_drawn 36 = .ok (.invokestatic 52, 3) := by decide +kernel
theorem dX4_drawn_39 : decode cX4_drawn 39 = .ok (.ifCond .ne 6, 3) := by decide +kernel
theorem dX4_drawn_42 : decode cX4_drawn 42 = .ok (.ldc 56, 2) := by decide +kernel
theorem dX4_drawn_44 : decode cX4_drawn 44 = .ok (.ireturn, 1) := by decide +kernel
theorem dX4_drawn_45 : decode cX4_drawn 45 = .ok (.aload_n 0, 1) := by decide +kernel
theorem dX4_drawn_46 : decode cX4_drawn 46 = .ok (.getfield 29, 3) := by decide +kernel
theorem dX4_drawn_49 : decode cX4_drawn 49 = .ok (.aload_n 0, 1) := by decide +kernel
theorem dX4_drawn_50 : decode cX4_drawn 50 = .ok (.getfield 25, 3) := by decide +kernel
theorem dX4_drawn_53 : decode cX4_drawn 53 = .ok (.invokevirtual 120, 3) := by decide +kernel
theorem dX4_drawn_56 : decode cX4_drawn 56 = .ok (.iload_n 2, 1) := by decide +kernel
theorem dX4_drawn_57 : decode cX4_drawn 57 = .ok (.i2l, 1) := by decide +kernel
theorem dX4_drawn_58 : decode cX4_drawn 58 = .ok (.lstore 4, 2) := by decide +kernel
theorem dX4_drawn_60 : decode cX4_drawn 60 = .ok (.iconst 0, 1) := by decide +kernel
theorem dX4_drawn_61 : decode cX4_drawn 61 = .ok (.istore 6, 2) := by decide +kernel
theorem dX4_drawn_63 : decode cX4_drawn 63 = .ok (.iconst 0, 1) := by decide +kernel
theorem dX4_drawn_64 : decode cX4_drawn 64 = .ok (.istore 7, 2) := by decide +kernel
theorem dX4_drawn_66 : decode cX4_drawn 66 = .ok (.iload 7, 2) := by decide +kernel
theorem dX4_drawn_68 : decode cX4_drawn 68 = .ok (.iload_n 1, 1) := by decide +kernel
theorem dX4_drawn_69 : decode cX4_drawn 69 = .ok (.if_icmp .ge 52, 3) := by decide +kernel
theorem dX4_drawn_72 : decode cX4_drawn 72 = .ok (.lload 4, 2) := by decide +kernel
theorem dX4_drawn_74 : decode cX4_drawn 74 = .ok (.ldc2_w 247, 3) := by decide +kernel
theorem dX4_drawn_77 : decode cX4_drawn 77 = .ok (.lmul, 1) := by decide +kernel
theorem dX4_drawn_78 : decode cX4_drawn 78 = .ok (.ldc2_w 249, 3) := by decide +kernel
theorem dX4_drawn_81 : decode cX4_drawn 81 = .ok (.lrem, 1) := by decide +kernel
theorem dX4_drawn_82 : decode cX4_drawn 82 = .ok (.lstore 4, 2) := by decide +kernel
theorem dX4_drawn_84 : decode cX4_drawn 84 = .ok (.aload_n 0, 1) := by decide +kernel
theorem dX4_drawn_85 : decode cX4_drawn 85 = .ok (.getfield 29, 3) := by decide +kernel
theorem dX4_drawn_88 : decode cX4_drawn 88 = .ok (.lload 4, 2) := by decide +kernel
theorem dX4_drawn_90 : decode cX4_drawn 90 = .ok (.l2i, 1) := by decide +kernel
theorem dX4_drawn_91 : decode cX4_drawn 91 = .ok (.invokevirtual 251, 3) := by decide +kernel
theorem dX4_drawn_94 : decode cX4_drawn 94 = .ok (.aload_n 0, 1) := by decide +kernel
theorem dX4_drawn_95 : decode cX4_drawn 95 = .ok (.getfield 29, 3) := by decide +kernel
theorem dX4_drawn_98 : decode cX4_drawn 98 = .ok (.invokevirtual 146, 3) := by decide +kernel
theorem dX4_drawn_101 : decode cX4_drawn 101 = .ok (.iload 6, 2) := by decide +kernel
theorem dX4_drawn_103 : decode cX4_drawn 103 = .ok (.aload_n 0, 1) := by decide +kernel
theorem dX4_drawn_104 : decode cX4_drawn 104 = .ok (.getfield 29, 3) := by decide +kernel
theorem dX4_drawn_107 : decode cX4_drawn 107 = .ok (.getfield 149, 3) := by decide +kernel
theorem dX4_drawn_110 : decode cX4_drawn 110 = .ok (.invokestatic 254, 3) := by decide +kernel
theorem dX4_drawn_113 : decode cX4_drawn 113 = .ok (.istore 6, 2) := by decide +kernel
theorem dX4_drawn_115 : decode cX4_drawn 115 = .ok (.iinc 7 1, 3) := by decide +kernel
theorem dX4_drawn_118 : decode cX4_drawn 118 = .ok (.goto (-52), 3) := by decide +kernel
theorem dX4_drawn_121 : decode cX4_drawn 121 = .ok (.iload_n 3, 1) := by decide +kernel
theorem dX4_drawn_122 : decode cX4_drawn 122 = .ok (.ifCond .ne 13, 3) := by decide +kernel
theorem dX4_drawn_125 : decode cX4_drawn 125 = .ok (.aload_n 0, 1) := by decide +kernel
theorem dX4_drawn_126 : decode cX4_drawn 126 = .ok (.getfield 29, 3) := by decide +kernel
theorem dX4_drawn_129 : decode cX4_drawn 129 = .ok (.getfield 149, 3) := by decide +kernel
theorem dX4_drawn_132 : decode cX4_drawn 132 = .ok (.goto 5, 3) := by decide +kernel
theorem dX4_drawn_135 : decode cX4_drawn 135 = .ok (.iload 6, 2) := by decide +kernel
theorem dX4_drawn_137 : decode cX4_drawn 137 = .ok (.ireturn, 1) := by decide +kernel
theorem dX4_image_0 : decode cX4_image 0 = .ok (.iload_n 1, 1) := by decide +kernel
theorem dX4_image_1 : decode cX4_image 1 = .ok (.iconst 0, 1) := by decide +kernel
theorem dX4_image_2 : decode cX4_image 2 = .ok (.iconst 1, 1) := by decide +kernel
theorem dX4_image_3 : decode cX4_image 3 = .ok (.invokestatic 52, 3) := by decide +kernel
theorem dX4_image_6 : decode cX4_image 6 = .ok (.ifCond .ne 6, 3) := by decide +kernel
theorem dX4_image_9 : decode cX4_image 9 = .ok (.ldc 56, 2) := by decide +kernel
theorem dX4_image_11 : decode cX4_image 11 = .ok (.ireturn, 1) := by decide +kernel
theorem dX4_image_12 : decode cX4_image 12 = .ok (.aload_n 0, 1) := by decide +kernel
theorem dX4_image_13 : decode cX4_image 13 = .ok (.getfield 25, 3) := by decide +kernel
theorem dX4_image_16 : decode cX4_image 16 = .ok (.invokevirtual 137, 3) := by decide +kernel
theorem dX4_image_19 : decode cX4_image 19 = .ok (.ifCond .ne 6, 3) := by decide +kernel
theorem dX4_image_22 : decode cX4_image 22 = .ok (.ldc 136, 2) := by decide +kernel
theorem dX4_image_24 : decode cX4_image 24 = .ok (.ireturn, 1) := by decide +kernel
theorem dX4_image_25 : decode cX4_image 25 = .ok (.aload_n 0, 1) := by decide +kernel
theorem dX4_image_26 : decode cX4_image 26 = .ok (.getfield 39, 3) := by decide +kernel
theorem dX4_image_29 : decode cX4_image 29 = .ok (.iload_n 1, 1) := by decide +kernel
theorem dX4_image_30 : decode cX4_image 30 = .ok (.aaload, 1) := by decide +kernel
theorem dX4_image_31 : decode cX4_image 31 = .ok (.aload_n 0, 1) := by decide +kernel
theorem dX4_image_32 : decode cX4_image 32 = .ok (.getfield 25, 3) := by decide +kernel
theorem dX4_image_35 : decode cX4_image 35 = .ok (.invokevirtual 120, 3) := by decide +kernel
theorem dX4_image_38 : decode cX4_image 38 = .ok (.iconst 1, 1) := by decide +kernel
theorem dX4_image_39 : decode cX4_image 39 = .ok (.ireturn, 1) := by decide +kernel
theorem dX4_restore_0 : decode cX4_restore 0 = .ok (.iload_n 1, 1) := by decide +kernel
theorem dX4_restore_1 : decode cX4_restore 1 = .ok (.iconst 0, 1) := by decide +kernel
theorem dX4_restore_2 : decode cX4_restore 2 = .ok (.iconst 1, 1) := by decide +kernel
theorem dX4_restore_3 : decode cX4_restore 3 = .ok (.invokestatic 52, 3) := by decide +kernel
theorem dX4_restore_6 : decode cX4_restore 6 = .ok (.ifCond .ne 6, 3) := by decide +kernel
theorem dX4_restore_9 : decode cX4_restore 9 = .ok (.ldc 56, 2) := by decide +kernel
theorem dX4_restore_11 : decode cX4_restore 11 = .ok (.ireturn, 1) := by decide +kernel
theorem dX4_restore_12 : decode cX4_restore 12 = .ok (.aload_n 0, 1) := by decide +kernel
theorem dX4_restore_13 : decode cX4_restore 13 = .ok (.getfield 39, 3) := by decide +kernel
theorem dX4_restore_16 : decode cX4_restore 16 = .ok (.iload_n 1, 1) := by decide +kernel
theorem dX4_restore_17 : decode cX4_restore 17 = .ok (.aaload, 1) := by decide +kernel
theorem dX4_restore_18 : decode cX4_restore 18 = .ok (.invokevirtual 137, 3) := by decide +kernel
theorem dX4_restore_21 : decode cX4_restore 21 = .ok (.ifCond .ne 6, 3) := by decide +kernel
theorem dX4_restore_24 : decode cX4_restore 24 = .ok (.ldc 136, 2) := by decide +kernel
theorem dX4_restore_26 : decode cX4_restore 26 = .ok (.ireturn, 1) := by decide +kernel
theorem dX4_restore_27 : decode cX4_restore 27 = .ok (.aload_n 0, 1) := by decide +kernel
theorem dX4_restore_28 : decode cX4_restore 28 = .ok (.getfield 25, 3) := by decide +kernel
theorem dX4_restore_31 : decode cX4_restore 31 = .ok (.aload_n 0, 1) := by decide +kernel
theorem dX4_restore_32 : decode cX4_restore 32 = .ok (.getfield 39, 3) := by decide +kernel
theorem dX4_restore_35 : decode cX4_restore 35 = .ok (.iload_n 1, 1) := by decide +kernel
theorem dX4_restore_36 : decode cX4_restore 36 = .ok (.aaload, 1) := by decide +kernel
theorem dX4_restore_37 : decode cX4_restore 37 = .ok (.invokevirtual 120, 3) := by decide +kernel
theorem dX4_restore_40 : decode cX4_restore 40 = .ok (.aload_n 0, 1) := by decide +kernel
theorem dX4_restore_41 : decode cX4_restore 41 = .ok (.getfield 35, 3) := by decide +kernel
theorem dX4_restore_44 : decode cX4_restore 44 = .ok (.invokevirtual 124, 3) := by decide +kernel
theorem dX4_restore_47 : decode cX4_restore 47 = .ok (.iconst 1, 1) := by decide +kernel
theorem dX4_restore_48 : decode cX4_restore 48 = .ok (.ireturn, 1) := by decide +kernel
theorem dX4_kind_0 : decode cX4_kind 0 = .ok (.aload_n 0, 1) := by decide +kernel
theorem dX4_kind_1 : decode cX4_kind 1 = .ok (.iload_n 1, 1) := by decide +kernel
theorem dX4_kind_2 : decode cX4_kind 2 = .ok (.invokevirtual 152, 3) := by decide +kernel
theorem dX4_kind_5 : decode cX4_kind 5 = .ok (.ifCond .eq 15, 3) := by decide +kernel
theorem dX4_kind_8 : decode cX4_kind 8 = .ok (.aload_n 0, 1) := by decide +kernel
theorem dX4_kind_9 : decode cX4_kind 9 = .ok (.getfield 25, 3) := by decide +kernel
theorem dX4_kind_12 : decode cX4_kind 12 = .ok (.getfield 259, 3) := by decide +kernel
theorem dX4_kind_15 : decode cX4_kind 15 = .ok (.iload_n 1, 1) := by decide +kernel
theorem dX4_kind_16 : decode cX4_kind 16 = .ok (.iaload, 1) := by decide +kernel
theorem dX4_kind_17 : decode cX4_kind 17 = .ok (.goto 5, 3) := by decide +kernel
theorem dX4_kind_20 : decode cX4_kind 20 = .ok (.ldc 56, 2) := by decide +kernel
theorem dX4_kind_22 : decode cX4_kind 22 = .ok (.ireturn, 1) := by decide +kernel
theorem dX4_as_0 : decode cX4_as 0 = .ok (.aload_n 0, 1) := by decide +kernel
theorem dX4_as_1 : decode cX4_as 1 = .ok (.iload_n 1, 1) := by decide +kernel
theorem dX4_as_2 : decode cX4_as 2 = .ok (.invokevirtual 152, 3) := by decide +kernel
theorem dX4_as_5 : decode cX4_as 5 = .ok (.ifCond .eq 12, 3) := by decide +kernel
theorem dX4_as_8 : decode cX4_as 8 = .ok (.iload_n 2, 1) := by decide +kernel
theorem dX4_as_9 : decode cX4_as 9 = .ok (.iconst 0, 1) := by decide +kernel
theorem dX4_as_10 : decode cX4_as 10 = .ok (.iconst 5, 1) := by decide +kernel
theorem dX4_as_11 : decode cX4_as 11 = .ok (.invokestatic 52, 3) := by decide +kernel
theorem dX4_as_14 : decode cX4_as 14 = .ok (.ifCond .ne 6, 3) := by decide +kernel
theorem dX4_as_17 : decode cX4_as 17 = .ok (.ldc 56, 2) := by decide +kernel
theorem dX4_as_19 : decode cX4_as 19 = .ok (.ireturn, 1) := by decide +kernel
theorem dX4_as_20 : decode cX4_as 20 = .ok (.aload_n 0, 1) := by decide +kernel
theorem dX4_as_21 : decode cX4_as 21 = .ok (.getfield 25, 3) := by decide +kernel
theorem dX4_as_24 : decode cX4_as 24 = .ok (.getfield 259, 3) := by decide +kernel
theorem dX4_as_27 : decode cX4_as 27 = .ok (.iload_n 1, 1) := by decide +kernel
theorem dX4_as_28 : decode cX4_as 28 = .ok (.iaload, 1) := by decide +kernel
theorem dX4_as_29 : decode cX4_as 29 = .ok (.iload_n 2, 1) := by decide +kernel
theorem dX4_as_30 : decode cX4_as 30 = .ok (.invokestatic 262, 3) := by decide +kernel
theorem dX4_as_33 : decode cX4_as 33 = .ok (.ifCond .eq 11, 3) := by decide +kernel
theorem dX4_as_36 : decode cX4_as 36 = .ok (.aload_n 0, 1) := by decide +kernel
theorem dX4_as_37 : decode cX4_as 37 = .ok (.iload_n 1, 1) := by decide +kernel
theorem dX4_as_38 : decode cX4_as 38 = .ok (.invokevirtual 65, 3) := by decide +kernel
theorem dX4_as_41 : decode cX4_as 41 = .ok (.goto 8, 3) := by decide +kernel
theorem dX4_as_44 : decode cX4_as 44 = .ok (.aload_n 0, 1) := by decide +kernel
theorem dX4_as_45 : decode cX4_as 45 = .ok (.iconst 3, 1) := by decide +kernel
theorem dX4_as_46 : decode cX4_as 46 = .ok (.invokevirtual 57, 3) := by decide +kernel
theorem dX4_as_49 : decode cX4_as 49 = .ok (.ireturn, 1) := by decide +kernel
theorem dX4_ask_0 : decode cX4_ask 0 = .ok (.aload_n 0, 1) := by decide +kernel
theorem dX4_ask_1 : decode cX4_ask 1 = .ok (.iload_n 1, 1) := by decide +kernel
theorem dX4_ask_2 : decode cX4_ask 2 = .ok (.invokevirtual 152, 3) := by decide +kernel
theorem dX4_ask_5 : decode cX4_ask 5 = .ok (.ifCond .eq 12, 3) := by decide +kernel
theorem dX4_ask_8 : decode cX4_ask 8 = .ok (.iload_n 2, 1) := by decide +kernel
theorem dX4_ask_9 : decode cX4_ask 9 = .ok (.iconst 0, 1) := by decide +kernel
theorem dX4_ask_10 : decode cX4_ask 10 = .ok (.iconst 1, 1) := by decide +kernel
theorem dX4_ask_11 : decode cX4_ask 11 = .ok (.invokestatic 52, 3) := by decide +kernel
theorem dX4_ask_14 : decode cX4_ask 14 = .ok (.ifCond .ne 6, 3) := by decide +kernel
theorem dX4_ask_17 : decode cX4_ask 17 = .ok (.ldc 56, 2) := by decide +kernel
theorem dX4_ask_19 : decode cX4_ask 19 = .ok (.ireturn, 1) := by decide +kernel
theorem dX4_ask_20 : decode cX4_ask 20 = .ok (.aload_n 0, 1) := by decide +kernel
theorem dX4_ask_21 : decode cX4_ask 21 = .ok (.iconst 0, 1) := by decide +kernel
theorem dX4_ask_22 : decode cX4_ask 22 = .ok (.putfield 265, 3) := by decide +kernel
theorem dX4_ask_25 : decode cX4_ask 25 = .ok (.aload_n 0, 1) := by decide +kernel
theorem dX4_ask_26 : decode cX4_ask 26 = .ok (.iload_n 1, 1) := by decide +kernel
theorem dX4_ask_27 : decode cX4_ask 27 = .ok (.iload_n 2, 1) := by decide +kernel
theorem dX4_ask_28 : decode cX4_ask 28 = .ok (.iconst 0, 1) := by decide +kernel
theorem dX4_ask_29 : decode cX4_ask 29 = .ok (.invokevirtual 268, 3) := by decide +kernel
theorem dX4_ask_32 : decode cX4_ask 32 = .ok (.ireturn, 1) := by decide +kernel
theorem dX4_trace_0 : decode cX4_trace 0 = .ok (.iload_n 1, 1) := by decide +kernel
theorem dX4_trace_1 : decode cX4_trace 1 = .ok (.iconst 0, 1) := by decide +kernel
theorem dX4_trace_2 : decode cX4_trace 2 = .ok (.aload_n 0, 1) := by decide +kernel
theorem dX4_trace_3 : decode cX4_trace 3 = .ok (.getfield 265, 3) := by decide +kernel
theorem dX4_trace_6 : decode cX4_trace 6 = .ok (.iconst 1, 1) := by decide +kernel
theorem dX4_trace_7 : decode cX4_trace 7 = .ok (.isub, 1) := by decide +kernel
theorem dX4_trace_8 : decode cX4_trace 8 = .ok (.invokestatic 52, 3) := by decide +kernel
theorem dX4_trace_11 : decode cX4_trace 11 = .ok (.ifCond .eq 12, 3) := by decide +kernel
theorem dX4_trace_14 : decode cX4_trace 14 = .ok (.aload_n 0, 1) := by decide +kernel
theorem dX4_trace_15 : decode cX4_trace 15 = .ok (.getfield 43, 3) := by decide +kernel
theorem dX4_trace_18 : decode cX4_trace 18 = .ok (.iload_n 1, 1) := by decide +kernel
theorem dX4_trace_19 : decode cX4_trace 19 = .ok (.iaload, 1) := by decide +kernel
theorem dX4_trace_20 : decode cX4_trace 20 = .ok (.goto 5, 3) := by decide +kernel
theorem dX4_trace_23 : decode cX4_trace 23 = .ok (.ldc 199, 2) := by decide +kernel
theorem dX4_trace_25 : decode cX4_trace 25 = .ok (.ireturn, 1) := by decide +kernel
theorem dX4_count_0 : decode cX4_count 0 = .ok (.iload_n 1, 1) := by decide +kernel
theorem dX4_count_1 : decode cX4_count 1 = .ok (.tableswitch 108 0 7 #[47, 52, 60, 68, 76, 84, 92, 100], 47) := by decide +kernel
theorem dX4_count_48 : decode cX4_count 48 = .ok (.aload_n 0, 1) := by decide +kernel
theorem dX4_count_49 : decode cX4_count 49 = .ok (.invokevirtual 272, 3) := by decide +kernel
theorem dX4_count_52 : decode cX4_count 52 = .ok (.ireturn, 1) := by decide +kernel
theorem dX4_count_53 : decode cX4_count 53 = .ok (.aload_n 0, 1) := by decide +kernel
theorem dX4_count_54 : decode cX4_count 54 = .ok (.getfield 25, 3) := by decide +kernel
theorem dX4_count_57 : decode cX4_count 57 = .ok (.getfield 127, 3) := by decide +kernel
theorem dX4_count_60 : decode cX4_count 60 = .ok (.ireturn, 1) := by decide +kernel
theorem dX4_count_61 : decode cX4_count 61 = .ok (.aload_n 0, 1) := by decide +kernel
theorem dX4_count_62 : decode cX4_count 62 = .ok (.getfield 25, 3) := by decide +kernel
theorem dX4_count_65 : decode cX4_count 65 = .ok (.getfield 140, 3) := by decide +kernel
theorem dX4_count_68 : decode cX4_count 68 = .ok (.ireturn, 1) := by decide +kernel
theorem dX4_count_69 : decode cX4_count 69 = .ok (.aload_n 0, 1) := by decide +kernel
theorem dX4_count_70 : decode cX4_count 70 = .ok (.getfield 25, 3) := by decide +kernel
theorem dX4_count_73 : decode cX4_count 73 = .ok (.getfield 149, 3) := by decide +kernel
theorem dX4_count_76 : decode cX4_count 76 = .ok (.ireturn, 1) := by decide +kernel
theorem dX4_count_77 : decode cX4_count 77 = .ok (.aload_n 0, 1) := by decide +kernel
theorem dX4_count_78 : decode cX4_count 78 = .ok (.getfield 25, 3) := by decide +kernel
theorem dX4_count_81 : decode cX4_count 81 = .ok (.invokevirtual 189, 3) := by decide +kernel
theorem dX4_count_84 : decode cX4_count 84 = .ok (.ireturn, 1) := by decide +kernel
theorem dX4_count_85 : decode cX4_count 85 = .ok (.aload_n 0, 1) := by decide +kernel
theorem dX4_count_86 : decode cX4_count 86 = .ok (.getfield 25, 3) := by decide +kernel
theorem dX4_count_89 : decode cX4_count 89 = .ok (.getfield 161, 3) := by decide +kernel
theorem dX4_count_92 : decode cX4_count 92 = .ok (.ireturn, 1) := by decide +kernel
theorem dX4_count_93 : decode cX4_count 93 = .ok (.aload_n 0, 1) := by decide +kernel
theorem dX4_count_94 : decode cX4_count 94 = .ok (.getfield 35, 3) := by decide +kernel
theorem dX4_count_97 : decode cX4_count 97 = .ok (.getfield 133, 3) := by decide +kernel
theorem dX4_count_100 : decode cX4_count 100 = .ok (.ireturn, 1) := by decide +kernel
theorem dX4_count_101 : decode cX4_count 101 = .ok (.aload_n 0, 1) := by decide +kernel
theorem dX4_count_102 : decode cX4_count 102 = .ok (.getfield 18, 3) := by decide +kernel
theorem dX4_count_105 : decode cX4_count 105 = .ok (.getfield 102, 3) := by decide +kernel
theorem dX4_count_108 : decode cX4_count 108 = .ok (.ireturn, 1) := by decide +kernel
theorem dX4_count_109 : decode cX4_count 109 = .ok (.ldc 56, 2) := by decide +kernel
theorem dX4_count_111 : decode cX4_count 111 = .ok (.ireturn, 1) := by decide +kernel
theorem dX4_status_0 : decode cX4_status 0 = .ok (.aload_n 0, 1) := by decide +kernel
theorem dX4_status_1 : decode cX4_status 1 = .ok (.getfield 275, 3) := by decide +kernel
theorem dX4_status_4 : decode cX4_status 4 = .ok (.ireturn, 1) := by decide +kernel
theorem dX4_isWithin_0 : decode cX4_isWithin 0 = .ok (.iload_n 0, 1) := by decide +kernel
theorem dX4_isWithin_1 : decode cX4_isWithin 1 = .ok (.iload_n 1, 1) := by decide +kernel
theorem dX4_isWithin_2 : decode cX4_isWithin 2 = .ok (.if_icmp .lt 12, 3) := by decide +kernel
theorem dX4_isWithin_5 : decode cX4_isWithin 5 = .ok (.iload_n 0, 1) := by decide +kernel
theorem dX4_isWithin_6 : decode cX4_isWithin 6 = .ok (.iload_n 2, 1) := by decide +kernel
theorem dX4_isWithin_7 : decode cX4_isWithin 7 = .ok (.if_icmp .gt 7, 3) := by decide +kernel
theorem dX4_isWithin_10 : decode cX4_isWithin 10 = .ok (.iconst 1, 1) := by decide +kernel
theorem dX4_isWithin_11 : decode cX4_isWithin 11 = .ok (.goto 4, 3) := by decide +kernel
theorem dX4_isWithin_14 : decode cX4_isWithin 14 = .ok (.iconst 0, 1) := by decide +kernel
theorem dX4_isWithin_15 : decode cX4_isWithin 15 = .ok (.ireturn, 1) := by decide +kernel
theorem dX4_isRow_0 : decode cX4_isRow 0 = .ok (.iload_n 0, 1) := by decide +kernel
theorem dX4_isRow_1 : decode cX4_isRow 1 = .ok (.iconst 0, 1) := by decide +kernel
theorem dX4_isRow_2 : decode cX4_isRow 2 = .ok (.bipush 7, 2) := by decide +kernel
theorem dX4_isRow_4 : decode cX4_isRow 4 = .ok (.invokestatic 52, 3) := by decide +kernel
theorem dX4_isRow_7 : decode cX4_isRow 7 = .ok (.ireturn, 1) := by decide +kernel
theorem dX4_isHouse_0 : decode cX4_isHouse 0 = .ok (.iload_n 1, 1) := by decide +kernel
theorem dX4_isHouse_1 : decode cX4_isHouse 1 = .ok (.iconst 0, 1) := by decide +kernel
theorem dX4_isHouse_2 : decode cX4_isHouse 2 = .ok (.aload_n 0, 1) := by decide +kernel
theorem dX4_isHouse_3 : decode cX4_isHouse 3 = .ok (.getfield 25, 3) := by decide +kernel
theorem dX4_isHouse_6 : decode cX4_isHouse 6 = .ok (.getfield 127, 3) := by decide +kernel
theorem dX4_isHouse_9 : decode cX4_isHouse 9 = .ok (.iconst 1, 1) := by decide +kernel
theorem dX4_isHouse_10 : decode cX4_isHouse 10 = .ok (.isub, 1) := by decide +kernel
theorem dX4_isHouse_11 : decode cX4_isHouse 11 = .ok (.invokestatic 52, 3) := by decide +kernel
theorem dX4_isHouse_14 : decode cX4_isHouse 14 = .ok (.ireturn, 1) := by decide +kernel
theorem dX4_found_0 : decode cX4_found 0 = .ok (.aload_n 0, 1) := by decide +kernel
theorem dX4_found_1 : decode cX4_found 1 = .ok (.iload_n 1, 1) := by decide +kernel
theorem dX4_found_2 : decode cX4_found 2 = .ok (.putfield 275, 3) := by decide +kernel
theorem dX4_found_5 : decode cX4_found 5 = .ok (.ldc_w 278, 3) := by decide +kernel
theorem dX4_found_8 : decode cX4_found 8 = .ok (.iload_n 1, 1) := by decide +kernel
theorem dX4_found_9 : decode cX4_found 9 = .ok (.isub, 1) := by decide +kernel
theorem dX4_found_10 : decode cX4_found 10 = .ok (.ireturn, 1) := by decide +kernel
theorem dX4_unfound_0 : decode cX4_unfound 0 = .ok (.aload_n 0, 1) := by decide +kernel
theorem dX4_unfound_1 : decode cX4_unfound 1 = .ok (.iconst 0, 1) := by decide +kernel
theorem dX4_unfound_2 : decode cX4_unfound 2 = .ok (.putfield 275, 3) := by decide +kernel
theorem dX4_unfound_5 : decode cX4_unfound 5 = .ok (.iload_n 1, 1) := by decide +kernel
theorem dX4_unfound_6 : decode cX4_unfound 6 = .ok (.ireturn, 1) := by decide +kernel
theorem dX4_rowsThere_0 : decode cX4_rowsThere 0 = .ok (.iconst 0, 1) := by decide +kernel
theorem dX4_rowsThere_1 : decode cX4_rowsThere 1 = .ok (.istore_n 1, 1) := by decide +kernel
theorem dX4_rowsThere_2 : decode cX4_rowsThere 2 = .ok (.iconst 0, 1) := by decide +kernel
theorem dX4_rowsThere_3 : decode cX4_rowsThere 3 = .ok (.istore_n 2, 1) := by decide +kernel
theorem dX4_rowsThere_4 : decode cX4_rowsThere 4 = .ok (.iload_n 2, 1) := by decide +kernel
theorem dX4_rowsThere_5 : decode cX4_rowsThere 5 = .ok (.bipush 8, 2) := by decide +kernel
theorem dX4_rowsThere_7 : decode cX4_rowsThere 7 = .ok (.if_icmp .ge 24, 3) := by decide +kernel
theorem dX4_rowsThere_10 : decode cX4_rowsThere 10 = .ok (.aload_n 0, 1) := by decide +kernel
theorem dX4_rowsThere_11 : decode cX4_rowsThere 11 = .ok (.getfield 11, 3) := by decide +kernel
theorem dX4_rowsThere_14 : decode cX4_rowsThere 14 = .ok (.iload_n 2, 1) := by decide +kernel
theorem dX4_rowsThere_15 : decode cX4_rowsThere 15 = .ok (.aaload, 1) := by decide +kernel
theorem dX4_rowsThere_16 : decode cX4_rowsThere 16 = .ok (.invokevirtual 75, 3) := by decide +kernel
theorem dX4_rowsThere_19 : decode cX4_rowsThere 19 = .ok (.ifCond .ne 6, 3) := by decide +kernel
theorem dX4_rowsThere_22 : decode cX4_rowsThere 22 = .ok (.iinc 1 1, 3) := by decide +kernel
theorem dX4_rowsThere_25 : decode cX4_rowsThere 25 = .ok (.iinc 2 1, 3) := by decide +kernel
theorem dX4_rowsThere_28 : decode cX4_rowsThere 28 = .ok (.goto (-24), 3) := by decide +kernel
theorem dX4_rowsThere_31 : decode cX4_rowsThere 31 = .ok (.iload_n 1, 1) := by decide +kernel
theorem dX4_rowsThere_32 : decode cX4_rowsThere 32 = .ok (.ireturn, 1) := by decide +kernel
theorem dX4_foreseeHushed_0 : decode cX4_foreseeHushed 0 = .ok (.aload_n 0, 1) := by decide +kernel
theorem dX4_foreseeHushed_1 : decode cX4_foreseeHushed 1 = .ok (.getfield 29, 3) := by decide +kernel
theorem dX4_foreseeHushed_4 : decode cX4_foreseeHushed 4 = .ok (.aload_n 0, 1) := by decide +kernel
theorem dX4_foreseeHushed_5 : decode cX4_foreseeHushed 5 = .ok (.getfield 25, 3) := by decide +kernel
theorem dX4_foreseeHushed_8 : decode cX4_foreseeHushed 8 = .ok (.invokevirtual 120, 3) := by decide +kernel
theorem dX4_foreseeHushed_11 : decode cX4_foreseeHushed 11 = .ok (.aload_n 0, 1) := by decide +kernel
theorem dX4_foreseeHushed_12 : decode cX4_foreseeHushed 12 = .ok (.getfield 29, 3) := by decide +kernel
theorem dX4_foreseeHushed_15 : decode cX4_foreseeHushed 15 = .ok (.dup, 1) := by decide +kernel
theorem dX4_foreseeHushed_16 : decode cX4_foreseeHushed 16 = .ok (.getfield 161, 3) := by decide +kernel
theorem dX4_foreseeHushed_19 : decode cX4_foreseeHushed 19 = .ok (.iload_n 1, 1) := by decide +kernel
theorem dX4_foreseeHushed_20 : decode cX4_foreseeHushed 20 = .ok (.ior, 1) := by decide +kernel
theorem dX4_foreseeHushed_21 : decode cX4_foreseeHushed 21 = .ok (.putfield 161, 3) := by decide +kernel
theorem dX4_foreseeHushed_24 : decode cX4_foreseeHushed 24 = .ok (.aload_n 0, 1) := by decide +kernel
theorem dX4_foreseeHushed_25 : decode cX4_foreseeHushed 25 = .ok (.getfield 29, 3) := by decide +kernel
theorem dX4_foreseeHushed_28 : decode cX4_foreseeHushed 28 = .ok (.iload_n 2, 1) := by decide +kernel
theorem dX4_foreseeHushed_29 : decode cX4_foreseeHushed 29 = .ok (.invokevirtual 196, 3) := by decide +kernel
theorem dX4_foreseeHushed_32 : decode cX4_foreseeHushed 32 = .ok (.return_, 1) := by decide +kernel
theorem dX4_fewestToHush_0 : decode cX4_fewestToHush 0 = .ok (.ldc 199, 2) := by decide +kernel
theorem dX4_fewestToHush_2 : decode cX4_fewestToHush 2 = .ok (.istore_n 3, 1) := by decide +kernel
theorem dX4_fewestToHush_3 : decode cX4_fewestToHush 3 = .ok (.bipush 8, 2) := by decide +kernel
theorem dX4_fewestToHush_5 : decode cX4_fewestToHush 5 = .ok (.istore 4, 2) := by decide +kernel
theorem dX4_fewestToHush_7 : decode cX4_fewestToHush 7 = .ok (.iconst 0, 1) := by decide +kernel
theorem dX4_fewestToHush_8 : decode cX4_fewestToHush 8 = .ok (.istore 5, 2) := by decide +kernel
theorem dX4_fewestToHush_10 : decode cX4_fewestToHush 10 = .ok (.iload 5, 2) := by decide +kernel
theorem dX4_fewestToHush_12 : decode cX4_fewestToHush 12 = .ok (.iconst 1, 1) := by decide +kernel
theorem dX4_fewestToHush_13 : decode cX4_fewestToHush 13 = .ok (.aload_n 0, 1) := by decide +kernel
theorem dX4_fewestToHush_14 : decode cX4_fewestToHush 14 = .ok (.getfield 25, 3) := by decide +kernel
theorem dX4_fewestToHush_17 : decode cX4_fewestToHush 17 = .ok (.getfield 127, 3) := by decide +kernel
theorem dX4_fewestToHush_20 : decode cX4_fewestToHush 20 = .ok (.ishl, 1) := by decide +kernel
theorem dX4_fewestToHush_21 : decode cX4_fewestToHush 21 = .ok (.if_icmp .ge 61, 3) := by decide +kernel
theorem dX4_fewestToHush_24 : decode cX4_fewestToHush 24 = .ok (.iload 5, 2) := by decide +kernel
theorem dX4_fewestToHush_26 : decode cX4_fewestToHush 26 = .ok (.invokestatic 233, 3) := by decide +kernel
theorem dX4_fewestToHush_29 : decode cX4_fewestToHush 29 = .ok (.istore 6, 2) := by decide +kernel
theorem dX4_fewestToHush_31 : decode cX4_fewestToHush 31 = .ok (.iload 5, 2) := by decide +kernel
theorem dX4_fewestToHush_33 : decode cX4_fewestToHush 33 = .ok (.aload_n 0, 1) := by decide +kernel
theorem dX4_fewestToHush_34 : decode cX4_fewestToHush 34 = .ok (.getfield 25, 3) := by decide +kernel
theorem dX4_fewestToHush_37 : decode cX4_fewestToHush 37 = .ok (.getfield 161, 3) := by decide +kernel
theorem dX4_fewestToHush_40 : decode cX4_fewestToHush 40 = .ok (.iand, 1) := by decide +kernel
theorem dX4_fewestToHush_41 : decode cX4_fewestToHush 41 = .ok (.ifCond .ne 35, 3) := by decide +kernel
theorem dX4_fewestToHush_44 : decode cX4_fewestToHush 44 = .ok (.iload 6, 2) := by decide +kernel
theorem dX4_fewestToHush_46 : decode cX4_fewestToHush 46 = .ok (.iload 4, 2) := by decide +kernel
theorem dX4_fewestToHush_48 : decode cX4_fewestToHush 48 = .ok (.if_icmp .ge 28, 3) := by decide +kernel
theorem dX4_fewestToHush_51 : decode cX4_fewestToHush 51 = .ok (.aload_n 0, 1) := by decide +kernel
theorem dX4_fewestToHush_52 : decode cX4_fewestToHush 52 = .ok (.iload 5, 2) := by decide +kernel
theorem dX4_fewestToHush_54 : decode cX4_fewestToHush 54 = .ok (.iload_n 2, 1) := by decide +kernel
theorem dX4_fewestToHush_55 : decode cX4_fewestToHush 55 = .ok (.invokevirtual 209, 3) := by decide +kernel
theorem dX4_fewestToHush_58 : decode cX4_fewestToHush 58 = .ok (.aload_n 0, 1) := by decide +kernel
theorem dX4_fewestToHush_59 : decode cX4_fewestToHush 59 = .ok (.getfield 29, 3) := by decide +kernel
theorem dX4_fewestToHush_62 : decode cX4_fewestToHush 62 = .ok (.iload_n 1, 1) := by decide +kernel
theorem dX4_fewestToHush_63 : decode cX4_fewestToHush 63 = .ok (.invokevirtual 279, 3) := by decide +kernel
theorem dX4_fewestToHush_66 : decode cX4_fewestToHush 66 = .ok (.ifCond .eq 10, 3) := by decide +kernel
theorem dX4_fewestToHush_69 : decode cX4_fewestToHush 69 = .ok (.iload 5, 2) := by decide +kernel
theorem dX4_fewestToHush_71 : decode cX4_fewestToHush 71 = .ok (.istore_n 3, 1) := by decide +kernel
theorem dX4_fewestToHush_72 : decode cX4_fewestToHush 72 = .ok (.iload 6, 2) := by decide +kernel
theorem dX4_fewestToHush_74 : decode cX4_fewestToHush 74 = .ok (.istore 4, 2) := by decide +kernel
theorem dX4_fewestToHush_76 : decode cX4_fewestToHush 76 = .ok (.iinc 5 1, 3) := by decide +kernel
theorem dX4_fewestToHush_79 : decode cX4_fewestToHush 79 = .ok (.goto (-69), 3) := by decide +kernel
theorem dX4_fewestToHush_82 : decode cX4_fewestToHush 82 = .ok (.iload_n 3, 1) := by decide +kernel
theorem dX4_fewestToHush_83 : decode cX4_fewestToHush 83 = .ok (.ireturn, 1) := by decide +kernel
theorem dX4_howManyOrWhich_0 : decode cX4_howManyOrWhich 0 = .ok (.iload_n 0, 1) := by decide +kernel
theorem dX4_howManyOrWhich_1 : decode cX4_howManyOrWhich 1 = .ok (.ldc 199, 2) := by decide +kernel
theorem dX4_howManyOrWhich_3 : decode cX4_howManyOrWhich 3 = .ok (.if_icmp .eq 8, 3) := by decide +kernel
theorem dX4_howManyOrWhich_6 : decode cX4_howManyOrWhich 6 = .ok (.iload_n 1, 1) := by decide +kernel
theorem dX4_howManyOrWhich_7 : decode cX4_howManyOrWhich 7 = .ok (.iconst 1, 1) := by decide +kernel
theorem dX4_howManyOrWhich_8 : decode cX4_howManyOrWhich 8 = .ok (.if_icmp .ne 7, 3) := by decide +kernel
theorem dX4_howManyOrWhich_11 : decode cX4_howManyOrWhich 11 = .ok (.iload_n 0, 1) := by decide +kernel
theorem dX4_howManyOrWhich_12 : decode cX4_howManyOrWhich 12 = .ok (.goto 7, 3) := by decide +kernel
theorem dX4_howManyOrWhich_15 : decode cX4_howManyOrWhich 15 = .ok (.iload_n 0, 1) := by decide +kernel
theorem dX4_howManyOrWhich_16 : decode cX4_howManyOrWhich 16 = .ok (.invokestatic 233, 3) := by decide +kernel
theorem dX4_howManyOrWhich_19 : decode cX4_howManyOrWhich 19 = .ok (.ireturn, 1) := by decide +kernel
theorem dX4_isAsTold_0 : decode cX4_isAsTold 0 = .ok (.iconst 0, 1) := by decide +kernel
theorem dX4_isAsTold_1 : decode cX4_isAsTold 1 = .ok (.istore 5, 2) := by decide +kernel
theorem dX4_isAsTold_3 : decode cX4_isAsTold 3 = .ok (.iload 5, 2) := by decide +kernel
theorem dX4_isAsTold_5 : decode cX4_isAsTold 5 = .ok (.iload 4, 2) := by decide +kernel
theorem dX4_isAsTold_7 : decode cX4_isAsTold 7 = .ok (.if_icmp .ge 39, 3) := by decide +kernel
theorem dX4_isAsTold_10 : decode cX4_isAsTold 10 = .ok (.aload_n 0, 1) := by decide +kernel
theorem dX4_isAsTold_11 : decode cX4_isAsTold 11 = .ok (.getfield 29, 3) := by decide +kernel
theorem dX4_isAsTold_14 : decode cX4_isAsTold 14 = .ok (.invokevirtual 146, 3) := by decide +kernel
theorem dX4_isAsTold_17 : decode cX4_isAsTold 17 = .ok (.aload_n 0, 1) := by decide +kernel
theorem dX4_isAsTold_18 : decode cX4_isAsTold 18 = .ok (.getfield 29, 3) := by decide +kernel
theorem dX4_isAsTold_21 : decode cX4_isAsTold 21 = .ok (.getfield 180, 3) := by decide +kernel
theorem dX4_isAsTold_24 : decode cX4_isAsTold 24 = .ok (.iload_n 1, 1) := by decide +kernel
theorem dX4_isAsTold_25 : decode cX4_isAsTold 25 = .ok (.iaload, 1) := by decide +kernel
theorem dX4_isAsTold_26 : decode cX4_isAsTold 26 = .ok (.aload_n 2, 1) := by decide +kernel
theorem dX4_isAsTold_27 : decode cX4_isAsTold 27 = .ok (.getfield 87, 3) := by decide +kernel
theorem dX4_isAsTold_30 : decode cX4_isAsTold 30 = .ok (.iload_n 3, 1) := by decide +kernel
theorem dX4_isAsTold_31 : decode cX4_isAsTold 31 = .ok (.iload 5, 2) := by decide +kernel
theorem dX4_isAsTold_33 : decode cX4_isAsTold 33 = .ok (.iadd, 1) := by decide +kernel
theorem dX4_isAsTold_34 : decode cX4_isAsTold 34 = .ok (.iaload, 1) := by decide +kernel
theorem dX4_isAsTold_35 : decode cX4_isAsTold 35 = .ok (.if_icmp .eq 5, 3) := by decide +kernel
theorem dX4_isAsTold_38 : decode cX4_isAsTold 38 = .ok (.iconst 0, 1) := by decide +kernel
theorem dX4_isAsTold_39 : decode cX4_isAsTold 39 = .ok (.ireturn, 1) := by decide +kernel
theorem dX4_isAsTold_40 : decode cX4_isAsTold 40 = .ok (.iinc 5 1, 3) := by decide +kernel
theorem dX4_isAsTold_43 : decode cX4_isAsTold 43 = .ok (.goto (-40), 3) := by decide +kernel
theorem dX4_isAsTold_46 : decode cX4_isAsTold 46 = .ok (.iconst 1, 1) := by decide +kernel
theorem dX4_isAsTold_47 : decode cX4_isAsTold 47 = .ok (.ireturn, 1) := by decide +kernel
theorem dX4_allThatFit_0 : decode cX4_allThatFit 0 = .ok (.iload_n 2, 1) := by decide +kernel
theorem dX4_allThatFit_1 : decode cX4_allThatFit 1 = .ok (.iconst 1, 1) := by decide +kernel
theorem dX4_allThatFit_2 : decode cX4_allThatFit 2 = .ok (.if_icmp .ne 7, 3) := by decide +kernel
theorem dX4_allThatFit_5 : decode cX4_allThatFit 5 = .ok (.iconst 0, 1) := by decide +kernel
theorem dX4_allThatFit_6 : decode cX4_allThatFit 6 = .ok (.goto 4, 3) := by decide +kernel
theorem dX4_allThatFit_9 : decode cX4_allThatFit 9 = .ok (.iconst 1, 1) := by decide +kernel
theorem dX4_allThatFit_10 : decode cX4_allThatFit 10 = .ok (.istore 7, 2) := by decide +kernel
theorem dX4_allThatFit_12 : decode cX4_allThatFit 12 = .ok (.iload_n 2, 1) := by decide +kernel
theorem dX4_allThatFit_13 : decode cX4_allThatFit 13 = .ok (.ifCond .ne 7, 3) := by decide +kernel
theorem dX4_allThatFit_16 : decode cX4_allThatFit 16 = .ok (.iconst 5, 1) := by decide +kernel
theorem dX4_allThatFit_17 : decode cX4_allThatFit 17 = .ok (.goto 15, 3) := by decide +kernel
theorem dX4_allThatFit_20 : decode cX4_allThatFit 20 = .ok (.iload_n 2, 1) := by decide +kernel
theorem dX4_allThatFit_21 : decode cX4_allThatFit 21 = .ok (.iconst 1, 1) := by decide +kernel
theorem dX4_allThatFit_22 : decode cX4_allThatFit 22 = .ok (.if_icmp .ne 8, 3) := by decide +kernel
theorem dX4_allThatFit_25 : decode cX4_allThatFit 25 = .ok (.bipush 20, 2) := by decide +kernel
theorem dX4_allThatFit_27 : decode cX4_allThatFit 27 = .ok (.goto 5, 3) := by decide +kernel
theorem dX4_allThatFit_30 : decode cX4_allThatFit 30 = .ok (.bipush 9, 2) := by decide +kernel
theorem dX4_allThatFit_32 : decode cX4_allThatFit 32 = .ok (.istore 8, 2) := by decide +kernel
theorem dX4_allThatFit_34 : decode cX4_allThatFit 34 = .ok (.iconst 0, 1) := by decide +kernel
theorem dX4_allThatFit_35 : decode cX4_allThatFit 35 = .ok (.istore 9, 2) := by decide +kernel
theorem dX4_allThatFit_37 : decode cX4_allThatFit 37 = .ok (.iload 7, 2) := by decide +kernel
theorem dX4_allThatFit_39 : decode cX4_allThatFit 39 = .ok (.istore 10, 2) := by decide +kernel
theorem dX4_allThatFit_41 : decode cX4_allThatFit 41 = .ok (.iload 10, 2) := by decide +kernel
theorem dX4_allThatFit_43 : decode cX4_allThatFit 43 = .ok (.iload 8, 2) := by decide +kernel
theorem dX4_allThatFit_45 : decode cX4_allThatFit 45 = .ok (.if_icmp .gt 111, 3) := by decide +kernel
theorem dX4_allThatFit_48 : decode cX4_allThatFit 48 = .ok (.aload_n 0, 1) := by decide +kernel
theorem dX4_allThatFit_49 : decode cX4_allThatFit 49 = .ok (.getfield 29, 3) := by decide +kernel
theorem dX4_allThatFit_52 : decode cX4_allThatFit 52 = .ok (.aload_n 0, 1) := by decide +kernel
theorem dX4_allThatFit_53 : decode cX4_allThatFit 53 = .ok (.getfield 25, 3) := by decide +kernel
theorem dX4_allThatFit_56 : decode cX4_allThatFit 56 = .ok (.invokevirtual 120, 3) := by decide +kernel
theorem dX4_allThatFit_59 : decode cX4_allThatFit 59 = .ok (.iload_n 2, 1) := by decide +kernel
theorem dX4_allThatFit_60 : decode cX4_allThatFit 60 = .ok (.lookupswitch 56 #[(0, 28), (1, 42)], 28) := by decide +kernel
theorem dX4_allThatFit_88 : decode cX4_allThatFit 88 = .ok (.aload_n 0, 1) := by decide +kernel
theorem dX4_allThatFit_89 : decode cX4_allThatFit 89 = .ok (.getfield 29, 3) := by decide +kernel
theorem dX4_allThatFit_92 : decode cX4_allThatFit 92 = .ok (.getfield 259, 3) := by decide +kernel
theorem dX4_allThatFit_95 : decode cX4_allThatFit 95 = .ok (.iload_n 1, 1) := by decide +kernel
theorem dX4_allThatFit_96 : decode cX4_allThatFit 96 = .ok (.iload 10, 2) := by decide +kernel
theorem dX4_allThatFit_98 : decode cX4_allThatFit 98 = .ok (.iastore, 1) := by decide +kernel
theorem dX4_allThatFit_99 : decode cX4_allThatFit 99 = .ok (.goto 28, 3) := by decide +kernel
theorem dX4_allThatFit_102 : decode cX4_allThatFit 102 = .ok (.aload_n 0, 1) := by decide +kernel
theorem dX4_allThatFit_103 : decode cX4_allThatFit 103 = .ok (.getfield 29, 3) := by decide +kernel
theorem dX4_allThatFit_106 : decode cX4_allThatFit 106 = .ok (.getfield 155, 3) := by decide +kernel
theorem dX4_allThatFit_109 : decode cX4_allThatFit 109 = .ok (.iload_n 1, 1) := by decide +kernel
theorem dX4_allThatFit_110 : decode cX4_allThatFit 110 = .ok (.iload 10, 2) := by decide +kernel
theorem dX4_allThatFit_112 : decode cX4_allThatFit 112 = .ok (.iastore, 1) := by decide +kernel
theorem dX4_allThatFit_113 : decode cX4_allThatFit 113 = .ok (.goto 14, 3) := by decide +kernel
theorem dX4_allThatFit_116 : decode cX4_allThatFit 116 = .ok (.aload_n 0, 1) := by decide +kernel
theorem dX4_allThatFit_117 : decode cX4_allThatFit 117 = .ok (.getfield 29, 3) := by decide +kernel
theorem dX4_allThatFit_120 : decode cX4_allThatFit 120 = .ok (.getfield 174, 3) := by decide +kernel
theorem dX4_allThatFit_123 : decode cX4_allThatFit 123 = .ok (.iload_n 1, 1) := by decide +kernel
theorem dX4_allThatFit_124 : decode cX4_allThatFit 124 = .ok (.iload 10, 2) := by decide +kernel
theorem dX4_allThatFit_126 : decode cX4_allThatFit 126 = .ok (.iastore, 1) := by decide +kernel
theorem dX4_allThatFit_127 : decode cX4_allThatFit 127 = .ok (.aload_n 0, 1) := by decide +kernel
theorem dX4_allThatFit_128 : decode cX4_allThatFit 128 = .ok (.iload_n 3, 1) := by decide +kernel
theorem dX4_allThatFit_129 : decode cX4_allThatFit 129 = .ok (.aload 4, 2) := by decide +kernel
theorem dX4_allThatFit_131 : decode cX4_allThatFit 131 = .ok (.iload 5, 2) := by decide +kernel
theorem dX4_allThatFit_133 : decode cX4_allThatFit 133 = .ok (.iload 6, 2) := by decide +kernel
theorem dX4_allThatFit_135 : decode cX4_allThatFit 135 = .ok (.invokevirtual 282, 3) := by decide +kernel
theorem dX4_allThatFit_138 : decode cX4_allThatFit 138 = .ok (.ifCond .eq 12, 3) := by decide +kernel
theorem dX4_allThatFit_141 : decode cX4_allThatFit 141 = .ok (.iload 9, 2) := by decide +kernel
theorem dX4_allThatFit_143 : decode cX4_allThatFit 143 = .ok (.iconst 1, 1) := by decide +kernel
theorem dX4_allThatFit_144 : decode cX4_allThatFit 144 = .ok (.iload 10, 2) := by decide +kernel
theorem dX4_allThatFit_146 : decode cX4_allThatFit 146 = .ok (.ishl, 1) := by decide +kernel
theorem dX4_allThatFit_147 : decode cX4_allThatFit 147 = .ok (.ior, 1) := by decide +kernel
theorem dX4_allThatFit_148 : decode cX4_allThatFit 148 = .ok (.istore 9, 2) := by decide +kernel
theorem dX4_allThatFit_150 : decode cX4_allThatFit 150 = .ok (.iinc 10 1, 3) := by decide +kernel
theorem dX4_allThatFit_153 : decode cX4_allThatFit 153 = .ok (.goto (-112), 3) := by decide +kernel
theorem dX4_allThatFit_156 : decode cX4_allThatFit 156 = .ok (.iload 9, 2) := by decide +kernel
theorem dX4_allThatFit_158 : decode cX4_allThatFit 158 = .ok (.ireturn, 1) := by decide +kernel
theorem dX4_silentOnesThatFit_0 : decode cX4_silentOnesThatFit 0 = .ok (.aload_n 0, 1) := by decide +kernel
theorem dX4_silentOnesThatFit_1 : decode cX4_silentOnesThatFit 1 = .ok (.getfield 29, 3) := by decide +kernel
theorem dX4_silentOnesThatFit_4 : decode cX4_silentOnesThatFit 4 = .ok (.aload_n 0, 1) := by decide +kernel
theorem dX4_silentOnesThatFit_5 : decode cX4_silentOnesThatFit 5 = .ok (.getfield 25, 3) := by decide +kernel
theorem dX4_silentOnesThatFit_8 : decode cX4_silentOnesThatFit 8 = .ok (.invokevirtual 120, 3) := by decide +kernel
theorem dX4_silentOnesThatFit_11 : decode cX4_silentOnesThatFit 11 = .ok (.aload_n 0, 1) := by decide +kernel
theorem dX4_silentOnesThatFit_12 : decode cX4_silentOnesThatFit 12 = .ok (.iload_n 1, 1) := by decide +kernel
theorem dX4_silentOnesThatFit_13 : decode cX4_silentOnesThatFit 13 = .ok (.aload_n 2, 1) := by decide +kernel
theorem dX4_silentOnesThatFit_14 : decode cX4_silentOnesThatFit 14 = .ok (.iload_n 3, 1) := by decide +kernel
theorem dX4_silentOnesThatFit_15 : decode cX4_silentOnesThatFit 15 = .ok (.iload 4, 2) := by decide +kernel
theorem dX4_silentOnesThatFit_17 : decode cX4_silentOnesThatFit 17 = .ok (.invokevirtual 282, 3) := by decide +kernel
theorem dX4_silentOnesThatFit_20 : decode cX4_silentOnesThatFit 20 = .ok (.ifCond .eq 9, 3) := by decide +kernel
theorem dX4_silentOnesThatFit_23 : decode cX4_silentOnesThatFit 23 = .ok (.sipush 128, 3) := by decide +kernel
theorem dX4_silentOnesThatFit_26 : decode cX4_silentOnesThatFit 26 = .ok (.goto 4, 3) := by decide +kernel
theorem dX4_silentOnesThatFit_29 : decode cX4_silentOnesThatFit 29 = .ok (.iconst 0, 1) := by decide +kernel
theorem dX4_silentOnesThatFit_30 : decode cX4_silentOnesThatFit 30 = .ok (.istore 5, 2) := by decide +kernel
theorem dX4_silentOnesThatFit_32 : decode cX4_silentOnesThatFit 32 = .ok (.iconst 0, 1) := by decide +kernel
theorem dX4_silentOnesThatFit_33 : decode cX4_silentOnesThatFit 33 = .ok (.istore 6, 2) := by decide +kernel
theorem dX4_silentOnesThatFit_35 : decode cX4_silentOnesThatFit 35 = .ok (.iload 6, 2) := by decide +kernel
theorem dX4_silentOnesThatFit_37 : decode cX4_silentOnesThatFit 37 = .ok (.aload_n 0, 1) := by decide +kernel
theorem dX4_silentOnesThatFit_38 : decode cX4_silentOnesThatFit 38 = .ok (.getfield 25, 3) := by decide +kernel
theorem dX4_silentOnesThatFit_41 : decode cX4_silentOnesThatFit 41 = .ok (.getfield 127, 3) := by decide +kernel
theorem dX4_silentOnesThatFit_44 : decode cX4_silentOnesThatFit 44 = .ok (.if_icmp .ge 73, 3) := by decide +kernel
theorem dX4_silentOnesThatFit_47 : decode cX4_silentOnesThatFit 47 = .ok (.aload_n 0, 1) := by decide +kernel
theorem dX4_silentOnesThatFit_48 : decode cX4_silentOnesThatFit 48 = .ok (.getfield 25, 3) := by decide +kernel
theorem dX4_silentOnesThatFit_51 : decode cX4_silentOnesThatFit 51 = .ok (.iload 6, 2) := by decide +kernel
theorem dX4_silentOnesThatFit_53 : decode cX4_silentOnesThatFit 53 = .ok (.invokevirtual 158, 3) := by decide +kernel
theorem dX4_silentOnesThatFit_56 : decode cX4_silentOnesThatFit 56 = .ok (.ifCond .ne 55, 3) := by decide +kernel
theorem dX4_silentOnesThatFit_59 : decode cX4_silentOnesThatFit 59 = .ok (.aload_n 0, 1) := by decide +kernel
theorem dX4_silentOnesThatFit_60 : decode cX4_silentOnesThatFit 60 = .ok (.getfield 29, 3) := by decide +kernel
theorem dX4_silentOnesThatFit_63 : decode cX4_silentOnesThatFit 63 = .ok (.aload_n 0, 1) := by decide +kernel
theorem dX4_silentOnesThatFit_64 : decode cX4_silentOnesThatFit 64 = .ok (.getfield 25, 3) := by decide +kernel
theorem dX4_silentOnesThatFit_67 : decode cX4_silentOnesThatFit 67 = .ok (.invokevirtual 120, 3) := by decide +kernel
theorem dX4_silentOnesThatFit_70 : decode cX4_silentOnesThatFit 70 = .ok (.aload_n 0, 1) := by decide +kernel
theorem dX4_silentOnesThatFit_71 : decode cX4_silentOnesThatFit 71 = .ok (.getfield 29, 3) := by decide +kernel
theorem dX4_silentOnesThatFit_74 : decode cX4_silentOnesThatFit 74 = .ok (.dup, 1) := by decide +kernel
theorem dX4_silentOnesThatFit_75 : decode cX4_silentOnesThatFit 75 = .ok (.getfield 161, 3) := by decide +kernel
theorem dX4_silentOnesThatFit_78 : decode cX4_silentOnesThatFit 78 = .ok (.iconst 1, 1) := by decide +kernel
theorem dX4_silentOnesThatFit_79 : decode cX4_silentOnesThatFit 79 = .ok (.iload 6, 2) := by decide +kernel
theorem dX4_silentOnesThatFit_81 : decode cX4_silentOnesThatFit 81 = .ok (.ishl, 1) := by decide +kernel
theorem dX4_silentOnesThatFit_82 : decode cX4_silentOnesThatFit 82 = .ok (.ior, 1) := by decide +kernel
theorem dX4_silentOnesThatFit_83 : decode cX4_silentOnesThatFit 83 = .ok (.putfield 161, 3) := by decide +kernel
theorem dX4_silentOnesThatFit_86 : decode cX4_silentOnesThatFit 86 = .ok (.iload 5, 2) := by decide +kernel
theorem dX4_silentOnesThatFit_88 : decode cX4_silentOnesThatFit 88 = .ok (.aload_n 0, 1) := by decide +kernel
theorem dX4_silentOnesThatFit_89 : decode cX4_silentOnesThatFit 89 = .ok (.iload_n 1, 1) := by decide +kernel
theorem dX4_silentOnesThatFit_90 : decode cX4_silentOnesThatFit 90 = .ok (.aload_n 2, 1) := by decide +kernel
theorem dX4_silentOnesThatFit_91 : decode cX4_silentOnesThatFit 91 = .ok (.iload_n 3, 1) := by decide +kernel
theorem dX4_silentOnesThatFit_92 : decode cX4_silentOnesThatFit 92 = .ok (.iload 4, 2) := by decide +kernel
theorem dX4_silentOnesThatFit_94 : decode cX4_silentOnesThatFit 94 = .ok (.invokevirtual 282, 3) := by decide +kernel
theorem dX4_silentOnesThatFit_97 : decode cX4_silentOnesThatFit 97 = .ok (.ifCond .eq 10, 3) := by decide +kernel
theorem dX4_silentOnesThatFit_100 : decode cX4_silentOnesThatFit 100 = .ok (.iconst 1, 1) := by decide +kernel
theorem dX4_silentOnesThatFit_101 : decode cX4_silentOnesThatFit 101 = .ok (.iload 6, 2) := by decide +kernel
theorem dX4_silentOnesThatFit_103 : decode cX4_silentOnesThatFit 103 = .ok (.ishl, 1) := by decide +kernel
theorem dX4_silentOnesThatFit_104 : decode cX4_silentOnesThatFit 104 = .ok (.goto 4, 3) := by decide +kernel
theorem dX4_silentOnesThatFit_107 : decode cX4_silentOnesThatFit 107 = .ok (.iconst 0, 1) := by decide +kernel
theorem dX4_silentOnesThatFit_108 : decode cX4_silentOnesThatFit 108 = .ok (.ior, 1) := by decide +kernel
theorem dX4_silentOnesThatFit_109 : decode cX4_silentOnesThatFit 109 = .ok (.istore 5, 2) := by decide +kernel
theorem dX4_silentOnesThatFit_111 : decode cX4_silentOnesThatFit 111 = .ok (.iinc 6 1, 3) := by decide +kernel
theorem dX4_silentOnesThatFit_114 : decode cX4_silentOnesThatFit 114 = .ok (.goto (-79), 3) := by decide +kernel
theorem dX4_silentOnesThatFit_117 : decode cX4_silentOnesThatFit 117 = .ok (.iload 5, 2) := by decide +kernel
theorem dX4_silentOnesThatFit_119 : decode cX4_silentOnesThatFit 119 = .ok (.ireturn, 1) := by decide +kernel
theorem dX4_casesOverPlank_0 : decode cX4_casesOverPlank 0 = .ok (.aload_n 0, 1) := by decide +kernel
theorem dX4_casesOverPlank_1 : decode cX4_casesOverPlank 1 = .ok (.getfield 25, 3) := by decide +kernel
theorem dX4_casesOverPlank_4 : decode cX4_casesOverPlank 4 = .ok (.getfield 127, 3) := by decide +kernel
theorem dX4_casesOverPlank_7 : decode cX4_casesOverPlank 7 = .ok (.aload_n 0, 1) := by decide +kernel
theorem dX4_casesOverPlank_8 : decode cX4_casesOverPlank 8 = .ok (.getfield 25, 3) := by decide +kernel
theorem dX4_casesOverPlank_11 : decode cX4_casesOverPlank 11 = .ok (.getfield 161, 3) := by decide +kernel
theorem dX4_casesOverPlank_14 : decode cX4_casesOverPlank 14 = .ok (.invokestatic 233, 3) := by decide +kernel
theorem dX4_casesOverPlank_17 : decode cX4_casesOverPlank 17 = .ok (.isub, 1) := by decide +kernel
theorem dX4_casesOverPlank_18 : decode cX4_casesOverPlank 18 = .ok (.istore_n 3, 1) := by decide +kernel
theorem dX4_casesOverPlank_19 : decode cX4_casesOverPlank 19 = .ok (.lconst 0, 1) := by decide +kernel
theorem dX4_casesOverPlank_20 : decode cX4_casesOverPlank 20 = .ok (.lstore 4, 2) := by decide +kernel
theorem dX4_casesOverPlank_22 : decode cX4_casesOverPlank 22 = .ok (.iconst 0, 1) := by decide +kernel
theorem dX4_casesOverPlank_23 : decode cX4_casesOverPlank 23 = .ok (.istore 6, 2) := by decide +kernel
theorem dX4_casesOverPlank_25 : decode cX4_casesOverPlank 25 = .ok (.iload 6, 2) := by decide +kernel
theorem dX4_casesOverPlank_27 : decode cX4_casesOverPlank 27 = .ok (.iconst 1, 1) := by decide +kernel
theorem dX4_casesOverPlank_28 : decode cX4_casesOverPlank 28 = .ok (.aload_n 0, 1) := by decide +kernel
theorem dX4_casesOverPlank_29 : decode cX4_casesOverPlank 29 = .ok (.getfield 25, 3) := by decide +kernel
theorem dX4_casesOverPlank_32 : decode cX4_casesOverPlank 32 = .ok (.getfield 127, 3) := by decide +kernel
theorem dX4_casesOverPlank_35 : decode cX4_casesOverPlank 35 = .ok (.ishl, 1) := by decide +kernel
theorem dX4_casesOverPlank_36 : decode cX4_casesOverPlank 36 = .ok (.if_icmp .ge 71, 3) := by decide +kernel
theorem dX4_casesOverPlank_39 : decode cX4_casesOverPlank 39 = .ok (.iload 6, 2) := by decide +kernel
theorem dX4_casesOverPlank_41 : decode cX4_casesOverPlank 41 = .ok (.aload_n 0, 1) := by decide +kernel
theorem dX4_casesOverPlank_42 : decode cX4_casesOverPlank 42 = .ok (.getfield 25, 3) := by decide +kernel
theorem dX4_casesOverPlank_45 : decode cX4_casesOverPlank 45 = .ok (.getfield 161, 3) := by decide +kernel
theorem dX4_casesOverPlank_48 : decode cX4_casesOverPlank 48 = .ok (.iand, 1) := by decide +kernel
theorem dX4_casesOverPlank_49 : decode cX4_casesOverPlank 49 = .ok (.ifCond .ne 52, 3) := by decide +kernel
theorem dX4_casesOverPlank_52 : decode cX4_casesOverPlank 52 = .ok (.aload_n 0, 1) := by decide +kernel
theorem dX4_casesOverPlank_53 : decode cX4_casesOverPlank 53 = .ok (.iload 6, 2) := by decide +kernel
theorem dX4_casesOverPlank_55 : decode cX4_casesOverPlank 55 = .ok (.iload_n 1, 1) := by decide +kernel
theorem dX4_casesOverPlank_56 : decode cX4_casesOverPlank 56 = .ok (.invokevirtual 209, 3) := by decide +kernel
theorem dX4_casesOverPlank_59 : decode cX4_casesOverPlank 59 = .ok (.aload_n 0, 1) := by decide +kernel
theorem dX4_casesOverPlank_60 : decode cX4_casesOverPlank 60 = .ok (.getfield 29, 3) := by decide +kernel
theorem dX4_casesOverPlank_63 : decode cX4_casesOverPlank 63 = .ok (.invokevirtual 186, 3) := by decide +kernel
theorem dX4_casesOverPlank_66 : decode cX4_casesOverPlank 66 = .ok (.ifCond .eq 35, 3) := by decide +kernel
theorem dX4_casesOverPlank_69 : decode cX4_casesOverPlank 69 = .ok (.iload 6, 2) := by decide +kernel
theorem dX4_casesOverPlank_71 : decode cX4_casesOverPlank 71 = .ok (.invokestatic 233, 3) := by decide +kernel
theorem dX4_casesOverPlank_74 : decode cX4_casesOverPlank 74 = .ok (.istore 7, 2) := by decide +kernel
theorem dX4_casesOverPlank_76 : decode cX4_casesOverPlank 76 = .ok (.lload 4, 2) := by decide +kernel
theorem dX4_casesOverPlank_78 : decode cX4_casesOverPlank 78 = .ok (.iload_n 2, 1) := by decide +kernel
theorem dX4_casesOverPlank_79 : decode cX4_casesOverPlank 79 = .ok (.i2l, 1) := by decide +kernel
theorem dX4_casesOverPlank_80 : decode cX4_casesOverPlank 80 = .ok (.iload 7, 2) := by decide +kernel
theorem dX4_casesOverPlank_82 : decode cX4_casesOverPlank 82 = .ok (.invokestatic 238, 3) := by decide +kernel
theorem dX4_casesOverPlank_85 : decode cX4_casesOverPlank 85 = .ok (.bipush 10, 2) := by decide +kernel
theorem dX4_casesOverPlank_87 : decode cX4_casesOverPlank 87 = .ok (.iload_n 2, 1) := by decide +kernel
theorem dX4_casesOverPlank_88 : decode cX4_casesOverPlank 88 = .ok (.isub, 1) := by decide +kernel
theorem dX4_casesOverPlank_89 : decode cX4_casesOverPlank 89 = .ok (.i2l, 1) := by decide +kernel
theorem dX4_casesOverPlank_90 : decode cX4_casesOverPlank 90 = .ok (.iload_n 3, 1) := by decide +kernel
theorem dX4_casesOverPlank_91 : decode cX4_casesOverPlank 91 = .ok (.iload 7, 2) := by decide +kernel
theorem dX4_casesOverPlank_93 : decode cX4_casesOverPlank 93 = .ok (.isub, 1) := by decide +kernel
theorem dX4_casesOverPlank_94 : decode cX4_casesOverPlank 94 = .ok (.invokestatic 238, 3) := by decide +kernel
theorem dX4_casesOverPlank_97 : decode cX4_casesOverPlank 97 = .ok (.lmul, 1) := by decide +kernel
theorem dX4_casesOverPlank_98 : decode cX4_casesOverPlank 98 = .ok (.ladd, 1) := by decide +kernel
theorem dX4_casesOverPlank_99 : decode cX4_casesOverPlank 99 = .ok (.lstore 4, 2) := by decide +kernel
theorem dX4_casesOverPlank_101 : decode cX4_casesOverPlank 101 = .ok (.iinc 6 1, 3) := by decide +kernel
theorem dX4_casesOverPlank_104 : decode cX4_casesOverPlank 104 = .ok (.goto (-79), 3) := by decide +kernel
theorem dX4_casesOverPlank_107 : decode cX4_casesOverPlank 107 = .ok (.lload 4, 2) := by decide +kernel
theorem dX4_casesOverPlank_109 : decode cX4_casesOverPlank 109 = .ok (.lreturn, 1) := by decide +kernel
theorem dX4_power_0 : decode cX4_power 0 = .ok (.lconst 1, 1) := by decide +kernel
theorem dX4_power_1 : decode cX4_power 1 = .ok (.lstore_n 3, 1) := by decide +kernel
theorem dX4_power_2 : decode cX4_power 2 = .ok (.iconst 0, 1) := by decide +kernel
theorem dX4_power_3 : decode cX4_power 3 = .ok (.istore 5, 2) := by decide +kernel
theorem dX4_power_5 : decode cX4_power 5 = .ok (.iload 5, 2) := by decide +kernel
theorem dX4_power_7 : decode cX4_power 7 = .ok (.iload_n 2, 1) := by decide +kernel
theorem dX4_power_8 : decode cX4_power 8 = .ok (.if_icmp .ge 13, 3) := by decide +kernel
theorem dX4_power_11 : decode cX4_power 11 = .ok (.lload_n 3, 1) := by decide +kernel
theorem dX4_power_12 : decode cX4_power 12 = .ok (.lload_n 0, 1) := by decide +kernel
theorem dX4_power_13 : decode cX4_power 13 = .ok (.lmul, 1) := by decide +kernel
theorem dX4_power_14 : decode cX4_power 14 = .ok (.lstore_n 3, 1) := by decide +kernel
theorem dX4_power_15 : decode cX4_power 15 = .ok (.iinc 5 1, 3) := by decide +kernel
theorem dX4_power_18 : decode cX4_power 18 = .ok (.goto (-13), 3) := by decide +kernel
theorem dX4_power_21 : decode cX4_power 21 = .ok (.lload_n 3, 1) := by decide +kernel
theorem dX4_power_22 : decode cX4_power 22 = .ok (.lreturn, 1) := by decide +kernel
theorem dX4_commonDivisor_0 : decode cX4_commonDivisor 0 = .ok (.lload_n 0, 1) := by decide +kernel
theorem dX4_commonDivisor_1 : decode cX4_commonDivisor 1 = .ok (.lstore 4, 2) := by decide +kernel
theorem dX4_commonDivisor_3 : decode cX4_commonDivisor 3 = .ok (.lload_n 2, 1) := by decide +kernel
theorem dX4_commonDivisor_4 : decode cX4_commonDivisor 4 = .ok (.lstore 6, 2) := by decide +kernel
theorem dX4_commonDivisor_6 : decode cX4_commonDivisor 6 = .ok (.iconst 0, 1) := by decide +kernel
theorem dX4_commonDivisor_7 : decode cX4_commonDivisor 7 = .ok (.istore 8, 2) := by decide +kernel
theorem dX4_commonDivisor_9 : decode cX4_commonDivisor 9 = .ok (.iload 8, 2) := by decide +kernel
theorem dX4_commonDivisor_11 : decode cX4_commonDivisor 11 = .ok (.sipush 200, 3) := by decide +kernel
theorem dX4_commonDivisor_14 : decode cX4_commonDivisor 14 = .ok (.if_icmp .ge 31, 3) := by decide +kernel
theorem dX4_commonDivisor_17 : decode cX4_commonDivisor 17 = .ok (.lload 6, 2) := by decide +kernel
theorem dX4_commonDivisor_19 : decode cX4_commonDivisor 19 = .ok (.lconst 0, 1) := by decide +kernel
theorem dX4_commonDivisor_20 : decode cX4_commonDivisor 20 = .ok (.lcmp, 1) := by decide +kernel
theorem dX4_commonDivisor_21 : decode cX4_commonDivisor 21 = .ok (.ifCond .eq 24, 3) := by decide +kernel
theorem dX4_commonDivisor_24 : decode cX4_commonDivisor 24 = .ok (.lload 4, 2) := by decide +kernel
theorem dX4_commonDivisor_26 : decode cX4_commonDivisor 26 = .ok (.lload 6, 2) := by decide +kernel
theorem dX4_commonDivisor_28 : decode cX4_commonDivisor 28 = .ok (.lrem, 1) := by decide +kernel
theorem dX4_commonDivisor_29 : decode cX4_commonDivisor 29 = .ok (.lstore 9, 2) := by decide +kernel
theorem dX4_commonDivisor_31 : decode cX4_commonDivisor 31 = .ok (.lload 6, 2) := by decide +kernel
theorem dX4_commonDivisor_33 : decode cX4_commonDivisor 33 = .ok (.lstore 4, 2) := by decide +kernel
theorem dX4_commonDivisor_35 : decode cX4_commonDivisor 35 = .ok (.lload 9, 2) := by decide +kernel
theorem dX4_commonDivisor_37 : decode cX4_commonDivisor 37 = .ok (.lstore 6, 2) := by decide +kernel
theorem dX4_commonDivisor_39 : decode cX4_commonDivisor 39 = .ok (.iinc 8 1, 3) := by decide +kernel
theorem dX4_commonDivisor_42 : decode cX4_commonDivisor 42 = .ok (.goto (-33), 3) := by decide +kernel
theorem dX4_commonDivisor_45 : decode cX4_commonDivisor 45 = .ok (.lload 4, 2) := by decide +kernel
theorem dX4_commonDivisor_47 : decode cX4_commonDivisor 47 = .ok (.lreturn, 1) := by decide +kernel
theorem dX4_shedBy_0 : decode cX4_shedBy 0 = .ok (.iload_n 2, 1) := by decide +kernel
theorem dX4_shedBy_1 : decode cX4_shedBy 1 = .ok (.ifCond .le 9, 3) := by decide +kernel
theorem dX4_shedBy_4 : decode cX4_shedBy 4 = .ok (.iload_n 1, 1) := by decide +kernel
theorem dX4_shedBy_5 : decode cX4_shedBy 5 = .ok (.iload_n 2, 1) := by decide +kernel
theorem dX4_shedBy_6 : decode cX4_shedBy 6 = .ok (.idiv, 1) := by decide +kernel
theorem dX4_shedBy_7 : decode cX4_shedBy 7 = .ok (.goto 4, 3) := by decide +kernel
theorem dX4_shedBy_10 : decode cX4_shedBy 10 = .ok (.iconst 0, 1) := by decide +kernel
theorem dX4_shedBy_11 : decode cX4_shedBy 11 = .ok (.istore 4, 2) := by decide +kernel
theorem dX4_shedBy_13 : decode cX4_shedBy 13 = .ok (.iload_n 0, 1) := by decide +kernel
theorem dX4_shedBy_14 : decode cX4_shedBy 14 = .ok (.tableswitch 70 1 5 #[34, 37, 42, 56, 58], 34) := by decide +kernel
theorem dX4_shedBy_48 : decode cX4_shedBy 48 = .ok (.iload 4, 2) := by decide +kernel
theorem dX4_shedBy_50 : decode cX4_shedBy 50 = .ok (.ireturn, 1) := by decide +kernel
theorem dX4_shedBy_51 : decode cX4_shedBy 51 = .ok (.iconst 2, 1) := by decide +kernel
theorem dX4_shedBy_52 : decode cX4_shedBy 52 = .ok (.iload 4, 2) := by decide +kernel
theorem dX4_shedBy_54 : decode cX4_shedBy 54 = .ok (.imul, 1) := by decide +kernel
theorem dX4_shedBy_55 : decode cX4_shedBy 55 = .ok (.ireturn, 1) := by decide +kernel
theorem dX4_shedBy_56 : decode cX4_shedBy 56 = .ok (.iload_n 1, 1) := by decide +kernel
theorem dX4_shedBy_57 : decode cX4_shedBy 57 = .ok (.ifCond .eq 10, 3) := by decide +kernel
theorem dX4_shedBy_60 : decode cX4_shedBy 60 = .ok (.iload 4, 2) := by decide +kernel
theorem dX4_shedBy_62 : decode cX4_shedBy 62 = .ok (.iconst 1, 1) := by decide +kernel
theorem dX4_shedBy_63 : decode cX4_shedBy 63 = .ok (.iadd, 1) := by decide +kernel
theorem dX4_shedBy_64 : decode cX4_shedBy 64 = .ok (.goto 5, 3) := by decide +kernel
theorem dX4_shedBy_67 : decode cX4_shedBy 67 = .ok (.iload 4, 2) := by decide +kernel
theorem dX4_shedBy_69 : decode cX4_shedBy 69 = .ok (.ireturn, 1) := by decide +kernel
theorem dX4_shedBy_70 : decode cX4_shedBy 70 = .ok (.iload_n 2, 1) := by decide +kernel
theorem dX4_shedBy_71 : decode cX4_shedBy 71 = .ok (.ireturn, 1) := by decide +kernel
theorem dX4_shedBy_72 : decode cX4_shedBy 72 = .ok (.iload_n 3, 1) := by decide +kernel
theorem dX4_shedBy_73 : decode cX4_shedBy 73 = .ok (.iconst 2, 1) := by decide +kernel
theorem dX4_shedBy_74 : decode cX4_shedBy 74 = .ok (.irem, 1) := by decide +kernel
theorem dX4_shedBy_75 : decode cX4_shedBy 75 = .ok (.ifCond .ne 7, 3) := by decide +kernel
theorem dX4_shedBy_78 : decode cX4_shedBy 78 = .ok (.iload_n 2, 1) := by decide +kernel
theorem dX4_shedBy_79 : decode cX4_shedBy 79 = .ok (.goto 4, 3) := by decide +kernel
theorem dX4_shedBy_82 : decode cX4_shedBy 82 = .ok (.iconst 0, 1) := by decide +kernel
theorem dX4_shedBy_83 : decode cX4_shedBy 83 = .ok (.ireturn, 1) := by decide +kernel
theorem dX4_shedBy_84 : decode cX4_shedBy 84 = .ok (.iconst 0, 1) := by decide +kernel
theorem dX4_shedBy_85 : decode cX4_shedBy 85 = .ok (.ireturn, 1) := by decide +kernel
theorem dX4_isSuch_0 : decode cX4_isSuch 0 = .ok (.iload_n 0, 1) := by decide +kernel
theorem dX4_isSuch_1 : decode cX4_isSuch 1 = .ok (.istore_n 2, 1) := by decide +kernel
theorem dX4_isSuch_2 : decode cX4_isSuch 2 = .ok (.iconst 0, 1) := by decide +kernel
theorem dX4_isSuch_3 : decode cX4_isSuch 3 = .ok (.istore_n 3, 1) := by decide +kernel
theorem dX4_isSuch_4 : decode cX4_isSuch 4 = .ok (.iload_n 3, 1) := by decide +kernel
theorem dX4_isSuch_5 : decode cX4_isSuch 5 = .ok (.bipush 6, 2) := by decide +kernel
theorem dX4_isSuch_7 : decode cX4_isSuch 7 = .ok (.if_icmp .ge 25, 3) := by decide +kernel
theorem dX4_isSuch_10 : decode cX4_isSuch 10 = .ok (.iload_n 2, 1) := by decide +kernel
theorem dX4_isSuch_11 : decode cX4_isSuch 11 = .ok (.iconst (-1), 1) := by decide +kernel
theorem dX4_isSuch_12 : decode cX4_isSuch 12 = .ok (.if_icmp .eq 20, 3) := by decide +kernel
theorem dX4_isSuch_15 : decode cX4_isSuch 15 = .ok (.iload_n 2, 1) := by decide +kernel
theorem dX4_isSuch_16 : decode cX4_isSuch 16 = .ok (.iload_n 1, 1) := by decide +kernel
theorem dX4_isSuch_17 : decode cX4_isSuch 17 = .ok (.if_icmp .eq 15, 3) := by decide +kernel
theorem dX4_isSuch_20 : decode cX4_isSuch 20 = .ok (.getstatic 286, 3) := by decide +kernel
theorem dX4_isSuch_23 : decode cX4_isSuch 23 = .ok (.iload_n 2, 1) := by decide +kernel
theorem dX4_isSuch_24 : decode cX4_isSuch 24 = .ok (.iaload, 1) := by decide +kernel
theorem dX4_isSuch_25 : decode cX4_isSuch 25 = .ok (.istore_n 2, 1) := by decide +kernel
theorem dX4_isSuch_26 : decode cX4_isSuch 26 = .ok (.iinc 3 1, 3) := by decide +kernel
theorem dX4_isSuch_29 : decode cX4_isSuch 29 = .ok (.goto (-25), 3) := by decide +kernel
theorem dX4_isSuch_32 : decode cX4_isSuch 32 = .ok (.iload_n 2, 1) := by decide +kernel
theorem dX4_isSuch_33 : decode cX4_isSuch 33 = .ok (.iload_n 1, 1) := by decide +kernel
theorem dX4_isSuch_34 : decode cX4_isSuch 34 = .ok (.if_icmp .ne 7, 3) := by decide +kernel
theorem dX4_isSuch_37 : decode cX4_isSuch 37 = .ok (.iconst 1, 1) := by decide +kernel
theorem dX4_isSuch_38 : decode cX4_isSuch 38 = .ok (.goto 4, 3) := by decide +kernel
theorem dX4_isSuch_41 : decode cX4_isSuch 41 = .ok (.iconst 0, 1) := by decide +kernel
theorem dX4_isSuch_42 : decode cX4_isSuch 42 = .ok (.ireturn, 1) := by decide +kernel
theorem dX4_bodyFor_0 : decode cX4_bodyFor 0 = .ok (.iload_n 0, 1) := by decide +kernel
theorem dX4_bodyFor_1 : decode cX4_bodyFor 1 = .ok (.istore_n 2, 1) := by decide +kernel
theorem dX4_bodyFor_2 : decode cX4_bodyFor 2 = .ok (.iconst 0, 1) := by decide +kernel
theorem dX4_bodyFor_3 : decode cX4_bodyFor 3 = .ok (.istore_n 3, 1) := by decide +kernel
theorem dX4_bodyFor_4 : decode cX4_bodyFor 4 = .ok (.iconst 0, 1) := by decide +kernel
theorem dX4_bodyFor_5 : decode cX4_bodyFor 5 = .ok (.istore 4, 2) := by decide +kernel
theorem dX4_bodyFor_7 : decode cX4_bodyFor 7 = .ok (.iload 4, 2) := by decide +kernel
theorem dX4_bodyFor_9 : decode cX4_bodyFor 9 = .ok (.bipush 6, 2) := by decide +kernel
theorem dX4_bodyFor_11 : decode cX4_bodyFor 11 = .ok (.if_icmp .ge 42, 3) := by decide +kernel
theorem dX4_bodyFor_14 : decode cX4_bodyFor 14 = .ok (.iload_n 2, 1) := by decide +kernel
theorem dX4_bodyFor_15 : decode cX4_bodyFor 15 = .ok (.iconst (-1), 1) := by decide +kernel
theorem dX4_bodyFor_16 : decode cX4_bodyFor 16 = .ok (.if_icmp .eq 37, 3) := by decide +kernel
theorem dX4_bodyFor_19 : decode cX4_bodyFor 19 = .ok (.iload_n 3, 1) := by decide +kernel
theorem dX4_bodyFor_20 : decode cX4_bodyFor 20 = .ok (.ifCond .ne 33, 3) := by decide +kernel
theorem dX4_bodyFor_23 : decode cX4_bodyFor 23 = .ok (.iload_n 1, 1) := by decide +kernel
theorem dX4_bodyFor_24 : decode cX4_bodyFor 24 = .ok (.ifCond .ne 11, 3) := by decide +kernel
theorem dX4_bodyFor_27 : decode cX4_bodyFor 27 = .ok (.getstatic 289, 3) := by decide +kernel
theorem dX4_bodyFor_30 : decode cX4_bodyFor 30 = .ok (.iload_n 2, 1) := by decide +kernel
theorem dX4_bodyFor_31 : decode cX4_bodyFor 31 = .ok (.iaload, 1) := by decide +kernel
theorem dX4_bodyFor_32 : decode cX4_bodyFor 32 = .ok (.goto 8, 3) := by decide +kernel
theorem dX4_bodyFor_35 : decode cX4_bodyFor 35 = .ok (.getstatic 292, 3) := by decide +kernel
theorem dX4_bodyFor_38 : decode cX4_bodyFor 38 = .ok (.iload_n 2, 1) := by decide +kernel
theorem dX4_bodyFor_39 : decode cX4_bodyFor 39 = .ok (.iaload, 1) := by decide +kernel
theorem dX4_bodyFor_40 : decode cX4_bodyFor 40 = .ok (.istore_n 3, 1) := by decide +kernel
theorem dX4_bodyFor_41 : decode cX4_bodyFor 41 = .ok (.getstatic 286, 3) := by decide +kernel
theorem dX4_bodyFor_44 : decode cX4_bodyFor 44 = .ok (.iload_n 2, 1) := by decide +kernel
theorem dX4_bodyFor_45 : decode cX4_bodyFor 45 = .ok (.iaload, 1) := by decide +kernel
theorem dX4_bodyFor_46 : decode cX4_bodyFor 46 = .ok (.istore_n 2, 1) := by decide +kernel
theorem dX4_bodyFor_47 : decode cX4_bodyFor 47 = .ok (.iinc 4 1, 3) := by decide +kernel
theorem dX4_bodyFor_50 : decode cX4_bodyFor 50 = .ok (.goto (-43), 3) := by decide +kernel
theorem dX4_bodyFor_53 : decode cX4_bodyFor 53 = .ok (.iload_n 3, 1) := by decide +kernel
theorem dX4_bodyFor_54 : decode cX4_bodyFor 54 = .ok (.ireturn, 1) := by decide +kernel
theorem dX4_answerOf_0 : decode cX4_answerOf 0 = .ok (.aload_n 0, 1) := by decide +kernel
theorem dX4_answerOf_1 : decode cX4_answerOf 1 = .ok (.iload_n 1, 1) := by decide +kernel
theorem dX4_answerOf_2 : decode cX4_answerOf 2 = .ok (.aload_n 0, 1) := by decide +kernel
theorem dX4_answerOf_3 : decode cX4_answerOf 3 = .ok (.getfield 25, 3) := by decide +kernel
theorem dX4_answerOf_6 : decode cX4_answerOf 6 = .ok (.getfield 259, 3) := by decide +kernel
theorem dX4_answerOf_9 : decode cX4_answerOf 9 = .ok (.iload_n 1, 1) := by decide +kernel
theorem dX4_answerOf_10 : decode cX4_answerOf 10 = .ok (.iaload, 1) := by decide +kernel
theorem dX4_answerOf_11 : decode cX4_answerOf 11 = .ok (.iload_n 2, 1) := by decide +kernel
theorem dX4_answerOf_12 : decode cX4_answerOf 12 = .ok (.invokestatic 295, 3) := by decide +kernel
theorem dX4_answerOf_15 : decode cX4_answerOf 15 = .ok (.iload_n 3, 1) := by decide +kernel
theorem dX4_answerOf_16 : decode cX4_answerOf 16 = .ok (.invokevirtual 298, 3) := by decide +kernel
theorem dX4_answerOf_19 : decode cX4_answerOf 19 = .ok (.ireturn, 1) := by decide +kernel
theorem dX4_given_0 : decode cX4_given 0 = .ok (.iload_n 3, 1) := by decide +kernel
theorem dX4_given_1 : decode cX4_given 1 = .ok (.bipush 20, 2) := by decide +kernel
theorem dX4_given_3 : decode cX4_given 3 = .ok (.if_icmp .le 5, 3) := by decide +kernel
theorem dX4_given_6 : decode cX4_given 6 = .ok (.iconst 0, 1) := by decide +kernel
theorem dX4_given_7 : decode cX4_given 7 = .ok (.ireturn, 1) := by decide +kernel
theorem dX4_given_8 : decode cX4_given 8 = .ok (.aload_n 0, 1) := by decide +kernel
theorem dX4_given_9 : decode cX4_given 9 = .ok (.iload_n 2, 1) := by decide +kernel
theorem dX4_given_10 : decode cX4_given 10 = .ok (.invokevirtual 301, 3) := by decide +kernel
theorem dX4_given_13 : decode cX4_given 13 = .ok (.iload_n 3, 1) := by decide +kernel
theorem dX4_given_14 : decode cX4_given 14 = .ok (.iconst 1, 1) := by decide +kernel
theorem dX4_given_15 : decode cX4_given 15 = .ok (.iadd, 1) := by decide +kernel
theorem dX4_given_16 : decode cX4_given 16 = .ok (.istore 4, 2) := by decide +kernel
theorem dX4_given_18 : decode cX4_given 18 = .ok (.iload_n 2, 1) := by decide +kernel
theorem dX4_given_19 : decode cX4_given 19 = .ok (.tableswitch 205 10 24 #[73, 83, 102, 113, 126, 205, 205, 205, 205, 205, 138, 140, 160, 174, 193], 73) := by decide +kernel
theorem dX4_given_92 : decode cX4_given 92 = .ok (.aload_n 0, 1) := by decide +kernel
theorem dX4_given_93 : decode cX4_given 93 = .ok (.getfield 25, 3) := by decide +kernel
theorem dX4_given_96 : decode cX4_given 96 = .ok (.getfield 155, 3) := by decide +kernel
theorem dX4_given_99 : decode cX4_given 99 = .ok (.iload_n 1, 1) := by decide +kernel
theorem dX4_given_100 : decode cX4_given 100 = .ok (.iaload, 1) := by decide +kernel
theorem dX4_given_101 : decode cX4_given 101 = .ok (.ireturn, 1) := by decide +kernel
theorem dX4_given_102 : decode cX4_given 102 = .ok (.aload_n 0, 1) := by decide +kernel
theorem dX4_given_103 : decode cX4_given 103 = .ok (.iload_n 1, 1) := by decide +kernel
theorem dX4_given_104 : decode cX4_given 104 = .ok (.bipush 10, 2) := by decide +kernel
theorem dX4_given_106 : decode cX4_given 106 = .ok (.iload 4, 2) := by decide +kernel
theorem dX4_given_108 : decode cX4_given 108 = .ok (.invokevirtual 298, 3) := by decide +kernel
theorem dX4_given_111 : decode cX4_given 111 = .ok (.aload_n 0, 1) := by decide +kernel
theorem dX4_given_112 : decode cX4_given 112 = .ok (.iload_n 1, 1) := by decide +kernel
theorem dX4_given_113 : decode cX4_given 113 = .ok (.iconst 1, 1) := by decide +kernel
theorem dX4_given_114 : decode cX4_given 114 = .ok (.iload 4, 2) := by decide +kernel
theorem dX4_given_116 : decode cX4_given 116 = .ok (.invokevirtual 268, 3) := by decide +kernel
theorem dX4_given_119 : decode cX4_given 119 = .ok (.iadd, 1) := by decide +kernel
theorem dX4_given_120 : decode cX4_given 120 = .ok (.ireturn, 1) := by decide +kernel
theorem dX4_given_121 : decode cX4_given 121 = .ok (.aload_n 0, 1) := by decide +kernel
theorem dX4_given_122 : decode cX4_given 122 = .ok (.iload_n 1, 1) := by decide +kernel
theorem dX4_given_123 : decode cX4_given 123 = .ok (.bipush 11, 2) := by decide +kernel
theorem dX4_given_125 : decode cX4_given 125 = .ok (.iload 4, 2) := by decide +kernel
theorem dX4_given_127 : decode cX4_given 127 = .ok (.invokevirtual 298, 3) := by decide +kernel
theorem dX4_given_130 : decode cX4_given 130 = .ok (.ineg, 1) := by decide +kernel
theorem dX4_given_131 : decode cX4_given 131 = .ok (.ireturn, 1) := by decide +kernel
theorem dX4_given_132 : decode cX4_given 132 = .ok (.aload_n 0, 1) := by decide +kernel
theorem dX4_given_133 : decode cX4_given 133 = .ok (.iload_n 1, 1) := by decide +kernel
theorem dX4_given_134 : decode cX4_given 134 = .ok (.bipush 10, 2) := by decide +kernel
theorem dX4_given_136 : decode cX4_given 136 = .ok (.iload 4, 2) := by decide +kernel
theorem dX4_given_138 : decode cX4_given 138 = .ok (.invokevirtual 298, 3) := by decide +kernel
theorem dX4_given_141 : decode cX4_given 141 = .ok (.bipush 100, 2) := by decide +kernel
theorem dX4_given_143 : decode cX4_given 143 = .ok (.isub, 1) := by decide +kernel
theorem dX4_given_144 : decode cX4_given 144 = .ok (.ireturn, 1) := by decide +kernel
theorem dX4_given_145 : decode cX4_given 145 = .ok (.iconst 2, 1) := by decide +kernel
theorem dX4_given_146 : decode cX4_given 146 = .ok (.aload_n 0, 1) := by decide +kernel
theorem dX4_given_147 : decode cX4_given 147 = .ok (.iload_n 1, 1) := by decide +kernel
theorem dX4_given_148 : decode cX4_given 148 = .ok (.bipush 13, 2) := by decide +kernel
theorem dX4_given_150 : decode cX4_given 150 = .ok (.iload 4, 2) := by decide +kernel
theorem dX4_given_152 : decode cX4_given 152 = .ok (.invokevirtual 298, 3) := by decide +kernel
theorem dX4_given_155 : decode cX4_given 155 = .ok (.imul, 1) := by decide +kernel
theorem dX4_given_156 : decode cX4_given 156 = .ok (.ireturn, 1) := by decide +kernel
theorem dX4_given_157 : decode cX4_given 157 = .ok (.iload_n 1, 1) := by decide +kernel
theorem dX4_given_158 : decode cX4_given 158 = .ok (.ireturn, 1) := by decide +kernel
theorem dX4_given_159 : decode cX4_given 159 = .ok (.aload_n 0, 1) := by decide +kernel
theorem dX4_given_160 : decode cX4_given 160 = .ok (.iload_n 1, 1) := by decide +kernel
theorem dX4_given_161 : decode cX4_given 161 = .ok (.bipush 20, 2) := by decide +kernel
theorem dX4_given_163 : decode cX4_given 163 = .ok (.iload 4, 2) := by decide +kernel
theorem dX4_given_165 : decode cX4_given 165 = .ok (.invokevirtual 298, 3) := by decide +kernel
theorem dX4_given_168 : decode cX4_given 168 = .ok (.aload_n 0, 1) := by decide +kernel
theorem dX4_given_169 : decode cX4_given 169 = .ok (.getfield 25, 3) := by decide +kernel
theorem dX4_given_172 : decode cX4_given 172 = .ok (.getfield 180, 3) := by decide +kernel
theorem dX4_given_175 : decode cX4_given 175 = .ok (.iload_n 1, 1) := by decide +kernel
theorem dX4_given_176 : decode cX4_given 176 = .ok (.iaload, 1) := by decide +kernel
theorem dX4_given_177 : decode cX4_given 177 = .ok (.iadd, 1) := by decide +kernel
theorem dX4_given_178 : decode cX4_given 178 = .ok (.ireturn, 1) := by decide +kernel
theorem dX4_given_179 : decode cX4_given 179 = .ok (.aload_n 0, 1) := by decide +kernel
theorem dX4_given_180 : decode cX4_given 180 = .ok (.iload_n 1, 1) := by decide +kernel
theorem dX4_given_181 : decode cX4_given 181 = .ok (.bipush 21, 2) := by decide +kernel
theorem dX4_given_183 : decode cX4_given 183 = .ok (.iload 4, 2) := by decide +kernel
theorem dX4_given_185 : decode cX4_given 185 = .ok (.invokevirtual 298, 3) := by decide +kernel
theorem dX4_given_188 : decode cX4_given 188 = .ok (.sipush 1000, 3) := by decide +kernel
theorem dX4_given_191 : decode cX4_given 191 = .ok (.isub, 1) := by decide +kernel
theorem dX4_given_192 : decode cX4_given 192 = .ok (.ireturn, 1) := by decide +kernel
theorem dX4_given_193 : decode cX4_given 193 = .ok (.aload_n 0, 1) := by decide +kernel
theorem dX4_given_194 : decode cX4_given 194 = .ok (.iload_n 1, 1) := by decide +kernel
theorem dX4_given_195 : decode cX4_given 195 = .ok (.bipush 20, 2) := by decide +kernel
theorem dX4_given_197 : decode cX4_given 197 = .ok (.iload 4, 2) := by decide +kernel
theorem dX4_given_199 : decode cX4_given 199 = .ok (.invokevirtual 298, 3) := by decide +kernel
theorem dX4_given_202 : decode cX4_given 202 = .ok (.aload_n 0, 1) := by decide +kernel
theorem dX4_given_203 : decode cX4_given 203 = .ok (.iload_n 1, 1) := by decide +kernel
theorem dX4_given_204 : decode cX4_given 204 = .ok (.iconst 0, 1) := by decide +kernel
theorem dX4_given_205 : decode cX4_given 205 = .ok (.iload 4, 2) := by decide +kernel
theorem dX4_given_207 : decode cX4_given 207 = .ok (.invokevirtual 268, 3) := by decide +kernel
theorem dX4_given_210 : decode cX4_given 210 = .ok (.isub, 1) := by decide +kernel
theorem dX4_given_211 : decode cX4_given 211 = .ok (.ireturn, 1) := by decide +kernel
theorem dX4_given_212 : decode cX4_given 212 = .ok (.iconst 2, 1) := by decide +kernel
theorem dX4_given_213 : decode cX4_given 213 = .ok (.aload_n 0, 1) := by decide +kernel
theorem dX4_given_214 : decode cX4_given 214 = .ok (.iload_n 1, 1) := by decide +kernel
theorem dX4_given_215 : decode cX4_given 215 = .ok (.bipush 21, 2) := by decide +kernel
theorem dX4_given_217 : decode cX4_given 217 = .ok (.iload 4, 2) := by decide +kernel
theorem dX4_given_219 : decode cX4_given 219 = .ok (.invokevirtual 298, 3) := by decide +kernel
theorem dX4_given_222 : decode cX4_given 222 = .ok (.imul, 1) := by decide +kernel
theorem dX4_given_223 : decode cX4_given 223 = .ok (.ireturn, 1) := by decide +kernel
theorem dX4_given_224 : decode cX4_given 224 = .ok (.iconst 0, 1) := by decide +kernel
theorem dX4_given_225 : decode cX4_given 225 = .ok (.ireturn, 1) := by decide +kernel
theorem dX4_leaveTrace_0 : decode cX4_leaveTrace 0 = .ok (.aload_n 0, 1) := by decide +kernel
theorem dX4_leaveTrace_1 : decode cX4_leaveTrace 1 = .ok (.getfield 265, 3) := by decide +kernel
theorem dX4_leaveTrace_4 : decode cX4_leaveTrace 4 = .ok (.bipush 16, 2) := by decide +kernel
theorem dX4_leaveTrace_6 : decode cX4_leaveTrace 6 = .ok (.if_icmp .ge 23, 3) := by decide +kernel
theorem dX4_leaveTrace_9 : decode cX4_leaveTrace 9 = .ok (.aload_n 0, 1) := by decide +kernel
theorem dX4_leaveTrace_10 : decode cX4_leaveTrace 10 = .ok (.getfield 43, 3) := by decide +kernel
theorem dX4_leaveTrace_13 : decode cX4_leaveTrace 13 = .ok (.aload_n 0, 1) := by decide +kernel
theorem dX4_leaveTrace_14 : decode cX4_leaveTrace 14 = .ok (.getfield 265, 3) := by decide +kernel
theorem dX4_leaveTrace_17 : decode cX4_leaveTrace 17 = .ok (.iload_n 1, 1) := by decide +kernel
theorem dX4_leaveTrace_18 : decode cX4_leaveTrace 18 = .ok (.iastore, 1) := by decide +kernel
theorem dX4_leaveTrace_19 : decode cX4_leaveTrace 19 = .ok (.aload_n 0, 1) := by decide +kernel
theorem dX4_leaveTrace_20 : decode cX4_leaveTrace 20 = .ok (.dup, 1) := by decide +kernel
theorem dX4_leaveTrace_21 : decode cX4_leaveTrace 21 = .ok (.getfield 265, 3) := by decide +kernel
theorem dX4_leaveTrace_24 : decode cX4_leaveTrace 24 = .ok (.iconst 1, 1) := by decide +kernel
theorem dX4_leaveTrace_25 : decode cX4_leaveTrace 25 = .ok (.iadd, 1) := by decide +kernel
theorem dX4_leaveTrace_26 : decode cX4_leaveTrace 26 = .ok (.putfield 265, 3) := by decide +kernel
theorem dX4_leaveTrace_29 : decode cX4_leaveTrace 29 = .ok (.return_, 1) := by decide +kernel
theorem dJ6_bitCount_0f7a4_0 : decode cJ6_bitCount_0f7a4 0 = .ok (.iload_n 0, 1) := by decide +kernel
theorem dJ6_bitCount_0f7a4_1 : decode cJ6_bitCount_0f7a4 1 = .ok (.iload_n 0, 1) := by decide +kernel
theorem dJ6_bitCount_0f7a4_2 : decode cJ6_bitCount_0f7a4 2 = .ok (.iconst 1, 1) := by decide +kernel
theorem dJ6_bitCount_0f7a4_3 : decode cJ6_bitCount_0f7a4 3 = .ok (.iushr, 1) := by decide +kernel
theorem dJ6_bitCount_0f7a4_4 : decode cJ6_bitCount_0f7a4 4 = .ok (.ldc_w 265, 3) := by decide +kernel
theorem dJ6_bitCount_0f7a4_7 : decode cJ6_bitCount_0f7a4 7 = .ok (.iand, 1) := by decide +kernel
theorem dJ6_bitCount_0f7a4_8 : decode cJ6_bitCount_0f7a4 8 = .ok (.isub, 1) := by decide +kernel
theorem dJ6_bitCount_0f7a4_9 : decode cJ6_bitCount_0f7a4 9 = .ok (.istore_n 0, 1) := by decide +kernel
theorem dJ6_bitCount_0f7a4_10 : decode cJ6_bitCount_0f7a4 10 = .ok (.iload_n 0, 1) := by decide +kernel
theorem dJ6_bitCount_0f7a4_11 : decode cJ6_bitCount_0f7a4 11 = .ok (.ldc_w 266, 3) := by decide +kernel
theorem dJ6_bitCount_0f7a4_14 : decode cJ6_bitCount_0f7a4 14 = .ok (.iand, 1) := by decide +kernel
theorem dJ6_bitCount_0f7a4_15 : decode cJ6_bitCount_0f7a4 15 = .ok (.iload_n 0, 1) := by decide +kernel
theorem dJ6_bitCount_0f7a4_16 : decode cJ6_bitCount_0f7a4 16 = .ok (.iconst 2, 1) := by decide +kernel
theorem dJ6_bitCount_0f7a4_17 : decode cJ6_bitCount_0f7a4 17 = .ok (.iushr, 1) := by decide +kernel
theorem dJ6_bitCount_0f7a4_18 : decode cJ6_bitCount_0f7a4 18 = .ok (.ldc_w 266, 3) := by decide +kernel
theorem dJ6_bitCount_0f7a4_21 : decode cJ6_bitCount_0f7a4 21 = .ok (.iand, 1) := by decide +kernel
theorem dJ6_bitCount_0f7a4_22 : decode cJ6_bitCount_0f7a4 22 = .ok (.iadd, 1) := by decide +kernel
theorem dJ6_bitCount_0f7a4_23 : decode cJ6_bitCount_0f7a4 23 = .ok (.istore_n 0, 1) := by decide +kernel
theorem dJ6_bitCount_0f7a4_24 : decode cJ6_bitCount_0f7a4 24 = .ok (.iload_n 0, 1) := by decide +kernel
theorem dJ6_bitCount_0f7a4_25 : decode cJ6_bitCount_0f7a4 25 = .ok (.iload_n 0, 1) := by decide +kernel
theorem dJ6_bitCount_0f7a4_26 : decode cJ6_bitCount_0f7a4 26 = .ok (.iconst 4, 1) := by decide +kernel
theorem dJ6_bitCount_0f7a4_27 : decode cJ6_bitCount_0f7a4 27 = .ok (.iushr, 1) := by decide +kernel
theorem dJ6_bitCount_0f7a4_28 : decode cJ6_bitCount_0f7a4 28 = .ok (.iadd, 1) := by decide +kernel
theorem dJ6_bitCount_0f7a4_29 : decode cJ6_bitCount_0f7a4 29 = .ok (.ldc_w 267, 3) := by decide +kernel
theorem dJ6_bitCount_0f7a4_32 : decode cJ6_bitCount_0f7a4 32 = .ok (.iand, 1) := by decide +kernel
theorem dJ6_bitCount_0f7a4_33 : decode cJ6_bitCount_0f7a4 33 = .ok (.istore_n 0, 1) := by decide +kernel
theorem dJ6_bitCount_0f7a4_34 : decode cJ6_bitCount_0f7a4 34 = .ok (.iload_n 0, 1) := by decide +kernel
theorem dJ6_bitCount_0f7a4_35 : decode cJ6_bitCount_0f7a4 35 = .ok (.iload_n 0, 1) := by decide +kernel
theorem dJ6_bitCount_0f7a4_36 : decode cJ6_bitCount_0f7a4 36 = .ok (.bipush 8, 2) := by decide +kernel
theorem dJ6_bitCount_0f7a4_38 : decode cJ6_bitCount_0f7a4 38 = .ok (.iushr, 1) := by decide +kernel
theorem dJ6_bitCount_0f7a4_39 : decode cJ6_bitCount_0f7a4 39 = .ok (.iadd, 1) := by decide +kernel
theorem dJ6_bitCount_0f7a4_40 : decode cJ6_bitCount_0f7a4 40 = .ok (.istore_n 0, 1) := by decide +kernel
theorem dJ6_bitCount_0f7a4_41 : decode cJ6_bitCount_0f7a4 41 = .ok (.iload_n 0, 1) := by decide +kernel
theorem dJ6_bitCount_0f7a4_42 : decode cJ6_bitCount_0f7a4 42 = .ok (.iload_n 0, 1) := by decide +kernel
theorem dJ6_bitCount_0f7a4_43 : decode cJ6_bitCount_0f7a4 43 = .ok (.bipush 16, 2) := by decide +kernel
theorem dJ6_bitCount_0f7a4_45 : decode cJ6_bitCount_0f7a4 45 = .ok (.iushr, 1) := by decide +kernel
theorem dJ6_bitCount_0f7a4_46 : decode cJ6_bitCount_0f7a4 46 = .ok (.iadd, 1) := by decide +kernel
theorem dJ6_bitCount_0f7a4_47 : decode cJ6_bitCount_0f7a4 47 = .ok (.istore_n 0, 1) := by decide +kernel
theorem dJ6_bitCount_0f7a4_48 : decode cJ6_bitCount_0f7a4 48 = .ok (.iload_n 0, 1) := by decide +kernel
theorem dJ6_bitCount_0f7a4_49 : decode cJ6_bitCount_0f7a4 49 = .ok (.bipush 63, 2) := by decide +kernel
theorem dJ6_bitCount_0f7a4_51 : decode cJ6_bitCount_0f7a4 51 = .ok (.iand, 1) := by decide +kernel
theorem dJ6_bitCount_0f7a4_52 : decode cJ6_bitCount_0f7a4 52 = .ok (.ireturn, 1) := by decide +kernel
theorem dJ9_max_7cf53_0 : decode cJ9_max_7cf53 0 = .ok (.iload_n 0, 1) := by decide +kernel
theorem dJ9_max_7cf53_1 : decode cJ9_max_7cf53 1 = .ok (.iload_n 1, 1) := by decide +kernel
theorem dJ9_max_7cf53_2 : decode cJ9_max_7cf53 2 = .ok (.if_icmp .lt 7, 3) := by decide +kernel
theorem dJ9_max_7cf53_5 : decode cJ9_max_7cf53 5 = .ok (.iload_n 0, 1) := by decide +kernel
theorem dJ9_max_7cf53_6 : decode cJ9_max_7cf53 6 = .ok (.goto 4, 3) := by decide +kernel
theorem dJ9_max_7cf53_9 : decode cJ9_max_7cf53 9 = .ok (.iload_n 1, 1) := by decide +kernel
theorem dJ9_max_7cf53_10 : decode cJ9_max_7cf53 10 = .ok (.ireturn, 1) := by decide +kernel
theorem dJ9_min_7cf53_0 : decode cJ9_min_7cf53 0 = .ok (.iload_n 0, 1) := by decide +kernel
theorem dJ9_min_7cf53_1 : decode cJ9_min_7cf53 1 = .ok (.iload_n 1, 1) := by decide +kernel
theorem dJ9_min_7cf53_2 : decode cJ9_min_7cf53 2 = .ok (.if_icmp .gt 7, 3) := by decide +kernel
theorem dJ9_min_7cf53_5 : decode cJ9_min_7cf53 5 = .ok (.iload_n 0, 1) := by decide +kernel
theorem dJ9_min_7cf53_6 : decode cJ9_min_7cf53 6 = .ok (.goto 4, 3) := by decide +kernel
theorem dJ9_min_7cf53_9 : decode cJ9_min_7cf53 9 = .ok (.iload_n 1, 1) := by decide +kernel
theorem dJ9_min_7cf53_10 : decode cJ9_min_7cf53 10 = .ok (.ireturn, 1) := by decide +kernel
theorem dJ7_fill_53178_0 : decode cJ7_fill_53178 0 = .ok (.iconst 0, 1) := by decide +kernel
theorem dJ7_fill_53178_1 : decode cJ7_fill_53178 1 = .ok (.istore_n 2, 1) := by decide +kernel
theorem dJ7_fill_53178_2 : decode cJ7_fill_53178 2 = .ok (.aload_n 0, 1) := by decide +kernel
theorem dJ7_fill_53178_3 : decode cJ7_fill_53178 3 = .ok (.arraylength, 1) := by decide +kernel
theorem dJ7_fill_53178_4 : decode cJ7_fill_53178 4 = .ok (.istore_n 3, 1) := by decide +kernel
theorem dJ7_fill_53178_5 : decode cJ7_fill_53178 5 = .ok (.iload_n 2, 1) := by decide +kernel
theorem dJ7_fill_53178_6 : decode cJ7_fill_53178 6 = .ok (.iload_n 3, 1) := by decide +kernel
theorem dJ7_fill_53178_7 : decode cJ7_fill_53178 7 = .ok (.if_icmp .ge 13, 3) := by decide +kernel
theorem dJ7_fill_53178_10 : decode cJ7_fill_53178 10 = .ok (.aload_n 0, 1) := by decide +kernel
theorem dJ7_fill_53178_11 : decode cJ7_fill_53178 11 = .ok (.iload_n 2, 1) := by decide +kernel
theorem dJ7_fill_53178_12 : decode cJ7_fill_53178 12 = .ok (.iload_n 1, 1) := by decide +kernel
theorem dJ7_fill_53178_13 : decode cJ7_fill_53178 13 = .ok (.iastore, 1) := by decide +kernel
theorem dJ7_fill_53178_14 : decode cJ7_fill_53178 14 = .ok (.iinc 2 1, 3) := by decide +kernel
theorem dJ7_fill_53178_17 : decode cJ7_fill_53178 17 = .ok (.goto (-12), 3) := by decide +kernel
theorem dJ7_fill_53178_20 : decode cJ7_fill_53178 20 = .ok (.return_, 1) := by decide +kernel
