theorem jd_Integer_bitCount_0 : decode jb_Integer_bitCount 0 = .ok (.iload_n 0, 1) := by decide +kernel
theorem jd_Integer_bitCount_1 : decode jb_Integer_bitCount 1 = .ok (.iload_n 0, 1) := by decide +kernel
theorem jd_Integer_bitCount_2 : decode jb_Integer_bitCount 2 = .ok (.iconst 1, 1) := by decide +kernel
theorem jd_Integer_bitCount_3 : decode jb_Integer_bitCount 3 = .ok (.iushr, 1) := by decide +kernel
theorem jd_Integer_bitCount_4 : decode jb_Integer_bitCount 4 = .ok (.ldc_w 265, 3) := by decide +kernel
theorem jd_Integer_bitCount_7 : decode jb_Integer_bitCount 7 = .ok (.iand, 1) := by decide +kernel
theorem jd_Integer_bitCount_8 : decode jb_Integer_bitCount 8 = .ok (.isub, 1) := by decide +kernel
theorem jd_Integer_bitCount_9 : decode jb_Integer_bitCount 9 = .ok (.istore_n 0, 1) := by decide +kernel
theorem jd_Integer_bitCount_10 : decode jb_Integer_bitCount 10 = .ok (.iload_n 0, 1) := by decide +kernel
theorem jd_Integer_bitCount_11 : decode jb_Integer_bitCount 11 = .ok (.ldc_w 266, 3) := by decide +kernel
theorem jd_Integer_bitCount_14 : decode jb_Integer_bitCount 14 = .ok (.iand, 1) := by decide +kernel
theorem jd_Integer_bitCount_15 : decode jb_Integer_bitCount 15 = .ok (.iload_n 0, 1) := by decide +kernel
theorem jd_Integer_bitCount_16 : decode jb_Integer_bitCount 16 = .ok (.iconst 2, 1) := by decide +kernel
theorem jd_Integer_bitCount_17 : decode jb_Integer_bitCount 17 = .ok (.iushr, 1) := by decide +kernel
theorem jd_Integer_bitCount_18 : decode jb_Integer_bitCount 18 = .ok (.ldc_w 266, 3) := by decide +kernel
theorem jd_Integer_bitCount_21 : decode jb_Integer_bitCount 21 = .ok (.iand, 1) := by decide +kernel
theorem jd_Integer_bitCount_22 : decode jb_Integer_bitCount 22 = .ok (.iadd, 1) := by decide +kernel
theorem jd_Integer_bitCount_23 : decode jb_Integer_bitCount 23 = .ok (.istore_n 0, 1) := by decide +kernel
theorem jd_Integer_bitCount_24 : decode jb_Integer_bitCount 24 = .ok (.iload_n 0, 1) := by decide +kernel
theorem jd_Integer_bitCount_25 : decode jb_Integer_bitCount 25 = .ok (.iload_n 0, 1) := by decide +kernel
theorem jd_Integer_bitCount_26 : decode jb_Integer_bitCount 26 = .ok (.iconst 4, 1) := by decide +kernel
theorem jd_Integer_bitCount_27 : decode jb_Integer_bitCount 27 = .ok (.iushr, 1) := by decide +kernel
theorem jd_Integer_bitCount_28 : decode jb_Integer_bitCount 28 = .ok (.iadd, 1) := by decide +kernel
theorem jd_Integer_bitCount_29 : decode jb_Integer_bitCount 29 = .ok (.ldc_w 267, 3) := by decide +kernel
theorem jd_Integer_bitCount_32 : decode jb_Integer_bitCount 32 = .ok (.iand, 1) := by decide +kernel
theorem jd_Integer_bitCount_33 : decode jb_Integer_bitCount 33 = .ok (.istore_n 0, 1) := by decide +kernel
theorem jd_Integer_bitCount_34 : decode jb_Integer_bitCount 34 = .ok (.iload_n 0, 1) := by decide +kernel
theorem jd_Integer_bitCount_35 : decode jb_Integer_bitCount 35 = .ok (.iload_n 0, 1) := by decide +kernel
theorem jd_Integer_bitCount_36 : decode jb_Integer_bitCount 36 = .ok (.bipush 8, 2) := by decide +kernel
theorem jd_Integer_bitCount_38 : decode jb_Integer_bitCount 38 = .ok (.iushr, 1) := by decide +kernel
theorem jd_Integer_bitCount_39 : decode jb_Integer_bitCount 39 = .ok (.iadd, 1) := by decide +kernel
theorem jd_Integer_bitCount_40 : decode jb_Integer_bitCount 40 = .ok (.istore_n 0, 1) := by decide +kernel
theorem jd_Integer_bitCount_41 : decode jb_Integer_bitCount 41 = .ok (.iload_n 0, 1) := by decide +kernel
theorem jd_Integer_bitCount_42 : decode jb_Integer_bitCount 42 = .ok (.iload_n 0, 1) := by decide +kernel
theorem jd_Integer_bitCount_43 : decode jb_Integer_bitCount 43 = .ok (.bipush 16, 2) := by decide +kernel
theorem jd_Integer_bitCount_45 : decode jb_Integer_bitCount 45 = .ok (.iushr, 1) := by decide +kernel
theorem jd_Integer_bitCount_46 : decode jb_Integer_bitCount 46 = .ok (.iadd, 1) := by decide +kernel
theorem jd_Integer_bitCount_47 : decode jb_Integer_bitCount 47 = .ok (.istore_n 0, 1) := by decide +kernel
theorem jd_Integer_bitCount_48 : decode jb_Integer_bitCount 48 = .ok (.iload_n 0, 1) := by decide +kernel
theorem jd_Integer_bitCount_49 : decode jb_Integer_bitCount 49 = .ok (.bipush 63, 2) := by decide +kernel
theorem jd_Integer_bitCount_51 : decode jb_Integer_bitCount 51 = .ok (.iand, 1) := by decide +kernel
theorem jd_Integer_bitCount_52 : decode jb_Integer_bitCount 52 = .ok (.ireturn, 1) := by decide +kernel
theorem jd_Arrays_fill_0 : decode jb_Arrays_fill 0 = .ok (.iconst 0, 1) := by decide +kernel
theorem jd_Arrays_fill_1 : decode jb_Arrays_fill 1 = .ok (.istore_n 2, 1) := by decide +kernel
theorem jd_Arrays_fill_2 : decode jb_Arrays_fill 2 = .ok (.aload_n 0, 1) := by decide +kernel
theorem jd_Arrays_fill_3 : decode jb_Arrays_fill 3 = .ok (.arraylength, 1) := by decide +kernel
theorem jd_Arrays_fill_4 : decode jb_Arrays_fill 4 = .ok (.istore_n 3, 1) := by decide +kernel
theorem jd_Arrays_fill_5 : decode jb_Arrays_fill 5 = .ok (.iload_n 2, 1) := by decide +kernel
theorem jd_Arrays_fill_6 : decode jb_Arrays_fill 6 = .ok (.iload_n 3, 1) := by decide +kernel
theorem jd_Arrays_fill_7 : decode jb_Arrays_fill 7 = .ok (.if_icmp .ge 13, 3) := by decide +kernel
theorem jd_Arrays_fill_10 : decode jb_Arrays_fill 10 = .ok (.aload_n 0, 1) := by decide +kernel
theorem jd_Arrays_fill_11 : decode jb_Arrays_fill 11 = .ok (.iload_n 2, 1) := by decide +kernel
theorem jd_Arrays_fill_12 : decode jb_Arrays_fill 12 = .ok (.iload_n 1, 1) := by decide +kernel
theorem jd_Arrays_fill_13 : decode jb_Arrays_fill 13 = .ok (.iastore, 1) := by decide +kernel
theorem jd_Arrays_fill_14 : decode jb_Arrays_fill 14 = .ok (.iinc 2 1, 3) := by decide +kernel
theorem jd_Arrays_fill_17 : decode jb_Arrays_fill 17 = .ok (.goto (-12), 3) := by decide +kernel
theorem jd_Arrays_fill_20 : decode jb_Arrays_fill 20 = .ok (.return_, 1) := by decide +kernel
theorem jd_T_isFull_0 : decode jb_T_isFull 0 = .ok (.aload_n 0, 1) := by decide +kernel
theorem jd_T_isFull_1 : decode jb_T_isFull 1 = .ok (.getfield 30, 3) := by decide +kernel
theorem jd_T_isFull_4 : decode jb_T_isFull 4 = .ok (.sipush 200, 3) := by decide +kernel
theorem jd_T_isFull_7 : decode jb_T_isFull 7 = .ok (.if_icmp .lt 7, 3) := by decide +kernel
theorem jd_T_isFull_10 : decode jb_T_isFull 10 = .ok (.iconst 1, 1) := by decide +kernel
theorem jd_T_isFull_11 : decode jb_T_isFull 11 = .ok (.goto 4, 3) := by decide +kernel
theorem jd_T_isFull_14 : decode jb_T_isFull 14 = .ok (.iconst 0, 1) := by decide +kernel
theorem jd_T_isFull_15 : decode jb_T_isFull 15 = .ok (.ireturn, 1) := by decide +kernel
theorem jd_T_add_0 : decode jb_T_add 0 = .ok (.aload_n 0, 1) := by decide +kernel
theorem jd_T_add_1 : decode jb_T_add 1 = .ok (.invokevirtual 33, 3) := by decide +kernel
theorem jd_T_add_4 : decode jb_T_add 4 = .ok (.ifCond .ne 25, 3) := by decide +kernel
theorem jd_T_add_7 : decode jb_T_add 7 = .ok (.aload_n 0, 1) := by decide +kernel
theorem jd_T_add_8 : decode jb_T_add 8 = .ok (.getfield 11, 3) := by decide +kernel
theorem jd_T_add_11 : decode jb_T_add 11 = .ok (.aload_n 0, 1) := by decide +kernel
theorem jd_T_add_12 : decode jb_T_add 12 = .ok (.getfield 30, 3) := by decide +kernel
theorem jd_T_add_15 : decode jb_T_add 15 = .ok (.iload_n 1, 1) := by decide +kernel
theorem jd_T_add_16 : decode jb_T_add 16 = .ok (.invokestatic 37, 3) := by decide +kernel
theorem jd_T_add_19 : decode jb_T_add 19 = .ok (.aload_n 0, 1) := by decide +kernel
theorem jd_T_add_20 : decode jb_T_add 20 = .ok (.dup, 1) := by decide +kernel
theorem jd_T_add_21 : decode jb_T_add 21 = .ok (.getfield 30, 3) := by decide +kernel
theorem jd_T_add_24 : decode jb_T_add 24 = .ok (.iconst 1, 1) := by decide +kernel
theorem jd_T_add_25 : decode jb_T_add 25 = .ok (.iadd, 1) := by decide +kernel
theorem jd_T_add_26 : decode jb_T_add 26 = .ok (.putfield 30, 3) := by decide +kernel
theorem jd_T_add_29 : decode jb_T_add 29 = .ok (.return_, 1) := by decide +kernel
theorem jd_T_letterAt_0 : decode jb_T_letterAt 0 = .ok (.iload_n 1, 1) := by decide +kernel
theorem jd_T_letterAt_1 : decode jb_T_letterAt 1 = .ok (.ifCond .lt 29, 3) := by decide +kernel
theorem jd_T_letterAt_4 : decode jb_T_letterAt 4 = .ok (.iload_n 1, 1) := by decide +kernel
theorem jd_T_letterAt_5 : decode jb_T_letterAt 5 = .ok (.aload_n 0, 1) := by decide +kernel
theorem jd_T_letterAt_6 : decode jb_T_letterAt 6 = .ok (.getfield 30, 3) := by decide +kernel
theorem jd_T_letterAt_9 : decode jb_T_letterAt 9 = .ok (.if_icmp .ge 21, 3) := by decide +kernel
theorem jd_T_letterAt_12 : decode jb_T_letterAt 12 = .ok (.iload_n 1, 1) := by decide +kernel
theorem jd_T_letterAt_13 : decode jb_T_letterAt 13 = .ok (.aload_n 0, 1) := by decide +kernel
theorem jd_T_letterAt_14 : decode jb_T_letterAt 14 = .ok (.getfield 11, 3) := by decide +kernel
theorem jd_T_letterAt_17 : decode jb_T_letterAt 17 = .ok (.arraylength, 1) := by decide +kernel
theorem jd_T_letterAt_18 : decode jb_T_letterAt 18 = .ok (.if_icmp .ge 12, 3) := by decide +kernel
theorem jd_T_letterAt_21 : decode jb_T_letterAt 21 = .ok (.aload_n 0, 1) := by decide +kernel
theorem jd_T_letterAt_22 : decode jb_T_letterAt 22 = .ok (.getfield 11, 3) := by decide +kernel
theorem jd_T_letterAt_25 : decode jb_T_letterAt 25 = .ok (.iload_n 1, 1) := by decide +kernel
theorem jd_T_letterAt_26 : decode jb_T_letterAt 26 = .ok (.iaload, 1) := by decide +kernel
theorem jd_T_letterAt_27 : decode jb_T_letterAt 27 = .ok (.goto 4, 3) := by decide +kernel
theorem jd_T_letterAt_30 : decode jb_T_letterAt 30 = .ok (.iconst 0, 1) := by decide +kernel
theorem jd_T_letterAt_31 : decode jb_T_letterAt 31 = .ok (.ireturn, 1) := by decide +kernel
theorem jd_T_endFrom_0 : decode jb_T_endFrom 0 = .ok (.iload_n 1, 1) := by decide +kernel
theorem jd_T_endFrom_1 : decode jb_T_endFrom 1 = .ok (.istore_n 2, 1) := by decide +kernel
theorem jd_T_endFrom_2 : decode jb_T_endFrom 2 = .ok (.iload_n 2, 1) := by decide +kernel
theorem jd_T_endFrom_3 : decode jb_T_endFrom 3 = .ok (.aload_n 0, 1) := by decide +kernel
theorem jd_T_endFrom_4 : decode jb_T_endFrom 4 = .ok (.getfield 30, 3) := by decide +kernel
theorem jd_T_endFrom_7 : decode jb_T_endFrom 7 = .ok (.if_icmp .ge 21, 3) := by decide +kernel
theorem jd_T_endFrom_10 : decode jb_T_endFrom 10 = .ok (.aload_n 0, 1) := by decide +kernel
theorem jd_T_endFrom_11 : decode jb_T_endFrom 11 = .ok (.iload_n 2, 1) := by decide +kernel
theorem jd_T_endFrom_12 : decode jb_T_endFrom 12 = .ok (.invokevirtual 43, 3) := by decide +kernel
theorem jd_T_endFrom_15 : decode jb_T_endFrom 15 = .ok (.bipush 59, 2) := by decide +kernel
theorem jd_T_endFrom_17 : decode jb_T_endFrom 17 = .ok (.if_icmp .ne 5, 3) := by decide +kernel
theorem jd_T_endFrom_20 : decode jb_T_endFrom 20 = .ok (.iload_n 2, 1) := by decide +kernel
theorem jd_T_endFrom_21 : decode jb_T_endFrom 21 = .ok (.ireturn, 1) := by decide +kernel
theorem jd_T_endFrom_22 : decode jb_T_endFrom 22 = .ok (.iinc 2 1, 3) := by decide +kernel
theorem jd_T_endFrom_25 : decode jb_T_endFrom 25 = .ok (.goto (-23), 3) := by decide +kernel
theorem jd_T_endFrom_28 : decode jb_T_endFrom 28 = .ok (.bipush (-4), 2) := by decide +kernel
theorem jd_T_endFrom_30 : decode jb_T_endFrom 30 = .ok (.ireturn, 1) := by decide +kernel
theorem jd_H_isWithin_0 : decode jb_H_isWithin 0 = .ok (.iload_n 0, 1) := by decide +kernel
theorem jd_H_isWithin_1 : decode jb_H_isWithin 1 = .ok (.iload_n 1, 1) := by decide +kernel
theorem jd_H_isWithin_2 : decode jb_H_isWithin 2 = .ok (.if_icmp .lt 12, 3) := by decide +kernel
theorem jd_H_isWithin_5 : decode jb_H_isWithin 5 = .ok (.iload_n 0, 1) := by decide +kernel
theorem jd_H_isWithin_6 : decode jb_H_isWithin 6 = .ok (.iload_n 2, 1) := by decide +kernel
theorem jd_H_isWithin_7 : decode jb_H_isWithin 7 = .ok (.if_icmp .gt 7, 3) := by decide +kernel
theorem jd_H_isWithin_10 : decode jb_H_isWithin 10 = .ok (.iconst 1, 1) := by decide +kernel
theorem jd_H_isWithin_11 : decode jb_H_isWithin 11 = .ok (.goto 4, 3) := by decide +kernel
theorem jd_H_isWithin_14 : decode jb_H_isWithin 14 = .ok (.iconst 0, 1) := by decide +kernel
theorem jd_H_isWithin_15 : decode jb_H_isWithin 15 = .ok (.ireturn, 1) := by decide +kernel
theorem jd_T_figureAt_0 : decode jb_T_figureAt 0 = .ok (.aload_n 0, 1) := by decide +kernel
theorem jd_T_figureAt_1 : decode jb_T_figureAt 1 = .ok (.iload_n 1, 1) := by decide +kernel
theorem jd_T_figureAt_2 : decode jb_T_figureAt 2 = .ok (.invokevirtual 43, 3) := by decide +kernel
theorem jd_T_figureAt_5 : decode jb_T_figureAt 5 = .ok (.bipush 48, 2) := by decide +kernel
theorem jd_T_figureAt_7 : decode jb_T_figureAt 7 = .ok (.isub, 1) := by decide +kernel
theorem jd_T_figureAt_8 : decode jb_T_figureAt 8 = .ok (.istore_n 2, 1) := by decide +kernel
theorem jd_T_figureAt_9 : decode jb_T_figureAt 9 = .ok (.iload_n 2, 1) := by decide +kernel
theorem jd_T_figureAt_10 : decode jb_T_figureAt 10 = .ok (.iconst 0, 1) := by decide +kernel
theorem jd_T_figureAt_11 : decode jb_T_figureAt 11 = .ok (.bipush 9, 2) := by decide +kernel
theorem jd_T_figureAt_13 : decode jb_T_figureAt 13 = .ok (.invokestatic 47, 3) := by decide +kernel
theorem jd_T_figureAt_16 : decode jb_T_figureAt 16 = .ok (.ifCond .eq 7, 3) := by decide +kernel
theorem jd_T_figureAt_19 : decode jb_T_figureAt 19 = .ok (.iload_n 2, 1) := by decide +kernel
theorem jd_T_figureAt_20 : decode jb_T_figureAt 20 = .ok (.goto 5, 3) := by decide +kernel
theorem jd_T_figureAt_23 : decode jb_T_figureAt 23 = .ok (.bipush (-4), 2) := by decide +kernel
theorem jd_T_figureAt_25 : decode jb_T_figureAt 25 = .ok (.ireturn, 1) := by decide +kernel
theorem jd_L_readRow_0 : decode jb_L_readRow 0 = .ok (.iload_n 2, 1) := by decide +kernel
theorem jd_L_readRow_1 : decode jb_L_readRow 1 = .ok (.iload_n 1, 1) := by decide +kernel
theorem jd_L_readRow_2 : decode jb_L_readRow 2 = .ok (.isub, 1) := by decide +kernel
theorem jd_L_readRow_3 : decode jb_L_readRow 3 = .ok (.istore 6, 2) := by decide +kernel
theorem jd_L_readRow_5 : decode jb_L_readRow 5 = .ok (.iload 6, 2) := by decide +kernel
theorem jd_L_readRow_7 : decode jb_L_readRow 7 = .ok (.iconst 1, 1) := by decide +kernel
theorem jd_L_readRow_8 : decode jb_L_readRow 8 = .ok (.bipush 9, 2) := by decide +kernel
theorem jd_L_readRow_10 : decode jb_L_readRow 10 = .ok (.invokestatic 90, 3) := by decide +kernel
theorem jd_L_readRow_13 : decode jb_L_readRow 13 = .ok (.ifCond .ne 5, 3) := by decide +kernel
theorem jd_L_readRow_16 : decode jb_L_readRow 16 = .ok (.iconst 0, 1) := by decide +kernel
theorem jd_L_readRow_17 : decode jb_L_readRow 17 = .ok (.ireturn, 1) := by decide +kernel
theorem jd_L_readRow_18 : decode jb_L_readRow 18 = .ok (.iconst 0, 1) := by decide +kernel
theorem jd_L_readRow_19 : decode jb_L_readRow 19 = .ok (.istore 7, 2) := by decide +kernel
theorem jd_L_readRow_21 : decode jb_L_readRow 21 = .ok (.iload 7, 2) := by decide +kernel
theorem jd_L_readRow_23 : decode jb_L_readRow 23 = .ok (.iload 6, 2) := by decide +kernel
theorem jd_L_readRow_25 : decode jb_L_readRow 25 = .ok (.if_icmp .ge 43, 3) := by decide +kernel
theorem jd_L_readRow_28 : decode jb_L_readRow 28 = .ok (.aload_n 0, 1) := by decide +kernel
theorem jd_L_readRow_29 : decode jb_L_readRow 29 = .ok (.iload_n 1, 1) := by decide +kernel
theorem jd_L_readRow_30 : decode jb_L_readRow 30 = .ok (.iload 7, 2) := by decide +kernel
theorem jd_L_readRow_32 : decode jb_L_readRow 32 = .ok (.iadd, 1) := by decide +kernel
theorem jd_L_readRow_33 : decode jb_L_readRow 33 = .ok (.invokevirtual 94, 3) := by decide +kernel
theorem jd_L_readRow_36 : decode jb_L_readRow 36 = .ok (.istore 8, 2) := by decide +kernel
theorem jd_L_readRow_38 : decode jb_L_readRow 38 = .ok (.iload 8, 2) := by decide +kernel
theorem jd_L_readRow_40 : decode jb_L_readRow 40 = .ok (.iconst 0, 1) := by decide +kernel
theorem jd_L_readRow_41 : decode jb_L_readRow 41 = .ok (.iload_n 3, 1) := by decide +kernel
theorem jd_L_readRow_42 : decode jb_L_readRow 42 = .ok (.invokestatic 90, 3) := by decide +kernel
theorem jd_L_readRow_45 : decode jb_L_readRow 45 = .ok (.ifCond .ne 5, 3) := by decide +kernel
theorem jd_L_readRow_48 : decode jb_L_readRow 48 = .ok (.iconst 0, 1) := by decide +kernel
theorem jd_L_readRow_49 : decode jb_L_readRow 49 = .ok (.ireturn, 1) := by decide +kernel
theorem jd_L_readRow_50 : decode jb_L_readRow 50 = .ok (.aload 4, 2) := by decide +kernel
theorem jd_L_readRow_52 : decode jb_L_readRow 52 = .ok (.iload 5, 2) := by decide +kernel
theorem jd_L_readRow_54 : decode jb_L_readRow 54 = .ok (.iload 7, 2) := by decide +kernel
theorem jd_L_readRow_56 : decode jb_L_readRow 56 = .ok (.iadd, 1) := by decide +kernel
theorem jd_L_readRow_57 : decode jb_L_readRow 57 = .ok (.iload 8, 2) := by decide +kernel
theorem jd_L_readRow_59 : decode jb_L_readRow 59 = .ok (.invokestatic 82, 3) := by decide +kernel
theorem jd_L_readRow_62 : decode jb_L_readRow 62 = .ok (.iinc 7 1, 3) := by decide +kernel
theorem jd_L_readRow_65 : decode jb_L_readRow 65 = .ok (.goto (-44), 3) := by decide +kernel
theorem jd_L_readRow_68 : decode jb_L_readRow 68 = .ok (.iconst 1, 1) := by decide +kernel
theorem jd_L_readRow_69 : decode jb_L_readRow 69 = .ok (.ireturn, 1) := by decide +kernel
theorem jd_L_readMower_0 : decode jb_L_readMower 0 = .ok (.aload_n 0, 1) := by decide +kernel
theorem jd_L_readMower_1 : decode jb_L_readMower 1 = .ok (.getfield 27, 3) := by decide +kernel
theorem jd_L_readMower_4 : decode jb_L_readMower 4 = .ok (.iconst 5, 1) := by decide +kernel
theorem jd_L_readMower_5 : decode jb_L_readMower 5 = .ok (.if_icmp .ge 25, 3) := by decide +kernel
theorem jd_L_readMower_8 : decode jb_L_readMower 8 = .ok (.aload_n 1, 1) := by decide +kernel
theorem jd_L_readMower_9 : decode jb_L_readMower 9 = .ok (.iload_n 2, 1) := by decide +kernel
theorem jd_L_readMower_10 : decode jb_L_readMower 10 = .ok (.iload_n 3, 1) := by decide +kernel
theorem jd_L_readMower_11 : decode jb_L_readMower 11 = .ok (.bipush 9, 2) := by decide +kernel
theorem jd_L_readMower_13 : decode jb_L_readMower 13 = .ok (.aload_n 0, 1) := by decide +kernel
theorem jd_L_readMower_14 : decode jb_L_readMower 14 = .ok (.getfield 11, 3) := by decide +kernel
theorem jd_L_readMower_17 : decode jb_L_readMower 17 = .ok (.aload_n 0, 1) := by decide +kernel
theorem jd_L_readMower_18 : decode jb_L_readMower 18 = .ok (.getfield 27, 3) := by decide +kernel
theorem jd_L_readMower_21 : decode jb_L_readMower 21 = .ok (.bipush 9, 2) := by decide +kernel
theorem jd_L_readMower_23 : decode jb_L_readMower 23 = .ok (.imul, 1) := by decide +kernel
theorem jd_L_readMower_24 : decode jb_L_readMower 24 = .ok (.invokestatic 78, 3) := by decide +kernel
theorem jd_L_readMower_27 : decode jb_L_readMower 27 = .ok (.ifCond .ne 5, 3) := by decide +kernel
theorem jd_L_readMower_30 : decode jb_L_readMower 30 = .ok (.iconst 0, 1) := by decide +kernel
theorem jd_L_readMower_31 : decode jb_L_readMower 31 = .ok (.ireturn, 1) := by decide +kernel
theorem jd_L_readMower_32 : decode jb_L_readMower 32 = .ok (.aload_n 0, 1) := by decide +kernel
theorem jd_L_readMower_33 : decode jb_L_readMower 33 = .ok (.getfield 15, 3) := by decide +kernel
theorem jd_L_readMower_36 : decode jb_L_readMower 36 = .ok (.aload_n 0, 1) := by decide +kernel
theorem jd_L_readMower_37 : decode jb_L_readMower 37 = .ok (.getfield 27, 3) := by decide +kernel
theorem jd_L_readMower_40 : decode jb_L_readMower 40 = .ok (.iload_n 3, 1) := by decide +kernel
theorem jd_L_readMower_41 : decode jb_L_readMower 41 = .ok (.iload_n 2, 1) := by decide +kernel
theorem jd_L_readMower_42 : decode jb_L_readMower 42 = .ok (.isub, 1) := by decide +kernel
theorem jd_L_readMower_43 : decode jb_L_readMower 43 = .ok (.invokestatic 82, 3) := by decide +kernel
theorem jd_L_readMower_46 : decode jb_L_readMower 46 = .ok (.aload_n 0, 1) := by decide +kernel
theorem jd_L_readMower_47 : decode jb_L_readMower 47 = .ok (.dup, 1) := by decide +kernel
theorem jd_L_readMower_48 : decode jb_L_readMower 48 = .ok (.getfield 27, 3) := by decide +kernel
theorem jd_L_readMower_51 : decode jb_L_readMower 51 = .ok (.iconst 1, 1) := by decide +kernel
theorem jd_L_readMower_52 : decode jb_L_readMower 52 = .ok (.iadd, 1) := by decide +kernel
theorem jd_L_readMower_53 : decode jb_L_readMower 53 = .ok (.putfield 27, 3) := by decide +kernel
theorem jd_L_readMower_56 : decode jb_L_readMower 56 = .ok (.iconst 1, 1) := by decide +kernel
theorem jd_L_readMower_57 : decode jb_L_readMower 57 = .ok (.ireturn, 1) := by decide +kernel
theorem jd_L_readWeather_0 : decode jb_L_readWeather 0 = .ok (.aload_n 1, 1) := by decide +kernel
theorem jd_L_readWeather_1 : decode jb_L_readWeather 1 = .ok (.iload_n 2, 1) := by decide +kernel
theorem jd_L_readWeather_2 : decode jb_L_readWeather 2 = .ok (.iload_n 3, 1) := by decide +kernel
theorem jd_L_readWeather_3 : decode jb_L_readWeather 3 = .ok (.iconst 3, 1) := by decide +kernel
theorem jd_L_readWeather_4 : decode jb_L_readWeather 4 = .ok (.aload_n 0, 1) := by decide +kernel
theorem jd_L_readWeather_5 : decode jb_L_readWeather 5 = .ok (.getfield 18, 3) := by decide +kernel
theorem jd_L_readWeather_8 : decode jb_L_readWeather 8 = .ok (.iconst 0, 1) := by decide +kernel
theorem jd_L_readWeather_9 : decode jb_L_readWeather 9 = .ok (.invokestatic 78, 3) := by decide +kernel
theorem jd_L_readWeather_12 : decode jb_L_readWeather 12 = .ok (.ifCond .ne 5, 3) := by decide +kernel
theorem jd_L_readWeather_15 : decode jb_L_readWeather 15 = .ok (.iconst 0, 1) := by decide +kernel
theorem jd_L_readWeather_16 : decode jb_L_readWeather 16 = .ok (.ireturn, 1) := by decide +kernel
theorem jd_L_readWeather_17 : decode jb_L_readWeather 17 = .ok (.aload_n 0, 1) := by decide +kernel
theorem jd_L_readWeather_18 : decode jb_L_readWeather 18 = .ok (.iload_n 3, 1) := by decide +kernel
theorem jd_L_readWeather_19 : decode jb_L_readWeather 19 = .ok (.iload_n 2, 1) := by decide +kernel
theorem jd_L_readWeather_20 : decode jb_L_readWeather 20 = .ok (.isub, 1) := by decide +kernel
theorem jd_L_readWeather_21 : decode jb_L_readWeather 21 = .ok (.putfield 47, 3) := by decide +kernel
theorem jd_L_readWeather_24 : decode jb_L_readWeather 24 = .ok (.iconst 1, 1) := by decide +kernel
theorem jd_L_readWeather_25 : decode jb_L_readWeather 25 = .ok (.ireturn, 1) := by decide +kernel
theorem jd_L_numberIn_0 : decode jb_L_numberIn 0 = .ok (.iload_n 2, 1) := by decide +kernel
theorem jd_L_numberIn_1 : decode jb_L_numberIn 1 = .ok (.iload_n 1, 1) := by decide +kernel
theorem jd_L_numberIn_2 : decode jb_L_numberIn 2 = .ok (.isub, 1) := by decide +kernel
theorem jd_L_numberIn_3 : decode jb_L_numberIn 3 = .ok (.istore_n 3, 1) := by decide +kernel
theorem jd_L_numberIn_4 : decode jb_L_numberIn 4 = .ok (.iload_n 3, 1) := by decide +kernel
theorem jd_L_numberIn_5 : decode jb_L_numberIn 5 = .ok (.iconst 1, 1) := by decide +kernel
theorem jd_L_numberIn_6 : decode jb_L_numberIn 6 = .ok (.iconst 2, 1) := by decide +kernel
theorem jd_L_numberIn_7 : decode jb_L_numberIn 7 = .ok (.invokestatic 90, 3) := by decide +kernel
theorem jd_L_numberIn_10 : decode jb_L_numberIn 10 = .ok (.ifCond .ne 6, 3) := by decide +kernel
theorem jd_L_numberIn_13 : decode jb_L_numberIn 13 = .ok (.bipush (-4), 2) := by decide +kernel
theorem jd_L_numberIn_15 : decode jb_L_numberIn 15 = .ok (.ireturn, 1) := by decide +kernel
theorem jd_L_numberIn_16 : decode jb_L_numberIn 16 = .ok (.iconst 0, 1) := by decide +kernel
theorem jd_L_numberIn_17 : decode jb_L_numberIn 17 = .ok (.istore 4, 2) := by decide +kernel
theorem jd_L_numberIn_19 : decode jb_L_numberIn 19 = .ok (.iconst 0, 1) := by decide +kernel
theorem jd_L_numberIn_20 : decode jb_L_numberIn 20 = .ok (.istore 5, 2) := by decide +kernel
theorem jd_L_numberIn_22 : decode jb_L_numberIn 22 = .ok (.iload 5, 2) := by decide +kernel
theorem jd_L_numberIn_24 : decode jb_L_numberIn 24 = .ok (.iload_n 3, 1) := by decide +kernel
theorem jd_L_numberIn_25 : decode jb_L_numberIn 25 = .ok (.if_icmp .ge 39, 3) := by decide +kernel
theorem jd_L_numberIn_28 : decode jb_L_numberIn 28 = .ok (.aload_n 0, 1) := by decide +kernel
theorem jd_L_numberIn_29 : decode jb_L_numberIn 29 = .ok (.iload_n 1, 1) := by decide +kernel
theorem jd_L_numberIn_30 : decode jb_L_numberIn 30 = .ok (.iload 5, 2) := by decide +kernel
theorem jd_L_numberIn_32 : decode jb_L_numberIn 32 = .ok (.iadd, 1) := by decide +kernel
theorem jd_L_numberIn_33 : decode jb_L_numberIn 33 = .ok (.invokevirtual 94, 3) := by decide +kernel
theorem jd_L_numberIn_36 : decode jb_L_numberIn 36 = .ok (.istore 6, 2) := by decide +kernel
theorem jd_L_numberIn_38 : decode jb_L_numberIn 38 = .ok (.iload 6, 2) := by decide +kernel
theorem jd_L_numberIn_40 : decode jb_L_numberIn 40 = .ok (.bipush (-4), 2) := by decide +kernel
theorem jd_L_numberIn_42 : decode jb_L_numberIn 42 = .ok (.if_icmp .ne 6, 3) := by decide +kernel
theorem jd_L_numberIn_45 : decode jb_L_numberIn 45 = .ok (.bipush (-4), 2) := by decide +kernel
theorem jd_L_numberIn_47 : decode jb_L_numberIn 47 = .ok (.ireturn, 1) := by decide +kernel
theorem jd_L_numberIn_48 : decode jb_L_numberIn 48 = .ok (.bipush 10, 2) := by decide +kernel
theorem jd_L_numberIn_50 : decode jb_L_numberIn 50 = .ok (.iload 4, 2) := by decide +kernel
theorem jd_L_numberIn_52 : decode jb_L_numberIn 52 = .ok (.imul, 1) := by decide +kernel
theorem jd_L_numberIn_53 : decode jb_L_numberIn 53 = .ok (.iload 6, 2) := by decide +kernel
theorem jd_L_numberIn_55 : decode jb_L_numberIn 55 = .ok (.iadd, 1) := by decide +kernel
theorem jd_L_numberIn_56 : decode jb_L_numberIn 56 = .ok (.istore 4, 2) := by decide +kernel
theorem jd_L_numberIn_58 : decode jb_L_numberIn 58 = .ok (.iinc 5 1, 3) := by decide +kernel
theorem jd_L_numberIn_61 : decode jb_L_numberIn 61 = .ok (.goto (-39), 3) := by decide +kernel
theorem jd_L_numberIn_64 : decode jb_L_numberIn 64 = .ok (.iload 4, 2) := by decide +kernel
theorem jd_L_numberIn_66 : decode jb_L_numberIn 66 = .ok (.ireturn, 1) := by decide +kernel
theorem jd_L_readCow_0 : decode jb_L_readCow 0 = .ok (.aload_n 1, 1) := by decide +kernel
theorem jd_L_readCow_1 : decode jb_L_readCow 1 = .ok (.iload_n 2, 1) := by decide +kernel
theorem jd_L_readCow_2 : decode jb_L_readCow 2 = .ok (.iload_n 3, 1) := by decide +kernel
theorem jd_L_readCow_3 : decode jb_L_readCow 3 = .ok (.invokestatic 86, 3) := by decide +kernel
theorem jd_L_readCow_6 : decode jb_L_readCow 6 = .ok (.istore 4, 2) := by decide +kernel
theorem jd_L_readCow_8 : decode jb_L_readCow 8 = .ok (.aload_n 0, 1) := by decide +kernel
theorem jd_L_readCow_9 : decode jb_L_readCow 9 = .ok (.getfield 31, 3) := by decide +kernel
theorem jd_L_readCow_12 : decode jb_L_readCow 12 = .ok (.iconst 4, 1) := by decide +kernel
theorem jd_L_readCow_13 : decode jb_L_readCow 13 = .ok (.if_icmp .ge 13, 3) := by decide +kernel
theorem jd_L_readCow_16 : decode jb_L_readCow 16 = .ok (.iload 4, 2) := by decide +kernel
theorem jd_L_readCow_18 : decode jb_L_readCow 18 = .ok (.iconst 0, 1) := by decide +kernel
theorem jd_L_readCow_19 : decode jb_L_readCow 19 = .ok (.iconst 3, 1) := by decide +kernel
theorem jd_L_readCow_20 : decode jb_L_readCow 20 = .ok (.invokestatic 90, 3) := by decide +kernel
theorem jd_L_readCow_23 : decode jb_L_readCow 23 = .ok (.ifCond .ne 5, 3) := by decide +kernel
theorem jd_L_readCow_26 : decode jb_L_readCow 26 = .ok (.iconst 0, 1) := by decide +kernel
theorem jd_L_readCow_27 : decode jb_L_readCow 27 = .ok (.ireturn, 1) := by decide +kernel
theorem jd_L_readCow_28 : decode jb_L_readCow 28 = .ok (.aload_n 0, 1) := by decide +kernel
theorem jd_L_readCow_29 : decode jb_L_readCow 29 = .ok (.getfield 21, 3) := by decide +kernel
theorem jd_L_readCow_32 : decode jb_L_readCow 32 = .ok (.aload_n 0, 1) := by decide +kernel
theorem jd_L_readCow_33 : decode jb_L_readCow 33 = .ok (.getfield 31, 3) := by decide +kernel
theorem jd_L_readCow_36 : decode jb_L_readCow 36 = .ok (.iload 4, 2) := by decide +kernel
theorem jd_L_readCow_38 : decode jb_L_readCow 38 = .ok (.invokestatic 82, 3) := by decide +kernel
theorem jd_L_readCow_41 : decode jb_L_readCow 41 = .ok (.aload_n 0, 1) := by decide +kernel
theorem jd_L_readCow_42 : decode jb_L_readCow 42 = .ok (.dup, 1) := by decide +kernel
theorem jd_L_readCow_43 : decode jb_L_readCow 43 = .ok (.getfield 31, 3) := by decide +kernel
theorem jd_L_readCow_46 : decode jb_L_readCow 46 = .ok (.iconst 1, 1) := by decide +kernel
theorem jd_L_readCow_47 : decode jb_L_readCow 47 = .ok (.iadd, 1) := by decide +kernel
theorem jd_L_readCow_48 : decode jb_L_readCow 48 = .ok (.putfield 31, 3) := by decide +kernel
theorem jd_L_readCow_51 : decode jb_L_readCow 51 = .ok (.iconst 1, 1) := by decide +kernel
theorem jd_L_readCow_52 : decode jb_L_readCow 52 = .ok (.ireturn, 1) := by decide +kernel
theorem jd_L_readRick_0 : decode jb_L_readRick 0 = .ok (.aload_n 1, 1) := by decide +kernel
theorem jd_L_readRick_1 : decode jb_L_readRick 1 = .ok (.iload_n 2, 1) := by decide +kernel
theorem jd_L_readRick_2 : decode jb_L_readRick 2 = .ok (.iload_n 3, 1) := by decide +kernel
theorem jd_L_readRick_3 : decode jb_L_readRick 3 = .ok (.invokestatic 86, 3) := by decide +kernel
theorem jd_L_readRick_6 : decode jb_L_readRick 6 = .ok (.istore 4, 2) := by decide +kernel
theorem jd_L_readRick_8 : decode jb_L_readRick 8 = .ok (.aload_n 0, 1) := by decide +kernel
theorem jd_L_readRick_9 : decode jb_L_readRick 9 = .ok (.getfield 34, 3) := by decide +kernel
theorem jd_L_readRick_12 : decode jb_L_readRick 12 = .ok (.iconst 3, 1) := by decide +kernel
theorem jd_L_readRick_13 : decode jb_L_readRick 13 = .ok (.if_icmp .ge 14, 3) := by decide +kernel
theorem jd_L_readRick_16 : decode jb_L_readRick 16 = .ok (.iload 4, 2) := by decide +kernel
theorem jd_L_readRick_18 : decode jb_L_readRick 18 = .ok (.iconst 0, 1) := by decide +kernel
theorem jd_L_readRick_19 : decode jb_L_readRick 19 = .ok (.bipush 9, 2) := by decide +kernel
theorem jd_L_readRick_21 : decode jb_L_readRick 21 = .ok (.invokestatic 90, 3) := by decide +kernel
theorem jd_L_readRick_24 : decode jb_L_readRick 24 = .ok (.ifCond .ne 5, 3) := by decide +kernel
theorem jd_L_readRick_27 : decode jb_L_readRick 27 = .ok (.iconst 0, 1) := by decide +kernel
theorem jd_L_readRick_28 : decode jb_L_readRick 28 = .ok (.ireturn, 1) := by decide +kernel
theorem jd_L_readRick_29 : decode jb_L_readRick 29 = .ok (.aload_n 0, 1) := by decide +kernel
theorem jd_L_readRick_30 : decode jb_L_readRick 30 = .ok (.getfield 24, 3) := by decide +kernel
theorem jd_L_readRick_33 : decode jb_L_readRick 33 = .ok (.aload_n 0, 1) := by decide +kernel
theorem jd_L_readRick_34 : decode jb_L_readRick 34 = .ok (.getfield 34, 3) := by decide +kernel
theorem jd_L_readRick_37 : decode jb_L_readRick 37 = .ok (.iload 4, 2) := by decide +kernel
theorem jd_L_readRick_39 : decode jb_L_readRick 39 = .ok (.invokestatic 82, 3) := by decide +kernel
theorem jd_L_readRick_42 : decode jb_L_readRick 42 = .ok (.aload_n 0, 1) := by decide +kernel
theorem jd_L_readRick_43 : decode jb_L_readRick 43 = .ok (.dup, 1) := by decide +kernel
theorem jd_L_readRick_44 : decode jb_L_readRick 44 = .ok (.getfield 34, 3) := by decide +kernel
theorem jd_L_readRick_47 : decode jb_L_readRick 47 = .ok (.iconst 1, 1) := by decide +kernel
theorem jd_L_readRick_48 : decode jb_L_readRick 48 = .ok (.iadd, 1) := by decide +kernel
theorem jd_L_readRick_49 : decode jb_L_readRick 49 = .ok (.putfield 34, 3) := by decide +kernel
theorem jd_L_readRick_52 : decode jb_L_readRick 52 = .ok (.iconst 1, 1) := by decide +kernel
theorem jd_L_readRick_53 : decode jb_L_readRick 53 = .ok (.ireturn, 1) := by decide +kernel
theorem jd_L_readItem_0 : decode jb_L_readItem 0 = .ok (.aload_n 1, 1) := by decide +kernel
theorem jd_L_readItem_1 : decode jb_L_readItem 1 = .ok (.iload_n 2, 1) := by decide +kernel
theorem jd_L_readItem_2 : decode jb_L_readItem 2 = .ok (.invokevirtual 63, 3) := by decide +kernel
theorem jd_L_readItem_5 : decode jb_L_readItem 5 = .ok (.lookupswitch 83 #[(99, 63), (101, 53), (107, 73), (109, 43)], 43) := by decide +kernel
theorem jd_L_readItem_48 : decode jb_L_readItem 48 = .ok (.aload_n 0, 1) := by decide +kernel
theorem jd_L_readItem_49 : decode jb_L_readItem 49 = .ok (.aload_n 1, 1) := by decide +kernel
theorem jd_L_readItem_50 : decode jb_L_readItem 50 = .ok (.iload_n 2, 1) := by decide +kernel
theorem jd_L_readItem_51 : decode jb_L_readItem 51 = .ok (.iconst 1, 1) := by decide +kernel
theorem jd_L_readItem_52 : decode jb_L_readItem 52 = .ok (.iadd, 1) := by decide +kernel
theorem jd_L_readItem_53 : decode jb_L_readItem 53 = .ok (.iload_n 3, 1) := by decide +kernel
theorem jd_L_readItem_54 : decode jb_L_readItem 54 = .ok (.invokevirtual 66, 3) := by decide +kernel
theorem jd_L_readItem_57 : decode jb_L_readItem 57 = .ok (.ireturn, 1) := by decide +kernel
theorem jd_L_readItem_58 : decode jb_L_readItem 58 = .ok (.aload_n 0, 1) := by decide +kernel
theorem jd_L_readItem_59 : decode jb_L_readItem 59 = .ok (.aload_n 1, 1) := by decide +kernel
theorem jd_L_readItem_60 : decode jb_L_readItem 60 = .ok (.iload_n 2, 1) := by decide +kernel
theorem jd_L_readItem_61 : decode jb_L_readItem 61 = .ok (.iconst 1, 1) := by decide +kernel
theorem jd_L_readItem_62 : decode jb_L_readItem 62 = .ok (.iadd, 1) := by decide +kernel
theorem jd_L_readItem_63 : decode jb_L_readItem 63 = .ok (.iload_n 3, 1) := by decide +kernel
theorem jd_L_readItem_64 : decode jb_L_readItem 64 = .ok (.invokevirtual 69, 3) := by decide +kernel
theorem jd_L_readItem_67 : decode jb_L_readItem 67 = .ok (.ireturn, 1) := by decide +kernel
theorem jd_L_readItem_68 : decode jb_L_readItem 68 = .ok (.aload_n 0, 1) := by decide +kernel
theorem jd_L_readItem_69 : decode jb_L_readItem 69 = .ok (.aload_n 1, 1) := by decide +kernel
theorem jd_L_readItem_70 : decode jb_L_readItem 70 = .ok (.iload_n 2, 1) := by decide +kernel
theorem jd_L_readItem_71 : decode jb_L_readItem 71 = .ok (.iconst 1, 1) := by decide +kernel
theorem jd_L_readItem_72 : decode jb_L_readItem 72 = .ok (.iadd, 1) := by decide +kernel
theorem jd_L_readItem_73 : decode jb_L_readItem 73 = .ok (.iload_n 3, 1) := by decide +kernel
theorem jd_L_readItem_74 : decode jb_L_readItem 74 = .ok (.invokevirtual 72, 3) := by decide +kernel
theorem jd_L_readItem_77 : decode jb_L_readItem 77 = .ok (.ireturn, 1) := by decide +kernel
theorem jd_L_readItem_78 : decode jb_L_readItem 78 = .ok (.aload_n 0, 1) := by decide +kernel
theorem jd_L_readItem_79 : decode jb_L_readItem 79 = .ok (.aload_n 1, 1) := by decide +kernel
theorem jd_L_readItem_80 : decode jb_L_readItem 80 = .ok (.iload_n 2, 1) := by decide +kernel
theorem jd_L_readItem_81 : decode jb_L_readItem 81 = .ok (.iconst 1, 1) := by decide +kernel
theorem jd_L_readItem_82 : decode jb_L_readItem 82 = .ok (.iadd, 1) := by decide +kernel
theorem jd_L_readItem_83 : decode jb_L_readItem 83 = .ok (.iload_n 3, 1) := by decide +kernel
theorem jd_L_readItem_84 : decode jb_L_readItem 84 = .ok (.invokevirtual 75, 3) := by decide +kernel
theorem jd_L_readItem_87 : decode jb_L_readItem 87 = .ok (.ireturn, 1) := by decide +kernel
theorem jd_L_readItem_88 : decode jb_L_readItem 88 = .ok (.iconst 0, 1) := by decide +kernel
theorem jd_L_readItem_89 : decode jb_L_readItem 89 = .ok (.ireturn, 1) := by decide +kernel
theorem jd_L_readText_0 : decode jb_L_readText 0 = .ok (.aload_n 0, 1) := by decide +kernel
theorem jd_L_readText_1 : decode jb_L_readText 1 = .ok (.iconst 0, 1) := by decide +kernel
theorem jd_L_readText_2 : decode jb_L_readText 2 = .ok (.putfield 27, 3) := by decide +kernel
theorem jd_L_readText_5 : decode jb_L_readText 5 = .ok (.aload_n 0, 1) := by decide +kernel
theorem jd_L_readText_6 : decode jb_L_readText 6 = .ok (.iconst 0, 1) := by decide +kernel
theorem jd_L_readText_7 : decode jb_L_readText 7 = .ok (.putfield 31, 3) := by decide +kernel
theorem jd_L_readText_10 : decode jb_L_readText 10 = .ok (.aload_n 0, 1) := by decide +kernel
theorem jd_L_readText_11 : decode jb_L_readText 11 = .ok (.iconst 0, 1) := by decide +kernel
theorem jd_L_readText_12 : decode jb_L_readText 12 = .ok (.putfield 34, 3) := by decide +kernel
theorem jd_L_readText_15 : decode jb_L_readText 15 = .ok (.aload_n 0, 1) := by decide +kernel
theorem jd_L_readText_16 : decode jb_L_readText 16 = .ok (.iconst 0, 1) := by decide +kernel
theorem jd_L_readText_17 : decode jb_L_readText 17 = .ok (.putfield 47, 3) := by decide +kernel
theorem jd_L_readText_20 : decode jb_L_readText 20 = .ok (.iconst 0, 1) := by decide +kernel
theorem jd_L_readText_21 : decode jb_L_readText 21 = .ok (.istore_n 2, 1) := by decide +kernel
theorem jd_L_readText_22 : decode jb_L_readText 22 = .ok (.iconst 0, 1) := by decide +kernel
theorem jd_L_readText_23 : decode jb_L_readText 23 = .ok (.istore_n 3, 1) := by decide +kernel
theorem jd_L_readText_24 : decode jb_L_readText 24 = .ok (.iload_n 3, 1) := by decide +kernel
theorem jd_L_readText_25 : decode jb_L_readText 25 = .ok (.sipush 200, 3) := by decide +kernel
theorem jd_L_readText_28 : decode jb_L_readText 28 = .ok (.if_icmp .ge 49, 3) := by decide +kernel
theorem jd_L_readText_31 : decode jb_L_readText 31 = .ok (.iload_n 2, 1) := by decide +kernel
theorem jd_L_readText_32 : decode jb_L_readText 32 = .ok (.aload_n 1, 1) := by decide +kernel
theorem jd_L_readText_33 : decode jb_L_readText 33 = .ok (.getfield 52, 3) := by decide +kernel
theorem jd_L_readText_36 : decode jb_L_readText 36 = .ok (.if_icmp .ge 41, 3) := by decide +kernel
theorem jd_L_readText_39 : decode jb_L_readText 39 = .ok (.aload_n 1, 1) := by decide +kernel
theorem jd_L_readText_40 : decode jb_L_readText 40 = .ok (.iload_n 2, 1) := by decide +kernel
theorem jd_L_readText_41 : decode jb_L_readText 41 = .ok (.invokevirtual 55, 3) := by decide +kernel
theorem jd_L_readText_44 : decode jb_L_readText 44 = .ok (.istore 4, 2) := by decide +kernel
theorem jd_L_readText_46 : decode jb_L_readText 46 = .ok (.iload 4, 2) := by decide +kernel
theorem jd_L_readText_48 : decode jb_L_readText 48 = .ok (.bipush (-4), 2) := by decide +kernel
theorem jd_L_readText_50 : decode jb_L_readText 50 = .ok (.if_icmp .eq 14, 3) := by decide +kernel
theorem jd_L_readText_53 : decode jb_L_readText 53 = .ok (.aload_n 0, 1) := by decide +kernel
theorem jd_L_readText_54 : decode jb_L_readText 54 = .ok (.aload_n 1, 1) := by decide +kernel
theorem jd_L_readText_55 : decode jb_L_readText 55 = .ok (.iload_n 2, 1) := by decide +kernel
theorem jd_L_readText_56 : decode jb_L_readText 56 = .ok (.iload 4, 2) := by decide +kernel
theorem jd_L_readText_58 : decode jb_L_readText 58 = .ok (.invokevirtual 59, 3) := by decide +kernel
theorem jd_L_readText_61 : decode jb_L_readText 61 = .ok (.ifCond .ne 5, 3) := by decide +kernel
theorem jd_L_readText_64 : decode jb_L_readText 64 = .ok (.iload_n 2, 1) := by decide +kernel
theorem jd_L_readText_65 : decode jb_L_readText 65 = .ok (.ireturn, 1) := by decide +kernel
theorem jd_L_readText_66 : decode jb_L_readText 66 = .ok (.iload 4, 2) := by decide +kernel
theorem jd_L_readText_68 : decode jb_L_readText 68 = .ok (.iconst 1, 1) := by decide +kernel
theorem jd_L_readText_69 : decode jb_L_readText 69 = .ok (.iadd, 1) := by decide +kernel
theorem jd_L_readText_70 : decode jb_L_readText 70 = .ok (.istore_n 2, 1) := by decide +kernel
theorem jd_L_readText_71 : decode jb_L_readText 71 = .ok (.iinc 3 1, 3) := by decide +kernel
theorem jd_L_readText_74 : decode jb_L_readText 74 = .ok (.goto (-50), 3) := by decide +kernel
theorem jd_L_readText_77 : decode jb_L_readText 77 = .ok (.bipush (-4), 2) := by decide +kernel
theorem jd_L_readText_79 : decode jb_L_readText 79 = .ok (.ireturn, 1) := by decide +kernel
theorem jd_L_isWhole_0 : decode jb_L_isWhole 0 = .ok (.aload_n 0, 1) := by decide +kernel
theorem jd_L_isWhole_1 : decode jb_L_isWhole 1 = .ok (.getfield 27, 3) := by decide +kernel
theorem jd_L_isWhole_4 : decode jb_L_isWhole 4 = .ok (.ifCond .le 21, 3) := by decide +kernel
theorem jd_L_isWhole_7 : decode jb_L_isWhole 7 = .ok (.aload_n 0, 1) := by decide +kernel
theorem jd_L_isWhole_8 : decode jb_L_isWhole 8 = .ok (.getfield 31, 3) := by decide +kernel
theorem jd_L_isWhole_11 : decode jb_L_isWhole 11 = .ok (.ifCond .le 14, 3) := by decide +kernel
theorem jd_L_isWhole_14 : decode jb_L_isWhole 14 = .ok (.aload_n 0, 1) := by decide +kernel
theorem jd_L_isWhole_15 : decode jb_L_isWhole 15 = .ok (.getfield 34, 3) := by decide +kernel
theorem jd_L_isWhole_18 : decode jb_L_isWhole 18 = .ok (.ifCond .le 7, 3) := by decide +kernel
theorem jd_L_isWhole_21 : decode jb_L_isWhole 21 = .ok (.iconst 1, 1) := by decide +kernel
theorem jd_L_isWhole_22 : decode jb_L_isWhole 22 = .ok (.goto 4, 3) := by decide +kernel
theorem jd_L_isWhole_25 : decode jb_L_isWhole 25 = .ok (.iconst 0, 1) := by decide +kernel
theorem jd_L_isWhole_26 : decode jb_L_isWhole 26 = .ok (.ireturn, 1) := by decide +kernel
theorem jd_H_remainder_0 : decode jb_H_remainder 0 = .ok (.iload_n 1, 1) := by decide +kernel
theorem jd_H_remainder_1 : decode jb_H_remainder 1 = .ok (.ifCond .le 9, 3) := by decide +kernel
theorem jd_H_remainder_4 : decode jb_H_remainder 4 = .ok (.iload_n 0, 1) := by decide +kernel
theorem jd_H_remainder_5 : decode jb_H_remainder 5 = .ok (.iload_n 1, 1) := by decide +kernel
theorem jd_H_remainder_6 : decode jb_H_remainder 6 = .ok (.irem, 1) := by decide +kernel
theorem jd_H_remainder_7 : decode jb_H_remainder 7 = .ok (.goto 4, 3) := by decide +kernel
theorem jd_H_remainder_10 : decode jb_H_remainder 10 = .ok (.iconst 0, 1) := by decide +kernel
theorem jd_H_remainder_11 : decode jb_H_remainder 11 = .ok (.ireturn, 1) := by decide +kernel
theorem jd_L_wordOf_0 : decode jb_L_wordOf 0 = .ok (.aload_n 0, 1) := by decide +kernel
theorem jd_L_wordOf_1 : decode jb_L_wordOf 1 = .ok (.getfield 11, 3) := by decide +kernel
theorem jd_L_wordOf_4 : decode jb_L_wordOf 4 = .ok (.iload_n 1, 1) := by decide +kernel
theorem jd_L_wordOf_5 : decode jb_L_wordOf 5 = .ok (.bipush 9, 2) := by decide +kernel
theorem jd_L_wordOf_7 : decode jb_L_wordOf 7 = .ok (.imul, 1) := by decide +kernel
theorem jd_L_wordOf_8 : decode jb_L_wordOf 8 = .ok (.iload_n 2, 1) := by decide +kernel
theorem jd_L_wordOf_9 : decode jb_L_wordOf 9 = .ok (.aload_n 0, 1) := by decide +kernel
theorem jd_L_wordOf_10 : decode jb_L_wordOf 10 = .ok (.getfield 15, 3) := by decide +kernel
theorem jd_L_wordOf_13 : decode jb_L_wordOf 13 = .ok (.iload_n 1, 1) := by decide +kernel
theorem jd_L_wordOf_14 : decode jb_L_wordOf 14 = .ok (.invokestatic 37, 3) := by decide +kernel
theorem jd_L_wordOf_17 : decode jb_L_wordOf 17 = .ok (.invokestatic 43, 3) := by decide +kernel
theorem jd_L_wordOf_20 : decode jb_L_wordOf 20 = .ok (.iadd, 1) := by decide +kernel
theorem jd_L_wordOf_21 : decode jb_L_wordOf 21 = .ok (.invokestatic 37, 3) := by decide +kernel
theorem jd_L_wordOf_24 : decode jb_L_wordOf 24 = .ok (.ireturn, 1) := by decide +kernel
theorem jd_L_kindOf_0 : decode jb_L_kindOf 0 = .ok (.aload_n 0, 1) := by decide +kernel
theorem jd_L_kindOf_1 : decode jb_L_kindOf 1 = .ok (.getfield 21, 3) := by decide +kernel
theorem jd_L_kindOf_4 : decode jb_L_kindOf 4 = .ok (.iload_n 1, 1) := by decide +kernel
theorem jd_L_kindOf_5 : decode jb_L_kindOf 5 = .ok (.invokestatic 37, 3) := by decide +kernel
theorem jd_L_kindOf_8 : decode jb_L_kindOf 8 = .ok (.ireturn, 1) := by decide +kernel
theorem jd_L_thatchOf_0 : decode jb_L_thatchOf 0 = .ok (.aload_n 0, 1) := by decide +kernel
theorem jd_L_thatchOf_1 : decode jb_L_thatchOf 1 = .ok (.getfield 24, 3) := by decide +kernel
theorem jd_L_thatchOf_4 : decode jb_L_thatchOf 4 = .ok (.iload_n 1, 1) := by decide +kernel
theorem jd_L_thatchOf_5 : decode jb_L_thatchOf 5 = .ok (.invokestatic 37, 3) := by decide +kernel
theorem jd_L_thatchOf_8 : decode jb_L_thatchOf 8 = .ok (.ireturn, 1) := by decide +kernel
theorem jd_L_weatherOf_0 : decode jb_L_weatherOf 0 = .ok (.aload_n 0, 1) := by decide +kernel
theorem jd_L_weatherOf_1 : decode jb_L_weatherOf 1 = .ok (.getfield 47, 3) := by decide +kernel
theorem jd_L_weatherOf_4 : decode jb_L_weatherOf 4 = .ok (.ifCond .le 21, 3) := by decide +kernel
theorem jd_L_weatherOf_7 : decode jb_L_weatherOf 7 = .ok (.aload_n 0, 1) := by decide +kernel
theorem jd_L_weatherOf_8 : decode jb_L_weatherOf 8 = .ok (.getfield 18, 3) := by decide +kernel
theorem jd_L_weatherOf_11 : decode jb_L_weatherOf 11 = .ok (.iload_n 1, 1) := by decide +kernel
theorem jd_L_weatherOf_12 : decode jb_L_weatherOf 12 = .ok (.aload_n 0, 1) := by decide +kernel
theorem jd_L_weatherOf_13 : decode jb_L_weatherOf 13 = .ok (.getfield 47, 3) := by decide +kernel
theorem jd_L_weatherOf_16 : decode jb_L_weatherOf 16 = .ok (.invokestatic 43, 3) := by decide +kernel
theorem jd_L_weatherOf_19 : decode jb_L_weatherOf 19 = .ok (.invokestatic 37, 3) := by decide +kernel
theorem jd_L_weatherOf_22 : decode jb_L_weatherOf 22 = .ok (.goto 4, 3) := by decide +kernel
theorem jd_L_weatherOf_25 : decode jb_L_weatherOf 25 = .ok (.iconst 0, 1) := by decide +kernel
theorem jd_L_weatherOf_26 : decode jb_L_weatherOf 26 = .ok (.ireturn, 1) := by decide +kernel
theorem jd_S_isFull_0 : decode jb_S_isFull 0 = .ok (.aload_n 0, 1) := by decide +kernel
theorem jd_S_isFull_1 : decode jb_S_isFull 1 = .ok (.getfield 16, 3) := by decide +kernel
theorem jd_S_isFull_4 : decode jb_S_isFull 4 = .ok (.bipush 6, 2) := by decide +kernel
theorem jd_S_isFull_6 : decode jb_S_isFull 6 = .ok (.if_icmp .lt 7, 3) := by decide +kernel
theorem jd_S_isFull_9 : decode jb_S_isFull 9 = .ok (.iconst 1, 1) := by decide +kernel
theorem jd_S_isFull_10 : decode jb_S_isFull 10 = .ok (.goto 4, 3) := by decide +kernel
theorem jd_S_isFull_13 : decode jb_S_isFull 13 = .ok (.iconst 0, 1) := by decide +kernel
theorem jd_S_isFull_14 : decode jb_S_isFull 14 = .ok (.ireturn, 1) := by decide +kernel
theorem jd_S_add_0 : decode jb_S_add 0 = .ok (.aload_n 0, 1) := by decide +kernel
theorem jd_S_add_1 : decode jb_S_add 1 = .ok (.getfield 9, 3) := by decide +kernel
theorem jd_S_add_4 : decode jb_S_add 4 = .ok (.aload_n 0, 1) := by decide +kernel
theorem jd_S_add_5 : decode jb_S_add 5 = .ok (.getfield 16, 3) := by decide +kernel
theorem jd_S_add_8 : decode jb_S_add 8 = .ok (.iload_n 1, 1) := by decide +kernel
theorem jd_S_add_9 : decode jb_S_add 9 = .ok (.invokestatic 20, 3) := by decide +kernel
theorem jd_S_add_12 : decode jb_S_add 12 = .ok (.aload_n 0, 1) := by decide +kernel
theorem jd_S_add_13 : decode jb_S_add 13 = .ok (.getfield 13, 3) := by decide +kernel
theorem jd_S_add_16 : decode jb_S_add 16 = .ok (.aload_n 0, 1) := by decide +kernel
theorem jd_S_add_17 : decode jb_S_add 17 = .ok (.getfield 16, 3) := by decide +kernel
theorem jd_S_add_20 : decode jb_S_add 20 = .ok (.iload_n 2, 1) := by decide +kernel
theorem jd_S_add_21 : decode jb_S_add 21 = .ok (.invokestatic 20, 3) := by decide +kernel
theorem jd_S_add_24 : decode jb_S_add 24 = .ok (.aload_n 0, 1) := by decide +kernel
theorem jd_S_add_25 : decode jb_S_add 25 = .ok (.dup, 1) := by decide +kernel
theorem jd_S_add_26 : decode jb_S_add 26 = .ok (.getfield 16, 3) := by decide +kernel
theorem jd_S_add_29 : decode jb_S_add 29 = .ok (.iconst 1, 1) := by decide +kernel
theorem jd_S_add_30 : decode jb_S_add 30 = .ok (.iadd, 1) := by decide +kernel
theorem jd_S_add_31 : decode jb_S_add 31 = .ok (.putfield 16, 3) := by decide +kernel
theorem jd_S_add_34 : decode jb_S_add 34 = .ok (.return_, 1) := by decide +kernel
theorem jd_S_isSoOf_0 : decode jb_S_isSoOf 0 = .ok (.iconst 0, 1) := by decide +kernel
theorem jd_S_isSoOf_1 : decode jb_S_isSoOf 1 = .ok (.istore_n 3, 1) := by decide +kernel
theorem jd_S_isSoOf_2 : decode jb_S_isSoOf 2 = .ok (.iload_n 3, 1) := by decide +kernel
theorem jd_S_isSoOf_3 : decode jb_S_isSoOf 3 = .ok (.aload_n 0, 1) := by decide +kernel
theorem jd_S_isSoOf_4 : decode jb_S_isSoOf 4 = .ok (.getfield 16, 3) := by decide +kernel
theorem jd_S_isSoOf_7 : decode jb_S_isSoOf 7 = .ok (.if_icmp .ge 35, 3) := by decide +kernel
theorem jd_S_isSoOf_10 : decode jb_S_isSoOf 10 = .ok (.aload_n 1, 1) := by decide +kernel
theorem jd_S_isSoOf_11 : decode jb_S_isSoOf 11 = .ok (.iload_n 2, 1) := by decide +kernel
theorem jd_S_isSoOf_12 : decode jb_S_isSoOf 12 = .ok (.aload_n 0, 1) := by decide +kernel
theorem jd_S_isSoOf_13 : decode jb_S_isSoOf 13 = .ok (.getfield 13, 3) := by decide +kernel
theorem jd_S_isSoOf_16 : decode jb_S_isSoOf 16 = .ok (.iload_n 3, 1) := by decide +kernel
theorem jd_S_isSoOf_17 : decode jb_S_isSoOf 17 = .ok (.invokestatic 26, 3) := by decide +kernel
theorem jd_S_isSoOf_20 : decode jb_S_isSoOf 20 = .ok (.invokevirtual 30, 3) := by decide +kernel
theorem jd_S_isSoOf_23 : decode jb_S_isSoOf 23 = .ok (.aload_n 0, 1) := by decide +kernel
theorem jd_S_isSoOf_24 : decode jb_S_isSoOf 24 = .ok (.getfield 9, 3) := by decide +kernel
theorem jd_S_isSoOf_27 : decode jb_S_isSoOf 27 = .ok (.iload_n 3, 1) := by decide +kernel
theorem jd_S_isSoOf_28 : decode jb_S_isSoOf 28 = .ok (.invokestatic 26, 3) := by decide +kernel
theorem jd_S_isSoOf_31 : decode jb_S_isSoOf 31 = .ok (.if_icmp .eq 5, 3) := by decide +kernel
theorem jd_S_isSoOf_34 : decode jb_S_isSoOf 34 = .ok (.iconst 0, 1) := by decide +kernel
theorem jd_S_isSoOf_35 : decode jb_S_isSoOf 35 = .ok (.ireturn, 1) := by decide +kernel
theorem jd_S_isSoOf_36 : decode jb_S_isSoOf 36 = .ok (.iinc 3 1, 3) := by decide +kernel
theorem jd_S_isSoOf_39 : decode jb_S_isSoOf 39 = .ok (.goto (-37), 3) := by decide +kernel
theorem jd_S_isSoOf_42 : decode jb_S_isSoOf 42 = .ok (.iconst 1, 1) := by decide +kernel
theorem jd_S_isSoOf_43 : decode jb_S_isSoOf 43 = .ok (.ireturn, 1) := by decide +kernel
theorem jd_F_clear_0 : decode jb_F_clear 0 = .ok (.aload_n 0, 1) := by decide +kernel
theorem jd_F_clear_1 : decode jb_F_clear 1 = .ok (.iconst 0, 1) := by decide +kernel
theorem jd_F_clear_2 : decode jb_F_clear 2 = .ok (.putfield 36, 3) := by decide +kernel
theorem jd_F_clear_5 : decode jb_F_clear 5 = .ok (.aload_n 0, 1) := by decide +kernel
theorem jd_F_clear_6 : decode jb_F_clear 6 = .ok (.getfield 9, 3) := by decide +kernel
theorem jd_F_clear_9 : decode jb_F_clear 9 = .ok (.iconst 0, 1) := by decide +kernel
theorem jd_F_clear_10 : decode jb_F_clear 10 = .ok (.invokestatic 40, 3) := by decide +kernel
theorem jd_F_clear_13 : decode jb_F_clear 13 = .ok (.aload_n 0, 1) := by decide +kernel
theorem jd_F_clear_14 : decode jb_F_clear 14 = .ok (.getfield 15, 3) := by decide +kernel
theorem jd_F_clear_17 : decode jb_F_clear 17 = .ok (.iconst 0, 1) := by decide +kernel
theorem jd_F_clear_18 : decode jb_F_clear 18 = .ok (.invokestatic 40, 3) := by decide +kernel
theorem jd_F_clear_21 : decode jb_F_clear 21 = .ok (.aload_n 0, 1) := by decide +kernel
theorem jd_F_clear_22 : decode jb_F_clear 22 = .ok (.getfield 18, 3) := by decide +kernel
theorem jd_F_clear_25 : decode jb_F_clear 25 = .ok (.iconst 0, 1) := by decide +kernel
theorem jd_F_clear_26 : decode jb_F_clear 26 = .ok (.invokestatic 40, 3) := by decide +kernel
theorem jd_F_clear_29 : decode jb_F_clear 29 = .ok (.aload_n 0, 1) := by decide +kernel
theorem jd_F_clear_30 : decode jb_F_clear 30 = .ok (.getfield 21, 3) := by decide +kernel
theorem jd_F_clear_33 : decode jb_F_clear 33 = .ok (.iconst 0, 1) := by decide +kernel
theorem jd_F_clear_34 : decode jb_F_clear 34 = .ok (.invokestatic 40, 3) := by decide +kernel
theorem jd_F_clear_37 : decode jb_F_clear 37 = .ok (.aload_n 0, 1) := by decide +kernel
theorem jd_F_clear_38 : decode jb_F_clear 38 = .ok (.getfield 24, 3) := by decide +kernel
theorem jd_F_clear_41 : decode jb_F_clear 41 = .ok (.iconst 0, 1) := by decide +kernel
theorem jd_F_clear_42 : decode jb_F_clear 42 = .ok (.invokestatic 40, 3) := by decide +kernel
theorem jd_F_clear_45 : decode jb_F_clear 45 = .ok (.return_, 1) := by decide +kernel
theorem jd_F_heightOf_0 : decode jb_F_heightOf 0 = .ok (.aload_n 0, 1) := by decide +kernel
theorem jd_F_heightOf_1 : decode jb_F_heightOf 1 = .ok (.getfield 21, 3) := by decide +kernel
theorem jd_F_heightOf_4 : decode jb_F_heightOf 4 = .ok (.iload_n 1, 1) := by decide +kernel
theorem jd_F_heightOf_5 : decode jb_F_heightOf 5 = .ok (.invokestatic 52, 3) := by decide +kernel
theorem jd_F_heightOf_8 : decode jb_F_heightOf 8 = .ok (.ireturn, 1) := by decide +kernel
theorem jd_F_heatOf_0 : decode jb_F_heatOf 0 = .ok (.aload_n 0, 1) := by decide +kernel
theorem jd_F_heatOf_1 : decode jb_F_heatOf 1 = .ok (.getfield 33, 3) := by decide +kernel
theorem jd_F_heatOf_4 : decode jb_F_heatOf 4 = .ok (.iload_n 1, 1) := by decide +kernel
theorem jd_F_heatOf_5 : decode jb_F_heatOf 5 = .ok (.bipush 8, 2) := by decide +kernel
theorem jd_F_heatOf_7 : decode jb_F_heatOf 7 = .ok (.imul, 1) := by decide +kernel
theorem jd_F_heatOf_8 : decode jb_F_heatOf 8 = .ok (.iload_n 2, 1) := by decide +kernel
theorem jd_F_heatOf_9 : decode jb_F_heatOf 9 = .ok (.iadd, 1) := by decide +kernel
theorem jd_F_heatOf_10 : decode jb_F_heatOf 10 = .ok (.invokestatic 52, 3) := by decide +kernel
theorem jd_F_heatOf_13 : decode jb_F_heatOf 13 = .ok (.ireturn, 1) := by decide +kernel
theorem jd_F_hottestOf_0 : decode jb_F_hottestOf 0 = .ok (.iconst 0, 1) := by decide +kernel
theorem jd_F_hottestOf_1 : decode jb_F_hottestOf 1 = .ok (.istore_n 2, 1) := by decide +kernel
theorem jd_F_hottestOf_2 : decode jb_F_hottestOf 2 = .ok (.iconst 0, 1) := by decide +kernel
theorem jd_F_hottestOf_3 : decode jb_F_hottestOf 3 = .ok (.istore_n 3, 1) := by decide +kernel
theorem jd_F_hottestOf_4 : decode jb_F_hottestOf 4 = .ok (.iload_n 3, 1) := by decide +kernel
theorem jd_F_hottestOf_5 : decode jb_F_hottestOf 5 = .ok (.aload_n 0, 1) := by decide +kernel
theorem jd_F_hottestOf_6 : decode jb_F_hottestOf 6 = .ok (.iload_n 1, 1) := by decide +kernel
theorem jd_F_hottestOf_7 : decode jb_F_hottestOf 7 = .ok (.invokevirtual 56, 3) := by decide +kernel
theorem jd_F_hottestOf_10 : decode jb_F_hottestOf 10 = .ok (.if_icmp .ge 20, 3) := by decide +kernel
theorem jd_F_hottestOf_13 : decode jb_F_hottestOf 13 = .ok (.iload_n 2, 1) := by decide +kernel
theorem jd_F_hottestOf_14 : decode jb_F_hottestOf 14 = .ok (.aload_n 0, 1) := by decide +kernel
theorem jd_F_hottestOf_15 : decode jb_F_hottestOf 15 = .ok (.iload_n 1, 1) := by decide +kernel
theorem jd_F_hottestOf_16 : decode jb_F_hottestOf 16 = .ok (.iload_n 3, 1) := by decide +kernel
theorem jd_F_hottestOf_17 : decode jb_F_hottestOf 17 = .ok (.invokevirtual 64, 3) := by decide +kernel
theorem jd_F_hottestOf_20 : decode jb_F_hottestOf 20 = .ok (.invokestatic 67, 3) := by decide +kernel
theorem jd_F_hottestOf_23 : decode jb_F_hottestOf 23 = .ok (.istore_n 2, 1) := by decide +kernel
theorem jd_F_hottestOf_24 : decode jb_F_hottestOf 24 = .ok (.iinc 3 1, 3) := by decide +kernel
theorem jd_F_hottestOf_27 : decode jb_F_hottestOf 27 = .ok (.goto (-23), 3) := by decide +kernel
theorem jd_F_hottestOf_30 : decode jb_F_hottestOf 30 = .ok (.iload_n 2, 1) := by decide +kernel
theorem jd_F_hottestOf_31 : decode jb_F_hottestOf 31 = .ok (.ireturn, 1) := by decide +kernel
theorem jd_F_wordsOf_0 : decode jb_F_wordsOf 0 = .ok (.aload_n 0, 1) := by decide +kernel
theorem jd_F_wordsOf_1 : decode jb_F_wordsOf 1 = .ok (.getfield 27, 3) := by decide +kernel
theorem jd_F_wordsOf_4 : decode jb_F_wordsOf 4 = .ok (.iload_n 1, 1) := by decide +kernel
theorem jd_F_wordsOf_5 : decode jb_F_wordsOf 5 = .ok (.bipush 8, 2) := by decide +kernel
theorem jd_F_wordsOf_7 : decode jb_F_wordsOf 7 = .ok (.imul, 1) := by decide +kernel
theorem jd_F_wordsOf_8 : decode jb_F_wordsOf 8 = .ok (.iload_n 2, 1) := by decide +kernel
theorem jd_F_wordsOf_9 : decode jb_F_wordsOf 9 = .ok (.iadd, 1) := by decide +kernel
theorem jd_F_wordsOf_10 : decode jb_F_wordsOf 10 = .ok (.invokestatic 52, 3) := by decide +kernel
theorem jd_F_wordsOf_13 : decode jb_F_wordsOf 13 = .ok (.ireturn, 1) := by decide +kernel
theorem jd_F_wetnessOf_0 : decode jb_F_wetnessOf 0 = .ok (.aload_n 0, 1) := by decide +kernel
theorem jd_F_wetnessOf_1 : decode jb_F_wetnessOf 1 = .ok (.getfield 30, 3) := by decide +kernel
theorem jd_F_wetnessOf_4 : decode jb_F_wetnessOf 4 = .ok (.iload_n 1, 1) := by decide +kernel
theorem jd_F_wetnessOf_5 : decode jb_F_wetnessOf 5 = .ok (.bipush 8, 2) := by decide +kernel
theorem jd_F_wetnessOf_7 : decode jb_F_wetnessOf 7 = .ok (.imul, 1) := by decide +kernel
theorem jd_F_wetnessOf_8 : decode jb_F_wetnessOf 8 = .ok (.iload_n 2, 1) := by decide +kernel
theorem jd_F_wetnessOf_9 : decode jb_F_wetnessOf 9 = .ok (.iadd, 1) := by decide +kernel
theorem jd_F_wetnessOf_10 : decode jb_F_wetnessOf 10 = .ok (.invokestatic 52, 3) := by decide +kernel
theorem jd_F_wetnessOf_13 : decode jb_F_wetnessOf 13 = .ok (.ireturn, 1) := by decide +kernel
theorem jd_F_copyFrom_0 : decode jb_F_copyFrom 0 = .ok (.aload_n 0, 1) := by decide +kernel
theorem jd_F_copyFrom_1 : decode jb_F_copyFrom 1 = .ok (.aload_n 1, 1) := by decide +kernel
theorem jd_F_copyFrom_2 : decode jb_F_copyFrom 2 = .ok (.getfield 36, 3) := by decide +kernel
theorem jd_F_copyFrom_5 : decode jb_F_copyFrom 5 = .ok (.putfield 36, 3) := by decide +kernel
theorem jd_F_copyFrom_8 : decode jb_F_copyFrom 8 = .ok (.aload_n 1, 1) := by decide +kernel
theorem jd_F_copyFrom_9 : decode jb_F_copyFrom 9 = .ok (.getfield 9, 3) := by decide +kernel
theorem jd_F_copyFrom_12 : decode jb_F_copyFrom 12 = .ok (.aload_n 0, 1) := by decide +kernel
theorem jd_F_copyFrom_13 : decode jb_F_copyFrom 13 = .ok (.getfield 9, 3) := by decide +kernel
theorem jd_F_copyFrom_16 : decode jb_F_copyFrom 16 = .ok (.invokestatic 46, 3) := by decide +kernel
theorem jd_F_copyFrom_19 : decode jb_F_copyFrom 19 = .ok (.aload_n 1, 1) := by decide +kernel
theorem jd_F_copyFrom_20 : decode jb_F_copyFrom 20 = .ok (.getfield 15, 3) := by decide +kernel
theorem jd_F_copyFrom_23 : decode jb_F_copyFrom 23 = .ok (.aload_n 0, 1) := by decide +kernel
theorem jd_F_copyFrom_24 : decode jb_F_copyFrom 24 = .ok (.getfield 15, 3) := by decide +kernel
theorem jd_F_copyFrom_27 : decode jb_F_copyFrom 27 = .ok (.invokestatic 46, 3) := by decide +kernel
theorem jd_F_copyFrom_30 : decode jb_F_copyFrom 30 = .ok (.aload_n 1, 1) := by decide +kernel
theorem jd_F_copyFrom_31 : decode jb_F_copyFrom 31 = .ok (.getfield 18, 3) := by decide +kernel
theorem jd_F_copyFrom_34 : decode jb_F_copyFrom 34 = .ok (.aload_n 0, 1) := by decide +kernel
theorem jd_F_copyFrom_35 : decode jb_F_copyFrom 35 = .ok (.getfield 18, 3) := by decide +kernel
theorem jd_F_copyFrom_38 : decode jb_F_copyFrom 38 = .ok (.invokestatic 46, 3) := by decide +kernel
theorem jd_F_copyFrom_41 : decode jb_F_copyFrom 41 = .ok (.aload_n 1, 1) := by decide +kernel
theorem jd_F_copyFrom_42 : decode jb_F_copyFrom 42 = .ok (.getfield 21, 3) := by decide +kernel
theorem jd_F_copyFrom_45 : decode jb_F_copyFrom 45 = .ok (.aload_n 0, 1) := by decide +kernel
theorem jd_F_copyFrom_46 : decode jb_F_copyFrom 46 = .ok (.getfield 21, 3) := by decide +kernel
theorem jd_F_copyFrom_49 : decode jb_F_copyFrom 49 = .ok (.invokestatic 46, 3) := by decide +kernel
theorem jd_F_copyFrom_52 : decode jb_F_copyFrom 52 = .ok (.aload_n 1, 1) := by decide +kernel
theorem jd_F_copyFrom_53 : decode jb_F_copyFrom 53 = .ok (.getfield 24, 3) := by decide +kernel
theorem jd_F_copyFrom_56 : decode jb_F_copyFrom 56 = .ok (.aload_n 0, 1) := by decide +kernel
theorem jd_F_copyFrom_57 : decode jb_F_copyFrom 57 = .ok (.getfield 24, 3) := by decide +kernel
theorem jd_F_copyFrom_60 : decode jb_F_copyFrom 60 = .ok (.invokestatic 46, 3) := by decide +kernel
theorem jd_F_copyFrom_63 : decode jb_F_copyFrom 63 = .ok (.aload_n 1, 1) := by decide +kernel
theorem jd_F_copyFrom_64 : decode jb_F_copyFrom 64 = .ok (.getfield 27, 3) := by decide +kernel
theorem jd_F_copyFrom_67 : decode jb_F_copyFrom 67 = .ok (.aload_n 0, 1) := by decide +kernel
theorem jd_F_copyFrom_68 : decode jb_F_copyFrom 68 = .ok (.getfield 27, 3) := by decide +kernel
theorem jd_F_copyFrom_71 : decode jb_F_copyFrom 71 = .ok (.invokestatic 46, 3) := by decide +kernel
theorem jd_F_copyFrom_74 : decode jb_F_copyFrom 74 = .ok (.aload_n 1, 1) := by decide +kernel
theorem jd_F_copyFrom_75 : decode jb_F_copyFrom 75 = .ok (.getfield 30, 3) := by decide +kernel
theorem jd_F_copyFrom_78 : decode jb_F_copyFrom 78 = .ok (.aload_n 0, 1) := by decide +kernel
theorem jd_F_copyFrom_79 : decode jb_F_copyFrom 79 = .ok (.getfield 30, 3) := by decide +kernel
theorem jd_F_copyFrom_82 : decode jb_F_copyFrom 82 = .ok (.invokestatic 46, 3) := by decide +kernel
theorem jd_F_copyFrom_85 : decode jb_F_copyFrom 85 = .ok (.aload_n 1, 1) := by decide +kernel
theorem jd_F_copyFrom_86 : decode jb_F_copyFrom 86 = .ok (.getfield 33, 3) := by decide +kernel
theorem jd_F_copyFrom_89 : decode jb_F_copyFrom 89 = .ok (.aload_n 0, 1) := by decide +kernel
theorem jd_F_copyFrom_90 : decode jb_F_copyFrom 90 = .ok (.getfield 33, 3) := by decide +kernel
theorem jd_F_copyFrom_93 : decode jb_F_copyFrom 93 = .ok (.invokestatic 46, 3) := by decide +kernel
theorem jd_F_copyFrom_96 : decode jb_F_copyFrom 96 = .ok (.return_, 1) := by decide +kernel
theorem jd_F_heatRick_0 : decode jb_F_heatRick 0 = .ok (.iconst 0, 1) := by decide +kernel
theorem jd_F_heatRick_1 : decode jb_F_heatRick 1 = .ok (.istore_n 3, 1) := by decide +kernel
theorem jd_F_heatRick_2 : decode jb_F_heatRick 2 = .ok (.iload_n 3, 1) := by decide +kernel
theorem jd_F_heatRick_3 : decode jb_F_heatRick 3 = .ok (.aload_n 0, 1) := by decide +kernel
theorem jd_F_heatRick_4 : decode jb_F_heatRick 4 = .ok (.iload_n 1, 1) := by decide +kernel
theorem jd_F_heatRick_5 : decode jb_F_heatRick 5 = .ok (.invokevirtual 56, 3) := by decide +kernel
theorem jd_F_heatRick_8 : decode jb_F_heatRick 8 = .ok (.if_icmp .ge 45, 3) := by decide +kernel
theorem jd_F_heatRick_11 : decode jb_F_heatRick 11 = .ok (.iconst 0, 1) := by decide +kernel
theorem jd_F_heatRick_12 : decode jb_F_heatRick 12 = .ok (.aload_n 0, 1) := by decide +kernel
theorem jd_F_heatRick_13 : decode jb_F_heatRick 13 = .ok (.iload_n 1, 1) := by decide +kernel
theorem jd_F_heatRick_14 : decode jb_F_heatRick 14 = .ok (.iload_n 3, 1) := by decide +kernel
theorem jd_F_heatRick_15 : decode jb_F_heatRick 15 = .ok (.invokevirtual 109, 3) := by decide +kernel
theorem jd_F_heatRick_18 : decode jb_F_heatRick 18 = .ok (.iload_n 2, 1) := by decide +kernel
theorem jd_F_heatRick_19 : decode jb_F_heatRick 19 = .ok (.isub, 1) := by decide +kernel
theorem jd_F_heatRick_20 : decode jb_F_heatRick 20 = .ok (.invokestatic 67, 3) := by decide +kernel
theorem jd_F_heatRick_23 : decode jb_F_heatRick 23 = .ok (.istore 4, 2) := by decide +kernel
theorem jd_F_heatRick_25 : decode jb_F_heatRick 25 = .ok (.aload_n 0, 1) := by decide +kernel
theorem jd_F_heatRick_26 : decode jb_F_heatRick 26 = .ok (.getfield 33, 3) := by decide +kernel
theorem jd_F_heatRick_29 : decode jb_F_heatRick 29 = .ok (.iload_n 1, 1) := by decide +kernel
theorem jd_F_heatRick_30 : decode jb_F_heatRick 30 = .ok (.bipush 8, 2) := by decide +kernel
theorem jd_F_heatRick_32 : decode jb_F_heatRick 32 = .ok (.imul, 1) := by decide +kernel
theorem jd_F_heatRick_33 : decode jb_F_heatRick 33 = .ok (.iload_n 3, 1) := by decide +kernel
theorem jd_F_heatRick_34 : decode jb_F_heatRick 34 = .ok (.iadd, 1) := by decide +kernel
theorem jd_F_heatRick_35 : decode jb_F_heatRick 35 = .ok (.aload_n 0, 1) := by decide +kernel
theorem jd_F_heatRick_36 : decode jb_F_heatRick 36 = .ok (.iload_n 1, 1) := by decide +kernel
theorem jd_F_heatRick_37 : decode jb_F_heatRick 37 = .ok (.iload_n 3, 1) := by decide +kernel
theorem jd_F_heatRick_38 : decode jb_F_heatRick 38 = .ok (.invokevirtual 64, 3) := by decide +kernel
theorem jd_F_heatRick_41 : decode jb_F_heatRick 41 = .ok (.iload 4, 2) := by decide +kernel
theorem jd_F_heatRick_43 : decode jb_F_heatRick 43 = .ok (.iadd, 1) := by decide +kernel
theorem jd_F_heatRick_44 : decode jb_F_heatRick 44 = .ok (.invokestatic 102, 3) := by decide +kernel
theorem jd_F_heatRick_47 : decode jb_F_heatRick 47 = .ok (.iinc 3 1, 3) := by decide +kernel
theorem jd_F_heatRick_50 : decode jb_F_heatRick 50 = .ok (.goto (-48), 3) := by decide +kernel
theorem jd_F_heatRick_53 : decode jb_F_heatRick 53 = .ok (.aload_n 0, 1) := by decide +kernel
theorem jd_F_heatRick_54 : decode jb_F_heatRick 54 = .ok (.iload_n 1, 1) := by decide +kernel
theorem jd_F_heatRick_55 : decode jb_F_heatRick 55 = .ok (.invokevirtual 112, 3) := by decide +kernel
theorem jd_F_heatRick_58 : decode jb_F_heatRick 58 = .ok (.bipush 40, 2) := by decide +kernel
theorem jd_F_heatRick_60 : decode jb_F_heatRick 60 = .ok (.if_icmp .lt 30, 3) := by decide +kernel
theorem jd_F_heatRick_63 : decode jb_F_heatRick 63 = .ok (.aload_n 0, 1) := by decide +kernel
theorem jd_F_heatRick_64 : decode jb_F_heatRick 64 = .ok (.getfield 21, 3) := by decide +kernel
theorem jd_F_heatRick_67 : decode jb_F_heatRick 67 = .ok (.iload_n 1, 1) := by decide +kernel
theorem jd_F_heatRick_68 : decode jb_F_heatRick 68 = .ok (.iconst 0, 1) := by decide +kernel
theorem jd_F_heatRick_69 : decode jb_F_heatRick 69 = .ok (.invokestatic 102, 3) := by decide +kernel
theorem jd_F_heatRick_72 : decode jb_F_heatRick 72 = .ok (.aload_n 0, 1) := by decide +kernel
theorem jd_F_heatRick_73 : decode jb_F_heatRick 73 = .ok (.getfield 24, 3) := by decide +kernel
theorem jd_F_heatRick_76 : decode jb_F_heatRick 76 = .ok (.iload_n 1, 1) := by decide +kernel
theorem jd_F_heatRick_77 : decode jb_F_heatRick 77 = .ok (.aload_n 0, 1) := by decide +kernel
theorem jd_F_heatRick_78 : decode jb_F_heatRick 78 = .ok (.getfield 24, 3) := by decide +kernel
theorem jd_F_heatRick_81 : decode jb_F_heatRick 81 = .ok (.iload_n 1, 1) := by decide +kernel
theorem jd_F_heatRick_82 : decode jb_F_heatRick 82 = .ok (.invokestatic 52, 3) := by decide +kernel
theorem jd_F_heatRick_85 : decode jb_F_heatRick 85 = .ok (.iconst 1, 1) := by decide +kernel
theorem jd_F_heatRick_86 : decode jb_F_heatRick 86 = .ok (.iadd, 1) := by decide +kernel
theorem jd_F_heatRick_87 : decode jb_F_heatRick 87 = .ok (.invokestatic 102, 3) := by decide +kernel
theorem jd_F_heatRick_90 : decode jb_F_heatRick 90 = .ok (.return_, 1) := by decide +kernel
theorem jd_F_hourGoesBy_0 : decode jb_F_hourGoesBy 0 = .ok (.iconst 0, 1) := by decide +kernel
theorem jd_F_hourGoesBy_1 : decode jb_F_hourGoesBy 1 = .ok (.istore_n 2, 1) := by decide +kernel
theorem jd_F_hourGoesBy_2 : decode jb_F_hourGoesBy 2 = .ok (.iload_n 2, 1) := by decide +kernel
theorem jd_F_hourGoesBy_3 : decode jb_F_hourGoesBy 3 = .ok (.aload_n 1, 1) := by decide +kernel
theorem jd_F_hourGoesBy_4 : decode jb_F_hourGoesBy 4 = .ok (.getfield 81, 3) := by decide +kernel
theorem jd_F_hourGoesBy_7 : decode jb_F_hourGoesBy 7 = .ok (.if_icmp .ge 19, 3) := by decide +kernel
theorem jd_F_hourGoesBy_10 : decode jb_F_hourGoesBy 10 = .ok (.aload_n 0, 1) := by decide +kernel
theorem jd_F_hourGoesBy_11 : decode jb_F_hourGoesBy 11 = .ok (.iload_n 2, 1) := by decide +kernel
theorem jd_F_hourGoesBy_12 : decode jb_F_hourGoesBy 12 = .ok (.aload_n 1, 1) := by decide +kernel
theorem jd_F_hourGoesBy_13 : decode jb_F_hourGoesBy 13 = .ok (.iload_n 2, 1) := by decide +kernel
theorem jd_F_hourGoesBy_14 : decode jb_F_hourGoesBy 14 = .ok (.invokevirtual 86, 3) := by decide +kernel
theorem jd_F_hourGoesBy_17 : decode jb_F_hourGoesBy 17 = .ok (.invokevirtual 89, 3) := by decide +kernel
theorem jd_F_hourGoesBy_20 : decode jb_F_hourGoesBy 20 = .ok (.iinc 2 1, 3) := by decide +kernel
theorem jd_F_hourGoesBy_23 : decode jb_F_hourGoesBy 23 = .ok (.goto (-21), 3) := by decide +kernel
theorem jd_F_hourGoesBy_26 : decode jb_F_hourGoesBy 26 = .ok (.aload_n 1, 1) := by decide +kernel
theorem jd_F_hourGoesBy_27 : decode jb_F_hourGoesBy 27 = .ok (.aload_n 0, 1) := by decide +kernel
theorem jd_F_hourGoesBy_28 : decode jb_F_hourGoesBy 28 = .ok (.getfield 36, 3) := by decide +kernel
theorem jd_F_hourGoesBy_31 : decode jb_F_hourGoesBy 31 = .ok (.invokevirtual 93, 3) := by decide +kernel
theorem jd_F_hourGoesBy_34 : decode jb_F_hourGoesBy 34 = .ok (.istore_n 2, 1) := by decide +kernel
theorem jd_F_hourGoesBy_35 : decode jb_F_hourGoesBy 35 = .ok (.iconst 0, 1) := by decide +kernel
theorem jd_F_hourGoesBy_36 : decode jb_F_hourGoesBy 36 = .ok (.istore_n 3, 1) := by decide +kernel
theorem jd_F_hourGoesBy_37 : decode jb_F_hourGoesBy 37 = .ok (.iload_n 3, 1) := by decide +kernel
theorem jd_F_hourGoesBy_38 : decode jb_F_hourGoesBy 38 = .ok (.aload_n 1, 1) := by decide +kernel
theorem jd_F_hourGoesBy_39 : decode jb_F_hourGoesBy 39 = .ok (.getfield 96, 3) := by decide +kernel
theorem jd_F_hourGoesBy_42 : decode jb_F_hourGoesBy 42 = .ok (.if_icmp .ge 60, 3) := by decide +kernel
theorem jd_F_hourGoesBy_45 : decode jb_F_hourGoesBy 45 = .ok (.aload_n 0, 1) := by decide +kernel
theorem jd_F_hourGoesBy_46 : decode jb_F_hourGoesBy 46 = .ok (.getfield 9, 3) := by decide +kernel
theorem jd_F_hourGoesBy_49 : decode jb_F_hourGoesBy 49 = .ok (.iload_n 3, 1) := by decide +kernel
theorem jd_F_hourGoesBy_50 : decode jb_F_hourGoesBy 50 = .ok (.aload_n 0, 1) := by decide +kernel
theorem jd_F_hourGoesBy_51 : decode jb_F_hourGoesBy 51 = .ok (.getfield 9, 3) := by decide +kernel
theorem jd_F_hourGoesBy_54 : decode jb_F_hourGoesBy 54 = .ok (.iload_n 3, 1) := by decide +kernel
theorem jd_F_hourGoesBy_55 : decode jb_F_hourGoesBy 55 = .ok (.invokestatic 52, 3) := by decide +kernel
theorem jd_F_hourGoesBy_58 : decode jb_F_hourGoesBy 58 = .ok (.iconst 1, 1) := by decide +kernel
theorem jd_F_hourGoesBy_59 : decode jb_F_hourGoesBy 59 = .ok (.aload_n 1, 1) := by decide +kernel
theorem jd_F_hourGoesBy_60 : decode jb_F_hourGoesBy 60 = .ok (.iload_n 3, 1) := by decide +kernel
theorem jd_F_hourGoesBy_61 : decode jb_F_hourGoesBy 61 = .ok (.aload_n 0, 1) := by decide +kernel
theorem jd_F_hourGoesBy_62 : decode jb_F_hourGoesBy 62 = .ok (.getfield 36, 3) := by decide +kernel
theorem jd_F_hourGoesBy_65 : decode jb_F_hourGoesBy 65 = .ok (.invokevirtual 99, 3) := by decide +kernel
theorem jd_F_hourGoesBy_68 : decode jb_F_hourGoesBy 68 = .ok (.ishl, 1) := by decide +kernel
theorem jd_F_hourGoesBy_69 : decode jb_F_hourGoesBy 69 = .ok (.ior, 1) := by decide +kernel
theorem jd_F_hourGoesBy_70 : decode jb_F_hourGoesBy 70 = .ok (.invokestatic 102, 3) := by decide +kernel
theorem jd_F_hourGoesBy_73 : decode jb_F_hourGoesBy 73 = .ok (.aload_n 0, 1) := by decide +kernel
theorem jd_F_hourGoesBy_74 : decode jb_F_hourGoesBy 74 = .ok (.getfield 15, 3) := by decide +kernel
theorem jd_F_hourGoesBy_77 : decode jb_F_hourGoesBy 77 = .ok (.iload_n 3, 1) := by decide +kernel
theorem jd_F_hourGoesBy_78 : decode jb_F_hourGoesBy 78 = .ok (.bipush 99, 2) := by decide +kernel
theorem jd_F_hourGoesBy_80 : decode jb_F_hourGoesBy 80 = .ok (.aload_n 0, 1) := by decide +kernel
theorem jd_F_hourGoesBy_81 : decode jb_F_hourGoesBy 81 = .ok (.getfield 15, 3) := by decide +kernel
theorem jd_F_hourGoesBy_84 : decode jb_F_hourGoesBy 84 = .ok (.iload_n 3, 1) := by decide +kernel
theorem jd_F_hourGoesBy_85 : decode jb_F_hourGoesBy 85 = .ok (.invokestatic 52, 3) := by decide +kernel
theorem jd_F_hourGoesBy_88 : decode jb_F_hourGoesBy 88 = .ok (.iload_n 2, 1) := by decide +kernel
theorem jd_F_hourGoesBy_89 : decode jb_F_hourGoesBy 89 = .ok (.iadd, 1) := by decide +kernel
theorem jd_F_hourGoesBy_90 : decode jb_F_hourGoesBy 90 = .ok (.invokestatic 106, 3) := by decide +kernel
theorem jd_F_hourGoesBy_93 : decode jb_F_hourGoesBy 93 = .ok (.invokestatic 102, 3) := by decide +kernel
theorem jd_F_hourGoesBy_96 : decode jb_F_hourGoesBy 96 = .ok (.iinc 3 1, 3) := by decide +kernel
theorem jd_F_hourGoesBy_99 : decode jb_F_hourGoesBy 99 = .ok (.goto (-62), 3) := by decide +kernel
theorem jd_F_hourGoesBy_102 : decode jb_F_hourGoesBy 102 = .ok (.aload_n 0, 1) := by decide +kernel
theorem jd_F_hourGoesBy_103 : decode jb_F_hourGoesBy 103 = .ok (.dup, 1) := by decide +kernel
theorem jd_F_hourGoesBy_104 : decode jb_F_hourGoesBy 104 = .ok (.getfield 36, 3) := by decide +kernel
theorem jd_F_hourGoesBy_107 : decode jb_F_hourGoesBy 107 = .ok (.iconst 1, 1) := by decide +kernel
theorem jd_F_hourGoesBy_108 : decode jb_F_hourGoesBy 108 = .ok (.iadd, 1) := by decide +kernel
theorem jd_F_hourGoesBy_109 : decode jb_F_hourGoesBy 109 = .ok (.putfield 36, 3) := by decide +kernel
theorem jd_F_hourGoesBy_112 : decode jb_F_hourGoesBy 112 = .ok (.return_, 1) := by decide +kernel
theorem jd_F_hoursGoBy_0 : decode jb_F_hoursGoBy 0 = .ok (.iconst 0, 1) := by decide +kernel
theorem jd_F_hoursGoBy_1 : decode jb_F_hoursGoBy 1 = .ok (.istore_n 3, 1) := by decide +kernel
theorem jd_F_hoursGoBy_2 : decode jb_F_hoursGoBy 2 = .ok (.iload_n 3, 1) := by decide +kernel
theorem jd_F_hoursGoBy_3 : decode jb_F_hoursGoBy 3 = .ok (.iload_n 2, 1) := by decide +kernel
theorem jd_F_hoursGoBy_4 : decode jb_F_hoursGoBy 4 = .ok (.if_icmp .ge 14, 3) := by decide +kernel
theorem jd_F_hoursGoBy_7 : decode jb_F_hoursGoBy 7 = .ok (.aload_n 0, 1) := by decide +kernel
theorem jd_F_hoursGoBy_8 : decode jb_F_hoursGoBy 8 = .ok (.aload_n 1, 1) := by decide +kernel
theorem jd_F_hoursGoBy_9 : decode jb_F_hoursGoBy 9 = .ok (.invokevirtual 77, 3) := by decide +kernel
theorem jd_F_hoursGoBy_12 : decode jb_F_hoursGoBy 12 = .ok (.iinc 3 1, 3) := by decide +kernel
theorem jd_F_hoursGoBy_15 : decode jb_F_hoursGoBy 15 = .ok (.goto (-13), 3) := by decide +kernel
theorem jd_F_hoursGoBy_18 : decode jb_F_hoursGoBy 18 = .ok (.return_, 1) := by decide +kernel
theorem jd_F_lyingIn_0 : decode jb_F_lyingIn 0 = .ok (.iconst 0, 1) := by decide +kernel
theorem jd_F_lyingIn_1 : decode jb_F_lyingIn 1 = .ok (.istore_n 3, 1) := by decide +kernel
theorem jd_F_lyingIn_2 : decode jb_F_lyingIn 2 = .ok (.iload_n 1, 1) := by decide +kernel
theorem jd_F_lyingIn_3 : decode jb_F_lyingIn 3 = .ok (.istore 4, 2) := by decide +kernel
theorem jd_F_lyingIn_5 : decode jb_F_lyingIn 5 = .ok (.iload 4, 2) := by decide +kernel
theorem jd_F_lyingIn_7 : decode jb_F_lyingIn 7 = .ok (.iload_n 2, 1) := by decide +kernel
theorem jd_F_lyingIn_8 : decode jb_F_lyingIn 8 = .ok (.if_icmp .gt 27, 3) := by decide +kernel
theorem jd_F_lyingIn_11 : decode jb_F_lyingIn 11 = .ok (.iload 4, 2) := by decide +kernel
theorem jd_F_lyingIn_13 : decode jb_F_lyingIn 13 = .ok (.iconst 5, 1) := by decide +kernel
theorem jd_F_lyingIn_14 : decode jb_F_lyingIn 14 = .ok (.if_icmp .ge 21, 3) := by decide +kernel
theorem jd_F_lyingIn_17 : decode jb_F_lyingIn 17 = .ok (.iload_n 3, 1) := by decide +kernel
theorem jd_F_lyingIn_18 : decode jb_F_lyingIn 18 = .ok (.aload_n 0, 1) := by decide +kernel
theorem jd_F_lyingIn_19 : decode jb_F_lyingIn 19 = .ok (.getfield 9, 3) := by decide +kernel
theorem jd_F_lyingIn_22 : decode jb_F_lyingIn 22 = .ok (.iload 4, 2) := by decide +kernel
theorem jd_F_lyingIn_24 : decode jb_F_lyingIn 24 = .ok (.invokestatic 52, 3) := by decide +kernel
theorem jd_F_lyingIn_27 : decode jb_F_lyingIn 27 = .ok (.ior, 1) := by decide +kernel
theorem jd_F_lyingIn_28 : decode jb_F_lyingIn 28 = .ok (.istore_n 3, 1) := by decide +kernel
theorem jd_F_lyingIn_29 : decode jb_F_lyingIn 29 = .ok (.iinc 4 1, 3) := by decide +kernel
theorem jd_F_lyingIn_32 : decode jb_F_lyingIn 32 = .ok (.goto (-27), 3) := by decide +kernel
theorem jd_F_lyingIn_35 : decode jb_F_lyingIn 35 = .ok (.iload_n 3, 1) := by decide +kernel
theorem jd_F_lyingIn_36 : decode jb_F_lyingIn 36 = .ok (.ireturn, 1) := by decide +kernel
theorem jd_F_addLayer_0 : decode jb_F_addLayer 0 = .ok (.aload_n 0, 1) := by decide +kernel
theorem jd_F_addLayer_1 : decode jb_F_addLayer 1 = .ok (.iload_n 1, 1) := by decide +kernel
theorem jd_F_addLayer_2 : decode jb_F_addLayer 2 = .ok (.invokevirtual 56, 3) := by decide +kernel
theorem jd_F_addLayer_5 : decode jb_F_addLayer 5 = .ok (.istore 5, 2) := by decide +kernel
theorem jd_F_addLayer_7 : decode jb_F_addLayer 7 = .ok (.iload 5, 2) := by decide +kernel
theorem jd_F_addLayer_9 : decode jb_F_addLayer 9 = .ok (.bipush 8, 2) := by decide +kernel
theorem jd_F_addLayer_11 : decode jb_F_addLayer 11 = .ok (.if_icmp .ge 61, 3) := by decide +kernel
theorem jd_F_addLayer_14 : decode jb_F_addLayer 14 = .ok (.aload_n 0, 1) := by decide +kernel
theorem jd_F_addLayer_15 : decode jb_F_addLayer 15 = .ok (.getfield 27, 3) := by decide +kernel
theorem jd_F_addLayer_18 : decode jb_F_addLayer 18 = .ok (.iload_n 1, 1) := by decide +kernel
theorem jd_F_addLayer_19 : decode jb_F_addLayer 19 = .ok (.bipush 8, 2) := by decide +kernel
theorem jd_F_addLayer_21 : decode jb_F_addLayer 21 = .ok (.imul, 1) := by decide +kernel
theorem jd_F_addLayer_22 : decode jb_F_addLayer 22 = .ok (.iload 5, 2) := by decide +kernel
theorem jd_F_addLayer_24 : decode jb_F_addLayer 24 = .ok (.iadd, 1) := by decide +kernel
theorem jd_F_addLayer_25 : decode jb_F_addLayer 25 = .ok (.iload_n 2, 1) := by decide +kernel
theorem jd_F_addLayer_26 : decode jb_F_addLayer 26 = .ok (.invokestatic 102, 3) := by decide +kernel
theorem jd_F_addLayer_29 : decode jb_F_addLayer 29 = .ok (.aload_n 0, 1) := by decide +kernel
theorem jd_F_addLayer_30 : decode jb_F_addLayer 30 = .ok (.getfield 30, 3) := by decide +kernel
theorem jd_F_addLayer_33 : decode jb_F_addLayer 33 = .ok (.iload_n 1, 1) := by decide +kernel
theorem jd_F_addLayer_34 : decode jb_F_addLayer 34 = .ok (.bipush 8, 2) := by decide +kernel
theorem jd_F_addLayer_36 : decode jb_F_addLayer 36 = .ok (.imul, 1) := by decide +kernel
theorem jd_F_addLayer_37 : decode jb_F_addLayer 37 = .ok (.iload 5, 2) := by decide +kernel
theorem jd_F_addLayer_39 : decode jb_F_addLayer 39 = .ok (.iadd, 1) := by decide +kernel
theorem jd_F_addLayer_40 : decode jb_F_addLayer 40 = .ok (.iload_n 3, 1) := by decide +kernel
theorem jd_F_addLayer_41 : decode jb_F_addLayer 41 = .ok (.invokestatic 102, 3) := by decide +kernel
theorem jd_F_addLayer_44 : decode jb_F_addLayer 44 = .ok (.aload_n 0, 1) := by decide +kernel
theorem jd_F_addLayer_45 : decode jb_F_addLayer 45 = .ok (.getfield 33, 3) := by decide +kernel
theorem jd_F_addLayer_48 : decode jb_F_addLayer 48 = .ok (.iload_n 1, 1) := by decide +kernel
theorem jd_F_addLayer_49 : decode jb_F_addLayer 49 = .ok (.bipush 8, 2) := by decide +kernel
theorem jd_F_addLayer_51 : decode jb_F_addLayer 51 = .ok (.imul, 1) := by decide +kernel
theorem jd_F_addLayer_52 : decode jb_F_addLayer 52 = .ok (.iload 5, 2) := by decide +kernel
theorem jd_F_addLayer_54 : decode jb_F_addLayer 54 = .ok (.iadd, 1) := by decide +kernel
theorem jd_F_addLayer_55 : decode jb_F_addLayer 55 = .ok (.iload 4, 2) := by decide +kernel
theorem jd_F_addLayer_57 : decode jb_F_addLayer 57 = .ok (.invokestatic 102, 3) := by decide +kernel
theorem jd_F_addLayer_60 : decode jb_F_addLayer 60 = .ok (.aload_n 0, 1) := by decide +kernel
theorem jd_F_addLayer_61 : decode jb_F_addLayer 61 = .ok (.getfield 21, 3) := by decide +kernel
theorem jd_F_addLayer_64 : decode jb_F_addLayer 64 = .ok (.iload_n 1, 1) := by decide +kernel
theorem jd_F_addLayer_65 : decode jb_F_addLayer 65 = .ok (.iload 5, 2) := by decide +kernel
theorem jd_F_addLayer_67 : decode jb_F_addLayer 67 = .ok (.iconst 1, 1) := by decide +kernel
theorem jd_F_addLayer_68 : decode jb_F_addLayer 68 = .ok (.iadd, 1) := by decide +kernel
theorem jd_F_addLayer_69 : decode jb_F_addLayer 69 = .ok (.invokestatic 102, 3) := by decide +kernel
theorem jd_F_addLayer_72 : decode jb_F_addLayer 72 = .ok (.return_, 1) := by decide +kernel
theorem jd_F_gather_0 : decode jb_F_gather 0 = .ok (.iconst 0, 1) := by decide +kernel
theorem jd_F_gather_1 : decode jb_F_gather 1 = .ok (.istore 4, 2) := by decide +kernel
theorem jd_F_gather_3 : decode jb_F_gather 3 = .ok (.iload_n 1, 1) := by decide +kernel
theorem jd_F_gather_4 : decode jb_F_gather 4 = .ok (.istore 5, 2) := by decide +kernel
theorem jd_F_gather_6 : decode jb_F_gather 6 = .ok (.iload 5, 2) := by decide +kernel
theorem jd_F_gather_8 : decode jb_F_gather 8 = .ok (.iload_n 2, 1) := by decide +kernel
theorem jd_F_gather_9 : decode jb_F_gather 9 = .ok (.if_icmp .gt 29, 3) := by decide +kernel
theorem jd_F_gather_12 : decode jb_F_gather 12 = .ok (.iload 5, 2) := by decide +kernel
theorem jd_F_gather_14 : decode jb_F_gather 14 = .ok (.iconst 5, 1) := by decide +kernel
theorem jd_F_gather_15 : decode jb_F_gather 15 = .ok (.if_icmp .ge 23, 3) := by decide +kernel
theorem jd_F_gather_18 : decode jb_F_gather 18 = .ok (.iload 4, 2) := by decide +kernel
theorem jd_F_gather_20 : decode jb_F_gather 20 = .ok (.aload_n 0, 1) := by decide +kernel
theorem jd_F_gather_21 : decode jb_F_gather 21 = .ok (.getfield 15, 3) := by decide +kernel
theorem jd_F_gather_24 : decode jb_F_gather 24 = .ok (.iload 5, 2) := by decide +kernel
theorem jd_F_gather_26 : decode jb_F_gather 26 = .ok (.invokestatic 52, 3) := by decide +kernel
theorem jd_F_gather_29 : decode jb_F_gather 29 = .ok (.iadd, 1) := by decide +kernel
theorem jd_F_gather_30 : decode jb_F_gather 30 = .ok (.istore 4, 2) := by decide +kernel
theorem jd_F_gather_32 : decode jb_F_gather 32 = .ok (.iinc 5 1, 3) := by decide +kernel
theorem jd_F_gather_35 : decode jb_F_gather 35 = .ok (.goto (-29), 3) := by decide +kernel
theorem jd_F_gather_38 : decode jb_F_gather 38 = .ok (.aload_n 0, 1) := by decide +kernel
theorem jd_F_gather_39 : decode jb_F_gather 39 = .ok (.iload_n 3, 1) := by decide +kernel
theorem jd_F_gather_40 : decode jb_F_gather 40 = .ok (.aload_n 0, 1) := by decide +kernel
theorem jd_F_gather_41 : decode jb_F_gather 41 = .ok (.iload_n 1, 1) := by decide +kernel
theorem jd_F_gather_42 : decode jb_F_gather 42 = .ok (.iload_n 2, 1) := by decide +kernel
theorem jd_F_gather_43 : decode jb_F_gather 43 = .ok (.invokevirtual 115, 3) := by decide +kernel
theorem jd_F_gather_46 : decode jb_F_gather 46 = .ok (.bipush 99, 2) := by decide +kernel
theorem jd_F_gather_48 : decode jb_F_gather 48 = .ok (.iload 4, 2) := by decide +kernel
theorem jd_F_gather_50 : decode jb_F_gather 50 = .ok (.invokestatic 106, 3) := by decide +kernel
theorem jd_F_gather_53 : decode jb_F_gather 53 = .ok (.iconst 0, 1) := by decide +kernel
theorem jd_F_gather_54 : decode jb_F_gather 54 = .ok (.invokevirtual 118, 3) := by decide +kernel
theorem jd_F_gather_57 : decode jb_F_gather 57 = .ok (.iload_n 1, 1) := by decide +kernel
theorem jd_F_gather_58 : decode jb_F_gather 58 = .ok (.istore 5, 2) := by decide +kernel
theorem jd_F_gather_60 : decode jb_F_gather 60 = .ok (.iload 5, 2) := by decide +kernel
theorem jd_F_gather_62 : decode jb_F_gather 62 = .ok (.iload_n 2, 1) := by decide +kernel
theorem jd_F_gather_63 : decode jb_F_gather 63 = .ok (.if_icmp .gt 35, 3) := by decide +kernel
theorem jd_F_gather_66 : decode jb_F_gather 66 = .ok (.iload 5, 2) := by decide +kernel
theorem jd_F_gather_68 : decode jb_F_gather 68 = .ok (.iconst 5, 1) := by decide +kernel
theorem jd_F_gather_69 : decode jb_F_gather 69 = .ok (.if_icmp .ge 29, 3) := by decide +kernel
theorem jd_F_gather_72 : decode jb_F_gather 72 = .ok (.aload_n 0, 1) := by decide +kernel
theorem jd_F_gather_73 : decode jb_F_gather 73 = .ok (.getfield 9, 3) := by decide +kernel
theorem jd_F_gather_76 : decode jb_F_gather 76 = .ok (.iload 5, 2) := by decide +kernel
theorem jd_F_gather_78 : decode jb_F_gather 78 = .ok (.iconst 0, 1) := by decide +kernel
theorem jd_F_gather_79 : decode jb_F_gather 79 = .ok (.invokestatic 102, 3) := by decide +kernel
theorem jd_F_gather_82 : decode jb_F_gather 82 = .ok (.aload_n 0, 1) := by decide +kernel
theorem jd_F_gather_83 : decode jb_F_gather 83 = .ok (.getfield 15, 3) := by decide +kernel
theorem jd_F_gather_86 : decode jb_F_gather 86 = .ok (.iload 5, 2) := by decide +kernel
theorem jd_F_gather_88 : decode jb_F_gather 88 = .ok (.iconst 0, 1) := by decide +kernel
theorem jd_F_gather_89 : decode jb_F_gather 89 = .ok (.invokestatic 102, 3) := by decide +kernel
theorem jd_F_gather_92 : decode jb_F_gather 92 = .ok (.iinc 5 1, 3) := by decide +kernel
theorem jd_F_gather_95 : decode jb_F_gather 95 = .ok (.goto (-35), 3) := by decide +kernel
theorem jd_F_gather_98 : decode jb_F_gather 98 = .ok (.return_, 1) := by decide +kernel
theorem jd_F_wordsFromTop_0 : decode jb_F_wordsFromTop 0 = .ok (.iload_n 2, 1) := by decide +kernel
theorem jd_F_wordsFromTop_1 : decode jb_F_wordsFromTop 1 = .ok (.aload_n 0, 1) := by decide +kernel
theorem jd_F_wordsFromTop_2 : decode jb_F_wordsFromTop 2 = .ok (.iload_n 1, 1) := by decide +kernel
theorem jd_F_wordsFromTop_3 : decode jb_F_wordsFromTop 3 = .ok (.invokevirtual 56, 3) := by decide +kernel
theorem jd_F_wordsFromTop_6 : decode jb_F_wordsFromTop 6 = .ok (.if_icmp .ge 20, 3) := by decide +kernel
theorem jd_F_wordsFromTop_9 : decode jb_F_wordsFromTop 9 = .ok (.aload_n 0, 1) := by decide +kernel
theorem jd_F_wordsFromTop_10 : decode jb_F_wordsFromTop 10 = .ok (.iload_n 1, 1) := by decide +kernel
theorem jd_F_wordsFromTop_11 : decode jb_F_wordsFromTop 11 = .ok (.aload_n 0, 1) := by decide +kernel
theorem jd_F_wordsFromTop_12 : decode jb_F_wordsFromTop 12 = .ok (.iload_n 1, 1) := by decide +kernel
theorem jd_F_wordsFromTop_13 : decode jb_F_wordsFromTop 13 = .ok (.invokevirtual 56, 3) := by decide +kernel
theorem jd_F_wordsFromTop_16 : decode jb_F_wordsFromTop 16 = .ok (.iconst 1, 1) := by decide +kernel
theorem jd_F_wordsFromTop_17 : decode jb_F_wordsFromTop 17 = .ok (.isub, 1) := by decide +kernel
theorem jd_F_wordsFromTop_18 : decode jb_F_wordsFromTop 18 = .ok (.iload_n 2, 1) := by decide +kernel
theorem jd_F_wordsFromTop_19 : decode jb_F_wordsFromTop 19 = .ok (.isub, 1) := by decide +kernel
theorem jd_F_wordsFromTop_20 : decode jb_F_wordsFromTop 20 = .ok (.invokevirtual 60, 3) := by decide +kernel
theorem jd_F_wordsFromTop_23 : decode jb_F_wordsFromTop 23 = .ok (.goto 4, 3) := by decide +kernel
theorem jd_F_wordsFromTop_26 : decode jb_F_wordsFromTop 26 = .ok (.iconst 0, 1) := by decide +kernel
theorem jd_F_wordsFromTop_27 : decode jb_F_wordsFromTop 27 = .ok (.ireturn, 1) := by decide +kernel
theorem jd_H_wordsAboveAll_0 : decode jb_H_wordsAboveAll 0 = .ok (.iload_n 0, 1) := by decide +kernel
theorem jd_H_wordsAboveAll_1 : decode jb_H_wordsAboveAll 1 = .ok (.istore_n 2, 1) := by decide +kernel
theorem jd_H_wordsAboveAll_2 : decode jb_H_wordsAboveAll 2 = .ok (.iconst 0, 1) := by decide +kernel
theorem jd_H_wordsAboveAll_3 : decode jb_H_wordsAboveAll 3 = .ok (.istore_n 3, 1) := by decide +kernel
theorem jd_H_wordsAboveAll_4 : decode jb_H_wordsAboveAll 4 = .ok (.iload_n 3, 1) := by decide +kernel
theorem jd_H_wordsAboveAll_5 : decode jb_H_wordsAboveAll 5 = .ok (.bipush 9, 2) := by decide +kernel
theorem jd_H_wordsAboveAll_7 : decode jb_H_wordsAboveAll 7 = .ok (.if_icmp .gt 23, 3) := by decide +kernel
theorem jd_H_wordsAboveAll_10 : decode jb_H_wordsAboveAll 10 = .ok (.iload_n 1, 1) := by decide +kernel
theorem jd_H_wordsAboveAll_11 : decode jb_H_wordsAboveAll 11 = .ok (.iload_n 3, 1) := by decide +kernel
theorem jd_H_wordsAboveAll_12 : decode jb_H_wordsAboveAll 12 = .ok (.ishr, 1) := by decide +kernel
theorem jd_H_wordsAboveAll_13 : decode jb_H_wordsAboveAll 13 = .ok (.ifCond .eq 11, 3) := by decide +kernel
theorem jd_H_wordsAboveAll_16 : decode jb_H_wordsAboveAll 16 = .ok (.iload_n 2, 1) := by decide +kernel
theorem jd_H_wordsAboveAll_17 : decode jb_H_wordsAboveAll 17 = .ok (.iconst 1, 1) := by decide +kernel
theorem jd_H_wordsAboveAll_18 : decode jb_H_wordsAboveAll 18 = .ok (.iload_n 3, 1) := by decide +kernel
theorem jd_H_wordsAboveAll_19 : decode jb_H_wordsAboveAll 19 = .ok (.ishl, 1) := by decide +kernel
theorem jd_H_wordsAboveAll_20 : decode jb_H_wordsAboveAll 20 = .ok (.iconst (-1), 1) := by decide +kernel
theorem jd_H_wordsAboveAll_21 : decode jb_H_wordsAboveAll 21 = .ok (.ixor, 1) := by decide +kernel
theorem jd_H_wordsAboveAll_22 : decode jb_H_wordsAboveAll 22 = .ok (.iand, 1) := by decide +kernel
theorem jd_H_wordsAboveAll_23 : decode jb_H_wordsAboveAll 23 = .ok (.istore_n 2, 1) := by decide +kernel
theorem jd_H_wordsAboveAll_24 : decode jb_H_wordsAboveAll 24 = .ok (.iinc 3 1, 3) := by decide +kernel
theorem jd_H_wordsAboveAll_27 : decode jb_H_wordsAboveAll 27 = .ok (.goto (-23), 3) := by decide +kernel
theorem jd_H_wordsAboveAll_30 : decode jb_H_wordsAboveAll 30 = .ok (.iload_n 2, 1) := by decide +kernel
theorem jd_H_wordsAboveAll_31 : decode jb_H_wordsAboveAll 31 = .ok (.ireturn, 1) := by decide +kernel
theorem jd_H_heardBy_0 : decode jb_H_heardBy 0 = .ok (.iload_n 0, 1) := by decide +kernel
theorem jd_H_heardBy_1 : decode jb_H_heardBy 1 = .ok (.tableswitch 40 0 2 #[27, 29, 35], 27) := by decide +kernel
theorem jd_H_heardBy_28 : decode jb_H_heardBy 28 = .ok (.iload_n 1, 1) := by decide +kernel
theorem jd_H_heardBy_29 : decode jb_H_heardBy 29 = .ok (.ireturn, 1) := by decide +kernel
theorem jd_H_heardBy_30 : decode jb_H_heardBy 30 = .ok (.iload_n 1, 1) := by decide +kernel
theorem jd_H_heardBy_31 : decode jb_H_heardBy 31 = .ok (.sipush 341, 3) := by decide +kernel
theorem jd_H_heardBy_34 : decode jb_H_heardBy 34 = .ok (.iand, 1) := by decide +kernel
theorem jd_H_heardBy_35 : decode jb_H_heardBy 35 = .ok (.ireturn, 1) := by decide +kernel
theorem jd_H_heardBy_36 : decode jb_H_heardBy 36 = .ok (.iload_n 1, 1) := by decide +kernel
theorem jd_H_heardBy_37 : decode jb_H_heardBy 37 = .ok (.iload_n 1, 1) := by decide +kernel
theorem jd_H_heardBy_38 : decode jb_H_heardBy 38 = .ok (.ineg, 1) := by decide +kernel
theorem jd_H_heardBy_39 : decode jb_H_heardBy 39 = .ok (.iand, 1) := by decide +kernel
theorem jd_H_heardBy_40 : decode jb_H_heardBy 40 = .ok (.ireturn, 1) := by decide +kernel
theorem jd_H_heardBy_41 : decode jb_H_heardBy 41 = .ok (.iload_n 1, 1) := by decide +kernel
theorem jd_H_heardBy_42 : decode jb_H_heardBy 42 = .ok (.iload_n 2, 1) := by decide +kernel
theorem jd_H_heardBy_43 : decode jb_H_heardBy 43 = .ok (.invokestatic 260, 3) := by decide +kernel
theorem jd_H_heardBy_46 : decode jb_H_heardBy 46 = .ok (.ireturn, 1) := by decide +kernel
theorem jd_F_freshFor_0 : decode jb_F_freshFor 0 = .ok (.aload_n 0, 1) := by decide +kernel
theorem jd_F_freshFor_1 : decode jb_F_freshFor 1 = .ok (.getfield 18, 3) := by decide +kernel
theorem jd_F_freshFor_4 : decode jb_F_freshFor 4 = .ok (.iload_n 2, 1) := by decide +kernel
theorem jd_F_freshFor_5 : decode jb_F_freshFor 5 = .ok (.invokestatic 52, 3) := by decide +kernel
theorem jd_F_freshFor_8 : decode jb_F_freshFor 8 = .ok (.istore 4, 2) := by decide +kernel
theorem jd_F_freshFor_10 : decode jb_F_freshFor 10 = .ok (.iload_n 3, 1) := by decide +kernel
theorem jd_F_freshFor_11 : decode jb_F_freshFor 11 = .ok (.aload_n 0, 1) := by decide +kernel
theorem jd_F_freshFor_12 : decode jb_F_freshFor 12 = .ok (.iload_n 1, 1) := by decide +kernel
theorem jd_F_freshFor_13 : decode jb_F_freshFor 13 = .ok (.iconst 0, 1) := by decide +kernel
theorem jd_F_freshFor_14 : decode jb_F_freshFor 14 = .ok (.invokevirtual 122, 3) := by decide +kernel
theorem jd_F_freshFor_17 : decode jb_F_freshFor 17 = .ok (.iload 4, 2) := by decide +kernel
theorem jd_F_freshFor_19 : decode jb_F_freshFor 19 = .ok (.invokestatic 125, 3) := by decide +kernel
theorem jd_F_freshFor_22 : decode jb_F_freshFor 22 = .ok (.iload 4, 2) := by decide +kernel
theorem jd_F_freshFor_24 : decode jb_F_freshFor 24 = .ok (.iconst (-1), 1) := by decide +kernel
theorem jd_F_freshFor_25 : decode jb_F_freshFor 25 = .ok (.ixor, 1) := by decide +kernel
theorem jd_F_freshFor_26 : decode jb_F_freshFor 26 = .ok (.iand, 1) := by decide +kernel
theorem jd_F_freshFor_27 : decode jb_F_freshFor 27 = .ok (.ireturn, 1) := by decide +kernel
theorem jd_F_feed_0 : decode jb_F_feed 0 = .ok (.aload_n 0, 1) := by decide +kernel
theorem jd_F_feed_1 : decode jb_F_feed 1 = .ok (.iload_n 1, 1) := by decide +kernel
theorem jd_F_feed_2 : decode jb_F_feed 2 = .ok (.iload_n 2, 1) := by decide +kernel
theorem jd_F_feed_3 : decode jb_F_feed 3 = .ok (.iload_n 3, 1) := by decide +kernel
theorem jd_F_feed_4 : decode jb_F_feed 4 = .ok (.invokevirtual 129, 3) := by decide +kernel
theorem jd_F_feed_7 : decode jb_F_feed 7 = .ok (.istore 4, 2) := by decide +kernel
theorem jd_F_feed_9 : decode jb_F_feed 9 = .ok (.aload_n 0, 1) := by decide +kernel
theorem jd_F_feed_10 : decode jb_F_feed 10 = .ok (.getfield 18, 3) := by decide +kernel
theorem jd_F_feed_13 : decode jb_F_feed 13 = .ok (.iload_n 2, 1) := by decide +kernel
theorem jd_F_feed_14 : decode jb_F_feed 14 = .ok (.aload_n 0, 1) := by decide +kernel
theorem jd_F_feed_15 : decode jb_F_feed 15 = .ok (.getfield 18, 3) := by decide +kernel
theorem jd_F_feed_18 : decode jb_F_feed 18 = .ok (.iload_n 2, 1) := by decide +kernel
theorem jd_F_feed_19 : decode jb_F_feed 19 = .ok (.invokestatic 52, 3) := by decide +kernel
theorem jd_F_feed_22 : decode jb_F_feed 22 = .ok (.iload 4, 2) := by decide +kernel
theorem jd_F_feed_24 : decode jb_F_feed 24 = .ok (.ior, 1) := by decide +kernel
theorem jd_F_feed_25 : decode jb_F_feed 25 = .ok (.invokestatic 102, 3) := by decide +kernel
theorem jd_F_feed_28 : decode jb_F_feed 28 = .ok (.aload_n 0, 1) := by decide +kernel
theorem jd_F_feed_29 : decode jb_F_feed 29 = .ok (.getfield 21, 3) := by decide +kernel
theorem jd_F_feed_32 : decode jb_F_feed 32 = .ok (.iload_n 1, 1) := by decide +kernel
theorem jd_F_feed_33 : decode jb_F_feed 33 = .ok (.iconst 0, 1) := by decide +kernel
theorem jd_F_feed_34 : decode jb_F_feed 34 = .ok (.aload_n 0, 1) := by decide +kernel
theorem jd_F_feed_35 : decode jb_F_feed 35 = .ok (.iload_n 1, 1) := by decide +kernel
theorem jd_F_feed_36 : decode jb_F_feed 36 = .ok (.invokevirtual 56, 3) := by decide +kernel
theorem jd_F_feed_39 : decode jb_F_feed 39 = .ok (.iconst 1, 1) := by decide +kernel
theorem jd_F_feed_40 : decode jb_F_feed 40 = .ok (.isub, 1) := by decide +kernel
theorem jd_F_feed_41 : decode jb_F_feed 41 = .ok (.invokestatic 67, 3) := by decide +kernel
theorem jd_F_feed_44 : decode jb_F_feed 44 = .ok (.invokestatic 102, 3) := by decide +kernel
theorem jd_F_feed_47 : decode jb_F_feed 47 = .ok (.iload 4, 2) := by decide +kernel
theorem jd_F_feed_49 : decode jb_F_feed 49 = .ok (.ireturn, 1) := by decide +kernel
theorem jd_F_stack_0 : decode jb_F_stack 0 = .ok (.aload_n 0, 1) := by decide +kernel
theorem jd_F_stack_1 : decode jb_F_stack 1 = .ok (.iload_n 1, 1) := by decide +kernel
theorem jd_F_stack_2 : decode jb_F_stack 2 = .ok (.invokevirtual 56, 3) := by decide +kernel
theorem jd_F_stack_5 : decode jb_F_stack 5 = .ok (.istore_n 3, 1) := by decide +kernel
theorem jd_F_stack_6 : decode jb_F_stack 6 = .ok (.iconst 0, 1) := by decide +kernel
theorem jd_F_stack_7 : decode jb_F_stack 7 = .ok (.istore 4, 2) := by decide +kernel
theorem jd_F_stack_9 : decode jb_F_stack 9 = .ok (.iload 4, 2) := by decide +kernel
theorem jd_F_stack_11 : decode jb_F_stack 11 = .ok (.iload_n 3, 1) := by decide +kernel
theorem jd_F_stack_12 : decode jb_F_stack 12 = .ok (.if_icmp .ge 35, 3) := by decide +kernel
theorem jd_F_stack_15 : decode jb_F_stack 15 = .ok (.aload_n 0, 1) := by decide +kernel
theorem jd_F_stack_16 : decode jb_F_stack 16 = .ok (.iload_n 2, 1) := by decide +kernel
theorem jd_F_stack_17 : decode jb_F_stack 17 = .ok (.aload_n 0, 1) := by decide +kernel
theorem jd_F_stack_18 : decode jb_F_stack 18 = .ok (.iload_n 1, 1) := by decide +kernel
theorem jd_F_stack_19 : decode jb_F_stack 19 = .ok (.iload 4, 2) := by decide +kernel
theorem jd_F_stack_21 : decode jb_F_stack 21 = .ok (.invokevirtual 60, 3) := by decide +kernel
theorem jd_F_stack_24 : decode jb_F_stack 24 = .ok (.aload_n 0, 1) := by decide +kernel
theorem jd_F_stack_25 : decode jb_F_stack 25 = .ok (.iload_n 1, 1) := by decide +kernel
theorem jd_F_stack_26 : decode jb_F_stack 26 = .ok (.iload 4, 2) := by decide +kernel
theorem jd_F_stack_28 : decode jb_F_stack 28 = .ok (.invokevirtual 109, 3) := by decide +kernel
theorem jd_F_stack_31 : decode jb_F_stack 31 = .ok (.aload_n 0, 1) := by decide +kernel
theorem jd_F_stack_32 : decode jb_F_stack 32 = .ok (.iload_n 1, 1) := by decide +kernel
theorem jd_F_stack_33 : decode jb_F_stack 33 = .ok (.iload 4, 2) := by decide +kernel
theorem jd_F_stack_35 : decode jb_F_stack 35 = .ok (.invokevirtual 64, 3) := by decide +kernel
theorem jd_F_stack_38 : decode jb_F_stack 38 = .ok (.invokevirtual 118, 3) := by decide +kernel
theorem jd_F_stack_41 : decode jb_F_stack 41 = .ok (.iinc 4 1, 3) := by decide +kernel
theorem jd_F_stack_44 : decode jb_F_stack 44 = .ok (.goto (-35), 3) := by decide +kernel
theorem jd_F_stack_47 : decode jb_F_stack 47 = .ok (.aload_n 0, 1) := by decide +kernel
theorem jd_F_stack_48 : decode jb_F_stack 48 = .ok (.getfield 21, 3) := by decide +kernel
theorem jd_F_stack_51 : decode jb_F_stack 51 = .ok (.iload_n 1, 1) := by decide +kernel
theorem jd_F_stack_52 : decode jb_F_stack 52 = .ok (.iconst 0, 1) := by decide +kernel
theorem jd_F_stack_53 : decode jb_F_stack 53 = .ok (.invokestatic 102, 3) := by decide +kernel
theorem jd_F_stack_56 : decode jb_F_stack 56 = .ok (.return_, 1) := by decide +kernel
theorem jd_F_placesOf_0 : decode jb_F_placesOf 0 = .ok (.iconst 0, 1) := by decide +kernel
theorem jd_F_placesOf_1 : decode jb_F_placesOf 1 = .ok (.istore_n 3, 1) := by decide +kernel
theorem jd_F_placesOf_2 : decode jb_F_placesOf 2 = .ok (.iconst 0, 1) := by decide +kernel
theorem jd_F_placesOf_3 : decode jb_F_placesOf 3 = .ok (.istore 4, 2) := by decide +kernel
theorem jd_F_placesOf_5 : decode jb_F_placesOf 5 = .ok (.iload 4, 2) := by decide +kernel
theorem jd_F_placesOf_7 : decode jb_F_placesOf 7 = .ok (.aload_n 0, 1) := by decide +kernel
theorem jd_F_placesOf_8 : decode jb_F_placesOf 8 = .ok (.iload_n 1, 1) := by decide +kernel
theorem jd_F_placesOf_9 : decode jb_F_placesOf 9 = .ok (.invokevirtual 56, 3) := by decide +kernel
theorem jd_F_placesOf_12 : decode jb_F_placesOf 12 = .ok (.if_icmp .ge 30, 3) := by decide +kernel
theorem jd_F_placesOf_15 : decode jb_F_placesOf 15 = .ok (.aload_n 0, 1) := by decide +kernel
theorem jd_F_placesOf_16 : decode jb_F_placesOf 16 = .ok (.iload_n 1, 1) := by decide +kernel
theorem jd_F_placesOf_17 : decode jb_F_placesOf 17 = .ok (.iload 4, 2) := by decide +kernel
theorem jd_F_placesOf_19 : decode jb_F_placesOf 19 = .ok (.invokevirtual 60, 3) := by decide +kernel
theorem jd_F_placesOf_22 : decode jb_F_placesOf 22 = .ok (.iload_n 2, 1) := by decide +kernel
theorem jd_F_placesOf_23 : decode jb_F_placesOf 23 = .ok (.ishr, 1) := by decide +kernel
theorem jd_F_placesOf_24 : decode jb_F_placesOf 24 = .ok (.iconst 1, 1) := by decide +kernel
theorem jd_F_placesOf_25 : decode jb_F_placesOf 25 = .ok (.iand, 1) := by decide +kernel
theorem jd_F_placesOf_26 : decode jb_F_placesOf 26 = .ok (.ifCond .eq 10, 3) := by decide +kernel
theorem jd_F_placesOf_29 : decode jb_F_placesOf 29 = .ok (.iload_n 3, 1) := by decide +kernel
theorem jd_F_placesOf_30 : decode jb_F_placesOf 30 = .ok (.iload 4, 2) := by decide +kernel
theorem jd_F_placesOf_32 : decode jb_F_placesOf 32 = .ok (.iconst 1, 1) := by decide +kernel
theorem jd_F_placesOf_33 : decode jb_F_placesOf 33 = .ok (.iadd, 1) := by decide +kernel
theorem jd_F_placesOf_34 : decode jb_F_placesOf 34 = .ok (.iadd, 1) := by decide +kernel
theorem jd_F_placesOf_35 : decode jb_F_placesOf 35 = .ok (.istore_n 3, 1) := by decide +kernel
theorem jd_F_placesOf_36 : decode jb_F_placesOf 36 = .ok (.iinc 4 1, 3) := by decide +kernel
theorem jd_F_placesOf_39 : decode jb_F_placesOf 39 = .ok (.goto (-34), 3) := by decide +kernel
theorem jd_F_placesOf_42 : decode jb_F_placesOf 42 = .ok (.iload_n 3, 1) := by decide +kernel
theorem jd_F_placesOf_43 : decode jb_F_placesOf 43 = .ok (.ireturn, 1) := by decide +kernel
theorem jd_F_wordsTold_0 : decode jb_F_wordsTold 0 = .ok (.iconst 0, 1) := by decide +kernel
theorem jd_F_wordsTold_1 : decode jb_F_wordsTold 1 = .ok (.istore_n 1, 1) := by decide +kernel
theorem jd_F_wordsTold_2 : decode jb_F_wordsTold 2 = .ok (.iconst 0, 1) := by decide +kernel
theorem jd_F_wordsTold_3 : decode jb_F_wordsTold 3 = .ok (.istore_n 2, 1) := by decide +kernel
theorem jd_F_wordsTold_4 : decode jb_F_wordsTold 4 = .ok (.iload_n 2, 1) := by decide +kernel
theorem jd_F_wordsTold_5 : decode jb_F_wordsTold 5 = .ok (.iconst 4, 1) := by decide +kernel
theorem jd_F_wordsTold_6 : decode jb_F_wordsTold 6 = .ok (.if_icmp .ge 23, 3) := by decide +kernel
theorem jd_F_wordsTold_9 : decode jb_F_wordsTold 9 = .ok (.iload_n 1, 1) := by decide +kernel
theorem jd_F_wordsTold_10 : decode jb_F_wordsTold 10 = .ok (.aload_n 0, 1) := by decide +kernel
theorem jd_F_wordsTold_11 : decode jb_F_wordsTold 11 = .ok (.getfield 18, 3) := by decide +kernel
theorem jd_F_wordsTold_14 : decode jb_F_wordsTold 14 = .ok (.iload_n 2, 1) := by decide +kernel
theorem jd_F_wordsTold_15 : decode jb_F_wordsTold 15 = .ok (.invokestatic 52, 3) := by decide +kernel
theorem jd_F_wordsTold_18 : decode jb_F_wordsTold 18 = .ok (.invokestatic 72, 3) := by decide +kernel
theorem jd_F_wordsTold_21 : decode jb_F_wordsTold 21 = .ok (.iadd, 1) := by decide +kernel
theorem jd_F_wordsTold_22 : decode jb_F_wordsTold 22 = .ok (.istore_n 1, 1) := by decide +kernel
theorem jd_F_wordsTold_23 : decode jb_F_wordsTold 23 = .ok (.iinc 2 1, 3) := by decide +kernel
theorem jd_F_wordsTold_26 : decode jb_F_wordsTold 26 = .ok (.goto (-22), 3) := by decide +kernel
theorem jd_F_wordsTold_29 : decode jb_F_wordsTold 29 = .ok (.iload_n 1, 1) := by decide +kernel
theorem jd_F_wordsTold_30 : decode jb_F_wordsTold 30 = .ok (.ireturn, 1) := by decide +kernel
