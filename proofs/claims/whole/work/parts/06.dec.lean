theorem jd_R_at_0 : decode jb_R_at 0 = .ok (.iload_n 1, 1) := by decide +kernel
theorem jd_R_at_1 : decode jb_R_at 1 = .ok (.ifCond .lt 15, 3) := by decide +kernel
theorem jd_R_at_4 : decode jb_R_at 4 = .ok (.iload_n 1, 1) := by decide +kernel
theorem jd_R_at_5 : decode jb_R_at 5 = .ok (.aload_n 0, 1) := by decide +kernel
theorem jd_R_at_6 : decode jb_R_at 6 = .ok (.arraylength, 1) := by decide +kernel
theorem jd_R_at_7 : decode jb_R_at 7 = .ok (.if_icmp .ge 9, 3) := by decide +kernel
theorem jd_R_at_10 : decode jb_R_at 10 = .ok (.aload_n 0, 1) := by decide +kernel
theorem jd_R_at_11 : decode jb_R_at 11 = .ok (.iload_n 1, 1) := by decide +kernel
theorem jd_R_at_12 : decode jb_R_at 12 = .ok (.iaload, 1) := by decide +kernel
theorem jd_R_at_13 : decode jb_R_at 13 = .ok (.goto 4, 3) := by decide +kernel
theorem jd_R_at_16 : decode jb_R_at 16 = .ok (.iconst 0, 1) := by decide +kernel
theorem jd_R_at_17 : decode jb_R_at 17 = .ok (.ireturn, 1) := by decide +kernel
theorem jd_R_put_0 : decode jb_R_put 0 = .ok (.iload_n 1, 1) := by decide +kernel
theorem jd_R_put_1 : decode jb_R_put 1 = .ok (.ifCond .lt 13, 3) := by decide +kernel
theorem jd_R_put_4 : decode jb_R_put 4 = .ok (.iload_n 1, 1) := by decide +kernel
theorem jd_R_put_5 : decode jb_R_put 5 = .ok (.aload_n 0, 1) := by decide +kernel
theorem jd_R_put_6 : decode jb_R_put 6 = .ok (.arraylength, 1) := by decide +kernel
theorem jd_R_put_7 : decode jb_R_put 7 = .ok (.if_icmp .ge 7, 3) := by decide +kernel
theorem jd_R_put_10 : decode jb_R_put 10 = .ok (.aload_n 0, 1) := by decide +kernel
theorem jd_R_put_11 : decode jb_R_put 11 = .ok (.iload_n 1, 1) := by decide +kernel
theorem jd_R_put_12 : decode jb_R_put 12 = .ok (.iload_n 2, 1) := by decide +kernel
theorem jd_R_put_13 : decode jb_R_put 13 = .ok (.iastore, 1) := by decide +kernel
theorem jd_R_put_14 : decode jb_R_put 14 = .ok (.return_, 1) := by decide +kernel
theorem jd_R_copy_0 : decode jb_R_copy 0 = .ok (.iconst 0, 1) := by decide +kernel
theorem jd_R_copy_1 : decode jb_R_copy 1 = .ok (.istore_n 2, 1) := by decide +kernel
theorem jd_R_copy_2 : decode jb_R_copy 2 = .ok (.iload_n 2, 1) := by decide +kernel
theorem jd_R_copy_3 : decode jb_R_copy 3 = .ok (.aload_n 0, 1) := by decide +kernel
theorem jd_R_copy_4 : decode jb_R_copy 4 = .ok (.arraylength, 1) := by decide +kernel
theorem jd_R_copy_5 : decode jb_R_copy 5 = .ok (.if_icmp .ge 21, 3) := by decide +kernel
theorem jd_R_copy_8 : decode jb_R_copy 8 = .ok (.iload_n 2, 1) := by decide +kernel
theorem jd_R_copy_9 : decode jb_R_copy 9 = .ok (.aload_n 1, 1) := by decide +kernel
theorem jd_R_copy_10 : decode jb_R_copy 10 = .ok (.arraylength, 1) := by decide +kernel
theorem jd_R_copy_11 : decode jb_R_copy 11 = .ok (.if_icmp .ge 15, 3) := by decide +kernel
theorem jd_R_copy_14 : decode jb_R_copy 14 = .ok (.aload_n 1, 1) := by decide +kernel
theorem jd_R_copy_15 : decode jb_R_copy 15 = .ok (.iload_n 2, 1) := by decide +kernel
theorem jd_R_copy_16 : decode jb_R_copy 16 = .ok (.aload_n 0, 1) := by decide +kernel
theorem jd_R_copy_17 : decode jb_R_copy 17 = .ok (.iload_n 2, 1) := by decide +kernel
theorem jd_R_copy_18 : decode jb_R_copy 18 = .ok (.iaload, 1) := by decide +kernel
theorem jd_R_copy_19 : decode jb_R_copy 19 = .ok (.iastore, 1) := by decide +kernel
theorem jd_R_copy_20 : decode jb_R_copy 20 = .ok (.iinc 2 1, 3) := by decide +kernel
theorem jd_R_copy_23 : decode jb_R_copy 23 = .ok (.goto (-21), 3) := by decide +kernel
theorem jd_R_copy_26 : decode jb_R_copy 26 = .ok (.return_, 1) := by decide +kernel
theorem jd_R_sum_0 : decode jb_R_sum 0 = .ok (.iconst 0, 1) := by decide +kernel
theorem jd_R_sum_1 : decode jb_R_sum 1 = .ok (.istore_n 1, 1) := by decide +kernel
theorem jd_R_sum_2 : decode jb_R_sum 2 = .ok (.iconst 0, 1) := by decide +kernel
theorem jd_R_sum_3 : decode jb_R_sum 3 = .ok (.istore_n 2, 1) := by decide +kernel
theorem jd_R_sum_4 : decode jb_R_sum 4 = .ok (.iload_n 2, 1) := by decide +kernel
theorem jd_R_sum_5 : decode jb_R_sum 5 = .ok (.aload_n 0, 1) := by decide +kernel
theorem jd_R_sum_6 : decode jb_R_sum 6 = .ok (.arraylength, 1) := by decide +kernel
theorem jd_R_sum_7 : decode jb_R_sum 7 = .ok (.if_icmp .ge 15, 3) := by decide +kernel
theorem jd_R_sum_10 : decode jb_R_sum 10 = .ok (.iload_n 1, 1) := by decide +kernel
theorem jd_R_sum_11 : decode jb_R_sum 11 = .ok (.aload_n 0, 1) := by decide +kernel
theorem jd_R_sum_12 : decode jb_R_sum 12 = .ok (.iload_n 2, 1) := by decide +kernel
theorem jd_R_sum_13 : decode jb_R_sum 13 = .ok (.iaload, 1) := by decide +kernel
theorem jd_R_sum_14 : decode jb_R_sum 14 = .ok (.iadd, 1) := by decide +kernel
theorem jd_R_sum_15 : decode jb_R_sum 15 = .ok (.istore_n 1, 1) := by decide +kernel
theorem jd_R_sum_16 : decode jb_R_sum 16 = .ok (.iinc 2 1, 3) := by decide +kernel
theorem jd_R_sum_19 : decode jb_R_sum 19 = .ok (.goto (-15), 3) := by decide +kernel
theorem jd_R_sum_22 : decode jb_R_sum 22 = .ok (.iload_n 1, 1) := by decide +kernel
theorem jd_R_sum_23 : decode jb_R_sum 23 = .ok (.ireturn, 1) := by decide +kernel
theorem jd_M_in_0 : decode jb_M_in 0 = .ok (.lload_n 0, 1) := by decide +kernel
theorem jd_M_in_1 : decode jb_M_in 1 = .ok (.lload_n 2, 1) := by decide +kernel
theorem jd_M_in_2 : decode jb_M_in 2 = .ok (.lcmp, 1) := by decide +kernel
theorem jd_M_in_3 : decode jb_M_in 3 = .ok (.ifCond .lt 14, 3) := by decide +kernel
theorem jd_M_in_6 : decode jb_M_in 6 = .ok (.lload_n 0, 1) := by decide +kernel
theorem jd_M_in_7 : decode jb_M_in 7 = .ok (.lload 4, 2) := by decide +kernel
theorem jd_M_in_9 : decode jb_M_in 9 = .ok (.lcmp, 1) := by decide +kernel
theorem jd_M_in_10 : decode jb_M_in 10 = .ok (.ifCond .gt 7, 3) := by decide +kernel
theorem jd_M_in_13 : decode jb_M_in 13 = .ok (.iconst 1, 1) := by decide +kernel
theorem jd_M_in_14 : decode jb_M_in 14 = .ok (.goto 4, 3) := by decide +kernel
theorem jd_M_in_17 : decode jb_M_in 17 = .ok (.iconst 0, 1) := by decide +kernel
theorem jd_M_in_18 : decode jb_M_in 18 = .ok (.ireturn, 1) := by decide +kernel
theorem jd_M_isRow_0 : decode jb_M_isRow 0 = .ok (.iload_n 2, 1) := by decide +kernel
theorem jd_M_isRow_1 : decode jb_M_isRow 1 = .ok (.iload_n 1, 1) := by decide +kernel
theorem jd_M_isRow_2 : decode jb_M_isRow 2 = .ok (.isub, 1) := by decide +kernel
theorem jd_M_isRow_3 : decode jb_M_isRow 3 = .ok (.i2l, 1) := by decide +kernel
theorem jd_M_isRow_4 : decode jb_M_isRow 4 = .ok (.lconst 1, 1) := by decide +kernel
theorem jd_M_isRow_5 : decode jb_M_isRow 5 = .ok (.ldc2_w 77, 3) := by decide +kernel
theorem jd_M_isRow_8 : decode jb_M_isRow 8 = .ok (.invokestatic 73, 3) := by decide +kernel
theorem jd_M_isRow_11 : decode jb_M_isRow 11 = .ok (.istore 4, 2) := by decide +kernel
theorem jd_M_isRow_13 : decode jb_M_isRow 13 = .ok (.iload_n 1, 1) := by decide +kernel
theorem jd_M_isRow_14 : decode jb_M_isRow 14 = .ok (.istore 5, 2) := by decide +kernel
theorem jd_M_isRow_16 : decode jb_M_isRow 16 = .ok (.iload 5, 2) := by decide +kernel
theorem jd_M_isRow_18 : decode jb_M_isRow 18 = .ok (.iload_n 2, 1) := by decide +kernel
theorem jd_M_isRow_19 : decode jb_M_isRow 19 = .ok (.if_icmp .ge 35, 3) := by decide +kernel
theorem jd_M_isRow_22 : decode jb_M_isRow 22 = .ok (.iload 4, 2) := by decide +kernel
theorem jd_M_isRow_24 : decode jb_M_isRow 24 = .ok (.ifCond .eq 30, 3) := by decide +kernel
theorem jd_M_isRow_27 : decode jb_M_isRow 27 = .ok (.aload_n 0, 1) := by decide +kernel
theorem jd_M_isRow_28 : decode jb_M_isRow 28 = .ok (.getfield 7, 3) := by decide +kernel
theorem jd_M_isRow_31 : decode jb_M_isRow 31 = .ok (.iload 5, 2) := by decide +kernel
theorem jd_M_isRow_33 : decode jb_M_isRow 33 = .ok (.iaload, 1) := by decide +kernel
theorem jd_M_isRow_34 : decode jb_M_isRow 34 = .ok (.i2l, 1) := by decide +kernel
theorem jd_M_isRow_35 : decode jb_M_isRow 35 = .ok (.ldc2_w 79, 3) := by decide +kernel
theorem jd_M_isRow_38 : decode jb_M_isRow 38 = .ok (.bipush 48, 2) := by decide +kernel
theorem jd_M_isRow_40 : decode jb_M_isRow 40 = .ok (.iload_n 3, 1) := by decide +kernel
theorem jd_M_isRow_41 : decode jb_M_isRow 41 = .ok (.iadd, 1) := by decide +kernel
theorem jd_M_isRow_42 : decode jb_M_isRow 42 = .ok (.i2l, 1) := by decide +kernel
theorem jd_M_isRow_43 : decode jb_M_isRow 43 = .ok (.invokestatic 73, 3) := by decide +kernel
theorem jd_M_isRow_46 : decode jb_M_isRow 46 = .ok (.istore 4, 2) := by decide +kernel
theorem jd_M_isRow_48 : decode jb_M_isRow 48 = .ok (.iinc 5 1, 3) := by decide +kernel
theorem jd_M_isRow_51 : decode jb_M_isRow 51 = .ok (.goto (-35), 3) := by decide +kernel
theorem jd_M_isRow_54 : decode jb_M_isRow 54 = .ok (.iload 4, 2) := by decide +kernel
theorem jd_M_isRow_56 : decode jb_M_isRow 56 = .ok (.ireturn, 1) := by decide +kernel
theorem jd_M_readMower_0 : decode jb_M_readMower 0 = .ok (.aload_n 0, 1) := by decide +kernel
theorem jd_M_readMower_1 : decode jb_M_readMower 1 = .ok (.getfield 87, 3) := by decide +kernel
theorem jd_M_readMower_4 : decode jb_M_readMower 4 = .ok (.iconst 5, 1) := by decide +kernel
theorem jd_M_readMower_5 : decode jb_M_readMower 5 = .ok (.if_icmp .eq 14, 3) := by decide +kernel
theorem jd_M_readMower_8 : decode jb_M_readMower 8 = .ok (.aload_n 0, 1) := by decide +kernel
theorem jd_M_readMower_9 : decode jb_M_readMower 9 = .ok (.iload_n 1, 1) := by decide +kernel
theorem jd_M_readMower_10 : decode jb_M_readMower 10 = .ok (.iload_n 2, 1) := by decide +kernel
theorem jd_M_readMower_11 : decode jb_M_readMower 11 = .ok (.bipush 9, 2) := by decide +kernel
theorem jd_M_readMower_13 : decode jb_M_readMower 13 = .ok (.invokevirtual 83, 3) := by decide +kernel
theorem jd_M_readMower_16 : decode jb_M_readMower 16 = .ok (.ifCond .ne 5, 3) := by decide +kernel
theorem jd_M_readMower_19 : decode jb_M_readMower 19 = .ok (.iconst 0, 1) := by decide +kernel
theorem jd_M_readMower_20 : decode jb_M_readMower 20 = .ok (.ireturn, 1) := by decide +kernel
theorem jd_M_readMower_21 : decode jb_M_readMower 21 = .ok (.aload_n 0, 1) := by decide +kernel
theorem jd_M_readMower_22 : decode jb_M_readMower 22 = .ok (.getfield 28, 3) := by decide +kernel
theorem jd_M_readMower_25 : decode jb_M_readMower 25 = .ok (.aload_n 0, 1) := by decide +kernel
theorem jd_M_readMower_26 : decode jb_M_readMower 26 = .ok (.getfield 87, 3) := by decide +kernel
theorem jd_M_readMower_29 : decode jb_M_readMower 29 = .ok (.iload_n 2, 1) := by decide +kernel
theorem jd_M_readMower_30 : decode jb_M_readMower 30 = .ok (.iload_n 1, 1) := by decide +kernel
theorem jd_M_readMower_31 : decode jb_M_readMower 31 = .ok (.isub, 1) := by decide +kernel
theorem jd_M_readMower_32 : decode jb_M_readMower 32 = .ok (.iastore, 1) := by decide +kernel
theorem jd_M_readMower_33 : decode jb_M_readMower 33 = .ok (.iload_n 1, 1) := by decide +kernel
theorem jd_M_readMower_34 : decode jb_M_readMower 34 = .ok (.istore_n 3, 1) := by decide +kernel
theorem jd_M_readMower_35 : decode jb_M_readMower 35 = .ok (.iload_n 3, 1) := by decide +kernel
theorem jd_M_readMower_36 : decode jb_M_readMower 36 = .ok (.iload_n 2, 1) := by decide +kernel
theorem jd_M_readMower_37 : decode jb_M_readMower 37 = .ok (.if_icmp .ge 34, 3) := by decide +kernel
theorem jd_M_readMower_40 : decode jb_M_readMower 40 = .ok (.aload_n 0, 1) := by decide +kernel
theorem jd_M_readMower_41 : decode jb_M_readMower 41 = .ok (.getfield 31, 3) := by decide +kernel
theorem jd_M_readMower_44 : decode jb_M_readMower 44 = .ok (.bipush 9, 2) := by decide +kernel
theorem jd_M_readMower_46 : decode jb_M_readMower 46 = .ok (.aload_n 0, 1) := by decide +kernel
theorem jd_M_readMower_47 : decode jb_M_readMower 47 = .ok (.getfield 87, 3) := by decide +kernel
theorem jd_M_readMower_50 : decode jb_M_readMower 50 = .ok (.imul, 1) := by decide +kernel
theorem jd_M_readMower_51 : decode jb_M_readMower 51 = .ok (.iload_n 3, 1) := by decide +kernel
theorem jd_M_readMower_52 : decode jb_M_readMower 52 = .ok (.iadd, 1) := by decide +kernel
theorem jd_M_readMower_53 : decode jb_M_readMower 53 = .ok (.iload_n 1, 1) := by decide +kernel
theorem jd_M_readMower_54 : decode jb_M_readMower 54 = .ok (.isub, 1) := by decide +kernel
theorem jd_M_readMower_55 : decode jb_M_readMower 55 = .ok (.aload_n 0, 1) := by decide +kernel
theorem jd_M_readMower_56 : decode jb_M_readMower 56 = .ok (.getfield 7, 3) := by decide +kernel
theorem jd_M_readMower_59 : decode jb_M_readMower 59 = .ok (.iload_n 3, 1) := by decide +kernel
theorem jd_M_readMower_60 : decode jb_M_readMower 60 = .ok (.iaload, 1) := by decide +kernel
theorem jd_M_readMower_61 : decode jb_M_readMower 61 = .ok (.bipush 48, 2) := by decide +kernel
theorem jd_M_readMower_63 : decode jb_M_readMower 63 = .ok (.isub, 1) := by decide +kernel
theorem jd_M_readMower_64 : decode jb_M_readMower 64 = .ok (.iastore, 1) := by decide +kernel
theorem jd_M_readMower_65 : decode jb_M_readMower 65 = .ok (.iinc 3 1, 3) := by decide +kernel
theorem jd_M_readMower_68 : decode jb_M_readMower 68 = .ok (.goto (-33), 3) := by decide +kernel
theorem jd_M_readMower_71 : decode jb_M_readMower 71 = .ok (.aload_n 0, 1) := by decide +kernel
theorem jd_M_readMower_72 : decode jb_M_readMower 72 = .ok (.dup, 1) := by decide +kernel
theorem jd_M_readMower_73 : decode jb_M_readMower 73 = .ok (.getfield 87, 3) := by decide +kernel
theorem jd_M_readMower_76 : decode jb_M_readMower 76 = .ok (.iconst 1, 1) := by decide +kernel
theorem jd_M_readMower_77 : decode jb_M_readMower 77 = .ok (.iadd, 1) := by decide +kernel
theorem jd_M_readMower_78 : decode jb_M_readMower 78 = .ok (.putfield 87, 3) := by decide +kernel
theorem jd_M_readMower_81 : decode jb_M_readMower 81 = .ok (.iconst 1, 1) := by decide +kernel
theorem jd_M_readMower_82 : decode jb_M_readMower 82 = .ok (.ireturn, 1) := by decide +kernel
theorem jd_M_readWeather_0 : decode jb_M_readWeather 0 = .ok (.aload_n 0, 1) := by decide +kernel
theorem jd_M_readWeather_1 : decode jb_M_readWeather 1 = .ok (.iload_n 1, 1) := by decide +kernel
theorem jd_M_readWeather_2 : decode jb_M_readWeather 2 = .ok (.iload_n 2, 1) := by decide +kernel
theorem jd_M_readWeather_3 : decode jb_M_readWeather 3 = .ok (.iconst 3, 1) := by decide +kernel
theorem jd_M_readWeather_4 : decode jb_M_readWeather 4 = .ok (.invokevirtual 83, 3) := by decide +kernel
theorem jd_M_readWeather_7 : decode jb_M_readWeather 7 = .ok (.ifCond .ne 5, 3) := by decide +kernel
theorem jd_M_readWeather_10 : decode jb_M_readWeather 10 = .ok (.iconst 0, 1) := by decide +kernel
theorem jd_M_readWeather_11 : decode jb_M_readWeather 11 = .ok (.ireturn, 1) := by decide +kernel
theorem jd_M_readWeather_12 : decode jb_M_readWeather 12 = .ok (.aload_n 0, 1) := by decide +kernel
theorem jd_M_readWeather_13 : decode jb_M_readWeather 13 = .ok (.iload_n 2, 1) := by decide +kernel
theorem jd_M_readWeather_14 : decode jb_M_readWeather 14 = .ok (.iload_n 1, 1) := by decide +kernel
theorem jd_M_readWeather_15 : decode jb_M_readWeather 15 = .ok (.isub, 1) := by decide +kernel
theorem jd_M_readWeather_16 : decode jb_M_readWeather 16 = .ok (.putfield 90, 3) := by decide +kernel
theorem jd_M_readWeather_19 : decode jb_M_readWeather 19 = .ok (.iload_n 1, 1) := by decide +kernel
theorem jd_M_readWeather_20 : decode jb_M_readWeather 20 = .ok (.istore_n 3, 1) := by decide +kernel
theorem jd_M_readWeather_21 : decode jb_M_readWeather 21 = .ok (.iload_n 3, 1) := by decide +kernel
theorem jd_M_readWeather_22 : decode jb_M_readWeather 22 = .ok (.iload_n 2, 1) := by decide +kernel
theorem jd_M_readWeather_23 : decode jb_M_readWeather 23 = .ok (.if_icmp .ge 26, 3) := by decide +kernel
theorem jd_M_readWeather_26 : decode jb_M_readWeather 26 = .ok (.aload_n 0, 1) := by decide +kernel
theorem jd_M_readWeather_27 : decode jb_M_readWeather 27 = .ok (.getfield 34, 3) := by decide +kernel
theorem jd_M_readWeather_30 : decode jb_M_readWeather 30 = .ok (.iload_n 3, 1) := by decide +kernel
theorem jd_M_readWeather_31 : decode jb_M_readWeather 31 = .ok (.iload_n 1, 1) := by decide +kernel
theorem jd_M_readWeather_32 : decode jb_M_readWeather 32 = .ok (.isub, 1) := by decide +kernel
theorem jd_M_readWeather_33 : decode jb_M_readWeather 33 = .ok (.aload_n 0, 1) := by decide +kernel
theorem jd_M_readWeather_34 : decode jb_M_readWeather 34 = .ok (.getfield 7, 3) := by decide +kernel
theorem jd_M_readWeather_37 : decode jb_M_readWeather 37 = .ok (.iload_n 3, 1) := by decide +kernel
theorem jd_M_readWeather_38 : decode jb_M_readWeather 38 = .ok (.iaload, 1) := by decide +kernel
theorem jd_M_readWeather_39 : decode jb_M_readWeather 39 = .ok (.bipush 48, 2) := by decide +kernel
theorem jd_M_readWeather_41 : decode jb_M_readWeather 41 = .ok (.isub, 1) := by decide +kernel
theorem jd_M_readWeather_42 : decode jb_M_readWeather 42 = .ok (.iastore, 1) := by decide +kernel
theorem jd_M_readWeather_43 : decode jb_M_readWeather 43 = .ok (.iinc 3 1, 3) := by decide +kernel
theorem jd_M_readWeather_46 : decode jb_M_readWeather 46 = .ok (.goto (-25), 3) := by decide +kernel
theorem jd_M_readWeather_49 : decode jb_M_readWeather 49 = .ok (.iconst 1, 1) := by decide +kernel
theorem jd_M_readWeather_50 : decode jb_M_readWeather 50 = .ok (.ireturn, 1) := by decide +kernel
theorem jd_M_numberOf_0 : decode jb_M_numberOf 0 = .ok (.iload_n 2, 1) := by decide +kernel
theorem jd_M_numberOf_1 : decode jb_M_numberOf 1 = .ok (.iload_n 1, 1) := by decide +kernel
theorem jd_M_numberOf_2 : decode jb_M_numberOf 2 = .ok (.isub, 1) := by decide +kernel
theorem jd_M_numberOf_3 : decode jb_M_numberOf 3 = .ok (.i2l, 1) := by decide +kernel
theorem jd_M_numberOf_4 : decode jb_M_numberOf 4 = .ok (.lconst 1, 1) := by decide +kernel
theorem jd_M_numberOf_5 : decode jb_M_numberOf 5 = .ok (.ldc2_w 81, 3) := by decide +kernel
theorem jd_M_numberOf_8 : decode jb_M_numberOf 8 = .ok (.invokestatic 73, 3) := by decide +kernel
theorem jd_M_numberOf_11 : decode jb_M_numberOf 11 = .ok (.ifCond .eq 14, 3) := by decide +kernel
theorem jd_M_numberOf_14 : decode jb_M_numberOf 14 = .ok (.aload_n 0, 1) := by decide +kernel
theorem jd_M_numberOf_15 : decode jb_M_numberOf 15 = .ok (.iload_n 1, 1) := by decide +kernel
theorem jd_M_numberOf_16 : decode jb_M_numberOf 16 = .ok (.iload_n 2, 1) := by decide +kernel
theorem jd_M_numberOf_17 : decode jb_M_numberOf 17 = .ok (.bipush 9, 2) := by decide +kernel
theorem jd_M_numberOf_19 : decode jb_M_numberOf 19 = .ok (.invokevirtual 83, 3) := by decide +kernel
theorem jd_M_numberOf_22 : decode jb_M_numberOf 22 = .ok (.ifCond .ne 5, 3) := by decide +kernel
theorem jd_M_numberOf_25 : decode jb_M_numberOf 25 = .ok (.iconst (-1), 1) := by decide +kernel
theorem jd_M_numberOf_26 : decode jb_M_numberOf 26 = .ok (.ireturn, 1) := by decide +kernel
theorem jd_M_numberOf_27 : decode jb_M_numberOf 27 = .ok (.iload_n 2, 1) := by decide +kernel
theorem jd_M_numberOf_28 : decode jb_M_numberOf 28 = .ok (.iload_n 1, 1) := by decide +kernel
theorem jd_M_numberOf_29 : decode jb_M_numberOf 29 = .ok (.isub, 1) := by decide +kernel
theorem jd_M_numberOf_30 : decode jb_M_numberOf 30 = .ok (.iconst 1, 1) := by decide +kernel
theorem jd_M_numberOf_31 : decode jb_M_numberOf 31 = .ok (.if_icmp .ne 15, 3) := by decide +kernel
theorem jd_M_numberOf_34 : decode jb_M_numberOf 34 = .ok (.aload_n 0, 1) := by decide +kernel
theorem jd_M_numberOf_35 : decode jb_M_numberOf 35 = .ok (.getfield 7, 3) := by decide +kernel
theorem jd_M_numberOf_38 : decode jb_M_numberOf 38 = .ok (.iload_n 1, 1) := by decide +kernel
theorem jd_M_numberOf_39 : decode jb_M_numberOf 39 = .ok (.iaload, 1) := by decide +kernel
theorem jd_M_numberOf_40 : decode jb_M_numberOf 40 = .ok (.bipush 48, 2) := by decide +kernel
theorem jd_M_numberOf_42 : decode jb_M_numberOf 42 = .ok (.isub, 1) := by decide +kernel
theorem jd_M_numberOf_43 : decode jb_M_numberOf 43 = .ok (.goto 27, 3) := by decide +kernel
theorem jd_M_numberOf_46 : decode jb_M_numberOf 46 = .ok (.bipush 10, 2) := by decide +kernel
theorem jd_M_numberOf_48 : decode jb_M_numberOf 48 = .ok (.aload_n 0, 1) := by decide +kernel
theorem jd_M_numberOf_49 : decode jb_M_numberOf 49 = .ok (.getfield 7, 3) := by decide +kernel
theorem jd_M_numberOf_52 : decode jb_M_numberOf 52 = .ok (.iload_n 1, 1) := by decide +kernel
theorem jd_M_numberOf_53 : decode jb_M_numberOf 53 = .ok (.iaload, 1) := by decide +kernel
theorem jd_M_numberOf_54 : decode jb_M_numberOf 54 = .ok (.bipush 48, 2) := by decide +kernel
theorem jd_M_numberOf_56 : decode jb_M_numberOf 56 = .ok (.isub, 1) := by decide +kernel
theorem jd_M_numberOf_57 : decode jb_M_numberOf 57 = .ok (.imul, 1) := by decide +kernel
theorem jd_M_numberOf_58 : decode jb_M_numberOf 58 = .ok (.aload_n 0, 1) := by decide +kernel
theorem jd_M_numberOf_59 : decode jb_M_numberOf 59 = .ok (.getfield 7, 3) := by decide +kernel
theorem jd_M_numberOf_62 : decode jb_M_numberOf 62 = .ok (.iload_n 1, 1) := by decide +kernel
theorem jd_M_numberOf_63 : decode jb_M_numberOf 63 = .ok (.iconst 1, 1) := by decide +kernel
theorem jd_M_numberOf_64 : decode jb_M_numberOf 64 = .ok (.iadd, 1) := by decide +kernel
theorem jd_M_numberOf_65 : decode jb_M_numberOf 65 = .ok (.iaload, 1) := by decide +kernel
theorem jd_M_numberOf_66 : decode jb_M_numberOf 66 = .ok (.iadd, 1) := by decide +kernel
theorem jd_M_numberOf_67 : decode jb_M_numberOf 67 = .ok (.bipush 48, 2) := by decide +kernel
theorem jd_M_numberOf_69 : decode jb_M_numberOf 69 = .ok (.isub, 1) := by decide +kernel
theorem jd_M_numberOf_70 : decode jb_M_numberOf 70 = .ok (.ireturn, 1) := by decide +kernel
theorem jd_M_readCow_0 : decode jb_M_readCow 0 = .ok (.aload_n 0, 1) := by decide +kernel
theorem jd_M_readCow_1 : decode jb_M_readCow 1 = .ok (.iload_n 1, 1) := by decide +kernel
theorem jd_M_readCow_2 : decode jb_M_readCow 2 = .ok (.iload_n 2, 1) := by decide +kernel
theorem jd_M_readCow_3 : decode jb_M_readCow 3 = .ok (.invokevirtual 93, 3) := by decide +kernel
theorem jd_M_readCow_6 : decode jb_M_readCow 6 = .ok (.istore_n 3, 1) := by decide +kernel
theorem jd_M_readCow_7 : decode jb_M_readCow 7 = .ok (.aload_n 0, 1) := by decide +kernel
theorem jd_M_readCow_8 : decode jb_M_readCow 8 = .ok (.getfield 97, 3) := by decide +kernel
theorem jd_M_readCow_11 : decode jb_M_readCow 11 = .ok (.iconst 4, 1) := by decide +kernel
theorem jd_M_readCow_12 : decode jb_M_readCow 12 = .ok (.if_icmp .eq 15, 3) := by decide +kernel
theorem jd_M_readCow_15 : decode jb_M_readCow 15 = .ok (.iload_n 3, 1) := by decide +kernel
theorem jd_M_readCow_16 : decode jb_M_readCow 16 = .ok (.i2l, 1) := by decide +kernel
theorem jd_M_readCow_17 : decode jb_M_readCow 17 = .ok (.lconst 0, 1) := by decide +kernel
theorem jd_M_readCow_18 : decode jb_M_readCow 18 = .ok (.ldc2_w 100, 3) := by decide +kernel
theorem jd_M_readCow_21 : decode jb_M_readCow 21 = .ok (.invokestatic 73, 3) := by decide +kernel
theorem jd_M_readCow_24 : decode jb_M_readCow 24 = .ok (.ifCond .ne 5, 3) := by decide +kernel
theorem jd_M_readCow_27 : decode jb_M_readCow 27 = .ok (.iconst 0, 1) := by decide +kernel
theorem jd_M_readCow_28 : decode jb_M_readCow 28 = .ok (.ireturn, 1) := by decide +kernel
theorem jd_M_readCow_29 : decode jb_M_readCow 29 = .ok (.aload_n 0, 1) := by decide +kernel
theorem jd_M_readCow_30 : decode jb_M_readCow 30 = .ok (.getfield 37, 3) := by decide +kernel
theorem jd_M_readCow_33 : decode jb_M_readCow 33 = .ok (.aload_n 0, 1) := by decide +kernel
theorem jd_M_readCow_34 : decode jb_M_readCow 34 = .ok (.getfield 97, 3) := by decide +kernel
theorem jd_M_readCow_37 : decode jb_M_readCow 37 = .ok (.iload_n 3, 1) := by decide +kernel
theorem jd_M_readCow_38 : decode jb_M_readCow 38 = .ok (.iastore, 1) := by decide +kernel
theorem jd_M_readCow_39 : decode jb_M_readCow 39 = .ok (.aload_n 0, 1) := by decide +kernel
theorem jd_M_readCow_40 : decode jb_M_readCow 40 = .ok (.dup, 1) := by decide +kernel
theorem jd_M_readCow_41 : decode jb_M_readCow 41 = .ok (.getfield 97, 3) := by decide +kernel
theorem jd_M_readCow_44 : decode jb_M_readCow 44 = .ok (.iconst 1, 1) := by decide +kernel
theorem jd_M_readCow_45 : decode jb_M_readCow 45 = .ok (.iadd, 1) := by decide +kernel
theorem jd_M_readCow_46 : decode jb_M_readCow 46 = .ok (.putfield 97, 3) := by decide +kernel
theorem jd_M_readCow_49 : decode jb_M_readCow 49 = .ok (.iconst 1, 1) := by decide +kernel
theorem jd_M_readCow_50 : decode jb_M_readCow 50 = .ok (.ireturn, 1) := by decide +kernel
theorem jd_M_readRick_0 : decode jb_M_readRick 0 = .ok (.aload_n 0, 1) := by decide +kernel
theorem jd_M_readRick_1 : decode jb_M_readRick 1 = .ok (.iload_n 1, 1) := by decide +kernel
theorem jd_M_readRick_2 : decode jb_M_readRick 2 = .ok (.iload_n 2, 1) := by decide +kernel
theorem jd_M_readRick_3 : decode jb_M_readRick 3 = .ok (.invokevirtual 93, 3) := by decide +kernel
theorem jd_M_readRick_6 : decode jb_M_readRick 6 = .ok (.istore_n 3, 1) := by decide +kernel
theorem jd_M_readRick_7 : decode jb_M_readRick 7 = .ok (.aload_n 0, 1) := by decide +kernel
theorem jd_M_readRick_8 : decode jb_M_readRick 8 = .ok (.getfield 102, 3) := by decide +kernel
theorem jd_M_readRick_11 : decode jb_M_readRick 11 = .ok (.iconst 3, 1) := by decide +kernel
theorem jd_M_readRick_12 : decode jb_M_readRick 12 = .ok (.if_icmp .eq 15, 3) := by decide +kernel
theorem jd_M_readRick_15 : decode jb_M_readRick 15 = .ok (.iload_n 3, 1) := by decide +kernel
theorem jd_M_readRick_16 : decode jb_M_readRick 16 = .ok (.i2l, 1) := by decide +kernel
theorem jd_M_readRick_17 : decode jb_M_readRick 17 = .ok (.lconst 0, 1) := by decide +kernel
theorem jd_M_readRick_18 : decode jb_M_readRick 18 = .ok (.ldc2_w 77, 3) := by decide +kernel
theorem jd_M_readRick_21 : decode jb_M_readRick 21 = .ok (.invokestatic 73, 3) := by decide +kernel
theorem jd_M_readRick_24 : decode jb_M_readRick 24 = .ok (.ifCond .ne 5, 3) := by decide +kernel
theorem jd_M_readRick_27 : decode jb_M_readRick 27 = .ok (.iconst 0, 1) := by decide +kernel
theorem jd_M_readRick_28 : decode jb_M_readRick 28 = .ok (.ireturn, 1) := by decide +kernel
theorem jd_M_readRick_29 : decode jb_M_readRick 29 = .ok (.aload_n 0, 1) := by decide +kernel
theorem jd_M_readRick_30 : decode jb_M_readRick 30 = .ok (.getfield 40, 3) := by decide +kernel
theorem jd_M_readRick_33 : decode jb_M_readRick 33 = .ok (.aload_n 0, 1) := by decide +kernel
theorem jd_M_readRick_34 : decode jb_M_readRick 34 = .ok (.getfield 102, 3) := by decide +kernel
theorem jd_M_readRick_37 : decode jb_M_readRick 37 = .ok (.iload_n 3, 1) := by decide +kernel
theorem jd_M_readRick_38 : decode jb_M_readRick 38 = .ok (.iastore, 1) := by decide +kernel
theorem jd_M_readRick_39 : decode jb_M_readRick 39 = .ok (.aload_n 0, 1) := by decide +kernel
theorem jd_M_readRick_40 : decode jb_M_readRick 40 = .ok (.dup, 1) := by decide +kernel
theorem jd_M_readRick_41 : decode jb_M_readRick 41 = .ok (.getfield 102, 3) := by decide +kernel
theorem jd_M_readRick_44 : decode jb_M_readRick 44 = .ok (.iconst 1, 1) := by decide +kernel
theorem jd_M_readRick_45 : decode jb_M_readRick 45 = .ok (.iadd, 1) := by decide +kernel
theorem jd_M_readRick_46 : decode jb_M_readRick 46 = .ok (.putfield 102, 3) := by decide +kernel
theorem jd_M_readRick_49 : decode jb_M_readRick 49 = .ok (.iconst 1, 1) := by decide +kernel
theorem jd_M_readRick_50 : decode jb_M_readRick 50 = .ok (.ireturn, 1) := by decide +kernel
theorem jd_M_readItem_0 : decode jb_M_readItem 0 = .ok (.aload_n 0, 1) := by decide +kernel
theorem jd_M_readItem_1 : decode jb_M_readItem 1 = .ok (.getfield 7, 3) := by decide +kernel
theorem jd_M_readItem_4 : decode jb_M_readItem 4 = .ok (.iload_n 1, 1) := by decide +kernel
theorem jd_M_readItem_5 : decode jb_M_readItem 5 = .ok (.iaload, 1) := by decide +kernel
theorem jd_M_readItem_6 : decode jb_M_readItem 6 = .ok (.istore_n 3, 1) := by decide +kernel
theorem jd_M_readItem_7 : decode jb_M_readItem 7 = .ok (.iload_n 3, 1) := by decide +kernel
theorem jd_M_readItem_8 : decode jb_M_readItem 8 = .ok (.bipush 109, 2) := by decide +kernel
theorem jd_M_readItem_10 : decode jb_M_readItem 10 = .ok (.if_icmp .ne 14, 3) := by decide +kernel
theorem jd_M_readItem_13 : decode jb_M_readItem 13 = .ok (.aload_n 0, 1) := by decide +kernel
theorem jd_M_readItem_14 : decode jb_M_readItem 14 = .ok (.iload_n 1, 1) := by decide +kernel
theorem jd_M_readItem_15 : decode jb_M_readItem 15 = .ok (.iconst 1, 1) := by decide +kernel
theorem jd_M_readItem_16 : decode jb_M_readItem 16 = .ok (.iadd, 1) := by decide +kernel
theorem jd_M_readItem_17 : decode jb_M_readItem 17 = .ok (.iload_n 2, 1) := by decide +kernel
theorem jd_M_readItem_18 : decode jb_M_readItem 18 = .ok (.invokevirtual 105, 3) := by decide +kernel
theorem jd_M_readItem_21 : decode jb_M_readItem 21 = .ok (.goto 59, 3) := by decide +kernel
theorem jd_M_readItem_24 : decode jb_M_readItem 24 = .ok (.iload_n 3, 1) := by decide +kernel
theorem jd_M_readItem_25 : decode jb_M_readItem 25 = .ok (.bipush 101, 2) := by decide +kernel
theorem jd_M_readItem_27 : decode jb_M_readItem 27 = .ok (.if_icmp .ne 14, 3) := by decide +kernel
theorem jd_M_readItem_30 : decode jb_M_readItem 30 = .ok (.aload_n 0, 1) := by decide +kernel
theorem jd_M_readItem_31 : decode jb_M_readItem 31 = .ok (.iload_n 1, 1) := by decide +kernel
theorem jd_M_readItem_32 : decode jb_M_readItem 32 = .ok (.iconst 1, 1) := by decide +kernel
theorem jd_M_readItem_33 : decode jb_M_readItem 33 = .ok (.iadd, 1) := by decide +kernel
theorem jd_M_readItem_34 : decode jb_M_readItem 34 = .ok (.iload_n 2, 1) := by decide +kernel
theorem jd_M_readItem_35 : decode jb_M_readItem 35 = .ok (.invokevirtual 109, 3) := by decide +kernel
theorem jd_M_readItem_38 : decode jb_M_readItem 38 = .ok (.goto 42, 3) := by decide +kernel
theorem jd_M_readItem_41 : decode jb_M_readItem 41 = .ok (.iload_n 3, 1) := by decide +kernel
theorem jd_M_readItem_42 : decode jb_M_readItem 42 = .ok (.bipush 99, 2) := by decide +kernel
theorem jd_M_readItem_44 : decode jb_M_readItem 44 = .ok (.if_icmp .ne 14, 3) := by decide +kernel
theorem jd_M_readItem_47 : decode jb_M_readItem 47 = .ok (.aload_n 0, 1) := by decide +kernel
theorem jd_M_readItem_48 : decode jb_M_readItem 48 = .ok (.iload_n 1, 1) := by decide +kernel
theorem jd_M_readItem_49 : decode jb_M_readItem 49 = .ok (.iconst 1, 1) := by decide +kernel
theorem jd_M_readItem_50 : decode jb_M_readItem 50 = .ok (.iadd, 1) := by decide +kernel
theorem jd_M_readItem_51 : decode jb_M_readItem 51 = .ok (.iload_n 2, 1) := by decide +kernel
theorem jd_M_readItem_52 : decode jb_M_readItem 52 = .ok (.invokevirtual 112, 3) := by decide +kernel
theorem jd_M_readItem_55 : decode jb_M_readItem 55 = .ok (.goto 25, 3) := by decide +kernel
theorem jd_M_readItem_58 : decode jb_M_readItem 58 = .ok (.iload_n 3, 1) := by decide +kernel
theorem jd_M_readItem_59 : decode jb_M_readItem 59 = .ok (.bipush 107, 2) := by decide +kernel
theorem jd_M_readItem_61 : decode jb_M_readItem 61 = .ok (.if_icmp .ne 18, 3) := by decide +kernel
theorem jd_M_readItem_64 : decode jb_M_readItem 64 = .ok (.aload_n 0, 1) := by decide +kernel
theorem jd_M_readItem_65 : decode jb_M_readItem 65 = .ok (.iload_n 1, 1) := by decide +kernel
theorem jd_M_readItem_66 : decode jb_M_readItem 66 = .ok (.iconst 1, 1) := by decide +kernel
theorem jd_M_readItem_67 : decode jb_M_readItem 67 = .ok (.iadd, 1) := by decide +kernel
theorem jd_M_readItem_68 : decode jb_M_readItem 68 = .ok (.iload_n 2, 1) := by decide +kernel
theorem jd_M_readItem_69 : decode jb_M_readItem 69 = .ok (.invokevirtual 115, 3) := by decide +kernel
theorem jd_M_readItem_72 : decode jb_M_readItem 72 = .ok (.ifCond .eq 7, 3) := by decide +kernel
theorem jd_M_readItem_75 : decode jb_M_readItem 75 = .ok (.iconst 1, 1) := by decide +kernel
theorem jd_M_readItem_76 : decode jb_M_readItem 76 = .ok (.goto 4, 3) := by decide +kernel
theorem jd_M_readItem_79 : decode jb_M_readItem 79 = .ok (.iconst 0, 1) := by decide +kernel
theorem jd_M_readItem_80 : decode jb_M_readItem 80 = .ok (.ireturn, 1) := by decide +kernel
theorem jd_M_fault_0 : decode jb_M_fault 0 = .ok (.aload_n 0, 1) := by decide +kernel
theorem jd_M_fault_1 : decode jb_M_fault 1 = .ok (.iconst 0, 1) := by decide +kernel
theorem jd_M_fault_2 : decode jb_M_fault 2 = .ok (.putfield 87, 3) := by decide +kernel
theorem jd_M_fault_5 : decode jb_M_fault 5 = .ok (.aload_n 0, 1) := by decide +kernel
theorem jd_M_fault_6 : decode jb_M_fault 6 = .ok (.iconst 0, 1) := by decide +kernel
theorem jd_M_fault_7 : decode jb_M_fault 7 = .ok (.putfield 97, 3) := by decide +kernel
theorem jd_M_fault_10 : decode jb_M_fault 10 = .ok (.aload_n 0, 1) := by decide +kernel
theorem jd_M_fault_11 : decode jb_M_fault 11 = .ok (.iconst 0, 1) := by decide +kernel
theorem jd_M_fault_12 : decode jb_M_fault 12 = .ok (.putfield 102, 3) := by decide +kernel
theorem jd_M_fault_15 : decode jb_M_fault 15 = .ok (.aload_n 0, 1) := by decide +kernel
theorem jd_M_fault_16 : decode jb_M_fault 16 = .ok (.iconst 1, 1) := by decide +kernel
theorem jd_M_fault_17 : decode jb_M_fault 17 = .ok (.putfield 90, 3) := by decide +kernel
theorem jd_M_fault_20 : decode jb_M_fault 20 = .ok (.aload_n 0, 1) := by decide +kernel
theorem jd_M_fault_21 : decode jb_M_fault 21 = .ok (.getfield 34, 3) := by decide +kernel
theorem jd_M_fault_24 : decode jb_M_fault 24 = .ok (.iconst 0, 1) := by decide +kernel
theorem jd_M_fault_25 : decode jb_M_fault 25 = .ok (.iconst 0, 1) := by decide +kernel
theorem jd_M_fault_26 : decode jb_M_fault 26 = .ok (.iastore, 1) := by decide +kernel
theorem jd_M_fault_27 : decode jb_M_fault 27 = .ok (.iconst 0, 1) := by decide +kernel
theorem jd_M_fault_28 : decode jb_M_fault 28 = .ok (.istore_n 1, 1) := by decide +kernel
theorem jd_M_fault_29 : decode jb_M_fault 29 = .ok (.iload_n 1, 1) := by decide +kernel
theorem jd_M_fault_30 : decode jb_M_fault 30 = .ok (.aload_n 0, 1) := by decide +kernel
theorem jd_M_fault_31 : decode jb_M_fault 31 = .ok (.getfield 61, 3) := by decide +kernel
theorem jd_M_fault_34 : decode jb_M_fault 34 = .ok (.if_icmp .ge 56, 3) := by decide +kernel
theorem jd_M_fault_37 : decode jb_M_fault 37 = .ok (.iload_n 1, 1) := by decide +kernel
theorem jd_M_fault_38 : decode jb_M_fault 38 = .ok (.istore_n 2, 1) := by decide +kernel
theorem jd_M_fault_39 : decode jb_M_fault 39 = .ok (.iload_n 2, 1) := by decide +kernel
theorem jd_M_fault_40 : decode jb_M_fault 40 = .ok (.aload_n 0, 1) := by decide +kernel
theorem jd_M_fault_41 : decode jb_M_fault 41 = .ok (.getfield 61, 3) := by decide +kernel
theorem jd_M_fault_44 : decode jb_M_fault 44 = .ok (.if_icmp .ge 20, 3) := by decide +kernel
theorem jd_M_fault_47 : decode jb_M_fault 47 = .ok (.aload_n 0, 1) := by decide +kernel
theorem jd_M_fault_48 : decode jb_M_fault 48 = .ok (.getfield 7, 3) := by decide +kernel
theorem jd_M_fault_51 : decode jb_M_fault 51 = .ok (.iload_n 2, 1) := by decide +kernel
theorem jd_M_fault_52 : decode jb_M_fault 52 = .ok (.iaload, 1) := by decide +kernel
theorem jd_M_fault_53 : decode jb_M_fault 53 = .ok (.bipush 59, 2) := by decide +kernel
theorem jd_M_fault_55 : decode jb_M_fault 55 = .ok (.if_icmp .eq 9, 3) := by decide +kernel
theorem jd_M_fault_58 : decode jb_M_fault 58 = .ok (.iinc 2 1, 3) := by decide +kernel
theorem jd_M_fault_61 : decode jb_M_fault 61 = .ok (.goto (-22), 3) := by decide +kernel
theorem jd_M_fault_64 : decode jb_M_fault 64 = .ok (.iload_n 2, 1) := by decide +kernel
theorem jd_M_fault_65 : decode jb_M_fault 65 = .ok (.aload_n 0, 1) := by decide +kernel
theorem jd_M_fault_66 : decode jb_M_fault 66 = .ok (.getfield 61, 3) := by decide +kernel
theorem jd_M_fault_69 : decode jb_M_fault 69 = .ok (.if_icmp .eq 12, 3) := by decide +kernel
theorem jd_M_fault_72 : decode jb_M_fault 72 = .ok (.aload_n 0, 1) := by decide +kernel
theorem jd_M_fault_73 : decode jb_M_fault 73 = .ok (.iload_n 1, 1) := by decide +kernel
theorem jd_M_fault_74 : decode jb_M_fault 74 = .ok (.iload_n 2, 1) := by decide +kernel
theorem jd_M_fault_75 : decode jb_M_fault 75 = .ok (.invokevirtual 118, 3) := by decide +kernel
theorem jd_M_fault_78 : decode jb_M_fault 78 = .ok (.ifCond .ne 5, 3) := by decide +kernel
theorem jd_M_fault_81 : decode jb_M_fault 81 = .ok (.iload_n 1, 1) := by decide +kernel
theorem jd_M_fault_82 : decode jb_M_fault 82 = .ok (.ireturn, 1) := by decide +kernel
theorem jd_M_fault_83 : decode jb_M_fault 83 = .ok (.iload_n 2, 1) := by decide +kernel
theorem jd_M_fault_84 : decode jb_M_fault 84 = .ok (.iconst 1, 1) := by decide +kernel
theorem jd_M_fault_85 : decode jb_M_fault 85 = .ok (.iadd, 1) := by decide +kernel
theorem jd_M_fault_86 : decode jb_M_fault 86 = .ok (.istore_n 1, 1) := by decide +kernel
theorem jd_M_fault_87 : decode jb_M_fault 87 = .ok (.goto (-58), 3) := by decide +kernel
theorem jd_M_fault_90 : decode jb_M_fault 90 = .ok (.bipush (-4), 2) := by decide +kernel
theorem jd_M_fault_92 : decode jb_M_fault 92 = .ok (.ireturn, 1) := by decide +kernel
theorem jd_M_take_0 : decode jb_M_take 0 = .ok (.iconst 0, 1) := by decide +kernel
theorem jd_M_take_1 : decode jb_M_take 1 = .ok (.istore_n 2, 1) := by decide +kernel
theorem jd_M_take_2 : decode jb_M_take 2 = .ok (.iload_n 2, 1) := by decide +kernel
theorem jd_M_take_3 : decode jb_M_take 3 = .ok (.aload_n 0, 1) := by decide +kernel
theorem jd_M_take_4 : decode jb_M_take 4 = .ok (.arraylength, 1) := by decide +kernel
theorem jd_M_take_5 : decode jb_M_take 5 = .ok (.if_icmp .ge 15, 3) := by decide +kernel
theorem jd_M_take_8 : decode jb_M_take 8 = .ok (.aload_n 0, 1) := by decide +kernel
theorem jd_M_take_9 : decode jb_M_take 9 = .ok (.iload_n 2, 1) := by decide +kernel
theorem jd_M_take_10 : decode jb_M_take 10 = .ok (.aload_n 1, 1) := by decide +kernel
theorem jd_M_take_11 : decode jb_M_take 11 = .ok (.iload_n 2, 1) := by decide +kernel
theorem jd_M_take_12 : decode jb_M_take 12 = .ok (.iaload, 1) := by decide +kernel
theorem jd_M_take_13 : decode jb_M_take 13 = .ok (.iastore, 1) := by decide +kernel
theorem jd_M_take_14 : decode jb_M_take 14 = .ok (.iinc 2 1, 3) := by decide +kernel
theorem jd_M_take_17 : decode jb_M_take 17 = .ok (.goto (-15), 3) := by decide +kernel
theorem jd_M_take_20 : decode jb_M_take 20 = .ok (.return_, 1) := by decide +kernel
theorem jd_M_lay_0 : decode jb_M_lay 0 = .ok (.aload_n 0, 1) := by decide +kernel
theorem jd_M_lay_1 : decode jb_M_lay 1 = .ok (.invokevirtual 121, 3) := by decide +kernel
theorem jd_M_lay_4 : decode jb_M_lay 4 = .ok (.ifCond .ge 24, 3) := by decide +kernel
theorem jd_M_lay_7 : decode jb_M_lay 7 = .ok (.aload_n 0, 1) := by decide +kernel
theorem jd_M_lay_8 : decode jb_M_lay 8 = .ok (.getfield 87, 3) := by decide +kernel
theorem jd_M_lay_11 : decode jb_M_lay 11 = .ok (.ifCond .eq 17, 3) := by decide +kernel
theorem jd_M_lay_14 : decode jb_M_lay 14 = .ok (.aload_n 0, 1) := by decide +kernel
theorem jd_M_lay_15 : decode jb_M_lay 15 = .ok (.getfield 97, 3) := by decide +kernel
theorem jd_M_lay_18 : decode jb_M_lay 18 = .ok (.ifCond .eq 10, 3) := by decide +kernel
theorem jd_M_lay_21 : decode jb_M_lay 21 = .ok (.aload_n 0, 1) := by decide +kernel
theorem jd_M_lay_22 : decode jb_M_lay 22 = .ok (.getfield 102, 3) := by decide +kernel
theorem jd_M_lay_25 : decode jb_M_lay 25 = .ok (.ifCond .ne 6, 3) := by decide +kernel
theorem jd_M_lay_28 : decode jb_M_lay 28 = .ok (.bipush (-2), 2) := by decide +kernel
theorem jd_M_lay_30 : decode jb_M_lay 30 = .ok (.ireturn, 1) := by decide +kernel
theorem jd_M_lay_31 : decode jb_M_lay 31 = .ok (.aload_n 0, 1) := by decide +kernel
theorem jd_M_lay_32 : decode jb_M_lay 32 = .ok (.aload_n 0, 1) := by decide +kernel
theorem jd_M_lay_33 : decode jb_M_lay 33 = .ok (.getfield 87, 3) := by decide +kernel
theorem jd_M_lay_36 : decode jb_M_lay 36 = .ok (.putfield 124, 3) := by decide +kernel
theorem jd_M_lay_39 : decode jb_M_lay 39 = .ok (.aload_n 0, 1) := by decide +kernel
theorem jd_M_lay_40 : decode jb_M_lay 40 = .ok (.aload_n 0, 1) := by decide +kernel
theorem jd_M_lay_41 : decode jb_M_lay 41 = .ok (.getfield 97, 3) := by decide +kernel
theorem jd_M_lay_44 : decode jb_M_lay 44 = .ok (.putfield 127, 3) := by decide +kernel
theorem jd_M_lay_47 : decode jb_M_lay 47 = .ok (.aload_n 0, 1) := by decide +kernel
theorem jd_M_lay_48 : decode jb_M_lay 48 = .ok (.aload_n 0, 1) := by decide +kernel
theorem jd_M_lay_49 : decode jb_M_lay 49 = .ok (.getfield 102, 3) := by decide +kernel
theorem jd_M_lay_52 : decode jb_M_lay 52 = .ok (.putfield 130, 3) := by decide +kernel
theorem jd_M_lay_55 : decode jb_M_lay 55 = .ok (.aload_n 0, 1) := by decide +kernel
theorem jd_M_lay_56 : decode jb_M_lay 56 = .ok (.aload_n 0, 1) := by decide +kernel
theorem jd_M_lay_57 : decode jb_M_lay 57 = .ok (.getfield 90, 3) := by decide +kernel
theorem jd_M_lay_60 : decode jb_M_lay 60 = .ok (.putfield 133, 3) := by decide +kernel
theorem jd_M_lay_63 : decode jb_M_lay 63 = .ok (.aload_n 0, 1) := by decide +kernel
theorem jd_M_lay_64 : decode jb_M_lay 64 = .ok (.getfield 13, 3) := by decide +kernel
theorem jd_M_lay_67 : decode jb_M_lay 67 = .ok (.aload_n 0, 1) := by decide +kernel
theorem jd_M_lay_68 : decode jb_M_lay 68 = .ok (.getfield 28, 3) := by decide +kernel
theorem jd_M_lay_71 : decode jb_M_lay 71 = .ok (.invokestatic 136, 3) := by decide +kernel
theorem jd_M_lay_74 : decode jb_M_lay 74 = .ok (.aload_n 0, 1) := by decide +kernel
theorem jd_M_lay_75 : decode jb_M_lay 75 = .ok (.getfield 16, 3) := by decide +kernel
theorem jd_M_lay_78 : decode jb_M_lay 78 = .ok (.aload_n 0, 1) := by decide +kernel
theorem jd_M_lay_79 : decode jb_M_lay 79 = .ok (.getfield 31, 3) := by decide +kernel
theorem jd_M_lay_82 : decode jb_M_lay 82 = .ok (.invokestatic 136, 3) := by decide +kernel
theorem jd_M_lay_85 : decode jb_M_lay 85 = .ok (.aload_n 0, 1) := by decide +kernel
theorem jd_M_lay_86 : decode jb_M_lay 86 = .ok (.getfield 19, 3) := by decide +kernel
theorem jd_M_lay_89 : decode jb_M_lay 89 = .ok (.aload_n 0, 1) := by decide +kernel
theorem jd_M_lay_90 : decode jb_M_lay 90 = .ok (.getfield 34, 3) := by decide +kernel
theorem jd_M_lay_93 : decode jb_M_lay 93 = .ok (.invokestatic 136, 3) := by decide +kernel
theorem jd_M_lay_96 : decode jb_M_lay 96 = .ok (.aload_n 0, 1) := by decide +kernel
theorem jd_M_lay_97 : decode jb_M_lay 97 = .ok (.getfield 22, 3) := by decide +kernel
theorem jd_M_lay_100 : decode jb_M_lay 100 = .ok (.aload_n 0, 1) := by decide +kernel
theorem jd_M_lay_101 : decode jb_M_lay 101 = .ok (.getfield 37, 3) := by decide +kernel
theorem jd_M_lay_104 : decode jb_M_lay 104 = .ok (.invokestatic 136, 3) := by decide +kernel
theorem jd_M_lay_107 : decode jb_M_lay 107 = .ok (.aload_n 0, 1) := by decide +kernel
theorem jd_M_lay_108 : decode jb_M_lay 108 = .ok (.getfield 25, 3) := by decide +kernel
theorem jd_M_lay_111 : decode jb_M_lay 111 = .ok (.aload_n 0, 1) := by decide +kernel
theorem jd_M_lay_112 : decode jb_M_lay 112 = .ok (.getfield 40, 3) := by decide +kernel
theorem jd_M_lay_115 : decode jb_M_lay 115 = .ok (.invokestatic 136, 3) := by decide +kernel
theorem jd_M_lay_118 : decode jb_M_lay 118 = .ok (.iconst 0, 1) := by decide +kernel
theorem jd_M_lay_119 : decode jb_M_lay 119 = .ok (.istore_n 1, 1) := by decide +kernel
theorem jd_M_lay_120 : decode jb_M_lay 120 = .ok (.iload_n 1, 1) := by decide +kernel
theorem jd_M_lay_121 : decode jb_M_lay 121 = .ok (.bipush 93, 2) := by decide +kernel
theorem jd_M_lay_123 : decode jb_M_lay 123 = .ok (.if_icmp .ge 16, 3) := by decide +kernel
theorem jd_M_lay_126 : decode jb_M_lay 126 = .ok (.aload_n 0, 1) := by decide +kernel
theorem jd_M_lay_127 : decode jb_M_lay 127 = .ok (.getfield 43, 3) := by decide +kernel
theorem jd_M_lay_130 : decode jb_M_lay 130 = .ok (.iload_n 1, 1) := by decide +kernel
theorem jd_M_lay_131 : decode jb_M_lay 131 = .ok (.iconst 0, 1) := by decide +kernel
theorem jd_M_lay_132 : decode jb_M_lay 132 = .ok (.iastore, 1) := by decide +kernel
theorem jd_M_lay_133 : decode jb_M_lay 133 = .ok (.iinc 1 1, 3) := by decide +kernel
theorem jd_M_lay_136 : decode jb_M_lay 136 = .ok (.goto (-16), 3) := by decide +kernel
theorem jd_M_lay_139 : decode jb_M_lay 139 = .ok (.aload_n 0, 1) := by decide +kernel
theorem jd_M_lay_140 : decode jb_M_lay 140 = .ok (.iconst 0, 1) := by decide +kernel
theorem jd_M_lay_141 : decode jb_M_lay 141 = .ok (.putfield 140, 3) := by decide +kernel
theorem jd_M_lay_144 : decode jb_M_lay 144 = .ok (.aload_n 0, 1) := by decide +kernel
theorem jd_M_lay_145 : decode jb_M_lay 145 = .ok (.iconst 0, 1) := by decide +kernel
theorem jd_M_lay_146 : decode jb_M_lay 146 = .ok (.putfield 143, 3) := by decide +kernel
theorem jd_M_lay_149 : decode jb_M_lay 149 = .ok (.aload_n 0, 1) := by decide +kernel
theorem jd_M_lay_150 : decode jb_M_lay 150 = .ok (.iconst 0, 1) := by decide +kernel
theorem jd_M_lay_151 : decode jb_M_lay 151 = .ok (.putfield 146, 3) := by decide +kernel
theorem jd_M_lay_154 : decode jb_M_lay 154 = .ok (.aload_n 0, 1) := by decide +kernel
theorem jd_M_lay_155 : decode jb_M_lay 155 = .ok (.getfield 124, 3) := by decide +kernel
theorem jd_M_lay_158 : decode jb_M_lay 158 = .ok (.ireturn, 1) := by decide +kernel
theorem jd_M_write_0 : decode jb_M_write 0 = .ok (.iload_n 1, 1) := by decide +kernel
theorem jd_M_write_1 : decode jb_M_write 1 = .ok (.i2l, 1) := by decide +kernel
theorem jd_M_write_2 : decode jb_M_write 2 = .ok (.ldc2_w 69, 3) := by decide +kernel
theorem jd_M_write_5 : decode jb_M_write 5 = .ok (.ldc2_w 71, 3) := by decide +kernel
theorem jd_M_write_8 : decode jb_M_write 8 = .ok (.invokestatic 73, 3) := by decide +kernel
theorem jd_M_write_11 : decode jb_M_write 11 = .ok (.ifCond .ne 5, 3) := by decide +kernel
theorem jd_M_write_14 : decode jb_M_write 14 = .ok (.iconst (-1), 1) := by decide +kernel
theorem jd_M_write_15 : decode jb_M_write 15 = .ok (.ireturn, 1) := by decide +kernel
theorem jd_M_write_16 : decode jb_M_write 16 = .ok (.aload_n 0, 1) := by decide +kernel
theorem jd_M_write_17 : decode jb_M_write 17 = .ok (.getfield 61, 3) := by decide +kernel
theorem jd_M_write_20 : decode jb_M_write 20 = .ok (.sipush 200, 3) := by decide +kernel
theorem jd_M_write_23 : decode jb_M_write 23 = .ok (.if_icmp .ne 6, 3) := by decide +kernel
theorem jd_M_write_26 : decode jb_M_write 26 = .ok (.bipush (-3), 2) := by decide +kernel
theorem jd_M_write_28 : decode jb_M_write 28 = .ok (.ireturn, 1) := by decide +kernel
theorem jd_M_write_29 : decode jb_M_write 29 = .ok (.aload_n 0, 1) := by decide +kernel
theorem jd_M_write_30 : decode jb_M_write 30 = .ok (.getfield 7, 3) := by decide +kernel
theorem jd_M_write_33 : decode jb_M_write 33 = .ok (.aload_n 0, 1) := by decide +kernel
theorem jd_M_write_34 : decode jb_M_write 34 = .ok (.getfield 61, 3) := by decide +kernel
theorem jd_M_write_37 : decode jb_M_write 37 = .ok (.iload_n 1, 1) := by decide +kernel
theorem jd_M_write_38 : decode jb_M_write 38 = .ok (.iastore, 1) := by decide +kernel
theorem jd_M_write_39 : decode jb_M_write 39 = .ok (.aload_n 0, 1) := by decide +kernel
theorem jd_M_write_40 : decode jb_M_write 40 = .ok (.dup, 1) := by decide +kernel
theorem jd_M_write_41 : decode jb_M_write 41 = .ok (.getfield 61, 3) := by decide +kernel
theorem jd_M_write_44 : decode jb_M_write 44 = .ok (.iconst 1, 1) := by decide +kernel
theorem jd_M_write_45 : decode jb_M_write 45 = .ok (.iadd, 1) := by decide +kernel
theorem jd_M_write_46 : decode jb_M_write 46 = .ok (.putfield 61, 3) := by decide +kernel
theorem jd_M_write_49 : decode jb_M_write 49 = .ok (.aload_n 0, 1) := by decide +kernel
theorem jd_M_write_50 : decode jb_M_write 50 = .ok (.getfield 61, 3) := by decide +kernel
theorem jd_M_write_53 : decode jb_M_write 53 = .ok (.ireturn, 1) := by decide +kernel
theorem jd_M_wipe_0 : decode jb_M_wipe 0 = .ok (.aload_n 0, 1) := by decide +kernel
theorem jd_M_wipe_1 : decode jb_M_wipe 1 = .ok (.getfield 61, 3) := by decide +kernel
theorem jd_M_wipe_4 : decode jb_M_wipe 4 = .ok (.istore_n 1, 1) := by decide +kernel
theorem jd_M_wipe_5 : decode jb_M_wipe 5 = .ok (.aload_n 0, 1) := by decide +kernel
theorem jd_M_wipe_6 : decode jb_M_wipe 6 = .ok (.iconst 0, 1) := by decide +kernel
theorem jd_M_wipe_7 : decode jb_M_wipe 7 = .ok (.putfield 61, 3) := by decide +kernel
theorem jd_M_wipe_10 : decode jb_M_wipe 10 = .ok (.iload_n 1, 1) := by decide +kernel
theorem jd_M_wipe_11 : decode jb_M_wipe 11 = .ok (.ireturn, 1) := by decide +kernel
theorem jd_M_isMower_0 : decode jb_M_isMower 0 = .ok (.iload_n 1, 1) := by decide +kernel
theorem jd_M_isMower_1 : decode jb_M_isMower 1 = .ok (.i2l, 1) := by decide +kernel
theorem jd_M_isMower_2 : decode jb_M_isMower 2 = .ok (.lconst 0, 1) := by decide +kernel
theorem jd_M_isMower_3 : decode jb_M_isMower 3 = .ok (.aload_n 0, 1) := by decide +kernel
theorem jd_M_isMower_4 : decode jb_M_isMower 4 = .ok (.getfield 124, 3) := by decide +kernel
theorem jd_M_isMower_7 : decode jb_M_isMower 7 = .ok (.iconst 1, 1) := by decide +kernel
theorem jd_M_isMower_8 : decode jb_M_isMower 8 = .ok (.isub, 1) := by decide +kernel
theorem jd_M_isMower_9 : decode jb_M_isMower 9 = .ok (.i2l, 1) := by decide +kernel
theorem jd_M_isMower_10 : decode jb_M_isMower 10 = .ok (.invokestatic 73, 3) := by decide +kernel
theorem jd_M_isMower_13 : decode jb_M_isMower 13 = .ok (.ireturn, 1) := by decide +kernel
theorem jd_M_nextWord_0 : decode jb_M_nextWord 0 = .ok (.aload_n 0, 1) := by decide +kernel
theorem jd_M_nextWord_1 : decode jb_M_nextWord 1 = .ok (.getfield 16, 3) := by decide +kernel
theorem jd_M_nextWord_4 : decode jb_M_nextWord 4 = .ok (.bipush 9, 2) := by decide +kernel
theorem jd_M_nextWord_6 : decode jb_M_nextWord 6 = .ok (.iload_n 1, 1) := by decide +kernel
theorem jd_M_nextWord_7 : decode jb_M_nextWord 7 = .ok (.imul, 1) := by decide +kernel
theorem jd_M_nextWord_8 : decode jb_M_nextWord 8 = .ok (.iload_n 2, 1) := by decide +kernel
theorem jd_M_nextWord_9 : decode jb_M_nextWord 9 = .ok (.aload_n 0, 1) := by decide +kernel
theorem jd_M_nextWord_10 : decode jb_M_nextWord 10 = .ok (.getfield 13, 3) := by decide +kernel
theorem jd_M_nextWord_13 : decode jb_M_nextWord 13 = .ok (.iload_n 1, 1) := by decide +kernel
theorem jd_M_nextWord_14 : decode jb_M_nextWord 14 = .ok (.iaload, 1) := by decide +kernel
theorem jd_M_nextWord_15 : decode jb_M_nextWord 15 = .ok (.irem, 1) := by decide +kernel
theorem jd_M_nextWord_16 : decode jb_M_nextWord 16 = .ok (.iadd, 1) := by decide +kernel
theorem jd_M_nextWord_17 : decode jb_M_nextWord 17 = .ok (.iaload, 1) := by decide +kernel
theorem jd_M_nextWord_18 : decode jb_M_nextWord 18 = .ok (.ireturn, 1) := by decide +kernel
theorem jd_M_mower_0 : decode jb_M_mower 0 = .ok (.aload_n 0, 1) := by decide +kernel
theorem jd_M_mower_1 : decode jb_M_mower 1 = .ok (.iload_n 1, 1) := by decide +kernel
theorem jd_M_mower_2 : decode jb_M_mower 2 = .ok (.invokevirtual 149, 3) := by decide +kernel
theorem jd_M_mower_5 : decode jb_M_mower 5 = .ok (.ifCond .eq 15, 3) := by decide +kernel
theorem jd_M_mower_8 : decode jb_M_mower 8 = .ok (.iload_n 2, 1) := by decide +kernel
theorem jd_M_mower_9 : decode jb_M_mower 9 = .ok (.i2l, 1) := by decide +kernel
theorem jd_M_mower_10 : decode jb_M_mower 10 = .ok (.lconst 0, 1) := by decide +kernel
theorem jd_M_mower_11 : decode jb_M_mower 11 = .ok (.ldc2_w 81, 3) := by decide +kernel
theorem jd_M_mower_14 : decode jb_M_mower 14 = .ok (.invokestatic 73, 3) := by decide +kernel
theorem jd_M_mower_17 : decode jb_M_mower 17 = .ok (.ifCond .ne 5, 3) := by decide +kernel
theorem jd_M_mower_20 : decode jb_M_mower 20 = .ok (.iconst (-1), 1) := by decide +kernel
theorem jd_M_mower_21 : decode jb_M_mower 21 = .ok (.ireturn, 1) := by decide +kernel
theorem jd_M_mower_22 : decode jb_M_mower 22 = .ok (.iload_n 2, 1) := by decide +kernel
theorem jd_M_mower_23 : decode jb_M_mower 23 = .ok (.ifCond .ne 17, 3) := by decide +kernel
theorem jd_M_mower_26 : decode jb_M_mower 26 = .ok (.aload_n 0, 1) := by decide +kernel
theorem jd_M_mower_27 : decode jb_M_mower 27 = .ok (.iload_n 1, 1) := by decide +kernel
theorem jd_M_mower_28 : decode jb_M_mower 28 = .ok (.aload_n 0, 1) := by decide +kernel
theorem jd_M_mower_29 : decode jb_M_mower 29 = .ok (.getfield 43, 3) := by decide +kernel
theorem jd_M_mower_32 : decode jb_M_mower 32 = .ok (.iconst 0, 1) := by decide +kernel
theorem jd_M_mower_33 : decode jb_M_mower 33 = .ok (.iaload, 1) := by decide +kernel
theorem jd_M_mower_34 : decode jb_M_mower 34 = .ok (.invokevirtual 153, 3) := by decide +kernel
theorem jd_M_mower_37 : decode jb_M_mower 37 = .ok (.goto 28, 3) := by decide +kernel
theorem jd_M_mower_40 : decode jb_M_mower 40 = .ok (.iload_n 2, 1) := by decide +kernel
theorem jd_M_mower_41 : decode jb_M_mower 41 = .ok (.iconst 1, 1) := by decide +kernel
theorem jd_M_mower_42 : decode jb_M_mower 42 = .ok (.if_icmp .ne 14, 3) := by decide +kernel
theorem jd_M_mower_45 : decode jb_M_mower 45 = .ok (.aload_n 0, 1) := by decide +kernel
theorem jd_M_mower_46 : decode jb_M_mower 46 = .ok (.getfield 43, 3) := by decide +kernel
theorem jd_M_mower_49 : decode jb_M_mower 49 = .ok (.iconst 1, 1) := by decide +kernel
theorem jd_M_mower_50 : decode jb_M_mower 50 = .ok (.iload_n 1, 1) := by decide +kernel
theorem jd_M_mower_51 : decode jb_M_mower 51 = .ok (.iadd, 1) := by decide +kernel
theorem jd_M_mower_52 : decode jb_M_mower 52 = .ok (.iaload, 1) := by decide +kernel
theorem jd_M_mower_53 : decode jb_M_mower 53 = .ok (.goto 12, 3) := by decide +kernel
theorem jd_M_mower_56 : decode jb_M_mower 56 = .ok (.aload_n 0, 1) := by decide +kernel
theorem jd_M_mower_57 : decode jb_M_mower 57 = .ok (.getfield 43, 3) := by decide +kernel
theorem jd_M_mower_60 : decode jb_M_mower 60 = .ok (.bipush 6, 2) := by decide +kernel
theorem jd_M_mower_62 : decode jb_M_mower 62 = .ok (.iload_n 1, 1) := by decide +kernel
theorem jd_M_mower_63 : decode jb_M_mower 63 = .ok (.iadd, 1) := by decide +kernel
theorem jd_M_mower_64 : decode jb_M_mower 64 = .ok (.iaload, 1) := by decide +kernel
theorem jd_M_mower_65 : decode jb_M_mower 65 = .ok (.ireturn, 1) := by decide +kernel
theorem jd_M_isCow_0 : decode jb_M_isCow 0 = .ok (.iload_n 1, 1) := by decide +kernel
theorem jd_M_isCow_1 : decode jb_M_isCow 1 = .ok (.i2l, 1) := by decide +kernel
theorem jd_M_isCow_2 : decode jb_M_isCow 2 = .ok (.lconst 0, 1) := by decide +kernel
theorem jd_M_isCow_3 : decode jb_M_isCow 3 = .ok (.aload_n 0, 1) := by decide +kernel
theorem jd_M_isCow_4 : decode jb_M_isCow 4 = .ok (.getfield 127, 3) := by decide +kernel
theorem jd_M_isCow_7 : decode jb_M_isCow 7 = .ok (.iconst 1, 1) := by decide +kernel
theorem jd_M_isCow_8 : decode jb_M_isCow 8 = .ok (.isub, 1) := by decide +kernel
theorem jd_M_isCow_9 : decode jb_M_isCow 9 = .ok (.i2l, 1) := by decide +kernel
theorem jd_M_isCow_10 : decode jb_M_isCow 10 = .ok (.invokestatic 73, 3) := by decide +kernel
theorem jd_M_isCow_13 : decode jb_M_isCow 13 = .ok (.ireturn, 1) := by decide +kernel
theorem jd_M_cow_0 : decode jb_M_cow 0 = .ok (.aload_n 0, 1) := by decide +kernel
theorem jd_M_cow_1 : decode jb_M_cow 1 = .ok (.iload_n 1, 1) := by decide +kernel
theorem jd_M_cow_2 : decode jb_M_cow 2 = .ok (.invokevirtual 156, 3) := by decide +kernel
theorem jd_M_cow_5 : decode jb_M_cow 5 = .ok (.ifCond .eq 13, 3) := by decide +kernel
theorem jd_M_cow_8 : decode jb_M_cow 8 = .ok (.iload_n 2, 1) := by decide +kernel
theorem jd_M_cow_9 : decode jb_M_cow 9 = .ok (.i2l, 1) := by decide +kernel
theorem jd_M_cow_10 : decode jb_M_cow 10 = .ok (.lconst 0, 1) := by decide +kernel
theorem jd_M_cow_11 : decode jb_M_cow 11 = .ok (.lconst 1, 1) := by decide +kernel
theorem jd_M_cow_12 : decode jb_M_cow 12 = .ok (.invokestatic 73, 3) := by decide +kernel
theorem jd_M_cow_15 : decode jb_M_cow 15 = .ok (.ifCond .ne 7, 3) := by decide +kernel
theorem jd_M_cow_18 : decode jb_M_cow 18 = .ok (.iconst (-1), 1) := by decide +kernel
theorem jd_M_cow_19 : decode jb_M_cow 19 = .ok (.goto 25, 3) := by decide +kernel
theorem jd_M_cow_22 : decode jb_M_cow 22 = .ok (.iload_n 2, 1) := by decide +kernel
theorem jd_M_cow_23 : decode jb_M_cow 23 = .ok (.ifCond .ne 12, 3) := by decide +kernel
theorem jd_M_cow_26 : decode jb_M_cow 26 = .ok (.aload_n 0, 1) := by decide +kernel
theorem jd_M_cow_27 : decode jb_M_cow 27 = .ok (.getfield 22, 3) := by decide +kernel
theorem jd_M_cow_30 : decode jb_M_cow 30 = .ok (.iload_n 1, 1) := by decide +kernel
theorem jd_M_cow_31 : decode jb_M_cow 31 = .ok (.iaload, 1) := by decide +kernel
theorem jd_M_cow_32 : decode jb_M_cow 32 = .ok (.goto 12, 3) := by decide +kernel
theorem jd_M_cow_35 : decode jb_M_cow 35 = .ok (.aload_n 0, 1) := by decide +kernel
theorem jd_M_cow_36 : decode jb_M_cow 36 = .ok (.getfield 43, 3) := by decide +kernel
theorem jd_M_cow_39 : decode jb_M_cow 39 = .ok (.bipush 11, 2) := by decide +kernel
theorem jd_M_cow_41 : decode jb_M_cow 41 = .ok (.iload_n 1, 1) := by decide +kernel
theorem jd_M_cow_42 : decode jb_M_cow 42 = .ok (.iadd, 1) := by decide +kernel
theorem jd_M_cow_43 : decode jb_M_cow 43 = .ok (.iaload, 1) := by decide +kernel
theorem jd_M_cow_44 : decode jb_M_cow 44 = .ok (.ireturn, 1) := by decide +kernel
theorem jd_M_isRick_0 : decode jb_M_isRick 0 = .ok (.iload_n 1, 1) := by decide +kernel
theorem jd_M_isRick_1 : decode jb_M_isRick 1 = .ok (.i2l, 1) := by decide +kernel
theorem jd_M_isRick_2 : decode jb_M_isRick 2 = .ok (.lconst 0, 1) := by decide +kernel
theorem jd_M_isRick_3 : decode jb_M_isRick 3 = .ok (.aload_n 0, 1) := by decide +kernel
theorem jd_M_isRick_4 : decode jb_M_isRick 4 = .ok (.getfield 130, 3) := by decide +kernel
theorem jd_M_isRick_7 : decode jb_M_isRick 7 = .ok (.iconst 1, 1) := by decide +kernel
theorem jd_M_isRick_8 : decode jb_M_isRick 8 = .ok (.isub, 1) := by decide +kernel
theorem jd_M_isRick_9 : decode jb_M_isRick 9 = .ok (.i2l, 1) := by decide +kernel
theorem jd_M_isRick_10 : decode jb_M_isRick 10 = .ok (.invokestatic 73, 3) := by decide +kernel
theorem jd_M_isRick_13 : decode jb_M_isRick 13 = .ok (.ireturn, 1) := by decide +kernel
theorem jd_M_hottest_0 : decode jb_M_hottest 0 = .ok (.iconst 0, 1) := by decide +kernel
theorem jd_M_hottest_1 : decode jb_M_hottest 1 = .ok (.istore_n 2, 1) := by decide +kernel
theorem jd_M_hottest_2 : decode jb_M_hottest 2 = .ok (.iconst 0, 1) := by decide +kernel
theorem jd_M_hottest_3 : decode jb_M_hottest 3 = .ok (.istore_n 3, 1) := by decide +kernel
theorem jd_M_hottest_4 : decode jb_M_hottest 4 = .ok (.iload_n 3, 1) := by decide +kernel
theorem jd_M_hottest_5 : decode jb_M_hottest 5 = .ok (.aload_n 0, 1) := by decide +kernel
theorem jd_M_hottest_6 : decode jb_M_hottest 6 = .ok (.getfield 43, 3) := by decide +kernel
theorem jd_M_hottest_9 : decode jb_M_hottest 9 = .ok (.bipush 15, 2) := by decide +kernel
theorem jd_M_hottest_11 : decode jb_M_hottest 11 = .ok (.iload_n 1, 1) := by decide +kernel
theorem jd_M_hottest_12 : decode jb_M_hottest 12 = .ok (.iadd, 1) := by decide +kernel
theorem jd_M_hottest_13 : decode jb_M_hottest 13 = .ok (.iaload, 1) := by decide +kernel
theorem jd_M_hottest_14 : decode jb_M_hottest 14 = .ok (.if_icmp .ge 38, 3) := by decide +kernel
theorem jd_M_hottest_17 : decode jb_M_hottest 17 = .ok (.aload_n 0, 1) := by decide +kernel
theorem jd_M_hottest_18 : decode jb_M_hottest 18 = .ok (.getfield 43, 3) := by decide +kernel
theorem jd_M_hottest_21 : decode jb_M_hottest 21 = .ok (.bipush 69, 2) := by decide +kernel
theorem jd_M_hottest_23 : decode jb_M_hottest 23 = .ok (.bipush 8, 2) := by decide +kernel
theorem jd_M_hottest_25 : decode jb_M_hottest 25 = .ok (.iload_n 1, 1) := by decide +kernel
theorem jd_M_hottest_26 : decode jb_M_hottest 26 = .ok (.imul, 1) := by decide +kernel
theorem jd_M_hottest_27 : decode jb_M_hottest 27 = .ok (.iadd, 1) := by decide +kernel
theorem jd_M_hottest_28 : decode jb_M_hottest 28 = .ok (.iload_n 3, 1) := by decide +kernel
theorem jd_M_hottest_29 : decode jb_M_hottest 29 = .ok (.iadd, 1) := by decide +kernel
theorem jd_M_hottest_30 : decode jb_M_hottest 30 = .ok (.iaload, 1) := by decide +kernel
theorem jd_M_hottest_31 : decode jb_M_hottest 31 = .ok (.istore 4, 2) := by decide +kernel
theorem jd_M_hottest_33 : decode jb_M_hottest 33 = .ok (.iload 4, 2) := by decide +kernel
theorem jd_M_hottest_35 : decode jb_M_hottest 35 = .ok (.iload_n 2, 1) := by decide +kernel
theorem jd_M_hottest_36 : decode jb_M_hottest 36 = .ok (.if_icmp .le 8, 3) := by decide +kernel
theorem jd_M_hottest_39 : decode jb_M_hottest 39 = .ok (.iload 4, 2) := by decide +kernel
theorem jd_M_hottest_41 : decode jb_M_hottest 41 = .ok (.goto 4, 3) := by decide +kernel
theorem jd_M_hottest_44 : decode jb_M_hottest 44 = .ok (.iload_n 2, 1) := by decide +kernel
theorem jd_M_hottest_45 : decode jb_M_hottest 45 = .ok (.istore_n 2, 1) := by decide +kernel
theorem jd_M_hottest_46 : decode jb_M_hottest 46 = .ok (.iinc 3 1, 3) := by decide +kernel
theorem jd_M_hottest_49 : decode jb_M_hottest 49 = .ok (.goto (-45), 3) := by decide +kernel
theorem jd_M_hottest_52 : decode jb_M_hottest 52 = .ok (.iload_n 2, 1) := by decide +kernel
theorem jd_M_hottest_53 : decode jb_M_hottest 53 = .ok (.ireturn, 1) := by decide +kernel
theorem jd_M_rick_0 : decode jb_M_rick 0 = .ok (.aload_n 0, 1) := by decide +kernel
theorem jd_M_rick_1 : decode jb_M_rick 1 = .ok (.iload_n 1, 1) := by decide +kernel
theorem jd_M_rick_2 : decode jb_M_rick 2 = .ok (.invokevirtual 159, 3) := by decide +kernel
theorem jd_M_rick_5 : decode jb_M_rick 5 = .ok (.ifCond .eq 15, 3) := by decide +kernel
theorem jd_M_rick_8 : decode jb_M_rick 8 = .ok (.iload_n 2, 1) := by decide +kernel
theorem jd_M_rick_9 : decode jb_M_rick 9 = .ok (.i2l, 1) := by decide +kernel
theorem jd_M_rick_10 : decode jb_M_rick 10 = .ok (.lconst 0, 1) := by decide +kernel
theorem jd_M_rick_11 : decode jb_M_rick 11 = .ok (.ldc2_w 100, 3) := by decide +kernel
theorem jd_M_rick_14 : decode jb_M_rick 14 = .ok (.invokestatic 73, 3) := by decide +kernel
theorem jd_M_rick_17 : decode jb_M_rick 17 = .ok (.ifCond .ne 5, 3) := by decide +kernel
theorem jd_M_rick_20 : decode jb_M_rick 20 = .ok (.iconst (-1), 1) := by decide +kernel
theorem jd_M_rick_21 : decode jb_M_rick 21 = .ok (.ireturn, 1) := by decide +kernel
theorem jd_M_rick_22 : decode jb_M_rick 22 = .ok (.iload_n 2, 1) := by decide +kernel
theorem jd_M_rick_23 : decode jb_M_rick 23 = .ok (.ifCond .ne 12, 3) := by decide +kernel
theorem jd_M_rick_26 : decode jb_M_rick 26 = .ok (.aload_n 0, 1) := by decide +kernel
theorem jd_M_rick_27 : decode jb_M_rick 27 = .ok (.getfield 25, 3) := by decide +kernel
theorem jd_M_rick_30 : decode jb_M_rick 30 = .ok (.iload_n 1, 1) := by decide +kernel
theorem jd_M_rick_31 : decode jb_M_rick 31 = .ok (.iaload, 1) := by decide +kernel
theorem jd_M_rick_32 : decode jb_M_rick 32 = .ok (.goto 42, 3) := by decide +kernel
theorem jd_M_rick_35 : decode jb_M_rick 35 = .ok (.iload_n 2, 1) := by decide +kernel
theorem jd_M_rick_36 : decode jb_M_rick 36 = .ok (.iconst 1, 1) := by decide +kernel
theorem jd_M_rick_37 : decode jb_M_rick 37 = .ok (.if_icmp .ne 15, 3) := by decide +kernel
theorem jd_M_rick_40 : decode jb_M_rick 40 = .ok (.aload_n 0, 1) := by decide +kernel
theorem jd_M_rick_41 : decode jb_M_rick 41 = .ok (.getfield 43, 3) := by decide +kernel
theorem jd_M_rick_44 : decode jb_M_rick 44 = .ok (.bipush 15, 2) := by decide +kernel
theorem jd_M_rick_46 : decode jb_M_rick 46 = .ok (.iload_n 1, 1) := by decide +kernel
theorem jd_M_rick_47 : decode jb_M_rick 47 = .ok (.iadd, 1) := by decide +kernel
theorem jd_M_rick_48 : decode jb_M_rick 48 = .ok (.iaload, 1) := by decide +kernel
theorem jd_M_rick_49 : decode jb_M_rick 49 = .ok (.goto 25, 3) := by decide +kernel
theorem jd_M_rick_52 : decode jb_M_rick 52 = .ok (.iload_n 2, 1) := by decide +kernel
theorem jd_M_rick_53 : decode jb_M_rick 53 = .ok (.iconst 2, 1) := by decide +kernel
theorem jd_M_rick_54 : decode jb_M_rick 54 = .ok (.if_icmp .ne 11, 3) := by decide +kernel
theorem jd_M_rick_57 : decode jb_M_rick 57 = .ok (.aload_n 0, 1) := by decide +kernel
theorem jd_M_rick_58 : decode jb_M_rick 58 = .ok (.iload_n 1, 1) := by decide +kernel
theorem jd_M_rick_59 : decode jb_M_rick 59 = .ok (.invokevirtual 162, 3) := by decide +kernel
theorem jd_M_rick_62 : decode jb_M_rick 62 = .ok (.goto 12, 3) := by decide +kernel
theorem jd_M_rick_65 : decode jb_M_rick 65 = .ok (.aload_n 0, 1) := by decide +kernel
theorem jd_M_rick_66 : decode jb_M_rick 66 = .ok (.getfield 43, 3) := by decide +kernel
theorem jd_M_rick_69 : decode jb_M_rick 69 = .ok (.bipush 18, 2) := by decide +kernel
theorem jd_M_rick_71 : decode jb_M_rick 71 = .ok (.iload_n 1, 1) := by decide +kernel
theorem jd_M_rick_72 : decode jb_M_rick 72 = .ok (.iadd, 1) := by decide +kernel
theorem jd_M_rick_73 : decode jb_M_rick 73 = .ok (.iaload, 1) := by decide +kernel
theorem jd_M_rick_74 : decode jb_M_rick 74 = .ok (.ireturn, 1) := by decide +kernel
theorem jd_M_layer_0 : decode jb_M_layer 0 = .ok (.aload_n 0, 1) := by decide +kernel
theorem jd_M_layer_1 : decode jb_M_layer 1 = .ok (.iload_n 1, 1) := by decide +kernel
theorem jd_M_layer_2 : decode jb_M_layer 2 = .ok (.invokevirtual 159, 3) := by decide +kernel
theorem jd_M_layer_5 : decode jb_M_layer 5 = .ok (.ifCond .eq 36, 3) := by decide +kernel
theorem jd_M_layer_8 : decode jb_M_layer 8 = .ok (.iload_n 2, 1) := by decide +kernel
theorem jd_M_layer_9 : decode jb_M_layer 9 = .ok (.i2l, 1) := by decide +kernel
theorem jd_M_layer_10 : decode jb_M_layer 10 = .ok (.lconst 0, 1) := by decide +kernel
theorem jd_M_layer_11 : decode jb_M_layer 11 = .ok (.aload_n 0, 1) := by decide +kernel
theorem jd_M_layer_12 : decode jb_M_layer 12 = .ok (.getfield 43, 3) := by decide +kernel
theorem jd_M_layer_15 : decode jb_M_layer 15 = .ok (.bipush 15, 2) := by decide +kernel
theorem jd_M_layer_17 : decode jb_M_layer 17 = .ok (.iload_n 1, 1) := by decide +kernel
theorem jd_M_layer_18 : decode jb_M_layer 18 = .ok (.iadd, 1) := by decide +kernel
theorem jd_M_layer_19 : decode jb_M_layer 19 = .ok (.iaload, 1) := by decide +kernel
theorem jd_M_layer_20 : decode jb_M_layer 20 = .ok (.iconst 1, 1) := by decide +kernel
theorem jd_M_layer_21 : decode jb_M_layer 21 = .ok (.isub, 1) := by decide +kernel
theorem jd_M_layer_22 : decode jb_M_layer 22 = .ok (.i2l, 1) := by decide +kernel
theorem jd_M_layer_23 : decode jb_M_layer 23 = .ok (.invokestatic 73, 3) := by decide +kernel
theorem jd_M_layer_26 : decode jb_M_layer 26 = .ok (.ifCond .eq 15, 3) := by decide +kernel
theorem jd_M_layer_29 : decode jb_M_layer 29 = .ok (.iload_n 3, 1) := by decide +kernel
theorem jd_M_layer_30 : decode jb_M_layer 30 = .ok (.i2l, 1) := by decide +kernel
theorem jd_M_layer_31 : decode jb_M_layer 31 = .ok (.lconst 0, 1) := by decide +kernel
theorem jd_M_layer_32 : decode jb_M_layer 32 = .ok (.ldc2_w 81, 3) := by decide +kernel
theorem jd_M_layer_35 : decode jb_M_layer 35 = .ok (.invokestatic 73, 3) := by decide +kernel
theorem jd_M_layer_38 : decode jb_M_layer 38 = .ok (.ifCond .ne 5, 3) := by decide +kernel
theorem jd_M_layer_41 : decode jb_M_layer 41 = .ok (.iconst (-1), 1) := by decide +kernel
theorem jd_M_layer_42 : decode jb_M_layer 42 = .ok (.ireturn, 1) := by decide +kernel
theorem jd_M_layer_43 : decode jb_M_layer 43 = .ok (.bipush 8, 2) := by decide +kernel
theorem jd_M_layer_45 : decode jb_M_layer 45 = .ok (.iload_n 1, 1) := by decide +kernel
theorem jd_M_layer_46 : decode jb_M_layer 46 = .ok (.imul, 1) := by decide +kernel
theorem jd_M_layer_47 : decode jb_M_layer 47 = .ok (.iload_n 2, 1) := by decide +kernel
theorem jd_M_layer_48 : decode jb_M_layer 48 = .ok (.iadd, 1) := by decide +kernel
theorem jd_M_layer_49 : decode jb_M_layer 49 = .ok (.istore 4, 2) := by decide +kernel
theorem jd_M_layer_51 : decode jb_M_layer 51 = .ok (.iload_n 3, 1) := by decide +kernel
theorem jd_M_layer_52 : decode jb_M_layer 52 = .ok (.ifCond .ne 16, 3) := by decide +kernel
theorem jd_M_layer_55 : decode jb_M_layer 55 = .ok (.aload_n 0, 1) := by decide +kernel
theorem jd_M_layer_56 : decode jb_M_layer 56 = .ok (.getfield 43, 3) := by decide +kernel
theorem jd_M_layer_59 : decode jb_M_layer 59 = .ok (.bipush 21, 2) := by decide +kernel
theorem jd_M_layer_61 : decode jb_M_layer 61 = .ok (.iload 4, 2) := by decide +kernel
theorem jd_M_layer_63 : decode jb_M_layer 63 = .ok (.iadd, 1) := by decide +kernel
theorem jd_M_layer_64 : decode jb_M_layer 64 = .ok (.iaload, 1) := by decide +kernel
theorem jd_M_layer_65 : decode jb_M_layer 65 = .ok (.goto 31, 3) := by decide +kernel
theorem jd_M_layer_68 : decode jb_M_layer 68 = .ok (.iload_n 3, 1) := by decide +kernel
theorem jd_M_layer_69 : decode jb_M_layer 69 = .ok (.iconst 1, 1) := by decide +kernel
theorem jd_M_layer_70 : decode jb_M_layer 70 = .ok (.if_icmp .ne 16, 3) := by decide +kernel
theorem jd_M_layer_73 : decode jb_M_layer 73 = .ok (.aload_n 0, 1) := by decide +kernel
theorem jd_M_layer_74 : decode jb_M_layer 74 = .ok (.getfield 43, 3) := by decide +kernel
theorem jd_M_layer_77 : decode jb_M_layer 77 = .ok (.bipush 45, 2) := by decide +kernel
theorem jd_M_layer_79 : decode jb_M_layer 79 = .ok (.iload 4, 2) := by decide +kernel
theorem jd_M_layer_81 : decode jb_M_layer 81 = .ok (.iadd, 1) := by decide +kernel
theorem jd_M_layer_82 : decode jb_M_layer 82 = .ok (.iaload, 1) := by decide +kernel
theorem jd_M_layer_83 : decode jb_M_layer 83 = .ok (.goto 13, 3) := by decide +kernel
theorem jd_M_layer_86 : decode jb_M_layer 86 = .ok (.aload_n 0, 1) := by decide +kernel
theorem jd_M_layer_87 : decode jb_M_layer 87 = .ok (.getfield 43, 3) := by decide +kernel
theorem jd_M_layer_90 : decode jb_M_layer 90 = .ok (.bipush 69, 2) := by decide +kernel
theorem jd_M_layer_92 : decode jb_M_layer 92 = .ok (.iload 4, 2) := by decide +kernel
theorem jd_M_layer_94 : decode jb_M_layer 94 = .ok (.iadd, 1) := by decide +kernel
theorem jd_M_layer_95 : decode jb_M_layer 95 = .ok (.iaload, 1) := by decide +kernel
theorem jd_M_layer_96 : decode jb_M_layer 96 = .ok (.ireturn, 1) := by decide +kernel
theorem jd_M_undo_0 : decode jb_M_undo 0 = .ok (.aload_n 0, 1) := by decide +kernel
theorem jd_M_undo_1 : decode jb_M_undo 1 = .ok (.getfield 143, 3) := by decide +kernel
theorem jd_M_undo_4 : decode jb_M_undo 4 = .ok (.ifCond .ne 6, 3) := by decide +kernel
theorem jd_M_undo_7 : decode jb_M_undo 7 = .ok (.bipush (-2), 2) := by decide +kernel
theorem jd_M_undo_9 : decode jb_M_undo 9 = .ok (.ireturn, 1) := by decide +kernel
theorem jd_M_undo_10 : decode jb_M_undo 10 = .ok (.aload_n 0, 1) := by decide +kernel
theorem jd_M_undo_11 : decode jb_M_undo 11 = .ok (.dup, 1) := by decide +kernel
theorem jd_M_undo_12 : decode jb_M_undo 12 = .ok (.getfield 143, 3) := by decide +kernel
theorem jd_M_undo_15 : decode jb_M_undo 15 = .ok (.iconst 1, 1) := by decide +kernel
theorem jd_M_undo_16 : decode jb_M_undo 16 = .ok (.isub, 1) := by decide +kernel
theorem jd_M_undo_17 : decode jb_M_undo 17 = .ok (.putfield 143, 3) := by decide +kernel
theorem jd_M_undo_20 : decode jb_M_undo 20 = .ok (.iconst 0, 1) := by decide +kernel
theorem jd_M_undo_21 : decode jb_M_undo 21 = .ok (.istore_n 1, 1) := by decide +kernel
theorem jd_M_undo_22 : decode jb_M_undo 22 = .ok (.iload_n 1, 1) := by decide +kernel
theorem jd_M_undo_23 : decode jb_M_undo 23 = .ok (.bipush 93, 2) := by decide +kernel
theorem jd_M_undo_25 : decode jb_M_undo 25 = .ok (.if_icmp .ge 29, 3) := by decide +kernel
theorem jd_M_undo_28 : decode jb_M_undo 28 = .ok (.aload_n 0, 1) := by decide +kernel
theorem jd_M_undo_29 : decode jb_M_undo 29 = .ok (.getfield 43, 3) := by decide +kernel
theorem jd_M_undo_32 : decode jb_M_undo 32 = .ok (.iload_n 1, 1) := by decide +kernel
theorem jd_M_undo_33 : decode jb_M_undo 33 = .ok (.aload_n 0, 1) := by decide +kernel
theorem jd_M_undo_34 : decode jb_M_undo 34 = .ok (.getfield 46, 3) := by decide +kernel
theorem jd_M_undo_37 : decode jb_M_undo 37 = .ok (.bipush 93, 2) := by decide +kernel
theorem jd_M_undo_39 : decode jb_M_undo 39 = .ok (.aload_n 0, 1) := by decide +kernel
theorem jd_M_undo_40 : decode jb_M_undo 40 = .ok (.getfield 143, 3) := by decide +kernel
theorem jd_M_undo_43 : decode jb_M_undo 43 = .ok (.imul, 1) := by decide +kernel
theorem jd_M_undo_44 : decode jb_M_undo 44 = .ok (.iload_n 1, 1) := by decide +kernel
theorem jd_M_undo_45 : decode jb_M_undo 45 = .ok (.iadd, 1) := by decide +kernel
theorem jd_M_undo_46 : decode jb_M_undo 46 = .ok (.iaload, 1) := by decide +kernel
theorem jd_M_undo_47 : decode jb_M_undo 47 = .ok (.iastore, 1) := by decide +kernel
theorem jd_M_undo_48 : decode jb_M_undo 48 = .ok (.iinc 1 1, 3) := by decide +kernel
theorem jd_M_undo_51 : decode jb_M_undo 51 = .ok (.goto (-29), 3) := by decide +kernel
theorem jd_M_undo_54 : decode jb_M_undo 54 = .ok (.aload_n 0, 1) := by decide +kernel
theorem jd_M_undo_55 : decode jb_M_undo 55 = .ok (.getfield 143, 3) := by decide +kernel
theorem jd_M_undo_58 : decode jb_M_undo 58 = .ok (.ireturn, 1) := by decide +kernel
theorem jd_M_note_0 : decode jb_M_note 0 = .ok (.aload_n 0, 1) := by decide +kernel
theorem jd_M_note_1 : decode jb_M_note 1 = .ok (.getfield 143, 3) := by decide +kernel
theorem jd_M_note_4 : decode jb_M_note 4 = .ok (.bipush 8, 2) := by decide +kernel
theorem jd_M_note_6 : decode jb_M_note 6 = .ok (.if_icmp .ne 43, 3) := by decide +kernel
theorem jd_M_note_9 : decode jb_M_note 9 = .ok (.iconst 0, 1) := by decide +kernel
theorem jd_M_note_10 : decode jb_M_note 10 = .ok (.istore_n 1, 1) := by decide +kernel
theorem jd_M_note_11 : decode jb_M_note 11 = .ok (.iload_n 1, 1) := by decide +kernel
theorem jd_M_note_12 : decode jb_M_note 12 = .ok (.sipush 651, 3) := by decide +kernel
theorem jd_M_note_15 : decode jb_M_note 15 = .ok (.if_icmp .ge 24, 3) := by decide +kernel
theorem jd_M_note_18 : decode jb_M_note 18 = .ok (.aload_n 0, 1) := by decide +kernel
theorem jd_M_note_19 : decode jb_M_note 19 = .ok (.getfield 46, 3) := by decide +kernel
theorem jd_M_note_22 : decode jb_M_note 22 = .ok (.iload_n 1, 1) := by decide +kernel
theorem jd_M_note_23 : decode jb_M_note 23 = .ok (.aload_n 0, 1) := by decide +kernel
theorem jd_M_note_24 : decode jb_M_note 24 = .ok (.getfield 46, 3) := by decide +kernel
theorem jd_M_note_27 : decode jb_M_note 27 = .ok (.iload_n 1, 1) := by decide +kernel
theorem jd_M_note_28 : decode jb_M_note 28 = .ok (.bipush 93, 2) := by decide +kernel
theorem jd_M_note_30 : decode jb_M_note 30 = .ok (.iadd, 1) := by decide +kernel
theorem jd_M_note_31 : decode jb_M_note 31 = .ok (.iaload, 1) := by decide +kernel
theorem jd_M_note_32 : decode jb_M_note 32 = .ok (.iastore, 1) := by decide +kernel
theorem jd_M_note_33 : decode jb_M_note 33 = .ok (.iinc 1 1, 3) := by decide +kernel
theorem jd_M_note_36 : decode jb_M_note 36 = .ok (.goto (-25), 3) := by decide +kernel
theorem jd_M_note_39 : decode jb_M_note 39 = .ok (.aload_n 0, 1) := by decide +kernel
theorem jd_M_note_40 : decode jb_M_note 40 = .ok (.dup, 1) := by decide +kernel
theorem jd_M_note_41 : decode jb_M_note 41 = .ok (.getfield 143, 3) := by decide +kernel
theorem jd_M_note_44 : decode jb_M_note 44 = .ok (.iconst 1, 1) := by decide +kernel
theorem jd_M_note_45 : decode jb_M_note 45 = .ok (.isub, 1) := by decide +kernel
theorem jd_M_note_46 : decode jb_M_note 46 = .ok (.putfield 143, 3) := by decide +kernel
theorem jd_M_note_49 : decode jb_M_note 49 = .ok (.iconst 0, 1) := by decide +kernel
theorem jd_M_note_50 : decode jb_M_note 50 = .ok (.istore_n 1, 1) := by decide +kernel
theorem jd_M_note_51 : decode jb_M_note 51 = .ok (.iload_n 1, 1) := by decide +kernel
theorem jd_M_note_52 : decode jb_M_note 52 = .ok (.bipush 93, 2) := by decide +kernel
theorem jd_M_note_54 : decode jb_M_note 54 = .ok (.if_icmp .ge 29, 3) := by decide +kernel
theorem jd_M_note_57 : decode jb_M_note 57 = .ok (.aload_n 0, 1) := by decide +kernel
theorem jd_M_note_58 : decode jb_M_note 58 = .ok (.getfield 46, 3) := by decide +kernel
theorem jd_M_note_61 : decode jb_M_note 61 = .ok (.bipush 93, 2) := by decide +kernel
theorem jd_M_note_63 : decode jb_M_note 63 = .ok (.aload_n 0, 1) := by decide +kernel
theorem jd_M_note_64 : decode jb_M_note 64 = .ok (.getfield 143, 3) := by decide +kernel
theorem jd_M_note_67 : decode jb_M_note 67 = .ok (.imul, 1) := by decide +kernel
theorem jd_M_note_68 : decode jb_M_note 68 = .ok (.iload_n 1, 1) := by decide +kernel
theorem jd_M_note_69 : decode jb_M_note 69 = .ok (.iadd, 1) := by decide +kernel
theorem jd_M_note_70 : decode jb_M_note 70 = .ok (.aload_n 0, 1) := by decide +kernel
theorem jd_M_note_71 : decode jb_M_note 71 = .ok (.getfield 43, 3) := by decide +kernel
theorem jd_M_note_74 : decode jb_M_note 74 = .ok (.iload_n 1, 1) := by decide +kernel
theorem jd_M_note_75 : decode jb_M_note 75 = .ok (.iaload, 1) := by decide +kernel
theorem jd_M_note_76 : decode jb_M_note 76 = .ok (.iastore, 1) := by decide +kernel
theorem jd_M_note_77 : decode jb_M_note 77 = .ok (.iinc 1 1, 3) := by decide +kernel
theorem jd_M_note_80 : decode jb_M_note 80 = .ok (.goto (-29), 3) := by decide +kernel
theorem jd_M_note_83 : decode jb_M_note 83 = .ok (.aload_n 0, 1) := by decide +kernel
theorem jd_M_note_84 : decode jb_M_note 84 = .ok (.dup, 1) := by decide +kernel
theorem jd_M_note_85 : decode jb_M_note 85 = .ok (.getfield 143, 3) := by decide +kernel
theorem jd_M_note_88 : decode jb_M_note 88 = .ok (.iconst 1, 1) := by decide +kernel
theorem jd_M_note_89 : decode jb_M_note 89 = .ok (.iadd, 1) := by decide +kernel
theorem jd_M_note_90 : decode jb_M_note 90 = .ok (.putfield 143, 3) := by decide +kernel
theorem jd_M_note_93 : decode jb_M_note 93 = .ok (.return_, 1) := by decide +kernel
theorem jd_M_heat_0 : decode jb_M_heat 0 = .ok (.iconst 0, 1) := by decide +kernel
theorem jd_M_heat_1 : decode jb_M_heat 1 = .ok (.istore_n 2, 1) := by decide +kernel
theorem jd_M_heat_2 : decode jb_M_heat 2 = .ok (.iload_n 2, 1) := by decide +kernel
theorem jd_M_heat_3 : decode jb_M_heat 3 = .ok (.aload_n 0, 1) := by decide +kernel
theorem jd_M_heat_4 : decode jb_M_heat 4 = .ok (.getfield 43, 3) := by decide +kernel
theorem jd_M_heat_7 : decode jb_M_heat 7 = .ok (.bipush 15, 2) := by decide +kernel
theorem jd_M_heat_9 : decode jb_M_heat 9 = .ok (.iload_n 1, 1) := by decide +kernel
theorem jd_M_heat_10 : decode jb_M_heat 10 = .ok (.iadd, 1) := by decide +kernel
theorem jd_M_heat_11 : decode jb_M_heat 11 = .ok (.iaload, 1) := by decide +kernel
theorem jd_M_heat_12 : decode jb_M_heat 12 = .ok (.if_icmp .ge 57, 3) := by decide +kernel
theorem jd_M_heat_15 : decode jb_M_heat 15 = .ok (.aload_n 0, 1) := by decide +kernel
theorem jd_M_heat_16 : decode jb_M_heat 16 = .ok (.getfield 43, 3) := by decide +kernel
theorem jd_M_heat_19 : decode jb_M_heat 19 = .ok (.bipush 45, 2) := by decide +kernel
theorem jd_M_heat_21 : decode jb_M_heat 21 = .ok (.bipush 8, 2) := by decide +kernel
theorem jd_M_heat_23 : decode jb_M_heat 23 = .ok (.iload_n 1, 1) := by decide +kernel
theorem jd_M_heat_24 : decode jb_M_heat 24 = .ok (.imul, 1) := by decide +kernel
theorem jd_M_heat_25 : decode jb_M_heat 25 = .ok (.iadd, 1) := by decide +kernel
theorem jd_M_heat_26 : decode jb_M_heat 26 = .ok (.iload_n 2, 1) := by decide +kernel
theorem jd_M_heat_27 : decode jb_M_heat 27 = .ok (.iadd, 1) := by decide +kernel
theorem jd_M_heat_28 : decode jb_M_heat 28 = .ok (.iaload, 1) := by decide +kernel
theorem jd_M_heat_29 : decode jb_M_heat 29 = .ok (.aload_n 0, 1) := by decide +kernel
theorem jd_M_heat_30 : decode jb_M_heat 30 = .ok (.getfield 25, 3) := by decide +kernel
theorem jd_M_heat_33 : decode jb_M_heat 33 = .ok (.iload_n 1, 1) := by decide +kernel
theorem jd_M_heat_34 : decode jb_M_heat 34 = .ok (.iaload, 1) := by decide +kernel
theorem jd_M_heat_35 : decode jb_M_heat 35 = .ok (.isub, 1) := by decide +kernel
theorem jd_M_heat_36 : decode jb_M_heat 36 = .ok (.istore_n 3, 1) := by decide +kernel
theorem jd_M_heat_37 : decode jb_M_heat 37 = .ok (.aload_n 0, 1) := by decide +kernel
theorem jd_M_heat_38 : decode jb_M_heat 38 = .ok (.getfield 43, 3) := by decide +kernel
theorem jd_M_heat_41 : decode jb_M_heat 41 = .ok (.bipush 69, 2) := by decide +kernel
theorem jd_M_heat_43 : decode jb_M_heat 43 = .ok (.bipush 8, 2) := by decide +kernel
theorem jd_M_heat_45 : decode jb_M_heat 45 = .ok (.iload_n 1, 1) := by decide +kernel
theorem jd_M_heat_46 : decode jb_M_heat 46 = .ok (.imul, 1) := by decide +kernel
theorem jd_M_heat_47 : decode jb_M_heat 47 = .ok (.iadd, 1) := by decide +kernel
theorem jd_M_heat_48 : decode jb_M_heat 48 = .ok (.iload_n 2, 1) := by decide +kernel
theorem jd_M_heat_49 : decode jb_M_heat 49 = .ok (.iadd, 1) := by decide +kernel
theorem jd_M_heat_50 : decode jb_M_heat 50 = .ok (.dup2, 1) := by decide +kernel
theorem jd_M_heat_51 : decode jb_M_heat 51 = .ok (.iaload, 1) := by decide +kernel
theorem jd_M_heat_52 : decode jb_M_heat 52 = .ok (.iload_n 3, 1) := by decide +kernel
theorem jd_M_heat_53 : decode jb_M_heat 53 = .ok (.ifCond .le 7, 3) := by decide +kernel
theorem jd_M_heat_56 : decode jb_M_heat 56 = .ok (.iload_n 3, 1) := by decide +kernel
theorem jd_M_heat_57 : decode jb_M_heat 57 = .ok (.goto 4, 3) := by decide +kernel
theorem jd_M_heat_60 : decode jb_M_heat 60 = .ok (.iconst 0, 1) := by decide +kernel
theorem jd_M_heat_61 : decode jb_M_heat 61 = .ok (.iadd, 1) := by decide +kernel
theorem jd_M_heat_62 : decode jb_M_heat 62 = .ok (.iastore, 1) := by decide +kernel
theorem jd_M_heat_63 : decode jb_M_heat 63 = .ok (.iinc 2 1, 3) := by decide +kernel
theorem jd_M_heat_66 : decode jb_M_heat 66 = .ok (.goto (-64), 3) := by decide +kernel
theorem jd_M_heat_69 : decode jb_M_heat 69 = .ok (.aload_n 0, 1) := by decide +kernel
theorem jd_M_heat_70 : decode jb_M_heat 70 = .ok (.iload_n 1, 1) := by decide +kernel
theorem jd_M_heat_71 : decode jb_M_heat 71 = .ok (.invokevirtual 162, 3) := by decide +kernel
theorem jd_M_heat_74 : decode jb_M_heat 74 = .ok (.bipush 40, 2) := by decide +kernel
theorem jd_M_heat_76 : decode jb_M_heat 76 = .ok (.if_icmp .lt 26, 3) := by decide +kernel
theorem jd_M_heat_79 : decode jb_M_heat 79 = .ok (.aload_n 0, 1) := by decide +kernel
theorem jd_M_heat_80 : decode jb_M_heat 80 = .ok (.getfield 43, 3) := by decide +kernel
theorem jd_M_heat_83 : decode jb_M_heat 83 = .ok (.bipush 15, 2) := by decide +kernel
theorem jd_M_heat_85 : decode jb_M_heat 85 = .ok (.iload_n 1, 1) := by decide +kernel
theorem jd_M_heat_86 : decode jb_M_heat 86 = .ok (.iadd, 1) := by decide +kernel
theorem jd_M_heat_87 : decode jb_M_heat 87 = .ok (.iconst 0, 1) := by decide +kernel
theorem jd_M_heat_88 : decode jb_M_heat 88 = .ok (.iastore, 1) := by decide +kernel
theorem jd_M_heat_89 : decode jb_M_heat 89 = .ok (.aload_n 0, 1) := by decide +kernel
theorem jd_M_heat_90 : decode jb_M_heat 90 = .ok (.getfield 43, 3) := by decide +kernel
theorem jd_M_heat_93 : decode jb_M_heat 93 = .ok (.bipush 18, 2) := by decide +kernel
theorem jd_M_heat_95 : decode jb_M_heat 95 = .ok (.iload_n 1, 1) := by decide +kernel
theorem jd_M_heat_96 : decode jb_M_heat 96 = .ok (.iadd, 1) := by decide +kernel
theorem jd_M_heat_97 : decode jb_M_heat 97 = .ok (.dup2, 1) := by decide +kernel
theorem jd_M_heat_98 : decode jb_M_heat 98 = .ok (.iaload, 1) := by decide +kernel
theorem jd_M_heat_99 : decode jb_M_heat 99 = .ok (.iconst 1, 1) := by decide +kernel
theorem jd_M_heat_100 : decode jb_M_heat 100 = .ok (.iadd, 1) := by decide +kernel
theorem jd_M_heat_101 : decode jb_M_heat 101 = .ok (.iastore, 1) := by decide +kernel
theorem jd_M_heat_102 : decode jb_M_heat 102 = .ok (.return_, 1) := by decide +kernel
theorem jd_M_rains_0 : decode jb_M_rains 0 = .ok (.aload_n 0, 1) := by decide +kernel
theorem jd_M_rains_1 : decode jb_M_rains 1 = .ok (.getfield 19, 3) := by decide +kernel
theorem jd_M_rains_4 : decode jb_M_rains 4 = .ok (.iload_n 1, 1) := by decide +kernel
theorem jd_M_rains_5 : decode jb_M_rains 5 = .ok (.aload_n 0, 1) := by decide +kernel
theorem jd_M_rains_6 : decode jb_M_rains 6 = .ok (.getfield 133, 3) := by decide +kernel
theorem jd_M_rains_9 : decode jb_M_rains 9 = .ok (.irem, 1) := by decide +kernel
theorem jd_M_rains_10 : decode jb_M_rains 10 = .ok (.iaload, 1) := by decide +kernel
theorem jd_M_rains_11 : decode jb_M_rains 11 = .ok (.ireturn, 1) := by decide +kernel
theorem jd_M_wetter_0 : decode jb_M_wetter 0 = .ok (.iload_n 1, 1) := by decide +kernel
theorem jd_M_wetter_1 : decode jb_M_wetter 1 = .ok (.iload_n 2, 1) := by decide +kernel
theorem jd_M_wetter_2 : decode jb_M_wetter 2 = .ok (.iadd, 1) := by decide +kernel
theorem jd_M_wetter_3 : decode jb_M_wetter 3 = .ok (.bipush 99, 2) := by decide +kernel
theorem jd_M_wetter_5 : decode jb_M_wetter 5 = .ok (.if_icmp .le 8, 3) := by decide +kernel
theorem jd_M_wetter_8 : decode jb_M_wetter 8 = .ok (.bipush 99, 2) := by decide +kernel
theorem jd_M_wetter_10 : decode jb_M_wetter 10 = .ok (.goto 6, 3) := by decide +kernel
theorem jd_M_wetter_13 : decode jb_M_wetter 13 = .ok (.iload_n 1, 1) := by decide +kernel
theorem jd_M_wetter_14 : decode jb_M_wetter 14 = .ok (.iload_n 2, 1) := by decide +kernel
theorem jd_M_wetter_15 : decode jb_M_wetter 15 = .ok (.iadd, 1) := by decide +kernel
theorem jd_M_wetter_16 : decode jb_M_wetter 16 = .ok (.ireturn, 1) := by decide +kernel
theorem jd_M_oneHour_0 : decode jb_M_oneHour 0 = .ok (.iconst 0, 1) := by decide +kernel
theorem jd_M_oneHour_1 : decode jb_M_oneHour 1 = .ok (.istore_n 1, 1) := by decide +kernel
theorem jd_M_oneHour_2 : decode jb_M_oneHour 2 = .ok (.iload_n 1, 1) := by decide +kernel
theorem jd_M_oneHour_3 : decode jb_M_oneHour 3 = .ok (.aload_n 0, 1) := by decide +kernel
theorem jd_M_oneHour_4 : decode jb_M_oneHour 4 = .ok (.getfield 130, 3) := by decide +kernel
theorem jd_M_oneHour_7 : decode jb_M_oneHour 7 = .ok (.if_icmp .ge 14, 3) := by decide +kernel
theorem jd_M_oneHour_10 : decode jb_M_oneHour 10 = .ok (.aload_n 0, 1) := by decide +kernel
theorem jd_M_oneHour_11 : decode jb_M_oneHour 11 = .ok (.iload_n 1, 1) := by decide +kernel
theorem jd_M_oneHour_12 : decode jb_M_oneHour 12 = .ok (.invokevirtual 166, 3) := by decide +kernel
theorem jd_M_oneHour_15 : decode jb_M_oneHour 15 = .ok (.iinc 1 1, 3) := by decide +kernel
theorem jd_M_oneHour_18 : decode jb_M_oneHour 18 = .ok (.goto (-16), 3) := by decide +kernel
theorem jd_M_oneHour_21 : decode jb_M_oneHour 21 = .ok (.iconst 0, 1) := by decide +kernel
theorem jd_M_oneHour_22 : decode jb_M_oneHour 22 = .ok (.istore_n 1, 1) := by decide +kernel
theorem jd_M_oneHour_23 : decode jb_M_oneHour 23 = .ok (.iload_n 1, 1) := by decide +kernel
theorem jd_M_oneHour_24 : decode jb_M_oneHour 24 = .ok (.aload_n 0, 1) := by decide +kernel
theorem jd_M_oneHour_25 : decode jb_M_oneHour 25 = .ok (.getfield 124, 3) := by decide +kernel
theorem jd_M_oneHour_28 : decode jb_M_oneHour 28 = .ok (.if_icmp .ge 65, 3) := by decide +kernel
theorem jd_M_oneHour_31 : decode jb_M_oneHour 31 = .ok (.aload_n 0, 1) := by decide +kernel
theorem jd_M_oneHour_32 : decode jb_M_oneHour 32 = .ok (.getfield 43, 3) := by decide +kernel
theorem jd_M_oneHour_35 : decode jb_M_oneHour 35 = .ok (.iconst 1, 1) := by decide +kernel
theorem jd_M_oneHour_36 : decode jb_M_oneHour 36 = .ok (.iload_n 1, 1) := by decide +kernel
theorem jd_M_oneHour_37 : decode jb_M_oneHour 37 = .ok (.iadd, 1) := by decide +kernel
theorem jd_M_oneHour_38 : decode jb_M_oneHour 38 = .ok (.dup2, 1) := by decide +kernel
theorem jd_M_oneHour_39 : decode jb_M_oneHour 39 = .ok (.iaload, 1) := by decide +kernel
theorem jd_M_oneHour_40 : decode jb_M_oneHour 40 = .ok (.iconst 1, 1) := by decide +kernel
theorem jd_M_oneHour_41 : decode jb_M_oneHour 41 = .ok (.aload_n 0, 1) := by decide +kernel
theorem jd_M_oneHour_42 : decode jb_M_oneHour 42 = .ok (.iload_n 1, 1) := by decide +kernel
theorem jd_M_oneHour_43 : decode jb_M_oneHour 43 = .ok (.aload_n 0, 1) := by decide +kernel
theorem jd_M_oneHour_44 : decode jb_M_oneHour 44 = .ok (.getfield 43, 3) := by decide +kernel
theorem jd_M_oneHour_47 : decode jb_M_oneHour 47 = .ok (.iconst 0, 1) := by decide +kernel
theorem jd_M_oneHour_48 : decode jb_M_oneHour 48 = .ok (.iaload, 1) := by decide +kernel
theorem jd_M_oneHour_49 : decode jb_M_oneHour 49 = .ok (.invokevirtual 153, 3) := by decide +kernel
theorem jd_M_oneHour_52 : decode jb_M_oneHour 52 = .ok (.ishl, 1) := by decide +kernel
theorem jd_M_oneHour_53 : decode jb_M_oneHour 53 = .ok (.ior, 1) := by decide +kernel
theorem jd_M_oneHour_54 : decode jb_M_oneHour 54 = .ok (.iastore, 1) := by decide +kernel
theorem jd_M_oneHour_55 : decode jb_M_oneHour 55 = .ok (.aload_n 0, 1) := by decide +kernel
theorem jd_M_oneHour_56 : decode jb_M_oneHour 56 = .ok (.getfield 43, 3) := by decide +kernel
theorem jd_M_oneHour_59 : decode jb_M_oneHour 59 = .ok (.bipush 6, 2) := by decide +kernel
theorem jd_M_oneHour_61 : decode jb_M_oneHour 61 = .ok (.iload_n 1, 1) := by decide +kernel
theorem jd_M_oneHour_62 : decode jb_M_oneHour 62 = .ok (.iadd, 1) := by decide +kernel
theorem jd_M_oneHour_63 : decode jb_M_oneHour 63 = .ok (.aload_n 0, 1) := by decide +kernel
theorem jd_M_oneHour_64 : decode jb_M_oneHour 64 = .ok (.aload_n 0, 1) := by decide +kernel
theorem jd_M_oneHour_65 : decode jb_M_oneHour 65 = .ok (.getfield 43, 3) := by decide +kernel
theorem jd_M_oneHour_68 : decode jb_M_oneHour 68 = .ok (.bipush 6, 2) := by decide +kernel
theorem jd_M_oneHour_70 : decode jb_M_oneHour 70 = .ok (.iload_n 1, 1) := by decide +kernel
theorem jd_M_oneHour_71 : decode jb_M_oneHour 71 = .ok (.iadd, 1) := by decide +kernel
theorem jd_M_oneHour_72 : decode jb_M_oneHour 72 = .ok (.iaload, 1) := by decide +kernel
theorem jd_M_oneHour_73 : decode jb_M_oneHour 73 = .ok (.aload_n 0, 1) := by decide +kernel
theorem jd_M_oneHour_74 : decode jb_M_oneHour 74 = .ok (.aload_n 0, 1) := by decide +kernel
theorem jd_M_oneHour_75 : decode jb_M_oneHour 75 = .ok (.getfield 43, 3) := by decide +kernel
theorem jd_M_oneHour_78 : decode jb_M_oneHour 78 = .ok (.iconst 0, 1) := by decide +kernel
theorem jd_M_oneHour_79 : decode jb_M_oneHour 79 = .ok (.iaload, 1) := by decide +kernel
theorem jd_M_oneHour_80 : decode jb_M_oneHour 80 = .ok (.invokevirtual 170, 3) := by decide +kernel
theorem jd_M_oneHour_83 : decode jb_M_oneHour 83 = .ok (.invokevirtual 173, 3) := by decide +kernel
theorem jd_M_oneHour_86 : decode jb_M_oneHour 86 = .ok (.iastore, 1) := by decide +kernel
theorem jd_M_oneHour_87 : decode jb_M_oneHour 87 = .ok (.iinc 1 1, 3) := by decide +kernel
theorem jd_M_oneHour_90 : decode jb_M_oneHour 90 = .ok (.goto (-67), 3) := by decide +kernel
theorem jd_M_oneHour_93 : decode jb_M_oneHour 93 = .ok (.aload_n 0, 1) := by decide +kernel
theorem jd_M_oneHour_94 : decode jb_M_oneHour 94 = .ok (.getfield 43, 3) := by decide +kernel
theorem jd_M_oneHour_97 : decode jb_M_oneHour 97 = .ok (.iconst 0, 1) := by decide +kernel
theorem jd_M_oneHour_98 : decode jb_M_oneHour 98 = .ok (.dup2, 1) := by decide +kernel
theorem jd_M_oneHour_99 : decode jb_M_oneHour 99 = .ok (.iaload, 1) := by decide +kernel
theorem jd_M_oneHour_100 : decode jb_M_oneHour 100 = .ok (.iconst 1, 1) := by decide +kernel
theorem jd_M_oneHour_101 : decode jb_M_oneHour 101 = .ok (.iadd, 1) := by decide +kernel
theorem jd_M_oneHour_102 : decode jb_M_oneHour 102 = .ok (.iastore, 1) := by decide +kernel
theorem jd_M_oneHour_103 : decode jb_M_oneHour 103 = .ok (.return_, 1) := by decide +kernel
theorem jd_M_pass_0 : decode jb_M_pass 0 = .ok (.iload_n 1, 1) := by decide +kernel
theorem jd_M_pass_1 : decode jb_M_pass 1 = .ok (.i2l, 1) := by decide +kernel
theorem jd_M_pass_2 : decode jb_M_pass 2 = .ok (.lconst 1, 1) := by decide +kernel
theorem jd_M_pass_3 : decode jb_M_pass 3 = .ok (.ldc2_w 176, 3) := by decide +kernel
theorem jd_M_pass_6 : decode jb_M_pass 6 = .ok (.invokestatic 73, 3) := by decide +kernel
theorem jd_M_pass_9 : decode jb_M_pass 9 = .ok (.ifCond .ne 5, 3) := by decide +kernel
theorem jd_M_pass_12 : decode jb_M_pass 12 = .ok (.iconst (-1), 1) := by decide +kernel
theorem jd_M_pass_13 : decode jb_M_pass 13 = .ok (.ireturn, 1) := by decide +kernel
theorem jd_M_pass_14 : decode jb_M_pass 14 = .ok (.aload_n 0, 1) := by decide +kernel
theorem jd_M_pass_15 : decode jb_M_pass 15 = .ok (.getfield 43, 3) := by decide +kernel
theorem jd_M_pass_18 : decode jb_M_pass 18 = .ok (.iconst 0, 1) := by decide +kernel
theorem jd_M_pass_19 : decode jb_M_pass 19 = .ok (.iaload, 1) := by decide +kernel
theorem jd_M_pass_20 : decode jb_M_pass 20 = .ok (.iload_n 1, 1) := by decide +kernel
theorem jd_M_pass_21 : decode jb_M_pass 21 = .ok (.iadd, 1) := by decide +kernel
theorem jd_M_pass_22 : decode jb_M_pass 22 = .ok (.sipush 999, 3) := by decide +kernel
theorem jd_M_pass_25 : decode jb_M_pass 25 = .ok (.if_icmp .le 6, 3) := by decide +kernel
theorem jd_M_pass_28 : decode jb_M_pass 28 = .ok (.bipush (-2), 2) := by decide +kernel
theorem jd_M_pass_30 : decode jb_M_pass 30 = .ok (.ireturn, 1) := by decide +kernel
theorem jd_M_pass_31 : decode jb_M_pass 31 = .ok (.aload_n 0, 1) := by decide +kernel
theorem jd_M_pass_32 : decode jb_M_pass 32 = .ok (.invokevirtual 178, 3) := by decide +kernel
theorem jd_M_pass_35 : decode jb_M_pass 35 = .ok (.iconst 0, 1) := by decide +kernel
theorem jd_M_pass_36 : decode jb_M_pass 36 = .ok (.istore_n 2, 1) := by decide +kernel
theorem jd_M_pass_37 : decode jb_M_pass 37 = .ok (.iload_n 2, 1) := by decide +kernel
theorem jd_M_pass_38 : decode jb_M_pass 38 = .ok (.iload_n 1, 1) := by decide +kernel
theorem jd_M_pass_39 : decode jb_M_pass 39 = .ok (.if_icmp .ge 13, 3) := by decide +kernel
theorem jd_M_pass_42 : decode jb_M_pass 42 = .ok (.aload_n 0, 1) := by decide +kernel
theorem jd_M_pass_43 : decode jb_M_pass 43 = .ok (.invokevirtual 181, 3) := by decide +kernel
theorem jd_M_pass_46 : decode jb_M_pass 46 = .ok (.iinc 2 1, 3) := by decide +kernel
theorem jd_M_pass_49 : decode jb_M_pass 49 = .ok (.goto (-12), 3) := by decide +kernel
theorem jd_M_pass_52 : decode jb_M_pass 52 = .ok (.aload_n 0, 1) := by decide +kernel
theorem jd_M_pass_53 : decode jb_M_pass 53 = .ok (.getfield 43, 3) := by decide +kernel
theorem jd_M_pass_56 : decode jb_M_pass 56 = .ok (.iconst 0, 1) := by decide +kernel
theorem jd_M_pass_57 : decode jb_M_pass 57 = .ok (.iaload, 1) := by decide +kernel
theorem jd_M_pass_58 : decode jb_M_pass 58 = .ok (.ireturn, 1) := by decide +kernel
theorem jd_M_lying_0 : decode jb_M_lying 0 = .ok (.iconst 0, 1) := by decide +kernel
theorem jd_M_lying_1 : decode jb_M_lying 1 = .ok (.istore_n 3, 1) := by decide +kernel
theorem jd_M_lying_2 : decode jb_M_lying 2 = .ok (.iload_n 1, 1) := by decide +kernel
theorem jd_M_lying_3 : decode jb_M_lying 3 = .ok (.istore 4, 2) := by decide +kernel
theorem jd_M_lying_5 : decode jb_M_lying 5 = .ok (.iload 4, 2) := by decide +kernel
theorem jd_M_lying_7 : decode jb_M_lying 7 = .ok (.iload_n 2, 1) := by decide +kernel
theorem jd_M_lying_8 : decode jb_M_lying 8 = .ok (.if_icmp .gt 21, 3) := by decide +kernel
theorem jd_M_lying_11 : decode jb_M_lying 11 = .ok (.iload_n 3, 1) := by decide +kernel
theorem jd_M_lying_12 : decode jb_M_lying 12 = .ok (.aload_n 0, 1) := by decide +kernel
theorem jd_M_lying_13 : decode jb_M_lying 13 = .ok (.getfield 43, 3) := by decide +kernel
theorem jd_M_lying_16 : decode jb_M_lying 16 = .ok (.iconst 1, 1) := by decide +kernel
theorem jd_M_lying_17 : decode jb_M_lying 17 = .ok (.iload 4, 2) := by decide +kernel
theorem jd_M_lying_19 : decode jb_M_lying 19 = .ok (.iadd, 1) := by decide +kernel
theorem jd_M_lying_20 : decode jb_M_lying 20 = .ok (.iaload, 1) := by decide +kernel
theorem jd_M_lying_21 : decode jb_M_lying 21 = .ok (.ior, 1) := by decide +kernel
theorem jd_M_lying_22 : decode jb_M_lying 22 = .ok (.istore_n 3, 1) := by decide +kernel
theorem jd_M_lying_23 : decode jb_M_lying 23 = .ok (.iinc 4 1, 3) := by decide +kernel
theorem jd_M_lying_26 : decode jb_M_lying 26 = .ok (.goto (-21), 3) := by decide +kernel
theorem jd_M_lying_29 : decode jb_M_lying 29 = .ok (.iload_n 3, 1) := by decide +kernel
theorem jd_M_lying_30 : decode jb_M_lying 30 = .ok (.ireturn, 1) := by decide +kernel
theorem jd_M_rakeIn_0 : decode jb_M_rakeIn 0 = .ok (.bipush 8, 2) := by decide +kernel
theorem jd_M_rakeIn_2 : decode jb_M_rakeIn 2 = .ok (.iload_n 3, 1) := by decide +kernel
theorem jd_M_rakeIn_3 : decode jb_M_rakeIn 3 = .ok (.imul, 1) := by decide +kernel
theorem jd_M_rakeIn_4 : decode jb_M_rakeIn 4 = .ok (.aload_n 0, 1) := by decide +kernel
theorem jd_M_rakeIn_5 : decode jb_M_rakeIn 5 = .ok (.getfield 43, 3) := by decide +kernel
theorem jd_M_rakeIn_8 : decode jb_M_rakeIn 8 = .ok (.bipush 15, 2) := by decide +kernel
theorem jd_M_rakeIn_10 : decode jb_M_rakeIn 10 = .ok (.iload_n 3, 1) := by decide +kernel
theorem jd_M_rakeIn_11 : decode jb_M_rakeIn 11 = .ok (.iadd, 1) := by decide +kernel
theorem jd_M_rakeIn_12 : decode jb_M_rakeIn 12 = .ok (.iaload, 1) := by decide +kernel
theorem jd_M_rakeIn_13 : decode jb_M_rakeIn 13 = .ok (.iadd, 1) := by decide +kernel
theorem jd_M_rakeIn_14 : decode jb_M_rakeIn 14 = .ok (.istore 4, 2) := by decide +kernel
theorem jd_M_rakeIn_16 : decode jb_M_rakeIn 16 = .ok (.iconst 0, 1) := by decide +kernel
theorem jd_M_rakeIn_17 : decode jb_M_rakeIn 17 = .ok (.istore 5, 2) := by decide +kernel
theorem jd_M_rakeIn_19 : decode jb_M_rakeIn 19 = .ok (.aload_n 0, 1) := by decide +kernel
theorem jd_M_rakeIn_20 : decode jb_M_rakeIn 20 = .ok (.getfield 43, 3) := by decide +kernel
theorem jd_M_rakeIn_23 : decode jb_M_rakeIn 23 = .ok (.bipush 21, 2) := by decide +kernel
theorem jd_M_rakeIn_25 : decode jb_M_rakeIn 25 = .ok (.iload 4, 2) := by decide +kernel
theorem jd_M_rakeIn_27 : decode jb_M_rakeIn 27 = .ok (.iadd, 1) := by decide +kernel
theorem jd_M_rakeIn_28 : decode jb_M_rakeIn 28 = .ok (.aload_n 0, 1) := by decide +kernel
theorem jd_M_rakeIn_29 : decode jb_M_rakeIn 29 = .ok (.iload_n 1, 1) := by decide +kernel
theorem jd_M_rakeIn_30 : decode jb_M_rakeIn 30 = .ok (.iload_n 2, 1) := by decide +kernel
theorem jd_M_rakeIn_31 : decode jb_M_rakeIn 31 = .ok (.invokevirtual 184, 3) := by decide +kernel
theorem jd_M_rakeIn_34 : decode jb_M_rakeIn 34 = .ok (.iastore, 1) := by decide +kernel
theorem jd_M_rakeIn_35 : decode jb_M_rakeIn 35 = .ok (.iload_n 1, 1) := by decide +kernel
theorem jd_M_rakeIn_36 : decode jb_M_rakeIn 36 = .ok (.istore 6, 2) := by decide +kernel
theorem jd_M_rakeIn_38 : decode jb_M_rakeIn 38 = .ok (.iload 6, 2) := by decide +kernel
theorem jd_M_rakeIn_40 : decode jb_M_rakeIn 40 = .ok (.iload_n 2, 1) := by decide +kernel
theorem jd_M_rakeIn_41 : decode jb_M_rakeIn 41 = .ok (.if_icmp .gt 48, 3) := by decide +kernel
theorem jd_M_rakeIn_44 : decode jb_M_rakeIn 44 = .ok (.aload_n 0, 1) := by decide +kernel
theorem jd_M_rakeIn_45 : decode jb_M_rakeIn 45 = .ok (.iload 5, 2) := by decide +kernel
theorem jd_M_rakeIn_47 : decode jb_M_rakeIn 47 = .ok (.aload_n 0, 1) := by decide +kernel
theorem jd_M_rakeIn_48 : decode jb_M_rakeIn 48 = .ok (.getfield 43, 3) := by decide +kernel
theorem jd_M_rakeIn_51 : decode jb_M_rakeIn 51 = .ok (.bipush 6, 2) := by decide +kernel
theorem jd_M_rakeIn_53 : decode jb_M_rakeIn 53 = .ok (.iload 6, 2) := by decide +kernel
theorem jd_M_rakeIn_55 : decode jb_M_rakeIn 55 = .ok (.iadd, 1) := by decide +kernel
theorem jd_M_rakeIn_56 : decode jb_M_rakeIn 56 = .ok (.iaload, 1) := by decide +kernel
theorem jd_M_rakeIn_57 : decode jb_M_rakeIn 57 = .ok (.invokevirtual 173, 3) := by decide +kernel
theorem jd_M_rakeIn_60 : decode jb_M_rakeIn 60 = .ok (.istore 5, 2) := by decide +kernel
theorem jd_M_rakeIn_62 : decode jb_M_rakeIn 62 = .ok (.aload_n 0, 1) := by decide +kernel
theorem jd_M_rakeIn_63 : decode jb_M_rakeIn 63 = .ok (.getfield 43, 3) := by decide +kernel
theorem jd_M_rakeIn_66 : decode jb_M_rakeIn 66 = .ok (.iconst 1, 1) := by decide +kernel
theorem jd_M_rakeIn_67 : decode jb_M_rakeIn 67 = .ok (.iload 6, 2) := by decide +kernel
theorem jd_M_rakeIn_69 : decode jb_M_rakeIn 69 = .ok (.iadd, 1) := by decide +kernel
theorem jd_M_rakeIn_70 : decode jb_M_rakeIn 70 = .ok (.iconst 0, 1) := by decide +kernel
theorem jd_M_rakeIn_71 : decode jb_M_rakeIn 71 = .ok (.iastore, 1) := by decide +kernel
theorem jd_M_rakeIn_72 : decode jb_M_rakeIn 72 = .ok (.aload_n 0, 1) := by decide +kernel
theorem jd_M_rakeIn_73 : decode jb_M_rakeIn 73 = .ok (.getfield 43, 3) := by decide +kernel
theorem jd_M_rakeIn_76 : decode jb_M_rakeIn 76 = .ok (.bipush 6, 2) := by decide +kernel
theorem jd_M_rakeIn_78 : decode jb_M_rakeIn 78 = .ok (.iload 6, 2) := by decide +kernel
theorem jd_M_rakeIn_80 : decode jb_M_rakeIn 80 = .ok (.iadd, 1) := by decide +kernel
theorem jd_M_rakeIn_81 : decode jb_M_rakeIn 81 = .ok (.iconst 0, 1) := by decide +kernel
theorem jd_M_rakeIn_82 : decode jb_M_rakeIn 82 = .ok (.iastore, 1) := by decide +kernel
theorem jd_M_rakeIn_83 : decode jb_M_rakeIn 83 = .ok (.iinc 6 1, 3) := by decide +kernel
theorem jd_M_rakeIn_86 : decode jb_M_rakeIn 86 = .ok (.goto (-48), 3) := by decide +kernel
theorem jd_M_rakeIn_89 : decode jb_M_rakeIn 89 = .ok (.aload_n 0, 1) := by decide +kernel
theorem jd_M_rakeIn_90 : decode jb_M_rakeIn 90 = .ok (.getfield 43, 3) := by decide +kernel
theorem jd_M_rakeIn_93 : decode jb_M_rakeIn 93 = .ok (.bipush 45, 2) := by decide +kernel
theorem jd_M_rakeIn_95 : decode jb_M_rakeIn 95 = .ok (.iload 4, 2) := by decide +kernel
theorem jd_M_rakeIn_97 : decode jb_M_rakeIn 97 = .ok (.iadd, 1) := by decide +kernel
theorem jd_M_rakeIn_98 : decode jb_M_rakeIn 98 = .ok (.iload 5, 2) := by decide +kernel
theorem jd_M_rakeIn_100 : decode jb_M_rakeIn 100 = .ok (.iastore, 1) := by decide +kernel
theorem jd_M_rakeIn_101 : decode jb_M_rakeIn 101 = .ok (.aload_n 0, 1) := by decide +kernel
theorem jd_M_rakeIn_102 : decode jb_M_rakeIn 102 = .ok (.getfield 43, 3) := by decide +kernel
theorem jd_M_rakeIn_105 : decode jb_M_rakeIn 105 = .ok (.bipush 69, 2) := by decide +kernel
theorem jd_M_rakeIn_107 : decode jb_M_rakeIn 107 = .ok (.iload 4, 2) := by decide +kernel
theorem jd_M_rakeIn_109 : decode jb_M_rakeIn 109 = .ok (.iadd, 1) := by decide +kernel
theorem jd_M_rakeIn_110 : decode jb_M_rakeIn 110 = .ok (.iconst 0, 1) := by decide +kernel
theorem jd_M_rakeIn_111 : decode jb_M_rakeIn 111 = .ok (.iastore, 1) := by decide +kernel
theorem jd_M_rakeIn_112 : decode jb_M_rakeIn 112 = .ok (.aload_n 0, 1) := by decide +kernel
theorem jd_M_rakeIn_113 : decode jb_M_rakeIn 113 = .ok (.getfield 43, 3) := by decide +kernel
theorem jd_M_rakeIn_116 : decode jb_M_rakeIn 116 = .ok (.bipush 15, 2) := by decide +kernel
theorem jd_M_rakeIn_118 : decode jb_M_rakeIn 118 = .ok (.iload_n 3, 1) := by decide +kernel
theorem jd_M_rakeIn_119 : decode jb_M_rakeIn 119 = .ok (.iadd, 1) := by decide +kernel
theorem jd_M_rakeIn_120 : decode jb_M_rakeIn 120 = .ok (.dup2, 1) := by decide +kernel
theorem jd_M_rakeIn_121 : decode jb_M_rakeIn 121 = .ok (.iaload, 1) := by decide +kernel
theorem jd_M_rakeIn_122 : decode jb_M_rakeIn 122 = .ok (.iconst 1, 1) := by decide +kernel
theorem jd_M_rakeIn_123 : decode jb_M_rakeIn 123 = .ok (.iadd, 1) := by decide +kernel
theorem jd_M_rakeIn_124 : decode jb_M_rakeIn 124 = .ok (.iastore, 1) := by decide +kernel
theorem jd_M_rakeIn_125 : decode jb_M_rakeIn 125 = .ok (.return_, 1) := by decide +kernel
theorem jd_M_rake_0 : decode jb_M_rake 0 = .ok (.aload_n 0, 1) := by decide +kernel
theorem jd_M_rake_1 : decode jb_M_rake 1 = .ok (.iload_n 1, 1) := by decide +kernel
theorem jd_M_rake_2 : decode jb_M_rake 2 = .ok (.invokevirtual 149, 3) := by decide +kernel
theorem jd_M_rake_5 : decode jb_M_rake 5 = .ok (.ifCond .eq 24, 3) := by decide +kernel
theorem jd_M_rake_8 : decode jb_M_rake 8 = .ok (.aload_n 0, 1) := by decide +kernel
theorem jd_M_rake_9 : decode jb_M_rake 9 = .ok (.iload_n 2, 1) := by decide +kernel
theorem jd_M_rake_10 : decode jb_M_rake 10 = .ok (.invokevirtual 149, 3) := by decide +kernel
theorem jd_M_rake_13 : decode jb_M_rake 13 = .ok (.ifCond .eq 16, 3) := by decide +kernel
theorem jd_M_rake_16 : decode jb_M_rake 16 = .ok (.iload_n 2, 1) := by decide +kernel
theorem jd_M_rake_17 : decode jb_M_rake 17 = .ok (.iload_n 1, 1) := by decide +kernel
theorem jd_M_rake_18 : decode jb_M_rake 18 = .ok (.if_icmp .lt 11, 3) := by decide +kernel
theorem jd_M_rake_21 : decode jb_M_rake 21 = .ok (.aload_n 0, 1) := by decide +kernel
theorem jd_M_rake_22 : decode jb_M_rake 22 = .ok (.iload_n 3, 1) := by decide +kernel
theorem jd_M_rake_23 : decode jb_M_rake 23 = .ok (.invokevirtual 159, 3) := by decide +kernel
theorem jd_M_rake_26 : decode jb_M_rake 26 = .ok (.ifCond .ne 5, 3) := by decide +kernel
theorem jd_M_rake_29 : decode jb_M_rake 29 = .ok (.iconst (-1), 1) := by decide +kernel
theorem jd_M_rake_30 : decode jb_M_rake 30 = .ok (.ireturn, 1) := by decide +kernel
theorem jd_M_rake_31 : decode jb_M_rake 31 = .ok (.aload_n 0, 1) := by decide +kernel
theorem jd_M_rake_32 : decode jb_M_rake 32 = .ok (.iload_n 1, 1) := by decide +kernel
theorem jd_M_rake_33 : decode jb_M_rake 33 = .ok (.iload_n 2, 1) := by decide +kernel
theorem jd_M_rake_34 : decode jb_M_rake 34 = .ok (.invokevirtual 184, 3) := by decide +kernel
theorem jd_M_rake_37 : decode jb_M_rake 37 = .ok (.ifCond .eq 17, 3) := by decide +kernel
theorem jd_M_rake_40 : decode jb_M_rake 40 = .ok (.aload_n 0, 1) := by decide +kernel
theorem jd_M_rake_41 : decode jb_M_rake 41 = .ok (.getfield 43, 3) := by decide +kernel
theorem jd_M_rake_44 : decode jb_M_rake 44 = .ok (.bipush 15, 2) := by decide +kernel
theorem jd_M_rake_46 : decode jb_M_rake 46 = .ok (.iload_n 3, 1) := by decide +kernel
theorem jd_M_rake_47 : decode jb_M_rake 47 = .ok (.iadd, 1) := by decide +kernel
theorem jd_M_rake_48 : decode jb_M_rake 48 = .ok (.iaload, 1) := by decide +kernel
theorem jd_M_rake_49 : decode jb_M_rake 49 = .ok (.bipush 8, 2) := by decide +kernel
theorem jd_M_rake_51 : decode jb_M_rake 51 = .ok (.if_icmp .ne 20, 3) := by decide +kernel
theorem jd_M_rake_54 : decode jb_M_rake 54 = .ok (.aload_n 0, 1) := by decide +kernel
theorem jd_M_rake_55 : decode jb_M_rake 55 = .ok (.iload_n 1, 1) := by decide +kernel
theorem jd_M_rake_56 : decode jb_M_rake 56 = .ok (.iload_n 2, 1) := by decide +kernel
theorem jd_M_rake_57 : decode jb_M_rake 57 = .ok (.invokevirtual 184, 3) := by decide +kernel
theorem jd_M_rake_60 : decode jb_M_rake 60 = .ok (.ifCond .ne 8, 3) := by decide +kernel
theorem jd_M_rake_63 : decode jb_M_rake 63 = .ok (.bipush (-2), 2) := by decide +kernel
theorem jd_M_rake_65 : decode jb_M_rake 65 = .ok (.goto 5, 3) := by decide +kernel
theorem jd_M_rake_68 : decode jb_M_rake 68 = .ok (.bipush (-3), 2) := by decide +kernel
theorem jd_M_rake_70 : decode jb_M_rake 70 = .ok (.ireturn, 1) := by decide +kernel
theorem jd_M_rake_71 : decode jb_M_rake 71 = .ok (.aload_n 0, 1) := by decide +kernel
theorem jd_M_rake_72 : decode jb_M_rake 72 = .ok (.invokevirtual 178, 3) := by decide +kernel
theorem jd_M_rake_75 : decode jb_M_rake 75 = .ok (.aload_n 0, 1) := by decide +kernel
theorem jd_M_rake_76 : decode jb_M_rake 76 = .ok (.iload_n 1, 1) := by decide +kernel
theorem jd_M_rake_77 : decode jb_M_rake 77 = .ok (.iload_n 2, 1) := by decide +kernel
theorem jd_M_rake_78 : decode jb_M_rake 78 = .ok (.iload_n 3, 1) := by decide +kernel
theorem jd_M_rake_79 : decode jb_M_rake 79 = .ok (.invokevirtual 187, 3) := by decide +kernel
theorem jd_M_rake_82 : decode jb_M_rake 82 = .ok (.aload_n 0, 1) := by decide +kernel
theorem jd_M_rake_83 : decode jb_M_rake 83 = .ok (.getfield 43, 3) := by decide +kernel
theorem jd_M_rake_86 : decode jb_M_rake 86 = .ok (.bipush 15, 2) := by decide +kernel
theorem jd_M_rake_88 : decode jb_M_rake 88 = .ok (.iload_n 3, 1) := by decide +kernel
theorem jd_M_rake_89 : decode jb_M_rake 89 = .ok (.iadd, 1) := by decide +kernel
theorem jd_M_rake_90 : decode jb_M_rake 90 = .ok (.iaload, 1) := by decide +kernel
theorem jd_M_rake_91 : decode jb_M_rake 91 = .ok (.ireturn, 1) := by decide +kernel
theorem jd_M_top_0 : decode jb_M_top 0 = .ok (.aload_n 0, 1) := by decide +kernel
theorem jd_M_top_1 : decode jb_M_top 1 = .ok (.getfield 43, 3) := by decide +kernel
theorem jd_M_top_4 : decode jb_M_top 4 = .ok (.bipush 21, 2) := by decide +kernel
theorem jd_M_top_6 : decode jb_M_top 6 = .ok (.bipush 8, 2) := by decide +kernel
theorem jd_M_top_8 : decode jb_M_top 8 = .ok (.iload_n 1, 1) := by decide +kernel
theorem jd_M_top_9 : decode jb_M_top 9 = .ok (.imul, 1) := by decide +kernel
theorem jd_M_top_10 : decode jb_M_top 10 = .ok (.iadd, 1) := by decide +kernel
theorem jd_M_top_11 : decode jb_M_top 11 = .ok (.aload_n 0, 1) := by decide +kernel
theorem jd_M_top_12 : decode jb_M_top 12 = .ok (.getfield 43, 3) := by decide +kernel
theorem jd_M_top_15 : decode jb_M_top 15 = .ok (.bipush 15, 2) := by decide +kernel
theorem jd_M_top_17 : decode jb_M_top 17 = .ok (.iload_n 1, 1) := by decide +kernel
theorem jd_M_top_18 : decode jb_M_top 18 = .ok (.iadd, 1) := by decide +kernel
theorem jd_M_top_19 : decode jb_M_top 19 = .ok (.iaload, 1) := by decide +kernel
theorem jd_M_top_20 : decode jb_M_top 20 = .ok (.iadd, 1) := by decide +kernel
theorem jd_M_top_21 : decode jb_M_top 21 = .ok (.iconst 1, 1) := by decide +kernel
theorem jd_M_top_22 : decode jb_M_top 22 = .ok (.isub, 1) := by decide +kernel
theorem jd_M_top_23 : decode jb_M_top 23 = .ok (.iaload, 1) := by decide +kernel
theorem jd_M_top_24 : decode jb_M_top 24 = .ok (.ireturn, 1) := by decide +kernel
theorem jd_M_hears_0 : decode jb_M_hears 0 = .ok (.iconst 0, 1) := by decide +kernel
theorem jd_M_hears_1 : decode jb_M_hears 1 = .ok (.istore_n 3, 1) := by decide +kernel
theorem jd_M_hears_2 : decode jb_M_hears 2 = .ok (.iload_n 2, 1) := by decide +kernel
theorem jd_M_hears_3 : decode jb_M_hears 3 = .ok (.iload_n 3, 1) := by decide +kernel
theorem jd_M_hears_4 : decode jb_M_hears 4 = .ok (.ishr, 1) := by decide +kernel
theorem jd_M_hears_5 : decode jb_M_hears 5 = .ok (.ifCond .eq 9, 3) := by decide +kernel
theorem jd_M_hears_8 : decode jb_M_hears 8 = .ok (.iinc 3 1, 3) := by decide +kernel
theorem jd_M_hears_11 : decode jb_M_hears 11 = .ok (.goto (-9), 3) := by decide +kernel
theorem jd_M_hears_14 : decode jb_M_hears 14 = .ok (.iload_n 0, 1) := by decide +kernel
theorem jd_M_hears_15 : decode jb_M_hears 15 = .ok (.iconst 1, 1) := by decide +kernel
theorem jd_M_hears_16 : decode jb_M_hears 16 = .ok (.if_icmp .ne 11, 3) := by decide +kernel
theorem jd_M_hears_19 : decode jb_M_hears 19 = .ok (.iload_n 1, 1) := by decide +kernel
theorem jd_M_hears_20 : decode jb_M_hears 20 = .ok (.sipush 341, 3) := by decide +kernel
theorem jd_M_hears_23 : decode jb_M_hears 23 = .ok (.iand, 1) := by decide +kernel
theorem jd_M_hears_24 : decode jb_M_hears 24 = .ok (.goto 29, 3) := by decide +kernel
theorem jd_M_hears_27 : decode jb_M_hears 27 = .ok (.iload_n 0, 1) := by decide +kernel
theorem jd_M_hears_28 : decode jb_M_hears 28 = .ok (.iconst 2, 1) := by decide +kernel
theorem jd_M_hears_29 : decode jb_M_hears 29 = .ok (.if_icmp .ne 10, 3) := by decide +kernel
theorem jd_M_hears_32 : decode jb_M_hears 32 = .ok (.iload_n 1, 1) := by decide +kernel
theorem jd_M_hears_33 : decode jb_M_hears 33 = .ok (.iload_n 1, 1) := by decide +kernel
theorem jd_M_hears_34 : decode jb_M_hears 34 = .ok (.ineg, 1) := by decide +kernel
theorem jd_M_hears_35 : decode jb_M_hears 35 = .ok (.iand, 1) := by decide +kernel
theorem jd_M_hears_36 : decode jb_M_hears 36 = .ok (.goto 17, 3) := by decide +kernel
theorem jd_M_hears_39 : decode jb_M_hears 39 = .ok (.iload_n 0, 1) := by decide +kernel
theorem jd_M_hears_40 : decode jb_M_hears 40 = .ok (.iconst 3, 1) := by decide +kernel
theorem jd_M_hears_41 : decode jb_M_hears 41 = .ok (.if_icmp .ne 11, 3) := by decide +kernel
theorem jd_M_hears_44 : decode jb_M_hears 44 = .ok (.iload_n 1, 1) := by decide +kernel
theorem jd_M_hears_45 : decode jb_M_hears 45 = .ok (.iload_n 3, 1) := by decide +kernel
theorem jd_M_hears_46 : decode jb_M_hears 46 = .ok (.ishr, 1) := by decide +kernel
theorem jd_M_hears_47 : decode jb_M_hears 47 = .ok (.iload_n 3, 1) := by decide +kernel
theorem jd_M_hears_48 : decode jb_M_hears 48 = .ok (.ishl, 1) := by decide +kernel
theorem jd_M_hears_49 : decode jb_M_hears 49 = .ok (.goto 4, 3) := by decide +kernel
theorem jd_M_hears_52 : decode jb_M_hears 52 = .ok (.iload_n 1, 1) := by decide +kernel
theorem jd_M_hears_53 : decode jb_M_hears 53 = .ok (.ireturn, 1) := by decide +kernel
theorem jd_M_cutFor_0 : decode jb_M_cutFor 0 = .ok (.aload_n 0, 1) := by decide +kernel
theorem jd_M_cutFor_1 : decode jb_M_cutFor 1 = .ok (.getfield 43, 3) := by decide +kernel
theorem jd_M_cutFor_4 : decode jb_M_cutFor 4 = .ok (.bipush 11, 2) := by decide +kernel
theorem jd_M_cutFor_6 : decode jb_M_cutFor 6 = .ok (.iload_n 2, 1) := by decide +kernel
theorem jd_M_cutFor_7 : decode jb_M_cutFor 7 = .ok (.iadd, 1) := by decide +kernel
theorem jd_M_cutFor_8 : decode jb_M_cutFor 8 = .ok (.iaload, 1) := by decide +kernel
theorem jd_M_cutFor_9 : decode jb_M_cutFor 9 = .ok (.istore_n 3, 1) := by decide +kernel
theorem jd_M_cutFor_10 : decode jb_M_cutFor 10 = .ok (.aload_n 0, 1) := by decide +kernel
theorem jd_M_cutFor_11 : decode jb_M_cutFor 11 = .ok (.getfield 22, 3) := by decide +kernel
theorem jd_M_cutFor_14 : decode jb_M_cutFor 14 = .ok (.iload_n 2, 1) := by decide +kernel
theorem jd_M_cutFor_15 : decode jb_M_cutFor 15 = .ok (.iaload, 1) := by decide +kernel
theorem jd_M_cutFor_16 : decode jb_M_cutFor 16 = .ok (.aload_n 0, 1) := by decide +kernel
theorem jd_M_cutFor_17 : decode jb_M_cutFor 17 = .ok (.iload_n 1, 1) := by decide +kernel
theorem jd_M_cutFor_18 : decode jb_M_cutFor 18 = .ok (.invokevirtual 191, 3) := by decide +kernel
theorem jd_M_cutFor_21 : decode jb_M_cutFor 21 = .ok (.iload_n 3, 1) := by decide +kernel
theorem jd_M_cutFor_22 : decode jb_M_cutFor 22 = .ok (.invokestatic 194, 3) := by decide +kernel
theorem jd_M_cutFor_25 : decode jb_M_cutFor 25 = .ok (.istore 4, 2) := by decide +kernel
theorem jd_M_cutFor_27 : decode jb_M_cutFor 27 = .ok (.aload_n 0, 1) := by decide +kernel
theorem jd_M_cutFor_28 : decode jb_M_cutFor 28 = .ok (.getfield 43, 3) := by decide +kernel
theorem jd_M_cutFor_31 : decode jb_M_cutFor 31 = .ok (.bipush 15, 2) := by decide +kernel
theorem jd_M_cutFor_33 : decode jb_M_cutFor 33 = .ok (.iload_n 1, 1) := by decide +kernel
theorem jd_M_cutFor_34 : decode jb_M_cutFor 34 = .ok (.iadd, 1) := by decide +kernel
theorem jd_M_cutFor_35 : decode jb_M_cutFor 35 = .ok (.dup2, 1) := by decide +kernel
theorem jd_M_cutFor_36 : decode jb_M_cutFor 36 = .ok (.iaload, 1) := by decide +kernel
theorem jd_M_cutFor_37 : decode jb_M_cutFor 37 = .ok (.iconst 1, 1) := by decide +kernel
theorem jd_M_cutFor_38 : decode jb_M_cutFor 38 = .ok (.isub, 1) := by decide +kernel
theorem jd_M_cutFor_39 : decode jb_M_cutFor 39 = .ok (.iastore, 1) := by decide +kernel
theorem jd_M_cutFor_40 : decode jb_M_cutFor 40 = .ok (.aload_n 0, 1) := by decide +kernel
theorem jd_M_cutFor_41 : decode jb_M_cutFor 41 = .ok (.getfield 43, 3) := by decide +kernel
theorem jd_M_cutFor_44 : decode jb_M_cutFor 44 = .ok (.bipush 11, 2) := by decide +kernel
theorem jd_M_cutFor_46 : decode jb_M_cutFor 46 = .ok (.iload_n 2, 1) := by decide +kernel
theorem jd_M_cutFor_47 : decode jb_M_cutFor 47 = .ok (.iadd, 1) := by decide +kernel
theorem jd_M_cutFor_48 : decode jb_M_cutFor 48 = .ok (.iload_n 3, 1) := by decide +kernel
theorem jd_M_cutFor_49 : decode jb_M_cutFor 49 = .ok (.iload 4, 2) := by decide +kernel
theorem jd_M_cutFor_51 : decode jb_M_cutFor 51 = .ok (.ior, 1) := by decide +kernel
theorem jd_M_cutFor_52 : decode jb_M_cutFor 52 = .ok (.iastore, 1) := by decide +kernel
theorem jd_M_cutFor_53 : decode jb_M_cutFor 53 = .ok (.iload 4, 2) := by decide +kernel
theorem jd_M_cutFor_55 : decode jb_M_cutFor 55 = .ok (.iload_n 3, 1) := by decide +kernel
theorem jd_M_cutFor_56 : decode jb_M_cutFor 56 = .ok (.iconst (-1), 1) := by decide +kernel
theorem jd_M_cutFor_57 : decode jb_M_cutFor 57 = .ok (.ixor, 1) := by decide +kernel
theorem jd_M_cutFor_58 : decode jb_M_cutFor 58 = .ok (.iand, 1) := by decide +kernel
theorem jd_M_cutFor_59 : decode jb_M_cutFor 59 = .ok (.ireturn, 1) := by decide +kernel
theorem jd_M_cut_0 : decode jb_M_cut 0 = .ok (.aload_n 0, 1) := by decide +kernel
theorem jd_M_cut_1 : decode jb_M_cut 1 = .ok (.iload_n 1, 1) := by decide +kernel
theorem jd_M_cut_2 : decode jb_M_cut 2 = .ok (.invokevirtual 159, 3) := by decide +kernel
theorem jd_M_cut_5 : decode jb_M_cut 5 = .ok (.ifCond .eq 11, 3) := by decide +kernel
theorem jd_M_cut_8 : decode jb_M_cut 8 = .ok (.aload_n 0, 1) := by decide +kernel
theorem jd_M_cut_9 : decode jb_M_cut 9 = .ok (.iload_n 2, 1) := by decide +kernel
theorem jd_M_cut_10 : decode jb_M_cut 10 = .ok (.invokevirtual 156, 3) := by decide +kernel
theorem jd_M_cut_13 : decode jb_M_cut 13 = .ok (.ifCond .ne 5, 3) := by decide +kernel
theorem jd_M_cut_16 : decode jb_M_cut 16 = .ok (.iconst (-1), 1) := by decide +kernel
theorem jd_M_cut_17 : decode jb_M_cut 17 = .ok (.ireturn, 1) := by decide +kernel
theorem jd_M_cut_18 : decode jb_M_cut 18 = .ok (.aload_n 0, 1) := by decide +kernel
theorem jd_M_cut_19 : decode jb_M_cut 19 = .ok (.getfield 43, 3) := by decide +kernel
theorem jd_M_cut_22 : decode jb_M_cut 22 = .ok (.bipush 15, 2) := by decide +kernel
theorem jd_M_cut_24 : decode jb_M_cut 24 = .ok (.iload_n 1, 1) := by decide +kernel
theorem jd_M_cut_25 : decode jb_M_cut 25 = .ok (.iadd, 1) := by decide +kernel
theorem jd_M_cut_26 : decode jb_M_cut 26 = .ok (.iaload, 1) := by decide +kernel
theorem jd_M_cut_27 : decode jb_M_cut 27 = .ok (.ifCond .ne 6, 3) := by decide +kernel
theorem jd_M_cut_30 : decode jb_M_cut 30 = .ok (.bipush (-2), 2) := by decide +kernel
theorem jd_M_cut_32 : decode jb_M_cut 32 = .ok (.ireturn, 1) := by decide +kernel
theorem jd_M_cut_33 : decode jb_M_cut 33 = .ok (.aload_n 0, 1) := by decide +kernel
theorem jd_M_cut_34 : decode jb_M_cut 34 = .ok (.invokevirtual 178, 3) := by decide +kernel
theorem jd_M_cut_37 : decode jb_M_cut 37 = .ok (.aload_n 0, 1) := by decide +kernel
theorem jd_M_cut_38 : decode jb_M_cut 38 = .ok (.iload_n 1, 1) := by decide +kernel
theorem jd_M_cut_39 : decode jb_M_cut 39 = .ok (.iload_n 2, 1) := by decide +kernel
theorem jd_M_cut_40 : decode jb_M_cut 40 = .ok (.invokevirtual 198, 3) := by decide +kernel
theorem jd_M_cut_43 : decode jb_M_cut 43 = .ok (.ireturn, 1) := by decide +kernel
theorem jd_M_turn_0 : decode jb_M_turn 0 = .ok (.aload_n 0, 1) := by decide +kernel
theorem jd_M_turn_1 : decode jb_M_turn 1 = .ok (.iload_n 1, 1) := by decide +kernel
theorem jd_M_turn_2 : decode jb_M_turn 2 = .ok (.invokevirtual 149, 3) := by decide +kernel
theorem jd_M_turn_5 : decode jb_M_turn 5 = .ok (.ifCond .ne 5, 3) := by decide +kernel
theorem jd_M_turn_8 : decode jb_M_turn 8 = .ok (.iconst (-1), 1) := by decide +kernel
theorem jd_M_turn_9 : decode jb_M_turn 9 = .ok (.ireturn, 1) := by decide +kernel
theorem jd_M_turn_10 : decode jb_M_turn 10 = .ok (.aload_n 0, 1) := by decide +kernel
theorem jd_M_turn_11 : decode jb_M_turn 11 = .ok (.getfield 43, 3) := by decide +kernel
theorem jd_M_turn_14 : decode jb_M_turn 14 = .ok (.bipush 6, 2) := by decide +kernel
theorem jd_M_turn_16 : decode jb_M_turn 16 = .ok (.iload_n 1, 1) := by decide +kernel
theorem jd_M_turn_17 : decode jb_M_turn 17 = .ok (.iadd, 1) := by decide +kernel
theorem jd_M_turn_18 : decode jb_M_turn 18 = .ok (.iaload, 1) := by decide +kernel
theorem jd_M_turn_19 : decode jb_M_turn 19 = .ok (.istore_n 2, 1) := by decide +kernel
theorem jd_M_turn_20 : decode jb_M_turn 20 = .ok (.iload_n 2, 1) := by decide +kernel
theorem jd_M_turn_21 : decode jb_M_turn 21 = .ok (.ifCond .ne 6, 3) := by decide +kernel
theorem jd_M_turn_24 : decode jb_M_turn 24 = .ok (.bipush (-2), 2) := by decide +kernel
theorem jd_M_turn_26 : decode jb_M_turn 26 = .ok (.ireturn, 1) := by decide +kernel
theorem jd_M_turn_27 : decode jb_M_turn 27 = .ok (.aload_n 0, 1) := by decide +kernel
theorem jd_M_turn_28 : decode jb_M_turn 28 = .ok (.invokevirtual 178, 3) := by decide +kernel
theorem jd_M_turn_31 : decode jb_M_turn 31 = .ok (.aload_n 0, 1) := by decide +kernel
theorem jd_M_turn_32 : decode jb_M_turn 32 = .ok (.getfield 43, 3) := by decide +kernel
theorem jd_M_turn_35 : decode jb_M_turn 35 = .ok (.bipush 6, 2) := by decide +kernel
theorem jd_M_turn_37 : decode jb_M_turn 37 = .ok (.iload_n 1, 1) := by decide +kernel
theorem jd_M_turn_38 : decode jb_M_turn 38 = .ok (.iadd, 1) := by decide +kernel
theorem jd_M_turn_39 : decode jb_M_turn 39 = .ok (.iconst 0, 1) := by decide +kernel
theorem jd_M_turn_40 : decode jb_M_turn 40 = .ok (.iastore, 1) := by decide +kernel
theorem jd_M_turn_41 : decode jb_M_turn 41 = .ok (.iload_n 2, 1) := by decide +kernel
theorem jd_M_turn_42 : decode jb_M_turn 42 = .ok (.ireturn, 1) := by decide +kernel
theorem jd_M_heap_0 : decode jb_M_heap 0 = .ok (.aload_n 0, 1) := by decide +kernel
theorem jd_M_heap_1 : decode jb_M_heap 1 = .ok (.iload_n 1, 1) := by decide +kernel
theorem jd_M_heap_2 : decode jb_M_heap 2 = .ok (.invokevirtual 159, 3) := by decide +kernel
theorem jd_M_heap_5 : decode jb_M_heap 5 = .ok (.ifCond .eq 16, 3) := by decide +kernel
theorem jd_M_heap_8 : decode jb_M_heap 8 = .ok (.aload_n 0, 1) := by decide +kernel
theorem jd_M_heap_9 : decode jb_M_heap 9 = .ok (.iload_n 2, 1) := by decide +kernel
theorem jd_M_heap_10 : decode jb_M_heap 10 = .ok (.invokevirtual 159, 3) := by decide +kernel
theorem jd_M_heap_13 : decode jb_M_heap 13 = .ok (.ifCond .eq 8, 3) := by decide +kernel
theorem jd_M_heap_16 : decode jb_M_heap 16 = .ok (.iload_n 1, 1) := by decide +kernel
theorem jd_M_heap_17 : decode jb_M_heap 17 = .ok (.iload_n 2, 1) := by decide +kernel
theorem jd_M_heap_18 : decode jb_M_heap 18 = .ok (.if_icmp .ne 5, 3) := by decide +kernel
theorem jd_M_heap_21 : decode jb_M_heap 21 = .ok (.iconst (-1), 1) := by decide +kernel
theorem jd_M_heap_22 : decode jb_M_heap 22 = .ok (.ireturn, 1) := by decide +kernel
theorem jd_M_heap_23 : decode jb_M_heap 23 = .ok (.aload_n 0, 1) := by decide +kernel
theorem jd_M_heap_24 : decode jb_M_heap 24 = .ok (.getfield 43, 3) := by decide +kernel
theorem jd_M_heap_27 : decode jb_M_heap 27 = .ok (.bipush 15, 2) := by decide +kernel
theorem jd_M_heap_29 : decode jb_M_heap 29 = .ok (.iload_n 1, 1) := by decide +kernel
theorem jd_M_heap_30 : decode jb_M_heap 30 = .ok (.iadd, 1) := by decide +kernel
theorem jd_M_heap_31 : decode jb_M_heap 31 = .ok (.iaload, 1) := by decide +kernel
theorem jd_M_heap_32 : decode jb_M_heap 32 = .ok (.istore_n 3, 1) := by decide +kernel
theorem jd_M_heap_33 : decode jb_M_heap 33 = .ok (.iload_n 3, 1) := by decide +kernel
theorem jd_M_heap_34 : decode jb_M_heap 34 = .ok (.ifCond .eq 19, 3) := by decide +kernel
theorem jd_M_heap_37 : decode jb_M_heap 37 = .ok (.iload_n 3, 1) := by decide +kernel
theorem jd_M_heap_38 : decode jb_M_heap 38 = .ok (.aload_n 0, 1) := by decide +kernel
theorem jd_M_heap_39 : decode jb_M_heap 39 = .ok (.getfield 43, 3) := by decide +kernel
theorem jd_M_heap_42 : decode jb_M_heap 42 = .ok (.bipush 15, 2) := by decide +kernel
theorem jd_M_heap_44 : decode jb_M_heap 44 = .ok (.iload_n 2, 1) := by decide +kernel
theorem jd_M_heap_45 : decode jb_M_heap 45 = .ok (.iadd, 1) := by decide +kernel
theorem jd_M_heap_46 : decode jb_M_heap 46 = .ok (.iaload, 1) := by decide +kernel
theorem jd_M_heap_47 : decode jb_M_heap 47 = .ok (.iadd, 1) := by decide +kernel
theorem jd_M_heap_48 : decode jb_M_heap 48 = .ok (.bipush 8, 2) := by decide +kernel
theorem jd_M_heap_50 : decode jb_M_heap 50 = .ok (.if_icmp .le 15, 3) := by decide +kernel
theorem jd_M_heap_53 : decode jb_M_heap 53 = .ok (.iload_n 3, 1) := by decide +kernel
theorem jd_M_heap_54 : decode jb_M_heap 54 = .ok (.ifCond .ne 8, 3) := by decide +kernel
theorem jd_M_heap_57 : decode jb_M_heap 57 = .ok (.bipush (-2), 2) := by decide +kernel
theorem jd_M_heap_59 : decode jb_M_heap 59 = .ok (.goto 5, 3) := by decide +kernel
theorem jd_M_heap_62 : decode jb_M_heap 62 = .ok (.bipush (-3), 2) := by decide +kernel
theorem jd_M_heap_64 : decode jb_M_heap 64 = .ok (.ireturn, 1) := by decide +kernel
theorem jd_M_heap_65 : decode jb_M_heap 65 = .ok (.aload_n 0, 1) := by decide +kernel
theorem jd_M_heap_66 : decode jb_M_heap 66 = .ok (.invokevirtual 178, 3) := by decide +kernel
theorem jd_M_heap_69 : decode jb_M_heap 69 = .ok (.iconst 0, 1) := by decide +kernel
theorem jd_M_heap_70 : decode jb_M_heap 70 = .ok (.istore 4, 2) := by decide +kernel
theorem jd_M_heap_72 : decode jb_M_heap 72 = .ok (.iload 4, 2) := by decide +kernel
theorem jd_M_heap_74 : decode jb_M_heap 74 = .ok (.iload_n 3, 1) := by decide +kernel
theorem jd_M_heap_75 : decode jb_M_heap 75 = .ok (.if_icmp .ge 107, 3) := by decide +kernel
theorem jd_M_heap_78 : decode jb_M_heap 78 = .ok (.bipush 8, 2) := by decide +kernel
theorem jd_M_heap_80 : decode jb_M_heap 80 = .ok (.iload_n 2, 1) := by decide +kernel
theorem jd_M_heap_81 : decode jb_M_heap 81 = .ok (.imul, 1) := by decide +kernel
theorem jd_M_heap_82 : decode jb_M_heap 82 = .ok (.aload_n 0, 1) := by decide +kernel
theorem jd_M_heap_83 : decode jb_M_heap 83 = .ok (.getfield 43, 3) := by decide +kernel
theorem jd_M_heap_86 : decode jb_M_heap 86 = .ok (.bipush 15, 2) := by decide +kernel
theorem jd_M_heap_88 : decode jb_M_heap 88 = .ok (.iload_n 2, 1) := by decide +kernel
theorem jd_M_heap_89 : decode jb_M_heap 89 = .ok (.iadd, 1) := by decide +kernel
theorem jd_M_heap_90 : decode jb_M_heap 90 = .ok (.iaload, 1) := by decide +kernel
theorem jd_M_heap_91 : decode jb_M_heap 91 = .ok (.iadd, 1) := by decide +kernel
theorem jd_M_heap_92 : decode jb_M_heap 92 = .ok (.istore 5, 2) := by decide +kernel
theorem jd_M_heap_94 : decode jb_M_heap 94 = .ok (.bipush 8, 2) := by decide +kernel
theorem jd_M_heap_96 : decode jb_M_heap 96 = .ok (.iload_n 1, 1) := by decide +kernel
theorem jd_M_heap_97 : decode jb_M_heap 97 = .ok (.imul, 1) := by decide +kernel
theorem jd_M_heap_98 : decode jb_M_heap 98 = .ok (.iload 4, 2) := by decide +kernel
theorem jd_M_heap_100 : decode jb_M_heap 100 = .ok (.iadd, 1) := by decide +kernel
theorem jd_M_heap_101 : decode jb_M_heap 101 = .ok (.istore 6, 2) := by decide +kernel
theorem jd_M_heap_103 : decode jb_M_heap 103 = .ok (.aload_n 0, 1) := by decide +kernel
theorem jd_M_heap_104 : decode jb_M_heap 104 = .ok (.getfield 43, 3) := by decide +kernel
theorem jd_M_heap_107 : decode jb_M_heap 107 = .ok (.bipush 21, 2) := by decide +kernel
theorem jd_M_heap_109 : decode jb_M_heap 109 = .ok (.iload 5, 2) := by decide +kernel
theorem jd_M_heap_111 : decode jb_M_heap 111 = .ok (.iadd, 1) := by decide +kernel
theorem jd_M_heap_112 : decode jb_M_heap 112 = .ok (.aload_n 0, 1) := by decide +kernel
theorem jd_M_heap_113 : decode jb_M_heap 113 = .ok (.getfield 43, 3) := by decide +kernel
theorem jd_M_heap_116 : decode jb_M_heap 116 = .ok (.bipush 21, 2) := by decide +kernel
theorem jd_M_heap_118 : decode jb_M_heap 118 = .ok (.iload 6, 2) := by decide +kernel
theorem jd_M_heap_120 : decode jb_M_heap 120 = .ok (.iadd, 1) := by decide +kernel
theorem jd_M_heap_121 : decode jb_M_heap 121 = .ok (.iaload, 1) := by decide +kernel
theorem jd_M_heap_122 : decode jb_M_heap 122 = .ok (.iastore, 1) := by decide +kernel
theorem jd_M_heap_123 : decode jb_M_heap 123 = .ok (.aload_n 0, 1) := by decide +kernel
theorem jd_M_heap_124 : decode jb_M_heap 124 = .ok (.getfield 43, 3) := by decide +kernel
theorem jd_M_heap_127 : decode jb_M_heap 127 = .ok (.bipush 45, 2) := by decide +kernel
theorem jd_M_heap_129 : decode jb_M_heap 129 = .ok (.iload 5, 2) := by decide +kernel
theorem jd_M_heap_131 : decode jb_M_heap 131 = .ok (.iadd, 1) := by decide +kernel
theorem jd_M_heap_132 : decode jb_M_heap 132 = .ok (.aload_n 0, 1) := by decide +kernel
theorem jd_M_heap_133 : decode jb_M_heap 133 = .ok (.getfield 43, 3) := by decide +kernel
theorem jd_M_heap_136 : decode jb_M_heap 136 = .ok (.bipush 45, 2) := by decide +kernel
theorem jd_M_heap_138 : decode jb_M_heap 138 = .ok (.iload 6, 2) := by decide +kernel
theorem jd_M_heap_140 : decode jb_M_heap 140 = .ok (.iadd, 1) := by decide +kernel
theorem jd_M_heap_141 : decode jb_M_heap 141 = .ok (.iaload, 1) := by decide +kernel
theorem jd_M_heap_142 : decode jb_M_heap 142 = .ok (.iastore, 1) := by decide +kernel
theorem jd_M_heap_143 : decode jb_M_heap 143 = .ok (.aload_n 0, 1) := by decide +kernel
theorem jd_M_heap_144 : decode jb_M_heap 144 = .ok (.getfield 43, 3) := by decide +kernel
theorem jd_M_heap_147 : decode jb_M_heap 147 = .ok (.bipush 69, 2) := by decide +kernel
theorem jd_M_heap_149 : decode jb_M_heap 149 = .ok (.iload 5, 2) := by decide +kernel
theorem jd_M_heap_151 : decode jb_M_heap 151 = .ok (.iadd, 1) := by decide +kernel
theorem jd_M_heap_152 : decode jb_M_heap 152 = .ok (.aload_n 0, 1) := by decide +kernel
theorem jd_M_heap_153 : decode jb_M_heap 153 = .ok (.getfield 43, 3) := by decide +kernel
theorem jd_M_heap_156 : decode jb_M_heap 156 = .ok (.bipush 69, 2) := by decide +kernel
theorem jd_M_heap_158 : decode jb_M_heap 158 = .ok (.iload 6, 2) := by decide +kernel
theorem jd_M_heap_160 : decode jb_M_heap 160 = .ok (.iadd, 1) := by decide +kernel
theorem jd_M_heap_161 : decode jb_M_heap 161 = .ok (.iaload, 1) := by decide +kernel
theorem jd_M_heap_162 : decode jb_M_heap 162 = .ok (.iastore, 1) := by decide +kernel
theorem jd_M_heap_163 : decode jb_M_heap 163 = .ok (.aload_n 0, 1) := by decide +kernel
theorem jd_M_heap_164 : decode jb_M_heap 164 = .ok (.getfield 43, 3) := by decide +kernel
theorem jd_M_heap_167 : decode jb_M_heap 167 = .ok (.bipush 15, 2) := by decide +kernel
theorem jd_M_heap_169 : decode jb_M_heap 169 = .ok (.iload_n 2, 1) := by decide +kernel
theorem jd_M_heap_170 : decode jb_M_heap 170 = .ok (.iadd, 1) := by decide +kernel
theorem jd_M_heap_171 : decode jb_M_heap 171 = .ok (.dup2, 1) := by decide +kernel
theorem jd_M_heap_172 : decode jb_M_heap 172 = .ok (.iaload, 1) := by decide +kernel
theorem jd_M_heap_173 : decode jb_M_heap 173 = .ok (.iconst 1, 1) := by decide +kernel
theorem jd_M_heap_174 : decode jb_M_heap 174 = .ok (.iadd, 1) := by decide +kernel
theorem jd_M_heap_175 : decode jb_M_heap 175 = .ok (.iastore, 1) := by decide +kernel
theorem jd_M_heap_176 : decode jb_M_heap 176 = .ok (.iinc 4 1, 3) := by decide +kernel
theorem jd_M_heap_179 : decode jb_M_heap 179 = .ok (.goto (-107), 3) := by decide +kernel
theorem jd_M_heap_182 : decode jb_M_heap 182 = .ok (.aload_n 0, 1) := by decide +kernel
theorem jd_M_heap_183 : decode jb_M_heap 183 = .ok (.getfield 43, 3) := by decide +kernel
theorem jd_M_heap_186 : decode jb_M_heap 186 = .ok (.bipush 15, 2) := by decide +kernel
theorem jd_M_heap_188 : decode jb_M_heap 188 = .ok (.iload_n 1, 1) := by decide +kernel
theorem jd_M_heap_189 : decode jb_M_heap 189 = .ok (.iadd, 1) := by decide +kernel
theorem jd_M_heap_190 : decode jb_M_heap 190 = .ok (.iconst 0, 1) := by decide +kernel
theorem jd_M_heap_191 : decode jb_M_heap 191 = .ok (.iastore, 1) := by decide +kernel
theorem jd_M_heap_192 : decode jb_M_heap 192 = .ok (.aload_n 0, 1) := by decide +kernel
theorem jd_M_heap_193 : decode jb_M_heap 193 = .ok (.getfield 43, 3) := by decide +kernel
theorem jd_M_heap_196 : decode jb_M_heap 196 = .ok (.bipush 15, 2) := by decide +kernel
theorem jd_M_heap_198 : decode jb_M_heap 198 = .ok (.iload_n 2, 1) := by decide +kernel
theorem jd_M_heap_199 : decode jb_M_heap 199 = .ok (.iadd, 1) := by decide +kernel
theorem jd_M_heap_200 : decode jb_M_heap 200 = .ok (.iaload, 1) := by decide +kernel
theorem jd_M_heap_201 : decode jb_M_heap 201 = .ok (.ireturn, 1) := by decide +kernel
theorem jd_M_behind_0 : decode jb_M_behind 0 = .ok (.iload_n 1, 1) := by decide +kernel
theorem jd_M_behind_1 : decode jb_M_behind 1 = .ok (.i2l, 1) := by decide +kernel
theorem jd_M_behind_2 : decode jb_M_behind 2 = .ok (.lconst 0, 1) := by decide +kernel
theorem jd_M_behind_3 : decode jb_M_behind 3 = .ok (.ldc2_w 201, 3) := by decide +kernel
theorem jd_M_behind_6 : decode jb_M_behind 6 = .ok (.invokestatic 73, 3) := by decide +kernel
theorem jd_M_behind_9 : decode jb_M_behind 9 = .ok (.ifCond .eq 21, 3) := by decide +kernel
theorem jd_M_behind_12 : decode jb_M_behind 12 = .ok (.aload_n 0, 1) := by decide +kernel
theorem jd_M_behind_13 : decode jb_M_behind 13 = .ok (.iload_n 2, 1) := by decide +kernel
theorem jd_M_behind_14 : decode jb_M_behind 14 = .ok (.invokevirtual 149, 3) := by decide +kernel
theorem jd_M_behind_17 : decode jb_M_behind 17 = .ok (.ifCond .eq 13, 3) := by decide +kernel
theorem jd_M_behind_20 : decode jb_M_behind 20 = .ok (.iload_n 3, 1) := by decide +kernel
theorem jd_M_behind_21 : decode jb_M_behind 21 = .ok (.i2l, 1) := by decide +kernel
theorem jd_M_behind_22 : decode jb_M_behind 22 = .ok (.lconst 0, 1) := by decide +kernel
theorem jd_M_behind_23 : decode jb_M_behind 23 = .ok (.lconst 1, 1) := by decide +kernel
theorem jd_M_behind_24 : decode jb_M_behind 24 = .ok (.invokestatic 73, 3) := by decide +kernel
theorem jd_M_behind_27 : decode jb_M_behind 27 = .ok (.ifCond .ne 5, 3) := by decide +kernel
theorem jd_M_behind_30 : decode jb_M_behind 30 = .ok (.iconst (-1), 1) := by decide +kernel
theorem jd_M_behind_31 : decode jb_M_behind 31 = .ok (.ireturn, 1) := by decide +kernel
theorem jd_M_behind_32 : decode jb_M_behind 32 = .ok (.aload_n 0, 1) := by decide +kernel
theorem jd_M_behind_33 : decode jb_M_behind 33 = .ok (.getfield 49, 3) := by decide +kernel
theorem jd_M_behind_36 : decode jb_M_behind 36 = .ok (.aload_n 0, 1) := by decide +kernel
theorem jd_M_behind_37 : decode jb_M_behind 37 = .ok (.getfield 43, 3) := by decide +kernel
theorem jd_M_behind_40 : decode jb_M_behind 40 = .ok (.invokestatic 136, 3) := by decide +kernel
theorem jd_M_behind_43 : decode jb_M_behind 43 = .ok (.iconst 0, 1) := by decide +kernel
theorem jd_M_behind_44 : decode jb_M_behind 44 = .ok (.istore 4, 2) := by decide +kernel
theorem jd_M_behind_46 : decode jb_M_behind 46 = .ok (.iload 4, 2) := by decide +kernel
theorem jd_M_behind_48 : decode jb_M_behind 48 = .ok (.iload_n 1, 1) := by decide +kernel
theorem jd_M_behind_49 : decode jb_M_behind 49 = .ok (.if_icmp .ge 13, 3) := by decide +kernel
theorem jd_M_behind_52 : decode jb_M_behind 52 = .ok (.aload_n 0, 1) := by decide +kernel
theorem jd_M_behind_53 : decode jb_M_behind 53 = .ok (.invokevirtual 181, 3) := by decide +kernel
theorem jd_M_behind_56 : decode jb_M_behind 56 = .ok (.iinc 4 1, 3) := by decide +kernel
theorem jd_M_behind_59 : decode jb_M_behind 59 = .ok (.goto (-13), 3) := by decide +kernel
theorem jd_M_behind_62 : decode jb_M_behind 62 = .ok (.iload_n 3, 1) := by decide +kernel
theorem jd_M_behind_63 : decode jb_M_behind 63 = .ok (.ifCond .ne 14, 3) := by decide +kernel
theorem jd_M_behind_66 : decode jb_M_behind 66 = .ok (.aload_n 0, 1) := by decide +kernel
theorem jd_M_behind_67 : decode jb_M_behind 67 = .ok (.getfield 43, 3) := by decide +kernel
theorem jd_M_behind_70 : decode jb_M_behind 70 = .ok (.iconst 1, 1) := by decide +kernel
theorem jd_M_behind_71 : decode jb_M_behind 71 = .ok (.iload_n 2, 1) := by decide +kernel
theorem jd_M_behind_72 : decode jb_M_behind 72 = .ok (.iadd, 1) := by decide +kernel
theorem jd_M_behind_73 : decode jb_M_behind 73 = .ok (.iaload, 1) := by decide +kernel
theorem jd_M_behind_74 : decode jb_M_behind 74 = .ok (.goto 12, 3) := by decide +kernel
theorem jd_M_behind_77 : decode jb_M_behind 77 = .ok (.aload_n 0, 1) := by decide +kernel
theorem jd_M_behind_78 : decode jb_M_behind 78 = .ok (.getfield 43, 3) := by decide +kernel
theorem jd_M_behind_81 : decode jb_M_behind 81 = .ok (.bipush 6, 2) := by decide +kernel
theorem jd_M_behind_83 : decode jb_M_behind 83 = .ok (.iload_n 2, 1) := by decide +kernel
theorem jd_M_behind_84 : decode jb_M_behind 84 = .ok (.iadd, 1) := by decide +kernel
theorem jd_M_behind_85 : decode jb_M_behind 85 = .ok (.iaload, 1) := by decide +kernel
theorem jd_M_behind_86 : decode jb_M_behind 86 = .ok (.istore 4, 2) := by decide +kernel
theorem jd_M_behind_88 : decode jb_M_behind 88 = .ok (.aload_n 0, 1) := by decide +kernel
theorem jd_M_behind_89 : decode jb_M_behind 89 = .ok (.getfield 43, 3) := by decide +kernel
theorem jd_M_behind_92 : decode jb_M_behind 92 = .ok (.aload_n 0, 1) := by decide +kernel
theorem jd_M_behind_93 : decode jb_M_behind 93 = .ok (.getfield 49, 3) := by decide +kernel
theorem jd_M_behind_96 : decode jb_M_behind 96 = .ok (.invokestatic 136, 3) := by decide +kernel
theorem jd_M_behind_99 : decode jb_M_behind 99 = .ok (.iload 4, 2) := by decide +kernel
theorem jd_M_behind_101 : decode jb_M_behind 101 = .ok (.ireturn, 1) := by decide +kernel
theorem jd_M_burns_0 : decode jb_M_burns 0 = .ok (.aload_n 0, 1) := by decide +kernel
theorem jd_M_burns_1 : decode jb_M_burns 1 = .ok (.iload_n 1, 1) := by decide +kernel
theorem jd_M_burns_2 : decode jb_M_burns 2 = .ok (.invokevirtual 159, 3) := by decide +kernel
theorem jd_M_burns_5 : decode jb_M_burns 5 = .ok (.ifCond .ne 5, 3) := by decide +kernel
theorem jd_M_burns_8 : decode jb_M_burns 8 = .ok (.iconst (-1), 1) := by decide +kernel
theorem jd_M_burns_9 : decode jb_M_burns 9 = .ok (.ireturn, 1) := by decide +kernel
theorem jd_M_burns_10 : decode jb_M_burns 10 = .ok (.aload_n 0, 1) := by decide +kernel
theorem jd_M_burns_11 : decode jb_M_burns 11 = .ok (.getfield 49, 3) := by decide +kernel
theorem jd_M_burns_14 : decode jb_M_burns 14 = .ok (.aload_n 0, 1) := by decide +kernel
theorem jd_M_burns_15 : decode jb_M_burns 15 = .ok (.getfield 43, 3) := by decide +kernel
theorem jd_M_burns_18 : decode jb_M_burns 18 = .ok (.invokestatic 136, 3) := by decide +kernel
theorem jd_M_burns_21 : decode jb_M_burns 21 = .ok (.iconst 0, 1) := by decide +kernel
theorem jd_M_burns_22 : decode jb_M_burns 22 = .ok (.istore_n 2, 1) := by decide +kernel
theorem jd_M_burns_23 : decode jb_M_burns 23 = .ok (.iload_n 2, 1) := by decide +kernel
theorem jd_M_burns_24 : decode jb_M_burns 24 = .ok (.bipush 60, 2) := by decide +kernel
theorem jd_M_burns_26 : decode jb_M_burns 26 = .ok (.if_icmp .ge 34, 3) := by decide +kernel
theorem jd_M_burns_29 : decode jb_M_burns 29 = .ok (.aload_n 0, 1) := by decide +kernel
theorem jd_M_burns_30 : decode jb_M_burns 30 = .ok (.getfield 43, 3) := by decide +kernel
theorem jd_M_burns_33 : decode jb_M_burns 33 = .ok (.bipush 18, 2) := by decide +kernel
theorem jd_M_burns_35 : decode jb_M_burns 35 = .ok (.iload_n 1, 1) := by decide +kernel
theorem jd_M_burns_36 : decode jb_M_burns 36 = .ok (.iadd, 1) := by decide +kernel
theorem jd_M_burns_37 : decode jb_M_burns 37 = .ok (.iaload, 1) := by decide +kernel
theorem jd_M_burns_38 : decode jb_M_burns 38 = .ok (.aload_n 0, 1) := by decide +kernel
theorem jd_M_burns_39 : decode jb_M_burns 39 = .ok (.getfield 49, 3) := by decide +kernel
theorem jd_M_burns_42 : decode jb_M_burns 42 = .ok (.bipush 18, 2) := by decide +kernel
theorem jd_M_burns_44 : decode jb_M_burns 44 = .ok (.iload_n 1, 1) := by decide +kernel
theorem jd_M_burns_45 : decode jb_M_burns 45 = .ok (.iadd, 1) := by decide +kernel
theorem jd_M_burns_46 : decode jb_M_burns 46 = .ok (.iaload, 1) := by decide +kernel
theorem jd_M_burns_47 : decode jb_M_burns 47 = .ok (.if_icmp .ne 13, 3) := by decide +kernel
theorem jd_M_burns_50 : decode jb_M_burns 50 = .ok (.aload_n 0, 1) := by decide +kernel
theorem jd_M_burns_51 : decode jb_M_burns 51 = .ok (.invokevirtual 181, 3) := by decide +kernel
theorem jd_M_burns_54 : decode jb_M_burns 54 = .ok (.iinc 2 1, 3) := by decide +kernel
theorem jd_M_burns_57 : decode jb_M_burns 57 = .ok (.goto (-34), 3) := by decide +kernel
theorem jd_M_burns_60 : decode jb_M_burns 60 = .ok (.aload_n 0, 1) := by decide +kernel
theorem jd_M_burns_61 : decode jb_M_burns 61 = .ok (.getfield 43, 3) := by decide +kernel
theorem jd_M_burns_64 : decode jb_M_burns 64 = .ok (.bipush 18, 2) := by decide +kernel
theorem jd_M_burns_66 : decode jb_M_burns 66 = .ok (.iload_n 1, 1) := by decide +kernel
theorem jd_M_burns_67 : decode jb_M_burns 67 = .ok (.iadd, 1) := by decide +kernel
theorem jd_M_burns_68 : decode jb_M_burns 68 = .ok (.iaload, 1) := by decide +kernel
theorem jd_M_burns_69 : decode jb_M_burns 69 = .ok (.aload_n 0, 1) := by decide +kernel
theorem jd_M_burns_70 : decode jb_M_burns 70 = .ok (.getfield 49, 3) := by decide +kernel
theorem jd_M_burns_73 : decode jb_M_burns 73 = .ok (.bipush 18, 2) := by decide +kernel
theorem jd_M_burns_75 : decode jb_M_burns 75 = .ok (.iload_n 1, 1) := by decide +kernel
theorem jd_M_burns_76 : decode jb_M_burns 76 = .ok (.iadd, 1) := by decide +kernel
theorem jd_M_burns_77 : decode jb_M_burns 77 = .ok (.iaload, 1) := by decide +kernel
theorem jd_M_burns_78 : decode jb_M_burns 78 = .ok (.if_icmp .le 7, 3) := by decide +kernel
theorem jd_M_burns_81 : decode jb_M_burns 81 = .ok (.iconst 1, 1) := by decide +kernel
theorem jd_M_burns_82 : decode jb_M_burns 82 = .ok (.goto 4, 3) := by decide +kernel
theorem jd_M_burns_85 : decode jb_M_burns 85 = .ok (.iconst 0, 1) := by decide +kernel
theorem jd_M_burns_86 : decode jb_M_burns 86 = .ok (.istore_n 3, 1) := by decide +kernel
theorem jd_M_burns_87 : decode jb_M_burns 87 = .ok (.aload_n 0, 1) := by decide +kernel
theorem jd_M_burns_88 : decode jb_M_burns 88 = .ok (.getfield 43, 3) := by decide +kernel
theorem jd_M_burns_91 : decode jb_M_burns 91 = .ok (.aload_n 0, 1) := by decide +kernel
theorem jd_M_burns_92 : decode jb_M_burns 92 = .ok (.getfield 49, 3) := by decide +kernel
theorem jd_M_burns_95 : decode jb_M_burns 95 = .ok (.invokestatic 136, 3) := by decide +kernel
theorem jd_M_burns_98 : decode jb_M_burns 98 = .ok (.iload_n 3, 1) := by decide +kernel
theorem jd_M_burns_99 : decode jb_M_burns 99 = .ok (.ifCond .eq 7, 3) := by decide +kernel
theorem jd_M_burns_102 : decode jb_M_burns 102 = .ok (.iload_n 2, 1) := by decide +kernel
theorem jd_M_burns_103 : decode jb_M_burns 103 = .ok (.goto 5, 3) := by decide +kernel
theorem jd_M_burns_106 : decode jb_M_burns 106 = .ok (.bipush (-4), 2) := by decide +kernel
theorem jd_M_burns_108 : decode jb_M_burns 108 = .ok (.ireturn, 1) := by decide +kernel
theorem jd_M_toldBy_0 : decode jb_M_toldBy 0 = .ok (.aload_n 0, 1) := by decide +kernel
theorem jd_M_toldBy_1 : decode jb_M_toldBy 1 = .ok (.getfield 43, 3) := by decide +kernel
theorem jd_M_toldBy_4 : decode jb_M_toldBy 4 = .ok (.bipush 11, 2) := by decide +kernel
theorem jd_M_toldBy_6 : decode jb_M_toldBy 6 = .ok (.iload_n 1, 1) := by decide +kernel
theorem jd_M_toldBy_7 : decode jb_M_toldBy 7 = .ok (.iadd, 1) := by decide +kernel
theorem jd_M_toldBy_8 : decode jb_M_toldBy 8 = .ok (.iaload, 1) := by decide +kernel
theorem jd_M_toldBy_9 : decode jb_M_toldBy 9 = .ok (.istore 5, 2) := by decide +kernel
theorem jd_M_toldBy_11 : decode jb_M_toldBy 11 = .ok (.iconst 0, 1) := by decide +kernel
theorem jd_M_toldBy_12 : decode jb_M_toldBy 12 = .ok (.istore 6, 2) := by decide +kernel
theorem jd_M_toldBy_14 : decode jb_M_toldBy 14 = .ok (.iload 6, 2) := by decide +kernel
theorem jd_M_toldBy_16 : decode jb_M_toldBy 16 = .ok (.aload_n 0, 1) := by decide +kernel
theorem jd_M_toldBy_17 : decode jb_M_toldBy 17 = .ok (.getfield 130, 3) := by decide +kernel
theorem jd_M_toldBy_20 : decode jb_M_toldBy 20 = .ok (.if_icmp .ge 93, 3) := by decide +kernel
theorem jd_M_toldBy_23 : decode jb_M_toldBy 23 = .ok (.iload 6, 2) := by decide +kernel
theorem jd_M_toldBy_25 : decode jb_M_toldBy 25 = .ok (.ifCond .ne 7, 3) := by decide +kernel
theorem jd_M_toldBy_28 : decode jb_M_toldBy 28 = .ok (.iload_n 2, 1) := by decide +kernel
theorem jd_M_toldBy_29 : decode jb_M_toldBy 29 = .ok (.goto 15, 3) := by decide +kernel
theorem jd_M_toldBy_32 : decode jb_M_toldBy 32 = .ok (.iload 6, 2) := by decide +kernel
theorem jd_M_toldBy_34 : decode jb_M_toldBy 34 = .ok (.iconst 1, 1) := by decide +kernel
theorem jd_M_toldBy_35 : decode jb_M_toldBy 35 = .ok (.if_icmp .ne 7, 3) := by decide +kernel
theorem jd_M_toldBy_38 : decode jb_M_toldBy 38 = .ok (.iload_n 3, 1) := by decide +kernel
theorem jd_M_toldBy_39 : decode jb_M_toldBy 39 = .ok (.goto 5, 3) := by decide +kernel
theorem jd_M_toldBy_42 : decode jb_M_toldBy 42 = .ok (.iload 4, 2) := by decide +kernel
theorem jd_M_toldBy_44 : decode jb_M_toldBy 44 = .ok (.istore 7, 2) := by decide +kernel
theorem jd_M_toldBy_46 : decode jb_M_toldBy 46 = .ok (.iconst 0, 1) := by decide +kernel
theorem jd_M_toldBy_47 : decode jb_M_toldBy 47 = .ok (.istore 8, 2) := by decide +kernel
theorem jd_M_toldBy_49 : decode jb_M_toldBy 49 = .ok (.iload 8, 2) := by decide +kernel
theorem jd_M_toldBy_51 : decode jb_M_toldBy 51 = .ok (.iload 7, 2) := by decide +kernel
theorem jd_M_toldBy_53 : decode jb_M_toldBy 53 = .ok (.if_icmp .ge 54, 3) := by decide +kernel
theorem jd_M_toldBy_56 : decode jb_M_toldBy 56 = .ok (.iload 5, 2) := by decide +kernel
theorem jd_M_toldBy_58 : decode jb_M_toldBy 58 = .ok (.aload_n 0, 1) := by decide +kernel
theorem jd_M_toldBy_59 : decode jb_M_toldBy 59 = .ok (.getfield 22, 3) := by decide +kernel
theorem jd_M_toldBy_62 : decode jb_M_toldBy 62 = .ok (.iload_n 1, 1) := by decide +kernel
theorem jd_M_toldBy_63 : decode jb_M_toldBy 63 = .ok (.iaload, 1) := by decide +kernel
theorem jd_M_toldBy_64 : decode jb_M_toldBy 64 = .ok (.aload_n 0, 1) := by decide +kernel
theorem jd_M_toldBy_65 : decode jb_M_toldBy 65 = .ok (.getfield 43, 3) := by decide +kernel
theorem jd_M_toldBy_68 : decode jb_M_toldBy 68 = .ok (.bipush 21, 2) := by decide +kernel
theorem jd_M_toldBy_70 : decode jb_M_toldBy 70 = .ok (.bipush 8, 2) := by decide +kernel
theorem jd_M_toldBy_72 : decode jb_M_toldBy 72 = .ok (.iload 6, 2) := by decide +kernel
theorem jd_M_toldBy_74 : decode jb_M_toldBy 74 = .ok (.imul, 1) := by decide +kernel
theorem jd_M_toldBy_75 : decode jb_M_toldBy 75 = .ok (.iadd, 1) := by decide +kernel
theorem jd_M_toldBy_76 : decode jb_M_toldBy 76 = .ok (.aload_n 0, 1) := by decide +kernel
theorem jd_M_toldBy_77 : decode jb_M_toldBy 77 = .ok (.getfield 43, 3) := by decide +kernel
theorem jd_M_toldBy_80 : decode jb_M_toldBy 80 = .ok (.bipush 15, 2) := by decide +kernel
theorem jd_M_toldBy_82 : decode jb_M_toldBy 82 = .ok (.iload 6, 2) := by decide +kernel
theorem jd_M_toldBy_84 : decode jb_M_toldBy 84 = .ok (.iadd, 1) := by decide +kernel
theorem jd_M_toldBy_85 : decode jb_M_toldBy 85 = .ok (.iaload, 1) := by decide +kernel
theorem jd_M_toldBy_86 : decode jb_M_toldBy 86 = .ok (.iadd, 1) := by decide +kernel
theorem jd_M_toldBy_87 : decode jb_M_toldBy 87 = .ok (.iconst 1, 1) := by decide +kernel
theorem jd_M_toldBy_88 : decode jb_M_toldBy 88 = .ok (.isub, 1) := by decide +kernel
theorem jd_M_toldBy_89 : decode jb_M_toldBy 89 = .ok (.iload 8, 2) := by decide +kernel
theorem jd_M_toldBy_91 : decode jb_M_toldBy 91 = .ok (.isub, 1) := by decide +kernel
theorem jd_M_toldBy_92 : decode jb_M_toldBy 92 = .ok (.iaload, 1) := by decide +kernel
theorem jd_M_toldBy_93 : decode jb_M_toldBy 93 = .ok (.iload 5, 2) := by decide +kernel
theorem jd_M_toldBy_95 : decode jb_M_toldBy 95 = .ok (.invokestatic 194, 3) := by decide +kernel
theorem jd_M_toldBy_98 : decode jb_M_toldBy 98 = .ok (.ior, 1) := by decide +kernel
theorem jd_M_toldBy_99 : decode jb_M_toldBy 99 = .ok (.istore 5, 2) := by decide +kernel
theorem jd_M_toldBy_101 : decode jb_M_toldBy 101 = .ok (.iinc 8 1, 3) := by decide +kernel
theorem jd_M_toldBy_104 : decode jb_M_toldBy 104 = .ok (.goto (-55), 3) := by decide +kernel
theorem jd_M_toldBy_107 : decode jb_M_toldBy 107 = .ok (.iinc 6 1, 3) := by decide +kernel
theorem jd_M_toldBy_110 : decode jb_M_toldBy 110 = .ok (.goto (-96), 3) := by decide +kernel
theorem jd_M_toldBy_113 : decode jb_M_toldBy 113 = .ok (.iload 5, 2) := by decide +kernel
theorem jd_M_toldBy_115 : decode jb_M_toldBy 115 = .ok (.ireturn, 1) := by decide +kernel
theorem jd_M_tell_0 : decode jb_M_tell 0 = .ok (.aload_n 0, 1) := by decide +kernel
theorem jd_M_tell_1 : decode jb_M_tell 1 = .ok (.iload_n 1, 1) := by decide +kernel
theorem jd_M_tell_2 : decode jb_M_tell 2 = .ok (.invokevirtual 156, 3) := by decide +kernel
theorem jd_M_tell_5 : decode jb_M_tell 5 = .ok (.ifCond .eq 28, 3) := by decide +kernel
theorem jd_M_tell_8 : decode jb_M_tell 8 = .ok (.iload_n 2, 1) := by decide +kernel
theorem jd_M_tell_9 : decode jb_M_tell 9 = .ok (.i2l, 1) := by decide +kernel
theorem jd_M_tell_10 : decode jb_M_tell 10 = .ok (.lconst 1, 1) := by decide +kernel
theorem jd_M_tell_11 : decode jb_M_tell 11 = .ok (.ldc2_w 203, 3) := by decide +kernel
theorem jd_M_tell_14 : decode jb_M_tell 14 = .ok (.invokestatic 73, 3) := by decide +kernel
theorem jd_M_tell_17 : decode jb_M_tell 17 = .ok (.ifCond .eq 16, 3) := by decide +kernel
theorem jd_M_tell_20 : decode jb_M_tell 20 = .ok (.iload_n 3, 1) := by decide +kernel
theorem jd_M_tell_21 : decode jb_M_tell 21 = .ok (.iconst (-1), 1) := by decide +kernel
theorem jd_M_tell_22 : decode jb_M_tell 22 = .ok (.if_icmp .eq 13, 3) := by decide +kernel
theorem jd_M_tell_25 : decode jb_M_tell 25 = .ok (.aload_n 0, 1) := by decide +kernel
theorem jd_M_tell_26 : decode jb_M_tell 26 = .ok (.iload_n 3, 1) := by decide +kernel
theorem jd_M_tell_27 : decode jb_M_tell 27 = .ok (.invokevirtual 159, 3) := by decide +kernel
theorem jd_M_tell_30 : decode jb_M_tell 30 = .ok (.ifCond .ne 5, 3) := by decide +kernel
theorem jd_M_tell_33 : decode jb_M_tell 33 = .ok (.iconst (-1), 1) := by decide +kernel
theorem jd_M_tell_34 : decode jb_M_tell 34 = .ok (.ireturn, 1) := by decide +kernel
theorem jd_M_tell_35 : decode jb_M_tell 35 = .ok (.bipush (-4), 2) := by decide +kernel
theorem jd_M_tell_37 : decode jb_M_tell 37 = .ok (.istore 4, 2) := by decide +kernel
theorem jd_M_tell_39 : decode jb_M_tell 39 = .ok (.bipush 100, 2) := by decide +kernel
theorem jd_M_tell_41 : decode jb_M_tell 41 = .ok (.istore 5, 2) := by decide +kernel
theorem jd_M_tell_43 : decode jb_M_tell 43 = .ok (.aload_n 0, 1) := by decide +kernel
theorem jd_M_tell_44 : decode jb_M_tell 44 = .ok (.getfield 43, 3) := by decide +kernel
theorem jd_M_tell_47 : decode jb_M_tell 47 = .ok (.bipush 15, 2) := by decide +kernel
theorem jd_M_tell_49 : decode jb_M_tell 49 = .ok (.iaload, 1) := by decide +kernel
theorem jd_M_tell_50 : decode jb_M_tell 50 = .ok (.istore 6, 2) := by decide +kernel
theorem jd_M_tell_52 : decode jb_M_tell 52 = .ok (.iload 6, 2) := by decide +kernel
theorem jd_M_tell_54 : decode jb_M_tell 54 = .ok (.ifCond .lt 123, 3) := by decide +kernel
theorem jd_M_tell_57 : decode jb_M_tell 57 = .ok (.aload_n 0, 1) := by decide +kernel
theorem jd_M_tell_58 : decode jb_M_tell 58 = .ok (.getfield 43, 3) := by decide +kernel
theorem jd_M_tell_61 : decode jb_M_tell 61 = .ok (.bipush 16, 2) := by decide +kernel
theorem jd_M_tell_63 : decode jb_M_tell 63 = .ok (.iaload, 1) := by decide +kernel
theorem jd_M_tell_64 : decode jb_M_tell 64 = .ok (.istore 7, 2) := by decide +kernel
theorem jd_M_tell_66 : decode jb_M_tell 66 = .ok (.iload 7, 2) := by decide +kernel
theorem jd_M_tell_68 : decode jb_M_tell 68 = .ok (.ifCond .lt 103, 3) := by decide +kernel
theorem jd_M_tell_71 : decode jb_M_tell 71 = .ok (.aload_n 0, 1) := by decide +kernel
theorem jd_M_tell_72 : decode jb_M_tell 72 = .ok (.getfield 43, 3) := by decide +kernel
theorem jd_M_tell_75 : decode jb_M_tell 75 = .ok (.bipush 17, 2) := by decide +kernel
theorem jd_M_tell_77 : decode jb_M_tell 77 = .ok (.iaload, 1) := by decide +kernel
theorem jd_M_tell_78 : decode jb_M_tell 78 = .ok (.istore 8, 2) := by decide +kernel
theorem jd_M_tell_80 : decode jb_M_tell 80 = .ok (.iload 8, 2) := by decide +kernel
theorem jd_M_tell_82 : decode jb_M_tell 82 = .ok (.ifCond .lt 83, 3) := by decide +kernel
theorem jd_M_tell_85 : decode jb_M_tell 85 = .ok (.iload 6, 2) := by decide +kernel
theorem jd_M_tell_87 : decode jb_M_tell 87 = .ok (.iload 7, 2) := by decide +kernel
theorem jd_M_tell_89 : decode jb_M_tell 89 = .ok (.iadd, 1) := by decide +kernel
theorem jd_M_tell_90 : decode jb_M_tell 90 = .ok (.iload 8, 2) := by decide +kernel
theorem jd_M_tell_92 : decode jb_M_tell 92 = .ok (.iadd, 1) := by decide +kernel
theorem jd_M_tell_93 : decode jb_M_tell 93 = .ok (.iload 5, 2) := by decide +kernel
theorem jd_M_tell_95 : decode jb_M_tell 95 = .ok (.if_icmp .ge 64, 3) := by decide +kernel
theorem jd_M_tell_98 : decode jb_M_tell 98 = .ok (.iload_n 2, 1) := by decide +kernel
theorem jd_M_tell_99 : decode jb_M_tell 99 = .ok (.aload_n 0, 1) := by decide +kernel
theorem jd_M_tell_100 : decode jb_M_tell 100 = .ok (.iload_n 1, 1) := by decide +kernel
theorem jd_M_tell_101 : decode jb_M_tell 101 = .ok (.iload 6, 2) := by decide +kernel
theorem jd_M_tell_103 : decode jb_M_tell 103 = .ok (.iload 7, 2) := by decide +kernel
theorem jd_M_tell_105 : decode jb_M_tell 105 = .ok (.iload 8, 2) := by decide +kernel
theorem jd_M_tell_107 : decode jb_M_tell 107 = .ok (.invokevirtual 205, 3) := by decide +kernel
theorem jd_M_tell_110 : decode jb_M_tell 110 = .ok (.iconst (-1), 1) := by decide +kernel
theorem jd_M_tell_111 : decode jb_M_tell 111 = .ok (.ixor, 1) := by decide +kernel
theorem jd_M_tell_112 : decode jb_M_tell 112 = .ok (.iand, 1) := by decide +kernel
theorem jd_M_tell_113 : decode jb_M_tell 113 = .ok (.ifCond .ne 46, 3) := by decide +kernel
theorem jd_M_tell_116 : decode jb_M_tell 116 = .ok (.iload 6, 2) := by decide +kernel
theorem jd_M_tell_118 : decode jb_M_tell 118 = .ok (.iload 7, 2) := by decide +kernel
theorem jd_M_tell_120 : decode jb_M_tell 120 = .ok (.iadd, 1) := by decide +kernel
theorem jd_M_tell_121 : decode jb_M_tell 121 = .ok (.iload 8, 2) := by decide +kernel
theorem jd_M_tell_123 : decode jb_M_tell 123 = .ok (.iadd, 1) := by decide +kernel
theorem jd_M_tell_124 : decode jb_M_tell 124 = .ok (.istore 5, 2) := by decide +kernel
theorem jd_M_tell_126 : decode jb_M_tell 126 = .ok (.iload_n 3, 1) := by decide +kernel
theorem jd_M_tell_127 : decode jb_M_tell 127 = .ok (.iconst (-1), 1) := by decide +kernel
theorem jd_M_tell_128 : decode jb_M_tell 128 = .ok (.if_icmp .ne 8, 3) := by decide +kernel
theorem jd_M_tell_131 : decode jb_M_tell 131 = .ok (.iload 5, 2) := by decide +kernel
theorem jd_M_tell_133 : decode jb_M_tell 133 = .ok (.goto 24, 3) := by decide +kernel
theorem jd_M_tell_136 : decode jb_M_tell 136 = .ok (.iload_n 3, 1) := by decide +kernel
theorem jd_M_tell_137 : decode jb_M_tell 137 = .ok (.ifCond .ne 8, 3) := by decide +kernel
theorem jd_M_tell_140 : decode jb_M_tell 140 = .ok (.iload 6, 2) := by decide +kernel
theorem jd_M_tell_142 : decode jb_M_tell 142 = .ok (.goto 15, 3) := by decide +kernel
theorem jd_M_tell_145 : decode jb_M_tell 145 = .ok (.iload_n 3, 1) := by decide +kernel
theorem jd_M_tell_146 : decode jb_M_tell 146 = .ok (.iconst 1, 1) := by decide +kernel
theorem jd_M_tell_147 : decode jb_M_tell 147 = .ok (.if_icmp .ne 8, 3) := by decide +kernel
theorem jd_M_tell_150 : decode jb_M_tell 150 = .ok (.iload 7, 2) := by decide +kernel
theorem jd_M_tell_152 : decode jb_M_tell 152 = .ok (.goto 5, 3) := by decide +kernel
theorem jd_M_tell_155 : decode jb_M_tell 155 = .ok (.iload 8, 2) := by decide +kernel
theorem jd_M_tell_157 : decode jb_M_tell 157 = .ok (.istore 4, 2) := by decide +kernel
theorem jd_M_tell_159 : decode jb_M_tell 159 = .ok (.iinc 8 (-1), 3) := by decide +kernel
theorem jd_M_tell_162 : decode jb_M_tell 162 = .ok (.goto (-82), 3) := by decide +kernel
theorem jd_M_tell_165 : decode jb_M_tell 165 = .ok (.iinc 7 (-1), 3) := by decide +kernel
theorem jd_M_tell_168 : decode jb_M_tell 168 = .ok (.goto (-102), 3) := by decide +kernel
theorem jd_M_tell_171 : decode jb_M_tell 171 = .ok (.iinc 6 (-1), 3) := by decide +kernel
theorem jd_M_tell_174 : decode jb_M_tell 174 = .ok (.goto (-122), 3) := by decide +kernel
theorem jd_M_tell_177 : decode jb_M_tell 177 = .ok (.iload 4, 2) := by decide +kernel
theorem jd_M_tell_179 : decode jb_M_tell 179 = .ok (.ireturn, 1) := by decide +kernel
theorem jd_M_ones_0 : decode jb_M_ones 0 = .ok (.iconst 0, 1) := by decide +kernel
theorem jd_M_ones_1 : decode jb_M_ones 1 = .ok (.istore_n 1, 1) := by decide +kernel
theorem jd_M_ones_2 : decode jb_M_ones 2 = .ok (.iload_n 0, 1) := by decide +kernel
theorem jd_M_ones_3 : decode jb_M_ones 3 = .ok (.istore_n 2, 1) := by decide +kernel
theorem jd_M_ones_4 : decode jb_M_ones 4 = .ok (.iload_n 2, 1) := by decide +kernel
theorem jd_M_ones_5 : decode jb_M_ones 5 = .ok (.ifCond .eq 15, 3) := by decide +kernel
theorem jd_M_ones_8 : decode jb_M_ones 8 = .ok (.iinc 1 1, 3) := by decide +kernel
theorem jd_M_ones_11 : decode jb_M_ones 11 = .ok (.iload_n 2, 1) := by decide +kernel
theorem jd_M_ones_12 : decode jb_M_ones 12 = .ok (.iload_n 2, 1) := by decide +kernel
theorem jd_M_ones_13 : decode jb_M_ones 13 = .ok (.iconst 1, 1) := by decide +kernel
theorem jd_M_ones_14 : decode jb_M_ones 14 = .ok (.isub, 1) := by decide +kernel
theorem jd_M_ones_15 : decode jb_M_ones 15 = .ok (.iand, 1) := by decide +kernel
theorem jd_M_ones_16 : decode jb_M_ones 16 = .ok (.istore_n 2, 1) := by decide +kernel
theorem jd_M_ones_17 : decode jb_M_ones 17 = .ok (.goto (-13), 3) := by decide +kernel
theorem jd_M_ones_20 : decode jb_M_ones 20 = .ok (.iload_n 1, 1) := by decide +kernel
theorem jd_M_ones_21 : decode jb_M_ones 21 = .ok (.ireturn, 1) := by decide +kernel
theorem jd_M_rakes_0 : decode jb_M_rakes 0 = .ok (.iload_n 1, 1) := by decide +kernel
theorem jd_M_rakes_1 : decode jb_M_rakes 1 = .ok (.i2l, 1) := by decide +kernel
theorem jd_M_rakes_2 : decode jb_M_rakes 2 = .ok (.lconst 1, 1) := by decide +kernel
theorem jd_M_rakes_3 : decode jb_M_rakes 3 = .ok (.ldc2_w 203, 3) := by decide +kernel
theorem jd_M_rakes_6 : decode jb_M_rakes 6 = .ok (.invokestatic 73, 3) := by decide +kernel
theorem jd_M_rakes_9 : decode jb_M_rakes 9 = .ok (.ifCond .ne 5, 3) := by decide +kernel
theorem jd_M_rakes_12 : decode jb_M_rakes 12 = .ok (.iconst (-1), 1) := by decide +kernel
theorem jd_M_rakes_13 : decode jb_M_rakes 13 = .ok (.ireturn, 1) := by decide +kernel
theorem jd_M_rakes_14 : decode jb_M_rakes 14 = .ok (.bipush (-4), 2) := by decide +kernel
theorem jd_M_rakes_16 : decode jb_M_rakes 16 = .ok (.istore_n 2, 1) := by decide +kernel
theorem jd_M_rakes_17 : decode jb_M_rakes 17 = .ok (.bipush 100, 2) := by decide +kernel
theorem jd_M_rakes_19 : decode jb_M_rakes 19 = .ok (.istore_n 3, 1) := by decide +kernel
theorem jd_M_rakes_20 : decode jb_M_rakes 20 = .ok (.iconst 0, 1) := by decide +kernel
theorem jd_M_rakes_21 : decode jb_M_rakes 21 = .ok (.istore 4, 2) := by decide +kernel
theorem jd_M_rakes_23 : decode jb_M_rakes 23 = .ok (.iload 4, 2) := by decide +kernel
theorem jd_M_rakes_25 : decode jb_M_rakes 25 = .ok (.aload_n 0, 1) := by decide +kernel
theorem jd_M_rakes_26 : decode jb_M_rakes 26 = .ok (.getfield 124, 3) := by decide +kernel
theorem jd_M_rakes_29 : decode jb_M_rakes 29 = .ok (.if_icmp .ge 78, 3) := by decide +kernel
theorem jd_M_rakes_32 : decode jb_M_rakes 32 = .ok (.iload 4, 2) := by decide +kernel
theorem jd_M_rakes_34 : decode jb_M_rakes 34 = .ok (.istore 5, 2) := by decide +kernel
theorem jd_M_rakes_36 : decode jb_M_rakes 36 = .ok (.iload 5, 2) := by decide +kernel
theorem jd_M_rakes_38 : decode jb_M_rakes 38 = .ok (.aload_n 0, 1) := by decide +kernel
theorem jd_M_rakes_39 : decode jb_M_rakes 39 = .ok (.getfield 124, 3) := by decide +kernel
theorem jd_M_rakes_42 : decode jb_M_rakes 42 = .ok (.if_icmp .ge 59, 3) := by decide +kernel
theorem jd_M_rakes_45 : decode jb_M_rakes 45 = .ok (.aload_n 0, 1) := by decide +kernel
theorem jd_M_rakes_46 : decode jb_M_rakes 46 = .ok (.iload 4, 2) := by decide +kernel
theorem jd_M_rakes_48 : decode jb_M_rakes 48 = .ok (.iload 5, 2) := by decide +kernel
theorem jd_M_rakes_50 : decode jb_M_rakes 50 = .ok (.invokevirtual 184, 3) := by decide +kernel
theorem jd_M_rakes_53 : decode jb_M_rakes 53 = .ok (.iload_n 1, 1) := by decide +kernel
theorem jd_M_rakes_54 : decode jb_M_rakes 54 = .ok (.iconst (-1), 1) := by decide +kernel
theorem jd_M_rakes_55 : decode jb_M_rakes 55 = .ok (.ixor, 1) := by decide +kernel
theorem jd_M_rakes_56 : decode jb_M_rakes 56 = .ok (.iand, 1) := by decide +kernel
theorem jd_M_rakes_57 : decode jb_M_rakes 57 = .ok (.invokestatic 209, 3) := by decide +kernel
theorem jd_M_rakes_60 : decode jb_M_rakes 60 = .ok (.istore 6, 2) := by decide +kernel
theorem jd_M_rakes_62 : decode jb_M_rakes 62 = .ok (.iload_n 1, 1) := by decide +kernel
theorem jd_M_rakes_63 : decode jb_M_rakes 63 = .ok (.aload_n 0, 1) := by decide +kernel
theorem jd_M_rakes_64 : decode jb_M_rakes 64 = .ok (.iload 4, 2) := by decide +kernel
theorem jd_M_rakes_66 : decode jb_M_rakes 66 = .ok (.iload 5, 2) := by decide +kernel
theorem jd_M_rakes_68 : decode jb_M_rakes 68 = .ok (.invokevirtual 184, 3) := by decide +kernel
theorem jd_M_rakes_71 : decode jb_M_rakes 71 = .ok (.iconst (-1), 1) := by decide +kernel
theorem jd_M_rakes_72 : decode jb_M_rakes 72 = .ok (.ixor, 1) := by decide +kernel
theorem jd_M_rakes_73 : decode jb_M_rakes 73 = .ok (.iand, 1) := by decide +kernel
theorem jd_M_rakes_74 : decode jb_M_rakes 74 = .ok (.ifCond .ne 21, 3) := by decide +kernel
theorem jd_M_rakes_77 : decode jb_M_rakes 77 = .ok (.iload 6, 2) := by decide +kernel
theorem jd_M_rakes_79 : decode jb_M_rakes 79 = .ok (.iload_n 3, 1) := by decide +kernel
theorem jd_M_rakes_80 : decode jb_M_rakes 80 = .ok (.if_icmp .ge 15, 3) := by decide +kernel
theorem jd_M_rakes_83 : decode jb_M_rakes 83 = .ok (.bipush 10, 2) := by decide +kernel
theorem jd_M_rakes_85 : decode jb_M_rakes 85 = .ok (.iload 4, 2) := by decide +kernel
theorem jd_M_rakes_87 : decode jb_M_rakes 87 = .ok (.imul, 1) := by decide +kernel
theorem jd_M_rakes_88 : decode jb_M_rakes 88 = .ok (.iload 5, 2) := by decide +kernel
theorem jd_M_rakes_90 : decode jb_M_rakes 90 = .ok (.iadd, 1) := by decide +kernel
theorem jd_M_rakes_91 : decode jb_M_rakes 91 = .ok (.istore_n 2, 1) := by decide +kernel
theorem jd_M_rakes_92 : decode jb_M_rakes 92 = .ok (.iload 6, 2) := by decide +kernel
theorem jd_M_rakes_94 : decode jb_M_rakes 94 = .ok (.istore_n 3, 1) := by decide +kernel
theorem jd_M_rakes_95 : decode jb_M_rakes 95 = .ok (.iinc 5 1, 3) := by decide +kernel
theorem jd_M_rakes_98 : decode jb_M_rakes 98 = .ok (.goto (-62), 3) := by decide +kernel
theorem jd_M_rakes_101 : decode jb_M_rakes 101 = .ok (.iinc 4 1, 3) := by decide +kernel
theorem jd_M_rakes_104 : decode jb_M_rakes 104 = .ok (.goto (-81), 3) := by decide +kernel
theorem jd_M_rakes_107 : decode jb_M_rakes 107 = .ok (.iload_n 2, 1) := by decide +kernel
theorem jd_M_rakes_108 : decode jb_M_rakes 108 = .ok (.ireturn, 1) := by decide +kernel
theorem jd_M_most_0 : decode jb_M_most 0 = .ok (.aload_n 0, 1) := by decide +kernel
theorem jd_M_most_1 : decode jb_M_most 1 = .ok (.iload_n 1, 1) := by decide +kernel
theorem jd_M_most_2 : decode jb_M_most 2 = .ok (.invokevirtual 156, 3) := by decide +kernel
theorem jd_M_most_5 : decode jb_M_most 5 = .ok (.ifCond .eq 13, 3) := by decide +kernel
theorem jd_M_most_8 : decode jb_M_most 8 = .ok (.iload_n 2, 1) := by decide +kernel
theorem jd_M_most_9 : decode jb_M_most 9 = .ok (.i2l, 1) := by decide +kernel
theorem jd_M_most_10 : decode jb_M_most 10 = .ok (.lconst 0, 1) := by decide +kernel
theorem jd_M_most_11 : decode jb_M_most 11 = .ok (.lconst 1, 1) := by decide +kernel
theorem jd_M_most_12 : decode jb_M_most 12 = .ok (.invokestatic 73, 3) := by decide +kernel
theorem jd_M_most_15 : decode jb_M_most 15 = .ok (.ifCond .ne 5, 3) := by decide +kernel
theorem jd_M_most_18 : decode jb_M_most 18 = .ok (.iconst (-1), 1) := by decide +kernel
theorem jd_M_most_19 : decode jb_M_most 19 = .ok (.ireturn, 1) := by decide +kernel
theorem jd_M_most_20 : decode jb_M_most 20 = .ok (.bipush (-4), 2) := by decide +kernel
theorem jd_M_most_22 : decode jb_M_most 22 = .ok (.istore_n 3, 1) := by decide +kernel
theorem jd_M_most_23 : decode jb_M_most 23 = .ok (.bipush (-4), 2) := by decide +kernel
theorem jd_M_most_25 : decode jb_M_most 25 = .ok (.istore 4, 2) := by decide +kernel
theorem jd_M_most_27 : decode jb_M_most 27 = .ok (.iconst 0, 1) := by decide +kernel
theorem jd_M_most_28 : decode jb_M_most 28 = .ok (.istore 5, 2) := by decide +kernel
theorem jd_M_most_30 : decode jb_M_most 30 = .ok (.iload 5, 2) := by decide +kernel
theorem jd_M_most_32 : decode jb_M_most 32 = .ok (.aload_n 0, 1) := by decide +kernel
theorem jd_M_most_33 : decode jb_M_most 33 = .ok (.getfield 130, 3) := by decide +kernel
theorem jd_M_most_36 : decode jb_M_most 36 = .ok (.if_icmp .ge 93, 3) := by decide +kernel
theorem jd_M_most_39 : decode jb_M_most 39 = .ok (.aload_n 0, 1) := by decide +kernel
theorem jd_M_most_40 : decode jb_M_most 40 = .ok (.getfield 43, 3) := by decide +kernel
theorem jd_M_most_43 : decode jb_M_most 43 = .ok (.bipush 15, 2) := by decide +kernel
theorem jd_M_most_45 : decode jb_M_most 45 = .ok (.iload 5, 2) := by decide +kernel
theorem jd_M_most_47 : decode jb_M_most 47 = .ok (.iadd, 1) := by decide +kernel
theorem jd_M_most_48 : decode jb_M_most 48 = .ok (.iaload, 1) := by decide +kernel
theorem jd_M_most_49 : decode jb_M_most 49 = .ok (.ifCond .le 74, 3) := by decide +kernel
theorem jd_M_most_52 : decode jb_M_most 52 = .ok (.aload_n 0, 1) := by decide +kernel
theorem jd_M_most_53 : decode jb_M_most 53 = .ok (.getfield 22, 3) := by decide +kernel
theorem jd_M_most_56 : decode jb_M_most 56 = .ok (.iload_n 1, 1) := by decide +kernel
theorem jd_M_most_57 : decode jb_M_most 57 = .ok (.iaload, 1) := by decide +kernel
theorem jd_M_most_58 : decode jb_M_most 58 = .ok (.aload_n 0, 1) := by decide +kernel
theorem jd_M_most_59 : decode jb_M_most 59 = .ok (.iload 5, 2) := by decide +kernel
theorem jd_M_most_61 : decode jb_M_most 61 = .ok (.invokevirtual 191, 3) := by decide +kernel
theorem jd_M_most_64 : decode jb_M_most 64 = .ok (.aload_n 0, 1) := by decide +kernel
theorem jd_M_most_65 : decode jb_M_most 65 = .ok (.getfield 43, 3) := by decide +kernel
theorem jd_M_most_68 : decode jb_M_most 68 = .ok (.bipush 11, 2) := by decide +kernel
theorem jd_M_most_70 : decode jb_M_most 70 = .ok (.iload_n 1, 1) := by decide +kernel
theorem jd_M_most_71 : decode jb_M_most 71 = .ok (.iadd, 1) := by decide +kernel
theorem jd_M_most_72 : decode jb_M_most 72 = .ok (.iaload, 1) := by decide +kernel
theorem jd_M_most_73 : decode jb_M_most 73 = .ok (.invokestatic 194, 3) := by decide +kernel
theorem jd_M_most_76 : decode jb_M_most 76 = .ok (.aload_n 0, 1) := by decide +kernel
theorem jd_M_most_77 : decode jb_M_most 77 = .ok (.getfield 43, 3) := by decide +kernel
theorem jd_M_most_80 : decode jb_M_most 80 = .ok (.bipush 11, 2) := by decide +kernel
theorem jd_M_most_82 : decode jb_M_most 82 = .ok (.iload_n 1, 1) := by decide +kernel
theorem jd_M_most_83 : decode jb_M_most 83 = .ok (.iadd, 1) := by decide +kernel
theorem jd_M_most_84 : decode jb_M_most 84 = .ok (.iaload, 1) := by decide +kernel
theorem jd_M_most_85 : decode jb_M_most 85 = .ok (.iconst (-1), 1) := by decide +kernel
theorem jd_M_most_86 : decode jb_M_most 86 = .ok (.ixor, 1) := by decide +kernel
theorem jd_M_most_87 : decode jb_M_most 87 = .ok (.iand, 1) := by decide +kernel
theorem jd_M_most_88 : decode jb_M_most 88 = .ok (.invokestatic 209, 3) := by decide +kernel
theorem jd_M_most_91 : decode jb_M_most 91 = .ok (.istore 6, 2) := by decide +kernel
theorem jd_M_most_93 : decode jb_M_most 93 = .ok (.iload 6, 2) := by decide +kernel
theorem jd_M_most_95 : decode jb_M_most 95 = .ok (.iload 4, 2) := by decide +kernel
theorem jd_M_most_97 : decode jb_M_most 97 = .ok (.if_icmp .le 8, 3) := by decide +kernel
theorem jd_M_most_100 : decode jb_M_most 100 = .ok (.iload 5, 2) := by decide +kernel
theorem jd_M_most_102 : decode jb_M_most 102 = .ok (.goto 4, 3) := by decide +kernel
theorem jd_M_most_105 : decode jb_M_most 105 = .ok (.iload_n 3, 1) := by decide +kernel
theorem jd_M_most_106 : decode jb_M_most 106 = .ok (.istore_n 3, 1) := by decide +kernel
theorem jd_M_most_107 : decode jb_M_most 107 = .ok (.iload 6, 2) := by decide +kernel
theorem jd_M_most_109 : decode jb_M_most 109 = .ok (.iload 4, 2) := by decide +kernel
theorem jd_M_most_111 : decode jb_M_most 111 = .ok (.if_icmp .le 8, 3) := by decide +kernel
theorem jd_M_most_114 : decode jb_M_most 114 = .ok (.iload 6, 2) := by decide +kernel
theorem jd_M_most_116 : decode jb_M_most 116 = .ok (.goto 5, 3) := by decide +kernel
theorem jd_M_most_119 : decode jb_M_most 119 = .ok (.iload 4, 2) := by decide +kernel
theorem jd_M_most_121 : decode jb_M_most 121 = .ok (.istore 4, 2) := by decide +kernel
theorem jd_M_most_123 : decode jb_M_most 123 = .ok (.iinc 5 1, 3) := by decide +kernel
theorem jd_M_most_126 : decode jb_M_most 126 = .ok (.goto (-96), 3) := by decide +kernel
theorem jd_M_most_129 : decode jb_M_most 129 = .ok (.iload_n 2, 1) := by decide +kernel
theorem jd_M_most_130 : decode jb_M_most 130 = .ok (.ifCond .ne 7, 3) := by decide +kernel
theorem jd_M_most_133 : decode jb_M_most 133 = .ok (.iload_n 3, 1) := by decide +kernel
theorem jd_M_most_134 : decode jb_M_most 134 = .ok (.goto 5, 3) := by decide +kernel
theorem jd_M_most_137 : decode jb_M_most 137 = .ok (.iload 4, 2) := by decide +kernel
theorem jd_M_most_139 : decode jb_M_most 139 = .ok (.ireturn, 1) := by decide +kernel
theorem jd_M_first_0 : decode jb_M_first 0 = .ok (.iload_n 1, 1) := by decide +kernel
theorem jd_M_first_1 : decode jb_M_first 1 = .ok (.i2l, 1) := by decide +kernel
theorem jd_M_first_2 : decode jb_M_first 2 = .ok (.lconst 0, 1) := by decide +kernel
theorem jd_M_first_3 : decode jb_M_first 3 = .ok (.ldc2_w 77, 3) := by decide +kernel
theorem jd_M_first_6 : decode jb_M_first 6 = .ok (.invokestatic 73, 3) := by decide +kernel
theorem jd_M_first_9 : decode jb_M_first 9 = .ok (.ifCond .eq 13, 3) := by decide +kernel
theorem jd_M_first_12 : decode jb_M_first 12 = .ok (.iload_n 2, 1) := by decide +kernel
theorem jd_M_first_13 : decode jb_M_first 13 = .ok (.i2l, 1) := by decide +kernel
theorem jd_M_first_14 : decode jb_M_first 14 = .ok (.lconst 0, 1) := by decide +kernel
theorem jd_M_first_15 : decode jb_M_first 15 = .ok (.lconst 1, 1) := by decide +kernel
theorem jd_M_first_16 : decode jb_M_first 16 = .ok (.invokestatic 73, 3) := by decide +kernel
theorem jd_M_first_19 : decode jb_M_first 19 = .ok (.ifCond .ne 5, 3) := by decide +kernel
theorem jd_M_first_22 : decode jb_M_first 22 = .ok (.iconst (-1), 1) := by decide +kernel
theorem jd_M_first_23 : decode jb_M_first 23 = .ok (.ireturn, 1) := by decide +kernel
theorem jd_M_first_24 : decode jb_M_first 24 = .ok (.iconst 1, 1) := by decide +kernel
theorem jd_M_first_25 : decode jb_M_first 25 = .ok (.istore_n 3, 1) := by decide +kernel
theorem jd_M_first_26 : decode jb_M_first 26 = .ok (.iload_n 3, 1) := by decide +kernel
theorem jd_M_first_27 : decode jb_M_first 27 = .ok (.bipush 60, 2) := by decide +kernel
theorem jd_M_first_29 : decode jb_M_first 29 = .ok (.if_icmp .gt 58, 3) := by decide +kernel
theorem jd_M_first_32 : decode jb_M_first 32 = .ok (.iconst 0, 1) := by decide +kernel
theorem jd_M_first_33 : decode jb_M_first 33 = .ok (.istore 4, 2) := by decide +kernel
theorem jd_M_first_35 : decode jb_M_first 35 = .ok (.iload 4, 2) := by decide +kernel
theorem jd_M_first_37 : decode jb_M_first 37 = .ok (.aload_n 0, 1) := by decide +kernel
theorem jd_M_first_38 : decode jb_M_first 38 = .ok (.getfield 124, 3) := by decide +kernel
theorem jd_M_first_41 : decode jb_M_first 41 = .ok (.if_icmp .ge 40, 3) := by decide +kernel
theorem jd_M_first_44 : decode jb_M_first 44 = .ok (.aload_n 0, 1) := by decide +kernel
theorem jd_M_first_45 : decode jb_M_first 45 = .ok (.iload 4, 2) := by decide +kernel
theorem jd_M_first_47 : decode jb_M_first 47 = .ok (.aload_n 0, 1) := by decide +kernel
theorem jd_M_first_48 : decode jb_M_first 48 = .ok (.getfield 43, 3) := by decide +kernel
theorem jd_M_first_51 : decode jb_M_first 51 = .ok (.iconst 0, 1) := by decide +kernel
theorem jd_M_first_52 : decode jb_M_first 52 = .ok (.iaload, 1) := by decide +kernel
theorem jd_M_first_53 : decode jb_M_first 53 = .ok (.iload_n 3, 1) := by decide +kernel
theorem jd_M_first_54 : decode jb_M_first 54 = .ok (.iadd, 1) := by decide +kernel
theorem jd_M_first_55 : decode jb_M_first 55 = .ok (.iconst 1, 1) := by decide +kernel
theorem jd_M_first_56 : decode jb_M_first 56 = .ok (.isub, 1) := by decide +kernel
theorem jd_M_first_57 : decode jb_M_first 57 = .ok (.invokevirtual 153, 3) := by decide +kernel
theorem jd_M_first_60 : decode jb_M_first 60 = .ok (.iload_n 1, 1) := by decide +kernel
theorem jd_M_first_61 : decode jb_M_first 61 = .ok (.if_icmp .ne 14, 3) := by decide +kernel
theorem jd_M_first_64 : decode jb_M_first 64 = .ok (.iload_n 2, 1) := by decide +kernel
theorem jd_M_first_65 : decode jb_M_first 65 = .ok (.ifCond .ne 7, 3) := by decide +kernel
theorem jd_M_first_68 : decode jb_M_first 68 = .ok (.iload_n 3, 1) := by decide +kernel
theorem jd_M_first_69 : decode jb_M_first 69 = .ok (.goto 5, 3) := by decide +kernel
theorem jd_M_first_72 : decode jb_M_first 72 = .ok (.iload 4, 2) := by decide +kernel
theorem jd_M_first_74 : decode jb_M_first 74 = .ok (.ireturn, 1) := by decide +kernel
theorem jd_M_first_75 : decode jb_M_first 75 = .ok (.iinc 4 1, 3) := by decide +kernel
theorem jd_M_first_78 : decode jb_M_first 78 = .ok (.goto (-43), 3) := by decide +kernel
theorem jd_M_first_81 : decode jb_M_first 81 = .ok (.iinc 3 1, 3) := by decide +kernel
theorem jd_M_first_84 : decode jb_M_first 84 = .ok (.goto (-58), 3) := by decide +kernel
theorem jd_M_first_87 : decode jb_M_first 87 = .ok (.bipush (-4), 2) := by decide +kernel
theorem jd_M_first_89 : decode jb_M_first 89 = .ok (.ireturn, 1) := by decide +kernel
theorem jd_M_has_0 : decode jb_M_has 0 = .ok (.iload_n 0, 1) := by decide +kernel
theorem jd_M_has_1 : decode jb_M_has 1 = .ok (.iload_n 1, 1) := by decide +kernel
theorem jd_M_has_2 : decode jb_M_has 2 = .ok (.ishr, 1) := by decide +kernel
theorem jd_M_has_3 : decode jb_M_has 3 = .ok (.iconst 1, 1) := by decide +kernel
theorem jd_M_has_4 : decode jb_M_has 4 = .ok (.iand, 1) := by decide +kernel
theorem jd_M_has_5 : decode jb_M_has 5 = .ok (.iconst 1, 1) := by decide +kernel
theorem jd_M_has_6 : decode jb_M_has 6 = .ok (.if_icmp .ne 7, 3) := by decide +kernel
theorem jd_M_has_9 : decode jb_M_has 9 = .ok (.iconst 1, 1) := by decide +kernel
theorem jd_M_has_10 : decode jb_M_has 10 = .ok (.goto 4, 3) := by decide +kernel
theorem jd_M_has_13 : decode jb_M_has 13 = .ok (.iconst 0, 1) := by decide +kernel
theorem jd_M_has_14 : decode jb_M_has 14 = .ok (.ireturn, 1) := by decide +kernel
theorem jd_M_weight_0 : decode jb_M_weight 0 = .ok (.iconst 0, 1) := by decide +kernel
theorem jd_M_weight_1 : decode jb_M_weight 1 = .ok (.istore_n 3, 1) := by decide +kernel
theorem jd_M_weight_2 : decode jb_M_weight 2 = .ok (.iconst 0, 1) := by decide +kernel
theorem jd_M_weight_3 : decode jb_M_weight 3 = .ok (.istore 4, 2) := by decide +kernel
theorem jd_M_weight_5 : decode jb_M_weight 5 = .ok (.iload 4, 2) := by decide +kernel
theorem jd_M_weight_7 : decode jb_M_weight 7 = .ok (.aload_n 0, 1) := by decide +kernel
theorem jd_M_weight_8 : decode jb_M_weight 8 = .ok (.getfield 43, 3) := by decide +kernel
theorem jd_M_weight_11 : decode jb_M_weight 11 = .ok (.bipush 15, 2) := by decide +kernel
theorem jd_M_weight_13 : decode jb_M_weight 13 = .ok (.iload_n 2, 1) := by decide +kernel
theorem jd_M_weight_14 : decode jb_M_weight 14 = .ok (.iadd, 1) := by decide +kernel
theorem jd_M_weight_15 : decode jb_M_weight 15 = .ok (.iaload, 1) := by decide +kernel
theorem jd_M_weight_16 : decode jb_M_weight 16 = .ok (.if_icmp .ge 42, 3) := by decide +kernel
theorem jd_M_weight_19 : decode jb_M_weight 19 = .ok (.iload_n 3, 1) := by decide +kernel
theorem jd_M_weight_20 : decode jb_M_weight 20 = .ok (.aload_n 0, 1) := by decide +kernel
theorem jd_M_weight_21 : decode jb_M_weight 21 = .ok (.getfield 43, 3) := by decide +kernel
theorem jd_M_weight_24 : decode jb_M_weight 24 = .ok (.bipush 21, 2) := by decide +kernel
theorem jd_M_weight_26 : decode jb_M_weight 26 = .ok (.bipush 8, 2) := by decide +kernel
theorem jd_M_weight_28 : decode jb_M_weight 28 = .ok (.iload_n 2, 1) := by decide +kernel
theorem jd_M_weight_29 : decode jb_M_weight 29 = .ok (.imul, 1) := by decide +kernel
theorem jd_M_weight_30 : decode jb_M_weight 30 = .ok (.iadd, 1) := by decide +kernel
theorem jd_M_weight_31 : decode jb_M_weight 31 = .ok (.iload 4, 2) := by decide +kernel
theorem jd_M_weight_33 : decode jb_M_weight 33 = .ok (.iadd, 1) := by decide +kernel
theorem jd_M_weight_34 : decode jb_M_weight 34 = .ok (.iaload, 1) := by decide +kernel
theorem jd_M_weight_35 : decode jb_M_weight 35 = .ok (.iload_n 1, 1) := by decide +kernel
theorem jd_M_weight_36 : decode jb_M_weight 36 = .ok (.invokestatic 212, 3) := by decide +kernel
theorem jd_M_weight_39 : decode jb_M_weight 39 = .ok (.ifCond .eq 10, 3) := by decide +kernel
theorem jd_M_weight_42 : decode jb_M_weight 42 = .ok (.iload 4, 2) := by decide +kernel
theorem jd_M_weight_44 : decode jb_M_weight 44 = .ok (.iconst 1, 1) := by decide +kernel
theorem jd_M_weight_45 : decode jb_M_weight 45 = .ok (.iadd, 1) := by decide +kernel
theorem jd_M_weight_46 : decode jb_M_weight 46 = .ok (.goto 4, 3) := by decide +kernel
theorem jd_M_weight_49 : decode jb_M_weight 49 = .ok (.iconst 0, 1) := by decide +kernel
theorem jd_M_weight_50 : decode jb_M_weight 50 = .ok (.iadd, 1) := by decide +kernel
theorem jd_M_weight_51 : decode jb_M_weight 51 = .ok (.istore_n 3, 1) := by decide +kernel
theorem jd_M_weight_52 : decode jb_M_weight 52 = .ok (.iinc 4 1, 3) := by decide +kernel
theorem jd_M_weight_55 : decode jb_M_weight 55 = .ok (.goto (-50), 3) := by decide +kernel
theorem jd_M_weight_58 : decode jb_M_weight 58 = .ok (.iload_n 3, 1) := by decide +kernel
theorem jd_M_weight_59 : decode jb_M_weight 59 = .ok (.ireturn, 1) := by decide +kernel
theorem jd_M_common_0 : decode jb_M_common 0 = .ok (.iload_n 0, 1) := by decide +kernel
theorem jd_M_common_1 : decode jb_M_common 1 = .ok (.istore_n 2, 1) := by decide +kernel
theorem jd_M_common_2 : decode jb_M_common 2 = .ok (.iload_n 1, 1) := by decide +kernel
theorem jd_M_common_3 : decode jb_M_common 3 = .ok (.istore_n 3, 1) := by decide +kernel
theorem jd_M_common_4 : decode jb_M_common 4 = .ok (.iload_n 3, 1) := by decide +kernel
theorem jd_M_common_5 : decode jb_M_common 5 = .ok (.ifCond .eq 16, 3) := by decide +kernel
theorem jd_M_common_8 : decode jb_M_common 8 = .ok (.iload_n 2, 1) := by decide +kernel
theorem jd_M_common_9 : decode jb_M_common 9 = .ok (.iload_n 3, 1) := by decide +kernel
theorem jd_M_common_10 : decode jb_M_common 10 = .ok (.irem, 1) := by decide +kernel
theorem jd_M_common_11 : decode jb_M_common 11 = .ok (.istore 4, 2) := by decide +kernel
theorem jd_M_common_13 : decode jb_M_common 13 = .ok (.iload_n 3, 1) := by decide +kernel
theorem jd_M_common_14 : decode jb_M_common 14 = .ok (.istore_n 2, 1) := by decide +kernel
theorem jd_M_common_15 : decode jb_M_common 15 = .ok (.iload 4, 2) := by decide +kernel
theorem jd_M_common_17 : decode jb_M_common 17 = .ok (.istore_n 3, 1) := by decide +kernel
theorem jd_M_common_18 : decode jb_M_common 18 = .ok (.goto (-14), 3) := by decide +kernel
theorem jd_M_common_21 : decode jb_M_common 21 = .ok (.iload_n 2, 1) := by decide +kernel
theorem jd_M_common_22 : decode jb_M_common 22 = .ok (.ireturn, 1) := by decide +kernel
theorem jd_M_needle_0 : decode jb_M_needle 0 = .ok (.iload_n 1, 1) := by decide +kernel
theorem jd_M_needle_1 : decode jb_M_needle 1 = .ok (.i2l, 1) := by decide +kernel
theorem jd_M_needle_2 : decode jb_M_needle 2 = .ok (.lconst 0, 1) := by decide +kernel
theorem jd_M_needle_3 : decode jb_M_needle 3 = .ok (.ldc2_w 77, 3) := by decide +kernel
theorem jd_M_needle_6 : decode jb_M_needle 6 = .ok (.invokestatic 73, 3) := by decide +kernel
theorem jd_M_needle_9 : decode jb_M_needle 9 = .ok (.ifCond .eq 21, 3) := by decide +kernel
theorem jd_M_needle_12 : decode jb_M_needle 12 = .ok (.aload_n 0, 1) := by decide +kernel
theorem jd_M_needle_13 : decode jb_M_needle 13 = .ok (.iload_n 2, 1) := by decide +kernel
theorem jd_M_needle_14 : decode jb_M_needle 14 = .ok (.invokevirtual 159, 3) := by decide +kernel
theorem jd_M_needle_17 : decode jb_M_needle 17 = .ok (.ifCond .eq 13, 3) := by decide +kernel
theorem jd_M_needle_20 : decode jb_M_needle 20 = .ok (.iload_n 3, 1) := by decide +kernel
theorem jd_M_needle_21 : decode jb_M_needle 21 = .ok (.i2l, 1) := by decide +kernel
theorem jd_M_needle_22 : decode jb_M_needle 22 = .ok (.lconst 0, 1) := by decide +kernel
theorem jd_M_needle_23 : decode jb_M_needle 23 = .ok (.lconst 1, 1) := by decide +kernel
theorem jd_M_needle_24 : decode jb_M_needle 24 = .ok (.invokestatic 73, 3) := by decide +kernel
theorem jd_M_needle_27 : decode jb_M_needle 27 = .ok (.ifCond .ne 5, 3) := by decide +kernel
theorem jd_M_needle_30 : decode jb_M_needle 30 = .ok (.iconst (-1), 1) := by decide +kernel
theorem jd_M_needle_31 : decode jb_M_needle 31 = .ok (.ireturn, 1) := by decide +kernel
theorem jd_M_needle_32 : decode jb_M_needle 32 = .ok (.iconst 0, 1) := by decide +kernel
theorem jd_M_needle_33 : decode jb_M_needle 33 = .ok (.istore 4, 2) := by decide +kernel
theorem jd_M_needle_35 : decode jb_M_needle 35 = .ok (.iconst 0, 1) := by decide +kernel
theorem jd_M_needle_36 : decode jb_M_needle 36 = .ok (.istore 5, 2) := by decide +kernel
theorem jd_M_needle_38 : decode jb_M_needle 38 = .ok (.iload 5, 2) := by decide +kernel
theorem jd_M_needle_40 : decode jb_M_needle 40 = .ok (.aload_n 0, 1) := by decide +kernel
theorem jd_M_needle_41 : decode jb_M_needle 41 = .ok (.getfield 130, 3) := by decide +kernel
theorem jd_M_needle_44 : decode jb_M_needle 44 = .ok (.if_icmp .ge 21, 3) := by decide +kernel
theorem jd_M_needle_47 : decode jb_M_needle 47 = .ok (.iload 4, 2) := by decide +kernel
theorem jd_M_needle_49 : decode jb_M_needle 49 = .ok (.aload_n 0, 1) := by decide +kernel
theorem jd_M_needle_50 : decode jb_M_needle 50 = .ok (.iload_n 1, 1) := by decide +kernel
theorem jd_M_needle_51 : decode jb_M_needle 51 = .ok (.iload 5, 2) := by decide +kernel
theorem jd_M_needle_53 : decode jb_M_needle 53 = .ok (.invokevirtual 215, 3) := by decide +kernel
theorem jd_M_needle_56 : decode jb_M_needle 56 = .ok (.iadd, 1) := by decide +kernel
theorem jd_M_needle_57 : decode jb_M_needle 57 = .ok (.istore 4, 2) := by decide +kernel
theorem jd_M_needle_59 : decode jb_M_needle 59 = .ok (.iinc 5 1, 3) := by decide +kernel
theorem jd_M_needle_62 : decode jb_M_needle 62 = .ok (.goto (-24), 3) := by decide +kernel
theorem jd_M_needle_65 : decode jb_M_needle 65 = .ok (.iload 4, 2) := by decide +kernel
theorem jd_M_needle_67 : decode jb_M_needle 67 = .ok (.ifCond .ne 6, 3) := by decide +kernel
theorem jd_M_needle_70 : decode jb_M_needle 70 = .ok (.bipush (-4), 2) := by decide +kernel
theorem jd_M_needle_72 : decode jb_M_needle 72 = .ok (.ireturn, 1) := by decide +kernel
theorem jd_M_needle_73 : decode jb_M_needle 73 = .ok (.aload_n 0, 1) := by decide +kernel
theorem jd_M_needle_74 : decode jb_M_needle 74 = .ok (.iload_n 1, 1) := by decide +kernel
theorem jd_M_needle_75 : decode jb_M_needle 75 = .ok (.iload_n 2, 1) := by decide +kernel
theorem jd_M_needle_76 : decode jb_M_needle 76 = .ok (.invokevirtual 215, 3) := by decide +kernel
theorem jd_M_needle_79 : decode jb_M_needle 79 = .ok (.iload 4, 2) := by decide +kernel
theorem jd_M_needle_81 : decode jb_M_needle 81 = .ok (.invokestatic 218, 3) := by decide +kernel
theorem jd_M_needle_84 : decode jb_M_needle 84 = .ok (.istore 5, 2) := by decide +kernel
theorem jd_M_needle_86 : decode jb_M_needle 86 = .ok (.iload_n 3, 1) := by decide +kernel
theorem jd_M_needle_87 : decode jb_M_needle 87 = .ok (.ifCond .ne 15, 3) := by decide +kernel
theorem jd_M_needle_90 : decode jb_M_needle 90 = .ok (.aload_n 0, 1) := by decide +kernel
theorem jd_M_needle_91 : decode jb_M_needle 91 = .ok (.iload_n 1, 1) := by decide +kernel
theorem jd_M_needle_92 : decode jb_M_needle 92 = .ok (.iload_n 2, 1) := by decide +kernel
theorem jd_M_needle_93 : decode jb_M_needle 93 = .ok (.invokevirtual 215, 3) := by decide +kernel
theorem jd_M_needle_96 : decode jb_M_needle 96 = .ok (.iload 5, 2) := by decide +kernel
theorem jd_M_needle_98 : decode jb_M_needle 98 = .ok (.idiv, 1) := by decide +kernel
theorem jd_M_needle_99 : decode jb_M_needle 99 = .ok (.goto 8, 3) := by decide +kernel
theorem jd_M_needle_102 : decode jb_M_needle 102 = .ok (.iload 4, 2) := by decide +kernel
theorem jd_M_needle_104 : decode jb_M_needle 104 = .ok (.iload 5, 2) := by decide +kernel
theorem jd_M_needle_106 : decode jb_M_needle 106 = .ok (.idiv, 1) := by decide +kernel
theorem jd_M_needle_107 : decode jb_M_needle 107 = .ok (.ireturn, 1) := by decide +kernel
theorem jd_M_see_0 : decode jb_M_see 0 = .ok (.iload_n 1, 1) := by decide +kernel
theorem jd_M_see_1 : decode jb_M_see 1 = .ok (.i2l, 1) := by decide +kernel
theorem jd_M_see_2 : decode jb_M_see 2 = .ok (.lconst 0, 1) := by decide +kernel
theorem jd_M_see_3 : decode jb_M_see 3 = .ok (.ldc2_w 77, 3) := by decide +kernel
theorem jd_M_see_6 : decode jb_M_see 6 = .ok (.invokestatic 73, 3) := by decide +kernel
theorem jd_M_see_9 : decode jb_M_see 9 = .ok (.ifCond .eq 15, 3) := by decide +kernel
theorem jd_M_see_12 : decode jb_M_see 12 = .ok (.iload_n 2, 1) := by decide +kernel
theorem jd_M_see_13 : decode jb_M_see 13 = .ok (.i2l, 1) := by decide +kernel
theorem jd_M_see_14 : decode jb_M_see 14 = .ok (.lconst 0, 1) := by decide +kernel
theorem jd_M_see_15 : decode jb_M_see 15 = .ok (.ldc2_w 221, 3) := by decide +kernel
theorem jd_M_see_18 : decode jb_M_see 18 = .ok (.invokestatic 73, 3) := by decide +kernel
theorem jd_M_see_21 : decode jb_M_see 21 = .ok (.ifCond .ne 5, 3) := by decide +kernel
theorem jd_M_see_24 : decode jb_M_see 24 = .ok (.iconst (-1), 1) := by decide +kernel
theorem jd_M_see_25 : decode jb_M_see 25 = .ok (.ireturn, 1) := by decide +kernel
theorem jd_M_see_26 : decode jb_M_see 26 = .ok (.aload_n 0, 1) := by decide +kernel
theorem jd_M_see_27 : decode jb_M_see 27 = .ok (.getfield 140, 3) := by decide +kernel
theorem jd_M_see_30 : decode jb_M_see 30 = .ok (.bipush 6, 2) := by decide +kernel
theorem jd_M_see_32 : decode jb_M_see 32 = .ok (.if_icmp .ne 6, 3) := by decide +kernel
theorem jd_M_see_35 : decode jb_M_see 35 = .ok (.bipush (-3), 2) := by decide +kernel
theorem jd_M_see_37 : decode jb_M_see 37 = .ok (.ireturn, 1) := by decide +kernel
theorem jd_M_see_38 : decode jb_M_see 38 = .ok (.aload_n 0, 1) := by decide +kernel
theorem jd_M_see_39 : decode jb_M_see 39 = .ok (.getfield 52, 3) := by decide +kernel
theorem jd_M_see_42 : decode jb_M_see 42 = .ok (.aload_n 0, 1) := by decide +kernel
theorem jd_M_see_43 : decode jb_M_see 43 = .ok (.getfield 140, 3) := by decide +kernel
theorem jd_M_see_46 : decode jb_M_see 46 = .ok (.iload_n 1, 1) := by decide +kernel
theorem jd_M_see_47 : decode jb_M_see 47 = .ok (.iastore, 1) := by decide +kernel
theorem jd_M_see_48 : decode jb_M_see 48 = .ok (.aload_n 0, 1) := by decide +kernel
theorem jd_M_see_49 : decode jb_M_see 49 = .ok (.getfield 55, 3) := by decide +kernel
theorem jd_M_see_52 : decode jb_M_see 52 = .ok (.aload_n 0, 1) := by decide +kernel
theorem jd_M_see_53 : decode jb_M_see 53 = .ok (.getfield 140, 3) := by decide +kernel
theorem jd_M_see_56 : decode jb_M_see 56 = .ok (.iload_n 2, 1) := by decide +kernel
theorem jd_M_see_57 : decode jb_M_see 57 = .ok (.iastore, 1) := by decide +kernel
theorem jd_M_see_58 : decode jb_M_see 58 = .ok (.aload_n 0, 1) := by decide +kernel
theorem jd_M_see_59 : decode jb_M_see 59 = .ok (.dup, 1) := by decide +kernel
theorem jd_M_see_60 : decode jb_M_see 60 = .ok (.getfield 140, 3) := by decide +kernel
theorem jd_M_see_63 : decode jb_M_see 63 = .ok (.iconst 1, 1) := by decide +kernel
theorem jd_M_see_64 : decode jb_M_see 64 = .ok (.iadd, 1) := by decide +kernel
theorem jd_M_see_65 : decode jb_M_see 65 = .ok (.putfield 140, 3) := by decide +kernel
theorem jd_M_see_68 : decode jb_M_see 68 = .ok (.aload_n 0, 1) := by decide +kernel
theorem jd_M_see_69 : decode jb_M_see 69 = .ok (.getfield 140, 3) := by decide +kernel
theorem jd_M_see_72 : decode jb_M_see 72 = .ok (.ireturn, 1) := by decide +kernel
theorem jd_M_forget_0 : decode jb_M_forget 0 = .ok (.aload_n 0, 1) := by decide +kernel
theorem jd_M_forget_1 : decode jb_M_forget 1 = .ok (.getfield 140, 3) := by decide +kernel
theorem jd_M_forget_4 : decode jb_M_forget 4 = .ok (.istore_n 1, 1) := by decide +kernel
theorem jd_M_forget_5 : decode jb_M_forget 5 = .ok (.aload_n 0, 1) := by decide +kernel
theorem jd_M_forget_6 : decode jb_M_forget 6 = .ok (.iconst 0, 1) := by decide +kernel
theorem jd_M_forget_7 : decode jb_M_forget 7 = .ok (.putfield 140, 3) := by decide +kernel
theorem jd_M_forget_10 : decode jb_M_forget 10 = .ok (.iload_n 1, 1) := by decide +kernel
theorem jd_M_forget_11 : decode jb_M_forget 11 = .ok (.ireturn, 1) := by decide +kernel
theorem jd_M_which_0 : decode jb_M_which 0 = .ok (.iconst 0, 1) := by decide +kernel
theorem jd_M_which_1 : decode jb_M_which 1 = .ok (.istore_n 1, 1) := by decide +kernel
theorem jd_M_which_2 : decode jb_M_which 2 = .ok (.iconst 0, 1) := by decide +kernel
theorem jd_M_which_3 : decode jb_M_which 3 = .ok (.istore_n 2, 1) := by decide +kernel
theorem jd_M_which_4 : decode jb_M_which 4 = .ok (.iload_n 2, 1) := by decide +kernel
theorem jd_M_which_5 : decode jb_M_which 5 = .ok (.aload_n 0, 1) := by decide +kernel
theorem jd_M_which_6 : decode jb_M_which 6 = .ok (.getfield 124, 3) := by decide +kernel
theorem jd_M_which_9 : decode jb_M_which 9 = .ok (.if_icmp .ge 75, 3) := by decide +kernel
theorem jd_M_which_12 : decode jb_M_which 12 = .ok (.iconst 1, 1) := by decide +kernel
theorem jd_M_which_13 : decode jb_M_which 13 = .ok (.istore_n 3, 1) := by decide +kernel
theorem jd_M_which_14 : decode jb_M_which 14 = .ok (.iconst 0, 1) := by decide +kernel
theorem jd_M_which_15 : decode jb_M_which 15 = .ok (.istore 4, 2) := by decide +kernel
theorem jd_M_which_17 : decode jb_M_which 17 = .ok (.iload 4, 2) := by decide +kernel
theorem jd_M_which_19 : decode jb_M_which 19 = .ok (.aload_n 0, 1) := by decide +kernel
theorem jd_M_which_20 : decode jb_M_which 20 = .ok (.getfield 140, 3) := by decide +kernel
theorem jd_M_which_23 : decode jb_M_which 23 = .ok (.if_icmp .ge 41, 3) := by decide +kernel
theorem jd_M_which_26 : decode jb_M_which 26 = .ok (.iload_n 3, 1) := by decide +kernel
theorem jd_M_which_27 : decode jb_M_which 27 = .ok (.ifCond .eq 29, 3) := by decide +kernel
theorem jd_M_which_30 : decode jb_M_which 30 = .ok (.aload_n 0, 1) := by decide +kernel
theorem jd_M_which_31 : decode jb_M_which 31 = .ok (.iload_n 2, 1) := by decide +kernel
theorem jd_M_which_32 : decode jb_M_which 32 = .ok (.aload_n 0, 1) := by decide +kernel
theorem jd_M_which_33 : decode jb_M_which 33 = .ok (.getfield 55, 3) := by decide +kernel
theorem jd_M_which_36 : decode jb_M_which 36 = .ok (.iload 4, 2) := by decide +kernel
theorem jd_M_which_38 : decode jb_M_which 38 = .ok (.iaload, 1) := by decide +kernel
theorem jd_M_which_39 : decode jb_M_which 39 = .ok (.invokevirtual 153, 3) := by decide +kernel
theorem jd_M_which_42 : decode jb_M_which 42 = .ok (.aload_n 0, 1) := by decide +kernel
theorem jd_M_which_43 : decode jb_M_which 43 = .ok (.getfield 52, 3) := by decide +kernel
theorem jd_M_which_46 : decode jb_M_which 46 = .ok (.iload 4, 2) := by decide +kernel
theorem jd_M_which_48 : decode jb_M_which 48 = .ok (.iaload, 1) := by decide +kernel
theorem jd_M_which_49 : decode jb_M_which 49 = .ok (.if_icmp .ne 7, 3) := by decide +kernel
theorem jd_M_which_52 : decode jb_M_which 52 = .ok (.iconst 1, 1) := by decide +kernel
theorem jd_M_which_53 : decode jb_M_which 53 = .ok (.goto 4, 3) := by decide +kernel
theorem jd_M_which_56 : decode jb_M_which 56 = .ok (.iconst 0, 1) := by decide +kernel
theorem jd_M_which_57 : decode jb_M_which 57 = .ok (.istore_n 3, 1) := by decide +kernel
theorem jd_M_which_58 : decode jb_M_which 58 = .ok (.iinc 4 1, 3) := by decide +kernel
theorem jd_M_which_61 : decode jb_M_which 61 = .ok (.goto (-44), 3) := by decide +kernel
theorem jd_M_which_64 : decode jb_M_which 64 = .ok (.iload_n 1, 1) := by decide +kernel
theorem jd_M_which_65 : decode jb_M_which 65 = .ok (.iload_n 3, 1) := by decide +kernel
theorem jd_M_which_66 : decode jb_M_which 66 = .ok (.ifCond .eq 9, 3) := by decide +kernel
theorem jd_M_which_69 : decode jb_M_which 69 = .ok (.iconst 1, 1) := by decide +kernel
theorem jd_M_which_70 : decode jb_M_which 70 = .ok (.iload_n 2, 1) := by decide +kernel
theorem jd_M_which_71 : decode jb_M_which 71 = .ok (.ishl, 1) := by decide +kernel
theorem jd_M_which_72 : decode jb_M_which 72 = .ok (.goto 4, 3) := by decide +kernel
theorem jd_M_which_75 : decode jb_M_which 75 = .ok (.iconst 0, 1) := by decide +kernel
theorem jd_M_which_76 : decode jb_M_which 76 = .ok (.ior, 1) := by decide +kernel
theorem jd_M_which_77 : decode jb_M_which 77 = .ok (.istore_n 1, 1) := by decide +kernel
theorem jd_M_which_78 : decode jb_M_which 78 = .ok (.iinc 2 1, 3) := by decide +kernel
theorem jd_M_which_81 : decode jb_M_which 81 = .ok (.goto (-77), 3) := by decide +kernel
theorem jd_M_which_84 : decode jb_M_which 84 = .ok (.iload_n 1, 1) := by decide +kernel
theorem jd_M_which_85 : decode jb_M_which 85 = .ok (.ireturn, 1) := by decide +kernel
theorem jd_M_kinds_0 : decode jb_M_kinds 0 = .ok (.iload_n 1, 1) := by decide +kernel
theorem jd_M_kinds_1 : decode jb_M_kinds 1 = .ok (.i2l, 1) := by decide +kernel
theorem jd_M_kinds_2 : decode jb_M_kinds 2 = .ok (.lconst 0, 1) := by decide +kernel
theorem jd_M_kinds_3 : decode jb_M_kinds 3 = .ok (.ldc2_w 203, 3) := by decide +kernel
theorem jd_M_kinds_6 : decode jb_M_kinds 6 = .ok (.invokestatic 73, 3) := by decide +kernel
theorem jd_M_kinds_9 : decode jb_M_kinds 9 = .ok (.ifCond .eq 15, 3) := by decide +kernel
theorem jd_M_kinds_12 : decode jb_M_kinds 12 = .ok (.iload_n 2, 1) := by decide +kernel
theorem jd_M_kinds_13 : decode jb_M_kinds 13 = .ok (.i2l, 1) := by decide +kernel
theorem jd_M_kinds_14 : decode jb_M_kinds 14 = .ok (.lconst 0, 1) := by decide +kernel
theorem jd_M_kinds_15 : decode jb_M_kinds 15 = .ok (.ldc2_w 203, 3) := by decide +kernel
theorem jd_M_kinds_18 : decode jb_M_kinds 18 = .ok (.invokestatic 73, 3) := by decide +kernel
theorem jd_M_kinds_21 : decode jb_M_kinds 21 = .ok (.ifCond .ne 5, 3) := by decide +kernel
theorem jd_M_kinds_24 : decode jb_M_kinds 24 = .ok (.iconst (-1), 1) := by decide +kernel
theorem jd_M_kinds_25 : decode jb_M_kinds 25 = .ok (.ireturn, 1) := by decide +kernel
theorem jd_M_kinds_26 : decode jb_M_kinds 26 = .ok (.iconst 0, 1) := by decide +kernel
theorem jd_M_kinds_27 : decode jb_M_kinds 27 = .ok (.istore_n 3, 1) := by decide +kernel
theorem jd_M_kinds_28 : decode jb_M_kinds 28 = .ok (.iconst 0, 1) := by decide +kernel
theorem jd_M_kinds_29 : decode jb_M_kinds 29 = .ok (.istore 4, 2) := by decide +kernel
theorem jd_M_kinds_31 : decode jb_M_kinds 31 = .ok (.iload 4, 2) := by decide +kernel
theorem jd_M_kinds_33 : decode jb_M_kinds 33 = .ok (.iconst 3, 1) := by decide +kernel
theorem jd_M_kinds_34 : decode jb_M_kinds 34 = .ok (.if_icmp .gt 31, 3) := by decide +kernel
theorem jd_M_kinds_37 : decode jb_M_kinds 37 = .ok (.iload_n 3, 1) := by decide +kernel
theorem jd_M_kinds_38 : decode jb_M_kinds 38 = .ok (.iload 4, 2) := by decide +kernel
theorem jd_M_kinds_40 : decode jb_M_kinds 40 = .ok (.iload_n 1, 1) := by decide +kernel
theorem jd_M_kinds_41 : decode jb_M_kinds 41 = .ok (.iconst 0, 1) := by decide +kernel
theorem jd_M_kinds_42 : decode jb_M_kinds 42 = .ok (.invokestatic 194, 3) := by decide +kernel
theorem jd_M_kinds_45 : decode jb_M_kinds 45 = .ok (.iload_n 2, 1) := by decide +kernel
theorem jd_M_kinds_46 : decode jb_M_kinds 46 = .ok (.if_icmp .ne 10, 3) := by decide +kernel
theorem jd_M_kinds_49 : decode jb_M_kinds 49 = .ok (.iconst 1, 1) := by decide +kernel
theorem jd_M_kinds_50 : decode jb_M_kinds 50 = .ok (.iload 4, 2) := by decide +kernel
theorem jd_M_kinds_52 : decode jb_M_kinds 52 = .ok (.ishl, 1) := by decide +kernel
theorem jd_M_kinds_53 : decode jb_M_kinds 53 = .ok (.goto 4, 3) := by decide +kernel
theorem jd_M_kinds_56 : decode jb_M_kinds 56 = .ok (.iconst 0, 1) := by decide +kernel
theorem jd_M_kinds_57 : decode jb_M_kinds 57 = .ok (.ior, 1) := by decide +kernel
theorem jd_M_kinds_58 : decode jb_M_kinds 58 = .ok (.istore_n 3, 1) := by decide +kernel
theorem jd_M_kinds_59 : decode jb_M_kinds 59 = .ok (.iinc 4 1, 3) := by decide +kernel
theorem jd_M_kinds_62 : decode jb_M_kinds 62 = .ok (.goto (-31), 3) := by decide +kernel
theorem jd_M_kinds_65 : decode jb_M_kinds 65 = .ok (.iload_n 3, 1) := by decide +kernel
theorem jd_M_kinds_66 : decode jb_M_kinds 66 = .ok (.ireturn, 1) := by decide +kernel
theorem jd_M_rain_0 : decode jb_M_rain 0 = .ok (.aload_n 0, 1) := by decide +kernel
theorem jd_M_rain_1 : decode jb_M_rain 1 = .ok (.iload_n 1, 1) := by decide +kernel
theorem jd_M_rain_2 : decode jb_M_rain 2 = .ok (.invokevirtual 149, 3) := by decide +kernel
theorem jd_M_rain_5 : decode jb_M_rain 5 = .ok (.ifCond .eq 51, 3) := by decide +kernel
theorem jd_M_rain_8 : decode jb_M_rain 8 = .ok (.iload_n 2, 1) := by decide +kernel
theorem jd_M_rain_9 : decode jb_M_rain 9 = .ok (.i2l, 1) := by decide +kernel
theorem jd_M_rain_10 : decode jb_M_rain 10 = .ok (.lconst 0, 1) := by decide +kernel
theorem jd_M_rain_11 : decode jb_M_rain 11 = .ok (.ldc2_w 223, 3) := by decide +kernel
theorem jd_M_rain_14 : decode jb_M_rain 14 = .ok (.invokestatic 73, 3) := by decide +kernel
theorem jd_M_rain_17 : decode jb_M_rain 17 = .ok (.ifCond .eq 39, 3) := by decide +kernel
theorem jd_M_rain_20 : decode jb_M_rain 20 = .ok (.iload_n 3, 1) := by decide +kernel
theorem jd_M_rain_21 : decode jb_M_rain 21 = .ok (.i2l, 1) := by decide +kernel
theorem jd_M_rain_22 : decode jb_M_rain 22 = .ok (.lconst 0, 1) := by decide +kernel
theorem jd_M_rain_23 : decode jb_M_rain 23 = .ok (.ldc2_w 225, 3) := by decide +kernel
theorem jd_M_rain_26 : decode jb_M_rain 26 = .ok (.invokestatic 73, 3) := by decide +kernel
theorem jd_M_rain_29 : decode jb_M_rain 29 = .ok (.ifCond .eq 27, 3) := by decide +kernel
theorem jd_M_rain_32 : decode jb_M_rain 32 = .ok (.iload 4, 2) := by decide +kernel
theorem jd_M_rain_34 : decode jb_M_rain 34 = .ok (.i2l, 1) := by decide +kernel
theorem jd_M_rain_35 : decode jb_M_rain 35 = .ok (.lconst 0, 1) := by decide +kernel
theorem jd_M_rain_36 : decode jb_M_rain 36 = .ok (.ldc2_w 221, 3) := by decide +kernel
theorem jd_M_rain_39 : decode jb_M_rain 39 = .ok (.invokestatic 73, 3) := by decide +kernel
theorem jd_M_rain_42 : decode jb_M_rain 42 = .ok (.ifCond .eq 14, 3) := by decide +kernel
theorem jd_M_rain_45 : decode jb_M_rain 45 = .ok (.iload 5, 2) := by decide +kernel
theorem jd_M_rain_47 : decode jb_M_rain 47 = .ok (.i2l, 1) := by decide +kernel
theorem jd_M_rain_48 : decode jb_M_rain 48 = .ok (.lconst 0, 1) := by decide +kernel
theorem jd_M_rain_49 : decode jb_M_rain 49 = .ok (.lconst 1, 1) := by decide +kernel
theorem jd_M_rain_50 : decode jb_M_rain 50 = .ok (.invokestatic 73, 3) := by decide +kernel
theorem jd_M_rain_53 : decode jb_M_rain 53 = .ok (.ifCond .ne 5, 3) := by decide +kernel
theorem jd_M_rain_56 : decode jb_M_rain 56 = .ok (.iconst (-1), 1) := by decide +kernel
theorem jd_M_rain_57 : decode jb_M_rain 57 = .ok (.ireturn, 1) := by decide +kernel
theorem jd_M_rain_58 : decode jb_M_rain 58 = .ok (.iconst 0, 1) := by decide +kernel
theorem jd_M_rain_59 : decode jb_M_rain 59 = .ok (.istore 6, 2) := by decide +kernel
theorem jd_M_rain_61 : decode jb_M_rain 61 = .ok (.iconst 1, 1) := by decide +kernel
theorem jd_M_rain_62 : decode jb_M_rain 62 = .ok (.istore 7, 2) := by decide +kernel
theorem jd_M_rain_64 : decode jb_M_rain 64 = .ok (.iconst 0, 1) := by decide +kernel
theorem jd_M_rain_65 : decode jb_M_rain 65 = .ok (.istore 8, 2) := by decide +kernel
theorem jd_M_rain_67 : decode jb_M_rain 67 = .ok (.iload 8, 2) := by decide +kernel
theorem jd_M_rain_69 : decode jb_M_rain 69 = .ok (.iload_n 2, 1) := by decide +kernel
theorem jd_M_rain_70 : decode jb_M_rain 70 = .ok (.if_icmp .ge 16, 3) := by decide +kernel
theorem jd_M_rain_73 : decode jb_M_rain 73 = .ok (.iload 7, 2) := by decide +kernel
theorem jd_M_rain_75 : decode jb_M_rain 75 = .ok (.bipush 10, 2) := by decide +kernel
theorem jd_M_rain_77 : decode jb_M_rain 77 = .ok (.imul, 1) := by decide +kernel
theorem jd_M_rain_78 : decode jb_M_rain 78 = .ok (.istore 7, 2) := by decide +kernel
theorem jd_M_rain_80 : decode jb_M_rain 80 = .ok (.iinc 8 1, 3) := by decide +kernel
theorem jd_M_rain_83 : decode jb_M_rain 83 = .ok (.goto (-16), 3) := by decide +kernel
theorem jd_M_rain_86 : decode jb_M_rain 86 = .ok (.iconst 0, 1) := by decide +kernel
theorem jd_M_rain_87 : decode jb_M_rain 87 = .ok (.istore 8, 2) := by decide +kernel
theorem jd_M_rain_89 : decode jb_M_rain 89 = .ok (.iload 8, 2) := by decide +kernel
theorem jd_M_rain_91 : decode jb_M_rain 91 = .ok (.iconst 1, 1) := by decide +kernel
theorem jd_M_rain_92 : decode jb_M_rain 92 = .ok (.iload_n 2, 1) := by decide +kernel
theorem jd_M_rain_93 : decode jb_M_rain 93 = .ok (.ishl, 1) := by decide +kernel
theorem jd_M_rain_94 : decode jb_M_rain 94 = .ok (.if_icmp .ge 116, 3) := by decide +kernel
theorem jd_M_rain_97 : decode jb_M_rain 97 = .ok (.iconst 1, 1) := by decide +kernel
theorem jd_M_rain_98 : decode jb_M_rain 98 = .ok (.istore 9, 2) := by decide +kernel
theorem jd_M_rain_100 : decode jb_M_rain 100 = .ok (.aload_n 0, 1) := by decide +kernel
theorem jd_M_rain_101 : decode jb_M_rain 101 = .ok (.getfield 43, 3) := by decide +kernel
theorem jd_M_rain_104 : decode jb_M_rain 104 = .ok (.bipush 6, 2) := by decide +kernel
theorem jd_M_rain_106 : decode jb_M_rain 106 = .ok (.iload_n 1, 1) := by decide +kernel
theorem jd_M_rain_107 : decode jb_M_rain 107 = .ok (.iadd, 1) := by decide +kernel
theorem jd_M_rain_108 : decode jb_M_rain 108 = .ok (.iaload, 1) := by decide +kernel
theorem jd_M_rain_109 : decode jb_M_rain 109 = .ok (.istore 10, 2) := by decide +kernel
theorem jd_M_rain_111 : decode jb_M_rain 111 = .ok (.iconst 0, 1) := by decide +kernel
theorem jd_M_rain_112 : decode jb_M_rain 112 = .ok (.istore 11, 2) := by decide +kernel
theorem jd_M_rain_114 : decode jb_M_rain 114 = .ok (.iload 11, 2) := by decide +kernel
theorem jd_M_rain_116 : decode jb_M_rain 116 = .ok (.iload_n 2, 1) := by decide +kernel
theorem jd_M_rain_117 : decode jb_M_rain 117 = .ok (.if_icmp .ge 69, 3) := by decide +kernel
theorem jd_M_rain_120 : decode jb_M_rain 120 = .ok (.iload 9, 2) := by decide +kernel
theorem jd_M_rain_122 : decode jb_M_rain 122 = .ok (.iload 8, 2) := by decide +kernel
theorem jd_M_rain_124 : decode jb_M_rain 124 = .ok (.iload 11, 2) := by decide +kernel
theorem jd_M_rain_126 : decode jb_M_rain 126 = .ok (.invokestatic 212, 3) := by decide +kernel
theorem jd_M_rain_129 : decode jb_M_rain 129 = .ok (.ifCond .eq 7, 3) := by decide +kernel
theorem jd_M_rain_132 : decode jb_M_rain 132 = .ok (.iload_n 3, 1) := by decide +kernel
theorem jd_M_rain_133 : decode jb_M_rain 133 = .ok (.goto 7, 3) := by decide +kernel
theorem jd_M_rain_136 : decode jb_M_rain 136 = .ok (.bipush 10, 2) := by decide +kernel
theorem jd_M_rain_138 : decode jb_M_rain 138 = .ok (.iload_n 3, 1) := by decide +kernel
theorem jd_M_rain_139 : decode jb_M_rain 139 = .ok (.isub, 1) := by decide +kernel
theorem jd_M_rain_140 : decode jb_M_rain 140 = .ok (.imul, 1) := by decide +kernel
theorem jd_M_rain_141 : decode jb_M_rain 141 = .ok (.istore 9, 2) := by decide +kernel
theorem jd_M_rain_143 : decode jb_M_rain 143 = .ok (.aload_n 0, 1) := by decide +kernel
theorem jd_M_rain_144 : decode jb_M_rain 144 = .ok (.iload 10, 2) := by decide +kernel
theorem jd_M_rain_146 : decode jb_M_rain 146 = .ok (.aload_n 0, 1) := by decide +kernel
theorem jd_M_rain_147 : decode jb_M_rain 147 = .ok (.aload_n 0, 1) := by decide +kernel
theorem jd_M_rain_148 : decode jb_M_rain 148 = .ok (.getfield 43, 3) := by decide +kernel
theorem jd_M_rain_151 : decode jb_M_rain 151 = .ok (.iconst 0, 1) := by decide +kernel
theorem jd_M_rain_152 : decode jb_M_rain 152 = .ok (.iaload, 1) := by decide +kernel
theorem jd_M_rain_153 : decode jb_M_rain 153 = .ok (.iload 11, 2) := by decide +kernel
theorem jd_M_rain_155 : decode jb_M_rain 155 = .ok (.iadd, 1) := by decide +kernel
theorem jd_M_rain_156 : decode jb_M_rain 156 = .ok (.invokevirtual 170, 3) := by decide +kernel
theorem jd_M_rain_159 : decode jb_M_rain 159 = .ok (.iload 8, 2) := by decide +kernel
theorem jd_M_rain_161 : decode jb_M_rain 161 = .ok (.iload 11, 2) := by decide +kernel
theorem jd_M_rain_163 : decode jb_M_rain 163 = .ok (.invokestatic 212, 3) := by decide +kernel
theorem jd_M_rain_166 : decode jb_M_rain 166 = .ok (.ifCond .eq 7, 3) := by decide +kernel
theorem jd_M_rain_169 : decode jb_M_rain 169 = .ok (.iconst 3, 1) := by decide +kernel
theorem jd_M_rain_170 : decode jb_M_rain 170 = .ok (.goto 4, 3) := by decide +kernel
theorem jd_M_rain_173 : decode jb_M_rain 173 = .ok (.iconst 0, 1) := by decide +kernel
theorem jd_M_rain_174 : decode jb_M_rain 174 = .ok (.iadd, 1) := by decide +kernel
theorem jd_M_rain_175 : decode jb_M_rain 175 = .ok (.invokevirtual 173, 3) := by decide +kernel
theorem jd_M_rain_178 : decode jb_M_rain 178 = .ok (.istore 10, 2) := by decide +kernel
theorem jd_M_rain_180 : decode jb_M_rain 180 = .ok (.iinc 11 1, 3) := by decide +kernel
theorem jd_M_rain_183 : decode jb_M_rain 183 = .ok (.goto (-69), 3) := by decide +kernel
theorem jd_M_rain_186 : decode jb_M_rain 186 = .ok (.iload 6, 2) := by decide +kernel
theorem jd_M_rain_188 : decode jb_M_rain 188 = .ok (.iload 10, 2) := by decide +kernel
theorem jd_M_rain_190 : decode jb_M_rain 190 = .ok (.iload 4, 2) := by decide +kernel
theorem jd_M_rain_192 : decode jb_M_rain 192 = .ok (.if_icmp .lt 8, 3) := by decide +kernel
theorem jd_M_rain_195 : decode jb_M_rain 195 = .ok (.iload 9, 2) := by decide +kernel
theorem jd_M_rain_197 : decode jb_M_rain 197 = .ok (.goto 4, 3) := by decide +kernel
theorem jd_M_rain_200 : decode jb_M_rain 200 = .ok (.iconst 0, 1) := by decide +kernel
theorem jd_M_rain_201 : decode jb_M_rain 201 = .ok (.iadd, 1) := by decide +kernel
theorem jd_M_rain_202 : decode jb_M_rain 202 = .ok (.istore 6, 2) := by decide +kernel
theorem jd_M_rain_204 : decode jb_M_rain 204 = .ok (.iinc 8 1, 3) := by decide +kernel
theorem jd_M_rain_207 : decode jb_M_rain 207 = .ok (.goto (-118), 3) := by decide +kernel
theorem jd_M_rain_210 : decode jb_M_rain 210 = .ok (.iload 6, 2) := by decide +kernel
theorem jd_M_rain_212 : decode jb_M_rain 212 = .ok (.iload 7, 2) := by decide +kernel
theorem jd_M_rain_214 : decode jb_M_rain 214 = .ok (.invokestatic 218, 3) := by decide +kernel
theorem jd_M_rain_217 : decode jb_M_rain 217 = .ok (.istore 8, 2) := by decide +kernel
theorem jd_M_rain_219 : decode jb_M_rain 219 = .ok (.iload 5, 2) := by decide +kernel
theorem jd_M_rain_221 : decode jb_M_rain 221 = .ok (.ifCond .ne 11, 3) := by decide +kernel
theorem jd_M_rain_224 : decode jb_M_rain 224 = .ok (.iload 6, 2) := by decide +kernel
theorem jd_M_rain_226 : decode jb_M_rain 226 = .ok (.iload 8, 2) := by decide +kernel
theorem jd_M_rain_228 : decode jb_M_rain 228 = .ok (.idiv, 1) := by decide +kernel
theorem jd_M_rain_229 : decode jb_M_rain 229 = .ok (.goto 8, 3) := by decide +kernel
theorem jd_M_rain_232 : decode jb_M_rain 232 = .ok (.iload 7, 2) := by decide +kernel
theorem jd_M_rain_234 : decode jb_M_rain 234 = .ok (.iload 8, 2) := by decide +kernel
theorem jd_M_rain_236 : decode jb_M_rain 236 = .ok (.idiv, 1) := by decide +kernel
theorem jd_M_rain_237 : decode jb_M_rain 237 = .ok (.ireturn, 1) := by decide +kernel
theorem jd_M_allOf_0 : decode jb_M_allOf 0 = .ok (.iconst 0, 1) := by decide +kernel
theorem jd_M_allOf_1 : decode jb_M_allOf 1 = .ok (.istore_n 3, 1) := by decide +kernel
theorem jd_M_allOf_2 : decode jb_M_allOf 2 = .ok (.iconst 0, 1) := by decide +kernel
theorem jd_M_allOf_3 : decode jb_M_allOf 3 = .ok (.istore 4, 2) := by decide +kernel
theorem jd_M_allOf_5 : decode jb_M_allOf 5 = .ok (.iload 4, 2) := by decide +kernel
theorem jd_M_allOf_7 : decode jb_M_allOf 7 = .ok (.iload_n 2, 1) := by decide +kernel
theorem jd_M_allOf_8 : decode jb_M_allOf 8 = .ok (.if_icmp .ge 21, 3) := by decide +kernel
theorem jd_M_allOf_11 : decode jb_M_allOf 11 = .ok (.iload_n 3, 1) := by decide +kernel
theorem jd_M_allOf_12 : decode jb_M_allOf 12 = .ok (.aload_n 0, 1) := by decide +kernel
theorem jd_M_allOf_13 : decode jb_M_allOf 13 = .ok (.getfield 43, 3) := by decide +kernel
theorem jd_M_allOf_16 : decode jb_M_allOf 16 = .ok (.iload_n 1, 1) := by decide +kernel
theorem jd_M_allOf_17 : decode jb_M_allOf 17 = .ok (.iload 4, 2) := by decide +kernel
theorem jd_M_allOf_19 : decode jb_M_allOf 19 = .ok (.iadd, 1) := by decide +kernel
theorem jd_M_allOf_20 : decode jb_M_allOf 20 = .ok (.iaload, 1) := by decide +kernel
theorem jd_M_allOf_21 : decode jb_M_allOf 21 = .ok (.iadd, 1) := by decide +kernel
theorem jd_M_allOf_22 : decode jb_M_allOf 22 = .ok (.istore_n 3, 1) := by decide +kernel
theorem jd_M_allOf_23 : decode jb_M_allOf 23 = .ok (.iinc 4 1, 3) := by decide +kernel
theorem jd_M_allOf_26 : decode jb_M_allOf 26 = .ok (.goto (-21), 3) := by decide +kernel
theorem jd_M_allOf_29 : decode jb_M_allOf 29 = .ok (.iload_n 3, 1) := by decide +kernel
theorem jd_M_allOf_30 : decode jb_M_allOf 30 = .ok (.ireturn, 1) := by decide +kernel
theorem jd_M_draw_0 : decode jb_M_draw 0 = .ok (.iload_n 1, 1) := by decide +kernel
theorem jd_M_draw_1 : decode jb_M_draw 1 = .ok (.bipush 8, 2) := by decide +kernel
theorem jd_M_draw_3 : decode jb_M_draw 3 = .ok (.irem, 1) := by decide +kernel
theorem jd_M_draw_4 : decode jb_M_draw 4 = .ok (.istore_n 2, 1) := by decide +kernel
theorem jd_M_draw_5 : decode jb_M_draw 5 = .ok (.iload_n 1, 1) := by decide +kernel
theorem jd_M_draw_6 : decode jb_M_draw 6 = .ok (.bipush 64, 2) := by decide +kernel
theorem jd_M_draw_8 : decode jb_M_draw 8 = .ok (.idiv, 1) := by decide +kernel
theorem jd_M_draw_9 : decode jb_M_draw 9 = .ok (.aload_n 0, 1) := by decide +kernel
theorem jd_M_draw_10 : decode jb_M_draw 10 = .ok (.getfield 130, 3) := by decide +kernel
theorem jd_M_draw_13 : decode jb_M_draw 13 = .ok (.irem, 1) := by decide +kernel
theorem jd_M_draw_14 : decode jb_M_draw 14 = .ok (.istore_n 3, 1) := by decide +kernel
theorem jd_M_draw_15 : decode jb_M_draw 15 = .ok (.iload_n 1, 1) := by decide +kernel
theorem jd_M_draw_16 : decode jb_M_draw 16 = .ok (.bipush 8, 2) := by decide +kernel
theorem jd_M_draw_18 : decode jb_M_draw 18 = .ok (.idiv, 1) := by decide +kernel
theorem jd_M_draw_19 : decode jb_M_draw 19 = .ok (.aload_n 0, 1) := by decide +kernel
theorem jd_M_draw_20 : decode jb_M_draw 20 = .ok (.getfield 124, 3) := by decide +kernel
theorem jd_M_draw_23 : decode jb_M_draw 23 = .ok (.irem, 1) := by decide +kernel
theorem jd_M_draw_24 : decode jb_M_draw 24 = .ok (.istore 4, 2) := by decide +kernel
theorem jd_M_draw_26 : decode jb_M_draw 26 = .ok (.iload_n 2, 1) := by decide +kernel
theorem jd_M_draw_27 : decode jb_M_draw 27 = .ok (.iconst 2, 1) := by decide +kernel
theorem jd_M_draw_28 : decode jb_M_draw 28 = .ok (.if_icmp .ge 38, 3) := by decide +kernel
theorem jd_M_draw_31 : decode jb_M_draw 31 = .ok (.aload_n 0, 1) := by decide +kernel
theorem jd_M_draw_32 : decode jb_M_draw 32 = .ok (.iconst 0, 1) := by decide +kernel
theorem jd_M_draw_33 : decode jb_M_draw 33 = .ok (.iload 4, 2) := by decide +kernel
theorem jd_M_draw_35 : decode jb_M_draw 35 = .ok (.invokevirtual 184, 3) := by decide +kernel
theorem jd_M_draw_38 : decode jb_M_draw 38 = .ok (.ifCond .eq 28, 3) := by decide +kernel
theorem jd_M_draw_41 : decode jb_M_draw 41 = .ok (.aload_n 0, 1) := by decide +kernel
theorem jd_M_draw_42 : decode jb_M_draw 42 = .ok (.getfield 43, 3) := by decide +kernel
theorem jd_M_draw_45 : decode jb_M_draw 45 = .ok (.bipush 15, 2) := by decide +kernel
theorem jd_M_draw_47 : decode jb_M_draw 47 = .ok (.iload_n 3, 1) := by decide +kernel
theorem jd_M_draw_48 : decode jb_M_draw 48 = .ok (.iadd, 1) := by decide +kernel
theorem jd_M_draw_49 : decode jb_M_draw 49 = .ok (.iaload, 1) := by decide +kernel
theorem jd_M_draw_50 : decode jb_M_draw 50 = .ok (.bipush 8, 2) := by decide +kernel
theorem jd_M_draw_52 : decode jb_M_draw 52 = .ok (.if_icmp .ge 14, 3) := by decide +kernel
theorem jd_M_draw_55 : decode jb_M_draw 55 = .ok (.aload_n 0, 1) := by decide +kernel
theorem jd_M_draw_56 : decode jb_M_draw 56 = .ok (.iconst 0, 1) := by decide +kernel
theorem jd_M_draw_57 : decode jb_M_draw 57 = .ok (.iload 4, 2) := by decide +kernel
theorem jd_M_draw_59 : decode jb_M_draw 59 = .ok (.iload_n 3, 1) := by decide +kernel
theorem jd_M_draw_60 : decode jb_M_draw 60 = .ok (.invokevirtual 187, 3) := by decide +kernel
theorem jd_M_draw_63 : decode jb_M_draw 63 = .ok (.goto 59, 3) := by decide +kernel
theorem jd_M_draw_66 : decode jb_M_draw 66 = .ok (.iload_n 2, 1) := by decide +kernel
theorem jd_M_draw_67 : decode jb_M_draw 67 = .ok (.iconst 2, 1) := by decide +kernel
theorem jd_M_draw_68 : decode jb_M_draw 68 = .ok (.if_icmp .eq 8, 3) := by decide +kernel
theorem jd_M_draw_71 : decode jb_M_draw 71 = .ok (.iload_n 2, 1) := by decide +kernel
theorem jd_M_draw_72 : decode jb_M_draw 72 = .ok (.iconst 3, 1) := by decide +kernel
theorem jd_M_draw_73 : decode jb_M_draw 73 = .ok (.if_icmp .ne 33, 3) := by decide +kernel
theorem jd_M_draw_76 : decode jb_M_draw 76 = .ok (.aload_n 0, 1) := by decide +kernel
theorem jd_M_draw_77 : decode jb_M_draw 77 = .ok (.getfield 43, 3) := by decide +kernel
theorem jd_M_draw_80 : decode jb_M_draw 80 = .ok (.bipush 15, 2) := by decide +kernel
theorem jd_M_draw_82 : decode jb_M_draw 82 = .ok (.iload_n 3, 1) := by decide +kernel
theorem jd_M_draw_83 : decode jb_M_draw 83 = .ok (.iadd, 1) := by decide +kernel
theorem jd_M_draw_84 : decode jb_M_draw 84 = .ok (.iaload, 1) := by decide +kernel
theorem jd_M_draw_85 : decode jb_M_draw 85 = .ok (.ifCond .le 21, 3) := by decide +kernel
theorem jd_M_draw_88 : decode jb_M_draw 88 = .ok (.aload_n 0, 1) := by decide +kernel
theorem jd_M_draw_89 : decode jb_M_draw 89 = .ok (.iload_n 3, 1) := by decide +kernel
theorem jd_M_draw_90 : decode jb_M_draw 90 = .ok (.iload_n 1, 1) := by decide +kernel
theorem jd_M_draw_91 : decode jb_M_draw 91 = .ok (.bipush 8, 2) := by decide +kernel
theorem jd_M_draw_93 : decode jb_M_draw 93 = .ok (.idiv, 1) := by decide +kernel
theorem jd_M_draw_94 : decode jb_M_draw 94 = .ok (.aload_n 0, 1) := by decide +kernel
theorem jd_M_draw_95 : decode jb_M_draw 95 = .ok (.getfield 127, 3) := by decide +kernel
theorem jd_M_draw_98 : decode jb_M_draw 98 = .ok (.irem, 1) := by decide +kernel
theorem jd_M_draw_99 : decode jb_M_draw 99 = .ok (.invokevirtual 198, 3) := by decide +kernel
theorem jd_M_draw_102 : decode jb_M_draw 102 = .ok (.pop, 1) := by decide +kernel
theorem jd_M_draw_103 : decode jb_M_draw 103 = .ok (.goto 19, 3) := by decide +kernel
theorem jd_M_draw_106 : decode jb_M_draw 106 = .ok (.iload_n 2, 1) := by decide +kernel
theorem jd_M_draw_107 : decode jb_M_draw 107 = .ok (.iconst 4, 1) := by decide +kernel
theorem jd_M_draw_108 : decode jb_M_draw 108 = .ok (.if_icmp .ne 14, 3) := by decide +kernel
theorem jd_M_draw_111 : decode jb_M_draw 111 = .ok (.aload_n 0, 1) := by decide +kernel
theorem jd_M_draw_112 : decode jb_M_draw 112 = .ok (.getfield 43, 3) := by decide +kernel
theorem jd_M_draw_115 : decode jb_M_draw 115 = .ok (.bipush 6, 2) := by decide +kernel
theorem jd_M_draw_117 : decode jb_M_draw 117 = .ok (.iload 4, 2) := by decide +kernel
theorem jd_M_draw_119 : decode jb_M_draw 119 = .ok (.iadd, 1) := by decide +kernel
theorem jd_M_draw_120 : decode jb_M_draw 120 = .ok (.iconst 0, 1) := by decide +kernel
theorem jd_M_draw_121 : decode jb_M_draw 121 = .ok (.iastore, 1) := by decide +kernel
theorem jd_M_draw_122 : decode jb_M_draw 122 = .ok (.return_, 1) := by decide +kernel
theorem jd_M_allTold_0 : decode jb_M_allTold 0 = .ok (.iconst 0, 1) := by decide +kernel
theorem jd_M_allTold_1 : decode jb_M_allTold 1 = .ok (.istore_n 1, 1) := by decide +kernel
theorem jd_M_allTold_2 : decode jb_M_allTold 2 = .ok (.iconst 0, 1) := by decide +kernel
theorem jd_M_allTold_3 : decode jb_M_allTold 3 = .ok (.istore_n 2, 1) := by decide +kernel
theorem jd_M_allTold_4 : decode jb_M_allTold 4 = .ok (.iload_n 2, 1) := by decide +kernel
theorem jd_M_allTold_5 : decode jb_M_allTold 5 = .ok (.aload_n 0, 1) := by decide +kernel
theorem jd_M_allTold_6 : decode jb_M_allTold 6 = .ok (.getfield 127, 3) := by decide +kernel
theorem jd_M_allTold_9 : decode jb_M_allTold 9 = .ok (.if_icmp .ge 24, 3) := by decide +kernel
theorem jd_M_allTold_12 : decode jb_M_allTold 12 = .ok (.iload_n 1, 1) := by decide +kernel
theorem jd_M_allTold_13 : decode jb_M_allTold 13 = .ok (.aload_n 0, 1) := by decide +kernel
theorem jd_M_allTold_14 : decode jb_M_allTold 14 = .ok (.getfield 43, 3) := by decide +kernel
theorem jd_M_allTold_17 : decode jb_M_allTold 17 = .ok (.bipush 11, 2) := by decide +kernel
theorem jd_M_allTold_19 : decode jb_M_allTold 19 = .ok (.iload_n 2, 1) := by decide +kernel
theorem jd_M_allTold_20 : decode jb_M_allTold 20 = .ok (.iadd, 1) := by decide +kernel
theorem jd_M_allTold_21 : decode jb_M_allTold 21 = .ok (.iaload, 1) := by decide +kernel
theorem jd_M_allTold_22 : decode jb_M_allTold 22 = .ok (.invokestatic 209, 3) := by decide +kernel
theorem jd_M_allTold_25 : decode jb_M_allTold 25 = .ok (.iadd, 1) := by decide +kernel
theorem jd_M_allTold_26 : decode jb_M_allTold 26 = .ok (.istore_n 1, 1) := by decide +kernel
theorem jd_M_allTold_27 : decode jb_M_allTold 27 = .ok (.iinc 2 1, 3) := by decide +kernel
theorem jd_M_allTold_30 : decode jb_M_allTold 30 = .ok (.goto (-26), 3) := by decide +kernel
theorem jd_M_allTold_33 : decode jb_M_allTold 33 = .ok (.iload_n 1, 1) := by decide +kernel
theorem jd_M_allTold_34 : decode jb_M_allTold 34 = .ok (.ireturn, 1) := by decide +kernel
theorem jd_M_february_0 : decode jb_M_february 0 = .ok (.iload_n 1, 1) := by decide +kernel
theorem jd_M_february_1 : decode jb_M_february 1 = .ok (.i2l, 1) := by decide +kernel
theorem jd_M_february_2 : decode jb_M_february 2 = .ok (.lconst 0, 1) := by decide +kernel
theorem jd_M_february_3 : decode jb_M_february 3 = .ok (.ldc2_w 227, 3) := by decide +kernel
theorem jd_M_february_6 : decode jb_M_february 6 = .ok (.invokestatic 73, 3) := by decide +kernel
theorem jd_M_february_9 : decode jb_M_february 9 = .ok (.ifCond .eq 27, 3) := by decide +kernel
theorem jd_M_february_12 : decode jb_M_february 12 = .ok (.iload_n 2, 1) := by decide +kernel
theorem jd_M_february_13 : decode jb_M_february 13 = .ok (.i2l, 1) := by decide +kernel
theorem jd_M_february_14 : decode jb_M_february 14 = .ok (.lconst 1, 1) := by decide +kernel
theorem jd_M_february_15 : decode jb_M_february 15 = .ok (.ldc2_w 229, 3) := by decide +kernel
theorem jd_M_february_18 : decode jb_M_february 18 = .ok (.invokestatic 73, 3) := by decide +kernel
theorem jd_M_february_21 : decode jb_M_february 21 = .ok (.ifCond .eq 15, 3) := by decide +kernel
theorem jd_M_february_24 : decode jb_M_february 24 = .ok (.iload_n 3, 1) := by decide +kernel
theorem jd_M_february_25 : decode jb_M_february 25 = .ok (.i2l, 1) := by decide +kernel
theorem jd_M_february_26 : decode jb_M_february 26 = .ok (.lconst 0, 1) := by decide +kernel
theorem jd_M_february_27 : decode jb_M_february 27 = .ok (.ldc2_w 81, 3) := by decide +kernel
theorem jd_M_february_30 : decode jb_M_february 30 = .ok (.invokestatic 73, 3) := by decide +kernel
theorem jd_M_february_33 : decode jb_M_february 33 = .ok (.ifCond .ne 5, 3) := by decide +kernel
theorem jd_M_february_36 : decode jb_M_february 36 = .ok (.iconst (-1), 1) := by decide +kernel
theorem jd_M_february_37 : decode jb_M_february 37 = .ok (.ireturn, 1) := by decide +kernel
theorem jd_M_february_38 : decode jb_M_february 38 = .ok (.aload_n 0, 1) := by decide +kernel
theorem jd_M_february_39 : decode jb_M_february 39 = .ok (.getfield 49, 3) := by decide +kernel
theorem jd_M_february_42 : decode jb_M_february 42 = .ok (.aload_n 0, 1) := by decide +kernel
theorem jd_M_february_43 : decode jb_M_february 43 = .ok (.getfield 43, 3) := by decide +kernel
theorem jd_M_february_46 : decode jb_M_february 46 = .ok (.invokestatic 136, 3) := by decide +kernel
theorem jd_M_february_49 : decode jb_M_february 49 = .ok (.aload_n 0, 1) := by decide +kernel
theorem jd_M_february_50 : decode jb_M_february 50 = .ok (.bipush 18, 2) := by decide +kernel
theorem jd_M_february_52 : decode jb_M_february 52 = .ok (.iconst 3, 1) := by decide +kernel
theorem jd_M_february_53 : decode jb_M_february 53 = .ok (.invokevirtual 231, 3) := by decide +kernel
theorem jd_M_february_56 : decode jb_M_february 56 = .ok (.istore 4, 2) := by decide +kernel
theorem jd_M_february_58 : decode jb_M_february 58 = .ok (.iconst 0, 1) := by decide +kernel
theorem jd_M_february_59 : decode jb_M_february 59 = .ok (.istore 5, 2) := by decide +kernel
theorem jd_M_february_61 : decode jb_M_february 61 = .ok (.iload 5, 2) := by decide +kernel
theorem jd_M_february_63 : decode jb_M_february 63 = .ok (.iload_n 2, 1) := by decide +kernel
theorem jd_M_february_64 : decode jb_M_february 64 = .ok (.if_icmp .ge 45, 3) := by decide +kernel
theorem jd_M_february_67 : decode jb_M_february 67 = .ok (.ldc2_w 234, 3) := by decide +kernel
theorem jd_M_february_70 : decode jb_M_february 70 = .ok (.iload_n 1, 1) := by decide +kernel
theorem jd_M_february_71 : decode jb_M_february 71 = .ok (.i2l, 1) := by decide +kernel
theorem jd_M_february_72 : decode jb_M_february 72 = .ok (.lmul, 1) := by decide +kernel
theorem jd_M_february_73 : decode jb_M_february 73 = .ok (.ldc2_w 236, 3) := by decide +kernel
theorem jd_M_february_76 : decode jb_M_february 76 = .ok (.iload 5, 2) := by decide +kernel
theorem jd_M_february_78 : decode jb_M_february 78 = .ok (.i2l, 1) := by decide +kernel
theorem jd_M_february_79 : decode jb_M_february 79 = .ok (.lmul, 1) := by decide +kernel
theorem jd_M_february_80 : decode jb_M_february 80 = .ok (.ladd, 1) := by decide +kernel
theorem jd_M_february_81 : decode jb_M_february 81 = .ok (.lconst 1, 1) := by decide +kernel
theorem jd_M_february_82 : decode jb_M_february 82 = .ok (.ladd, 1) := by decide +kernel
theorem jd_M_february_83 : decode jb_M_february 83 = .ok (.lstore 6, 2) := by decide +kernel
theorem jd_M_february_85 : decode jb_M_february 85 = .ok (.aload_n 0, 1) := by decide +kernel
theorem jd_M_february_86 : decode jb_M_february 86 = .ok (.lload 6, 2) := by decide +kernel
theorem jd_M_february_88 : decode jb_M_february 88 = .ok (.lload 6, 2) := by decide +kernel
theorem jd_M_february_90 : decode jb_M_february 90 = .ok (.lmul, 1) := by decide +kernel
theorem jd_M_february_91 : decode jb_M_february 91 = .ok (.ldc2_w 238, 3) := by decide +kernel
theorem jd_M_february_94 : decode jb_M_february 94 = .ok (.lrem, 1) := by decide +kernel
theorem jd_M_february_95 : decode jb_M_february 95 = .ok (.l2i, 1) := by decide +kernel
theorem jd_M_february_96 : decode jb_M_february 96 = .ok (.invokevirtual 240, 3) := by decide +kernel
theorem jd_M_february_99 : decode jb_M_february 99 = .ok (.aload_n 0, 1) := by decide +kernel
theorem jd_M_february_100 : decode jb_M_february 100 = .ok (.invokevirtual 181, 3) := by decide +kernel
theorem jd_M_february_103 : decode jb_M_february 103 = .ok (.iinc 5 1, 3) := by decide +kernel
theorem jd_M_february_106 : decode jb_M_february 106 = .ok (.goto (-45), 3) := by decide +kernel
theorem jd_M_february_109 : decode jb_M_february 109 = .ok (.iload_n 3, 1) := by decide +kernel
theorem jd_M_february_110 : decode jb_M_february 110 = .ok (.ifCond .ne 10, 3) := by decide +kernel
theorem jd_M_february_113 : decode jb_M_february 113 = .ok (.aload_n 0, 1) := by decide +kernel
theorem jd_M_february_114 : decode jb_M_february 114 = .ok (.invokevirtual 243, 3) := by decide +kernel
theorem jd_M_february_117 : decode jb_M_february 117 = .ok (.goto 28, 3) := by decide +kernel
theorem jd_M_february_120 : decode jb_M_february 120 = .ok (.iload_n 3, 1) := by decide +kernel
theorem jd_M_february_121 : decode jb_M_february 121 = .ok (.iconst 1, 1) := by decide +kernel
theorem jd_M_february_122 : decode jb_M_february 122 = .ok (.if_icmp .ne 13, 3) := by decide +kernel
theorem jd_M_february_125 : decode jb_M_february 125 = .ok (.aload_n 0, 1) := by decide +kernel
theorem jd_M_february_126 : decode jb_M_february 126 = .ok (.bipush 15, 2) := by decide +kernel
theorem jd_M_february_128 : decode jb_M_february 128 = .ok (.iconst 3, 1) := by decide +kernel
theorem jd_M_february_129 : decode jb_M_february 129 = .ok (.invokevirtual 231, 3) := by decide +kernel
theorem jd_M_february_132 : decode jb_M_february 132 = .ok (.goto 13, 3) := by decide +kernel
theorem jd_M_february_135 : decode jb_M_february 135 = .ok (.aload_n 0, 1) := by decide +kernel
theorem jd_M_february_136 : decode jb_M_february 136 = .ok (.bipush 18, 2) := by decide +kernel
theorem jd_M_february_138 : decode jb_M_february 138 = .ok (.iconst 3, 1) := by decide +kernel
theorem jd_M_february_139 : decode jb_M_february 139 = .ok (.invokevirtual 231, 3) := by decide +kernel
theorem jd_M_february_142 : decode jb_M_february 142 = .ok (.iload 4, 2) := by decide +kernel
theorem jd_M_february_144 : decode jb_M_february 144 = .ok (.isub, 1) := by decide +kernel
theorem jd_M_february_145 : decode jb_M_february 145 = .ok (.istore 5, 2) := by decide +kernel
theorem jd_M_february_147 : decode jb_M_february 147 = .ok (.aload_n 0, 1) := by decide +kernel
theorem jd_M_february_148 : decode jb_M_february 148 = .ok (.getfield 43, 3) := by decide +kernel
theorem jd_M_february_151 : decode jb_M_february 151 = .ok (.aload_n 0, 1) := by decide +kernel
theorem jd_M_february_152 : decode jb_M_february 152 = .ok (.getfield 49, 3) := by decide +kernel
theorem jd_M_february_155 : decode jb_M_february 155 = .ok (.invokestatic 136, 3) := by decide +kernel
theorem jd_M_february_158 : decode jb_M_february 158 = .ok (.iload 5, 2) := by decide +kernel
theorem jd_M_february_160 : decode jb_M_february 160 = .ok (.ireturn, 1) := by decide +kernel
theorem jd_M_keep_0 : decode jb_M_keep 0 = .ok (.aload_n 0, 1) := by decide +kernel
theorem jd_M_keep_1 : decode jb_M_keep 1 = .ok (.getfield 146, 3) := by decide +kernel
theorem jd_M_keep_4 : decode jb_M_keep 4 = .ok (.iconst 2, 1) := by decide +kernel
theorem jd_M_keep_5 : decode jb_M_keep 5 = .ok (.if_icmp .ne 6, 3) := by decide +kernel
theorem jd_M_keep_8 : decode jb_M_keep 8 = .ok (.bipush (-3), 2) := by decide +kernel
theorem jd_M_keep_10 : decode jb_M_keep 10 = .ok (.ireturn, 1) := by decide +kernel
theorem jd_M_keep_11 : decode jb_M_keep 11 = .ok (.iconst 0, 1) := by decide +kernel
theorem jd_M_keep_12 : decode jb_M_keep 12 = .ok (.istore_n 1, 1) := by decide +kernel
theorem jd_M_keep_13 : decode jb_M_keep 13 = .ok (.iload_n 1, 1) := by decide +kernel
theorem jd_M_keep_14 : decode jb_M_keep 14 = .ok (.bipush 93, 2) := by decide +kernel
theorem jd_M_keep_16 : decode jb_M_keep 16 = .ok (.if_icmp .ge 29, 3) := by decide +kernel
theorem jd_M_keep_19 : decode jb_M_keep 19 = .ok (.aload_n 0, 1) := by decide +kernel
theorem jd_M_keep_20 : decode jb_M_keep 20 = .ok (.getfield 58, 3) := by decide +kernel
theorem jd_M_keep_23 : decode jb_M_keep 23 = .ok (.bipush 93, 2) := by decide +kernel
theorem jd_M_keep_25 : decode jb_M_keep 25 = .ok (.aload_n 0, 1) := by decide +kernel
theorem jd_M_keep_26 : decode jb_M_keep 26 = .ok (.getfield 146, 3) := by decide +kernel
theorem jd_M_keep_29 : decode jb_M_keep 29 = .ok (.imul, 1) := by decide +kernel
theorem jd_M_keep_30 : decode jb_M_keep 30 = .ok (.iload_n 1, 1) := by decide +kernel
theorem jd_M_keep_31 : decode jb_M_keep 31 = .ok (.iadd, 1) := by decide +kernel
theorem jd_M_keep_32 : decode jb_M_keep 32 = .ok (.aload_n 0, 1) := by decide +kernel
theorem jd_M_keep_33 : decode jb_M_keep 33 = .ok (.getfield 43, 3) := by decide +kernel
theorem jd_M_keep_36 : decode jb_M_keep 36 = .ok (.iload_n 1, 1) := by decide +kernel
theorem jd_M_keep_37 : decode jb_M_keep 37 = .ok (.iaload, 1) := by decide +kernel
theorem jd_M_keep_38 : decode jb_M_keep 38 = .ok (.iastore, 1) := by decide +kernel
theorem jd_M_keep_39 : decode jb_M_keep 39 = .ok (.iinc 1 1, 3) := by decide +kernel
theorem jd_M_keep_42 : decode jb_M_keep 42 = .ok (.goto (-29), 3) := by decide +kernel
theorem jd_M_keep_45 : decode jb_M_keep 45 = .ok (.aload_n 0, 1) := by decide +kernel
theorem jd_M_keep_46 : decode jb_M_keep 46 = .ok (.dup, 1) := by decide +kernel
theorem jd_M_keep_47 : decode jb_M_keep 47 = .ok (.getfield 146, 3) := by decide +kernel
theorem jd_M_keep_50 : decode jb_M_keep 50 = .ok (.iconst 1, 1) := by decide +kernel
theorem jd_M_keep_51 : decode jb_M_keep 51 = .ok (.iadd, 1) := by decide +kernel
theorem jd_M_keep_52 : decode jb_M_keep 52 = .ok (.putfield 146, 3) := by decide +kernel
theorem jd_M_keep_55 : decode jb_M_keep 55 = .ok (.aload_n 0, 1) := by decide +kernel
theorem jd_M_keep_56 : decode jb_M_keep 56 = .ok (.getfield 146, 3) := by decide +kernel
theorem jd_M_keep_59 : decode jb_M_keep 59 = .ok (.ireturn, 1) := by decide +kernel
theorem jd_M_back_0 : decode jb_M_back 0 = .ok (.aload_n 0, 1) := by decide +kernel
theorem jd_M_back_1 : decode jb_M_back 1 = .ok (.getfield 146, 3) := by decide +kernel
theorem jd_M_back_4 : decode jb_M_back 4 = .ok (.ifCond .ne 6, 3) := by decide +kernel
theorem jd_M_back_7 : decode jb_M_back 7 = .ok (.bipush (-2), 2) := by decide +kernel
theorem jd_M_back_9 : decode jb_M_back 9 = .ok (.ireturn, 1) := by decide +kernel
theorem jd_M_back_10 : decode jb_M_back 10 = .ok (.aload_n 0, 1) := by decide +kernel
theorem jd_M_back_11 : decode jb_M_back 11 = .ok (.dup, 1) := by decide +kernel
theorem jd_M_back_12 : decode jb_M_back 12 = .ok (.getfield 146, 3) := by decide +kernel
theorem jd_M_back_15 : decode jb_M_back 15 = .ok (.iconst 1, 1) := by decide +kernel
theorem jd_M_back_16 : decode jb_M_back 16 = .ok (.isub, 1) := by decide +kernel
theorem jd_M_back_17 : decode jb_M_back 17 = .ok (.putfield 146, 3) := by decide +kernel
theorem jd_M_back_20 : decode jb_M_back 20 = .ok (.iconst 0, 1) := by decide +kernel
theorem jd_M_back_21 : decode jb_M_back 21 = .ok (.istore_n 1, 1) := by decide +kernel
theorem jd_M_back_22 : decode jb_M_back 22 = .ok (.iload_n 1, 1) := by decide +kernel
theorem jd_M_back_23 : decode jb_M_back 23 = .ok (.bipush 93, 2) := by decide +kernel
theorem jd_M_back_25 : decode jb_M_back 25 = .ok (.if_icmp .ge 29, 3) := by decide +kernel
theorem jd_M_back_28 : decode jb_M_back 28 = .ok (.aload_n 0, 1) := by decide +kernel
theorem jd_M_back_29 : decode jb_M_back 29 = .ok (.getfield 43, 3) := by decide +kernel
theorem jd_M_back_32 : decode jb_M_back 32 = .ok (.iload_n 1, 1) := by decide +kernel
theorem jd_M_back_33 : decode jb_M_back 33 = .ok (.aload_n 0, 1) := by decide +kernel
theorem jd_M_back_34 : decode jb_M_back 34 = .ok (.getfield 58, 3) := by decide +kernel
theorem jd_M_back_37 : decode jb_M_back 37 = .ok (.bipush 93, 2) := by decide +kernel
theorem jd_M_back_39 : decode jb_M_back 39 = .ok (.aload_n 0, 1) := by decide +kernel
theorem jd_M_back_40 : decode jb_M_back 40 = .ok (.getfield 146, 3) := by decide +kernel
theorem jd_M_back_43 : decode jb_M_back 43 = .ok (.imul, 1) := by decide +kernel
theorem jd_M_back_44 : decode jb_M_back 44 = .ok (.iload_n 1, 1) := by decide +kernel
theorem jd_M_back_45 : decode jb_M_back 45 = .ok (.iadd, 1) := by decide +kernel
theorem jd_M_back_46 : decode jb_M_back 46 = .ok (.iaload, 1) := by decide +kernel
theorem jd_M_back_47 : decode jb_M_back 47 = .ok (.iastore, 1) := by decide +kernel
theorem jd_M_back_48 : decode jb_M_back 48 = .ok (.iinc 1 1, 3) := by decide +kernel
theorem jd_M_back_51 : decode jb_M_back 51 = .ok (.goto (-29), 3) := by decide +kernel
theorem jd_M_back_54 : decode jb_M_back 54 = .ok (.aload_n 0, 1) := by decide +kernel
theorem jd_M_back_55 : decode jb_M_back 55 = .ok (.iconst 0, 1) := by decide +kernel
theorem jd_M_back_56 : decode jb_M_back 56 = .ok (.putfield 143, 3) := by decide +kernel
theorem jd_M_back_59 : decode jb_M_back 59 = .ok (.aload_n 0, 1) := by decide +kernel
theorem jd_M_back_60 : decode jb_M_back 60 = .ok (.getfield 146, 3) := by decide +kernel
theorem jd_M_back_63 : decode jb_M_back 63 = .ok (.ireturn, 1) := by decide +kernel
theorem jd_M_count_0 : decode jb_M_count 0 = .ok (.iload_n 1, 1) := by decide +kernel
theorem jd_M_count_1 : decode jb_M_count 1 = .ok (.tableswitch 122 0 10 #[59, 64, 69, 74, 81, 89, 97, 102, 107, 112, 117], 59) := by decide +kernel
theorem jd_M_count_60 : decode jb_M_count 60 = .ok (.aload_n 0, 1) := by decide +kernel
theorem jd_M_count_61 : decode jb_M_count 61 = .ok (.getfield 124, 3) := by decide +kernel
theorem jd_M_count_64 : decode jb_M_count 64 = .ok (.ireturn, 1) := by decide +kernel
theorem jd_M_count_65 : decode jb_M_count 65 = .ok (.aload_n 0, 1) := by decide +kernel
theorem jd_M_count_66 : decode jb_M_count 66 = .ok (.getfield 127, 3) := by decide +kernel
theorem jd_M_count_69 : decode jb_M_count 69 = .ok (.ireturn, 1) := by decide +kernel
theorem jd_M_count_70 : decode jb_M_count 70 = .ok (.aload_n 0, 1) := by decide +kernel
theorem jd_M_count_71 : decode jb_M_count 71 = .ok (.getfield 130, 3) := by decide +kernel
theorem jd_M_count_74 : decode jb_M_count 74 = .ok (.ireturn, 1) := by decide +kernel
theorem jd_M_count_75 : decode jb_M_count 75 = .ok (.aload_n 0, 1) := by decide +kernel
theorem jd_M_count_76 : decode jb_M_count 76 = .ok (.getfield 43, 3) := by decide +kernel
theorem jd_M_count_79 : decode jb_M_count 79 = .ok (.iconst 0, 1) := by decide +kernel
theorem jd_M_count_80 : decode jb_M_count 80 = .ok (.iaload, 1) := by decide +kernel
theorem jd_M_count_81 : decode jb_M_count 81 = .ok (.ireturn, 1) := by decide +kernel
theorem jd_M_count_82 : decode jb_M_count 82 = .ok (.aload_n 0, 1) := by decide +kernel
theorem jd_M_count_83 : decode jb_M_count 83 = .ok (.bipush 15, 2) := by decide +kernel
theorem jd_M_count_85 : decode jb_M_count 85 = .ok (.iconst 3, 1) := by decide +kernel
theorem jd_M_count_86 : decode jb_M_count 86 = .ok (.invokevirtual 231, 3) := by decide +kernel
theorem jd_M_count_89 : decode jb_M_count 89 = .ok (.ireturn, 1) := by decide +kernel
theorem jd_M_count_90 : decode jb_M_count 90 = .ok (.aload_n 0, 1) := by decide +kernel
theorem jd_M_count_91 : decode jb_M_count 91 = .ok (.bipush 18, 2) := by decide +kernel
theorem jd_M_count_93 : decode jb_M_count 93 = .ok (.iconst 3, 1) := by decide +kernel
theorem jd_M_count_94 : decode jb_M_count 94 = .ok (.invokevirtual 231, 3) := by decide +kernel
theorem jd_M_count_97 : decode jb_M_count 97 = .ok (.ireturn, 1) := by decide +kernel
theorem jd_M_count_98 : decode jb_M_count 98 = .ok (.aload_n 0, 1) := by decide +kernel
theorem jd_M_count_99 : decode jb_M_count 99 = .ok (.invokevirtual 243, 3) := by decide +kernel
theorem jd_M_count_102 : decode jb_M_count 102 = .ok (.ireturn, 1) := by decide +kernel
theorem jd_M_count_103 : decode jb_M_count 103 = .ok (.aload_n 0, 1) := by decide +kernel
theorem jd_M_count_104 : decode jb_M_count 104 = .ok (.getfield 140, 3) := by decide +kernel
theorem jd_M_count_107 : decode jb_M_count 107 = .ok (.ireturn, 1) := by decide +kernel
theorem jd_M_count_108 : decode jb_M_count 108 = .ok (.aload_n 0, 1) := by decide +kernel
theorem jd_M_count_109 : decode jb_M_count 109 = .ok (.getfield 143, 3) := by decide +kernel
theorem jd_M_count_112 : decode jb_M_count 112 = .ok (.ireturn, 1) := by decide +kernel
theorem jd_M_count_113 : decode jb_M_count 113 = .ok (.aload_n 0, 1) := by decide +kernel
theorem jd_M_count_114 : decode jb_M_count 114 = .ok (.getfield 146, 3) := by decide +kernel
theorem jd_M_count_117 : decode jb_M_count 117 = .ok (.ireturn, 1) := by decide +kernel
theorem jd_M_count_118 : decode jb_M_count 118 = .ok (.aload_n 0, 1) := by decide +kernel
theorem jd_M_count_119 : decode jb_M_count 119 = .ok (.getfield 61, 3) := by decide +kernel
theorem jd_M_count_122 : decode jb_M_count 122 = .ok (.ireturn, 1) := by decide +kernel
theorem jd_M_count_123 : decode jb_M_count 123 = .ok (.iconst (-1), 1) := by decide +kernel
theorem jd_M_count_124 : decode jb_M_count 124 = .ok (.ireturn, 1) := by decide +kernel
