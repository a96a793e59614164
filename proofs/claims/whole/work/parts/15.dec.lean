theorem jd_P_newestField_0 : decode jb_P_newestField 0 = .ok (.aload_n 0, 1) := by decide +kernel
theorem jd_P_newestField_1 : decode jb_P_newestField 1 = .ok (.getfield 26, 3) := by decide +kernel
theorem jd_P_newestField_4 : decode jb_P_newestField 4 = .ok (.ifCond .lt 27, 3) := by decide +kernel
theorem jd_P_newestField_7 : decode jb_P_newestField 7 = .ok (.aload_n 0, 1) := by decide +kernel
theorem jd_P_newestField_8 : decode jb_P_newestField 8 = .ok (.getfield 26, 3) := by decide +kernel
theorem jd_P_newestField_11 : decode jb_P_newestField 11 = .ok (.aload_n 0, 1) := by decide +kernel
theorem jd_P_newestField_12 : decode jb_P_newestField 12 = .ok (.getfield 15, 3) := by decide +kernel
theorem jd_P_newestField_15 : decode jb_P_newestField 15 = .ok (.arraylength, 1) := by decide +kernel
theorem jd_P_newestField_16 : decode jb_P_newestField 16 = .ok (.if_icmp .ge 15, 3) := by decide +kernel
theorem jd_P_newestField_19 : decode jb_P_newestField 19 = .ok (.aload_n 0, 1) := by decide +kernel
theorem jd_P_newestField_20 : decode jb_P_newestField 20 = .ok (.getfield 15, 3) := by decide +kernel
theorem jd_P_newestField_23 : decode jb_P_newestField 23 = .ok (.aload_n 0, 1) := by decide +kernel
theorem jd_P_newestField_24 : decode jb_P_newestField 24 = .ok (.getfield 26, 3) := by decide +kernel
theorem jd_P_newestField_27 : decode jb_P_newestField 27 = .ok (.aaload, 1) := by decide +kernel
theorem jd_P_newestField_28 : decode jb_P_newestField 28 = .ok (.goto 4, 3) := by decide +kernel
theorem jd_P_newestField_31 : decode jb_P_newestField 31 = .ok (.aconst_null, 1) := by decide +kernel
theorem jd_P_newestField_32 : decode jb_P_newestField 32 = .ok (.areturn, 1) := by decide +kernel
theorem jd_P_clear_0 : decode jb_P_clear 0 = .ok (.aload_n 0, 1) := by decide +kernel
theorem jd_P_clear_1 : decode jb_P_clear 1 = .ok (.iconst 0, 1) := by decide +kernel
theorem jd_P_clear_2 : decode jb_P_clear 2 = .ok (.putfield 22, 3) := by decide +kernel
theorem jd_P_clear_5 : decode jb_P_clear 5 = .ok (.return_, 1) := by decide +kernel
theorem jd_P_isFull_0 : decode jb_P_isFull 0 = .ok (.aload_n 0, 1) := by decide +kernel
theorem jd_P_isFull_1 : decode jb_P_isFull 1 = .ok (.getfield 22, 3) := by decide +kernel
theorem jd_P_isFull_4 : decode jb_P_isFull 4 = .ok (.aload_n 0, 1) := by decide +kernel
theorem jd_P_isFull_5 : decode jb_P_isFull 5 = .ok (.getfield 15, 3) := by decide +kernel
theorem jd_P_isFull_8 : decode jb_P_isFull 8 = .ok (.arraylength, 1) := by decide +kernel
theorem jd_P_isFull_9 : decode jb_P_isFull 9 = .ok (.if_icmp .lt 7, 3) := by decide +kernel
theorem jd_P_isFull_12 : decode jb_P_isFull 12 = .ok (.iconst 1, 1) := by decide +kernel
theorem jd_P_isFull_13 : decode jb_P_isFull 13 = .ok (.goto 4, 3) := by decide +kernel
theorem jd_P_isFull_16 : decode jb_P_isFull 16 = .ok (.iconst 0, 1) := by decide +kernel
theorem jd_P_isFull_17 : decode jb_P_isFull 17 = .ok (.ireturn, 1) := by decide +kernel
theorem jd_P_push_0 : decode jb_P_push 0 = .ok (.aload_n 0, 1) := by decide +kernel
theorem jd_P_push_1 : decode jb_P_push 1 = .ok (.aload_n 0, 1) := by decide +kernel
theorem jd_P_push_2 : decode jb_P_push 2 = .ok (.getfield 26, 3) := by decide +kernel
theorem jd_P_push_5 : decode jb_P_push 5 = .ok (.iconst 1, 1) := by decide +kernel
theorem jd_P_push_6 : decode jb_P_push 6 = .ok (.iadd, 1) := by decide +kernel
theorem jd_P_push_7 : decode jb_P_push 7 = .ok (.aload_n 0, 1) := by decide +kernel
theorem jd_P_push_8 : decode jb_P_push 8 = .ok (.getfield 15, 3) := by decide +kernel
theorem jd_P_push_11 : decode jb_P_push 11 = .ok (.arraylength, 1) := by decide +kernel
theorem jd_P_push_12 : decode jb_P_push 12 = .ok (.if_icmp .ge 12, 3) := by decide +kernel
theorem jd_P_push_15 : decode jb_P_push 15 = .ok (.aload_n 0, 1) := by decide +kernel
theorem jd_P_push_16 : decode jb_P_push 16 = .ok (.getfield 26, 3) := by decide +kernel
theorem jd_P_push_19 : decode jb_P_push 19 = .ok (.iconst 1, 1) := by decide +kernel
theorem jd_P_push_20 : decode jb_P_push 20 = .ok (.iadd, 1) := by decide +kernel
theorem jd_P_push_21 : decode jb_P_push 21 = .ok (.goto 4, 3) := by decide +kernel
theorem jd_P_push_24 : decode jb_P_push 24 = .ok (.iconst 0, 1) := by decide +kernel
theorem jd_P_push_25 : decode jb_P_push 25 = .ok (.putfield 26, 3) := by decide +kernel
theorem jd_P_push_28 : decode jb_P_push 28 = .ok (.aload_n 0, 1) := by decide +kernel
theorem jd_P_push_29 : decode jb_P_push 29 = .ok (.invokevirtual 29, 3) := by decide +kernel
theorem jd_P_push_32 : decode jb_P_push 32 = .ok (.astore_n 2, 1) := by decide +kernel
theorem jd_P_push_33 : decode jb_P_push 33 = .ok (.aload_n 2, 1) := by decide +kernel
theorem jd_P_push_34 : decode jb_P_push 34 = .ok (.ifnull 8, 3) := by decide +kernel
theorem jd_P_push_37 : decode jb_P_push 37 = .ok (.aload_n 2, 1) := by decide +kernel
theorem jd_P_push_38 : decode jb_P_push 38 = .ok (.aload_n 1, 1) := by decide +kernel
theorem jd_P_push_39 : decode jb_P_push 39 = .ok (.invokevirtual 33, 3) := by decide +kernel
theorem jd_P_push_42 : decode jb_P_push 42 = .ok (.aload_n 0, 1) := by decide +kernel
theorem jd_P_push_43 : decode jb_P_push 43 = .ok (.aload_n 0, 1) := by decide +kernel
theorem jd_P_push_44 : decode jb_P_push 44 = .ok (.getfield 15, 3) := by decide +kernel
theorem jd_P_push_47 : decode jb_P_push 47 = .ok (.arraylength, 1) := by decide +kernel
theorem jd_P_push_48 : decode jb_P_push 48 = .ok (.aload_n 0, 1) := by decide +kernel
theorem jd_P_push_49 : decode jb_P_push 49 = .ok (.getfield 22, 3) := by decide +kernel
theorem jd_P_push_52 : decode jb_P_push 52 = .ok (.iconst 1, 1) := by decide +kernel
theorem jd_P_push_53 : decode jb_P_push 53 = .ok (.iadd, 1) := by decide +kernel
theorem jd_P_push_54 : decode jb_P_push 54 = .ok (.invokestatic 37, 3) := by decide +kernel
theorem jd_P_push_57 : decode jb_P_push 57 = .ok (.putfield 22, 3) := by decide +kernel
theorem jd_P_push_60 : decode jb_P_push 60 = .ok (.return_, 1) := by decide +kernel
theorem jd_P_popInto_0 : decode jb_P_popInto 0 = .ok (.aload_n 0, 1) := by decide +kernel
theorem jd_P_popInto_1 : decode jb_P_popInto 1 = .ok (.invokevirtual 29, 3) := by decide +kernel
theorem jd_P_popInto_4 : decode jb_P_popInto 4 = .ok (.astore_n 2, 1) := by decide +kernel
theorem jd_P_popInto_5 : decode jb_P_popInto 5 = .ok (.aload_n 0, 1) := by decide +kernel
theorem jd_P_popInto_6 : decode jb_P_popInto 6 = .ok (.getfield 22, 3) := by decide +kernel
theorem jd_P_popInto_9 : decode jb_P_popInto 9 = .ok (.ifCond .le 49, 3) := by decide +kernel
theorem jd_P_popInto_12 : decode jb_P_popInto 12 = .ok (.aload_n 2, 1) := by decide +kernel
theorem jd_P_popInto_13 : decode jb_P_popInto 13 = .ok (.ifnull 45, 3) := by decide +kernel
theorem jd_P_popInto_16 : decode jb_P_popInto 16 = .ok (.aload_n 1, 1) := by decide +kernel
theorem jd_P_popInto_17 : decode jb_P_popInto 17 = .ok (.aload_n 2, 1) := by decide +kernel
theorem jd_P_popInto_18 : decode jb_P_popInto 18 = .ok (.invokevirtual 33, 3) := by decide +kernel
theorem jd_P_popInto_21 : decode jb_P_popInto 21 = .ok (.aload_n 0, 1) := by decide +kernel
theorem jd_P_popInto_22 : decode jb_P_popInto 22 = .ok (.dup, 1) := by decide +kernel
theorem jd_P_popInto_23 : decode jb_P_popInto 23 = .ok (.getfield 22, 3) := by decide +kernel
theorem jd_P_popInto_26 : decode jb_P_popInto 26 = .ok (.iconst 1, 1) := by decide +kernel
theorem jd_P_popInto_27 : decode jb_P_popInto 27 = .ok (.isub, 1) := by decide +kernel
theorem jd_P_popInto_28 : decode jb_P_popInto 28 = .ok (.putfield 22, 3) := by decide +kernel
theorem jd_P_popInto_31 : decode jb_P_popInto 31 = .ok (.aload_n 0, 1) := by decide +kernel
theorem jd_P_popInto_32 : decode jb_P_popInto 32 = .ok (.aload_n 0, 1) := by decide +kernel
theorem jd_P_popInto_33 : decode jb_P_popInto 33 = .ok (.getfield 26, 3) := by decide +kernel
theorem jd_P_popInto_36 : decode jb_P_popInto 36 = .ok (.ifCond .le 12, 3) := by decide +kernel
theorem jd_P_popInto_39 : decode jb_P_popInto 39 = .ok (.aload_n 0, 1) := by decide +kernel
theorem jd_P_popInto_40 : decode jb_P_popInto 40 = .ok (.getfield 26, 3) := by decide +kernel
theorem jd_P_popInto_43 : decode jb_P_popInto 43 = .ok (.iconst 1, 1) := by decide +kernel
theorem jd_P_popInto_44 : decode jb_P_popInto 44 = .ok (.isub, 1) := by decide +kernel
theorem jd_P_popInto_45 : decode jb_P_popInto 45 = .ok (.goto 10, 3) := by decide +kernel
theorem jd_P_popInto_48 : decode jb_P_popInto 48 = .ok (.aload_n 0, 1) := by decide +kernel
theorem jd_P_popInto_49 : decode jb_P_popInto 49 = .ok (.getfield 15, 3) := by decide +kernel
theorem jd_P_popInto_52 : decode jb_P_popInto 52 = .ok (.arraylength, 1) := by decide +kernel
theorem jd_P_popInto_53 : decode jb_P_popInto 53 = .ok (.iconst 1, 1) := by decide +kernel
theorem jd_P_popInto_54 : decode jb_P_popInto 54 = .ok (.isub, 1) := by decide +kernel
theorem jd_P_popInto_55 : decode jb_P_popInto 55 = .ok (.putfield 26, 3) := by decide +kernel
theorem jd_P_popInto_58 : decode jb_P_popInto 58 = .ok (.return_, 1) := by decide +kernel
theorem jd_H_write_0 : decode jb_H_write 0 = .ok (.iload_n 1, 1) := by decide +kernel
theorem jd_H_write_1 : decode jb_H_write 1 = .ok (.bipush 32, 2) := by decide +kernel
theorem jd_H_write_3 : decode jb_H_write 3 = .ok (.bipush 126, 2) := by decide +kernel
theorem jd_H_write_5 : decode jb_H_write 5 = .ok (.invokestatic 65, 3) := by decide +kernel
theorem jd_H_write_8 : decode jb_H_write 8 = .ok (.ifCond .ne 5, 3) := by decide +kernel
theorem jd_H_write_11 : decode jb_H_write 11 = .ok (.iconst (-1), 1) := by decide +kernel
theorem jd_H_write_12 : decode jb_H_write 12 = .ok (.ireturn, 1) := by decide +kernel
theorem jd_H_write_13 : decode jb_H_write 13 = .ok (.aload_n 0, 1) := by decide +kernel
theorem jd_H_write_14 : decode jb_H_write 14 = .ok (.getfield 10, 3) := by decide +kernel
theorem jd_H_write_17 : decode jb_H_write 17 = .ok (.invokevirtual 69, 3) := by decide +kernel
theorem jd_H_write_20 : decode jb_H_write 20 = .ok (.ifCond .eq 6, 3) := by decide +kernel
theorem jd_H_write_23 : decode jb_H_write 23 = .ok (.bipush (-3), 2) := by decide +kernel
theorem jd_H_write_25 : decode jb_H_write 25 = .ok (.ireturn, 1) := by decide +kernel
theorem jd_H_write_26 : decode jb_H_write 26 = .ok (.aload_n 0, 1) := by decide +kernel
theorem jd_H_write_27 : decode jb_H_write 27 = .ok (.getfield 10, 3) := by decide +kernel
theorem jd_H_write_30 : decode jb_H_write 30 = .ok (.iload_n 1, 1) := by decide +kernel
theorem jd_H_write_31 : decode jb_H_write 31 = .ok (.invokevirtual 73, 3) := by decide +kernel
theorem jd_H_write_34 : decode jb_H_write 34 = .ok (.aload_n 0, 1) := by decide +kernel
theorem jd_H_write_35 : decode jb_H_write 35 = .ok (.getfield 10, 3) := by decide +kernel
theorem jd_H_write_38 : decode jb_H_write 38 = .ok (.getfield 76, 3) := by decide +kernel
theorem jd_H_write_41 : decode jb_H_write 41 = .ok (.ireturn, 1) := by decide +kernel
theorem jd_H_wipe_0 : decode jb_H_wipe 0 = .ok (.aload_n 0, 1) := by decide +kernel
theorem jd_H_wipe_1 : decode jb_H_wipe 1 = .ok (.getfield 10, 3) := by decide +kernel
theorem jd_H_wipe_4 : decode jb_H_wipe 4 = .ok (.getfield 76, 3) := by decide +kernel
theorem jd_H_wipe_7 : decode jb_H_wipe 7 = .ok (.istore_n 1, 1) := by decide +kernel
theorem jd_H_wipe_8 : decode jb_H_wipe 8 = .ok (.aload_n 0, 1) := by decide +kernel
theorem jd_H_wipe_9 : decode jb_H_wipe 9 = .ok (.getfield 10, 3) := by decide +kernel
theorem jd_H_wipe_12 : decode jb_H_wipe 12 = .ok (.iconst 0, 1) := by decide +kernel
theorem jd_H_wipe_13 : decode jb_H_wipe 13 = .ok (.putfield 76, 3) := by decide +kernel
theorem jd_H_wipe_16 : decode jb_H_wipe 16 = .ok (.iload_n 1, 1) := by decide +kernel
theorem jd_H_wipe_17 : decode jb_H_wipe 17 = .ok (.ireturn, 1) := by decide +kernel
theorem jd_H_fault_0 : decode jb_H_fault 0 = .ok (.aload_n 0, 1) := by decide +kernel
theorem jd_H_fault_1 : decode jb_H_fault 1 = .ok (.getfield 52, 3) := by decide +kernel
theorem jd_H_fault_4 : decode jb_H_fault 4 = .ok (.aload_n 0, 1) := by decide +kernel
theorem jd_H_fault_5 : decode jb_H_fault 5 = .ok (.getfield 10, 3) := by decide +kernel
theorem jd_H_fault_8 : decode jb_H_fault 8 = .ok (.invokevirtual 61, 3) := by decide +kernel
theorem jd_H_fault_11 : decode jb_H_fault 11 = .ok (.ireturn, 1) := by decide +kernel
theorem jd_H_lay_0 : decode jb_H_lay 0 = .ok (.aload_n 0, 1) := by decide +kernel
theorem jd_H_lay_1 : decode jb_H_lay 1 = .ok (.getfield 52, 3) := by decide +kernel
theorem jd_H_lay_4 : decode jb_H_lay 4 = .ok (.aload_n 0, 1) := by decide +kernel
theorem jd_H_lay_5 : decode jb_H_lay 5 = .ok (.getfield 10, 3) := by decide +kernel
theorem jd_H_lay_8 : decode jb_H_lay 8 = .ok (.invokevirtual 61, 3) := by decide +kernel
theorem jd_H_lay_11 : decode jb_H_lay 11 = .ok (.bipush (-4), 2) := by decide +kernel
theorem jd_H_lay_13 : decode jb_H_lay 13 = .ok (.if_icmp .ne 13, 3) := by decide +kernel
theorem jd_H_lay_16 : decode jb_H_lay 16 = .ok (.aload_n 0, 1) := by decide +kernel
theorem jd_H_lay_17 : decode jb_H_lay 17 = .ok (.getfield 52, 3) := by decide +kernel
theorem jd_H_lay_20 : decode jb_H_lay 20 = .ok (.invokevirtual 80, 3) := by decide +kernel
theorem jd_H_lay_23 : decode jb_H_lay 23 = .ok (.ifCond .ne 6, 3) := by decide +kernel
theorem jd_H_lay_26 : decode jb_H_lay 26 = .ok (.bipush (-2), 2) := by decide +kernel
theorem jd_H_lay_28 : decode jb_H_lay 28 = .ok (.ireturn, 1) := by decide +kernel
theorem jd_H_lay_29 : decode jb_H_lay 29 = .ok (.aload_n 0, 1) := by decide +kernel
theorem jd_H_lay_30 : decode jb_H_lay 30 = .ok (.getfield 52, 3) := by decide +kernel
theorem jd_H_lay_33 : decode jb_H_lay 33 = .ok (.astore_n 1, 1) := by decide +kernel
theorem jd_H_lay_34 : decode jb_H_lay 34 = .ok (.aload_n 0, 1) := by decide +kernel
theorem jd_H_lay_35 : decode jb_H_lay 35 = .ok (.aload_n 0, 1) := by decide +kernel
theorem jd_H_lay_36 : decode jb_H_lay 36 = .ok (.getfield 48, 3) := by decide +kernel
theorem jd_H_lay_39 : decode jb_H_lay 39 = .ok (.putfield 52, 3) := by decide +kernel
theorem jd_H_lay_42 : decode jb_H_lay 42 = .ok (.aload_n 0, 1) := by decide +kernel
theorem jd_H_lay_43 : decode jb_H_lay 43 = .ok (.aload_n 1, 1) := by decide +kernel
theorem jd_H_lay_44 : decode jb_H_lay 44 = .ok (.putfield 48, 3) := by decide +kernel
theorem jd_H_lay_47 : decode jb_H_lay 47 = .ok (.aload_n 0, 1) := by decide +kernel
theorem jd_H_lay_48 : decode jb_H_lay 48 = .ok (.getfield 19, 3) := by decide +kernel
theorem jd_H_lay_51 : decode jb_H_lay 51 = .ok (.invokevirtual 83, 3) := by decide +kernel
theorem jd_H_lay_54 : decode jb_H_lay 54 = .ok (.aload_n 0, 1) := by decide +kernel
theorem jd_H_lay_55 : decode jb_H_lay 55 = .ok (.getfield 31, 3) := by decide +kernel
theorem jd_H_lay_58 : decode jb_H_lay 58 = .ok (.invokevirtual 86, 3) := by decide +kernel
theorem jd_H_lay_61 : decode jb_H_lay 61 = .ok (.aload_n 0, 1) := by decide +kernel
theorem jd_H_lay_62 : decode jb_H_lay 62 = .ok (.getfield 35, 3) := by decide +kernel
theorem jd_H_lay_65 : decode jb_H_lay 65 = .ok (.invokevirtual 86, 3) := by decide +kernel
theorem jd_H_lay_68 : decode jb_H_lay 68 = .ok (.aload_n 0, 1) := by decide +kernel
theorem jd_H_lay_69 : decode jb_H_lay 69 = .ok (.getfield 41, 3) := by decide +kernel
theorem jd_H_lay_72 : decode jb_H_lay 72 = .ok (.iconst 0, 1) := by decide +kernel
theorem jd_H_lay_73 : decode jb_H_lay 73 = .ok (.putfield 87, 3) := by decide +kernel
theorem jd_H_lay_76 : decode jb_H_lay 76 = .ok (.aload_n 0, 1) := by decide +kernel
theorem jd_H_lay_77 : decode jb_H_lay 77 = .ok (.getfield 48, 3) := by decide +kernel
theorem jd_H_lay_80 : decode jb_H_lay 80 = .ok (.getfield 90, 3) := by decide +kernel
theorem jd_H_lay_83 : decode jb_H_lay 83 = .ok (.ireturn, 1) := by decide +kernel
theorem jd_H_isMower_0 : decode jb_H_isMower 0 = .ok (.iload_n 1, 1) := by decide +kernel
theorem jd_H_isMower_1 : decode jb_H_isMower 1 = .ok (.ifCond .lt 18, 3) := by decide +kernel
theorem jd_H_isMower_4 : decode jb_H_isMower 4 = .ok (.iload_n 1, 1) := by decide +kernel
theorem jd_H_isMower_5 : decode jb_H_isMower 5 = .ok (.aload_n 0, 1) := by decide +kernel
theorem jd_H_isMower_6 : decode jb_H_isMower 6 = .ok (.getfield 48, 3) := by decide +kernel
theorem jd_H_isMower_9 : decode jb_H_isMower 9 = .ok (.getfield 90, 3) := by decide +kernel
theorem jd_H_isMower_12 : decode jb_H_isMower 12 = .ok (.if_icmp .ge 7, 3) := by decide +kernel
theorem jd_H_isMower_15 : decode jb_H_isMower 15 = .ok (.iconst 1, 1) := by decide +kernel
theorem jd_H_isMower_16 : decode jb_H_isMower 16 = .ok (.goto 4, 3) := by decide +kernel
theorem jd_H_isMower_19 : decode jb_H_isMower 19 = .ok (.iconst 0, 1) := by decide +kernel
theorem jd_H_isMower_20 : decode jb_H_isMower 20 = .ok (.ireturn, 1) := by decide +kernel
theorem jd_H_mower_0 : decode jb_H_mower 0 = .ok (.aload_n 0, 1) := by decide +kernel
theorem jd_H_mower_1 : decode jb_H_mower 1 = .ok (.iload_n 1, 1) := by decide +kernel
theorem jd_H_mower_2 : decode jb_H_mower 2 = .ok (.invokevirtual 93, 3) := by decide +kernel
theorem jd_H_mower_5 : decode jb_H_mower 5 = .ok (.ifCond .ne 5, 3) := by decide +kernel
theorem jd_H_mower_8 : decode jb_H_mower 8 = .ok (.iconst (-1), 1) := by decide +kernel
theorem jd_H_mower_9 : decode jb_H_mower 9 = .ok (.ireturn, 1) := by decide +kernel
theorem jd_H_mower_10 : decode jb_H_mower 10 = .ok (.iload_n 2, 1) := by decide +kernel
theorem jd_H_mower_11 : decode jb_H_mower 11 = .ok (.tableswitch 65 0 2 #[25, 41, 53], 25) := by decide +kernel
theorem jd_H_mower_36 : decode jb_H_mower 36 = .ok (.aload_n 0, 1) := by decide +kernel
theorem jd_H_mower_37 : decode jb_H_mower 37 = .ok (.getfield 48, 3) := by decide +kernel
theorem jd_H_mower_40 : decode jb_H_mower 40 = .ok (.iload_n 1, 1) := by decide +kernel
theorem jd_H_mower_41 : decode jb_H_mower 41 = .ok (.aload_n 0, 1) := by decide +kernel
theorem jd_H_mower_42 : decode jb_H_mower 42 = .ok (.getfield 19, 3) := by decide +kernel
theorem jd_H_mower_45 : decode jb_H_mower 45 = .ok (.getfield 97, 3) := by decide +kernel
theorem jd_H_mower_48 : decode jb_H_mower 48 = .ok (.invokevirtual 100, 3) := by decide +kernel
theorem jd_H_mower_51 : decode jb_H_mower 51 = .ok (.ireturn, 1) := by decide +kernel
theorem jd_H_mower_52 : decode jb_H_mower 52 = .ok (.aload_n 0, 1) := by decide +kernel
theorem jd_H_mower_53 : decode jb_H_mower 53 = .ok (.getfield 19, 3) := by decide +kernel
theorem jd_H_mower_56 : decode jb_H_mower 56 = .ok (.getfield 104, 3) := by decide +kernel
theorem jd_H_mower_59 : decode jb_H_mower 59 = .ok (.iload_n 1, 1) := by decide +kernel
theorem jd_H_mower_60 : decode jb_H_mower 60 = .ok (.invokestatic 108, 3) := by decide +kernel
theorem jd_H_mower_63 : decode jb_H_mower 63 = .ok (.ireturn, 1) := by decide +kernel
theorem jd_H_mower_64 : decode jb_H_mower 64 = .ok (.aload_n 0, 1) := by decide +kernel
theorem jd_H_mower_65 : decode jb_H_mower 65 = .ok (.getfield 19, 3) := by decide +kernel
theorem jd_H_mower_68 : decode jb_H_mower 68 = .ok (.getfield 114, 3) := by decide +kernel
theorem jd_H_mower_71 : decode jb_H_mower 71 = .ok (.iload_n 1, 1) := by decide +kernel
theorem jd_H_mower_72 : decode jb_H_mower 72 = .ok (.invokestatic 108, 3) := by decide +kernel
theorem jd_H_mower_75 : decode jb_H_mower 75 = .ok (.ireturn, 1) := by decide +kernel
theorem jd_H_mower_76 : decode jb_H_mower 76 = .ok (.iconst (-1), 1) := by decide +kernel
theorem jd_H_mower_77 : decode jb_H_mower 77 = .ok (.ireturn, 1) := by decide +kernel
theorem jd_H_isCow_0 : decode jb_H_isCow 0 = .ok (.iload_n 1, 1) := by decide +kernel
theorem jd_H_isCow_1 : decode jb_H_isCow 1 = .ok (.ifCond .lt 18, 3) := by decide +kernel
theorem jd_H_isCow_4 : decode jb_H_isCow 4 = .ok (.iload_n 1, 1) := by decide +kernel
theorem jd_H_isCow_5 : decode jb_H_isCow 5 = .ok (.aload_n 0, 1) := by decide +kernel
theorem jd_H_isCow_6 : decode jb_H_isCow 6 = .ok (.getfield 48, 3) := by decide +kernel
theorem jd_H_isCow_9 : decode jb_H_isCow 9 = .ok (.getfield 251, 3) := by decide +kernel
theorem jd_H_isCow_12 : decode jb_H_isCow 12 = .ok (.if_icmp .ge 7, 3) := by decide +kernel
theorem jd_H_isCow_15 : decode jb_H_isCow 15 = .ok (.iconst 1, 1) := by decide +kernel
theorem jd_H_isCow_16 : decode jb_H_isCow 16 = .ok (.goto 4, 3) := by decide +kernel
theorem jd_H_isCow_19 : decode jb_H_isCow 19 = .ok (.iconst 0, 1) := by decide +kernel
theorem jd_H_isCow_20 : decode jb_H_isCow 20 = .ok (.ireturn, 1) := by decide +kernel
theorem jd_H_cow_0 : decode jb_H_cow 0 = .ok (.aload_n 0, 1) := by decide +kernel
theorem jd_H_cow_1 : decode jb_H_cow 1 = .ok (.iload_n 1, 1) := by decide +kernel
theorem jd_H_cow_2 : decode jb_H_cow 2 = .ok (.invokevirtual 117, 3) := by decide +kernel
theorem jd_H_cow_5 : decode jb_H_cow 5 = .ok (.ifCond .ne 5, 3) := by decide +kernel
theorem jd_H_cow_8 : decode jb_H_cow 8 = .ok (.iconst (-1), 1) := by decide +kernel
theorem jd_H_cow_9 : decode jb_H_cow 9 = .ok (.ireturn, 1) := by decide +kernel
theorem jd_H_cow_10 : decode jb_H_cow 10 = .ok (.iload_n 2, 1) := by decide +kernel
theorem jd_H_cow_11 : decode jb_H_cow 11 = .ok (.lookupswitch 46 #[(0, 25), (1, 34)], 25) := by decide +kernel
theorem jd_H_cow_36 : decode jb_H_cow 36 = .ok (.aload_n 0, 1) := by decide +kernel
theorem jd_H_cow_37 : decode jb_H_cow 37 = .ok (.getfield 48, 3) := by decide +kernel
theorem jd_H_cow_40 : decode jb_H_cow 40 = .ok (.iload_n 1, 1) := by decide +kernel
theorem jd_H_cow_41 : decode jb_H_cow 41 = .ok (.invokevirtual 120, 3) := by decide +kernel
theorem jd_H_cow_44 : decode jb_H_cow 44 = .ok (.ireturn, 1) := by decide +kernel
theorem jd_H_cow_45 : decode jb_H_cow 45 = .ok (.aload_n 0, 1) := by decide +kernel
theorem jd_H_cow_46 : decode jb_H_cow 46 = .ok (.getfield 19, 3) := by decide +kernel
theorem jd_H_cow_49 : decode jb_H_cow 49 = .ok (.getfield 124, 3) := by decide +kernel
theorem jd_H_cow_52 : decode jb_H_cow 52 = .ok (.iload_n 1, 1) := by decide +kernel
theorem jd_H_cow_53 : decode jb_H_cow 53 = .ok (.invokestatic 108, 3) := by decide +kernel
theorem jd_H_cow_56 : decode jb_H_cow 56 = .ok (.ireturn, 1) := by decide +kernel
theorem jd_H_cow_57 : decode jb_H_cow 57 = .ok (.iconst (-1), 1) := by decide +kernel
theorem jd_H_cow_58 : decode jb_H_cow 58 = .ok (.ireturn, 1) := by decide +kernel
theorem jd_H_isRick_0 : decode jb_H_isRick 0 = .ok (.iload_n 1, 1) := by decide +kernel
theorem jd_H_isRick_1 : decode jb_H_isRick 1 = .ok (.ifCond .lt 18, 3) := by decide +kernel
theorem jd_H_isRick_4 : decode jb_H_isRick 4 = .ok (.iload_n 1, 1) := by decide +kernel
theorem jd_H_isRick_5 : decode jb_H_isRick 5 = .ok (.aload_n 0, 1) := by decide +kernel
theorem jd_H_isRick_6 : decode jb_H_isRick 6 = .ok (.getfield 48, 3) := by decide +kernel
theorem jd_H_isRick_9 : decode jb_H_isRick 9 = .ok (.getfield 189, 3) := by decide +kernel
theorem jd_H_isRick_12 : decode jb_H_isRick 12 = .ok (.if_icmp .ge 7, 3) := by decide +kernel
theorem jd_H_isRick_15 : decode jb_H_isRick 15 = .ok (.iconst 1, 1) := by decide +kernel
theorem jd_H_isRick_16 : decode jb_H_isRick 16 = .ok (.goto 4, 3) := by decide +kernel
theorem jd_H_isRick_19 : decode jb_H_isRick 19 = .ok (.iconst 0, 1) := by decide +kernel
theorem jd_H_isRick_20 : decode jb_H_isRick 20 = .ok (.ireturn, 1) := by decide +kernel
theorem jd_H_rick_0 : decode jb_H_rick 0 = .ok (.aload_n 0, 1) := by decide +kernel
theorem jd_H_rick_1 : decode jb_H_rick 1 = .ok (.iload_n 1, 1) := by decide +kernel
theorem jd_H_rick_2 : decode jb_H_rick 2 = .ok (.invokevirtual 127, 3) := by decide +kernel
theorem jd_H_rick_5 : decode jb_H_rick 5 = .ok (.ifCond .ne 5, 3) := by decide +kernel
theorem jd_H_rick_8 : decode jb_H_rick 8 = .ok (.iconst (-1), 1) := by decide +kernel
theorem jd_H_rick_9 : decode jb_H_rick 9 = .ok (.ireturn, 1) := by decide +kernel
theorem jd_H_rick_10 : decode jb_H_rick 10 = .ok (.iload_n 2, 1) := by decide +kernel
theorem jd_H_rick_11 : decode jb_H_rick 11 = .ok (.tableswitch 68 0 3 #[29, 38, 47, 56], 29) := by decide +kernel
theorem jd_H_rick_40 : decode jb_H_rick 40 = .ok (.aload_n 0, 1) := by decide +kernel
theorem jd_H_rick_41 : decode jb_H_rick 41 = .ok (.getfield 48, 3) := by decide +kernel
theorem jd_H_rick_44 : decode jb_H_rick 44 = .ok (.iload_n 1, 1) := by decide +kernel
theorem jd_H_rick_45 : decode jb_H_rick 45 = .ok (.invokevirtual 130, 3) := by decide +kernel
theorem jd_H_rick_48 : decode jb_H_rick 48 = .ok (.ireturn, 1) := by decide +kernel
theorem jd_H_rick_49 : decode jb_H_rick 49 = .ok (.aload_n 0, 1) := by decide +kernel
theorem jd_H_rick_50 : decode jb_H_rick 50 = .ok (.getfield 19, 3) := by decide +kernel
theorem jd_H_rick_53 : decode jb_H_rick 53 = .ok (.iload_n 1, 1) := by decide +kernel
theorem jd_H_rick_54 : decode jb_H_rick 54 = .ok (.invokevirtual 133, 3) := by decide +kernel
theorem jd_H_rick_57 : decode jb_H_rick 57 = .ok (.ireturn, 1) := by decide +kernel
theorem jd_H_rick_58 : decode jb_H_rick 58 = .ok (.aload_n 0, 1) := by decide +kernel
theorem jd_H_rick_59 : decode jb_H_rick 59 = .ok (.getfield 19, 3) := by decide +kernel
theorem jd_H_rick_62 : decode jb_H_rick 62 = .ok (.iload_n 1, 1) := by decide +kernel
theorem jd_H_rick_63 : decode jb_H_rick 63 = .ok (.invokevirtual 136, 3) := by decide +kernel
theorem jd_H_rick_66 : decode jb_H_rick 66 = .ok (.ireturn, 1) := by decide +kernel
theorem jd_H_rick_67 : decode jb_H_rick 67 = .ok (.aload_n 0, 1) := by decide +kernel
theorem jd_H_rick_68 : decode jb_H_rick 68 = .ok (.getfield 19, 3) := by decide +kernel
theorem jd_H_rick_71 : decode jb_H_rick 71 = .ok (.getfield 139, 3) := by decide +kernel
theorem jd_H_rick_74 : decode jb_H_rick 74 = .ok (.iload_n 1, 1) := by decide +kernel
theorem jd_H_rick_75 : decode jb_H_rick 75 = .ok (.invokestatic 108, 3) := by decide +kernel
theorem jd_H_rick_78 : decode jb_H_rick 78 = .ok (.ireturn, 1) := by decide +kernel
theorem jd_H_rick_79 : decode jb_H_rick 79 = .ok (.iconst (-1), 1) := by decide +kernel
theorem jd_H_rick_80 : decode jb_H_rick 80 = .ok (.ireturn, 1) := by decide +kernel
theorem jd_H_layer_0 : decode jb_H_layer 0 = .ok (.aload_n 0, 1) := by decide +kernel
theorem jd_H_layer_1 : decode jb_H_layer 1 = .ok (.iload_n 1, 1) := by decide +kernel
theorem jd_H_layer_2 : decode jb_H_layer 2 = .ok (.invokevirtual 127, 3) := by decide +kernel
theorem jd_H_layer_5 : decode jb_H_layer 5 = .ok (.ifCond .eq 19, 3) := by decide +kernel
theorem jd_H_layer_8 : decode jb_H_layer 8 = .ok (.iload_n 2, 1) := by decide +kernel
theorem jd_H_layer_9 : decode jb_H_layer 9 = .ok (.ifCond .lt 15, 3) := by decide +kernel
theorem jd_H_layer_12 : decode jb_H_layer 12 = .ok (.iload_n 2, 1) := by decide +kernel
theorem jd_H_layer_13 : decode jb_H_layer 13 = .ok (.aload_n 0, 1) := by decide +kernel
theorem jd_H_layer_14 : decode jb_H_layer 14 = .ok (.getfield 19, 3) := by decide +kernel
theorem jd_H_layer_17 : decode jb_H_layer 17 = .ok (.iload_n 1, 1) := by decide +kernel
theorem jd_H_layer_18 : decode jb_H_layer 18 = .ok (.invokevirtual 133, 3) := by decide +kernel
theorem jd_H_layer_21 : decode jb_H_layer 21 = .ok (.if_icmp .lt 5, 3) := by decide +kernel
theorem jd_H_layer_24 : decode jb_H_layer 24 = .ok (.iconst (-1), 1) := by decide +kernel
theorem jd_H_layer_25 : decode jb_H_layer 25 = .ok (.ireturn, 1) := by decide +kernel
theorem jd_H_layer_26 : decode jb_H_layer 26 = .ok (.iload_n 3, 1) := by decide +kernel
theorem jd_H_layer_27 : decode jb_H_layer 27 = .ok (.tableswitch 55 0 2 #[25, 35, 45], 25) := by decide +kernel
theorem jd_H_layer_52 : decode jb_H_layer 52 = .ok (.aload_n 0, 1) := by decide +kernel
theorem jd_H_layer_53 : decode jb_H_layer 53 = .ok (.getfield 19, 3) := by decide +kernel
theorem jd_H_layer_56 : decode jb_H_layer 56 = .ok (.iload_n 1, 1) := by decide +kernel
theorem jd_H_layer_57 : decode jb_H_layer 57 = .ok (.iload_n 2, 1) := by decide +kernel
theorem jd_H_layer_58 : decode jb_H_layer 58 = .ok (.invokevirtual 142, 3) := by decide +kernel
theorem jd_H_layer_61 : decode jb_H_layer 61 = .ok (.ireturn, 1) := by decide +kernel
theorem jd_H_layer_62 : decode jb_H_layer 62 = .ok (.aload_n 0, 1) := by decide +kernel
theorem jd_H_layer_63 : decode jb_H_layer 63 = .ok (.getfield 19, 3) := by decide +kernel
theorem jd_H_layer_66 : decode jb_H_layer 66 = .ok (.iload_n 1, 1) := by decide +kernel
theorem jd_H_layer_67 : decode jb_H_layer 67 = .ok (.iload_n 2, 1) := by decide +kernel
theorem jd_H_layer_68 : decode jb_H_layer 68 = .ok (.invokevirtual 145, 3) := by decide +kernel
theorem jd_H_layer_71 : decode jb_H_layer 71 = .ok (.ireturn, 1) := by decide +kernel
theorem jd_H_layer_72 : decode jb_H_layer 72 = .ok (.aload_n 0, 1) := by decide +kernel
theorem jd_H_layer_73 : decode jb_H_layer 73 = .ok (.getfield 19, 3) := by decide +kernel
theorem jd_H_layer_76 : decode jb_H_layer 76 = .ok (.iload_n 1, 1) := by decide +kernel
theorem jd_H_layer_77 : decode jb_H_layer 77 = .ok (.iload_n 2, 1) := by decide +kernel
theorem jd_H_layer_78 : decode jb_H_layer 78 = .ok (.invokevirtual 148, 3) := by decide +kernel
theorem jd_H_layer_81 : decode jb_H_layer 81 = .ok (.ireturn, 1) := by decide +kernel
theorem jd_H_layer_82 : decode jb_H_layer 82 = .ok (.iconst (-1), 1) := by decide +kernel
theorem jd_H_layer_83 : decode jb_H_layer 83 = .ok (.ireturn, 1) := by decide +kernel
theorem jd_H_pass_0 : decode jb_H_pass 0 = .ok (.iload_n 1, 1) := by decide +kernel
theorem jd_H_pass_1 : decode jb_H_pass 1 = .ok (.iconst 1, 1) := by decide +kernel
theorem jd_H_pass_2 : decode jb_H_pass 2 = .ok (.bipush 24, 2) := by decide +kernel
theorem jd_H_pass_4 : decode jb_H_pass 4 = .ok (.invokestatic 65, 3) := by decide +kernel
theorem jd_H_pass_7 : decode jb_H_pass 7 = .ok (.ifCond .ne 5, 3) := by decide +kernel
theorem jd_H_pass_10 : decode jb_H_pass 10 = .ok (.iconst (-1), 1) := by decide +kernel
theorem jd_H_pass_11 : decode jb_H_pass 11 = .ok (.ireturn, 1) := by decide +kernel
theorem jd_H_pass_12 : decode jb_H_pass 12 = .ok (.aload_n 0, 1) := by decide +kernel
theorem jd_H_pass_13 : decode jb_H_pass 13 = .ok (.getfield 19, 3) := by decide +kernel
theorem jd_H_pass_16 : decode jb_H_pass 16 = .ok (.getfield 97, 3) := by decide +kernel
theorem jd_H_pass_19 : decode jb_H_pass 19 = .ok (.iload_n 1, 1) := by decide +kernel
theorem jd_H_pass_20 : decode jb_H_pass 20 = .ok (.iadd, 1) := by decide +kernel
theorem jd_H_pass_21 : decode jb_H_pass 21 = .ok (.sipush 999, 3) := by decide +kernel
theorem jd_H_pass_24 : decode jb_H_pass 24 = .ok (.if_icmp .le 6, 3) := by decide +kernel
theorem jd_H_pass_27 : decode jb_H_pass 27 = .ok (.bipush (-2), 2) := by decide +kernel
theorem jd_H_pass_29 : decode jb_H_pass 29 = .ok (.ireturn, 1) := by decide +kernel
theorem jd_H_pass_30 : decode jb_H_pass 30 = .ok (.aload_n 0, 1) := by decide +kernel
theorem jd_H_pass_31 : decode jb_H_pass 31 = .ok (.getfield 31, 3) := by decide +kernel
theorem jd_H_pass_34 : decode jb_H_pass 34 = .ok (.aload_n 0, 1) := by decide +kernel
theorem jd_H_pass_35 : decode jb_H_pass 35 = .ok (.getfield 19, 3) := by decide +kernel
theorem jd_H_pass_38 : decode jb_H_pass 38 = .ok (.invokevirtual 151, 3) := by decide +kernel
theorem jd_H_pass_41 : decode jb_H_pass 41 = .ok (.aload_n 0, 1) := by decide +kernel
theorem jd_H_pass_42 : decode jb_H_pass 42 = .ok (.getfield 19, 3) := by decide +kernel
theorem jd_H_pass_45 : decode jb_H_pass 45 = .ok (.aload_n 0, 1) := by decide +kernel
theorem jd_H_pass_46 : decode jb_H_pass 46 = .ok (.getfield 48, 3) := by decide +kernel
theorem jd_H_pass_49 : decode jb_H_pass 49 = .ok (.iload_n 1, 1) := by decide +kernel
theorem jd_H_pass_50 : decode jb_H_pass 50 = .ok (.invokevirtual 155, 3) := by decide +kernel
theorem jd_H_pass_53 : decode jb_H_pass 53 = .ok (.aload_n 0, 1) := by decide +kernel
theorem jd_H_pass_54 : decode jb_H_pass 54 = .ok (.getfield 19, 3) := by decide +kernel
theorem jd_H_pass_57 : decode jb_H_pass 57 = .ok (.getfield 97, 3) := by decide +kernel
theorem jd_H_pass_60 : decode jb_H_pass 60 = .ok (.ireturn, 1) := by decide +kernel
theorem jd_H_rake_0 : decode jb_H_rake 0 = .ok (.aload_n 0, 1) := by decide +kernel
theorem jd_H_rake_1 : decode jb_H_rake 1 = .ok (.iload_n 1, 1) := by decide +kernel
theorem jd_H_rake_2 : decode jb_H_rake 2 = .ok (.invokevirtual 93, 3) := by decide +kernel
theorem jd_H_rake_5 : decode jb_H_rake 5 = .ok (.ifCond .eq 24, 3) := by decide +kernel
theorem jd_H_rake_8 : decode jb_H_rake 8 = .ok (.aload_n 0, 1) := by decide +kernel
theorem jd_H_rake_9 : decode jb_H_rake 9 = .ok (.iload_n 2, 1) := by decide +kernel
theorem jd_H_rake_10 : decode jb_H_rake 10 = .ok (.invokevirtual 93, 3) := by decide +kernel
theorem jd_H_rake_13 : decode jb_H_rake 13 = .ok (.ifCond .eq 16, 3) := by decide +kernel
theorem jd_H_rake_16 : decode jb_H_rake 16 = .ok (.iload_n 2, 1) := by decide +kernel
theorem jd_H_rake_17 : decode jb_H_rake 17 = .ok (.iload_n 1, 1) := by decide +kernel
theorem jd_H_rake_18 : decode jb_H_rake 18 = .ok (.if_icmp .lt 11, 3) := by decide +kernel
theorem jd_H_rake_21 : decode jb_H_rake 21 = .ok (.aload_n 0, 1) := by decide +kernel
theorem jd_H_rake_22 : decode jb_H_rake 22 = .ok (.iload_n 3, 1) := by decide +kernel
theorem jd_H_rake_23 : decode jb_H_rake 23 = .ok (.invokevirtual 127, 3) := by decide +kernel
theorem jd_H_rake_26 : decode jb_H_rake 26 = .ok (.ifCond .ne 5, 3) := by decide +kernel
theorem jd_H_rake_29 : decode jb_H_rake 29 = .ok (.iconst (-1), 1) := by decide +kernel
theorem jd_H_rake_30 : decode jb_H_rake 30 = .ok (.ireturn, 1) := by decide +kernel
theorem jd_H_rake_31 : decode jb_H_rake 31 = .ok (.aload_n 0, 1) := by decide +kernel
theorem jd_H_rake_32 : decode jb_H_rake 32 = .ok (.getfield 19, 3) := by decide +kernel
theorem jd_H_rake_35 : decode jb_H_rake 35 = .ok (.iload_n 1, 1) := by decide +kernel
theorem jd_H_rake_36 : decode jb_H_rake 36 = .ok (.iload_n 2, 1) := by decide +kernel
theorem jd_H_rake_37 : decode jb_H_rake 37 = .ok (.invokevirtual 159, 3) := by decide +kernel
theorem jd_H_rake_40 : decode jb_H_rake 40 = .ok (.ifCond .ne 6, 3) := by decide +kernel
theorem jd_H_rake_43 : decode jb_H_rake 43 = .ok (.bipush (-2), 2) := by decide +kernel
theorem jd_H_rake_45 : decode jb_H_rake 45 = .ok (.ireturn, 1) := by decide +kernel
theorem jd_H_rake_46 : decode jb_H_rake 46 = .ok (.aload_n 0, 1) := by decide +kernel
theorem jd_H_rake_47 : decode jb_H_rake 47 = .ok (.getfield 19, 3) := by decide +kernel
theorem jd_H_rake_50 : decode jb_H_rake 50 = .ok (.iload_n 3, 1) := by decide +kernel
theorem jd_H_rake_51 : decode jb_H_rake 51 = .ok (.invokevirtual 133, 3) := by decide +kernel
theorem jd_H_rake_54 : decode jb_H_rake 54 = .ok (.bipush 8, 2) := by decide +kernel
theorem jd_H_rake_56 : decode jb_H_rake 56 = .ok (.if_icmp .lt 6, 3) := by decide +kernel
theorem jd_H_rake_59 : decode jb_H_rake 59 = .ok (.bipush (-3), 2) := by decide +kernel
theorem jd_H_rake_61 : decode jb_H_rake 61 = .ok (.ireturn, 1) := by decide +kernel
theorem jd_H_rake_62 : decode jb_H_rake 62 = .ok (.aload_n 0, 1) := by decide +kernel
theorem jd_H_rake_63 : decode jb_H_rake 63 = .ok (.getfield 31, 3) := by decide +kernel
theorem jd_H_rake_66 : decode jb_H_rake 66 = .ok (.aload_n 0, 1) := by decide +kernel
theorem jd_H_rake_67 : decode jb_H_rake 67 = .ok (.getfield 19, 3) := by decide +kernel
theorem jd_H_rake_70 : decode jb_H_rake 70 = .ok (.invokevirtual 151, 3) := by decide +kernel
theorem jd_H_rake_73 : decode jb_H_rake 73 = .ok (.aload_n 0, 1) := by decide +kernel
theorem jd_H_rake_74 : decode jb_H_rake 74 = .ok (.getfield 19, 3) := by decide +kernel
theorem jd_H_rake_77 : decode jb_H_rake 77 = .ok (.iload_n 1, 1) := by decide +kernel
theorem jd_H_rake_78 : decode jb_H_rake 78 = .ok (.iload_n 2, 1) := by decide +kernel
theorem jd_H_rake_79 : decode jb_H_rake 79 = .ok (.iload_n 3, 1) := by decide +kernel
theorem jd_H_rake_80 : decode jb_H_rake 80 = .ok (.invokevirtual 162, 3) := by decide +kernel
theorem jd_H_rake_83 : decode jb_H_rake 83 = .ok (.aload_n 0, 1) := by decide +kernel
theorem jd_H_rake_84 : decode jb_H_rake 84 = .ok (.getfield 19, 3) := by decide +kernel
theorem jd_H_rake_87 : decode jb_H_rake 87 = .ok (.iload_n 3, 1) := by decide +kernel
theorem jd_H_rake_88 : decode jb_H_rake 88 = .ok (.invokevirtual 133, 3) := by decide +kernel
theorem jd_H_rake_91 : decode jb_H_rake 91 = .ok (.ireturn, 1) := by decide +kernel
theorem jd_H_cut_0 : decode jb_H_cut 0 = .ok (.aload_n 0, 1) := by decide +kernel
theorem jd_H_cut_1 : decode jb_H_cut 1 = .ok (.iload_n 1, 1) := by decide +kernel
theorem jd_H_cut_2 : decode jb_H_cut 2 = .ok (.invokevirtual 127, 3) := by decide +kernel
theorem jd_H_cut_5 : decode jb_H_cut 5 = .ok (.ifCond .eq 11, 3) := by decide +kernel
theorem jd_H_cut_8 : decode jb_H_cut 8 = .ok (.aload_n 0, 1) := by decide +kernel
theorem jd_H_cut_9 : decode jb_H_cut 9 = .ok (.iload_n 2, 1) := by decide +kernel
theorem jd_H_cut_10 : decode jb_H_cut 10 = .ok (.invokevirtual 117, 3) := by decide +kernel
theorem jd_H_cut_13 : decode jb_H_cut 13 = .ok (.ifCond .ne 5, 3) := by decide +kernel
theorem jd_H_cut_16 : decode jb_H_cut 16 = .ok (.iconst (-1), 1) := by decide +kernel
theorem jd_H_cut_17 : decode jb_H_cut 17 = .ok (.ireturn, 1) := by decide +kernel
theorem jd_H_cut_18 : decode jb_H_cut 18 = .ok (.aload_n 0, 1) := by decide +kernel
theorem jd_H_cut_19 : decode jb_H_cut 19 = .ok (.getfield 19, 3) := by decide +kernel
theorem jd_H_cut_22 : decode jb_H_cut 22 = .ok (.iload_n 1, 1) := by decide +kernel
theorem jd_H_cut_23 : decode jb_H_cut 23 = .ok (.invokevirtual 133, 3) := by decide +kernel
theorem jd_H_cut_26 : decode jb_H_cut 26 = .ok (.ifCond .ne 6, 3) := by decide +kernel
theorem jd_H_cut_29 : decode jb_H_cut 29 = .ok (.bipush (-2), 2) := by decide +kernel
theorem jd_H_cut_31 : decode jb_H_cut 31 = .ok (.ireturn, 1) := by decide +kernel
theorem jd_H_cut_32 : decode jb_H_cut 32 = .ok (.aload_n 0, 1) := by decide +kernel
theorem jd_H_cut_33 : decode jb_H_cut 33 = .ok (.getfield 31, 3) := by decide +kernel
theorem jd_H_cut_36 : decode jb_H_cut 36 = .ok (.aload_n 0, 1) := by decide +kernel
theorem jd_H_cut_37 : decode jb_H_cut 37 = .ok (.getfield 19, 3) := by decide +kernel
theorem jd_H_cut_40 : decode jb_H_cut 40 = .ok (.invokevirtual 151, 3) := by decide +kernel
theorem jd_H_cut_43 : decode jb_H_cut 43 = .ok (.aload_n 0, 1) := by decide +kernel
theorem jd_H_cut_44 : decode jb_H_cut 44 = .ok (.getfield 19, 3) := by decide +kernel
theorem jd_H_cut_47 : decode jb_H_cut 47 = .ok (.iload_n 1, 1) := by decide +kernel
theorem jd_H_cut_48 : decode jb_H_cut 48 = .ok (.iload_n 2, 1) := by decide +kernel
theorem jd_H_cut_49 : decode jb_H_cut 49 = .ok (.aload_n 0, 1) := by decide +kernel
theorem jd_H_cut_50 : decode jb_H_cut 50 = .ok (.getfield 48, 3) := by decide +kernel
theorem jd_H_cut_53 : decode jb_H_cut 53 = .ok (.iload_n 2, 1) := by decide +kernel
theorem jd_H_cut_54 : decode jb_H_cut 54 = .ok (.invokevirtual 120, 3) := by decide +kernel
theorem jd_H_cut_57 : decode jb_H_cut 57 = .ok (.invokevirtual 166, 3) := by decide +kernel
theorem jd_H_cut_60 : decode jb_H_cut 60 = .ok (.ireturn, 1) := by decide +kernel
theorem jd_H_turn_0 : decode jb_H_turn 0 = .ok (.aload_n 0, 1) := by decide +kernel
theorem jd_H_turn_1 : decode jb_H_turn 1 = .ok (.iload_n 1, 1) := by decide +kernel
theorem jd_H_turn_2 : decode jb_H_turn 2 = .ok (.invokevirtual 93, 3) := by decide +kernel
theorem jd_H_turn_5 : decode jb_H_turn 5 = .ok (.ifCond .ne 5, 3) := by decide +kernel
theorem jd_H_turn_8 : decode jb_H_turn 8 = .ok (.iconst (-1), 1) := by decide +kernel
theorem jd_H_turn_9 : decode jb_H_turn 9 = .ok (.ireturn, 1) := by decide +kernel
theorem jd_H_turn_10 : decode jb_H_turn 10 = .ok (.aload_n 0, 1) := by decide +kernel
theorem jd_H_turn_11 : decode jb_H_turn 11 = .ok (.getfield 19, 3) := by decide +kernel
theorem jd_H_turn_14 : decode jb_H_turn 14 = .ok (.getfield 114, 3) := by decide +kernel
theorem jd_H_turn_17 : decode jb_H_turn 17 = .ok (.iload_n 1, 1) := by decide +kernel
theorem jd_H_turn_18 : decode jb_H_turn 18 = .ok (.invokestatic 108, 3) := by decide +kernel
theorem jd_H_turn_21 : decode jb_H_turn 21 = .ok (.istore_n 2, 1) := by decide +kernel
theorem jd_H_turn_22 : decode jb_H_turn 22 = .ok (.iload_n 2, 1) := by decide +kernel
theorem jd_H_turn_23 : decode jb_H_turn 23 = .ok (.ifCond .ne 6, 3) := by decide +kernel
theorem jd_H_turn_26 : decode jb_H_turn 26 = .ok (.bipush (-2), 2) := by decide +kernel
theorem jd_H_turn_28 : decode jb_H_turn 28 = .ok (.ireturn, 1) := by decide +kernel
theorem jd_H_turn_29 : decode jb_H_turn 29 = .ok (.aload_n 0, 1) := by decide +kernel
theorem jd_H_turn_30 : decode jb_H_turn 30 = .ok (.getfield 31, 3) := by decide +kernel
theorem jd_H_turn_33 : decode jb_H_turn 33 = .ok (.aload_n 0, 1) := by decide +kernel
theorem jd_H_turn_34 : decode jb_H_turn 34 = .ok (.getfield 19, 3) := by decide +kernel
theorem jd_H_turn_37 : decode jb_H_turn 37 = .ok (.invokevirtual 151, 3) := by decide +kernel
theorem jd_H_turn_40 : decode jb_H_turn 40 = .ok (.aload_n 0, 1) := by decide +kernel
theorem jd_H_turn_41 : decode jb_H_turn 41 = .ok (.getfield 19, 3) := by decide +kernel
theorem jd_H_turn_44 : decode jb_H_turn 44 = .ok (.getfield 114, 3) := by decide +kernel
theorem jd_H_turn_47 : decode jb_H_turn 47 = .ok (.iload_n 1, 1) := by decide +kernel
theorem jd_H_turn_48 : decode jb_H_turn 48 = .ok (.iconst 0, 1) := by decide +kernel
theorem jd_H_turn_49 : decode jb_H_turn 49 = .ok (.invokestatic 170, 3) := by decide +kernel
theorem jd_H_turn_52 : decode jb_H_turn 52 = .ok (.iload_n 2, 1) := by decide +kernel
theorem jd_H_turn_53 : decode jb_H_turn 53 = .ok (.ireturn, 1) := by decide +kernel
theorem jd_H_heap_0 : decode jb_H_heap 0 = .ok (.aload_n 0, 1) := by decide +kernel
theorem jd_H_heap_1 : decode jb_H_heap 1 = .ok (.iload_n 1, 1) := by decide +kernel
theorem jd_H_heap_2 : decode jb_H_heap 2 = .ok (.invokevirtual 127, 3) := by decide +kernel
theorem jd_H_heap_5 : decode jb_H_heap 5 = .ok (.ifCond .eq 16, 3) := by decide +kernel
theorem jd_H_heap_8 : decode jb_H_heap 8 = .ok (.aload_n 0, 1) := by decide +kernel
theorem jd_H_heap_9 : decode jb_H_heap 9 = .ok (.iload_n 2, 1) := by decide +kernel
theorem jd_H_heap_10 : decode jb_H_heap 10 = .ok (.invokevirtual 127, 3) := by decide +kernel
theorem jd_H_heap_13 : decode jb_H_heap 13 = .ok (.ifCond .eq 8, 3) := by decide +kernel
theorem jd_H_heap_16 : decode jb_H_heap 16 = .ok (.iload_n 1, 1) := by decide +kernel
theorem jd_H_heap_17 : decode jb_H_heap 17 = .ok (.iload_n 2, 1) := by decide +kernel
theorem jd_H_heap_18 : decode jb_H_heap 18 = .ok (.if_icmp .ne 5, 3) := by decide +kernel
theorem jd_H_heap_21 : decode jb_H_heap 21 = .ok (.iconst (-1), 1) := by decide +kernel
theorem jd_H_heap_22 : decode jb_H_heap 22 = .ok (.ireturn, 1) := by decide +kernel
theorem jd_H_heap_23 : decode jb_H_heap 23 = .ok (.aload_n 0, 1) := by decide +kernel
theorem jd_H_heap_24 : decode jb_H_heap 24 = .ok (.getfield 19, 3) := by decide +kernel
theorem jd_H_heap_27 : decode jb_H_heap 27 = .ok (.iload_n 1, 1) := by decide +kernel
theorem jd_H_heap_28 : decode jb_H_heap 28 = .ok (.invokevirtual 133, 3) := by decide +kernel
theorem jd_H_heap_31 : decode jb_H_heap 31 = .ok (.ifCond .ne 6, 3) := by decide +kernel
theorem jd_H_heap_34 : decode jb_H_heap 34 = .ok (.bipush (-2), 2) := by decide +kernel
theorem jd_H_heap_36 : decode jb_H_heap 36 = .ok (.ireturn, 1) := by decide +kernel
theorem jd_H_heap_37 : decode jb_H_heap 37 = .ok (.aload_n 0, 1) := by decide +kernel
theorem jd_H_heap_38 : decode jb_H_heap 38 = .ok (.getfield 19, 3) := by decide +kernel
theorem jd_H_heap_41 : decode jb_H_heap 41 = .ok (.iload_n 1, 1) := by decide +kernel
theorem jd_H_heap_42 : decode jb_H_heap 42 = .ok (.invokevirtual 133, 3) := by decide +kernel
theorem jd_H_heap_45 : decode jb_H_heap 45 = .ok (.aload_n 0, 1) := by decide +kernel
theorem jd_H_heap_46 : decode jb_H_heap 46 = .ok (.getfield 19, 3) := by decide +kernel
theorem jd_H_heap_49 : decode jb_H_heap 49 = .ok (.iload_n 2, 1) := by decide +kernel
theorem jd_H_heap_50 : decode jb_H_heap 50 = .ok (.invokevirtual 133, 3) := by decide +kernel
theorem jd_H_heap_53 : decode jb_H_heap 53 = .ok (.iadd, 1) := by decide +kernel
theorem jd_H_heap_54 : decode jb_H_heap 54 = .ok (.bipush 8, 2) := by decide +kernel
theorem jd_H_heap_56 : decode jb_H_heap 56 = .ok (.if_icmp .le 6, 3) := by decide +kernel
theorem jd_H_heap_59 : decode jb_H_heap 59 = .ok (.bipush (-3), 2) := by decide +kernel
theorem jd_H_heap_61 : decode jb_H_heap 61 = .ok (.ireturn, 1) := by decide +kernel
theorem jd_H_heap_62 : decode jb_H_heap 62 = .ok (.aload_n 0, 1) := by decide +kernel
theorem jd_H_heap_63 : decode jb_H_heap 63 = .ok (.getfield 31, 3) := by decide +kernel
theorem jd_H_heap_66 : decode jb_H_heap 66 = .ok (.aload_n 0, 1) := by decide +kernel
theorem jd_H_heap_67 : decode jb_H_heap 67 = .ok (.getfield 19, 3) := by decide +kernel
theorem jd_H_heap_70 : decode jb_H_heap 70 = .ok (.invokevirtual 151, 3) := by decide +kernel
theorem jd_H_heap_73 : decode jb_H_heap 73 = .ok (.aload_n 0, 1) := by decide +kernel
theorem jd_H_heap_74 : decode jb_H_heap 74 = .ok (.getfield 19, 3) := by decide +kernel
theorem jd_H_heap_77 : decode jb_H_heap 77 = .ok (.iload_n 1, 1) := by decide +kernel
theorem jd_H_heap_78 : decode jb_H_heap 78 = .ok (.iload_n 2, 1) := by decide +kernel
theorem jd_H_heap_79 : decode jb_H_heap 79 = .ok (.invokevirtual 174, 3) := by decide +kernel
theorem jd_H_heap_82 : decode jb_H_heap 82 = .ok (.aload_n 0, 1) := by decide +kernel
theorem jd_H_heap_83 : decode jb_H_heap 83 = .ok (.getfield 19, 3) := by decide +kernel
theorem jd_H_heap_86 : decode jb_H_heap 86 = .ok (.iload_n 2, 1) := by decide +kernel
theorem jd_H_heap_87 : decode jb_H_heap 87 = .ok (.invokevirtual 133, 3) := by decide +kernel
theorem jd_H_heap_90 : decode jb_H_heap 90 = .ok (.ireturn, 1) := by decide +kernel
theorem jd_H_undo_0 : decode jb_H_undo 0 = .ok (.aload_n 0, 1) := by decide +kernel
theorem jd_H_undo_1 : decode jb_H_undo 1 = .ok (.getfield 31, 3) := by decide +kernel
theorem jd_H_undo_4 : decode jb_H_undo 4 = .ok (.getfield 178, 3) := by decide +kernel
theorem jd_H_undo_7 : decode jb_H_undo 7 = .ok (.ifCond .ne 6, 3) := by decide +kernel
theorem jd_H_undo_10 : decode jb_H_undo 10 = .ok (.bipush (-2), 2) := by decide +kernel
theorem jd_H_undo_12 : decode jb_H_undo 12 = .ok (.ireturn, 1) := by decide +kernel
theorem jd_H_undo_13 : decode jb_H_undo 13 = .ok (.aload_n 0, 1) := by decide +kernel
theorem jd_H_undo_14 : decode jb_H_undo 14 = .ok (.getfield 31, 3) := by decide +kernel
theorem jd_H_undo_17 : decode jb_H_undo 17 = .ok (.aload_n 0, 1) := by decide +kernel
theorem jd_H_undo_18 : decode jb_H_undo 18 = .ok (.getfield 19, 3) := by decide +kernel
theorem jd_H_undo_21 : decode jb_H_undo 21 = .ok (.invokevirtual 179, 3) := by decide +kernel
theorem jd_H_undo_24 : decode jb_H_undo 24 = .ok (.aload_n 0, 1) := by decide +kernel
theorem jd_H_undo_25 : decode jb_H_undo 25 = .ok (.getfield 31, 3) := by decide +kernel
theorem jd_H_undo_28 : decode jb_H_undo 28 = .ok (.getfield 178, 3) := by decide +kernel
theorem jd_H_undo_31 : decode jb_H_undo 31 = .ok (.ireturn, 1) := by decide +kernel
theorem jd_H_behind_0 : decode jb_H_behind 0 = .ok (.iload_n 1, 1) := by decide +kernel
theorem jd_H_behind_1 : decode jb_H_behind 1 = .ok (.iconst 0, 1) := by decide +kernel
theorem jd_H_behind_2 : decode jb_H_behind 2 = .ok (.bipush 40, 2) := by decide +kernel
theorem jd_H_behind_4 : decode jb_H_behind 4 = .ok (.invokestatic 65, 3) := by decide +kernel
theorem jd_H_behind_7 : decode jb_H_behind 7 = .ok (.ifCond .eq 20, 3) := by decide +kernel
theorem jd_H_behind_10 : decode jb_H_behind 10 = .ok (.aload_n 0, 1) := by decide +kernel
theorem jd_H_behind_11 : decode jb_H_behind 11 = .ok (.iload_n 2, 1) := by decide +kernel
theorem jd_H_behind_12 : decode jb_H_behind 12 = .ok (.invokevirtual 93, 3) := by decide +kernel
theorem jd_H_behind_15 : decode jb_H_behind 15 = .ok (.ifCond .eq 12, 3) := by decide +kernel
theorem jd_H_behind_18 : decode jb_H_behind 18 = .ok (.iload_n 3, 1) := by decide +kernel
theorem jd_H_behind_19 : decode jb_H_behind 19 = .ok (.iconst 0, 1) := by decide +kernel
theorem jd_H_behind_20 : decode jb_H_behind 20 = .ok (.iconst 1, 1) := by decide +kernel
theorem jd_H_behind_21 : decode jb_H_behind 21 = .ok (.invokestatic 65, 3) := by decide +kernel
theorem jd_H_behind_24 : decode jb_H_behind 24 = .ok (.ifCond .ne 5, 3) := by decide +kernel
theorem jd_H_behind_27 : decode jb_H_behind 27 = .ok (.iconst (-1), 1) := by decide +kernel
theorem jd_H_behind_28 : decode jb_H_behind 28 = .ok (.ireturn, 1) := by decide +kernel
theorem jd_H_behind_29 : decode jb_H_behind 29 = .ok (.aload_n 0, 1) := by decide +kernel
theorem jd_H_behind_30 : decode jb_H_behind 30 = .ok (.getfield 23, 3) := by decide +kernel
theorem jd_H_behind_33 : decode jb_H_behind 33 = .ok (.aload_n 0, 1) := by decide +kernel
theorem jd_H_behind_34 : decode jb_H_behind 34 = .ok (.getfield 19, 3) := by decide +kernel
theorem jd_H_behind_37 : decode jb_H_behind 37 = .ok (.invokevirtual 182, 3) := by decide +kernel
theorem jd_H_behind_40 : decode jb_H_behind 40 = .ok (.aload_n 0, 1) := by decide +kernel
theorem jd_H_behind_41 : decode jb_H_behind 41 = .ok (.getfield 23, 3) := by decide +kernel
theorem jd_H_behind_44 : decode jb_H_behind 44 = .ok (.aload_n 0, 1) := by decide +kernel
theorem jd_H_behind_45 : decode jb_H_behind 45 = .ok (.getfield 48, 3) := by decide +kernel
theorem jd_H_behind_48 : decode jb_H_behind 48 = .ok (.iload_n 1, 1) := by decide +kernel
theorem jd_H_behind_49 : decode jb_H_behind 49 = .ok (.invokevirtual 155, 3) := by decide +kernel
theorem jd_H_behind_52 : decode jb_H_behind 52 = .ok (.iload_n 3, 1) := by decide +kernel
theorem jd_H_behind_53 : decode jb_H_behind 53 = .ok (.ifCond .ne 13, 3) := by decide +kernel
theorem jd_H_behind_56 : decode jb_H_behind 56 = .ok (.aload_n 0, 1) := by decide +kernel
theorem jd_H_behind_57 : decode jb_H_behind 57 = .ok (.getfield 23, 3) := by decide +kernel
theorem jd_H_behind_60 : decode jb_H_behind 60 = .ok (.getfield 104, 3) := by decide +kernel
theorem jd_H_behind_63 : decode jb_H_behind 63 = .ok (.goto 10, 3) := by decide +kernel
theorem jd_H_behind_66 : decode jb_H_behind 66 = .ok (.aload_n 0, 1) := by decide +kernel
theorem jd_H_behind_67 : decode jb_H_behind 67 = .ok (.getfield 23, 3) := by decide +kernel
theorem jd_H_behind_70 : decode jb_H_behind 70 = .ok (.getfield 114, 3) := by decide +kernel
theorem jd_H_behind_73 : decode jb_H_behind 73 = .ok (.iload_n 2, 1) := by decide +kernel
theorem jd_H_behind_74 : decode jb_H_behind 74 = .ok (.invokestatic 108, 3) := by decide +kernel
theorem jd_H_behind_77 : decode jb_H_behind 77 = .ok (.ireturn, 1) := by decide +kernel
theorem jd_H_burns_0 : decode jb_H_burns 0 = .ok (.aload_n 0, 1) := by decide +kernel
theorem jd_H_burns_1 : decode jb_H_burns 1 = .ok (.iload_n 1, 1) := by decide +kernel
theorem jd_H_burns_2 : decode jb_H_burns 2 = .ok (.invokevirtual 127, 3) := by decide +kernel
theorem jd_H_burns_5 : decode jb_H_burns 5 = .ok (.ifCond .ne 5, 3) := by decide +kernel
theorem jd_H_burns_8 : decode jb_H_burns 8 = .ok (.iconst (-1), 1) := by decide +kernel
theorem jd_H_burns_9 : decode jb_H_burns 9 = .ok (.ireturn, 1) := by decide +kernel
theorem jd_H_burns_10 : decode jb_H_burns 10 = .ok (.aload_n 0, 1) := by decide +kernel
theorem jd_H_burns_11 : decode jb_H_burns 11 = .ok (.getfield 23, 3) := by decide +kernel
theorem jd_H_burns_14 : decode jb_H_burns 14 = .ok (.aload_n 0, 1) := by decide +kernel
theorem jd_H_burns_15 : decode jb_H_burns 15 = .ok (.getfield 19, 3) := by decide +kernel
theorem jd_H_burns_18 : decode jb_H_burns 18 = .ok (.invokevirtual 182, 3) := by decide +kernel
theorem jd_H_burns_21 : decode jb_H_burns 21 = .ok (.aload_n 0, 1) := by decide +kernel
theorem jd_H_burns_22 : decode jb_H_burns 22 = .ok (.getfield 23, 3) := by decide +kernel
theorem jd_H_burns_25 : decode jb_H_burns 25 = .ok (.getfield 139, 3) := by decide +kernel
theorem jd_H_burns_28 : decode jb_H_burns 28 = .ok (.iload_n 1, 1) := by decide +kernel
theorem jd_H_burns_29 : decode jb_H_burns 29 = .ok (.invokestatic 108, 3) := by decide +kernel
theorem jd_H_burns_32 : decode jb_H_burns 32 = .ok (.istore_n 2, 1) := by decide +kernel
theorem jd_H_burns_33 : decode jb_H_burns 33 = .ok (.iconst 1, 1) := by decide +kernel
theorem jd_H_burns_34 : decode jb_H_burns 34 = .ok (.istore_n 3, 1) := by decide +kernel
theorem jd_H_burns_35 : decode jb_H_burns 35 = .ok (.iload_n 3, 1) := by decide +kernel
theorem jd_H_burns_36 : decode jb_H_burns 36 = .ok (.bipush 60, 2) := by decide +kernel
theorem jd_H_burns_38 : decode jb_H_burns 38 = .ok (.if_icmp .gt 37, 3) := by decide +kernel
theorem jd_H_burns_41 : decode jb_H_burns 41 = .ok (.aload_n 0, 1) := by decide +kernel
theorem jd_H_burns_42 : decode jb_H_burns 42 = .ok (.getfield 23, 3) := by decide +kernel
theorem jd_H_burns_45 : decode jb_H_burns 45 = .ok (.aload_n 0, 1) := by decide +kernel
theorem jd_H_burns_46 : decode jb_H_burns 46 = .ok (.getfield 48, 3) := by decide +kernel
theorem jd_H_burns_49 : decode jb_H_burns 49 = .ok (.invokevirtual 185, 3) := by decide +kernel
theorem jd_H_burns_52 : decode jb_H_burns 52 = .ok (.aload_n 0, 1) := by decide +kernel
theorem jd_H_burns_53 : decode jb_H_burns 53 = .ok (.getfield 23, 3) := by decide +kernel
theorem jd_H_burns_56 : decode jb_H_burns 56 = .ok (.getfield 139, 3) := by decide +kernel
theorem jd_H_burns_59 : decode jb_H_burns 59 = .ok (.iload_n 1, 1) := by decide +kernel
theorem jd_H_burns_60 : decode jb_H_burns 60 = .ok (.invokestatic 108, 3) := by decide +kernel
theorem jd_H_burns_63 : decode jb_H_burns 63 = .ok (.iload_n 2, 1) := by decide +kernel
theorem jd_H_burns_64 : decode jb_H_burns 64 = .ok (.if_icmp .le 5, 3) := by decide +kernel
theorem jd_H_burns_67 : decode jb_H_burns 67 = .ok (.iload_n 3, 1) := by decide +kernel
theorem jd_H_burns_68 : decode jb_H_burns 68 = .ok (.ireturn, 1) := by decide +kernel
theorem jd_H_burns_69 : decode jb_H_burns 69 = .ok (.iinc 3 1, 3) := by decide +kernel
theorem jd_H_burns_72 : decode jb_H_burns 72 = .ok (.goto (-37), 3) := by decide +kernel
theorem jd_H_burns_75 : decode jb_H_burns 75 = .ok (.bipush (-4), 2) := by decide +kernel
theorem jd_H_burns_77 : decode jb_H_burns 77 = .ok (.ireturn, 1) := by decide +kernel
theorem jd_H_cutsOfThird_0 : decode jb_H_cutsOfThird 0 = .ok (.iload_n 3, 1) := by decide +kernel
theorem jd_H_cutsOfThird_1 : decode jb_H_cutsOfThird 1 = .ok (.istore 4, 2) := by decide +kernel
theorem jd_H_cutsOfThird_3 : decode jb_H_cutsOfThird 3 = .ok (.iconst 0, 1) := by decide +kernel
theorem jd_H_cutsOfThird_4 : decode jb_H_cutsOfThird 4 = .ok (.istore 5, 2) := by decide +kernel
theorem jd_H_cutsOfThird_6 : decode jb_H_cutsOfThird 6 = .ok (.iload 5, 2) := by decide +kernel
theorem jd_H_cutsOfThird_8 : decode jb_H_cutsOfThird 8 = .ok (.aload_n 0, 1) := by decide +kernel
theorem jd_H_cutsOfThird_9 : decode jb_H_cutsOfThird 9 = .ok (.getfield 19, 3) := by decide +kernel
theorem jd_H_cutsOfThird_12 : decode jb_H_cutsOfThird 12 = .ok (.iconst 2, 1) := by decide +kernel
theorem jd_H_cutsOfThird_13 : decode jb_H_cutsOfThird 13 = .ok (.invokevirtual 133, 3) := by decide +kernel
theorem jd_H_cutsOfThird_16 : decode jb_H_cutsOfThird 16 = .ok (.if_icmp .gt 41, 3) := by decide +kernel
theorem jd_H_cutsOfThird_19 : decode jb_H_cutsOfThird 19 = .ok (.iload 4, 2) := by decide +kernel
theorem jd_H_cutsOfThird_21 : decode jb_H_cutsOfThird 21 = .ok (.iload_n 2, 1) := by decide +kernel
theorem jd_H_cutsOfThird_22 : decode jb_H_cutsOfThird 22 = .ok (.iand, 1) := by decide +kernel
theorem jd_H_cutsOfThird_23 : decode jb_H_cutsOfThird 23 = .ok (.iload_n 2, 1) := by decide +kernel
theorem jd_H_cutsOfThird_24 : decode jb_H_cutsOfThird 24 = .ok (.if_icmp .ne 6, 3) := by decide +kernel
theorem jd_H_cutsOfThird_27 : decode jb_H_cutsOfThird 27 = .ok (.iload 5, 2) := by decide +kernel
theorem jd_H_cutsOfThird_29 : decode jb_H_cutsOfThird 29 = .ok (.ireturn, 1) := by decide +kernel
theorem jd_H_cutsOfThird_30 : decode jb_H_cutsOfThird 30 = .ok (.iload 4, 2) := by decide +kernel
theorem jd_H_cutsOfThird_32 : decode jb_H_cutsOfThird 32 = .ok (.iload_n 1, 1) := by decide +kernel
theorem jd_H_cutsOfThird_33 : decode jb_H_cutsOfThird 33 = .ok (.aload_n 0, 1) := by decide +kernel
theorem jd_H_cutsOfThird_34 : decode jb_H_cutsOfThird 34 = .ok (.getfield 19, 3) := by decide +kernel
theorem jd_H_cutsOfThird_37 : decode jb_H_cutsOfThird 37 = .ok (.iconst 2, 1) := by decide +kernel
theorem jd_H_cutsOfThird_38 : decode jb_H_cutsOfThird 38 = .ok (.iload 5, 2) := by decide +kernel
theorem jd_H_cutsOfThird_40 : decode jb_H_cutsOfThird 40 = .ok (.invokevirtual 257, 3) := by decide +kernel
theorem jd_H_cutsOfThird_43 : decode jb_H_cutsOfThird 43 = .ok (.iload 4, 2) := by decide +kernel
theorem jd_H_cutsOfThird_45 : decode jb_H_cutsOfThird 45 = .ok (.invokestatic 219, 3) := by decide +kernel
theorem jd_H_cutsOfThird_48 : decode jb_H_cutsOfThird 48 = .ok (.ior, 1) := by decide +kernel
theorem jd_H_cutsOfThird_49 : decode jb_H_cutsOfThird 49 = .ok (.istore 4, 2) := by decide +kernel
theorem jd_H_cutsOfThird_51 : decode jb_H_cutsOfThird 51 = .ok (.iinc 5 1, 3) := by decide +kernel
theorem jd_H_cutsOfThird_54 : decode jb_H_cutsOfThird 54 = .ok (.goto (-48), 3) := by decide +kernel
theorem jd_H_cutsOfThird_57 : decode jb_H_cutsOfThird 57 = .ok (.bipush (-4), 2) := by decide +kernel
theorem jd_H_cutsOfThird_59 : decode jb_H_cutsOfThird 59 = .ok (.ireturn, 1) := by decide +kernel
theorem jd_H_fewestCuts_0 : decode jb_H_fewestCuts 0 = .ok (.aload_n 0, 1) := by decide +kernel
theorem jd_H_fewestCuts_1 : decode jb_H_fewestCuts 1 = .ok (.getfield 48, 3) := by decide +kernel
theorem jd_H_fewestCuts_4 : decode jb_H_fewestCuts 4 = .ok (.iload_n 1, 1) := by decide +kernel
theorem jd_H_fewestCuts_5 : decode jb_H_fewestCuts 5 = .ok (.invokevirtual 120, 3) := by decide +kernel
theorem jd_H_fewestCuts_8 : decode jb_H_fewestCuts 8 = .ok (.istore_n 3, 1) := by decide +kernel
theorem jd_H_fewestCuts_9 : decode jb_H_fewestCuts 9 = .ok (.bipush (-4), 2) := by decide +kernel
theorem jd_H_fewestCuts_11 : decode jb_H_fewestCuts 11 = .ok (.istore 4, 2) := by decide +kernel
theorem jd_H_fewestCuts_13 : decode jb_H_fewestCuts 13 = .ok (.bipush 24, 2) := by decide +kernel
theorem jd_H_fewestCuts_15 : decode jb_H_fewestCuts 15 = .ok (.istore 5, 2) := by decide +kernel
theorem jd_H_fewestCuts_17 : decode jb_H_fewestCuts 17 = .ok (.aload_n 0, 1) := by decide +kernel
theorem jd_H_fewestCuts_18 : decode jb_H_fewestCuts 18 = .ok (.getfield 19, 3) := by decide +kernel
theorem jd_H_fewestCuts_21 : decode jb_H_fewestCuts 21 = .ok (.getfield 124, 3) := by decide +kernel
theorem jd_H_fewestCuts_24 : decode jb_H_fewestCuts 24 = .ok (.iload_n 1, 1) := by decide +kernel
theorem jd_H_fewestCuts_25 : decode jb_H_fewestCuts 25 = .ok (.invokestatic 108, 3) := by decide +kernel
theorem jd_H_fewestCuts_28 : decode jb_H_fewestCuts 28 = .ok (.istore 6, 2) := by decide +kernel
theorem jd_H_fewestCuts_30 : decode jb_H_fewestCuts 30 = .ok (.iconst 0, 1) := by decide +kernel
theorem jd_H_fewestCuts_31 : decode jb_H_fewestCuts 31 = .ok (.istore 7, 2) := by decide +kernel
theorem jd_H_fewestCuts_33 : decode jb_H_fewestCuts 33 = .ok (.iload 7, 2) := by decide +kernel
theorem jd_H_fewestCuts_35 : decode jb_H_fewestCuts 35 = .ok (.aload_n 0, 1) := by decide +kernel
theorem jd_H_fewestCuts_36 : decode jb_H_fewestCuts 36 = .ok (.getfield 19, 3) := by decide +kernel
theorem jd_H_fewestCuts_39 : decode jb_H_fewestCuts 39 = .ok (.iconst 0, 1) := by decide +kernel
theorem jd_H_fewestCuts_40 : decode jb_H_fewestCuts 40 = .ok (.invokevirtual 133, 3) := by decide +kernel
theorem jd_H_fewestCuts_43 : decode jb_H_fewestCuts 43 = .ok (.if_icmp .gt 133, 3) := by decide +kernel
theorem jd_H_fewestCuts_46 : decode jb_H_fewestCuts 46 = .ok (.iload 6, 2) := by decide +kernel
theorem jd_H_fewestCuts_48 : decode jb_H_fewestCuts 48 = .ok (.istore 8, 2) := by decide +kernel
theorem jd_H_fewestCuts_50 : decode jb_H_fewestCuts 50 = .ok (.iconst 0, 1) := by decide +kernel
theorem jd_H_fewestCuts_51 : decode jb_H_fewestCuts 51 = .ok (.istore 9, 2) := by decide +kernel
theorem jd_H_fewestCuts_53 : decode jb_H_fewestCuts 53 = .ok (.iload 9, 2) := by decide +kernel
theorem jd_H_fewestCuts_55 : decode jb_H_fewestCuts 55 = .ok (.aload_n 0, 1) := by decide +kernel
theorem jd_H_fewestCuts_56 : decode jb_H_fewestCuts 56 = .ok (.getfield 19, 3) := by decide +kernel
theorem jd_H_fewestCuts_59 : decode jb_H_fewestCuts 59 = .ok (.iconst 1, 1) := by decide +kernel
theorem jd_H_fewestCuts_60 : decode jb_H_fewestCuts 60 = .ok (.invokevirtual 133, 3) := by decide +kernel
theorem jd_H_fewestCuts_63 : decode jb_H_fewestCuts 63 = .ok (.if_icmp .gt 86, 3) := by decide +kernel
theorem jd_H_fewestCuts_66 : decode jb_H_fewestCuts 66 = .ok (.aload_n 0, 1) := by decide +kernel
theorem jd_H_fewestCuts_67 : decode jb_H_fewestCuts 67 = .ok (.iload_n 3, 1) := by decide +kernel
theorem jd_H_fewestCuts_68 : decode jb_H_fewestCuts 68 = .ok (.iload_n 2, 1) := by decide +kernel
theorem jd_H_fewestCuts_69 : decode jb_H_fewestCuts 69 = .ok (.iload 8, 2) := by decide +kernel
theorem jd_H_fewestCuts_71 : decode jb_H_fewestCuts 71 = .ok (.invokevirtual 254, 3) := by decide +kernel
theorem jd_H_fewestCuts_74 : decode jb_H_fewestCuts 74 = .ok (.istore 10, 2) := by decide +kernel
theorem jd_H_fewestCuts_76 : decode jb_H_fewestCuts 76 = .ok (.iload 10, 2) := by decide +kernel
theorem jd_H_fewestCuts_78 : decode jb_H_fewestCuts 78 = .ok (.bipush (-4), 2) := by decide +kernel
theorem jd_H_fewestCuts_80 : decode jb_H_fewestCuts 80 = .ok (.if_icmp .eq 42, 3) := by decide +kernel
theorem jd_H_fewestCuts_83 : decode jb_H_fewestCuts 83 = .ok (.iload 7, 2) := by decide +kernel
theorem jd_H_fewestCuts_85 : decode jb_H_fewestCuts 85 = .ok (.iload 9, 2) := by decide +kernel
theorem jd_H_fewestCuts_87 : decode jb_H_fewestCuts 87 = .ok (.iadd, 1) := by decide +kernel
theorem jd_H_fewestCuts_88 : decode jb_H_fewestCuts 88 = .ok (.iload 10, 2) := by decide +kernel
theorem jd_H_fewestCuts_90 : decode jb_H_fewestCuts 90 = .ok (.iadd, 1) := by decide +kernel
theorem jd_H_fewestCuts_91 : decode jb_H_fewestCuts 91 = .ok (.iload 5, 2) := by decide +kernel
theorem jd_H_fewestCuts_93 : decode jb_H_fewestCuts 93 = .ok (.if_icmp .gt 29, 3) := by decide +kernel
theorem jd_H_fewestCuts_96 : decode jb_H_fewestCuts 96 = .ok (.iload 7, 2) := by decide +kernel
theorem jd_H_fewestCuts_98 : decode jb_H_fewestCuts 98 = .ok (.iload 9, 2) := by decide +kernel
theorem jd_H_fewestCuts_100 : decode jb_H_fewestCuts 100 = .ok (.iadd, 1) := by decide +kernel
theorem jd_H_fewestCuts_101 : decode jb_H_fewestCuts 101 = .ok (.iload 10, 2) := by decide +kernel
theorem jd_H_fewestCuts_103 : decode jb_H_fewestCuts 103 = .ok (.iadd, 1) := by decide +kernel
theorem jd_H_fewestCuts_104 : decode jb_H_fewestCuts 104 = .ok (.istore 5, 2) := by decide +kernel
theorem jd_H_fewestCuts_106 : decode jb_H_fewestCuts 106 = .ok (.bipush 100, 2) := by decide +kernel
theorem jd_H_fewestCuts_108 : decode jb_H_fewestCuts 108 = .ok (.iload 7, 2) := by decide +kernel
theorem jd_H_fewestCuts_110 : decode jb_H_fewestCuts 110 = .ok (.imul, 1) := by decide +kernel
theorem jd_H_fewestCuts_111 : decode jb_H_fewestCuts 111 = .ok (.bipush 10, 2) := by decide +kernel
theorem jd_H_fewestCuts_113 : decode jb_H_fewestCuts 113 = .ok (.iload 9, 2) := by decide +kernel
theorem jd_H_fewestCuts_115 : decode jb_H_fewestCuts 115 = .ok (.imul, 1) := by decide +kernel
theorem jd_H_fewestCuts_116 : decode jb_H_fewestCuts 116 = .ok (.iadd, 1) := by decide +kernel
theorem jd_H_fewestCuts_117 : decode jb_H_fewestCuts 117 = .ok (.iload 10, 2) := by decide +kernel
theorem jd_H_fewestCuts_119 : decode jb_H_fewestCuts 119 = .ok (.iadd, 1) := by decide +kernel
theorem jd_H_fewestCuts_120 : decode jb_H_fewestCuts 120 = .ok (.istore 4, 2) := by decide +kernel
theorem jd_H_fewestCuts_122 : decode jb_H_fewestCuts 122 = .ok (.iload 8, 2) := by decide +kernel
theorem jd_H_fewestCuts_124 : decode jb_H_fewestCuts 124 = .ok (.iload_n 3, 1) := by decide +kernel
theorem jd_H_fewestCuts_125 : decode jb_H_fewestCuts 125 = .ok (.aload_n 0, 1) := by decide +kernel
theorem jd_H_fewestCuts_126 : decode jb_H_fewestCuts 126 = .ok (.getfield 19, 3) := by decide +kernel
theorem jd_H_fewestCuts_129 : decode jb_H_fewestCuts 129 = .ok (.iconst 1, 1) := by decide +kernel
theorem jd_H_fewestCuts_130 : decode jb_H_fewestCuts 130 = .ok (.iload 9, 2) := by decide +kernel
theorem jd_H_fewestCuts_132 : decode jb_H_fewestCuts 132 = .ok (.invokevirtual 257, 3) := by decide +kernel
theorem jd_H_fewestCuts_135 : decode jb_H_fewestCuts 135 = .ok (.iload 8, 2) := by decide +kernel
theorem jd_H_fewestCuts_137 : decode jb_H_fewestCuts 137 = .ok (.invokestatic 219, 3) := by decide +kernel
theorem jd_H_fewestCuts_140 : decode jb_H_fewestCuts 140 = .ok (.ior, 1) := by decide +kernel
theorem jd_H_fewestCuts_141 : decode jb_H_fewestCuts 141 = .ok (.istore 8, 2) := by decide +kernel
theorem jd_H_fewestCuts_143 : decode jb_H_fewestCuts 143 = .ok (.iinc 9 1, 3) := by decide +kernel
theorem jd_H_fewestCuts_146 : decode jb_H_fewestCuts 146 = .ok (.goto (-93), 3) := by decide +kernel
theorem jd_H_fewestCuts_149 : decode jb_H_fewestCuts 149 = .ok (.iload 6, 2) := by decide +kernel
theorem jd_H_fewestCuts_151 : decode jb_H_fewestCuts 151 = .ok (.iload_n 3, 1) := by decide +kernel
theorem jd_H_fewestCuts_152 : decode jb_H_fewestCuts 152 = .ok (.aload_n 0, 1) := by decide +kernel
theorem jd_H_fewestCuts_153 : decode jb_H_fewestCuts 153 = .ok (.getfield 19, 3) := by decide +kernel
theorem jd_H_fewestCuts_156 : decode jb_H_fewestCuts 156 = .ok (.iconst 0, 1) := by decide +kernel
theorem jd_H_fewestCuts_157 : decode jb_H_fewestCuts 157 = .ok (.iload 7, 2) := by decide +kernel
theorem jd_H_fewestCuts_159 : decode jb_H_fewestCuts 159 = .ok (.invokevirtual 257, 3) := by decide +kernel
theorem jd_H_fewestCuts_162 : decode jb_H_fewestCuts 162 = .ok (.iload 6, 2) := by decide +kernel
theorem jd_H_fewestCuts_164 : decode jb_H_fewestCuts 164 = .ok (.invokestatic 219, 3) := by decide +kernel
theorem jd_H_fewestCuts_167 : decode jb_H_fewestCuts 167 = .ok (.ior, 1) := by decide +kernel
theorem jd_H_fewestCuts_168 : decode jb_H_fewestCuts 168 = .ok (.istore 6, 2) := by decide +kernel
theorem jd_H_fewestCuts_170 : decode jb_H_fewestCuts 170 = .ok (.iinc 7 1, 3) := by decide +kernel
theorem jd_H_fewestCuts_173 : decode jb_H_fewestCuts 173 = .ok (.goto (-140), 3) := by decide +kernel
theorem jd_H_fewestCuts_176 : decode jb_H_fewestCuts 176 = .ok (.iload 4, 2) := by decide +kernel
theorem jd_H_fewestCuts_178 : decode jb_H_fewestCuts 178 = .ok (.ireturn, 1) := by decide +kernel
theorem jd_H_tell_0 : decode jb_H_tell 0 = .ok (.aload_n 0, 1) := by decide +kernel
theorem jd_H_tell_1 : decode jb_H_tell 1 = .ok (.iload_n 1, 1) := by decide +kernel
theorem jd_H_tell_2 : decode jb_H_tell 2 = .ok (.invokevirtual 117, 3) := by decide +kernel
theorem jd_H_tell_5 : decode jb_H_tell 5 = .ok (.ifCond .eq 30, 3) := by decide +kernel
theorem jd_H_tell_8 : decode jb_H_tell 8 = .ok (.iload_n 2, 1) := by decide +kernel
theorem jd_H_tell_9 : decode jb_H_tell 9 = .ok (.iconst 1, 1) := by decide +kernel
theorem jd_H_tell_10 : decode jb_H_tell 10 = .ok (.sipush 1023, 3) := by decide +kernel
theorem jd_H_tell_13 : decode jb_H_tell 13 = .ok (.invokestatic 65, 3) := by decide +kernel
theorem jd_H_tell_16 : decode jb_H_tell 16 = .ok (.ifCond .eq 19, 3) := by decide +kernel
theorem jd_H_tell_19 : decode jb_H_tell 19 = .ok (.iload_n 3, 1) := by decide +kernel
theorem jd_H_tell_20 : decode jb_H_tell 20 = .ok (.iconst (-1), 1) := by decide +kernel
theorem jd_H_tell_21 : decode jb_H_tell 21 = .ok (.if_icmp .lt 14, 3) := by decide +kernel
theorem jd_H_tell_24 : decode jb_H_tell 24 = .ok (.iload_n 3, 1) := by decide +kernel
theorem jd_H_tell_25 : decode jb_H_tell 25 = .ok (.aload_n 0, 1) := by decide +kernel
theorem jd_H_tell_26 : decode jb_H_tell 26 = .ok (.getfield 48, 3) := by decide +kernel
theorem jd_H_tell_29 : decode jb_H_tell 29 = .ok (.getfield 189, 3) := by decide +kernel
theorem jd_H_tell_32 : decode jb_H_tell 32 = .ok (.if_icmp .lt 5, 3) := by decide +kernel
theorem jd_H_tell_35 : decode jb_H_tell 35 = .ok (.iconst (-1), 1) := by decide +kernel
theorem jd_H_tell_36 : decode jb_H_tell 36 = .ok (.ireturn, 1) := by decide +kernel
theorem jd_H_tell_37 : decode jb_H_tell 37 = .ok (.aload_n 0, 1) := by decide +kernel
theorem jd_H_tell_38 : decode jb_H_tell 38 = .ok (.iload_n 1, 1) := by decide +kernel
theorem jd_H_tell_39 : decode jb_H_tell 39 = .ok (.iload_n 2, 1) := by decide +kernel
theorem jd_H_tell_40 : decode jb_H_tell 40 = .ok (.invokevirtual 192, 3) := by decide +kernel
theorem jd_H_tell_43 : decode jb_H_tell 43 = .ok (.istore 4, 2) := by decide +kernel
theorem jd_H_tell_45 : decode jb_H_tell 45 = .ok (.iload 4, 2) := by decide +kernel
theorem jd_H_tell_47 : decode jb_H_tell 47 = .ok (.bipush (-4), 2) := by decide +kernel
theorem jd_H_tell_49 : decode jb_H_tell 49 = .ok (.if_icmp .ne 6, 3) := by decide +kernel
theorem jd_H_tell_52 : decode jb_H_tell 52 = .ok (.bipush (-4), 2) := by decide +kernel
theorem jd_H_tell_54 : decode jb_H_tell 54 = .ok (.ireturn, 1) := by decide +kernel
theorem jd_H_tell_55 : decode jb_H_tell 55 = .ok (.iload 4, 2) := by decide +kernel
theorem jd_H_tell_57 : decode jb_H_tell 57 = .ok (.bipush 100, 2) := by decide +kernel
theorem jd_H_tell_59 : decode jb_H_tell 59 = .ok (.idiv, 1) := by decide +kernel
theorem jd_H_tell_60 : decode jb_H_tell 60 = .ok (.istore 5, 2) := by decide +kernel
theorem jd_H_tell_62 : decode jb_H_tell 62 = .ok (.iload 4, 2) := by decide +kernel
theorem jd_H_tell_64 : decode jb_H_tell 64 = .ok (.bipush 10, 2) := by decide +kernel
theorem jd_H_tell_66 : decode jb_H_tell 66 = .ok (.idiv, 1) := by decide +kernel
theorem jd_H_tell_67 : decode jb_H_tell 67 = .ok (.bipush 10, 2) := by decide +kernel
theorem jd_H_tell_69 : decode jb_H_tell 69 = .ok (.irem, 1) := by decide +kernel
theorem jd_H_tell_70 : decode jb_H_tell 70 = .ok (.istore 6, 2) := by decide +kernel
theorem jd_H_tell_72 : decode jb_H_tell 72 = .ok (.iload 4, 2) := by decide +kernel
theorem jd_H_tell_74 : decode jb_H_tell 74 = .ok (.bipush 10, 2) := by decide +kernel
theorem jd_H_tell_76 : decode jb_H_tell 76 = .ok (.irem, 1) := by decide +kernel
theorem jd_H_tell_77 : decode jb_H_tell 77 = .ok (.istore 7, 2) := by decide +kernel
theorem jd_H_tell_79 : decode jb_H_tell 79 = .ok (.iload_n 3, 1) := by decide +kernel
theorem jd_H_tell_80 : decode jb_H_tell 80 = .ok (.tableswitch 37 0 2 #[28, 31, 34], 28) := by decide +kernel
theorem jd_H_tell_108 : decode jb_H_tell 108 = .ok (.iload 5, 2) := by decide +kernel
theorem jd_H_tell_110 : decode jb_H_tell 110 = .ok (.ireturn, 1) := by decide +kernel
theorem jd_H_tell_111 : decode jb_H_tell 111 = .ok (.iload 6, 2) := by decide +kernel
theorem jd_H_tell_113 : decode jb_H_tell 113 = .ok (.ireturn, 1) := by decide +kernel
theorem jd_H_tell_114 : decode jb_H_tell 114 = .ok (.iload 7, 2) := by decide +kernel
theorem jd_H_tell_116 : decode jb_H_tell 116 = .ok (.ireturn, 1) := by decide +kernel
theorem jd_H_tell_117 : decode jb_H_tell 117 = .ok (.iload 5, 2) := by decide +kernel
theorem jd_H_tell_119 : decode jb_H_tell 119 = .ok (.iload 6, 2) := by decide +kernel
theorem jd_H_tell_121 : decode jb_H_tell 121 = .ok (.iadd, 1) := by decide +kernel
theorem jd_H_tell_122 : decode jb_H_tell 122 = .ok (.iload 7, 2) := by decide +kernel
theorem jd_H_tell_124 : decode jb_H_tell 124 = .ok (.iadd, 1) := by decide +kernel
theorem jd_H_tell_125 : decode jb_H_tell 125 = .ok (.ireturn, 1) := by decide +kernel
theorem jd_H_rakes_0 : decode jb_H_rakes 0 = .ok (.iload_n 1, 1) := by decide +kernel
theorem jd_H_rakes_1 : decode jb_H_rakes 1 = .ok (.iconst 1, 1) := by decide +kernel
theorem jd_H_rakes_2 : decode jb_H_rakes 2 = .ok (.sipush 1023, 3) := by decide +kernel
theorem jd_H_rakes_5 : decode jb_H_rakes 5 = .ok (.invokestatic 65, 3) := by decide +kernel
theorem jd_H_rakes_8 : decode jb_H_rakes 8 = .ok (.ifCond .ne 5, 3) := by decide +kernel
theorem jd_H_rakes_11 : decode jb_H_rakes 11 = .ok (.iconst (-1), 1) := by decide +kernel
theorem jd_H_rakes_12 : decode jb_H_rakes 12 = .ok (.ireturn, 1) := by decide +kernel
theorem jd_H_rakes_13 : decode jb_H_rakes 13 = .ok (.bipush (-4), 2) := by decide +kernel
theorem jd_H_rakes_15 : decode jb_H_rakes 15 = .ok (.istore_n 2, 1) := by decide +kernel
theorem jd_H_rakes_16 : decode jb_H_rakes 16 = .ok (.bipush (-4), 2) := by decide +kernel
theorem jd_H_rakes_18 : decode jb_H_rakes 18 = .ok (.istore_n 3, 1) := by decide +kernel
theorem jd_H_rakes_19 : decode jb_H_rakes 19 = .ok (.iconst 0, 1) := by decide +kernel
theorem jd_H_rakes_20 : decode jb_H_rakes 20 = .ok (.istore 4, 2) := by decide +kernel
theorem jd_H_rakes_22 : decode jb_H_rakes 22 = .ok (.iload 4, 2) := by decide +kernel
theorem jd_H_rakes_24 : decode jb_H_rakes 24 = .ok (.aload_n 0, 1) := by decide +kernel
theorem jd_H_rakes_25 : decode jb_H_rakes 25 = .ok (.getfield 48, 3) := by decide +kernel
theorem jd_H_rakes_28 : decode jb_H_rakes 28 = .ok (.getfield 90, 3) := by decide +kernel
theorem jd_H_rakes_31 : decode jb_H_rakes 31 = .ok (.if_icmp .ge 87, 3) := by decide +kernel
theorem jd_H_rakes_34 : decode jb_H_rakes 34 = .ok (.iload 4, 2) := by decide +kernel
theorem jd_H_rakes_36 : decode jb_H_rakes 36 = .ok (.istore 5, 2) := by decide +kernel
theorem jd_H_rakes_38 : decode jb_H_rakes 38 = .ok (.iload 5, 2) := by decide +kernel
theorem jd_H_rakes_40 : decode jb_H_rakes 40 = .ok (.aload_n 0, 1) := by decide +kernel
theorem jd_H_rakes_41 : decode jb_H_rakes 41 = .ok (.getfield 48, 3) := by decide +kernel
theorem jd_H_rakes_44 : decode jb_H_rakes 44 = .ok (.getfield 90, 3) := by decide +kernel
theorem jd_H_rakes_47 : decode jb_H_rakes 47 = .ok (.if_icmp .ge 65, 3) := by decide +kernel
theorem jd_H_rakes_50 : decode jb_H_rakes 50 = .ok (.aload_n 0, 1) := by decide +kernel
theorem jd_H_rakes_51 : decode jb_H_rakes 51 = .ok (.getfield 19, 3) := by decide +kernel
theorem jd_H_rakes_54 : decode jb_H_rakes 54 = .ok (.iload 4, 2) := by decide +kernel
theorem jd_H_rakes_56 : decode jb_H_rakes 56 = .ok (.iload 5, 2) := by decide +kernel
theorem jd_H_rakes_58 : decode jb_H_rakes 58 = .ok (.invokevirtual 159, 3) := by decide +kernel
theorem jd_H_rakes_61 : decode jb_H_rakes 61 = .ok (.istore 6, 2) := by decide +kernel
theorem jd_H_rakes_63 : decode jb_H_rakes 63 = .ok (.iload 6, 2) := by decide +kernel
theorem jd_H_rakes_65 : decode jb_H_rakes 65 = .ok (.iload_n 1, 1) := by decide +kernel
theorem jd_H_rakes_66 : decode jb_H_rakes 66 = .ok (.iconst (-1), 1) := by decide +kernel
theorem jd_H_rakes_67 : decode jb_H_rakes 67 = .ok (.ixor, 1) := by decide +kernel
theorem jd_H_rakes_68 : decode jb_H_rakes 68 = .ok (.iand, 1) := by decide +kernel
theorem jd_H_rakes_69 : decode jb_H_rakes 69 = .ok (.invokestatic 195, 3) := by decide +kernel
theorem jd_H_rakes_72 : decode jb_H_rakes 72 = .ok (.istore 7, 2) := by decide +kernel
theorem jd_H_rakes_74 : decode jb_H_rakes 74 = .ok (.iload 6, 2) := by decide +kernel
theorem jd_H_rakes_76 : decode jb_H_rakes 76 = .ok (.iload_n 1, 1) := by decide +kernel
theorem jd_H_rakes_77 : decode jb_H_rakes 77 = .ok (.iand, 1) := by decide +kernel
theorem jd_H_rakes_78 : decode jb_H_rakes 78 = .ok (.iload_n 1, 1) := by decide +kernel
theorem jd_H_rakes_79 : decode jb_H_rakes 79 = .ok (.if_icmp .ne 27, 3) := by decide +kernel
theorem jd_H_rakes_82 : decode jb_H_rakes 82 = .ok (.iload_n 2, 1) := by decide +kernel
theorem jd_H_rakes_83 : decode jb_H_rakes 83 = .ok (.bipush (-4), 2) := by decide +kernel
theorem jd_H_rakes_85 : decode jb_H_rakes 85 = .ok (.if_icmp .eq 9, 3) := by decide +kernel
theorem jd_H_rakes_88 : decode jb_H_rakes 88 = .ok (.iload 7, 2) := by decide +kernel
theorem jd_H_rakes_90 : decode jb_H_rakes 90 = .ok (.iload_n 3, 1) := by decide +kernel
theorem jd_H_rakes_91 : decode jb_H_rakes 91 = .ok (.if_icmp .ge 15, 3) := by decide +kernel
theorem jd_H_rakes_94 : decode jb_H_rakes 94 = .ok (.iload 7, 2) := by decide +kernel
theorem jd_H_rakes_96 : decode jb_H_rakes 96 = .ok (.istore_n 3, 1) := by decide +kernel
theorem jd_H_rakes_97 : decode jb_H_rakes 97 = .ok (.bipush 10, 2) := by decide +kernel
theorem jd_H_rakes_99 : decode jb_H_rakes 99 = .ok (.iload 4, 2) := by decide +kernel
theorem jd_H_rakes_101 : decode jb_H_rakes 101 = .ok (.imul, 1) := by decide +kernel
theorem jd_H_rakes_102 : decode jb_H_rakes 102 = .ok (.iload 5, 2) := by decide +kernel
theorem jd_H_rakes_104 : decode jb_H_rakes 104 = .ok (.iadd, 1) := by decide +kernel
theorem jd_H_rakes_105 : decode jb_H_rakes 105 = .ok (.istore_n 2, 1) := by decide +kernel
theorem jd_H_rakes_106 : decode jb_H_rakes 106 = .ok (.iinc 5 1, 3) := by decide +kernel
theorem jd_H_rakes_109 : decode jb_H_rakes 109 = .ok (.goto (-71), 3) := by decide +kernel
theorem jd_H_rakes_112 : decode jb_H_rakes 112 = .ok (.iinc 4 1, 3) := by decide +kernel
theorem jd_H_rakes_115 : decode jb_H_rakes 115 = .ok (.goto (-93), 3) := by decide +kernel
theorem jd_H_rakes_118 : decode jb_H_rakes 118 = .ok (.iload_n 2, 1) := by decide +kernel
theorem jd_H_rakes_119 : decode jb_H_rakes 119 = .ok (.ireturn, 1) := by decide +kernel
theorem jd_H_most_0 : decode jb_H_most 0 = .ok (.aload_n 0, 1) := by decide +kernel
theorem jd_H_most_1 : decode jb_H_most 1 = .ok (.iload_n 1, 1) := by decide +kernel
theorem jd_H_most_2 : decode jb_H_most 2 = .ok (.invokevirtual 117, 3) := by decide +kernel
theorem jd_H_most_5 : decode jb_H_most 5 = .ok (.ifCond .eq 12, 3) := by decide +kernel
theorem jd_H_most_8 : decode jb_H_most 8 = .ok (.iload_n 2, 1) := by decide +kernel
theorem jd_H_most_9 : decode jb_H_most 9 = .ok (.iconst 0, 1) := by decide +kernel
theorem jd_H_most_10 : decode jb_H_most 10 = .ok (.iconst 1, 1) := by decide +kernel
theorem jd_H_most_11 : decode jb_H_most 11 = .ok (.invokestatic 65, 3) := by decide +kernel
theorem jd_H_most_14 : decode jb_H_most 14 = .ok (.ifCond .ne 5, 3) := by decide +kernel
theorem jd_H_most_17 : decode jb_H_most 17 = .ok (.iconst (-1), 1) := by decide +kernel
theorem jd_H_most_18 : decode jb_H_most 18 = .ok (.ireturn, 1) := by decide +kernel
theorem jd_H_most_19 : decode jb_H_most 19 = .ok (.bipush (-4), 2) := by decide +kernel
theorem jd_H_most_21 : decode jb_H_most 21 = .ok (.istore_n 3, 1) := by decide +kernel
theorem jd_H_most_22 : decode jb_H_most 22 = .ok (.bipush (-4), 2) := by decide +kernel
theorem jd_H_most_24 : decode jb_H_most 24 = .ok (.istore 4, 2) := by decide +kernel
theorem jd_H_most_26 : decode jb_H_most 26 = .ok (.iconst 0, 1) := by decide +kernel
theorem jd_H_most_27 : decode jb_H_most 27 = .ok (.istore 5, 2) := by decide +kernel
theorem jd_H_most_29 : decode jb_H_most 29 = .ok (.iload 5, 2) := by decide +kernel
theorem jd_H_most_31 : decode jb_H_most 31 = .ok (.aload_n 0, 1) := by decide +kernel
theorem jd_H_most_32 : decode jb_H_most 32 = .ok (.getfield 48, 3) := by decide +kernel
theorem jd_H_most_35 : decode jb_H_most 35 = .ok (.getfield 189, 3) := by decide +kernel
theorem jd_H_most_38 : decode jb_H_most 38 = .ok (.if_icmp .ge 58, 3) := by decide +kernel
theorem jd_H_most_41 : decode jb_H_most 41 = .ok (.aload_n 0, 1) := by decide +kernel
theorem jd_H_most_42 : decode jb_H_most 42 = .ok (.getfield 19, 3) := by decide +kernel
theorem jd_H_most_45 : decode jb_H_most 45 = .ok (.iload 5, 2) := by decide +kernel
theorem jd_H_most_47 : decode jb_H_most 47 = .ok (.iload_n 1, 1) := by decide +kernel
theorem jd_H_most_48 : decode jb_H_most 48 = .ok (.aload_n 0, 1) := by decide +kernel
theorem jd_H_most_49 : decode jb_H_most 49 = .ok (.getfield 48, 3) := by decide +kernel
theorem jd_H_most_52 : decode jb_H_most 52 = .ok (.iload_n 1, 1) := by decide +kernel
theorem jd_H_most_53 : decode jb_H_most 53 = .ok (.invokevirtual 120, 3) := by decide +kernel
theorem jd_H_most_56 : decode jb_H_most 56 = .ok (.invokevirtual 200, 3) := by decide +kernel
theorem jd_H_most_59 : decode jb_H_most 59 = .ok (.invokestatic 195, 3) := by decide +kernel
theorem jd_H_most_62 : decode jb_H_most 62 = .ok (.istore 6, 2) := by decide +kernel
theorem jd_H_most_64 : decode jb_H_most 64 = .ok (.aload_n 0, 1) := by decide +kernel
theorem jd_H_most_65 : decode jb_H_most 65 = .ok (.getfield 19, 3) := by decide +kernel
theorem jd_H_most_68 : decode jb_H_most 68 = .ok (.iload 5, 2) := by decide +kernel
theorem jd_H_most_70 : decode jb_H_most 70 = .ok (.invokevirtual 133, 3) := by decide +kernel
theorem jd_H_most_73 : decode jb_H_most 73 = .ok (.ifCond .le 17, 3) := by decide +kernel
theorem jd_H_most_76 : decode jb_H_most 76 = .ok (.iload 6, 2) := by decide +kernel
theorem jd_H_most_78 : decode jb_H_most 78 = .ok (.iload 4, 2) := by decide +kernel
theorem jd_H_most_80 : decode jb_H_most 80 = .ok (.if_icmp .le 10, 3) := by decide +kernel
theorem jd_H_most_83 : decode jb_H_most 83 = .ok (.iload 6, 2) := by decide +kernel
theorem jd_H_most_85 : decode jb_H_most 85 = .ok (.istore 4, 2) := by decide +kernel
theorem jd_H_most_87 : decode jb_H_most 87 = .ok (.iload 5, 2) := by decide +kernel
theorem jd_H_most_89 : decode jb_H_most 89 = .ok (.istore_n 3, 1) := by decide +kernel
theorem jd_H_most_90 : decode jb_H_most 90 = .ok (.iinc 5 1, 3) := by decide +kernel
theorem jd_H_most_93 : decode jb_H_most 93 = .ok (.goto (-64), 3) := by decide +kernel
theorem jd_H_most_96 : decode jb_H_most 96 = .ok (.iload_n 2, 1) := by decide +kernel
theorem jd_H_most_97 : decode jb_H_most 97 = .ok (.ifCond .ne 7, 3) := by decide +kernel
theorem jd_H_most_100 : decode jb_H_most 100 = .ok (.iload_n 3, 1) := by decide +kernel
theorem jd_H_most_101 : decode jb_H_most 101 = .ok (.goto 5, 3) := by decide +kernel
theorem jd_H_most_104 : decode jb_H_most 104 = .ok (.iload 4, 2) := by decide +kernel
theorem jd_H_most_106 : decode jb_H_most 106 = .ok (.ireturn, 1) := by decide +kernel
theorem jd_H_isWord_0 : decode jb_H_isWord 0 = .ok (.iload_n 0, 1) := by decide +kernel
theorem jd_H_isWord_1 : decode jb_H_isWord 1 = .ok (.iconst 0, 1) := by decide +kernel
theorem jd_H_isWord_2 : decode jb_H_isWord 2 = .ok (.bipush 9, 2) := by decide +kernel
theorem jd_H_isWord_4 : decode jb_H_isWord 4 = .ok (.invokestatic 65, 3) := by decide +kernel
theorem jd_H_isWord_7 : decode jb_H_isWord 7 = .ok (.ireturn, 1) := by decide +kernel
theorem jd_H_first_0 : decode jb_H_first 0 = .ok (.iload_n 1, 1) := by decide +kernel
theorem jd_H_first_1 : decode jb_H_first 1 = .ok (.invokestatic 203, 3) := by decide +kernel
theorem jd_H_first_4 : decode jb_H_first 4 = .ok (.ifCond .eq 12, 3) := by decide +kernel
theorem jd_H_first_7 : decode jb_H_first 7 = .ok (.iload_n 2, 1) := by decide +kernel
theorem jd_H_first_8 : decode jb_H_first 8 = .ok (.iconst 0, 1) := by decide +kernel
theorem jd_H_first_9 : decode jb_H_first 9 = .ok (.iconst 1, 1) := by decide +kernel
theorem jd_H_first_10 : decode jb_H_first 10 = .ok (.invokestatic 65, 3) := by decide +kernel
theorem jd_H_first_13 : decode jb_H_first 13 = .ok (.ifCond .ne 5, 3) := by decide +kernel
theorem jd_H_first_16 : decode jb_H_first 16 = .ok (.iconst (-1), 1) := by decide +kernel
theorem jd_H_first_17 : decode jb_H_first 17 = .ok (.ireturn, 1) := by decide +kernel
theorem jd_H_first_18 : decode jb_H_first 18 = .ok (.iconst 1, 1) := by decide +kernel
theorem jd_H_first_19 : decode jb_H_first 19 = .ok (.istore_n 3, 1) := by decide +kernel
theorem jd_H_first_20 : decode jb_H_first 20 = .ok (.iload_n 3, 1) := by decide +kernel
theorem jd_H_first_21 : decode jb_H_first 21 = .ok (.bipush 60, 2) := by decide +kernel
theorem jd_H_first_23 : decode jb_H_first 23 = .ok (.if_icmp .gt 65, 3) := by decide +kernel
theorem jd_H_first_26 : decode jb_H_first 26 = .ok (.iconst 0, 1) := by decide +kernel
theorem jd_H_first_27 : decode jb_H_first 27 = .ok (.istore 4, 2) := by decide +kernel
theorem jd_H_first_29 : decode jb_H_first 29 = .ok (.iload 4, 2) := by decide +kernel
theorem jd_H_first_31 : decode jb_H_first 31 = .ok (.aload_n 0, 1) := by decide +kernel
theorem jd_H_first_32 : decode jb_H_first 32 = .ok (.getfield 48, 3) := by decide +kernel
theorem jd_H_first_35 : decode jb_H_first 35 = .ok (.getfield 90, 3) := by decide +kernel
theorem jd_H_first_38 : decode jb_H_first 38 = .ok (.if_icmp .ge 44, 3) := by decide +kernel
theorem jd_H_first_41 : decode jb_H_first 41 = .ok (.aload_n 0, 1) := by decide +kernel
theorem jd_H_first_42 : decode jb_H_first 42 = .ok (.getfield 48, 3) := by decide +kernel
theorem jd_H_first_45 : decode jb_H_first 45 = .ok (.iload 4, 2) := by decide +kernel
theorem jd_H_first_47 : decode jb_H_first 47 = .ok (.aload_n 0, 1) := by decide +kernel
theorem jd_H_first_48 : decode jb_H_first 48 = .ok (.getfield 19, 3) := by decide +kernel
theorem jd_H_first_51 : decode jb_H_first 51 = .ok (.getfield 97, 3) := by decide +kernel
theorem jd_H_first_54 : decode jb_H_first 54 = .ok (.iload_n 3, 1) := by decide +kernel
theorem jd_H_first_55 : decode jb_H_first 55 = .ok (.iadd, 1) := by decide +kernel
theorem jd_H_first_56 : decode jb_H_first 56 = .ok (.iconst 1, 1) := by decide +kernel
theorem jd_H_first_57 : decode jb_H_first 57 = .ok (.isub, 1) := by decide +kernel
theorem jd_H_first_58 : decode jb_H_first 58 = .ok (.invokevirtual 100, 3) := by decide +kernel
theorem jd_H_first_61 : decode jb_H_first 61 = .ok (.iload_n 1, 1) := by decide +kernel
theorem jd_H_first_62 : decode jb_H_first 62 = .ok (.if_icmp .ne 14, 3) := by decide +kernel
theorem jd_H_first_65 : decode jb_H_first 65 = .ok (.iload_n 2, 1) := by decide +kernel
theorem jd_H_first_66 : decode jb_H_first 66 = .ok (.ifCond .ne 7, 3) := by decide +kernel
theorem jd_H_first_69 : decode jb_H_first 69 = .ok (.iload_n 3, 1) := by decide +kernel
theorem jd_H_first_70 : decode jb_H_first 70 = .ok (.goto 5, 3) := by decide +kernel
theorem jd_H_first_73 : decode jb_H_first 73 = .ok (.iload 4, 2) := by decide +kernel
theorem jd_H_first_75 : decode jb_H_first 75 = .ok (.ireturn, 1) := by decide +kernel
theorem jd_H_first_76 : decode jb_H_first 76 = .ok (.iinc 4 1, 3) := by decide +kernel
theorem jd_H_first_79 : decode jb_H_first 79 = .ok (.goto (-50), 3) := by decide +kernel
theorem jd_H_first_82 : decode jb_H_first 82 = .ok (.iinc 3 1, 3) := by decide +kernel
theorem jd_H_first_85 : decode jb_H_first 85 = .ok (.goto (-65), 3) := by decide +kernel
theorem jd_H_first_88 : decode jb_H_first 88 = .ok (.bipush (-4), 2) := by decide +kernel
theorem jd_H_first_90 : decode jb_H_first 90 = .ok (.ireturn, 1) := by decide +kernel
theorem jd_H_inLowestTerms_0 : decode jb_H_inLowestTerms 0 = .ok (.iload_n 1, 1) := by decide +kernel
theorem jd_H_inLowestTerms_1 : decode jb_H_inLowestTerms 1 = .ok (.istore_n 3, 1) := by decide +kernel
theorem jd_H_inLowestTerms_2 : decode jb_H_inLowestTerms 2 = .ok (.iload_n 0, 1) := by decide +kernel
theorem jd_H_inLowestTerms_3 : decode jb_H_inLowestTerms 3 = .ok (.istore 4, 2) := by decide +kernel
theorem jd_H_inLowestTerms_5 : decode jb_H_inLowestTerms 5 = .ok (.iconst 0, 1) := by decide +kernel
theorem jd_H_inLowestTerms_6 : decode jb_H_inLowestTerms 6 = .ok (.istore 5, 2) := by decide +kernel
theorem jd_H_inLowestTerms_8 : decode jb_H_inLowestTerms 8 = .ok (.iload 5, 2) := by decide +kernel
theorem jd_H_inLowestTerms_10 : decode jb_H_inLowestTerms 10 = .ok (.bipush 100, 2) := by decide +kernel
theorem jd_H_inLowestTerms_12 : decode jb_H_inLowestTerms 12 = .ok (.if_icmp .ge 27, 3) := by decide +kernel
theorem jd_H_inLowestTerms_15 : decode jb_H_inLowestTerms 15 = .ok (.iload 4, 2) := by decide +kernel
theorem jd_H_inLowestTerms_17 : decode jb_H_inLowestTerms 17 = .ok (.ifCond .eq 22, 3) := by decide +kernel
theorem jd_H_inLowestTerms_20 : decode jb_H_inLowestTerms 20 = .ok (.iload_n 3, 1) := by decide +kernel
theorem jd_H_inLowestTerms_21 : decode jb_H_inLowestTerms 21 = .ok (.iload 4, 2) := by decide +kernel
theorem jd_H_inLowestTerms_23 : decode jb_H_inLowestTerms 23 = .ok (.irem, 1) := by decide +kernel
theorem jd_H_inLowestTerms_24 : decode jb_H_inLowestTerms 24 = .ok (.istore 6, 2) := by decide +kernel
theorem jd_H_inLowestTerms_26 : decode jb_H_inLowestTerms 26 = .ok (.iload 4, 2) := by decide +kernel
theorem jd_H_inLowestTerms_28 : decode jb_H_inLowestTerms 28 = .ok (.istore_n 3, 1) := by decide +kernel
theorem jd_H_inLowestTerms_29 : decode jb_H_inLowestTerms 29 = .ok (.iload 6, 2) := by decide +kernel
theorem jd_H_inLowestTerms_31 : decode jb_H_inLowestTerms 31 = .ok (.istore 4, 2) := by decide +kernel
theorem jd_H_inLowestTerms_33 : decode jb_H_inLowestTerms 33 = .ok (.iinc 5 1, 3) := by decide +kernel
theorem jd_H_inLowestTerms_36 : decode jb_H_inLowestTerms 36 = .ok (.goto (-28), 3) := by decide +kernel
theorem jd_H_inLowestTerms_39 : decode jb_H_inLowestTerms 39 = .ok (.iload_n 2, 1) := by decide +kernel
theorem jd_H_inLowestTerms_40 : decode jb_H_inLowestTerms 40 = .ok (.ifCond .ne 7, 3) := by decide +kernel
theorem jd_H_inLowestTerms_43 : decode jb_H_inLowestTerms 43 = .ok (.iload_n 0, 1) := by decide +kernel
theorem jd_H_inLowestTerms_44 : decode jb_H_inLowestTerms 44 = .ok (.goto 4, 3) := by decide +kernel
theorem jd_H_inLowestTerms_47 : decode jb_H_inLowestTerms 47 = .ok (.iload_n 1, 1) := by decide +kernel
theorem jd_H_inLowestTerms_48 : decode jb_H_inLowestTerms 48 = .ok (.istore 5, 2) := by decide +kernel
theorem jd_H_inLowestTerms_50 : decode jb_H_inLowestTerms 50 = .ok (.iload_n 3, 1) := by decide +kernel
theorem jd_H_inLowestTerms_51 : decode jb_H_inLowestTerms 51 = .ok (.ifCond .eq 10, 3) := by decide +kernel
theorem jd_H_inLowestTerms_54 : decode jb_H_inLowestTerms 54 = .ok (.iload 5, 2) := by decide +kernel
theorem jd_H_inLowestTerms_56 : decode jb_H_inLowestTerms 56 = .ok (.iload_n 3, 1) := by decide +kernel
theorem jd_H_inLowestTerms_57 : decode jb_H_inLowestTerms 57 = .ok (.idiv, 1) := by decide +kernel
theorem jd_H_inLowestTerms_58 : decode jb_H_inLowestTerms 58 = .ok (.goto 5, 3) := by decide +kernel
theorem jd_H_inLowestTerms_61 : decode jb_H_inLowestTerms 61 = .ok (.iload 5, 2) := by decide +kernel
theorem jd_H_inLowestTerms_63 : decode jb_H_inLowestTerms 63 = .ok (.ireturn, 1) := by decide +kernel
theorem jd_H_needle_0 : decode jb_H_needle 0 = .ok (.iload_n 1, 1) := by decide +kernel
theorem jd_H_needle_1 : decode jb_H_needle 1 = .ok (.invokestatic 203, 3) := by decide +kernel
theorem jd_H_needle_4 : decode jb_H_needle 4 = .ok (.ifCond .eq 20, 3) := by decide +kernel
theorem jd_H_needle_7 : decode jb_H_needle 7 = .ok (.aload_n 0, 1) := by decide +kernel
theorem jd_H_needle_8 : decode jb_H_needle 8 = .ok (.iload_n 2, 1) := by decide +kernel
theorem jd_H_needle_9 : decode jb_H_needle 9 = .ok (.invokevirtual 127, 3) := by decide +kernel
theorem jd_H_needle_12 : decode jb_H_needle 12 = .ok (.ifCond .eq 12, 3) := by decide +kernel
theorem jd_H_needle_15 : decode jb_H_needle 15 = .ok (.iload_n 3, 1) := by decide +kernel
theorem jd_H_needle_16 : decode jb_H_needle 16 = .ok (.iconst 0, 1) := by decide +kernel
theorem jd_H_needle_17 : decode jb_H_needle 17 = .ok (.iconst 1, 1) := by decide +kernel
theorem jd_H_needle_18 : decode jb_H_needle 18 = .ok (.invokestatic 65, 3) := by decide +kernel
theorem jd_H_needle_21 : decode jb_H_needle 21 = .ok (.ifCond .ne 5, 3) := by decide +kernel
theorem jd_H_needle_24 : decode jb_H_needle 24 = .ok (.iconst (-1), 1) := by decide +kernel
theorem jd_H_needle_25 : decode jb_H_needle 25 = .ok (.ireturn, 1) := by decide +kernel
theorem jd_H_needle_26 : decode jb_H_needle 26 = .ok (.iconst 0, 1) := by decide +kernel
theorem jd_H_needle_27 : decode jb_H_needle 27 = .ok (.istore 4, 2) := by decide +kernel
theorem jd_H_needle_29 : decode jb_H_needle 29 = .ok (.iconst 0, 1) := by decide +kernel
theorem jd_H_needle_30 : decode jb_H_needle 30 = .ok (.istore 5, 2) := by decide +kernel
theorem jd_H_needle_32 : decode jb_H_needle 32 = .ok (.iload 5, 2) := by decide +kernel
theorem jd_H_needle_34 : decode jb_H_needle 34 = .ok (.aload_n 0, 1) := by decide +kernel
theorem jd_H_needle_35 : decode jb_H_needle 35 = .ok (.getfield 48, 3) := by decide +kernel
theorem jd_H_needle_38 : decode jb_H_needle 38 = .ok (.getfield 189, 3) := by decide +kernel
theorem jd_H_needle_41 : decode jb_H_needle 41 = .ok (.if_icmp .ge 24, 3) := by decide +kernel
theorem jd_H_needle_44 : decode jb_H_needle 44 = .ok (.iload 4, 2) := by decide +kernel
theorem jd_H_needle_46 : decode jb_H_needle 46 = .ok (.aload_n 0, 1) := by decide +kernel
theorem jd_H_needle_47 : decode jb_H_needle 47 = .ok (.getfield 19, 3) := by decide +kernel
theorem jd_H_needle_50 : decode jb_H_needle 50 = .ok (.iload 5, 2) := by decide +kernel
theorem jd_H_needle_52 : decode jb_H_needle 52 = .ok (.iload_n 1, 1) := by decide +kernel
theorem jd_H_needle_53 : decode jb_H_needle 53 = .ok (.invokevirtual 206, 3) := by decide +kernel
theorem jd_H_needle_56 : decode jb_H_needle 56 = .ok (.iadd, 1) := by decide +kernel
theorem jd_H_needle_57 : decode jb_H_needle 57 = .ok (.istore 4, 2) := by decide +kernel
theorem jd_H_needle_59 : decode jb_H_needle 59 = .ok (.iinc 5 1, 3) := by decide +kernel
theorem jd_H_needle_62 : decode jb_H_needle 62 = .ok (.goto (-30), 3) := by decide +kernel
theorem jd_H_needle_65 : decode jb_H_needle 65 = .ok (.iload 4, 2) := by decide +kernel
theorem jd_H_needle_67 : decode jb_H_needle 67 = .ok (.ifCond .ne 6, 3) := by decide +kernel
theorem jd_H_needle_70 : decode jb_H_needle 70 = .ok (.bipush (-4), 2) := by decide +kernel
theorem jd_H_needle_72 : decode jb_H_needle 72 = .ok (.ireturn, 1) := by decide +kernel
theorem jd_H_needle_73 : decode jb_H_needle 73 = .ok (.aload_n 0, 1) := by decide +kernel
theorem jd_H_needle_74 : decode jb_H_needle 74 = .ok (.getfield 19, 3) := by decide +kernel
theorem jd_H_needle_77 : decode jb_H_needle 77 = .ok (.iload_n 2, 1) := by decide +kernel
theorem jd_H_needle_78 : decode jb_H_needle 78 = .ok (.iload_n 1, 1) := by decide +kernel
theorem jd_H_needle_79 : decode jb_H_needle 79 = .ok (.invokevirtual 206, 3) := by decide +kernel
theorem jd_H_needle_82 : decode jb_H_needle 82 = .ok (.iload 4, 2) := by decide +kernel
theorem jd_H_needle_84 : decode jb_H_needle 84 = .ok (.iload_n 3, 1) := by decide +kernel
theorem jd_H_needle_85 : decode jb_H_needle 85 = .ok (.invokestatic 209, 3) := by decide +kernel
theorem jd_H_needle_88 : decode jb_H_needle 88 = .ok (.ireturn, 1) := by decide +kernel
theorem jd_H_see_0 : decode jb_H_see 0 = .ok (.iload_n 1, 1) := by decide +kernel
theorem jd_H_see_1 : decode jb_H_see 1 = .ok (.invokestatic 203, 3) := by decide +kernel
theorem jd_H_see_4 : decode jb_H_see 4 = .ok (.ifCond .eq 13, 3) := by decide +kernel
theorem jd_H_see_7 : decode jb_H_see 7 = .ok (.iload_n 2, 1) := by decide +kernel
theorem jd_H_see_8 : decode jb_H_see 8 = .ok (.iconst 0, 1) := by decide +kernel
theorem jd_H_see_9 : decode jb_H_see 9 = .ok (.bipush 99, 2) := by decide +kernel
theorem jd_H_see_11 : decode jb_H_see 11 = .ok (.invokestatic 65, 3) := by decide +kernel
theorem jd_H_see_14 : decode jb_H_see 14 = .ok (.ifCond .ne 5, 3) := by decide +kernel
theorem jd_H_see_17 : decode jb_H_see 17 = .ok (.iconst (-1), 1) := by decide +kernel
theorem jd_H_see_18 : decode jb_H_see 18 = .ok (.ireturn, 1) := by decide +kernel
theorem jd_H_see_19 : decode jb_H_see 19 = .ok (.aload_n 0, 1) := by decide +kernel
theorem jd_H_see_20 : decode jb_H_see 20 = .ok (.getfield 41, 3) := by decide +kernel
theorem jd_H_see_23 : decode jb_H_see 23 = .ok (.invokevirtual 212, 3) := by decide +kernel
theorem jd_H_see_26 : decode jb_H_see 26 = .ok (.ifCond .eq 6, 3) := by decide +kernel
theorem jd_H_see_29 : decode jb_H_see 29 = .ok (.bipush (-3), 2) := by decide +kernel
theorem jd_H_see_31 : decode jb_H_see 31 = .ok (.ireturn, 1) := by decide +kernel
theorem jd_H_see_32 : decode jb_H_see 32 = .ok (.aload_n 0, 1) := by decide +kernel
theorem jd_H_see_33 : decode jb_H_see 33 = .ok (.getfield 41, 3) := by decide +kernel
theorem jd_H_see_36 : decode jb_H_see 36 = .ok (.iload_n 1, 1) := by decide +kernel
theorem jd_H_see_37 : decode jb_H_see 37 = .ok (.iload_n 2, 1) := by decide +kernel
theorem jd_H_see_38 : decode jb_H_see 38 = .ok (.invokevirtual 213, 3) := by decide +kernel
theorem jd_H_see_41 : decode jb_H_see 41 = .ok (.aload_n 0, 1) := by decide +kernel
theorem jd_H_see_42 : decode jb_H_see 42 = .ok (.getfield 41, 3) := by decide +kernel
theorem jd_H_see_45 : decode jb_H_see 45 = .ok (.getfield 87, 3) := by decide +kernel
theorem jd_H_see_48 : decode jb_H_see 48 = .ok (.ireturn, 1) := by decide +kernel
theorem jd_H_forget_0 : decode jb_H_forget 0 = .ok (.aload_n 0, 1) := by decide +kernel
theorem jd_H_forget_1 : decode jb_H_forget 1 = .ok (.getfield 41, 3) := by decide +kernel
theorem jd_H_forget_4 : decode jb_H_forget 4 = .ok (.getfield 87, 3) := by decide +kernel
theorem jd_H_forget_7 : decode jb_H_forget 7 = .ok (.istore_n 1, 1) := by decide +kernel
theorem jd_H_forget_8 : decode jb_H_forget 8 = .ok (.aload_n 0, 1) := by decide +kernel
theorem jd_H_forget_9 : decode jb_H_forget 9 = .ok (.getfield 41, 3) := by decide +kernel
theorem jd_H_forget_12 : decode jb_H_forget 12 = .ok (.iconst 0, 1) := by decide +kernel
theorem jd_H_forget_13 : decode jb_H_forget 13 = .ok (.putfield 87, 3) := by decide +kernel
theorem jd_H_forget_16 : decode jb_H_forget 16 = .ok (.iload_n 1, 1) := by decide +kernel
theorem jd_H_forget_17 : decode jb_H_forget 17 = .ok (.ireturn, 1) := by decide +kernel
theorem jd_H_which_0 : decode jb_H_which 0 = .ok (.iconst 0, 1) := by decide +kernel
theorem jd_H_which_1 : decode jb_H_which 1 = .ok (.istore_n 1, 1) := by decide +kernel
theorem jd_H_which_2 : decode jb_H_which 2 = .ok (.iconst 0, 1) := by decide +kernel
theorem jd_H_which_3 : decode jb_H_which 3 = .ok (.istore_n 2, 1) := by decide +kernel
theorem jd_H_which_4 : decode jb_H_which 4 = .ok (.iload_n 2, 1) := by decide +kernel
theorem jd_H_which_5 : decode jb_H_which 5 = .ok (.aload_n 0, 1) := by decide +kernel
theorem jd_H_which_6 : decode jb_H_which 6 = .ok (.getfield 48, 3) := by decide +kernel
theorem jd_H_which_9 : decode jb_H_which 9 = .ok (.getfield 90, 3) := by decide +kernel
theorem jd_H_which_12 : decode jb_H_which 12 = .ok (.if_icmp .ge 30, 3) := by decide +kernel
theorem jd_H_which_15 : decode jb_H_which 15 = .ok (.aload_n 0, 1) := by decide +kernel
theorem jd_H_which_16 : decode jb_H_which 16 = .ok (.getfield 41, 3) := by decide +kernel
theorem jd_H_which_19 : decode jb_H_which 19 = .ok (.aload_n 0, 1) := by decide +kernel
theorem jd_H_which_20 : decode jb_H_which 20 = .ok (.getfield 48, 3) := by decide +kernel
theorem jd_H_which_23 : decode jb_H_which 23 = .ok (.iload_n 2, 1) := by decide +kernel
theorem jd_H_which_24 : decode jb_H_which 24 = .ok (.invokevirtual 215, 3) := by decide +kernel
theorem jd_H_which_27 : decode jb_H_which 27 = .ok (.ifCond .eq 9, 3) := by decide +kernel
theorem jd_H_which_30 : decode jb_H_which 30 = .ok (.iload_n 1, 1) := by decide +kernel
theorem jd_H_which_31 : decode jb_H_which 31 = .ok (.iconst 1, 1) := by decide +kernel
theorem jd_H_which_32 : decode jb_H_which 32 = .ok (.iload_n 2, 1) := by decide +kernel
theorem jd_H_which_33 : decode jb_H_which 33 = .ok (.ishl, 1) := by decide +kernel
theorem jd_H_which_34 : decode jb_H_which 34 = .ok (.ior, 1) := by decide +kernel
theorem jd_H_which_35 : decode jb_H_which 35 = .ok (.istore_n 1, 1) := by decide +kernel
theorem jd_H_which_36 : decode jb_H_which 36 = .ok (.iinc 2 1, 3) := by decide +kernel
theorem jd_H_which_39 : decode jb_H_which 39 = .ok (.goto (-35), 3) := by decide +kernel
theorem jd_H_which_42 : decode jb_H_which 42 = .ok (.iload_n 1, 1) := by decide +kernel
theorem jd_H_which_43 : decode jb_H_which 43 = .ok (.ireturn, 1) := by decide +kernel
theorem jd_H_kinds_0 : decode jb_H_kinds 0 = .ok (.iload_n 1, 1) := by decide +kernel
theorem jd_H_kinds_1 : decode jb_H_kinds 1 = .ok (.iconst 0, 1) := by decide +kernel
theorem jd_H_kinds_2 : decode jb_H_kinds 2 = .ok (.sipush 1023, 3) := by decide +kernel
theorem jd_H_kinds_5 : decode jb_H_kinds 5 = .ok (.invokestatic 65, 3) := by decide +kernel
theorem jd_H_kinds_8 : decode jb_H_kinds 8 = .ok (.ifCond .eq 14, 3) := by decide +kernel
theorem jd_H_kinds_11 : decode jb_H_kinds 11 = .ok (.iload_n 2, 1) := by decide +kernel
theorem jd_H_kinds_12 : decode jb_H_kinds 12 = .ok (.iconst 0, 1) := by decide +kernel
theorem jd_H_kinds_13 : decode jb_H_kinds 13 = .ok (.sipush 1023, 3) := by decide +kernel
theorem jd_H_kinds_16 : decode jb_H_kinds 16 = .ok (.invokestatic 65, 3) := by decide +kernel
theorem jd_H_kinds_19 : decode jb_H_kinds 19 = .ok (.ifCond .ne 5, 3) := by decide +kernel
theorem jd_H_kinds_22 : decode jb_H_kinds 22 = .ok (.iconst (-1), 1) := by decide +kernel
theorem jd_H_kinds_23 : decode jb_H_kinds 23 = .ok (.ireturn, 1) := by decide +kernel
theorem jd_H_kinds_24 : decode jb_H_kinds 24 = .ok (.iconst 0, 1) := by decide +kernel
theorem jd_H_kinds_25 : decode jb_H_kinds 25 = .ok (.istore_n 3, 1) := by decide +kernel
theorem jd_H_kinds_26 : decode jb_H_kinds 26 = .ok (.iconst 0, 1) := by decide +kernel
theorem jd_H_kinds_27 : decode jb_H_kinds 27 = .ok (.istore 4, 2) := by decide +kernel
theorem jd_H_kinds_29 : decode jb_H_kinds 29 = .ok (.iload 4, 2) := by decide +kernel
theorem jd_H_kinds_31 : decode jb_H_kinds 31 = .ok (.iconst 4, 1) := by decide +kernel
theorem jd_H_kinds_32 : decode jb_H_kinds 32 = .ok (.if_icmp .ge 27, 3) := by decide +kernel
theorem jd_H_kinds_35 : decode jb_H_kinds 35 = .ok (.iload 4, 2) := by decide +kernel
theorem jd_H_kinds_37 : decode jb_H_kinds 37 = .ok (.iload_n 1, 1) := by decide +kernel
theorem jd_H_kinds_38 : decode jb_H_kinds 38 = .ok (.iconst 0, 1) := by decide +kernel
theorem jd_H_kinds_39 : decode jb_H_kinds 39 = .ok (.invokestatic 219, 3) := by decide +kernel
theorem jd_H_kinds_42 : decode jb_H_kinds 42 = .ok (.iload_n 2, 1) := by decide +kernel
theorem jd_H_kinds_43 : decode jb_H_kinds 43 = .ok (.if_icmp .ne 10, 3) := by decide +kernel
theorem jd_H_kinds_46 : decode jb_H_kinds 46 = .ok (.iload_n 3, 1) := by decide +kernel
theorem jd_H_kinds_47 : decode jb_H_kinds 47 = .ok (.iconst 1, 1) := by decide +kernel
theorem jd_H_kinds_48 : decode jb_H_kinds 48 = .ok (.iload 4, 2) := by decide +kernel
theorem jd_H_kinds_50 : decode jb_H_kinds 50 = .ok (.ishl, 1) := by decide +kernel
theorem jd_H_kinds_51 : decode jb_H_kinds 51 = .ok (.ior, 1) := by decide +kernel
theorem jd_H_kinds_52 : decode jb_H_kinds 52 = .ok (.istore_n 3, 1) := by decide +kernel
theorem jd_H_kinds_53 : decode jb_H_kinds 53 = .ok (.iinc 4 1, 3) := by decide +kernel
theorem jd_H_kinds_56 : decode jb_H_kinds 56 = .ok (.goto (-27), 3) := by decide +kernel
theorem jd_H_kinds_59 : decode jb_H_kinds 59 = .ok (.iload_n 3, 1) := by decide +kernel
theorem jd_H_kinds_60 : decode jb_H_kinds 60 = .ok (.ireturn, 1) := by decide +kernel
theorem jd_H_waysOf_0 : decode jb_H_waysOf 0 = .ok (.iconst 1, 1) := by decide +kernel
theorem jd_H_waysOf_1 : decode jb_H_waysOf 1 = .ok (.istore_n 2, 1) := by decide +kernel
theorem jd_H_waysOf_2 : decode jb_H_waysOf 2 = .ok (.iconst 1, 1) := by decide +kernel
theorem jd_H_waysOf_3 : decode jb_H_waysOf 3 = .ok (.istore_n 3, 1) := by decide +kernel
theorem jd_H_waysOf_4 : decode jb_H_waysOf 4 = .ok (.iload_n 3, 1) := by decide +kernel
theorem jd_H_waysOf_5 : decode jb_H_waysOf 5 = .ok (.iload_n 1, 1) := by decide +kernel
theorem jd_H_waysOf_6 : decode jb_H_waysOf 6 = .ok (.if_icmp .gt 19, 3) := by decide +kernel
theorem jd_H_waysOf_9 : decode jb_H_waysOf 9 = .ok (.iload_n 2, 1) := by decide +kernel
theorem jd_H_waysOf_10 : decode jb_H_waysOf 10 = .ok (.iload_n 0, 1) := by decide +kernel
theorem jd_H_waysOf_11 : decode jb_H_waysOf 11 = .ok (.iload_n 3, 1) := by decide +kernel
theorem jd_H_waysOf_12 : decode jb_H_waysOf 12 = .ok (.isub, 1) := by decide +kernel
theorem jd_H_waysOf_13 : decode jb_H_waysOf 13 = .ok (.iconst 1, 1) := by decide +kernel
theorem jd_H_waysOf_14 : decode jb_H_waysOf 14 = .ok (.iadd, 1) := by decide +kernel
theorem jd_H_waysOf_15 : decode jb_H_waysOf 15 = .ok (.imul, 1) := by decide +kernel
theorem jd_H_waysOf_16 : decode jb_H_waysOf 16 = .ok (.iload_n 3, 1) := by decide +kernel
theorem jd_H_waysOf_17 : decode jb_H_waysOf 17 = .ok (.idiv, 1) := by decide +kernel
theorem jd_H_waysOf_18 : decode jb_H_waysOf 18 = .ok (.istore_n 2, 1) := by decide +kernel
theorem jd_H_waysOf_19 : decode jb_H_waysOf 19 = .ok (.iinc 3 1, 3) := by decide +kernel
theorem jd_H_waysOf_22 : decode jb_H_waysOf 22 = .ok (.goto (-18), 3) := by decide +kernel
theorem jd_H_waysOf_25 : decode jb_H_waysOf 25 = .ok (.iload_n 2, 1) := by decide +kernel
theorem jd_H_waysOf_26 : decode jb_H_waysOf 26 = .ok (.ireturn, 1) := by decide +kernel
theorem jd_H_power_0 : decode jb_H_power 0 = .ok (.iconst 1, 1) := by decide +kernel
theorem jd_H_power_1 : decode jb_H_power 1 = .ok (.istore_n 2, 1) := by decide +kernel
theorem jd_H_power_2 : decode jb_H_power 2 = .ok (.iconst 0, 1) := by decide +kernel
theorem jd_H_power_3 : decode jb_H_power 3 = .ok (.istore_n 3, 1) := by decide +kernel
theorem jd_H_power_4 : decode jb_H_power 4 = .ok (.iload_n 3, 1) := by decide +kernel
theorem jd_H_power_5 : decode jb_H_power 5 = .ok (.iload_n 1, 1) := by decide +kernel
theorem jd_H_power_6 : decode jb_H_power 6 = .ok (.if_icmp .ge 13, 3) := by decide +kernel
theorem jd_H_power_9 : decode jb_H_power 9 = .ok (.iload_n 2, 1) := by decide +kernel
theorem jd_H_power_10 : decode jb_H_power 10 = .ok (.iload_n 0, 1) := by decide +kernel
theorem jd_H_power_11 : decode jb_H_power 11 = .ok (.imul, 1) := by decide +kernel
theorem jd_H_power_12 : decode jb_H_power 12 = .ok (.istore_n 2, 1) := by decide +kernel
theorem jd_H_power_13 : decode jb_H_power 13 = .ok (.iinc 3 1, 3) := by decide +kernel
theorem jd_H_power_16 : decode jb_H_power 16 = .ok (.goto (-12), 3) := by decide +kernel
theorem jd_H_power_19 : decode jb_H_power 19 = .ok (.iload_n 2, 1) := by decide +kernel
theorem jd_H_power_20 : decode jb_H_power 20 = .ok (.ireturn, 1) := by decide +kernel
theorem jd_H_rain_0 : decode jb_H_rain 0 = .ok (.aload_n 0, 1) := by decide +kernel
theorem jd_H_rain_1 : decode jb_H_rain 1 = .ok (.iload_n 1, 1) := by decide +kernel
theorem jd_H_rain_2 : decode jb_H_rain 2 = .ok (.invokevirtual 93, 3) := by decide +kernel
theorem jd_H_rain_5 : decode jb_H_rain 5 = .ok (.ifCond .eq 44, 3) := by decide +kernel
theorem jd_H_rain_8 : decode jb_H_rain 8 = .ok (.iload_n 2, 1) := by decide +kernel
theorem jd_H_rain_9 : decode jb_H_rain 9 = .ok (.iconst 0, 1) := by decide +kernel
theorem jd_H_rain_10 : decode jb_H_rain 10 = .ok (.bipush 8, 2) := by decide +kernel
theorem jd_H_rain_12 : decode jb_H_rain 12 = .ok (.invokestatic 65, 3) := by decide +kernel
theorem jd_H_rain_15 : decode jb_H_rain 15 = .ok (.ifCond .eq 34, 3) := by decide +kernel
theorem jd_H_rain_18 : decode jb_H_rain 18 = .ok (.iload_n 3, 1) := by decide +kernel
theorem jd_H_rain_19 : decode jb_H_rain 19 = .ok (.iconst 0, 1) := by decide +kernel
theorem jd_H_rain_20 : decode jb_H_rain 20 = .ok (.bipush 10, 2) := by decide +kernel
theorem jd_H_rain_22 : decode jb_H_rain 22 = .ok (.invokestatic 65, 3) := by decide +kernel
theorem jd_H_rain_25 : decode jb_H_rain 25 = .ok (.ifCond .eq 24, 3) := by decide +kernel
theorem jd_H_rain_28 : decode jb_H_rain 28 = .ok (.iload 4, 2) := by decide +kernel
theorem jd_H_rain_30 : decode jb_H_rain 30 = .ok (.iconst 0, 1) := by decide +kernel
theorem jd_H_rain_31 : decode jb_H_rain 31 = .ok (.bipush 99, 2) := by decide +kernel
theorem jd_H_rain_33 : decode jb_H_rain 33 = .ok (.invokestatic 65, 3) := by decide +kernel
theorem jd_H_rain_36 : decode jb_H_rain 36 = .ok (.ifCond .eq 13, 3) := by decide +kernel
theorem jd_H_rain_39 : decode jb_H_rain 39 = .ok (.iload 5, 2) := by decide +kernel
theorem jd_H_rain_41 : decode jb_H_rain 41 = .ok (.iconst 0, 1) := by decide +kernel
theorem jd_H_rain_42 : decode jb_H_rain 42 = .ok (.iconst 1, 1) := by decide +kernel
theorem jd_H_rain_43 : decode jb_H_rain 43 = .ok (.invokestatic 65, 3) := by decide +kernel
theorem jd_H_rain_46 : decode jb_H_rain 46 = .ok (.ifCond .ne 5, 3) := by decide +kernel
theorem jd_H_rain_49 : decode jb_H_rain 49 = .ok (.iconst (-1), 1) := by decide +kernel
theorem jd_H_rain_50 : decode jb_H_rain 50 = .ok (.ireturn, 1) := by decide +kernel
theorem jd_H_rain_51 : decode jb_H_rain 51 = .ok (.aload_n 0, 1) := by decide +kernel
theorem jd_H_rain_52 : decode jb_H_rain 52 = .ok (.getfield 23, 3) := by decide +kernel
theorem jd_H_rain_55 : decode jb_H_rain 55 = .ok (.aload_n 0, 1) := by decide +kernel
theorem jd_H_rain_56 : decode jb_H_rain 56 = .ok (.getfield 19, 3) := by decide +kernel
theorem jd_H_rain_59 : decode jb_H_rain 59 = .ok (.invokevirtual 182, 3) := by decide +kernel
theorem jd_H_rain_62 : decode jb_H_rain 62 = .ok (.aload_n 0, 1) := by decide +kernel
theorem jd_H_rain_63 : decode jb_H_rain 63 = .ok (.getfield 23, 3) := by decide +kernel
theorem jd_H_rain_66 : decode jb_H_rain 66 = .ok (.aload_n 0, 1) := by decide +kernel
theorem jd_H_rain_67 : decode jb_H_rain 67 = .ok (.getfield 48, 3) := by decide +kernel
theorem jd_H_rain_70 : decode jb_H_rain 70 = .ok (.iload_n 2, 1) := by decide +kernel
theorem jd_H_rain_71 : decode jb_H_rain 71 = .ok (.invokevirtual 155, 3) := by decide +kernel
theorem jd_H_rain_74 : decode jb_H_rain 74 = .ok (.aload_n 0, 1) := by decide +kernel
theorem jd_H_rain_75 : decode jb_H_rain 75 = .ok (.getfield 23, 3) := by decide +kernel
theorem jd_H_rain_78 : decode jb_H_rain 78 = .ok (.getfield 114, 3) := by decide +kernel
theorem jd_H_rain_81 : decode jb_H_rain 81 = .ok (.iload_n 1, 1) := by decide +kernel
theorem jd_H_rain_82 : decode jb_H_rain 82 = .ok (.invokestatic 108, 3) := by decide +kernel
theorem jd_H_rain_85 : decode jb_H_rain 85 = .ok (.istore 6, 2) := by decide +kernel
theorem jd_H_rain_87 : decode jb_H_rain 87 = .ok (.iconst 0, 1) := by decide +kernel
theorem jd_H_rain_88 : decode jb_H_rain 88 = .ok (.istore 7, 2) := by decide +kernel
theorem jd_H_rain_90 : decode jb_H_rain 90 = .ok (.iconst 0, 1) := by decide +kernel
theorem jd_H_rain_91 : decode jb_H_rain 91 = .ok (.istore 8, 2) := by decide +kernel
theorem jd_H_rain_93 : decode jb_H_rain 93 = .ok (.iload 8, 2) := by decide +kernel
theorem jd_H_rain_95 : decode jb_H_rain 95 = .ok (.iload_n 2, 1) := by decide +kernel
theorem jd_H_rain_96 : decode jb_H_rain 96 = .ok (.if_icmp .gt 56, 3) := by decide +kernel
theorem jd_H_rain_99 : decode jb_H_rain 99 = .ok (.bipush 99, 2) := by decide +kernel
theorem jd_H_rain_101 : decode jb_H_rain 101 = .ok (.iload 6, 2) := by decide +kernel
theorem jd_H_rain_103 : decode jb_H_rain 103 = .ok (.iconst 3, 1) := by decide +kernel
theorem jd_H_rain_104 : decode jb_H_rain 104 = .ok (.iload 8, 2) := by decide +kernel
theorem jd_H_rain_106 : decode jb_H_rain 106 = .ok (.imul, 1) := by decide +kernel
theorem jd_H_rain_107 : decode jb_H_rain 107 = .ok (.iadd, 1) := by decide +kernel
theorem jd_H_rain_108 : decode jb_H_rain 108 = .ok (.invokestatic 222, 3) := by decide +kernel
theorem jd_H_rain_111 : decode jb_H_rain 111 = .ok (.iload 4, 2) := by decide +kernel
theorem jd_H_rain_113 : decode jb_H_rain 113 = .ok (.if_icmp .lt 33, 3) := by decide +kernel
theorem jd_H_rain_116 : decode jb_H_rain 116 = .ok (.iload 7, 2) := by decide +kernel
theorem jd_H_rain_118 : decode jb_H_rain 118 = .ok (.iload_n 2, 1) := by decide +kernel
theorem jd_H_rain_119 : decode jb_H_rain 119 = .ok (.iload 8, 2) := by decide +kernel
theorem jd_H_rain_121 : decode jb_H_rain 121 = .ok (.invokestatic 227, 3) := by decide +kernel
theorem jd_H_rain_124 : decode jb_H_rain 124 = .ok (.iload_n 3, 1) := by decide +kernel
theorem jd_H_rain_125 : decode jb_H_rain 125 = .ok (.iload 8, 2) := by decide +kernel
theorem jd_H_rain_127 : decode jb_H_rain 127 = .ok (.invokestatic 230, 3) := by decide +kernel
theorem jd_H_rain_130 : decode jb_H_rain 130 = .ok (.imul, 1) := by decide +kernel
theorem jd_H_rain_131 : decode jb_H_rain 131 = .ok (.bipush 10, 2) := by decide +kernel
theorem jd_H_rain_133 : decode jb_H_rain 133 = .ok (.iload_n 3, 1) := by decide +kernel
theorem jd_H_rain_134 : decode jb_H_rain 134 = .ok (.isub, 1) := by decide +kernel
theorem jd_H_rain_135 : decode jb_H_rain 135 = .ok (.iload_n 2, 1) := by decide +kernel
theorem jd_H_rain_136 : decode jb_H_rain 136 = .ok (.iload 8, 2) := by decide +kernel
theorem jd_H_rain_138 : decode jb_H_rain 138 = .ok (.isub, 1) := by decide +kernel
theorem jd_H_rain_139 : decode jb_H_rain 139 = .ok (.invokestatic 230, 3) := by decide +kernel
theorem jd_H_rain_142 : decode jb_H_rain 142 = .ok (.imul, 1) := by decide +kernel
theorem jd_H_rain_143 : decode jb_H_rain 143 = .ok (.iadd, 1) := by decide +kernel
theorem jd_H_rain_144 : decode jb_H_rain 144 = .ok (.istore 7, 2) := by decide +kernel
theorem jd_H_rain_146 : decode jb_H_rain 146 = .ok (.iinc 8 1, 3) := by decide +kernel
theorem jd_H_rain_149 : decode jb_H_rain 149 = .ok (.goto (-56), 3) := by decide +kernel
theorem jd_H_rain_152 : decode jb_H_rain 152 = .ok (.iload 7, 2) := by decide +kernel
theorem jd_H_rain_154 : decode jb_H_rain 154 = .ok (.bipush 10, 2) := by decide +kernel
theorem jd_H_rain_156 : decode jb_H_rain 156 = .ok (.iload_n 2, 1) := by decide +kernel
theorem jd_H_rain_157 : decode jb_H_rain 157 = .ok (.invokestatic 230, 3) := by decide +kernel
theorem jd_H_rain_160 : decode jb_H_rain 160 = .ok (.iload 5, 2) := by decide +kernel
theorem jd_H_rain_162 : decode jb_H_rain 162 = .ok (.invokestatic 209, 3) := by decide +kernel
theorem jd_H_rain_165 : decode jb_H_rain 165 = .ok (.ireturn, 1) := by decide +kernel
theorem jd_H_drawOf_0 : decode jb_H_drawOf 0 = .ok (.ldc2_w 263, 3) := by decide +kernel
theorem jd_H_drawOf_3 : decode jb_H_drawOf 3 = .ok (.iload_n 0, 1) := by decide +kernel
theorem jd_H_drawOf_4 : decode jb_H_drawOf 4 = .ok (.i2l, 1) := by decide +kernel
theorem jd_H_drawOf_5 : decode jb_H_drawOf 5 = .ok (.lmul, 1) := by decide +kernel
theorem jd_H_drawOf_6 : decode jb_H_drawOf 6 = .ok (.ldc2_w 265, 3) := by decide +kernel
theorem jd_H_drawOf_9 : decode jb_H_drawOf 9 = .ok (.iload_n 1, 1) := by decide +kernel
theorem jd_H_drawOf_10 : decode jb_H_drawOf 10 = .ok (.i2l, 1) := by decide +kernel
theorem jd_H_drawOf_11 : decode jb_H_drawOf 11 = .ok (.lmul, 1) := by decide +kernel
theorem jd_H_drawOf_12 : decode jb_H_drawOf 12 = .ok (.ladd, 1) := by decide +kernel
theorem jd_H_drawOf_13 : decode jb_H_drawOf 13 = .ok (.lconst 1, 1) := by decide +kernel
theorem jd_H_drawOf_14 : decode jb_H_drawOf 14 = .ok (.ladd, 1) := by decide +kernel
theorem jd_H_drawOf_15 : decode jb_H_drawOf 15 = .ok (.lstore_n 2, 1) := by decide +kernel
theorem jd_H_drawOf_16 : decode jb_H_drawOf 16 = .ok (.lload_n 2, 1) := by decide +kernel
theorem jd_H_drawOf_17 : decode jb_H_drawOf 17 = .ok (.lload_n 2, 1) := by decide +kernel
theorem jd_H_drawOf_18 : decode jb_H_drawOf 18 = .ok (.lmul, 1) := by decide +kernel
theorem jd_H_drawOf_19 : decode jb_H_drawOf 19 = .ok (.ldc2_w 267, 3) := by decide +kernel
theorem jd_H_drawOf_22 : decode jb_H_drawOf 22 = .ok (.lrem, 1) := by decide +kernel
theorem jd_H_drawOf_23 : decode jb_H_drawOf 23 = .ok (.l2i, 1) := by decide +kernel
theorem jd_H_drawOf_24 : decode jb_H_drawOf 24 = .ok (.ireturn, 1) := by decide +kernel
theorem jd_H_actByDraw_0 : decode jb_H_actByDraw 0 = .ok (.iload_n 1, 1) := by decide +kernel
theorem jd_H_actByDraw_1 : decode jb_H_actByDraw 1 = .ok (.bipush 64, 2) := by decide +kernel
theorem jd_H_actByDraw_3 : decode jb_H_actByDraw 3 = .ok (.idiv, 1) := by decide +kernel
theorem jd_H_actByDraw_4 : decode jb_H_actByDraw 4 = .ok (.aload_n 0, 1) := by decide +kernel
theorem jd_H_actByDraw_5 : decode jb_H_actByDraw 5 = .ok (.getfield 48, 3) := by decide +kernel
theorem jd_H_actByDraw_8 : decode jb_H_actByDraw 8 = .ok (.getfield 189, 3) := by decide +kernel
theorem jd_H_actByDraw_11 : decode jb_H_actByDraw 11 = .ok (.invokestatic 269, 3) := by decide +kernel
theorem jd_H_actByDraw_14 : decode jb_H_actByDraw 14 = .ok (.istore_n 2, 1) := by decide +kernel
theorem jd_H_actByDraw_15 : decode jb_H_actByDraw 15 = .ok (.iload_n 1, 1) := by decide +kernel
theorem jd_H_actByDraw_16 : decode jb_H_actByDraw 16 = .ok (.bipush 8, 2) := by decide +kernel
theorem jd_H_actByDraw_18 : decode jb_H_actByDraw 18 = .ok (.idiv, 1) := by decide +kernel
theorem jd_H_actByDraw_19 : decode jb_H_actByDraw 19 = .ok (.aload_n 0, 1) := by decide +kernel
theorem jd_H_actByDraw_20 : decode jb_H_actByDraw 20 = .ok (.getfield 48, 3) := by decide +kernel
theorem jd_H_actByDraw_23 : decode jb_H_actByDraw 23 = .ok (.getfield 90, 3) := by decide +kernel
theorem jd_H_actByDraw_26 : decode jb_H_actByDraw 26 = .ok (.invokestatic 269, 3) := by decide +kernel
theorem jd_H_actByDraw_29 : decode jb_H_actByDraw 29 = .ok (.istore_n 3, 1) := by decide +kernel
theorem jd_H_actByDraw_30 : decode jb_H_actByDraw 30 = .ok (.iload_n 1, 1) := by decide +kernel
theorem jd_H_actByDraw_31 : decode jb_H_actByDraw 31 = .ok (.bipush 8, 2) := by decide +kernel
theorem jd_H_actByDraw_33 : decode jb_H_actByDraw 33 = .ok (.idiv, 1) := by decide +kernel
theorem jd_H_actByDraw_34 : decode jb_H_actByDraw 34 = .ok (.aload_n 0, 1) := by decide +kernel
theorem jd_H_actByDraw_35 : decode jb_H_actByDraw 35 = .ok (.getfield 48, 3) := by decide +kernel
theorem jd_H_actByDraw_38 : decode jb_H_actByDraw 38 = .ok (.getfield 251, 3) := by decide +kernel
theorem jd_H_actByDraw_41 : decode jb_H_actByDraw 41 = .ok (.invokestatic 269, 3) := by decide +kernel
theorem jd_H_actByDraw_44 : decode jb_H_actByDraw 44 = .ok (.istore 4, 2) := by decide +kernel
theorem jd_H_actByDraw_46 : decode jb_H_actByDraw 46 = .ok (.iload_n 1, 1) := by decide +kernel
theorem jd_H_actByDraw_47 : decode jb_H_actByDraw 47 = .ok (.bipush 8, 2) := by decide +kernel
theorem jd_H_actByDraw_49 : decode jb_H_actByDraw 49 = .ok (.irem, 1) := by decide +kernel
theorem jd_H_actByDraw_50 : decode jb_H_actByDraw 50 = .ok (.tableswitch 121 0 4 #[34, 34, 72, 72, 106], 34) := by decide +kernel
theorem jd_H_actByDraw_84 : decode jb_H_actByDraw 84 = .ok (.aload_n 0, 1) := by decide +kernel
theorem jd_H_actByDraw_85 : decode jb_H_actByDraw 85 = .ok (.getfield 23, 3) := by decide +kernel
theorem jd_H_actByDraw_88 : decode jb_H_actByDraw 88 = .ok (.iconst 0, 1) := by decide +kernel
theorem jd_H_actByDraw_89 : decode jb_H_actByDraw 89 = .ok (.iload_n 3, 1) := by decide +kernel
theorem jd_H_actByDraw_90 : decode jb_H_actByDraw 90 = .ok (.invokevirtual 159, 3) := by decide +kernel
theorem jd_H_actByDraw_93 : decode jb_H_actByDraw 93 = .ok (.ifCond .eq 78, 3) := by decide +kernel
theorem jd_H_actByDraw_96 : decode jb_H_actByDraw 96 = .ok (.aload_n 0, 1) := by decide +kernel
theorem jd_H_actByDraw_97 : decode jb_H_actByDraw 97 = .ok (.getfield 23, 3) := by decide +kernel
theorem jd_H_actByDraw_100 : decode jb_H_actByDraw 100 = .ok (.iload_n 2, 1) := by decide +kernel
theorem jd_H_actByDraw_101 : decode jb_H_actByDraw 101 = .ok (.invokevirtual 133, 3) := by decide +kernel
theorem jd_H_actByDraw_104 : decode jb_H_actByDraw 104 = .ok (.bipush 8, 2) := by decide +kernel
theorem jd_H_actByDraw_106 : decode jb_H_actByDraw 106 = .ok (.if_icmp .ge 65, 3) := by decide +kernel
theorem jd_H_actByDraw_109 : decode jb_H_actByDraw 109 = .ok (.aload_n 0, 1) := by decide +kernel
theorem jd_H_actByDraw_110 : decode jb_H_actByDraw 110 = .ok (.getfield 23, 3) := by decide +kernel
theorem jd_H_actByDraw_113 : decode jb_H_actByDraw 113 = .ok (.iconst 0, 1) := by decide +kernel
theorem jd_H_actByDraw_114 : decode jb_H_actByDraw 114 = .ok (.iload_n 3, 1) := by decide +kernel
theorem jd_H_actByDraw_115 : decode jb_H_actByDraw 115 = .ok (.iload_n 2, 1) := by decide +kernel
theorem jd_H_actByDraw_116 : decode jb_H_actByDraw 116 = .ok (.invokevirtual 162, 3) := by decide +kernel
theorem jd_H_actByDraw_119 : decode jb_H_actByDraw 119 = .ok (.goto 52, 3) := by decide +kernel
theorem jd_H_actByDraw_122 : decode jb_H_actByDraw 122 = .ok (.aload_n 0, 1) := by decide +kernel
theorem jd_H_actByDraw_123 : decode jb_H_actByDraw 123 = .ok (.getfield 23, 3) := by decide +kernel
theorem jd_H_actByDraw_126 : decode jb_H_actByDraw 126 = .ok (.iload_n 2, 1) := by decide +kernel
theorem jd_H_actByDraw_127 : decode jb_H_actByDraw 127 = .ok (.invokevirtual 133, 3) := by decide +kernel
theorem jd_H_actByDraw_130 : decode jb_H_actByDraw 130 = .ok (.ifCond .le 41, 3) := by decide +kernel
theorem jd_H_actByDraw_133 : decode jb_H_actByDraw 133 = .ok (.aload_n 0, 1) := by decide +kernel
theorem jd_H_actByDraw_134 : decode jb_H_actByDraw 134 = .ok (.getfield 23, 3) := by decide +kernel
theorem jd_H_actByDraw_137 : decode jb_H_actByDraw 137 = .ok (.iload_n 2, 1) := by decide +kernel
theorem jd_H_actByDraw_138 : decode jb_H_actByDraw 138 = .ok (.iload 4, 2) := by decide +kernel
theorem jd_H_actByDraw_140 : decode jb_H_actByDraw 140 = .ok (.aload_n 0, 1) := by decide +kernel
theorem jd_H_actByDraw_141 : decode jb_H_actByDraw 141 = .ok (.getfield 48, 3) := by decide +kernel
theorem jd_H_actByDraw_144 : decode jb_H_actByDraw 144 = .ok (.iload 4, 2) := by decide +kernel
theorem jd_H_actByDraw_146 : decode jb_H_actByDraw 146 = .ok (.invokevirtual 120, 3) := by decide +kernel
theorem jd_H_actByDraw_149 : decode jb_H_actByDraw 149 = .ok (.invokevirtual 166, 3) := by decide +kernel
theorem jd_H_actByDraw_152 : decode jb_H_actByDraw 152 = .ok (.pop, 1) := by decide +kernel
theorem jd_H_actByDraw_153 : decode jb_H_actByDraw 153 = .ok (.goto 18, 3) := by decide +kernel
theorem jd_H_actByDraw_156 : decode jb_H_actByDraw 156 = .ok (.aload_n 0, 1) := by decide +kernel
theorem jd_H_actByDraw_157 : decode jb_H_actByDraw 157 = .ok (.getfield 23, 3) := by decide +kernel
theorem jd_H_actByDraw_160 : decode jb_H_actByDraw 160 = .ok (.getfield 114, 3) := by decide +kernel
theorem jd_H_actByDraw_163 : decode jb_H_actByDraw 163 = .ok (.iload_n 3, 1) := by decide +kernel
theorem jd_H_actByDraw_164 : decode jb_H_actByDraw 164 = .ok (.iconst 0, 1) := by decide +kernel
theorem jd_H_actByDraw_165 : decode jb_H_actByDraw 165 = .ok (.invokestatic 170, 3) := by decide +kernel
theorem jd_H_actByDraw_168 : decode jb_H_actByDraw 168 = .ok (.goto 3, 3) := by decide +kernel
theorem jd_H_actByDraw_171 : decode jb_H_actByDraw 171 = .ok (.return_, 1) := by decide +kernel
theorem jd_H_february_0 : decode jb_H_february 0 = .ok (.iload_n 1, 1) := by decide +kernel
theorem jd_H_february_1 : decode jb_H_february 1 = .ok (.iconst 0, 1) := by decide +kernel
theorem jd_H_february_2 : decode jb_H_february 2 = .ok (.sipush 9999, 3) := by decide +kernel
theorem jd_H_february_5 : decode jb_H_february 5 = .ok (.invokestatic 65, 3) := by decide +kernel
theorem jd_H_february_8 : decode jb_H_february 8 = .ok (.ifCond .eq 22, 3) := by decide +kernel
theorem jd_H_february_11 : decode jb_H_february 11 = .ok (.iload_n 2, 1) := by decide +kernel
theorem jd_H_february_12 : decode jb_H_february 12 = .ok (.iconst 1, 1) := by decide +kernel
theorem jd_H_february_13 : decode jb_H_february 13 = .ok (.bipush 60, 2) := by decide +kernel
theorem jd_H_february_15 : decode jb_H_february 15 = .ok (.invokestatic 65, 3) := by decide +kernel
theorem jd_H_february_18 : decode jb_H_february 18 = .ok (.ifCond .eq 12, 3) := by decide +kernel
theorem jd_H_february_21 : decode jb_H_february 21 = .ok (.iload_n 3, 1) := by decide +kernel
theorem jd_H_february_22 : decode jb_H_february 22 = .ok (.iconst 0, 1) := by decide +kernel
theorem jd_H_february_23 : decode jb_H_february 23 = .ok (.iconst 2, 1) := by decide +kernel
theorem jd_H_february_24 : decode jb_H_february 24 = .ok (.invokestatic 65, 3) := by decide +kernel
theorem jd_H_february_27 : decode jb_H_february 27 = .ok (.ifCond .ne 5, 3) := by decide +kernel
theorem jd_H_february_30 : decode jb_H_february 30 = .ok (.iconst (-1), 1) := by decide +kernel
theorem jd_H_february_31 : decode jb_H_february 31 = .ok (.ireturn, 1) := by decide +kernel
theorem jd_H_february_32 : decode jb_H_february 32 = .ok (.aload_n 0, 1) := by decide +kernel
theorem jd_H_february_33 : decode jb_H_february 33 = .ok (.getfield 23, 3) := by decide +kernel
theorem jd_H_february_36 : decode jb_H_february 36 = .ok (.aload_n 0, 1) := by decide +kernel
theorem jd_H_february_37 : decode jb_H_february 37 = .ok (.getfield 19, 3) := by decide +kernel
theorem jd_H_february_40 : decode jb_H_february 40 = .ok (.invokevirtual 182, 3) := by decide +kernel
theorem jd_H_february_43 : decode jb_H_february 43 = .ok (.iconst 0, 1) := by decide +kernel
theorem jd_H_february_44 : decode jb_H_february 44 = .ok (.istore 4, 2) := by decide +kernel
theorem jd_H_february_46 : decode jb_H_february 46 = .ok (.iload 4, 2) := by decide +kernel
theorem jd_H_february_48 : decode jb_H_february 48 = .ok (.iload_n 2, 1) := by decide +kernel
theorem jd_H_february_49 : decode jb_H_february 49 = .ok (.if_icmp .ge 30, 3) := by decide +kernel
theorem jd_H_february_52 : decode jb_H_february 52 = .ok (.aload_n 0, 1) := by decide +kernel
theorem jd_H_february_53 : decode jb_H_february 53 = .ok (.iload_n 1, 1) := by decide +kernel
theorem jd_H_february_54 : decode jb_H_february 54 = .ok (.iload 4, 2) := by decide +kernel
theorem jd_H_february_56 : decode jb_H_february 56 = .ok (.invokestatic 233, 3) := by decide +kernel
theorem jd_H_february_59 : decode jb_H_february 59 = .ok (.invokevirtual 236, 3) := by decide +kernel
theorem jd_H_february_62 : decode jb_H_february 62 = .ok (.aload_n 0, 1) := by decide +kernel
theorem jd_H_february_63 : decode jb_H_february 63 = .ok (.getfield 23, 3) := by decide +kernel
theorem jd_H_february_66 : decode jb_H_february 66 = .ok (.aload_n 0, 1) := by decide +kernel
theorem jd_H_february_67 : decode jb_H_february 67 = .ok (.getfield 48, 3) := by decide +kernel
theorem jd_H_february_70 : decode jb_H_february 70 = .ok (.invokevirtual 185, 3) := by decide +kernel
theorem jd_H_february_73 : decode jb_H_february 73 = .ok (.iinc 4 1, 3) := by decide +kernel
theorem jd_H_february_76 : decode jb_H_february 76 = .ok (.goto (-30), 3) := by decide +kernel
theorem jd_H_february_79 : decode jb_H_february 79 = .ok (.iload_n 3, 1) := by decide +kernel
theorem jd_H_february_80 : decode jb_H_february 80 = .ok (.lookupswitch 47 #[(0, 28), (1, 36)], 28) := by decide +kernel
theorem jd_H_february_108 : decode jb_H_february 108 = .ok (.aload_n 0, 1) := by decide +kernel
theorem jd_H_february_109 : decode jb_H_february 109 = .ok (.getfield 23, 3) := by decide +kernel
theorem jd_H_february_112 : decode jb_H_february 112 = .ok (.invokevirtual 239, 3) := by decide +kernel
theorem jd_H_february_115 : decode jb_H_february 115 = .ok (.ireturn, 1) := by decide +kernel
theorem jd_H_february_116 : decode jb_H_february 116 = .ok (.aload_n 0, 1) := by decide +kernel
theorem jd_H_february_117 : decode jb_H_february 117 = .ok (.getfield 23, 3) := by decide +kernel
theorem jd_H_february_120 : decode jb_H_february 120 = .ok (.getfield 243, 3) := by decide +kernel
theorem jd_H_february_123 : decode jb_H_february 123 = .ok (.invokestatic 246, 3) := by decide +kernel
theorem jd_H_february_126 : decode jb_H_february 126 = .ok (.ireturn, 1) := by decide +kernel
theorem jd_H_february_127 : decode jb_H_february 127 = .ok (.aload_n 0, 1) := by decide +kernel
theorem jd_H_february_128 : decode jb_H_february 128 = .ok (.getfield 23, 3) := by decide +kernel
theorem jd_H_february_131 : decode jb_H_february 131 = .ok (.getfield 139, 3) := by decide +kernel
theorem jd_H_february_134 : decode jb_H_february 134 = .ok (.invokestatic 246, 3) := by decide +kernel
theorem jd_H_february_137 : decode jb_H_february 137 = .ok (.aload_n 0, 1) := by decide +kernel
theorem jd_H_february_138 : decode jb_H_february 138 = .ok (.getfield 19, 3) := by decide +kernel
theorem jd_H_february_141 : decode jb_H_february 141 = .ok (.getfield 139, 3) := by decide +kernel
theorem jd_H_february_144 : decode jb_H_february 144 = .ok (.invokestatic 246, 3) := by decide +kernel
theorem jd_H_february_147 : decode jb_H_february 147 = .ok (.isub, 1) := by decide +kernel
theorem jd_H_february_148 : decode jb_H_february 148 = .ok (.ireturn, 1) := by decide +kernel
theorem jd_H_keep_0 : decode jb_H_keep 0 = .ok (.aload_n 0, 1) := by decide +kernel
theorem jd_H_keep_1 : decode jb_H_keep 1 = .ok (.getfield 35, 3) := by decide +kernel
theorem jd_H_keep_4 : decode jb_H_keep 4 = .ok (.invokevirtual 250, 3) := by decide +kernel
theorem jd_H_keep_7 : decode jb_H_keep 7 = .ok (.ifCond .eq 6, 3) := by decide +kernel
theorem jd_H_keep_10 : decode jb_H_keep 10 = .ok (.bipush (-3), 2) := by decide +kernel
theorem jd_H_keep_12 : decode jb_H_keep 12 = .ok (.ireturn, 1) := by decide +kernel
theorem jd_H_keep_13 : decode jb_H_keep 13 = .ok (.aload_n 0, 1) := by decide +kernel
theorem jd_H_keep_14 : decode jb_H_keep 14 = .ok (.getfield 35, 3) := by decide +kernel
theorem jd_H_keep_17 : decode jb_H_keep 17 = .ok (.aload_n 0, 1) := by decide +kernel
theorem jd_H_keep_18 : decode jb_H_keep 18 = .ok (.getfield 19, 3) := by decide +kernel
theorem jd_H_keep_21 : decode jb_H_keep 21 = .ok (.invokevirtual 151, 3) := by decide +kernel
theorem jd_H_keep_24 : decode jb_H_keep 24 = .ok (.aload_n 0, 1) := by decide +kernel
theorem jd_H_keep_25 : decode jb_H_keep 25 = .ok (.getfield 35, 3) := by decide +kernel
theorem jd_H_keep_28 : decode jb_H_keep 28 = .ok (.getfield 178, 3) := by decide +kernel
theorem jd_H_keep_31 : decode jb_H_keep 31 = .ok (.ireturn, 1) := by decide +kernel
theorem jd_H_back_0 : decode jb_H_back 0 = .ok (.aload_n 0, 1) := by decide +kernel
theorem jd_H_back_1 : decode jb_H_back 1 = .ok (.getfield 35, 3) := by decide +kernel
theorem jd_H_back_4 : decode jb_H_back 4 = .ok (.getfield 178, 3) := by decide +kernel
theorem jd_H_back_7 : decode jb_H_back 7 = .ok (.ifCond .ne 6, 3) := by decide +kernel
theorem jd_H_back_10 : decode jb_H_back 10 = .ok (.bipush (-2), 2) := by decide +kernel
theorem jd_H_back_12 : decode jb_H_back 12 = .ok (.ireturn, 1) := by decide +kernel
theorem jd_H_back_13 : decode jb_H_back 13 = .ok (.aload_n 0, 1) := by decide +kernel
theorem jd_H_back_14 : decode jb_H_back 14 = .ok (.getfield 35, 3) := by decide +kernel
theorem jd_H_back_17 : decode jb_H_back 17 = .ok (.aload_n 0, 1) := by decide +kernel
theorem jd_H_back_18 : decode jb_H_back 18 = .ok (.getfield 19, 3) := by decide +kernel
theorem jd_H_back_21 : decode jb_H_back 21 = .ok (.invokevirtual 179, 3) := by decide +kernel
theorem jd_H_back_24 : decode jb_H_back 24 = .ok (.aload_n 0, 1) := by decide +kernel
theorem jd_H_back_25 : decode jb_H_back 25 = .ok (.getfield 31, 3) := by decide +kernel
theorem jd_H_back_28 : decode jb_H_back 28 = .ok (.invokevirtual 86, 3) := by decide +kernel
theorem jd_H_back_31 : decode jb_H_back 31 = .ok (.aload_n 0, 1) := by decide +kernel
theorem jd_H_back_32 : decode jb_H_back 32 = .ok (.getfield 35, 3) := by decide +kernel
theorem jd_H_back_35 : decode jb_H_back 35 = .ok (.getfield 178, 3) := by decide +kernel
theorem jd_H_back_38 : decode jb_H_back 38 = .ok (.ireturn, 1) := by decide +kernel
theorem jd_H_count_0 : decode jb_H_count 0 = .ok (.iload_n 1, 1) := by decide +kernel
theorem jd_H_count_1 : decode jb_H_count 1 = .ok (.tableswitch 153 0 10 #[59, 67, 75, 83, 91, 102, 113, 121, 129, 137, 145], 59) := by decide +kernel
theorem jd_H_count_60 : decode jb_H_count 60 = .ok (.aload_n 0, 1) := by decide +kernel
theorem jd_H_count_61 : decode jb_H_count 61 = .ok (.getfield 48, 3) := by decide +kernel
theorem jd_H_count_64 : decode jb_H_count 64 = .ok (.getfield 90, 3) := by decide +kernel
theorem jd_H_count_67 : decode jb_H_count 67 = .ok (.ireturn, 1) := by decide +kernel
theorem jd_H_count_68 : decode jb_H_count 68 = .ok (.aload_n 0, 1) := by decide +kernel
theorem jd_H_count_69 : decode jb_H_count 69 = .ok (.getfield 48, 3) := by decide +kernel
theorem jd_H_count_72 : decode jb_H_count 72 = .ok (.getfield 251, 3) := by decide +kernel
theorem jd_H_count_75 : decode jb_H_count 75 = .ok (.ireturn, 1) := by decide +kernel
theorem jd_H_count_76 : decode jb_H_count 76 = .ok (.aload_n 0, 1) := by decide +kernel
theorem jd_H_count_77 : decode jb_H_count 77 = .ok (.getfield 48, 3) := by decide +kernel
theorem jd_H_count_80 : decode jb_H_count 80 = .ok (.getfield 189, 3) := by decide +kernel
theorem jd_H_count_83 : decode jb_H_count 83 = .ok (.ireturn, 1) := by decide +kernel
theorem jd_H_count_84 : decode jb_H_count 84 = .ok (.aload_n 0, 1) := by decide +kernel
theorem jd_H_count_85 : decode jb_H_count 85 = .ok (.getfield 19, 3) := by decide +kernel
theorem jd_H_count_88 : decode jb_H_count 88 = .ok (.getfield 97, 3) := by decide +kernel
theorem jd_H_count_91 : decode jb_H_count 91 = .ok (.ireturn, 1) := by decide +kernel
theorem jd_H_count_92 : decode jb_H_count 92 = .ok (.aload_n 0, 1) := by decide +kernel
theorem jd_H_count_93 : decode jb_H_count 93 = .ok (.getfield 19, 3) := by decide +kernel
theorem jd_H_count_96 : decode jb_H_count 96 = .ok (.getfield 243, 3) := by decide +kernel
theorem jd_H_count_99 : decode jb_H_count 99 = .ok (.invokestatic 246, 3) := by decide +kernel
theorem jd_H_count_102 : decode jb_H_count 102 = .ok (.ireturn, 1) := by decide +kernel
theorem jd_H_count_103 : decode jb_H_count 103 = .ok (.aload_n 0, 1) := by decide +kernel
theorem jd_H_count_104 : decode jb_H_count 104 = .ok (.getfield 19, 3) := by decide +kernel
theorem jd_H_count_107 : decode jb_H_count 107 = .ok (.getfield 139, 3) := by decide +kernel
theorem jd_H_count_110 : decode jb_H_count 110 = .ok (.invokestatic 246, 3) := by decide +kernel
theorem jd_H_count_113 : decode jb_H_count 113 = .ok (.ireturn, 1) := by decide +kernel
theorem jd_H_count_114 : decode jb_H_count 114 = .ok (.aload_n 0, 1) := by decide +kernel
theorem jd_H_count_115 : decode jb_H_count 115 = .ok (.getfield 19, 3) := by decide +kernel
theorem jd_H_count_118 : decode jb_H_count 118 = .ok (.invokevirtual 239, 3) := by decide +kernel
theorem jd_H_count_121 : decode jb_H_count 121 = .ok (.ireturn, 1) := by decide +kernel
theorem jd_H_count_122 : decode jb_H_count 122 = .ok (.aload_n 0, 1) := by decide +kernel
theorem jd_H_count_123 : decode jb_H_count 123 = .ok (.getfield 41, 3) := by decide +kernel
theorem jd_H_count_126 : decode jb_H_count 126 = .ok (.getfield 87, 3) := by decide +kernel
theorem jd_H_count_129 : decode jb_H_count 129 = .ok (.ireturn, 1) := by decide +kernel
theorem jd_H_count_130 : decode jb_H_count 130 = .ok (.aload_n 0, 1) := by decide +kernel
theorem jd_H_count_131 : decode jb_H_count 131 = .ok (.getfield 31, 3) := by decide +kernel
theorem jd_H_count_134 : decode jb_H_count 134 = .ok (.getfield 178, 3) := by decide +kernel
theorem jd_H_count_137 : decode jb_H_count 137 = .ok (.ireturn, 1) := by decide +kernel
theorem jd_H_count_138 : decode jb_H_count 138 = .ok (.aload_n 0, 1) := by decide +kernel
theorem jd_H_count_139 : decode jb_H_count 139 = .ok (.getfield 35, 3) := by decide +kernel
theorem jd_H_count_142 : decode jb_H_count 142 = .ok (.getfield 178, 3) := by decide +kernel
theorem jd_H_count_145 : decode jb_H_count 145 = .ok (.ireturn, 1) := by decide +kernel
theorem jd_H_count_146 : decode jb_H_count 146 = .ok (.aload_n 0, 1) := by decide +kernel
theorem jd_H_count_147 : decode jb_H_count 147 = .ok (.getfield 10, 3) := by decide +kernel
theorem jd_H_count_150 : decode jb_H_count 150 = .ok (.getfield 76, 3) := by decide +kernel
theorem jd_H_count_153 : decode jb_H_count 153 = .ok (.ireturn, 1) := by decide +kernel
theorem jd_H_count_154 : decode jb_H_count 154 = .ok (.iconst (-1), 1) := by decide +kernel
theorem jd_H_count_155 : decode jb_H_count 155 = .ok (.ireturn, 1) := by decide +kernel
