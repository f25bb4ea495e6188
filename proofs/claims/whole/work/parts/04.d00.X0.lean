theorem d_X0_init_0 : decode b_X0_init 0 = .ok (.aload_n 0, 1) := by decide +kernel
theorem d_X0_init_1 : decode b_X0_init 1 = .ok (.invokespecial 1, 3) := by decide +kernel
theorem d_X0_init_4 : decode b_X0_init 4 = .ok (.aload_n 0, 1) := by decide +kernel
theorem d_X0_init_5 : decode b_X0_init 5 = .ok (.iload_n 1, 1) := by decide +kernel
theorem d_X0_init_6 : decode b_X0_init 6 = .ok (.bipush 12, 2) := by decide +kernel
theorem d_X0_init_8 : decode b_X0_init 8 = .ok (.invokestatic 9, 3) := by decide +kernel
theorem d_X0_init_11 : decode b_X0_init 11 = .ok (.putfield 13, 3) := by decide +kernel
theorem d_X0_init_14 : decode b_X0_init 14 = .ok (.iload_n 2, 1) := by decide +kernel
theorem d_X0_init_15 : decode b_X0_init 15 = .ok (.bipush 6, 2) := by decide +kernel
theorem d_X0_init_17 : decode b_X0_init 17 = .ok (.invokestatic 9, 3) := by decide +kernel
theorem d_X0_init_20 : decode b_X0_init 20 = .ok (.istore 5, 2) := by decide +kernel
theorem d_X0_init_22 : decode b_X0_init 22 = .ok (.new 17, 3) := by decide +kernel
theorem d_X0_init_25 : decode b_X0_init 25 = .ok (.dup, 1) := by decide +kernel
theorem d_X0_init_26 : decode b_X0_init 26 = .ok (.invokespecial 19, 3) := by decide +kernel
theorem d_X0_init_29 : decode b_X0_init 29 = .ok (.astore 6, 2) := by decide +kernel
theorem d_X0_init_31 : decode b_X0_init 31 = .ok (.aload_n 0, 1) := by decide +kernel
theorem d_X0_init_32 : decode b_X0_init 32 = .ok (.new 20, 3) := by decide +kernel
theorem d_X0_init_35 : decode b_X0_init 35 = .ok (.dup, 1) := by decide +kernel
theorem d_X0_init_36 : decode b_X0_init 36 = .ok (.aload 6, 2) := by decide +kernel
theorem d_X0_init_38 : decode b_X0_init 38 = .ok (.aload_n 0, 1) := by decide +kernel
theorem d_X0_init_39 : decode b_X0_init 39 = .ok (.getfield 13, 3) := by decide +kernel
theorem d_X0_init_42 : decode b_X0_init 42 = .ok (.invokespecial 22, 3) := by decide +kernel
theorem d_X0_init_45 : decode b_X0_init 45 = .ok (.putfield 25, 3) := by decide +kernel
theorem d_X0_init_48 : decode b_X0_init 48 = .ok (.aload_n 0, 1) := by decide +kernel
theorem d_X0_init_49 : decode b_X0_init 49 = .ok (.new 29, 3) := by decide +kernel
theorem d_X0_init_52 : decode b_X0_init 52 = .ok (.dup, 1) := by decide +kernel
theorem d_X0_init_53 : decode b_X0_init 53 = .ok (.invokespecial 31, 3) := by decide +kernel
theorem d_X0_init_56 : decode b_X0_init 56 = .ok (.putfield 32, 3) := by decide +kernel
theorem d_X0_init_59 : decode b_X0_init 59 = .ok (.aload_n 0, 1) := by decide +kernel
theorem d_X0_init_60 : decode b_X0_init 60 = .ok (.new 36, 3) := by decide +kernel
theorem d_X0_init_63 : decode b_X0_init 63 = .ok (.dup, 1) := by decide +kernel
theorem d_X0_init_64 : decode b_X0_init 64 = .ok (.aload 6, 2) := by decide +kernel
theorem d_X0_init_66 : decode b_X0_init 66 = .ok (.aload_n 0, 1) := by decide +kernel
theorem d_X0_init_67 : decode b_X0_init 67 = .ok (.getfield 25, 3) := by decide +kernel
theorem d_X0_init_70 : decode b_X0_init 70 = .ok (.aload_n 0, 1) := by decide +kernel
theorem d_X0_init_71 : decode b_X0_init 71 = .ok (.getfield 32, 3) := by decide +kernel
theorem d_X0_init_74 : decode b_X0_init 74 = .ok (.aload_n 0, 1) := by decide +kernel
theorem d_X0_init_75 : decode b_X0_init 75 = .ok (.getfield 13, 3) := by decide +kernel
theorem d_X0_init_78 : decode b_X0_init 78 = .ok (.iload 5, 2) := by decide +kernel
theorem d_X0_init_80 : decode b_X0_init 80 = .ok (.iload_n 3, 1) := by decide +kernel
theorem d_X0_init_81 : decode b_X0_init 81 = .ok (.bipush 20, 2) := by decide +kernel
theorem d_X0_init_83 : decode b_X0_init 83 = .ok (.invokestatic 9, 3) := by decide +kernel
theorem d_X0_init_86 : decode b_X0_init 86 = .ok (.invokespecial 38, 3) := by decide +kernel
theorem d_X0_init_89 : decode b_X0_init 89 = .ok (.putfield 41, 3) := by decide +kernel
theorem d_X0_init_92 : decode b_X0_init 92 = .ok (.aload_n 0, 1) := by decide +kernel
theorem d_X0_init_93 : decode b_X0_init 93 = .ok (.new 45, 3) := by decide +kernel
theorem d_X0_init_96 : decode b_X0_init 96 = .ok (.dup, 1) := by decide +kernel
theorem d_X0_init_97 : decode b_X0_init 97 = .ok (.aload 6, 2) := by decide +kernel
theorem d_X0_init_99 : decode b_X0_init 99 = .ok (.aload_n 0, 1) := by decide +kernel
theorem d_X0_init_100 : decode b_X0_init 100 = .ok (.getfield 13, 3) := by decide +kernel
theorem d_X0_init_103 : decode b_X0_init 103 = .ok (.iload 5, 2) := by decide +kernel
theorem d_X0_init_105 : decode b_X0_init 105 = .ok (.iload 4, 2) := by decide +kernel
theorem d_X0_init_107 : decode b_X0_init 107 = .ok (.invokespecial 47, 3) := by decide +kernel
theorem d_X0_init_110 : decode b_X0_init 110 = .ok (.putfield 50, 3) := by decide +kernel
theorem d_X0_init_113 : decode b_X0_init 113 = .ok (.return_, 1) := by decide +kernel
theorem d_X0_within_0 : decode b_X0_within 0 = .ok (.iconst 1, 1) := by decide +kernel
theorem d_X0_within_1 : decode b_X0_within 1 = .ok (.iload_n 1, 1) := by decide +kernel
theorem d_X0_within_2 : decode b_X0_within 2 = .ok (.iload_n 0, 1) := by decide +kernel
theorem d_X0_within_3 : decode b_X0_within 3 = .ok (.invokestatic 181, 3) := by decide +kernel
theorem d_X0_within_6 : decode b_X0_within 6 = .ok (.invokestatic 186, 3) := by decide +kernel
theorem d_X0_within_9 : decode b_X0_within 9 = .ok (.ireturn, 1) := by decide +kernel
theorem d_X0_rowOf_0 : decode b_X0_rowOf 0 = .ok (.iload_n 0, 1) := by decide +kernel
theorem d_X0_rowOf_1 : decode b_X0_rowOf 1 = .ok (.i2l, 1) := by decide +kernel
theorem d_X0_rowOf_2 : decode b_X0_rowOf 2 = .ok (.bipush 32, 2) := by decide +kernel
theorem d_X0_rowOf_4 : decode b_X0_rowOf 4 = .ok (.lshl, 1) := by decide +kernel
theorem d_X0_rowOf_5 : decode b_X0_rowOf 5 = .ok (.iload_n 1, 1) := by decide +kernel
theorem d_X0_rowOf_6 : decode b_X0_rowOf 6 = .ok (.i2l, 1) := by decide +kernel
theorem d_X0_rowOf_7 : decode b_X0_rowOf 7 = .ok (.ldc2_w 189, 3) := by decide +kernel
theorem d_X0_rowOf_10 : decode b_X0_rowOf 10 = .ok (.land, 1) := by decide +kernel
theorem d_X0_rowOf_11 : decode b_X0_rowOf 11 = .ok (.lor, 1) := by decide +kernel
theorem d_X0_rowOf_12 : decode b_X0_rowOf 12 = .ok (.lreturn, 1) := by decide +kernel
theorem d_X0_begin_0 : decode b_X0_begin 0 = .ok (.aload_n 0, 1) := by decide +kernel
theorem d_X0_begin_1 : decode b_X0_begin 1 = .ok (.getfield 25, 3) := by decide +kernel
theorem d_X0_begin_4 : decode b_X0_begin 4 = .ok (.invokevirtual 54, 3) := by decide +kernel
theorem d_X0_begin_7 : decode b_X0_begin 7 = .ok (.ireturn, 1) := by decide +kernel
theorem d_X0_lock_0 : decode b_X0_lock 0 = .ok (.aload_n 0, 1) := by decide +kernel
theorem d_X0_lock_1 : decode b_X0_lock 1 = .ok (.iload_n 1, 1) := by decide +kernel
theorem d_X0_lock_2 : decode b_X0_lock 2 = .ok (.iload_n 2, 1) := by decide +kernel
theorem d_X0_lock_3 : decode b_X0_lock 3 = .ok (.invokevirtual 58, 3) := by decide +kernel
theorem d_X0_lock_6 : decode b_X0_lock 6 = .ok (.istore_n 3, 1) := by decide +kernel
theorem d_X0_lock_7 : decode b_X0_lock 7 = .ok (.iload_n 3, 1) := by decide +kernel
theorem d_X0_lock_8 : decode b_X0_lock 8 = .ok (.ifCond .eq 5, 3) := by decide +kernel
theorem d_X0_lock_11 : decode b_X0_lock 11 = .ok (.iload_n 3, 1) := by decide +kernel
theorem d_X0_lock_12 : decode b_X0_lock 12 = .ok (.ireturn, 1) := by decide +kernel
theorem d_X0_lock_13 : decode b_X0_lock 13 = .ok (.aload_n 0, 1) := by decide +kernel
theorem d_X0_lock_14 : decode b_X0_lock 14 = .ok (.getfield 25, 3) := by decide +kernel
theorem d_X0_lock_17 : decode b_X0_lock 17 = .ok (.iload_n 1, 1) := by decide +kernel
theorem d_X0_lock_18 : decode b_X0_lock 18 = .ok (.iload_n 2, 1) := by decide +kernel
theorem d_X0_lock_19 : decode b_X0_lock 19 = .ok (.invokevirtual 61, 3) := by decide +kernel
theorem d_X0_lock_22 : decode b_X0_lock 22 = .ok (.iconst 0, 1) := by decide +kernel
theorem d_X0_lock_23 : decode b_X0_lock 23 = .ok (.ireturn, 1) := by decide +kernel
theorem d_X0_refusalOf_0 : decode b_X0_refusalOf 0 = .ok (.aload_n 0, 1) := by decide +kernel
theorem d_X0_refusalOf_1 : decode b_X0_refusalOf 1 = .ok (.getfield 25, 3) := by decide +kernel
theorem d_X0_refusalOf_4 : decode b_X0_refusalOf 4 = .ok (.iload_n 1, 1) := by decide +kernel
theorem d_X0_refusalOf_5 : decode b_X0_refusalOf 5 = .ok (.invokevirtual 82, 3) := by decide +kernel
theorem d_X0_refusalOf_8 : decode b_X0_refusalOf 8 = .ok (.ifCond .eq 11, 3) := by decide +kernel
theorem d_X0_refusalOf_11 : decode b_X0_refusalOf 11 = .ok (.aload_n 0, 1) := by decide +kernel
theorem d_X0_refusalOf_12 : decode b_X0_refusalOf 12 = .ok (.iload_n 2, 1) := by decide +kernel
theorem d_X0_refusalOf_13 : decode b_X0_refusalOf 13 = .ok (.invokevirtual 89, 3) := by decide +kernel
theorem d_X0_refusalOf_16 : decode b_X0_refusalOf 16 = .ok (.ifCond .ne 6, 3) := by decide +kernel
theorem d_X0_refusalOf_19 : decode b_X0_refusalOf 19 = .ok (.bipush (-2), 2) := by decide +kernel
theorem d_X0_refusalOf_21 : decode b_X0_refusalOf 21 = .ok (.ireturn, 1) := by decide +kernel
theorem d_X0_refusalOf_22 : decode b_X0_refusalOf 22 = .ok (.aload_n 0, 1) := by decide +kernel
theorem d_X0_refusalOf_23 : decode b_X0_refusalOf 23 = .ok (.getfield 25, 3) := by decide +kernel
theorem d_X0_refusalOf_26 : decode b_X0_refusalOf 26 = .ok (.iload_n 1, 1) := by decide +kernel
theorem d_X0_refusalOf_27 : decode b_X0_refusalOf 27 = .ok (.iload_n 2, 1) := by decide +kernel
theorem d_X0_refusalOf_28 : decode b_X0_refusalOf 28 = .ok (.invokevirtual 177, 3) := by decide +kernel
theorem d_X0_refusalOf_31 : decode b_X0_refusalOf 31 = .ok (.ifCond .eq 8, 3) := by decide +kernel
theorem d_X0_refusalOf_34 : decode b_X0_refusalOf 34 = .ok (.bipush (-3), 2) := by decide +kernel
theorem d_X0_refusalOf_36 : decode b_X0_refusalOf 36 = .ok (.goto 4, 3) := by decide +kernel
theorem d_X0_refusalOf_39 : decode b_X0_refusalOf 39 = .ok (.iconst 0, 1) := by decide +kernel
theorem d_X0_refusalOf_40 : decode b_X0_refusalOf 40 = .ok (.ireturn, 1) := by decide +kernel
theorem d_X0_isKey_0 : decode b_X0_isKey 0 = .ok (.iload_n 1, 1) := by decide +kernel
theorem d_X0_isKey_1 : decode b_X0_isKey 1 = .ok (.ifCond .lt 15, 3) := by decide +kernel
theorem d_X0_isKey_4 : decode b_X0_isKey 4 = .ok (.iload_n 1, 1) := by decide +kernel
theorem d_X0_isKey_5 : decode b_X0_isKey 5 = .ok (.aload_n 0, 1) := by decide +kernel
theorem d_X0_isKey_6 : decode b_X0_isKey 6 = .ok (.getfield 13, 3) := by decide +kernel
theorem d_X0_isKey_9 : decode b_X0_isKey 9 = .ok (.if_icmp .ge 7, 3) := by decide +kernel
theorem d_X0_isKey_12 : decode b_X0_isKey 12 = .ok (.iconst 1, 1) := by decide +kernel
theorem d_X0_isKey_13 : decode b_X0_isKey 13 = .ok (.goto 4, 3) := by decide +kernel
theorem d_X0_isKey_16 : decode b_X0_isKey 16 = .ok (.iconst 0, 1) := by decide +kernel
theorem d_X0_isKey_17 : decode b_X0_isKey 17 = .ok (.ireturn, 1) := by decide +kernel
theorem d_X0_put_0 : decode b_X0_put 0 = .ok (.iload_n 3, 1) := by decide +kernel
theorem d_X0_put_1 : decode b_X0_put 1 = .ok (.invokestatic 65, 3) := by decide +kernel
theorem d_X0_put_4 : decode b_X0_put 4 = .ok (.ifCond .ne 6, 3) := by decide +kernel
theorem d_X0_put_7 : decode b_X0_put 7 = .ok (.bipush (-2), 2) := by decide +kernel
theorem d_X0_put_9 : decode b_X0_put 9 = .ok (.ireturn, 1) := by decide +kernel
theorem d_X0_put_10 : decode b_X0_put 10 = .ok (.aload_n 0, 1) := by decide +kernel
theorem d_X0_put_11 : decode b_X0_put 11 = .ok (.iload_n 1, 1) := by decide +kernel
theorem d_X0_put_12 : decode b_X0_put 12 = .ok (.iload_n 2, 1) := by decide +kernel
theorem d_X0_put_13 : decode b_X0_put 13 = .ok (.invokevirtual 58, 3) := by decide +kernel
theorem d_X0_put_16 : decode b_X0_put 16 = .ok (.istore 5, 2) := by decide +kernel
theorem d_X0_put_18 : decode b_X0_put 18 = .ok (.iload 5, 2) := by decide +kernel
theorem d_X0_put_20 : decode b_X0_put 20 = .ok (.ifCond .eq 8, 3) := by decide +kernel
theorem d_X0_put_23 : decode b_X0_put 23 = .ok (.iload 5, 2) := by decide +kernel
theorem d_X0_put_25 : decode b_X0_put 25 = .ok (.goto 18, 3) := by decide +kernel
theorem d_X0_put_28 : decode b_X0_put 28 = .ok (.aload_n 0, 1) := by decide +kernel
theorem d_X0_put_29 : decode b_X0_put 29 = .ok (.getfield 25, 3) := by decide +kernel
theorem d_X0_put_32 : decode b_X0_put 32 = .ok (.iload_n 1, 1) := by decide +kernel
theorem d_X0_put_33 : decode b_X0_put 33 = .ok (.iload_n 2, 1) := by decide +kernel
theorem d_X0_put_34 : decode b_X0_put 34 = .ok (.iload_n 3, 1) := by decide +kernel
theorem d_X0_put_35 : decode b_X0_put 35 = .ok (.iload 4, 2) := by decide +kernel
theorem d_X0_put_37 : decode b_X0_put 37 = .ok (.invokestatic 69, 3) := by decide +kernel
theorem d_X0_put_40 : decode b_X0_put 40 = .ok (.invokevirtual 73, 3) := by decide +kernel
theorem d_X0_put_43 : decode b_X0_put 43 = .ok (.ireturn, 1) := by decide +kernel
theorem d_X0_isGroup_0 : decode b_X0_isGroup 0 = .ok (.iload_n 0, 1) := by decide +kernel
theorem d_X0_isGroup_1 : decode b_X0_isGroup 1 = .ok (.ifCond .lt 12, 3) := by decide +kernel
theorem d_X0_isGroup_4 : decode b_X0_isGroup 4 = .ok (.iload_n 0, 1) := by decide +kernel
theorem d_X0_isGroup_5 : decode b_X0_isGroup 5 = .ok (.iconst 4, 1) := by decide +kernel
theorem d_X0_isGroup_6 : decode b_X0_isGroup 6 = .ok (.if_icmp .ge 7, 3) := by decide +kernel
theorem d_X0_isGroup_9 : decode b_X0_isGroup 9 = .ok (.iconst 1, 1) := by decide +kernel
theorem d_X0_isGroup_10 : decode b_X0_isGroup 10 = .ok (.goto 4, 3) := by decide +kernel
theorem d_X0_isGroup_13 : decode b_X0_isGroup 13 = .ok (.iconst 0, 1) := by decide +kernel
theorem d_X0_isGroup_14 : decode b_X0_isGroup 14 = .ok (.ireturn, 1) := by decide +kernel
theorem d_X0_remove_0 : decode b_X0_remove 0 = .ok (.aload_n 0, 1) := by decide +kernel
theorem d_X0_remove_1 : decode b_X0_remove 1 = .ok (.iload_n 1, 1) := by decide +kernel
theorem d_X0_remove_2 : decode b_X0_remove 2 = .ok (.iload_n 2, 1) := by decide +kernel
theorem d_X0_remove_3 : decode b_X0_remove 3 = .ok (.invokevirtual 58, 3) := by decide +kernel
theorem d_X0_remove_6 : decode b_X0_remove 6 = .ok (.istore_n 3, 1) := by decide +kernel
theorem d_X0_remove_7 : decode b_X0_remove 7 = .ok (.iload_n 3, 1) := by decide +kernel
theorem d_X0_remove_8 : decode b_X0_remove 8 = .ok (.ifCond .eq 5, 3) := by decide +kernel
theorem d_X0_remove_11 : decode b_X0_remove 11 = .ok (.iload_n 3, 1) := by decide +kernel
theorem d_X0_remove_12 : decode b_X0_remove 12 = .ok (.ireturn, 1) := by decide +kernel
theorem d_X0_remove_13 : decode b_X0_remove 13 = .ok (.aload_n 0, 1) := by decide +kernel
theorem d_X0_remove_14 : decode b_X0_remove 14 = .ok (.getfield 25, 3) := by decide +kernel
theorem d_X0_remove_17 : decode b_X0_remove 17 = .ok (.iload_n 1, 1) := by decide +kernel
theorem d_X0_remove_18 : decode b_X0_remove 18 = .ok (.iload_n 2, 1) := by decide +kernel
theorem d_X0_remove_19 : decode b_X0_remove 19 = .ok (.invokevirtual 77, 3) := by decide +kernel
theorem d_X0_remove_22 : decode b_X0_remove 22 = .ok (.ldc2_w 80, 3) := by decide +kernel
theorem d_X0_remove_25 : decode b_X0_remove 25 = .ok (.lcmp, 1) := by decide +kernel
theorem d_X0_remove_26 : decode b_X0_remove 26 = .ok (.ifCond .ne 8, 3) := by decide +kernel
theorem d_X0_remove_29 : decode b_X0_remove 29 = .ok (.bipush (-2), 2) := by decide +kernel
theorem d_X0_remove_31 : decode b_X0_remove 31 = .ok (.goto 15, 3) := by decide +kernel
theorem d_X0_remove_34 : decode b_X0_remove 34 = .ok (.aload_n 0, 1) := by decide +kernel
theorem d_X0_remove_35 : decode b_X0_remove 35 = .ok (.getfield 25, 3) := by decide +kernel
theorem d_X0_remove_38 : decode b_X0_remove 38 = .ok (.iload_n 1, 1) := by decide +kernel
theorem d_X0_remove_39 : decode b_X0_remove 39 = .ok (.iload_n 2, 1) := by decide +kernel
theorem d_X0_remove_40 : decode b_X0_remove 40 = .ok (.ldc2_w 80, 3) := by decide +kernel
theorem d_X0_remove_43 : decode b_X0_remove 43 = .ok (.invokevirtual 73, 3) := by decide +kernel
theorem d_X0_remove_46 : decode b_X0_remove 46 = .ok (.ireturn, 1) := by decide +kernel
theorem d_X0_end_0 : decode b_X0_end 0 = .ok (.aload_n 0, 1) := by decide +kernel
theorem d_X0_end_1 : decode b_X0_end 1 = .ok (.getfield 25, 3) := by decide +kernel
theorem d_X0_end_4 : decode b_X0_end 4 = .ok (.iload_n 1, 1) := by decide +kernel
theorem d_X0_end_5 : decode b_X0_end 5 = .ok (.invokevirtual 82, 3) := by decide +kernel
theorem d_X0_end_8 : decode b_X0_end 8 = .ok (.ifCond .eq 15, 3) := by decide +kernel
theorem d_X0_end_11 : decode b_X0_end 11 = .ok (.aload_n 0, 1) := by decide +kernel
theorem d_X0_end_12 : decode b_X0_end 12 = .ok (.getfield 25, 3) := by decide +kernel
theorem d_X0_end_15 : decode b_X0_end 15 = .ok (.iload_n 1, 1) := by decide +kernel
theorem d_X0_end_16 : decode b_X0_end 16 = .ok (.iload_n 2, 1) := by decide +kernel
theorem d_X0_end_17 : decode b_X0_end 17 = .ok (.invokevirtual 85, 3) := by decide +kernel
theorem d_X0_end_20 : decode b_X0_end 20 = .ok (.goto 5, 3) := by decide +kernel
theorem d_X0_end_23 : decode b_X0_end 23 = .ok (.bipush (-2), 2) := by decide +kernel
theorem d_X0_end_25 : decode b_X0_end 25 = .ok (.ireturn, 1) := by decide +kernel
theorem d_X0_row_0 : decode b_X0_row 0 = .ok (.aload_n 0, 1) := by decide +kernel
theorem d_X0_row_1 : decode b_X0_row 1 = .ok (.iload_n 2, 1) := by decide +kernel
theorem d_X0_row_2 : decode b_X0_row 2 = .ok (.invokevirtual 89, 3) := by decide +kernel
theorem d_X0_row_5 : decode b_X0_row 5 = .ok (.ifCond .ne 7, 3) := by decide +kernel
theorem d_X0_row_8 : decode b_X0_row 8 = .ok (.ldc2_w 80, 3) := by decide +kernel
theorem d_X0_row_11 : decode b_X0_row 11 = .ok (.lreturn, 1) := by decide +kernel
theorem d_X0_row_12 : decode b_X0_row 12 = .ok (.iload_n 1, 1) := by decide +kernel
theorem d_X0_row_13 : decode b_X0_row 13 = .ok (.iconst (-1), 1) := by decide +kernel
theorem d_X0_row_14 : decode b_X0_row 14 = .ok (.if_icmp .ne 12, 3) := by decide +kernel
theorem d_X0_row_17 : decode b_X0_row 17 = .ok (.aload_n 0, 1) := by decide +kernel
theorem d_X0_row_18 : decode b_X0_row 18 = .ok (.getfield 25, 3) := by decide +kernel
theorem d_X0_row_21 : decode b_X0_row 21 = .ok (.iload_n 2, 1) := by decide +kernel
theorem d_X0_row_22 : decode b_X0_row 22 = .ok (.invokevirtual 92, 3) := by decide +kernel
theorem d_X0_row_25 : decode b_X0_row 25 = .ok (.lreturn, 1) := by decide +kernel
theorem d_X0_row_26 : decode b_X0_row 26 = .ok (.aload_n 0, 1) := by decide +kernel
theorem d_X0_row_27 : decode b_X0_row 27 = .ok (.getfield 25, 3) := by decide +kernel
theorem d_X0_row_30 : decode b_X0_row 30 = .ok (.iload_n 1, 1) := by decide +kernel
theorem d_X0_row_31 : decode b_X0_row 31 = .ok (.invokevirtual 82, 3) := by decide +kernel
theorem d_X0_row_34 : decode b_X0_row 34 = .ok (.ifCond .eq 15, 3) := by decide +kernel
theorem d_X0_row_37 : decode b_X0_row 37 = .ok (.aload_n 0, 1) := by decide +kernel
theorem d_X0_row_38 : decode b_X0_row 38 = .ok (.getfield 25, 3) := by decide +kernel
theorem d_X0_row_41 : decode b_X0_row 41 = .ok (.iload_n 1, 1) := by decide +kernel
theorem d_X0_row_42 : decode b_X0_row 42 = .ok (.iload_n 2, 1) := by decide +kernel
theorem d_X0_row_43 : decode b_X0_row 43 = .ok (.invokevirtual 77, 3) := by decide +kernel
theorem d_X0_row_46 : decode b_X0_row 46 = .ok (.goto 6, 3) := by decide +kernel
theorem d_X0_row_49 : decode b_X0_row 49 = .ok (.ldc2_w 80, 3) := by decide +kernel
theorem d_X0_row_52 : decode b_X0_row 52 = .ok (.lreturn, 1) := by decide +kernel
theorem d_X0_crash_0 : decode b_X0_crash 0 = .ok (.iload_n 1, 1) := by decide +kernel
theorem d_X0_crash_1 : decode b_X0_crash 1 = .ok (.tableswitch 82 0 2 #[27, 36, 73], 27) := by decide +kernel
theorem d_X0_crash_28 : decode b_X0_crash 28 = .ok (.aload_n 0, 1) := by decide +kernel
theorem d_X0_crash_29 : decode b_X0_crash 29 = .ok (.getfield 25, 3) := by decide +kernel
theorem d_X0_crash_32 : decode b_X0_crash 32 = .ok (.invokevirtual 96, 3) := by decide +kernel
theorem d_X0_crash_35 : decode b_X0_crash 35 = .ok (.iconst 1, 1) := by decide +kernel
theorem d_X0_crash_36 : decode b_X0_crash 36 = .ok (.ireturn, 1) := by decide +kernel
theorem d_X0_crash_37 : decode b_X0_crash 37 = .ok (.aload_n 0, 1) := by decide +kernel
theorem d_X0_crash_38 : decode b_X0_crash 38 = .ok (.getfield 50, 3) := by decide +kernel
theorem d_X0_crash_41 : decode b_X0_crash 41 = .ok (.invokevirtual 99, 3) := by decide +kernel
theorem d_X0_crash_44 : decode b_X0_crash 44 = .ok (.aload_n 0, 1) := by decide +kernel
theorem d_X0_crash_45 : decode b_X0_crash 45 = .ok (.getfield 32, 3) := by decide +kernel
theorem d_X0_crash_48 : decode b_X0_crash 48 = .ok (.invokevirtual 102, 3) := by decide +kernel
theorem d_X0_crash_51 : decode b_X0_crash 51 = .ok (.aload_n 0, 1) := by decide +kernel
theorem d_X0_crash_52 : decode b_X0_crash 52 = .ok (.getfield 41, 3) := by decide +kernel
theorem d_X0_crash_55 : decode b_X0_crash 55 = .ok (.aload_n 0, 1) := by decide +kernel
theorem d_X0_crash_56 : decode b_X0_crash 56 = .ok (.getfield 50, 3) := by decide +kernel
theorem d_X0_crash_59 : decode b_X0_crash 59 = .ok (.getfield 105, 3) := by decide +kernel
theorem d_X0_crash_62 : decode b_X0_crash 62 = .ok (.aload_n 0, 1) := by decide +kernel
theorem d_X0_crash_63 : decode b_X0_crash 63 = .ok (.getfield 50, 3) := by decide +kernel
theorem d_X0_crash_66 : decode b_X0_crash 66 = .ok (.getfield 108, 3) := by decide +kernel
theorem d_X0_crash_69 : decode b_X0_crash 69 = .ok (.invokevirtual 111, 3) := by decide +kernel
theorem d_X0_crash_72 : decode b_X0_crash 72 = .ok (.iconst 1, 1) := by decide +kernel
theorem d_X0_crash_73 : decode b_X0_crash 73 = .ok (.ireturn, 1) := by decide +kernel
theorem d_X0_crash_74 : decode b_X0_crash 74 = .ok (.aload_n 0, 1) := by decide +kernel
theorem d_X0_crash_75 : decode b_X0_crash 75 = .ok (.getfield 50, 3) := by decide +kernel
theorem d_X0_crash_78 : decode b_X0_crash 78 = .ok (.invokevirtual 99, 3) := by decide +kernel
theorem d_X0_crash_81 : decode b_X0_crash 81 = .ok (.iconst 1, 1) := by decide +kernel
theorem d_X0_crash_82 : decode b_X0_crash 82 = .ok (.ireturn, 1) := by decide +kernel
theorem d_X0_crash_83 : decode b_X0_crash 83 = .ok (.iconst 0, 1) := by decide +kernel
theorem d_X0_crash_84 : decode b_X0_crash 84 = .ok (.ireturn, 1) := by decide +kernel
theorem d_X0_snapshot_0 : decode b_X0_snapshot 0 = .ok (.aload_n 0, 1) := by decide +kernel
theorem d_X0_snapshot_1 : decode b_X0_snapshot 1 = .ok (.getfield 41, 3) := by decide +kernel
theorem d_X0_snapshot_4 : decode b_X0_snapshot 4 = .ok (.invokevirtual 114, 3) := by decide +kernel
theorem d_X0_snapshot_7 : decode b_X0_snapshot 7 = .ok (.ireturn, 1) := by decide +kernel
theorem d_X0_step_0 : decode b_X0_step 0 = .ok (.iload_n 1, 1) := by decide +kernel
theorem d_X0_step_1 : decode b_X0_step 1 = .ok (.ifCond .lt 9, 3) := by decide +kernel
theorem d_X0_step_4 : decode b_X0_step 4 = .ok (.iload_n 1, 1) := by decide +kernel
theorem d_X0_step_5 : decode b_X0_step 5 = .ok (.bipush 100, 2) := by decide +kernel
theorem d_X0_step_7 : decode b_X0_step 7 = .ok (.if_icmp .le 6, 3) := by decide +kernel
theorem d_X0_step_10 : decode b_X0_step 10 = .ok (.bipush (-2), 2) := by decide +kernel
theorem d_X0_step_12 : decode b_X0_step 12 = .ok (.ireturn, 1) := by decide +kernel
theorem d_X0_step_13 : decode b_X0_step 13 = .ok (.iconst 0, 1) := by decide +kernel
theorem d_X0_step_14 : decode b_X0_step 14 = .ok (.istore_n 2, 1) := by decide +kernel
theorem d_X0_step_15 : decode b_X0_step 15 = .ok (.iload_n 2, 1) := by decide +kernel
theorem d_X0_step_16 : decode b_X0_step 16 = .ok (.iload_n 1, 1) := by decide +kernel
theorem d_X0_step_17 : decode b_X0_step 17 = .ok (.if_icmp .ge 19, 3) := by decide +kernel
theorem d_X0_step_20 : decode b_X0_step 20 = .ok (.aload_n 0, 1) := by decide +kernel
theorem d_X0_step_21 : decode b_X0_step 21 = .ok (.getfield 41, 3) := by decide +kernel
theorem d_X0_step_24 : decode b_X0_step 24 = .ok (.invokevirtual 117, 3) := by decide +kernel
theorem d_X0_step_27 : decode b_X0_step 27 = .ok (.ifCond .eq 9, 3) := by decide +kernel
theorem d_X0_step_30 : decode b_X0_step 30 = .ok (.iinc 2 1, 3) := by decide +kernel
theorem d_X0_step_33 : decode b_X0_step 33 = .ok (.goto (-18), 3) := by decide +kernel
theorem d_X0_step_36 : decode b_X0_step 36 = .ok (.iload_n 2, 1) := by decide +kernel
theorem d_X0_step_37 : decode b_X0_step 37 = .ok (.ireturn, 1) := by decide +kernel
theorem d_X0_waiting_0 : decode b_X0_waiting 0 = .ok (.aload_n 0, 1) := by decide +kernel
theorem d_X0_waiting_1 : decode b_X0_waiting 1 = .ok (.getfield 41, 3) := by decide +kernel
theorem d_X0_waiting_4 : decode b_X0_waiting 4 = .ok (.getfield 121, 3) := by decide +kernel
theorem d_X0_waiting_7 : decode b_X0_waiting 7 = .ok (.ireturn, 1) := by decide +kernel
theorem d_X0_tick_0 : decode b_X0_tick 0 = .ok (.iload_n 1, 1) := by decide +kernel
theorem d_X0_tick_1 : decode b_X0_tick 1 = .ok (.ifCond .lt 9, 3) := by decide +kernel
theorem d_X0_tick_4 : decode b_X0_tick 4 = .ok (.iload_n 1, 1) := by decide +kernel
theorem d_X0_tick_5 : decode b_X0_tick 5 = .ok (.bipush 50, 2) := by decide +kernel
theorem d_X0_tick_7 : decode b_X0_tick 7 = .ok (.if_icmp .le 6, 3) := by decide +kernel
theorem d_X0_tick_10 : decode b_X0_tick 10 = .ok (.bipush (-2), 2) := by decide +kernel
theorem d_X0_tick_12 : decode b_X0_tick 12 = .ok (.ireturn, 1) := by decide +kernel
theorem d_X0_tick_13 : decode b_X0_tick 13 = .ok (.iconst 0, 1) := by decide +kernel
theorem d_X0_tick_14 : decode b_X0_tick 14 = .ok (.istore_n 2, 1) := by decide +kernel
theorem d_X0_tick_15 : decode b_X0_tick 15 = .ok (.iconst 0, 1) := by decide +kernel
theorem d_X0_tick_16 : decode b_X0_tick 16 = .ok (.istore_n 3, 1) := by decide +kernel
theorem d_X0_tick_17 : decode b_X0_tick 17 = .ok (.iload_n 3, 1) := by decide +kernel
theorem d_X0_tick_18 : decode b_X0_tick 18 = .ok (.iload_n 1, 1) := by decide +kernel
theorem d_X0_tick_19 : decode b_X0_tick 19 = .ok (.if_icmp .ge 19, 3) := by decide +kernel
theorem d_X0_tick_22 : decode b_X0_tick 22 = .ok (.iload_n 2, 1) := by decide +kernel
theorem d_X0_tick_23 : decode b_X0_tick 23 = .ok (.aload_n 0, 1) := by decide +kernel
theorem d_X0_tick_24 : decode b_X0_tick 24 = .ok (.getfield 41, 3) := by decide +kernel
theorem d_X0_tick_27 : decode b_X0_tick 27 = .ok (.invokevirtual 124, 3) := by decide +kernel
theorem d_X0_tick_30 : decode b_X0_tick 30 = .ok (.iadd, 1) := by decide +kernel
theorem d_X0_tick_31 : decode b_X0_tick 31 = .ok (.istore_n 2, 1) := by decide +kernel
theorem d_X0_tick_32 : decode b_X0_tick 32 = .ok (.iinc 3 1, 3) := by decide +kernel
theorem d_X0_tick_35 : decode b_X0_tick 35 = .ok (.goto (-18), 3) := by decide +kernel
theorem d_X0_tick_38 : decode b_X0_tick 38 = .ok (.iload_n 2, 1) := by decide +kernel
theorem d_X0_tick_39 : decode b_X0_tick 39 = .ok (.ireturn, 1) := by decide +kernel
theorem d_X0_deliver_0 : decode b_X0_deliver 0 = .ok (.aload_n 0, 1) := by decide +kernel
theorem d_X0_deliver_1 : decode b_X0_deliver 1 = .ok (.getfield 32, 3) := by decide +kernel
theorem d_X0_deliver_4 : decode b_X0_deliver 4 = .ok (.iload_n 1, 1) := by decide +kernel
theorem d_X0_deliver_5 : decode b_X0_deliver 5 = .ok (.invokevirtual 127, 3) := by decide +kernel
theorem d_X0_deliver_8 : decode b_X0_deliver 8 = .ok (.ifCond .ne 5, 3) := by decide +kernel
theorem d_X0_deliver_11 : decode b_X0_deliver 11 = .ok (.iconst 0, 1) := by decide +kernel
theorem d_X0_deliver_12 : decode b_X0_deliver 12 = .ok (.ireturn, 1) := by decide +kernel
theorem d_X0_deliver_13 : decode b_X0_deliver 13 = .ok (.aload_n 0, 1) := by decide +kernel
theorem d_X0_deliver_14 : decode b_X0_deliver 14 = .ok (.getfield 32, 3) := by decide +kernel
theorem d_X0_deliver_17 : decode b_X0_deliver 17 = .ok (.iload_n 1, 1) := by decide +kernel
theorem d_X0_deliver_18 : decode b_X0_deliver 18 = .ok (.iconst 0, 1) := by decide +kernel
theorem d_X0_deliver_19 : decode b_X0_deliver 19 = .ok (.invokevirtual 130, 3) := by decide +kernel
theorem d_X0_deliver_22 : decode b_X0_deliver 22 = .ok (.istore_n 2, 1) := by decide +kernel
theorem d_X0_deliver_23 : decode b_X0_deliver 23 = .ok (.aload_n 0, 1) := by decide +kernel
theorem d_X0_deliver_24 : decode b_X0_deliver 24 = .ok (.getfield 32, 3) := by decide +kernel
theorem d_X0_deliver_27 : decode b_X0_deliver 27 = .ok (.iload_n 1, 1) := by decide +kernel
theorem d_X0_deliver_28 : decode b_X0_deliver 28 = .ok (.iconst 1, 1) := by decide +kernel
theorem d_X0_deliver_29 : decode b_X0_deliver 29 = .ok (.invokevirtual 130, 3) := by decide +kernel
theorem d_X0_deliver_32 : decode b_X0_deliver 32 = .ok (.istore_n 3, 1) := by decide +kernel
theorem d_X0_deliver_33 : decode b_X0_deliver 33 = .ok (.aload_n 0, 1) := by decide +kernel
theorem d_X0_deliver_34 : decode b_X0_deliver 34 = .ok (.getfield 32, 3) := by decide +kernel
theorem d_X0_deliver_37 : decode b_X0_deliver 37 = .ok (.iload_n 1, 1) := by decide +kernel
theorem d_X0_deliver_38 : decode b_X0_deliver 38 = .ok (.iconst 2, 1) := by decide +kernel
theorem d_X0_deliver_39 : decode b_X0_deliver 39 = .ok (.invokevirtual 130, 3) := by decide +kernel
theorem d_X0_deliver_42 : decode b_X0_deliver 42 = .ok (.istore 4, 2) := by decide +kernel
theorem d_X0_deliver_44 : decode b_X0_deliver 44 = .ok (.aload_n 0, 1) := by decide +kernel
theorem d_X0_deliver_45 : decode b_X0_deliver 45 = .ok (.getfield 32, 3) := by decide +kernel
theorem d_X0_deliver_48 : decode b_X0_deliver 48 = .ok (.iload_n 1, 1) := by decide +kernel
theorem d_X0_deliver_49 : decode b_X0_deliver 49 = .ok (.iconst 3, 1) := by decide +kernel
theorem d_X0_deliver_50 : decode b_X0_deliver 50 = .ok (.invokevirtual 130, 3) := by decide +kernel
theorem d_X0_deliver_53 : decode b_X0_deliver 53 = .ok (.istore 5, 2) := by decide +kernel
theorem d_X0_deliver_55 : decode b_X0_deliver 55 = .ok (.aload_n 0, 1) := by decide +kernel
theorem d_X0_deliver_56 : decode b_X0_deliver 56 = .ok (.getfield 32, 3) := by decide +kernel
theorem d_X0_deliver_59 : decode b_X0_deliver 59 = .ok (.iload_n 1, 1) := by decide +kernel
theorem d_X0_deliver_60 : decode b_X0_deliver 60 = .ok (.invokevirtual 133, 3) := by decide +kernel
theorem d_X0_deliver_63 : decode b_X0_deliver 63 = .ok (.iload_n 3, 1) := by decide +kernel
theorem d_X0_deliver_64 : decode b_X0_deliver 64 = .ok (.aload_n 0, 1) := by decide +kernel
theorem d_X0_deliver_65 : decode b_X0_deliver 65 = .ok (.getfield 32, 3) := by decide +kernel
theorem d_X0_deliver_68 : decode b_X0_deliver 68 = .ok (.getfield 137, 3) := by decide +kernel
theorem d_X0_deliver_71 : decode b_X0_deliver 71 = .ok (.if_icmp .eq 5, 3) := by decide +kernel
theorem d_X0_deliver_74 : decode b_X0_deliver 74 = .ok (.iconst 1, 1) := by decide +kernel
theorem d_X0_deliver_75 : decode b_X0_deliver 75 = .ok (.ireturn, 1) := by decide +kernel
theorem d_X0_deliver_76 : decode b_X0_deliver 76 = .ok (.iload_n 2, 1) := by decide +kernel
theorem d_X0_deliver_77 : decode b_X0_deliver 77 = .ok (.iconst 2, 1) := by decide +kernel
theorem d_X0_deliver_78 : decode b_X0_deliver 78 = .ok (.if_icmp .ne 15, 3) := by decide +kernel
theorem d_X0_deliver_81 : decode b_X0_deliver 81 = .ok (.aload_n 0, 1) := by decide +kernel
theorem d_X0_deliver_82 : decode b_X0_deliver 82 = .ok (.getfield 41, 3) := by decide +kernel
theorem d_X0_deliver_85 : decode b_X0_deliver 85 = .ok (.iload 4, 2) := by decide +kernel
theorem d_X0_deliver_87 : decode b_X0_deliver 87 = .ok (.invokevirtual 140, 3) := by decide +kernel
theorem d_X0_deliver_90 : decode b_X0_deliver 90 = .ok (.goto 33, 3) := by decide +kernel
theorem d_X0_deliver_93 : decode b_X0_deliver 93 = .ok (.iload 4, 2) := by decide +kernel
theorem d_X0_deliver_95 : decode b_X0_deliver 95 = .ok (.aload_n 0, 1) := by decide +kernel
theorem d_X0_deliver_96 : decode b_X0_deliver 96 = .ok (.getfield 50, 3) := by decide +kernel
theorem d_X0_deliver_99 : decode b_X0_deliver 99 = .ok (.getfield 105, 3) := by decide +kernel
theorem d_X0_deliver_102 : decode b_X0_deliver 102 = .ok (.if_icmp .gt 10, 3) := by decide +kernel
theorem d_X0_deliver_105 : decode b_X0_deliver 105 = .ok (.aload_n 0, 1) := by decide +kernel
theorem d_X0_deliver_106 : decode b_X0_deliver 106 = .ok (.invokevirtual 143, 3) := by decide +kernel
theorem d_X0_deliver_109 : decode b_X0_deliver 109 = .ok (.goto 14, 3) := by decide +kernel
theorem d_X0_deliver_112 : decode b_X0_deliver 112 = .ok (.aload_n 0, 1) := by decide +kernel
theorem d_X0_deliver_113 : decode b_X0_deliver 113 = .ok (.getfield 50, 3) := by decide +kernel
theorem d_X0_deliver_116 : decode b_X0_deliver 116 = .ok (.iload 4, 2) := by decide +kernel
theorem d_X0_deliver_118 : decode b_X0_deliver 118 = .ok (.iload 5, 2) := by decide +kernel
theorem d_X0_deliver_120 : decode b_X0_deliver 120 = .ok (.invokevirtual 146, 3) := by decide +kernel
theorem d_X0_deliver_123 : decode b_X0_deliver 123 = .ok (.iconst 1, 1) := by decide +kernel
theorem d_X0_deliver_124 : decode b_X0_deliver 124 = .ok (.ireturn, 1) := by decide +kernel
theorem d_X0_sendAck_0 : decode b_X0_sendAck 0 = .ok (.aload_n 0, 1) := by decide +kernel
theorem d_X0_sendAck_1 : decode b_X0_sendAck 1 = .ok (.getfield 32, 3) := by decide +kernel
theorem d_X0_sendAck_4 : decode b_X0_sendAck 4 = .ok (.iconst 2, 1) := by decide +kernel
theorem d_X0_sendAck_5 : decode b_X0_sendAck 5 = .ok (.aload_n 0, 1) := by decide +kernel
theorem d_X0_sendAck_6 : decode b_X0_sendAck 6 = .ok (.getfield 50, 3) := by decide +kernel
theorem d_X0_sendAck_9 : decode b_X0_sendAck 9 = .ok (.getfield 105, 3) := by decide +kernel
theorem d_X0_sendAck_12 : decode b_X0_sendAck 12 = .ok (.iconst 0, 1) := by decide +kernel
theorem d_X0_sendAck_13 : decode b_X0_sendAck 13 = .ok (.invokevirtual 173, 3) := by decide +kernel
theorem d_X0_sendAck_16 : decode b_X0_sendAck 16 = .ok (.return_, 1) := by decide +kernel
theorem d_X0_alter_0 : decode b_X0_alter 0 = .ok (.aload_n 0, 1) := by decide +kernel
theorem d_X0_alter_1 : decode b_X0_alter 1 = .ok (.getfield 32, 3) := by decide +kernel
theorem d_X0_alter_4 : decode b_X0_alter 4 = .ok (.iload_n 1, 1) := by decide +kernel
theorem d_X0_alter_5 : decode b_X0_alter 5 = .ok (.invokevirtual 127, 3) := by decide +kernel
theorem d_X0_alter_8 : decode b_X0_alter 8 = .ok (.ifCond .ne 5, 3) := by decide +kernel
theorem d_X0_alter_11 : decode b_X0_alter 11 = .ok (.iconst 0, 1) := by decide +kernel
theorem d_X0_alter_12 : decode b_X0_alter 12 = .ok (.ireturn, 1) := by decide +kernel
theorem d_X0_alter_13 : decode b_X0_alter 13 = .ok (.iload_n 2, 1) := by decide +kernel
theorem d_X0_alter_14 : decode b_X0_alter 14 = .ok (.ifCond .eq 12, 3) := by decide +kernel
theorem d_X0_alter_17 : decode b_X0_alter 17 = .ok (.aload_n 0, 1) := by decide +kernel
theorem d_X0_alter_18 : decode b_X0_alter 18 = .ok (.getfield 32, 3) := by decide +kernel
theorem d_X0_alter_21 : decode b_X0_alter 21 = .ok (.iload_n 1, 1) := by decide +kernel
theorem d_X0_alter_22 : decode b_X0_alter 22 = .ok (.invokevirtual 149, 3) := by decide +kernel
theorem d_X0_alter_25 : decode b_X0_alter 25 = .ok (.ireturn, 1) := by decide +kernel
theorem d_X0_alter_26 : decode b_X0_alter 26 = .ok (.aload_n 0, 1) := by decide +kernel
theorem d_X0_alter_27 : decode b_X0_alter 27 = .ok (.getfield 32, 3) := by decide +kernel
theorem d_X0_alter_30 : decode b_X0_alter 30 = .ok (.iload_n 1, 1) := by decide +kernel
theorem d_X0_alter_31 : decode b_X0_alter 31 = .ok (.invokevirtual 133, 3) := by decide +kernel
theorem d_X0_alter_34 : decode b_X0_alter 34 = .ok (.iconst 1, 1) := by decide +kernel
theorem d_X0_alter_35 : decode b_X0_alter 35 = .ok (.ireturn, 1) := by decide +kernel
theorem d_X0_flight_0 : decode b_X0_flight 0 = .ok (.aload_n 0, 1) := by decide +kernel
theorem d_X0_flight_1 : decode b_X0_flight 1 = .ok (.getfield 32, 3) := by decide +kernel
theorem d_X0_flight_4 : decode b_X0_flight 4 = .ok (.getfield 152, 3) := by decide +kernel
