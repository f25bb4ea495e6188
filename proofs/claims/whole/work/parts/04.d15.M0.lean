theorem d_M0_add_47 : decode b_M0_add 47 = .ok (.iload 4, 2) := by decide +kernel
theorem d_M0_add_49 : decode b_M0_add 49 = .ok (.iastore, 1) := by decide +kernel
theorem d_M0_add_50 : decode b_M0_add 50 = .ok (.aload_n 0, 1) := by decide +kernel
theorem d_M0_add_51 : decode b_M0_add 51 = .ok (.dup, 1) := by decide +kernel
theorem d_M0_add_52 : decode b_M0_add 52 = .ok (.getfield 203, 3) := by decide +kernel
theorem d_M0_add_55 : decode b_M0_add 55 = .ok (.iconst 1, 1) := by decide +kernel
theorem d_M0_add_56 : decode b_M0_add 56 = .ok (.iadd, 1) := by decide +kernel
theorem d_M0_add_57 : decode b_M0_add 57 = .ok (.putfield 203, 3) := by decide +kernel
theorem d_M0_add_60 : decode b_M0_add 60 = .ok (.return_, 1) := by decide +kernel
theorem d_M0_waiting_0 : decode b_M0_waiting 0 = .ok (.aload_n 0, 1) := by decide +kernel
theorem d_M0_waiting_1 : decode b_M0_waiting 1 = .ok (.getfield 158, 3) := by decide +kernel
theorem d_M0_waiting_4 : decode b_M0_waiting 4 = .ok (.ireturn, 1) := by decide +kernel
theorem d_M0_tick_0 : decode b_M0_tick 0 = .ok (.iload_n 1, 1) := by decide +kernel
theorem d_M0_tick_1 : decode b_M0_tick 1 = .ok (.ifCond .lt 9, 3) := by decide +kernel
theorem d_M0_tick_4 : decode b_M0_tick 4 = .ok (.iload_n 1, 1) := by decide +kernel
theorem d_M0_tick_5 : decode b_M0_tick 5 = .ok (.bipush 50, 2) := by decide +kernel
theorem d_M0_tick_7 : decode b_M0_tick 7 = .ok (.if_icmp .le 6, 3) := by decide +kernel
theorem d_M0_tick_10 : decode b_M0_tick 10 = .ok (.bipush (-2), 2) := by decide +kernel
theorem d_M0_tick_12 : decode b_M0_tick 12 = .ok (.ireturn, 1) := by decide +kernel
theorem d_M0_tick_13 : decode b_M0_tick 13 = .ok (.iconst 0, 1) := by decide +kernel
theorem d_M0_tick_14 : decode b_M0_tick 14 = .ok (.istore_n 2, 1) := by decide +kernel
theorem d_M0_tick_15 : decode b_M0_tick 15 = .ok (.iconst 0, 1) := by decide +kernel
theorem d_M0_tick_16 : decode b_M0_tick 16 = .ok (.istore_n 3, 1) := by decide +kernel
theorem d_M0_tick_17 : decode b_M0_tick 17 = .ok (.iload_n 3, 1) := by decide +kernel
theorem d_M0_tick_18 : decode b_M0_tick 18 = .ok (.iload_n 1, 1) := by decide +kernel
theorem d_M0_tick_19 : decode b_M0_tick 19 = .ok (.if_icmp .ge 65, 3) := by decide +kernel
theorem d_M0_tick_22 : decode b_M0_tick 22 = .ok (.aload_n 0, 1) := by decide +kernel
theorem d_M0_tick_23 : decode b_M0_tick 23 = .ok (.dup, 1) := by decide +kernel
theorem d_M0_tick_24 : decode b_M0_tick 24 = .ok (.getfield 196, 3) := by decide +kernel
theorem d_M0_tick_27 : decode b_M0_tick 27 = .ok (.iconst 1, 1) := by decide +kernel
theorem d_M0_tick_28 : decode b_M0_tick 28 = .ok (.iadd, 1) := by decide +kernel
theorem d_M0_tick_29 : decode b_M0_tick 29 = .ok (.putfield 196, 3) := by decide +kernel
theorem d_M0_tick_32 : decode b_M0_tick 32 = .ok (.iconst 0, 1) := by decide +kernel
theorem d_M0_tick_33 : decode b_M0_tick 33 = .ok (.istore 4, 2) := by decide +kernel
theorem d_M0_tick_35 : decode b_M0_tick 35 = .ok (.iload 4, 2) := by decide +kernel
theorem d_M0_tick_37 : decode b_M0_tick 37 = .ok (.aload_n 0, 1) := by decide +kernel
theorem d_M0_tick_38 : decode b_M0_tick 38 = .ok (.getfield 158, 3) := by decide +kernel
theorem d_M0_tick_41 : decode b_M0_tick 41 = .ok (.if_icmp .ge 37, 3) := by decide +kernel
theorem d_M0_tick_44 : decode b_M0_tick 44 = .ok (.aload_n 0, 1) := by decide +kernel
theorem d_M0_tick_45 : decode b_M0_tick 45 = .ok (.getfield 196, 3) := by decide +kernel
theorem d_M0_tick_48 : decode b_M0_tick 48 = .ok (.aload_n 0, 1) := by decide +kernel
theorem d_M0_tick_49 : decode b_M0_tick 49 = .ok (.getfield 53, 3) := by decide +kernel
theorem d_M0_tick_52 : decode b_M0_tick 52 = .ok (.iload 4, 2) := by decide +kernel
theorem d_M0_tick_54 : decode b_M0_tick 54 = .ok (.iaload, 1) := by decide +kernel
theorem d_M0_tick_55 : decode b_M0_tick 55 = .ok (.isub, 1) := by decide +kernel
theorem d_M0_tick_56 : decode b_M0_tick 56 = .ok (.aload_n 0, 1) := by decide +kernel
theorem d_M0_tick_57 : decode b_M0_tick 57 = .ok (.getfield 80, 3) := by decide +kernel
theorem d_M0_tick_60 : decode b_M0_tick 60 = .ok (.if_icmp .lt 12, 3) := by decide +kernel
theorem d_M0_tick_63 : decode b_M0_tick 63 = .ok (.aload_n 0, 1) := by decide +kernel
theorem d_M0_tick_64 : decode b_M0_tick 64 = .ok (.iload 4, 2) := by decide +kernel
theorem d_M0_tick_66 : decode b_M0_tick 66 = .ok (.invokevirtual 193, 3) := by decide +kernel
theorem d_M0_tick_69 : decode b_M0_tick 69 = .ok (.iinc 2 1, 3) := by decide +kernel
theorem d_M0_tick_72 : decode b_M0_tick 72 = .ok (.iinc 4 1, 3) := by decide +kernel
theorem d_M0_tick_75 : decode b_M0_tick 75 = .ok (.goto (-40), 3) := by decide +kernel
theorem d_M0_tick_78 : decode b_M0_tick 78 = .ok (.iinc 3 1, 3) := by decide +kernel
theorem d_M0_tick_81 : decode b_M0_tick 81 = .ok (.goto (-64), 3) := by decide +kernel
theorem d_M0_tick_84 : decode b_M0_tick 84 = .ok (.iload_n 2, 1) := by decide +kernel
theorem d_M0_tick_85 : decode b_M0_tick 85 = .ok (.ireturn, 1) := by decide +kernel
theorem d_M0_deliver_0 : decode b_M0_deliver 0 = .ok (.iload_n 1, 1) := by decide +kernel
theorem d_M0_deliver_1 : decode b_M0_deliver 1 = .ok (.ifCond .lt 11, 3) := by decide +kernel
theorem d_M0_deliver_4 : decode b_M0_deliver 4 = .ok (.iload_n 1, 1) := by decide +kernel
theorem d_M0_deliver_5 : decode b_M0_deliver 5 = .ok (.aload_n 0, 1) := by decide +kernel
theorem d_M0_deliver_6 : decode b_M0_deliver 6 = .ok (.getfield 203, 3) := by decide +kernel
theorem d_M0_deliver_9 : decode b_M0_deliver 9 = .ok (.if_icmp .lt 5, 3) := by decide +kernel
theorem d_M0_deliver_12 : decode b_M0_deliver 12 = .ok (.iconst 0, 1) := by decide +kernel
theorem d_M0_deliver_13 : decode b_M0_deliver 13 = .ok (.ireturn, 1) := by decide +kernel
theorem d_M0_deliver_14 : decode b_M0_deliver 14 = .ok (.aload_n 0, 1) := by decide +kernel
theorem d_M0_deliver_15 : decode b_M0_deliver 15 = .ok (.getfield 56, 3) := by decide +kernel
theorem d_M0_deliver_18 : decode b_M0_deliver 18 = .ok (.iload_n 1, 1) := by decide +kernel
theorem d_M0_deliver_19 : decode b_M0_deliver 19 = .ok (.iaload, 1) := by decide +kernel
theorem d_M0_deliver_20 : decode b_M0_deliver 20 = .ok (.istore_n 2, 1) := by decide +kernel
theorem d_M0_deliver_21 : decode b_M0_deliver 21 = .ok (.aload_n 0, 1) := by decide +kernel
theorem d_M0_deliver_22 : decode b_M0_deliver 22 = .ok (.getfield 62, 3) := by decide +kernel
theorem d_M0_deliver_25 : decode b_M0_deliver 25 = .ok (.iload_n 1, 1) := by decide +kernel
theorem d_M0_deliver_26 : decode b_M0_deliver 26 = .ok (.iaload, 1) := by decide +kernel
theorem d_M0_deliver_27 : decode b_M0_deliver 27 = .ok (.istore_n 3, 1) := by decide +kernel
theorem d_M0_deliver_28 : decode b_M0_deliver 28 = .ok (.aload_n 0, 1) := by decide +kernel
theorem d_M0_deliver_29 : decode b_M0_deliver 29 = .ok (.getfield 65, 3) := by decide +kernel
theorem d_M0_deliver_32 : decode b_M0_deliver 32 = .ok (.iload_n 1, 1) := by decide +kernel
theorem d_M0_deliver_33 : decode b_M0_deliver 33 = .ok (.iaload, 1) := by decide +kernel
theorem d_M0_deliver_34 : decode b_M0_deliver 34 = .ok (.istore 4, 2) := by decide +kernel
theorem d_M0_deliver_36 : decode b_M0_deliver 36 = .ok (.aload_n 0, 1) := by decide +kernel
theorem d_M0_deliver_37 : decode b_M0_deliver 37 = .ok (.getfield 59, 3) := by decide +kernel
theorem d_M0_deliver_40 : decode b_M0_deliver 40 = .ok (.iload_n 1, 1) := by decide +kernel
theorem d_M0_deliver_41 : decode b_M0_deliver 41 = .ok (.iaload, 1) := by decide +kernel
theorem d_M0_deliver_42 : decode b_M0_deliver 42 = .ok (.aload_n 0, 1) := by decide +kernel
theorem d_M0_deliver_43 : decode b_M0_deliver 43 = .ok (.getfield 164, 3) := by decide +kernel
theorem d_M0_deliver_46 : decode b_M0_deliver 46 = .ok (.if_icmp .ne 7, 3) := by decide +kernel
theorem d_M0_deliver_49 : decode b_M0_deliver 49 = .ok (.iconst 1, 1) := by decide +kernel
theorem d_M0_deliver_50 : decode b_M0_deliver 50 = .ok (.goto 4, 3) := by decide +kernel
theorem d_M0_deliver_53 : decode b_M0_deliver 53 = .ok (.iconst 0, 1) := by decide +kernel
theorem d_M0_deliver_54 : decode b_M0_deliver 54 = .ok (.istore 5, 2) := by decide +kernel
theorem d_M0_deliver_56 : decode b_M0_deliver 56 = .ok (.aload_n 0, 1) := by decide +kernel
theorem d_M0_deliver_57 : decode b_M0_deliver 57 = .ok (.iload_n 1, 1) := by decide +kernel
theorem d_M0_deliver_58 : decode b_M0_deliver 58 = .ok (.invokevirtual 206, 3) := by decide +kernel
theorem d_M0_deliver_61 : decode b_M0_deliver 61 = .ok (.iload 5, 2) := by decide +kernel
theorem d_M0_deliver_63 : decode b_M0_deliver 63 = .ok (.ifCond .ne 5, 3) := by decide +kernel
theorem d_M0_deliver_66 : decode b_M0_deliver 66 = .ok (.iconst 1, 1) := by decide +kernel
theorem d_M0_deliver_67 : decode b_M0_deliver 67 = .ok (.ireturn, 1) := by decide +kernel
theorem d_M0_deliver_68 : decode b_M0_deliver 68 = .ok (.iload_n 2, 1) := by decide +kernel
theorem d_M0_deliver_69 : decode b_M0_deliver 69 = .ok (.iconst 2, 1) := by decide +kernel
theorem d_M0_deliver_70 : decode b_M0_deliver 70 = .ok (.if_icmp .ne 11, 3) := by decide +kernel
theorem d_M0_deliver_73 : decode b_M0_deliver 73 = .ok (.aload_n 0, 1) := by decide +kernel
theorem d_M0_deliver_74 : decode b_M0_deliver 74 = .ok (.iload_n 3, 1) := by decide +kernel
theorem d_M0_deliver_75 : decode b_M0_deliver 75 = .ok (.invokevirtual 209, 3) := by decide +kernel
theorem d_M0_deliver_78 : decode b_M0_deliver 78 = .ok (.goto 39, 3) := by decide +kernel
theorem d_M0_deliver_81 : decode b_M0_deliver 81 = .ok (.iload_n 3, 1) := by decide +kernel
theorem d_M0_deliver_82 : decode b_M0_deliver 82 = .ok (.aload_n 0, 1) := by decide +kernel
theorem d_M0_deliver_83 : decode b_M0_deliver 83 = .ok (.invokevirtual 167, 3) := by decide +kernel
theorem d_M0_deliver_86 : decode b_M0_deliver 86 = .ok (.if_icmp .gt 10, 3) := by decide +kernel
theorem d_M0_deliver_89 : decode b_M0_deliver 89 = .ok (.aload_n 0, 1) := by decide +kernel
theorem d_M0_deliver_90 : decode b_M0_deliver 90 = .ok (.invokevirtual 212, 3) := by decide +kernel
theorem d_M0_deliver_93 : decode b_M0_deliver 93 = .ok (.goto 24, 3) := by decide +kernel
theorem d_M0_deliver_96 : decode b_M0_deliver 96 = .ok (.iload 4, 2) := by decide +kernel
theorem d_M0_deliver_98 : decode b_M0_deliver 98 = .ok (.aload_n 0, 1) := by decide +kernel
theorem d_M0_deliver_99 : decode b_M0_deliver 99 = .ok (.invokevirtual 167, 3) := by decide +kernel
theorem d_M0_deliver_102 : decode b_M0_deliver 102 = .ok (.if_icmp .ne 15, 3) := by decide +kernel
theorem d_M0_deliver_105 : decode b_M0_deliver 105 = .ok (.aload_n 0, 1) := by decide +kernel
theorem d_M0_deliver_106 : decode b_M0_deliver 106 = .ok (.getfield 71, 3) := by decide +kernel
theorem d_M0_deliver_109 : decode b_M0_deliver 109 = .ok (.ifCond .ge 8, 3) := by decide +kernel
theorem d_M0_deliver_112 : decode b_M0_deliver 112 = .ok (.aload_n 0, 1) := by decide +kernel
theorem d_M0_deliver_113 : decode b_M0_deliver 113 = .ok (.iload_n 3, 1) := by decide +kernel
theorem d_M0_deliver_114 : decode b_M0_deliver 114 = .ok (.putfield 71, 3) := by decide +kernel
theorem d_M0_deliver_117 : decode b_M0_deliver 117 = .ok (.iconst 1, 1) := by decide +kernel
theorem d_M0_deliver_118 : decode b_M0_deliver 118 = .ok (.ireturn, 1) := by decide +kernel
theorem d_M0_take_0 : decode b_M0_take 0 = .ok (.aload_n 0, 1) := by decide +kernel
theorem d_M0_take_1 : decode b_M0_take 1 = .ok (.dup, 1) := by decide +kernel
theorem d_M0_take_2 : decode b_M0_take 2 = .ok (.getfield 203, 3) := by decide +kernel
theorem d_M0_take_5 : decode b_M0_take 5 = .ok (.iconst 1, 1) := by decide +kernel
theorem d_M0_take_6 : decode b_M0_take 6 = .ok (.isub, 1) := by decide +kernel
theorem d_M0_take_7 : decode b_M0_take 7 = .ok (.putfield 203, 3) := by decide +kernel
theorem d_M0_take_10 : decode b_M0_take 10 = .ok (.iload_n 1, 1) := by decide +kernel
theorem d_M0_take_11 : decode b_M0_take 11 = .ok (.istore_n 2, 1) := by decide +kernel
theorem d_M0_take_12 : decode b_M0_take 12 = .ok (.iload_n 2, 1) := by decide +kernel
theorem d_M0_take_13 : decode b_M0_take 13 = .ok (.aload_n 0, 1) := by decide +kernel
theorem d_M0_take_14 : decode b_M0_take 14 = .ok (.getfield 203, 3) := by decide +kernel
theorem d_M0_take_17 : decode b_M0_take 17 = .ok (.if_icmp .ge 65, 3) := by decide +kernel
theorem d_M0_take_20 : decode b_M0_take 20 = .ok (.aload_n 0, 1) := by decide +kernel
theorem d_M0_take_21 : decode b_M0_take 21 = .ok (.getfield 56, 3) := by decide +kernel
theorem d_M0_take_24 : decode b_M0_take 24 = .ok (.iload_n 2, 1) := by decide +kernel
theorem d_M0_take_25 : decode b_M0_take 25 = .ok (.aload_n 0, 1) := by decide +kernel
theorem d_M0_take_26 : decode b_M0_take 26 = .ok (.getfield 56, 3) := by decide +kernel
theorem d_M0_take_29 : decode b_M0_take 29 = .ok (.iload_n 2, 1) := by decide +kernel
theorem d_M0_take_30 : decode b_M0_take 30 = .ok (.iconst 1, 1) := by decide +kernel
theorem d_M0_take_31 : decode b_M0_take 31 = .ok (.iadd, 1) := by decide +kernel
theorem d_M0_take_32 : decode b_M0_take 32 = .ok (.iaload, 1) := by decide +kernel
theorem d_M0_take_33 : decode b_M0_take 33 = .ok (.iastore, 1) := by decide +kernel
theorem d_M0_take_34 : decode b_M0_take 34 = .ok (.aload_n 0, 1) := by decide +kernel
theorem d_M0_take_35 : decode b_M0_take 35 = .ok (.getfield 59, 3) := by decide +kernel
theorem d_M0_take_38 : decode b_M0_take 38 = .ok (.iload_n 2, 1) := by decide +kernel
theorem d_M0_take_39 : decode b_M0_take 39 = .ok (.aload_n 0, 1) := by decide +kernel
theorem d_M0_take_40 : decode b_M0_take 40 = .ok (.getfield 59, 3) := by decide +kernel
theorem d_M0_take_43 : decode b_M0_take 43 = .ok (.iload_n 2, 1) := by decide +kernel
theorem d_M0_take_44 : decode b_M0_take 44 = .ok (.iconst 1, 1) := by decide +kernel
theorem d_M0_take_45 : decode b_M0_take 45 = .ok (.iadd, 1) := by decide +kernel
theorem d_M0_take_46 : decode b_M0_take 46 = .ok (.iaload, 1) := by decide +kernel
theorem d_M0_take_47 : decode b_M0_take 47 = .ok (.iastore, 1) := by decide +kernel
theorem d_M0_take_48 : decode b_M0_take 48 = .ok (.aload_n 0, 1) := by decide +kernel
theorem d_M0_take_49 : decode b_M0_take 49 = .ok (.getfield 62, 3) := by decide +kernel
theorem d_M0_take_52 : decode b_M0_take 52 = .ok (.iload_n 2, 1) := by decide +kernel
theorem d_M0_take_53 : decode b_M0_take 53 = .ok (.aload_n 0, 1) := by decide +kernel
theorem d_M0_take_54 : decode b_M0_take 54 = .ok (.getfield 62, 3) := by decide +kernel
theorem d_M0_take_57 : decode b_M0_take 57 = .ok (.iload_n 2, 1) := by decide +kernel
theorem d_M0_take_58 : decode b_M0_take 58 = .ok (.iconst 1, 1) := by decide +kernel
theorem d_M0_take_59 : decode b_M0_take 59 = .ok (.iadd, 1) := by decide +kernel
theorem d_M0_take_60 : decode b_M0_take 60 = .ok (.iaload, 1) := by decide +kernel
theorem d_M0_take_61 : decode b_M0_take 61 = .ok (.iastore, 1) := by decide +kernel
theorem d_M0_take_62 : decode b_M0_take 62 = .ok (.aload_n 0, 1) := by decide +kernel
theorem d_M0_take_63 : decode b_M0_take 63 = .ok (.getfield 65, 3) := by decide +kernel
theorem d_M0_take_66 : decode b_M0_take 66 = .ok (.iload_n 2, 1) := by decide +kernel
theorem d_M0_take_67 : decode b_M0_take 67 = .ok (.aload_n 0, 1) := by decide +kernel
theorem d_M0_take_68 : decode b_M0_take 68 = .ok (.getfield 65, 3) := by decide +kernel
theorem d_M0_take_71 : decode b_M0_take 71 = .ok (.iload_n 2, 1) := by decide +kernel
theorem d_M0_take_72 : decode b_M0_take 72 = .ok (.iconst 1, 1) := by decide +kernel
theorem d_M0_take_73 : decode b_M0_take 73 = .ok (.iadd, 1) := by decide +kernel
theorem d_M0_take_74 : decode b_M0_take 74 = .ok (.iaload, 1) := by decide +kernel
theorem d_M0_take_75 : decode b_M0_take 75 = .ok (.iastore, 1) := by decide +kernel
theorem d_M0_take_76 : decode b_M0_take 76 = .ok (.iinc 2 1, 3) := by decide +kernel
theorem d_M0_take_79 : decode b_M0_take 79 = .ok (.goto (-67), 3) := by decide +kernel
theorem d_M0_take_82 : decode b_M0_take 82 = .ok (.return_, 1) := by decide +kernel
theorem d_M0_leave_0 : decode b_M0_leave 0 = .ok (.iconst 0, 1) := by decide +kernel
theorem d_M0_leave_1 : decode b_M0_leave 1 = .ok (.istore_n 2, 1) := by decide +kernel
theorem d_M0_leave_2 : decode b_M0_leave 2 = .ok (.iconst 0, 1) := by decide +kernel
theorem d_M0_leave_3 : decode b_M0_leave 3 = .ok (.istore_n 3, 1) := by decide +kernel
theorem d_M0_leave_4 : decode b_M0_leave 4 = .ok (.iload_n 3, 1) := by decide +kernel
theorem d_M0_leave_5 : decode b_M0_leave 5 = .ok (.aload_n 0, 1) := by decide +kernel
theorem d_M0_leave_6 : decode b_M0_leave 6 = .ok (.getfield 158, 3) := by decide +kernel
theorem d_M0_leave_9 : decode b_M0_leave 9 = .ok (.if_icmp .ge 58, 3) := by decide +kernel
theorem d_M0_leave_12 : decode b_M0_leave 12 = .ok (.aload_n 0, 1) := by decide +kernel
theorem d_M0_leave_13 : decode b_M0_leave 13 = .ok (.getfield 47, 3) := by decide +kernel
theorem d_M0_leave_16 : decode b_M0_leave 16 = .ok (.iload_n 3, 1) := by decide +kernel
theorem d_M0_leave_17 : decode b_M0_leave 17 = .ok (.iaload, 1) := by decide +kernel
theorem d_M0_leave_18 : decode b_M0_leave 18 = .ok (.iload_n 1, 1) := by decide +kernel
theorem d_M0_leave_19 : decode b_M0_leave 19 = .ok (.if_icmp .le 42, 3) := by decide +kernel
theorem d_M0_leave_22 : decode b_M0_leave 22 = .ok (.aload_n 0, 1) := by decide +kernel
theorem d_M0_leave_23 : decode b_M0_leave 23 = .ok (.getfield 47, 3) := by decide +kernel
theorem d_M0_leave_26 : decode b_M0_leave 26 = .ok (.iload_n 2, 1) := by decide +kernel
theorem d_M0_leave_27 : decode b_M0_leave 27 = .ok (.aload_n 0, 1) := by decide +kernel
theorem d_M0_leave_28 : decode b_M0_leave 28 = .ok (.getfield 47, 3) := by decide +kernel
theorem d_M0_leave_31 : decode b_M0_leave 31 = .ok (.iload_n 3, 1) := by decide +kernel
theorem d_M0_leave_32 : decode b_M0_leave 32 = .ok (.iaload, 1) := by decide +kernel
theorem d_M0_leave_33 : decode b_M0_leave 33 = .ok (.iastore, 1) := by decide +kernel
theorem d_M0_leave_34 : decode b_M0_leave 34 = .ok (.aload_n 0, 1) := by decide +kernel
theorem d_M0_leave_35 : decode b_M0_leave 35 = .ok (.getfield 50, 3) := by decide +kernel
theorem d_M0_leave_38 : decode b_M0_leave 38 = .ok (.iload_n 2, 1) := by decide +kernel
theorem d_M0_leave_39 : decode b_M0_leave 39 = .ok (.aload_n 0, 1) := by decide +kernel
theorem d_M0_leave_40 : decode b_M0_leave 40 = .ok (.getfield 50, 3) := by decide +kernel
theorem d_M0_leave_43 : decode b_M0_leave 43 = .ok (.iload_n 3, 1) := by decide +kernel
theorem d_M0_leave_44 : decode b_M0_leave 44 = .ok (.iaload, 1) := by decide +kernel
theorem d_M0_leave_45 : decode b_M0_leave 45 = .ok (.iastore, 1) := by decide +kernel
theorem d_M0_leave_46 : decode b_M0_leave 46 = .ok (.aload_n 0, 1) := by decide +kernel
theorem d_M0_leave_47 : decode b_M0_leave 47 = .ok (.getfield 53, 3) := by decide +kernel
theorem d_M0_leave_50 : decode b_M0_leave 50 = .ok (.iload_n 2, 1) := by decide +kernel
theorem d_M0_leave_51 : decode b_M0_leave 51 = .ok (.aload_n 0, 1) := by decide +kernel
theorem d_M0_leave_52 : decode b_M0_leave 52 = .ok (.getfield 53, 3) := by decide +kernel
theorem d_M0_leave_55 : decode b_M0_leave 55 = .ok (.iload_n 3, 1) := by decide +kernel
theorem d_M0_leave_56 : decode b_M0_leave 56 = .ok (.iaload, 1) := by decide +kernel
theorem d_M0_leave_57 : decode b_M0_leave 57 = .ok (.iastore, 1) := by decide +kernel
theorem d_M0_leave_58 : decode b_M0_leave 58 = .ok (.iinc 2 1, 3) := by decide +kernel
theorem d_M0_leave_61 : decode b_M0_leave 61 = .ok (.iinc 3 1, 3) := by decide +kernel
theorem d_M0_leave_64 : decode b_M0_leave 64 = .ok (.goto (-60), 3) := by decide +kernel
theorem d_M0_leave_67 : decode b_M0_leave 67 = .ok (.aload_n 0, 1) := by decide +kernel
theorem d_M0_leave_68 : decode b_M0_leave 68 = .ok (.iload_n 2, 1) := by decide +kernel
theorem d_M0_leave_69 : decode b_M0_leave 69 = .ok (.putfield 158, 3) := by decide +kernel
theorem d_M0_leave_72 : decode b_M0_leave 72 = .ok (.return_, 1) := by decide +kernel
theorem d_M0_acknowledge_0 : decode b_M0_acknowledge 0 = .ok (.aload_n 0, 1) := by decide +kernel
theorem d_M0_acknowledge_1 : decode b_M0_acknowledge 1 = .ok (.invokevirtual 167, 3) := by decide +kernel
theorem d_M0_acknowledge_4 : decode b_M0_acknowledge 4 = .ok (.istore_n 1, 1) := by decide +kernel
theorem d_M0_acknowledge_5 : decode b_M0_acknowledge 5 = .ok (.aload_n 0, 1) := by decide +kernel
theorem d_M0_acknowledge_6 : decode b_M0_acknowledge 6 = .ok (.iconst 2, 1) := by decide +kernel
theorem d_M0_acknowledge_7 : decode b_M0_acknowledge 7 = .ok (.aload_n 0, 1) := by decide +kernel
theorem d_M0_acknowledge_8 : decode b_M0_acknowledge 8 = .ok (.getfield 164, 3) := by decide +kernel
theorem d_M0_acknowledge_11 : decode b_M0_acknowledge 11 = .ok (.iload_n 1, 1) := by decide +kernel
theorem d_M0_acknowledge_12 : decode b_M0_acknowledge 12 = .ok (.iconst 0, 1) := by decide +kernel
theorem d_M0_acknowledge_13 : decode b_M0_acknowledge 13 = .ok (.invokevirtual 199, 3) := by decide +kernel
theorem d_M0_acknowledge_16 : decode b_M0_acknowledge 16 = .ok (.return_, 1) := by decide +kernel
theorem d_M0_alter_0 : decode b_M0_alter 0 = .ok (.iload_n 1, 1) := by decide +kernel
theorem d_M0_alter_1 : decode b_M0_alter 1 = .ok (.ifCond .lt 24, 3) := by decide +kernel
theorem d_M0_alter_4 : decode b_M0_alter 4 = .ok (.iload_n 1, 1) := by decide +kernel
theorem d_M0_alter_5 : decode b_M0_alter 5 = .ok (.aload_n 0, 1) := by decide +kernel
theorem d_M0_alter_6 : decode b_M0_alter 6 = .ok (.getfield 203, 3) := by decide +kernel
theorem d_M0_alter_9 : decode b_M0_alter 9 = .ok (.if_icmp .ge 16, 3) := by decide +kernel
theorem d_M0_alter_12 : decode b_M0_alter 12 = .ok (.iload_n 2, 1) := by decide +kernel
theorem d_M0_alter_13 : decode b_M0_alter 13 = .ok (.ifCond .eq 14, 3) := by decide +kernel
theorem d_M0_alter_16 : decode b_M0_alter 16 = .ok (.aload_n 0, 1) := by decide +kernel
theorem d_M0_alter_17 : decode b_M0_alter 17 = .ok (.getfield 203, 3) := by decide +kernel
theorem d_M0_alter_20 : decode b_M0_alter 20 = .ok (.bipush 8, 2) := by decide +kernel
theorem d_M0_alter_22 : decode b_M0_alter 22 = .ok (.if_icmp .lt 5, 3) := by decide +kernel
theorem d_M0_alter_25 : decode b_M0_alter 25 = .ok (.iconst 0, 1) := by decide +kernel
theorem d_M0_alter_26 : decode b_M0_alter 26 = .ok (.ireturn, 1) := by decide +kernel
theorem d_M0_alter_27 : decode b_M0_alter 27 = .ok (.iload_n 2, 1) := by decide +kernel
theorem d_M0_alter_28 : decode b_M0_alter 28 = .ok (.ifCond .eq 34, 3) := by decide +kernel
theorem d_M0_alter_31 : decode b_M0_alter 31 = .ok (.aload_n 0, 1) := by decide +kernel
theorem d_M0_alter_32 : decode b_M0_alter 32 = .ok (.aload_n 0, 1) := by decide +kernel
theorem d_M0_alter_33 : decode b_M0_alter 33 = .ok (.getfield 56, 3) := by decide +kernel
theorem d_M0_alter_36 : decode b_M0_alter 36 = .ok (.iload_n 1, 1) := by decide +kernel
theorem d_M0_alter_37 : decode b_M0_alter 37 = .ok (.iaload, 1) := by decide +kernel
theorem d_M0_alter_38 : decode b_M0_alter 38 = .ok (.aload_n 0, 1) := by decide +kernel
theorem d_M0_alter_39 : decode b_M0_alter 39 = .ok (.getfield 59, 3) := by decide +kernel
theorem d_M0_alter_42 : decode b_M0_alter 42 = .ok (.iload_n 1, 1) := by decide +kernel
theorem d_M0_alter_43 : decode b_M0_alter 43 = .ok (.iaload, 1) := by decide +kernel
theorem d_M0_alter_44 : decode b_M0_alter 44 = .ok (.aload_n 0, 1) := by decide +kernel
theorem d_M0_alter_45 : decode b_M0_alter 45 = .ok (.getfield 62, 3) := by decide +kernel
theorem d_M0_alter_48 : decode b_M0_alter 48 = .ok (.iload_n 1, 1) := by decide +kernel
theorem d_M0_alter_49 : decode b_M0_alter 49 = .ok (.iaload, 1) := by decide +kernel
theorem d_M0_alter_50 : decode b_M0_alter 50 = .ok (.aload_n 0, 1) := by decide +kernel
theorem d_M0_alter_51 : decode b_M0_alter 51 = .ok (.getfield 65, 3) := by decide +kernel
theorem d_M0_alter_54 : decode b_M0_alter 54 = .ok (.iload_n 1, 1) := by decide +kernel
theorem d_M0_alter_55 : decode b_M0_alter 55 = .ok (.iaload, 1) := by decide +kernel
theorem d_M0_alter_56 : decode b_M0_alter 56 = .ok (.invokevirtual 199, 3) := by decide +kernel
theorem d_M0_alter_59 : decode b_M0_alter 59 = .ok (.goto 8, 3) := by decide +kernel
theorem d_M0_alter_62 : decode b_M0_alter 62 = .ok (.aload_n 0, 1) := by decide +kernel
theorem d_M0_alter_63 : decode b_M0_alter 63 = .ok (.iload_n 1, 1) := by decide +kernel
theorem d_M0_alter_64 : decode b_M0_alter 64 = .ok (.invokevirtual 206, 3) := by decide +kernel
theorem d_M0_alter_67 : decode b_M0_alter 67 = .ok (.iconst 1, 1) := by decide +kernel
theorem d_M0_alter_68 : decode b_M0_alter 68 = .ok (.ireturn, 1) := by decide +kernel
theorem d_M0_flight_0 : decode b_M0_flight 0 = .ok (.aload_n 0, 1) := by decide +kernel
theorem d_M0_flight_1 : decode b_M0_flight 1 = .ok (.getfield 203, 3) := by decide +kernel
theorem d_M0_flight_4 : decode b_M0_flight 4 = .ok (.ireturn, 1) := by decide +kernel
theorem d_M0_packet_0 : decode b_M0_packet 0 = .ok (.iload_n 1, 1) := by decide +kernel
theorem d_M0_packet_1 : decode b_M0_packet 1 = .ok (.ifCond .lt 20, 3) := by decide +kernel
theorem d_M0_packet_4 : decode b_M0_packet 4 = .ok (.iload_n 1, 1) := by decide +kernel
theorem d_M0_packet_5 : decode b_M0_packet 5 = .ok (.aload_n 0, 1) := by decide +kernel
theorem d_M0_packet_6 : decode b_M0_packet 6 = .ok (.getfield 203, 3) := by decide +kernel
theorem d_M0_packet_9 : decode b_M0_packet 9 = .ok (.if_icmp .ge 12, 3) := by decide +kernel
theorem d_M0_packet_12 : decode b_M0_packet 12 = .ok (.iload_n 2, 1) := by decide +kernel
theorem d_M0_packet_13 : decode b_M0_packet 13 = .ok (.ifCond .lt 8, 3) := by decide +kernel
theorem d_M0_packet_16 : decode b_M0_packet 16 = .ok (.iload_n 2, 1) := by decide +kernel
theorem d_M0_packet_17 : decode b_M0_packet 17 = .ok (.iconst 3, 1) := by decide +kernel
theorem d_M0_packet_18 : decode b_M0_packet 18 = .ok (.if_icmp .le 6, 3) := by decide +kernel
theorem d_M0_packet_21 : decode b_M0_packet 21 = .ok (.bipush (-2), 2) := by decide +kernel
theorem d_M0_packet_23 : decode b_M0_packet 23 = .ok (.ireturn, 1) := by decide +kernel
theorem d_M0_packet_24 : decode b_M0_packet 24 = .ok (.iload_n 2, 1) := by decide +kernel
theorem d_M0_packet_25 : decode b_M0_packet 25 = .ok (.ifCond .ne 12, 3) := by decide +kernel
theorem d_M0_packet_28 : decode b_M0_packet 28 = .ok (.aload_n 0, 1) := by decide +kernel
theorem d_M0_packet_29 : decode b_M0_packet 29 = .ok (.getfield 56, 3) := by decide +kernel
theorem d_M0_packet_32 : decode b_M0_packet 32 = .ok (.iload_n 1, 1) := by decide +kernel
theorem d_M0_packet_33 : decode b_M0_packet 33 = .ok (.iaload, 1) := by decide +kernel
theorem d_M0_packet_34 : decode b_M0_packet 34 = .ok (.goto 37, 3) := by decide +kernel
theorem d_M0_packet_37 : decode b_M0_packet 37 = .ok (.iload_n 2, 1) := by decide +kernel
theorem d_M0_packet_38 : decode b_M0_packet 38 = .ok (.iconst 1, 1) := by decide +kernel
theorem d_M0_packet_39 : decode b_M0_packet 39 = .ok (.if_icmp .ne 12, 3) := by decide +kernel
theorem d_M0_packet_42 : decode b_M0_packet 42 = .ok (.aload_n 0, 1) := by decide +kernel
theorem d_M0_packet_43 : decode b_M0_packet 43 = .ok (.getfield 59, 3) := by decide +kernel
theorem d_M0_packet_46 : decode b_M0_packet 46 = .ok (.iload_n 1, 1) := by decide +kernel
theorem d_M0_packet_47 : decode b_M0_packet 47 = .ok (.iaload, 1) := by decide +kernel
theorem d_M0_packet_48 : decode b_M0_packet 48 = .ok (.goto 23, 3) := by decide +kernel
theorem d_M0_packet_51 : decode b_M0_packet 51 = .ok (.iload_n 2, 1) := by decide +kernel
theorem d_M0_packet_52 : decode b_M0_packet 52 = .ok (.iconst 2, 1) := by decide +kernel
theorem d_M0_packet_53 : decode b_M0_packet 53 = .ok (.if_icmp .ne 12, 3) := by decide +kernel
theorem d_M0_packet_56 : decode b_M0_packet 56 = .ok (.aload_n 0, 1) := by decide +kernel
theorem d_M0_packet_57 : decode b_M0_packet 57 = .ok (.getfield 62, 3) := by decide +kernel
theorem d_M0_packet_60 : decode b_M0_packet 60 = .ok (.iload_n 1, 1) := by decide +kernel
theorem d_M0_packet_61 : decode b_M0_packet 61 = .ok (.iaload, 1) := by decide +kernel
theorem d_M0_packet_62 : decode b_M0_packet 62 = .ok (.goto 9, 3) := by decide +kernel
theorem d_M0_packet_65 : decode b_M0_packet 65 = .ok (.aload_n 0, 1) := by decide +kernel
theorem d_M0_packet_66 : decode b_M0_packet 66 = .ok (.getfield 65, 3) := by decide +kernel
theorem d_M0_packet_69 : decode b_M0_packet 69 = .ok (.iload_n 1, 1) := by decide +kernel
theorem d_M0_packet_70 : decode b_M0_packet 70 = .ok (.iaload, 1) := by decide +kernel
theorem d_M0_packet_71 : decode b_M0_packet 71 = .ok (.ireturn, 1) := by decide +kernel
theorem d_M0_apply_0 : decode b_M0_apply 0 = .ok (.aload_n 0, 1) := by decide +kernel
theorem d_M0_apply_1 : decode b_M0_apply 1 = .ok (.getfield 71, 3) := by decide +kernel
theorem d_M0_apply_4 : decode b_M0_apply 4 = .ok (.ifCond .ge 5, 3) := by decide +kernel
theorem d_M0_apply_7 : decode b_M0_apply 7 = .ok (.iconst 0, 1) := by decide +kernel
theorem d_M0_apply_8 : decode b_M0_apply 8 = .ok (.ireturn, 1) := by decide +kernel
theorem d_M0_apply_9 : decode b_M0_apply 9 = .ok (.aload_n 0, 1) := by decide +kernel
theorem d_M0_apply_10 : decode b_M0_apply 10 = .ok (.getfield 68, 3) := by decide +kernel
theorem d_M0_apply_13 : decode b_M0_apply 13 = .ok (.aload_n 0, 1) := by decide +kernel
theorem d_M0_apply_14 : decode b_M0_apply 14 = .ok (.getfield 117, 3) := by decide +kernel
theorem d_M0_apply_17 : decode b_M0_apply 17 = .ok (.aload_n 0, 1) := by decide +kernel
theorem d_M0_apply_18 : decode b_M0_apply 18 = .ok (.getfield 71, 3) := by decide +kernel
theorem d_M0_apply_21 : decode b_M0_apply 21 = .ok (.iastore, 1) := by decide +kernel
theorem d_M0_apply_22 : decode b_M0_apply 22 = .ok (.aload_n 0, 1) := by decide +kernel
theorem d_M0_apply_23 : decode b_M0_apply 23 = .ok (.dup, 1) := by decide +kernel
theorem d_M0_apply_24 : decode b_M0_apply 24 = .ok (.getfield 117, 3) := by decide +kernel
theorem d_M0_apply_27 : decode b_M0_apply 27 = .ok (.iconst 1, 1) := by decide +kernel
theorem d_M0_apply_28 : decode b_M0_apply 28 = .ok (.iadd, 1) := by decide +kernel
theorem d_M0_apply_29 : decode b_M0_apply 29 = .ok (.putfield 117, 3) := by decide +kernel
theorem d_M0_apply_32 : decode b_M0_apply 32 = .ok (.aload_n 0, 1) := by decide +kernel
theorem d_M0_apply_33 : decode b_M0_apply 33 = .ok (.iconst (-1), 1) := by decide +kernel
theorem d_M0_apply_34 : decode b_M0_apply 34 = .ok (.putfield 71, 3) := by decide +kernel
theorem d_M0_apply_37 : decode b_M0_apply 37 = .ok (.aload_n 0, 1) := by decide +kernel
theorem d_M0_apply_38 : decode b_M0_apply 38 = .ok (.invokevirtual 212, 3) := by decide +kernel
theorem d_M0_apply_41 : decode b_M0_apply 41 = .ok (.iconst 1, 1) := by decide +kernel
theorem d_M0_apply_42 : decode b_M0_apply 42 = .ok (.ireturn, 1) := by decide +kernel
