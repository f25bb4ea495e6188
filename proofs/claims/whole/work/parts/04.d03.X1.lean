theorem d_X1_init_0 : decode b_X1_init 0 = .ok (.aload_n 0, 1) := by decide +kernel
theorem d_X1_init_1 : decode b_X1_init 1 = .ok (.invokespecial 3, 3) := by decide +kernel
theorem d_X1_init_4 : decode b_X1_init 4 = .ok (.aload_n 0, 1) := by decide +kernel
theorem d_X1_init_5 : decode b_X1_init 5 = .ok (.iconst 4, 1) := by decide +kernel
theorem d_X1_init_6 : decode b_X1_init 6 = .ok (.newarray .int, 2) := by decide +kernel
theorem d_X1_init_8 : decode b_X1_init 8 = .ok (.putfield 9, 3) := by decide +kernel
theorem d_X1_init_11 : decode b_X1_init 11 = .ok (.aload_n 0, 1) := by decide +kernel
theorem d_X1_init_12 : decode b_X1_init 12 = .ok (.iconst 0, 1) := by decide +kernel
theorem d_X1_init_13 : decode b_X1_init 13 = .ok (.putfield 15, 3) := by decide +kernel
theorem d_X1_init_16 : decode b_X1_init 16 = .ok (.aload_n 0, 1) := by decide +kernel
theorem d_X1_init_17 : decode b_X1_init 17 = .ok (.iconst 0, 1) := by decide +kernel
theorem d_X1_init_18 : decode b_X1_init 18 = .ok (.putfield 19, 3) := by decide +kernel
theorem d_X1_init_21 : decode b_X1_init 21 = .ok (.aload_n 0, 1) := by decide +kernel
theorem d_X1_init_22 : decode b_X1_init 22 = .ok (.aload_n 1, 1) := by decide +kernel
theorem d_X1_init_23 : decode b_X1_init 23 = .ok (.putfield 22, 3) := by decide +kernel
theorem d_X1_init_26 : decode b_X1_init 26 = .ok (.aload_n 0, 1) := by decide +kernel
theorem d_X1_init_27 : decode b_X1_init 27 = .ok (.iload_n 2, 1) := by decide +kernel
theorem d_X1_init_28 : decode b_X1_init 28 = .ok (.newarray .long, 2) := by decide +kernel
theorem d_X1_init_30 : decode b_X1_init 30 = .ok (.putfield 26, 3) := by decide +kernel
theorem d_X1_init_33 : decode b_X1_init 33 = .ok (.aload_n 0, 1) := by decide +kernel
theorem d_X1_init_34 : decode b_X1_init 34 = .ok (.iload_n 2, 1) := by decide +kernel
theorem d_X1_init_35 : decode b_X1_init 35 = .ok (.newarray .int, 2) := by decide +kernel
theorem d_X1_init_37 : decode b_X1_init 37 = .ok (.putfield 30, 3) := by decide +kernel
theorem d_X1_init_40 : decode b_X1_init 40 = .ok (.aload_n 0, 1) := by decide +kernel
theorem d_X1_init_41 : decode b_X1_init 41 = .ok (.iload_n 2, 1) := by decide +kernel
theorem d_X1_init_42 : decode b_X1_init 42 = .ok (.newarray .long, 2) := by decide +kernel
theorem d_X1_init_44 : decode b_X1_init 44 = .ok (.putfield 33, 3) := by decide +kernel
theorem d_X1_init_47 : decode b_X1_init 47 = .ok (.iconst 0, 1) := by decide +kernel
theorem d_X1_init_48 : decode b_X1_init 48 = .ok (.istore_n 3, 1) := by decide +kernel
theorem d_X1_init_49 : decode b_X1_init 49 = .ok (.iload_n 3, 1) := by decide +kernel
theorem d_X1_init_50 : decode b_X1_init 50 = .ok (.iload_n 2, 1) := by decide +kernel
theorem d_X1_init_51 : decode b_X1_init 51 = .ok (.if_icmp .ge 41, 3) := by decide +kernel
theorem d_X1_init_54 : decode b_X1_init 54 = .ok (.aload_n 0, 1) := by decide +kernel
theorem d_X1_init_55 : decode b_X1_init 55 = .ok (.getfield 26, 3) := by decide +kernel
theorem d_X1_init_58 : decode b_X1_init 58 = .ok (.iload_n 3, 1) := by decide +kernel
theorem d_X1_init_59 : decode b_X1_init 59 = .ok (.iload_n 3, 1) := by decide +kernel
theorem d_X1_init_60 : decode b_X1_init 60 = .ok (.iconst 4, 1) := by decide +kernel
theorem d_X1_init_61 : decode b_X1_init 61 = .ok (.irem, 1) := by decide +kernel
theorem d_X1_init_62 : decode b_X1_init 62 = .ok (.bipush 10, 2) := by decide +kernel
theorem d_X1_init_64 : decode b_X1_init 64 = .ok (.iload_n 3, 1) := by decide +kernel
theorem d_X1_init_65 : decode b_X1_init 65 = .ok (.imul, 1) := by decide +kernel
theorem d_X1_init_66 : decode b_X1_init 66 = .ok (.invokestatic 36, 3) := by decide +kernel
theorem d_X1_init_69 : decode b_X1_init 69 = .ok (.lastore, 1) := by decide +kernel
theorem d_X1_init_70 : decode b_X1_init 70 = .ok (.aload_n 0, 1) := by decide +kernel
theorem d_X1_init_71 : decode b_X1_init 71 = .ok (.getfield 30, 3) := by decide +kernel
theorem d_X1_init_74 : decode b_X1_init 74 = .ok (.iload_n 3, 1) := by decide +kernel
theorem d_X1_init_75 : decode b_X1_init 75 = .ok (.iconst (-1), 1) := by decide +kernel
theorem d_X1_init_76 : decode b_X1_init 76 = .ok (.iastore, 1) := by decide +kernel
theorem d_X1_init_77 : decode b_X1_init 77 = .ok (.aload_n 0, 1) := by decide +kernel
theorem d_X1_init_78 : decode b_X1_init 78 = .ok (.getfield 33, 3) := by decide +kernel
theorem d_X1_init_81 : decode b_X1_init 81 = .ok (.iload_n 3, 1) := by decide +kernel
theorem d_X1_init_82 : decode b_X1_init 82 = .ok (.ldc2_w 40, 3) := by decide +kernel
theorem d_X1_init_85 : decode b_X1_init 85 = .ok (.lastore, 1) := by decide +kernel
theorem d_X1_init_86 : decode b_X1_init 86 = .ok (.iinc 3 1, 3) := by decide +kernel
theorem d_X1_init_89 : decode b_X1_init 89 = .ok (.goto (-40), 3) := by decide +kernel
theorem d_X1_init_92 : decode b_X1_init 92 = .ok (.return_, 1) := by decide +kernel
theorem d_X1_open_0 : decode b_X1_open 0 = .ok (.aload_n 0, 1) := by decide +kernel
theorem d_X1_open_1 : decode b_X1_open 1 = .ok (.getfield 15, 3) := by decide +kernel
theorem d_X1_open_4 : decode b_X1_open 4 = .ok (.iconst 4, 1) := by decide +kernel
theorem d_X1_open_5 : decode b_X1_open 5 = .ok (.if_icmp .ge 12, 3) := by decide +kernel
theorem d_X1_open_8 : decode b_X1_open 8 = .ok (.aload_n 0, 1) := by decide +kernel
theorem d_X1_open_9 : decode b_X1_open 9 = .ok (.iconst 0, 1) := by decide +kernel
theorem d_X1_open_10 : decode b_X1_open 10 = .ok (.iconst 1, 1) := by decide +kernel
theorem d_X1_open_11 : decode b_X1_open 11 = .ok (.invokevirtual 47, 3) := by decide +kernel
theorem d_X1_open_14 : decode b_X1_open 14 = .ok (.ifCond .ne 6, 3) := by decide +kernel
theorem d_X1_open_17 : decode b_X1_open 17 = .ok (.bipush (-4), 2) := by decide +kernel
theorem d_X1_open_19 : decode b_X1_open 19 = .ok (.ireturn, 1) := by decide +kernel
theorem d_X1_open_20 : decode b_X1_open 20 = .ok (.aload_n 0, 1) := by decide +kernel
theorem d_X1_open_21 : decode b_X1_open 21 = .ok (.getfield 9, 3) := by decide +kernel
theorem d_X1_open_24 : decode b_X1_open 24 = .ok (.aload_n 0, 1) := by decide +kernel
theorem d_X1_open_25 : decode b_X1_open 25 = .ok (.getfield 15, 3) := by decide +kernel
theorem d_X1_open_28 : decode b_X1_open 28 = .ok (.aload_n 0, 1) := by decide +kernel
theorem d_X1_open_29 : decode b_X1_open 29 = .ok (.getfield 19, 3) := by decide +kernel
theorem d_X1_open_32 : decode b_X1_open 32 = .ok (.iastore, 1) := by decide +kernel
theorem d_X1_open_33 : decode b_X1_open 33 = .ok (.aload_n 0, 1) := by decide +kernel
theorem d_X1_open_34 : decode b_X1_open 34 = .ok (.dup, 1) := by decide +kernel
theorem d_X1_open_35 : decode b_X1_open 35 = .ok (.getfield 15, 3) := by decide +kernel
theorem d_X1_open_38 : decode b_X1_open 38 = .ok (.iconst 1, 1) := by decide +kernel
theorem d_X1_open_39 : decode b_X1_open 39 = .ok (.iadd, 1) := by decide +kernel
theorem d_X1_open_40 : decode b_X1_open 40 = .ok (.putfield 15, 3) := by decide +kernel
theorem d_X1_open_43 : decode b_X1_open 43 = .ok (.aload_n 0, 1) := by decide +kernel
theorem d_X1_open_44 : decode b_X1_open 44 = .ok (.dup, 1) := by decide +kernel
theorem d_X1_open_45 : decode b_X1_open 45 = .ok (.getfield 19, 3) := by decide +kernel
theorem d_X1_open_48 : decode b_X1_open 48 = .ok (.iconst 1, 1) := by decide +kernel
theorem d_X1_open_49 : decode b_X1_open 49 = .ok (.iadd, 1) := by decide +kernel
theorem d_X1_open_50 : decode b_X1_open 50 = .ok (.putfield 19, 3) := by decide +kernel
theorem d_X1_open_53 : decode b_X1_open 53 = .ok (.aload_n 0, 1) := by decide +kernel
theorem d_X1_open_54 : decode b_X1_open 54 = .ok (.getfield 19, 3) := by decide +kernel
theorem d_X1_open_57 : decode b_X1_open 57 = .ok (.iconst 1, 1) := by decide +kernel
theorem d_X1_open_58 : decode b_X1_open 58 = .ok (.isub, 1) := by decide +kernel
theorem d_X1_open_59 : decode b_X1_open 59 = .ok (.ireturn, 1) := by decide +kernel
theorem d_X1_hasRoom_0 : decode b_X1_hasRoom 0 = .ok (.sipush 160, 3) := by decide +kernel
theorem d_X1_hasRoom_3 : decode b_X1_hasRoom 3 = .ok (.aload_n 0, 1) := by decide +kernel
theorem d_X1_hasRoom_4 : decode b_X1_hasRoom 4 = .ok (.getfield 22, 3) := by decide +kernel
theorem d_X1_hasRoom_7 : decode b_X1_hasRoom 7 = .ok (.getfield 42, 3) := by decide +kernel
theorem d_X1_hasRoom_10 : decode b_X1_hasRoom 10 = .ok (.isub, 1) := by decide +kernel
theorem d_X1_hasRoom_11 : decode b_X1_hasRoom 11 = .ok (.iload_n 1, 1) := by decide +kernel
theorem d_X1_hasRoom_12 : decode b_X1_hasRoom 12 = .ok (.isub, 1) := by decide +kernel
theorem d_X1_hasRoom_13 : decode b_X1_hasRoom 13 = .ok (.aload_n 0, 1) := by decide +kernel
theorem d_X1_hasRoom_14 : decode b_X1_hasRoom 14 = .ok (.getfield 15, 3) := by decide +kernel
theorem d_X1_hasRoom_17 : decode b_X1_hasRoom 17 = .ok (.iload_n 2, 1) := by decide +kernel
theorem d_X1_hasRoom_18 : decode b_X1_hasRoom 18 = .ok (.iadd, 1) := by decide +kernel
theorem d_X1_hasRoom_19 : decode b_X1_hasRoom 19 = .ok (.if_icmp .lt 7, 3) := by decide +kernel
theorem d_X1_hasRoom_22 : decode b_X1_hasRoom 22 = .ok (.iconst 1, 1) := by decide +kernel
theorem d_X1_hasRoom_23 : decode b_X1_hasRoom 23 = .ok (.goto 4, 3) := by decide +kernel
theorem d_X1_hasRoom_26 : decode b_X1_hasRoom 26 = .ok (.iconst 0, 1) := by decide +kernel
theorem d_X1_hasRoom_27 : decode b_X1_hasRoom 27 = .ok (.ireturn, 1) := by decide +kernel
theorem d_X1_isOpen_0 : decode b_X1_isOpen 0 = .ok (.aload_n 0, 1) := by decide +kernel
theorem d_X1_isOpen_1 : decode b_X1_isOpen 1 = .ok (.iload_n 1, 1) := by decide +kernel
theorem d_X1_isOpen_2 : decode b_X1_isOpen 2 = .ok (.invokevirtual 51, 3) := by decide +kernel
theorem d_X1_isOpen_5 : decode b_X1_isOpen 5 = .ok (.iconst (-1), 1) := by decide +kernel
theorem d_X1_isOpen_6 : decode b_X1_isOpen 6 = .ok (.if_icmp .eq 7, 3) := by decide +kernel
theorem d_X1_isOpen_9 : decode b_X1_isOpen 9 = .ok (.iconst 1, 1) := by decide +kernel
theorem d_X1_isOpen_10 : decode b_X1_isOpen 10 = .ok (.goto 4, 3) := by decide +kernel
theorem d_X1_isOpen_13 : decode b_X1_isOpen 13 = .ok (.iconst 0, 1) := by decide +kernel
theorem d_X1_isOpen_14 : decode b_X1_isOpen 14 = .ok (.ireturn, 1) := by decide +kernel
theorem d_X1_slotOf_0 : decode b_X1_slotOf 0 = .ok (.iconst 0, 1) := by decide +kernel
theorem d_X1_slotOf_1 : decode b_X1_slotOf 1 = .ok (.istore_n 2, 1) := by decide +kernel
theorem d_X1_slotOf_2 : decode b_X1_slotOf 2 = .ok (.iload_n 2, 1) := by decide +kernel
theorem d_X1_slotOf_3 : decode b_X1_slotOf 3 = .ok (.aload_n 0, 1) := by decide +kernel
theorem d_X1_slotOf_4 : decode b_X1_slotOf 4 = .ok (.getfield 15, 3) := by decide +kernel
theorem d_X1_slotOf_7 : decode b_X1_slotOf 7 = .ok (.if_icmp .ge 21, 3) := by decide +kernel
theorem d_X1_slotOf_10 : decode b_X1_slotOf 10 = .ok (.aload_n 0, 1) := by decide +kernel
theorem d_X1_slotOf_11 : decode b_X1_slotOf 11 = .ok (.getfield 9, 3) := by decide +kernel
theorem d_X1_slotOf_14 : decode b_X1_slotOf 14 = .ok (.iload_n 2, 1) := by decide +kernel
theorem d_X1_slotOf_15 : decode b_X1_slotOf 15 = .ok (.iaload, 1) := by decide +kernel
theorem d_X1_slotOf_16 : decode b_X1_slotOf 16 = .ok (.iload_n 1, 1) := by decide +kernel
theorem d_X1_slotOf_17 : decode b_X1_slotOf 17 = .ok (.if_icmp .ne 5, 3) := by decide +kernel
theorem d_X1_slotOf_20 : decode b_X1_slotOf 20 = .ok (.iload_n 2, 1) := by decide +kernel
theorem d_X1_slotOf_21 : decode b_X1_slotOf 21 = .ok (.ireturn, 1) := by decide +kernel
theorem d_X1_slotOf_22 : decode b_X1_slotOf 22 = .ok (.iinc 2 1, 3) := by decide +kernel
theorem d_X1_slotOf_25 : decode b_X1_slotOf 25 = .ok (.goto (-23), 3) := by decide +kernel
theorem d_X1_slotOf_28 : decode b_X1_slotOf 28 = .ok (.iconst (-1), 1) := by decide +kernel
theorem d_X1_slotOf_29 : decode b_X1_slotOf 29 = .ok (.ireturn, 1) := by decide +kernel
theorem d_X1_isLockedByOther_0 : decode b_X1_isLockedByOther 0 = .ok (.aload_n 0, 1) := by decide +kernel
theorem d_X1_isLockedByOther_1 : decode b_X1_isLockedByOther 1 = .ok (.getfield 30, 3) := by decide +kernel
theorem d_X1_isLockedByOther_4 : decode b_X1_isLockedByOther 4 = .ok (.iload_n 2, 1) := by decide +kernel
theorem d_X1_isLockedByOther_5 : decode b_X1_isLockedByOther 5 = .ok (.iaload, 1) := by decide +kernel
theorem d_X1_isLockedByOther_6 : decode b_X1_isLockedByOther 6 = .ok (.iconst (-1), 1) := by decide +kernel
theorem d_X1_isLockedByOther_7 : decode b_X1_isLockedByOther 7 = .ok (.if_icmp .eq 17, 3) := by decide +kernel
theorem d_X1_isLockedByOther_10 : decode b_X1_isLockedByOther 10 = .ok (.aload_n 0, 1) := by decide +kernel
theorem d_X1_isLockedByOther_11 : decode b_X1_isLockedByOther 11 = .ok (.getfield 30, 3) := by decide +kernel
theorem d_X1_isLockedByOther_14 : decode b_X1_isLockedByOther 14 = .ok (.iload_n 2, 1) := by decide +kernel
theorem d_X1_isLockedByOther_15 : decode b_X1_isLockedByOther 15 = .ok (.iaload, 1) := by decide +kernel
theorem d_X1_isLockedByOther_16 : decode b_X1_isLockedByOther 16 = .ok (.iload_n 1, 1) := by decide +kernel
theorem d_X1_isLockedByOther_17 : decode b_X1_isLockedByOther 17 = .ok (.if_icmp .eq 7, 3) := by decide +kernel
theorem d_X1_isLockedByOther_20 : decode b_X1_isLockedByOther 20 = .ok (.iconst 1, 1) := by decide +kernel
theorem d_X1_isLockedByOther_21 : decode b_X1_isLockedByOther 21 = .ok (.goto 4, 3) := by decide +kernel
theorem d_X1_isLockedByOther_24 : decode b_X1_isLockedByOther 24 = .ok (.iconst 0, 1) := by decide +kernel
theorem d_X1_isLockedByOther_25 : decode b_X1_isLockedByOther 25 = .ok (.ireturn, 1) := by decide +kernel
theorem d_X1_takeLock_0 : decode b_X1_takeLock 0 = .ok (.aload_n 0, 1) := by decide +kernel
theorem d_X1_takeLock_1 : decode b_X1_takeLock 1 = .ok (.getfield 30, 3) := by decide +kernel
theorem d_X1_takeLock_4 : decode b_X1_takeLock 4 = .ok (.iload_n 2, 1) := by decide +kernel
theorem d_X1_takeLock_5 : decode b_X1_takeLock 5 = .ok (.iload_n 1, 1) := by decide +kernel
theorem d_X1_takeLock_6 : decode b_X1_takeLock 6 = .ok (.iastore, 1) := by decide +kernel
theorem d_X1_takeLock_7 : decode b_X1_takeLock 7 = .ok (.return_, 1) := by decide +kernel
theorem d_X1_change_0 : decode b_X1_change 0 = .ok (.aload_n 0, 1) := by decide +kernel
theorem d_X1_change_1 : decode b_X1_change 1 = .ok (.iconst 1, 1) := by decide +kernel
theorem d_X1_change_2 : decode b_X1_change 2 = .ok (.iconst 0, 1) := by decide +kernel
theorem d_X1_change_3 : decode b_X1_change 3 = .ok (.invokevirtual 47, 3) := by decide +kernel
theorem d_X1_change_6 : decode b_X1_change 6 = .ok (.ifCond .ne 6, 3) := by decide +kernel
theorem d_X1_change_9 : decode b_X1_change 9 = .ok (.bipush (-4), 2) := by decide +kernel
theorem d_X1_change_11 : decode b_X1_change 11 = .ok (.ireturn, 1) := by decide +kernel
theorem d_X1_change_12 : decode b_X1_change 12 = .ok (.aload_n 0, 1) := by decide +kernel
theorem d_X1_change_13 : decode b_X1_change 13 = .ok (.iload_n 1, 1) := by decide +kernel
theorem d_X1_change_14 : decode b_X1_change 14 = .ok (.iload_n 2, 1) := by decide +kernel
theorem d_X1_change_15 : decode b_X1_change 15 = .ok (.invokevirtual 55, 3) := by decide +kernel
theorem d_X1_change_18 : decode b_X1_change 18 = .ok (.aload_n 0, 1) := by decide +kernel
theorem d_X1_change_19 : decode b_X1_change 19 = .ok (.getfield 33, 3) := by decide +kernel
theorem d_X1_change_22 : decode b_X1_change 22 = .ok (.iload_n 2, 1) := by decide +kernel
theorem d_X1_change_23 : decode b_X1_change 23 = .ok (.lload_n 3, 1) := by decide +kernel
theorem d_X1_change_24 : decode b_X1_change 24 = .ok (.lastore, 1) := by decide +kernel
theorem d_X1_change_25 : decode b_X1_change 25 = .ok (.aload_n 0, 1) := by decide +kernel
theorem d_X1_change_26 : decode b_X1_change 26 = .ok (.getfield 22, 3) := by decide +kernel
theorem d_X1_change_29 : decode b_X1_change 29 = .ok (.iconst 0, 1) := by decide +kernel
theorem d_X1_change_30 : decode b_X1_change 30 = .ok (.iload_n 1, 1) := by decide +kernel
theorem d_X1_change_31 : decode b_X1_change 31 = .ok (.iload_n 2, 1) := by decide +kernel
theorem d_X1_change_32 : decode b_X1_change 32 = .ok (.lload_n 3, 1) := by decide +kernel
theorem d_X1_change_33 : decode b_X1_change 33 = .ok (.invokevirtual 59, 3) := by decide +kernel
theorem d_X1_change_36 : decode b_X1_change 36 = .ok (.pop, 1) := by decide +kernel
theorem d_X1_change_37 : decode b_X1_change 37 = .ok (.iconst 0, 1) := by decide +kernel
theorem d_X1_change_38 : decode b_X1_change 38 = .ok (.ireturn, 1) := by decide +kernel
theorem d_X1_seenBy_0 : decode b_X1_seenBy 0 = .ok (.aload_n 0, 1) := by decide +kernel
theorem d_X1_seenBy_1 : decode b_X1_seenBy 1 = .ok (.getfield 30, 3) := by decide +kernel
theorem d_X1_seenBy_4 : decode b_X1_seenBy 4 = .ok (.iload_n 2, 1) := by decide +kernel
theorem d_X1_seenBy_5 : decode b_X1_seenBy 5 = .ok (.iaload, 1) := by decide +kernel
theorem d_X1_seenBy_6 : decode b_X1_seenBy 6 = .ok (.iload_n 1, 1) := by decide +kernel
theorem d_X1_seenBy_7 : decode b_X1_seenBy 7 = .ok (.if_icmp .ne 25, 3) := by decide +kernel
theorem d_X1_seenBy_10 : decode b_X1_seenBy 10 = .ok (.aload_n 0, 1) := by decide +kernel
theorem d_X1_seenBy_11 : decode b_X1_seenBy 11 = .ok (.getfield 33, 3) := by decide +kernel
theorem d_X1_seenBy_14 : decode b_X1_seenBy 14 = .ok (.iload_n 2, 1) := by decide +kernel
theorem d_X1_seenBy_15 : decode b_X1_seenBy 15 = .ok (.laload, 1) := by decide +kernel
theorem d_X1_seenBy_16 : decode b_X1_seenBy 16 = .ok (.ldc2_w 40, 3) := by decide +kernel
theorem d_X1_seenBy_19 : decode b_X1_seenBy 19 = .ok (.lcmp, 1) := by decide +kernel
theorem d_X1_seenBy_20 : decode b_X1_seenBy 20 = .ok (.ifCond .eq 12, 3) := by decide +kernel
theorem d_X1_seenBy_23 : decode b_X1_seenBy 23 = .ok (.aload_n 0, 1) := by decide +kernel
theorem d_X1_seenBy_24 : decode b_X1_seenBy 24 = .ok (.getfield 33, 3) := by decide +kernel
theorem d_X1_seenBy_27 : decode b_X1_seenBy 27 = .ok (.iload_n 2, 1) := by decide +kernel
theorem d_X1_seenBy_28 : decode b_X1_seenBy 28 = .ok (.laload, 1) := by decide +kernel
theorem d_X1_seenBy_29 : decode b_X1_seenBy 29 = .ok (.goto 9, 3) := by decide +kernel
theorem d_X1_seenBy_32 : decode b_X1_seenBy 32 = .ok (.aload_n 0, 1) := by decide +kernel
theorem d_X1_seenBy_33 : decode b_X1_seenBy 33 = .ok (.getfield 26, 3) := by decide +kernel
theorem d_X1_seenBy_36 : decode b_X1_seenBy 36 = .ok (.iload_n 2, 1) := by decide +kernel
theorem d_X1_seenBy_37 : decode b_X1_seenBy 37 = .ok (.laload, 1) := by decide +kernel
theorem d_X1_seenBy_38 : decode b_X1_seenBy 38 = .ok (.lreturn, 1) := by decide +kernel
theorem d_X1_finish_0 : decode b_X1_finish 0 = .ok (.iconst 0, 1) := by decide +kernel
theorem d_X1_finish_1 : decode b_X1_finish 1 = .ok (.istore_n 3, 1) := by decide +kernel
theorem d_X1_finish_2 : decode b_X1_finish 2 = .ok (.iload_n 3, 1) := by decide +kernel
theorem d_X1_finish_3 : decode b_X1_finish 3 = .ok (.aload_n 0, 1) := by decide +kernel
theorem d_X1_finish_4 : decode b_X1_finish 4 = .ok (.getfield 26, 3) := by decide +kernel
theorem d_X1_finish_7 : decode b_X1_finish 7 = .ok (.arraylength, 1) := by decide +kernel
theorem d_X1_finish_8 : decode b_X1_finish 8 = .ok (.if_icmp .ge 25, 3) := by decide +kernel
theorem d_X1_finish_11 : decode b_X1_finish 11 = .ok (.aload_n 0, 1) := by decide +kernel
theorem d_X1_finish_12 : decode b_X1_finish 12 = .ok (.getfield 30, 3) := by decide +kernel
theorem d_X1_finish_15 : decode b_X1_finish 15 = .ok (.iload_n 3, 1) := by decide +kernel
theorem d_X1_finish_16 : decode b_X1_finish 16 = .ok (.iaload, 1) := by decide +kernel
theorem d_X1_finish_17 : decode b_X1_finish 17 = .ok (.iload_n 1, 1) := by decide +kernel
theorem d_X1_finish_18 : decode b_X1_finish 18 = .ok (.if_icmp .ne 9, 3) := by decide +kernel
theorem d_X1_finish_21 : decode b_X1_finish 21 = .ok (.aload_n 0, 1) := by decide +kernel
theorem d_X1_finish_22 : decode b_X1_finish 22 = .ok (.iload_n 3, 1) := by decide +kernel
theorem d_X1_finish_23 : decode b_X1_finish 23 = .ok (.iload_n 2, 1) := by decide +kernel
theorem d_X1_finish_24 : decode b_X1_finish 24 = .ok (.invokevirtual 63, 3) := by decide +kernel
theorem d_X1_finish_27 : decode b_X1_finish 27 = .ok (.iinc 3 1, 3) := by decide +kernel
theorem d_X1_finish_30 : decode b_X1_finish 30 = .ok (.goto (-28), 3) := by decide +kernel
theorem d_X1_finish_33 : decode b_X1_finish 33 = .ok (.aload_n 0, 1) := by decide +kernel
theorem d_X1_finish_34 : decode b_X1_finish 34 = .ok (.aload_n 0, 1) := by decide +kernel
theorem d_X1_finish_35 : decode b_X1_finish 35 = .ok (.iload_n 1, 1) := by decide +kernel
theorem d_X1_finish_36 : decode b_X1_finish 36 = .ok (.invokevirtual 51, 3) := by decide +kernel
theorem d_X1_finish_39 : decode b_X1_finish 39 = .ok (.invokevirtual 67, 3) := by decide +kernel
theorem d_X1_finish_42 : decode b_X1_finish 42 = .ok (.aload_n 0, 1) := by decide +kernel
theorem d_X1_finish_43 : decode b_X1_finish 43 = .ok (.getfield 22, 3) := by decide +kernel
theorem d_X1_finish_46 : decode b_X1_finish 46 = .ok (.iload_n 2, 1) := by decide +kernel
theorem d_X1_finish_47 : decode b_X1_finish 47 = .ok (.ifCond .eq 7, 3) := by decide +kernel
theorem d_X1_finish_50 : decode b_X1_finish 50 = .ok (.iconst 1, 1) := by decide +kernel
theorem d_X1_finish_51 : decode b_X1_finish 51 = .ok (.goto 4, 3) := by decide +kernel
theorem d_X1_finish_54 : decode b_X1_finish 54 = .ok (.iconst 2, 1) := by decide +kernel
theorem d_X1_finish_55 : decode b_X1_finish 55 = .ok (.iload_n 1, 1) := by decide +kernel
theorem d_X1_finish_56 : decode b_X1_finish 56 = .ok (.iconst (-1), 1) := by decide +kernel
theorem d_X1_finish_57 : decode b_X1_finish 57 = .ok (.ldc2_w 71, 3) := by decide +kernel
theorem d_X1_finish_60 : decode b_X1_finish 60 = .ok (.invokevirtual 59, 3) := by decide +kernel
theorem d_X1_finish_63 : decode b_X1_finish 63 = .ok (.ireturn, 1) := by decide +kernel
theorem d_X1_loosen_0 : decode b_X1_loosen 0 = .ok (.iload_n 2, 1) := by decide +kernel
theorem d_X1_loosen_1 : decode b_X1_loosen 1 = .ok (.ifCond .eq 28, 3) := by decide +kernel
theorem d_X1_loosen_4 : decode b_X1_loosen 4 = .ok (.aload_n 0, 1) := by decide +kernel
theorem d_X1_loosen_5 : decode b_X1_loosen 5 = .ok (.getfield 33, 3) := by decide +kernel
theorem d_X1_loosen_8 : decode b_X1_loosen 8 = .ok (.iload_n 1, 1) := by decide +kernel
theorem d_X1_loosen_9 : decode b_X1_loosen 9 = .ok (.laload, 1) := by decide +kernel
theorem d_X1_loosen_10 : decode b_X1_loosen 10 = .ok (.ldc2_w 40, 3) := by decide +kernel
theorem d_X1_loosen_13 : decode b_X1_loosen 13 = .ok (.lcmp, 1) := by decide +kernel
theorem d_X1_loosen_14 : decode b_X1_loosen 14 = .ok (.ifCond .eq 15, 3) := by decide +kernel
theorem d_X1_loosen_17 : decode b_X1_loosen 17 = .ok (.aload_n 0, 1) := by decide +kernel
theorem d_X1_loosen_18 : decode b_X1_loosen 18 = .ok (.getfield 26, 3) := by decide +kernel
theorem d_X1_loosen_21 : decode b_X1_loosen 21 = .ok (.iload_n 1, 1) := by decide +kernel
theorem d_X1_loosen_22 : decode b_X1_loosen 22 = .ok (.aload_n 0, 1) := by decide +kernel
theorem d_X1_loosen_23 : decode b_X1_loosen 23 = .ok (.getfield 33, 3) := by decide +kernel
theorem d_X1_loosen_26 : decode b_X1_loosen 26 = .ok (.iload_n 1, 1) := by decide +kernel
theorem d_X1_loosen_27 : decode b_X1_loosen 27 = .ok (.laload, 1) := by decide +kernel
theorem d_X1_loosen_28 : decode b_X1_loosen 28 = .ok (.lastore, 1) := by decide +kernel
theorem d_X1_loosen_29 : decode b_X1_loosen 29 = .ok (.aload_n 0, 1) := by decide +kernel
theorem d_X1_loosen_30 : decode b_X1_loosen 30 = .ok (.getfield 33, 3) := by decide +kernel
theorem d_X1_loosen_33 : decode b_X1_loosen 33 = .ok (.iload_n 1, 1) := by decide +kernel
theorem d_X1_loosen_34 : decode b_X1_loosen 34 = .ok (.ldc2_w 40, 3) := by decide +kernel
theorem d_X1_loosen_37 : decode b_X1_loosen 37 = .ok (.lastore, 1) := by decide +kernel
theorem d_X1_loosen_38 : decode b_X1_loosen 38 = .ok (.aload_n 0, 1) := by decide +kernel
theorem d_X1_loosen_39 : decode b_X1_loosen 39 = .ok (.getfield 30, 3) := by decide +kernel
theorem d_X1_loosen_42 : decode b_X1_loosen 42 = .ok (.iload_n 1, 1) := by decide +kernel
theorem d_X1_loosen_43 : decode b_X1_loosen 43 = .ok (.iconst (-1), 1) := by decide +kernel
theorem d_X1_loosen_44 : decode b_X1_loosen 44 = .ok (.iastore, 1) := by decide +kernel
theorem d_X1_loosen_45 : decode b_X1_loosen 45 = .ok (.return_, 1) := by decide +kernel
theorem d_X1_close_0 : decode b_X1_close 0 = .ok (.iload_n 1, 1) := by decide +kernel
theorem d_X1_close_1 : decode b_X1_close 1 = .ok (.iconst (-1), 1) := by decide +kernel
theorem d_X1_close_2 : decode b_X1_close 2 = .ok (.if_icmp .ne 4, 3) := by decide +kernel
theorem d_X1_close_5 : decode b_X1_close 5 = .ok (.return_, 1) := by decide +kernel
theorem d_X1_close_6 : decode b_X1_close 6 = .ok (.aload_n 0, 1) := by decide +kernel
theorem d_X1_close_7 : decode b_X1_close 7 = .ok (.dup, 1) := by decide +kernel
theorem d_X1_close_8 : decode b_X1_close 8 = .ok (.getfield 15, 3) := by decide +kernel
theorem d_X1_close_11 : decode b_X1_close 11 = .ok (.iconst 1, 1) := by decide +kernel
theorem d_X1_close_12 : decode b_X1_close 12 = .ok (.isub, 1) := by decide +kernel
theorem d_X1_close_13 : decode b_X1_close 13 = .ok (.putfield 15, 3) := by decide +kernel
theorem d_X1_close_16 : decode b_X1_close 16 = .ok (.iload_n 1, 1) := by decide +kernel
theorem d_X1_close_17 : decode b_X1_close 17 = .ok (.istore_n 2, 1) := by decide +kernel
theorem d_X1_close_18 : decode b_X1_close 18 = .ok (.iload_n 2, 1) := by decide +kernel
theorem d_X1_close_19 : decode b_X1_close 19 = .ok (.aload_n 0, 1) := by decide +kernel
theorem d_X1_close_20 : decode b_X1_close 20 = .ok (.getfield 15, 3) := by decide +kernel
theorem d_X1_close_23 : decode b_X1_close 23 = .ok (.if_icmp .ge 23, 3) := by decide +kernel
theorem d_X1_close_26 : decode b_X1_close 26 = .ok (.aload_n 0, 1) := by decide +kernel
theorem d_X1_close_27 : decode b_X1_close 27 = .ok (.getfield 9, 3) := by decide +kernel
theorem d_X1_close_30 : decode b_X1_close 30 = .ok (.iload_n 2, 1) := by decide +kernel
theorem d_X1_close_31 : decode b_X1_close 31 = .ok (.aload_n 0, 1) := by decide +kernel
theorem d_X1_close_32 : decode b_X1_close 32 = .ok (.getfield 9, 3) := by decide +kernel
theorem d_X1_close_35 : decode b_X1_close 35 = .ok (.iload_n 2, 1) := by decide +kernel
theorem d_X1_close_36 : decode b_X1_close 36 = .ok (.iconst 1, 1) := by decide +kernel
theorem d_X1_close_37 : decode b_X1_close 37 = .ok (.iadd, 1) := by decide +kernel
theorem d_X1_close_38 : decode b_X1_close 38 = .ok (.iaload, 1) := by decide +kernel
theorem d_X1_close_39 : decode b_X1_close 39 = .ok (.iastore, 1) := by decide +kernel
theorem d_X1_close_40 : decode b_X1_close 40 = .ok (.iinc 2 1, 3) := by decide +kernel
theorem d_X1_close_43 : decode b_X1_close 43 = .ok (.goto (-25), 3) := by decide +kernel
theorem d_X1_close_46 : decode b_X1_close 46 = .ok (.return_, 1) := by decide +kernel
theorem d_X1_inTable_0 : decode b_X1_inTable 0 = .ok (.aload_n 0, 1) := by decide +kernel
theorem d_X1_inTable_1 : decode b_X1_inTable 1 = .ok (.getfield 26, 3) := by decide +kernel
theorem d_X1_inTable_4 : decode b_X1_inTable 4 = .ok (.iload_n 1, 1) := by decide +kernel
theorem d_X1_inTable_5 : decode b_X1_inTable 5 = .ok (.laload, 1) := by decide +kernel
theorem d_X1_inTable_6 : decode b_X1_inTable 6 = .ok (.lreturn, 1) := by decide +kernel
theorem d_X1_abortAll_0 : decode b_X1_abortAll 0 = .ok (.aload_n 0, 1) := by decide +kernel
theorem d_X1_abortAll_1 : decode b_X1_abortAll 1 = .ok (.getfield 15, 3) := by decide +kernel
theorem d_X1_abortAll_4 : decode b_X1_abortAll 4 = .ok (.istore_n 1, 1) := by decide +kernel
theorem d_X1_abortAll_5 : decode b_X1_abortAll 5 = .ok (.iload_n 1, 1) := by decide +kernel
theorem d_X1_abortAll_6 : decode b_X1_abortAll 6 = .ok (.ifCond .le 21, 3) := by decide +kernel
theorem d_X1_abortAll_9 : decode b_X1_abortAll 9 = .ok (.aload_n 0, 1) := by decide +kernel
theorem d_X1_abortAll_10 : decode b_X1_abortAll 10 = .ok (.aload_n 0, 1) := by decide +kernel
theorem d_X1_abortAll_11 : decode b_X1_abortAll 11 = .ok (.getfield 9, 3) := by decide +kernel
theorem d_X1_abortAll_14 : decode b_X1_abortAll 14 = .ok (.iconst 0, 1) := by decide +kernel
theorem d_X1_abortAll_15 : decode b_X1_abortAll 15 = .ok (.iaload, 1) := by decide +kernel
theorem d_X1_abortAll_16 : decode b_X1_abortAll 16 = .ok (.iconst 0, 1) := by decide +kernel
theorem d_X1_abortAll_17 : decode b_X1_abortAll 17 = .ok (.invokevirtual 73, 3) := by decide +kernel
theorem d_X1_abortAll_20 : decode b_X1_abortAll 20 = .ok (.pop, 1) := by decide +kernel
theorem d_X1_abortAll_21 : decode b_X1_abortAll 21 = .ok (.iinc 1 (-1), 3) := by decide +kernel
theorem d_X1_abortAll_24 : decode b_X1_abortAll 24 = .ok (.goto (-19), 3) := by decide +kernel
theorem d_X1_abortAll_27 : decode b_X1_abortAll 27 = .ok (.return_, 1) := by decide +kernel
