theorem d_M0_says_39 : decode b_M0_says 39 = .ok (.iload_n 1, 1) := by decide +kernel
theorem d_M0_says_40 : decode b_M0_says 40 = .ok (.iaload, 1) := by decide +kernel
theorem d_M0_says_41 : decode b_M0_says 41 = .ok (.invokevirtual 106, 3) := by decide +kernel
theorem d_M0_says_44 : decode b_M0_says 44 = .ok (.lstore_n 3, 1) := by decide +kernel
theorem d_M0_says_45 : decode b_M0_says 45 = .ok (.aload_n 0, 1) := by decide +kernel
theorem d_M0_says_46 : decode b_M0_says 46 = .ok (.lload_n 3, 1) := by decide +kernel
theorem d_M0_says_47 : decode b_M0_says 47 = .ok (.invokevirtual 109, 3) := by decide +kernel
theorem d_M0_says_50 : decode b_M0_says 50 = .ok (.lreturn, 1) := by decide +kernel
theorem d_M0_kept_0 : decode b_M0_kept 0 = .ok (.lload_n 1, 1) := by decide +kernel
theorem d_M0_kept_1 : decode b_M0_kept 1 = .ok (.lconst 0, 1) := by decide +kernel
theorem d_M0_kept_2 : decode b_M0_kept 2 = .ok (.lcmp, 1) := by decide +kernel
theorem d_M0_kept_3 : decode b_M0_kept 3 = .ok (.ifCond .lt 18, 3) := by decide +kernel
theorem d_M0_kept_6 : decode b_M0_kept 6 = .ok (.lload_n 1, 1) := by decide +kernel
theorem d_M0_kept_7 : decode b_M0_kept 7 = .ok (.l2i, 1) := by decide +kernel
theorem d_M0_kept_8 : decode b_M0_kept 8 = .ok (.aload_n 0, 1) := by decide +kernel
theorem d_M0_kept_9 : decode b_M0_kept 9 = .ok (.getfield 83, 3) := by decide +kernel
theorem d_M0_kept_12 : decode b_M0_kept 12 = .ok (.if_icmp .ge 9, 3) := by decide +kernel
theorem d_M0_kept_15 : decode b_M0_kept 15 = .ok (.ldc2_w 92, 3) := by decide +kernel
theorem d_M0_kept_18 : decode b_M0_kept 18 = .ok (.goto 4, 3) := by decide +kernel
theorem d_M0_kept_21 : decode b_M0_kept 21 = .ok (.lload_n 1, 1) := by decide +kernel
theorem d_M0_kept_22 : decode b_M0_kept 22 = .ok (.lreturn, 1) := by decide +kernel
theorem d_M0_view_0 : decode b_M0_view 0 = .ok (.lconst 0, 1) := by decide +kernel
theorem d_M0_view_1 : decode b_M0_view 1 = .ok (.lstore_n 3, 1) := by decide +kernel
theorem d_M0_view_2 : decode b_M0_view 2 = .ok (.iconst 0, 1) := by decide +kernel
theorem d_M0_view_3 : decode b_M0_view 3 = .ok (.istore 5, 2) := by decide +kernel
theorem d_M0_view_5 : decode b_M0_view 5 = .ok (.iload 5, 2) := by decide +kernel
theorem d_M0_view_7 : decode b_M0_view 7 = .ok (.aload_n 0, 1) := by decide +kernel
theorem d_M0_view_8 : decode b_M0_view 8 = .ok (.getfield 74, 3) := by decide +kernel
theorem d_M0_view_11 : decode b_M0_view 11 = .ok (.if_icmp .ge 75, 3) := by decide +kernel
theorem d_M0_view_14 : decode b_M0_view 14 = .ok (.iload_n 1, 1) := by decide +kernel
theorem d_M0_view_15 : decode b_M0_view 15 = .ok (.ifCond .lt 71, 3) := by decide +kernel
theorem d_M0_view_18 : decode b_M0_view 18 = .ok (.iload_n 1, 1) := by decide +kernel
theorem d_M0_view_19 : decode b_M0_view 19 = .ok (.iconst 3, 1) := by decide +kernel
theorem d_M0_view_20 : decode b_M0_view 20 = .ok (.if_icmp .gt 66, 3) := by decide +kernel
theorem d_M0_view_23 : decode b_M0_view 23 = .ok (.aload_n 0, 1) := by decide +kernel
theorem d_M0_view_24 : decode b_M0_view 24 = .ok (.iload 5, 2) := by decide +kernel
theorem d_M0_view_26 : decode b_M0_view 26 = .ok (.invokevirtual 127, 3) := by decide +kernel
theorem d_M0_view_29 : decode b_M0_view 29 = .ok (.lstore 6, 2) := by decide +kernel
theorem d_M0_view_31 : decode b_M0_view 31 = .ok (.lload 6, 2) := by decide +kernel
theorem d_M0_view_33 : decode b_M0_view 33 = .ok (.lconst 0, 1) := by decide +kernel
theorem d_M0_view_34 : decode b_M0_view 34 = .ok (.lcmp, 1) := by decide +kernel
theorem d_M0_view_35 : decode b_M0_view 35 = .ok (.ifCond .lt 18, 3) := by decide +kernel
theorem d_M0_view_38 : decode b_M0_view 38 = .ok (.lload 6, 2) := by decide +kernel
theorem d_M0_view_40 : decode b_M0_view 40 = .ok (.bipush 32, 2) := by decide +kernel
theorem d_M0_view_42 : decode b_M0_view 42 = .ok (.lshr, 1) := by decide +kernel
theorem d_M0_view_43 : decode b_M0_view 43 = .ok (.iload_n 1, 1) := by decide +kernel
theorem d_M0_view_44 : decode b_M0_view 44 = .ok (.i2l, 1) := by decide +kernel
theorem d_M0_view_45 : decode b_M0_view 45 = .ok (.lcmp, 1) := by decide +kernel
theorem d_M0_view_46 : decode b_M0_view 46 = .ok (.ifCond .ne 7, 3) := by decide +kernel
theorem d_M0_view_49 : decode b_M0_view 49 = .ok (.iconst 1, 1) := by decide +kernel
theorem d_M0_view_50 : decode b_M0_view 50 = .ok (.goto 4, 3) := by decide +kernel
theorem d_M0_view_53 : decode b_M0_view 53 = .ok (.iconst 0, 1) := by decide +kernel
theorem d_M0_view_54 : decode b_M0_view 54 = .ok (.istore 8, 2) := by decide +kernel
theorem d_M0_view_56 : decode b_M0_view 56 = .ok (.lload_n 3, 1) := by decide +kernel
theorem d_M0_view_57 : decode b_M0_view 57 = .ok (.iload 8, 2) := by decide +kernel
theorem d_M0_view_59 : decode b_M0_view 59 = .ok (.ifCond .ne 7, 3) := by decide +kernel
theorem d_M0_view_62 : decode b_M0_view 62 = .ok (.lconst 0, 1) := by decide +kernel
theorem d_M0_view_63 : decode b_M0_view 63 = .ok (.goto 15, 3) := by decide +kernel
theorem d_M0_view_66 : decode b_M0_view 66 = .ok (.iload_n 2, 1) := by decide +kernel
theorem d_M0_view_67 : decode b_M0_view 67 = .ok (.ifCond .eq 10, 3) := by decide +kernel
theorem d_M0_view_70 : decode b_M0_view 70 = .ok (.lload 6, 2) := by decide +kernel
theorem d_M0_view_72 : decode b_M0_view 72 = .ok (.l2i, 1) := by decide +kernel
theorem d_M0_view_73 : decode b_M0_view 73 = .ok (.i2l, 1) := by decide +kernel
theorem d_M0_view_74 : decode b_M0_view 74 = .ok (.goto 4, 3) := by decide +kernel
theorem d_M0_view_77 : decode b_M0_view 77 = .ok (.lconst 1, 1) := by decide +kernel
theorem d_M0_view_78 : decode b_M0_view 78 = .ok (.ladd, 1) := by decide +kernel
theorem d_M0_view_79 : decode b_M0_view 79 = .ok (.lstore_n 3, 1) := by decide +kernel
theorem d_M0_view_80 : decode b_M0_view 80 = .ok (.iinc 5 1, 3) := by decide +kernel
theorem d_M0_view_83 : decode b_M0_view 83 = .ok (.goto (-78), 3) := by decide +kernel
theorem d_M0_view_86 : decode b_M0_view 86 = .ok (.lload_n 3, 1) := by decide +kernel
theorem d_M0_view_87 : decode b_M0_view 87 = .ok (.lreturn, 1) := by decide +kernel
theorem d_M0_position_0 : decode b_M0_position 0 = .ok (.aload_n 0, 1) := by decide +kernel
theorem d_M0_position_1 : decode b_M0_position 1 = .ok (.getfield 117, 3) := by decide +kernel
theorem d_M0_position_4 : decode b_M0_position 4 = .ok (.ifCond .ne 7, 3) := by decide +kernel
theorem d_M0_position_7 : decode b_M0_position 7 = .ok (.iconst (-1), 1) := by decide +kernel
theorem d_M0_position_8 : decode b_M0_position 8 = .ok (.goto 14, 3) := by decide +kernel
theorem d_M0_position_11 : decode b_M0_position 11 = .ok (.aload_n 0, 1) := by decide +kernel
theorem d_M0_position_12 : decode b_M0_position 12 = .ok (.getfield 68, 3) := by decide +kernel
theorem d_M0_position_15 : decode b_M0_position 15 = .ok (.aload_n 0, 1) := by decide +kernel
theorem d_M0_position_16 : decode b_M0_position 16 = .ok (.getfield 117, 3) := by decide +kernel
theorem d_M0_position_19 : decode b_M0_position 19 = .ok (.iconst 1, 1) := by decide +kernel
theorem d_M0_position_20 : decode b_M0_position 20 = .ok (.isub, 1) := by decide +kernel
theorem d_M0_position_21 : decode b_M0_position 21 = .ok (.iaload, 1) := by decide +kernel
theorem d_M0_position_22 : decode b_M0_position 22 = .ok (.ireturn, 1) := by decide +kernel
theorem d_M0_progress_0 : decode b_M0_progress 0 = .ok (.iconst 0, 1) := by decide +kernel
theorem d_M0_progress_1 : decode b_M0_progress 1 = .ok (.istore_n 1, 1) := by decide +kernel
theorem d_M0_progress_2 : decode b_M0_progress 2 = .ok (.iconst 0, 1) := by decide +kernel
theorem d_M0_progress_3 : decode b_M0_progress 3 = .ok (.istore_n 2, 1) := by decide +kernel
theorem d_M0_progress_4 : decode b_M0_progress 4 = .ok (.iload_n 2, 1) := by decide +kernel
theorem d_M0_progress_5 : decode b_M0_progress 5 = .ok (.aload_n 0, 1) := by decide +kernel
theorem d_M0_progress_6 : decode b_M0_progress 6 = .ok (.getfield 117, 3) := by decide +kernel
theorem d_M0_progress_9 : decode b_M0_progress 9 = .ok (.if_icmp .ge 36, 3) := by decide +kernel
theorem d_M0_progress_12 : decode b_M0_progress 12 = .ok (.aload_n 0, 1) := by decide +kernel
theorem d_M0_progress_13 : decode b_M0_progress 13 = .ok (.getfield 7, 3) := by decide +kernel
theorem d_M0_progress_16 : decode b_M0_progress 16 = .ok (.aload_n 0, 1) := by decide +kernel
theorem d_M0_progress_17 : decode b_M0_progress 17 = .ok (.getfield 68, 3) := by decide +kernel
theorem d_M0_progress_20 : decode b_M0_progress 20 = .ok (.iload_n 2, 1) := by decide +kernel
theorem d_M0_progress_21 : decode b_M0_progress 21 = .ok (.iaload, 1) := by decide +kernel
theorem d_M0_progress_22 : decode b_M0_progress 22 = .ok (.iaload, 1) := by decide +kernel
theorem d_M0_progress_23 : decode b_M0_progress 23 = .ok (.bipush 6, 2) := by decide +kernel
theorem d_M0_progress_25 : decode b_M0_progress 25 = .ok (.if_icmp .ne 12, 3) := by decide +kernel
theorem d_M0_progress_28 : decode b_M0_progress 28 = .ok (.iload_n 1, 1) := by decide +kernel
theorem d_M0_progress_29 : decode b_M0_progress 29 = .ok (.aload_n 0, 1) := by decide +kernel
theorem d_M0_progress_30 : decode b_M0_progress 30 = .ok (.getfield 77, 3) := by decide +kernel
theorem d_M0_progress_33 : decode b_M0_progress 33 = .ok (.iadd, 1) := by decide +kernel
theorem d_M0_progress_34 : decode b_M0_progress 34 = .ok (.goto 4, 3) := by decide +kernel
theorem d_M0_progress_37 : decode b_M0_progress 37 = .ok (.iload_n 1, 1) := by decide +kernel
theorem d_M0_progress_38 : decode b_M0_progress 38 = .ok (.istore_n 1, 1) := by decide +kernel
theorem d_M0_progress_39 : decode b_M0_progress 39 = .ok (.iinc 2 1, 3) := by decide +kernel
theorem d_M0_progress_42 : decode b_M0_progress 42 = .ok (.goto (-38), 3) := by decide +kernel
theorem d_M0_progress_45 : decode b_M0_progress 45 = .ok (.iload_n 1, 1) := by decide +kernel
theorem d_M0_progress_46 : decode b_M0_progress 46 = .ok (.aload_n 0, 1) := by decide +kernel
theorem d_M0_progress_47 : decode b_M0_progress 47 = .ok (.getfield 74, 3) := by decide +kernel
theorem d_M0_progress_50 : decode b_M0_progress 50 = .ok (.if_icmp .ge 7, 3) := by decide +kernel
theorem d_M0_progress_53 : decode b_M0_progress 53 = .ok (.iload_n 1, 1) := by decide +kernel
theorem d_M0_progress_54 : decode b_M0_progress 54 = .ok (.goto 7, 3) := by decide +kernel
theorem d_M0_progress_57 : decode b_M0_progress 57 = .ok (.aload_n 0, 1) := by decide +kernel
theorem d_M0_progress_58 : decode b_M0_progress 58 = .ok (.getfield 74, 3) := by decide +kernel
theorem d_M0_progress_61 : decode b_M0_progress 61 = .ok (.ireturn, 1) := by decide +kernel
theorem d_M0_begin_0 : decode b_M0_begin 0 = .ok (.aload_n 0, 1) := by decide +kernel
theorem d_M0_begin_1 : decode b_M0_begin 1 = .ok (.getfield 130, 3) := by decide +kernel
theorem d_M0_begin_4 : decode b_M0_begin 4 = .ok (.iconst 4, 1) := by decide +kernel
theorem d_M0_begin_5 : decode b_M0_begin 5 = .ok (.if_icmp .ge 12, 3) := by decide +kernel
theorem d_M0_begin_8 : decode b_M0_begin 8 = .ok (.aload_n 0, 1) := by decide +kernel
theorem d_M0_begin_9 : decode b_M0_begin 9 = .ok (.iconst 0, 1) := by decide +kernel
theorem d_M0_begin_10 : decode b_M0_begin 10 = .ok (.iconst 1, 1) := by decide +kernel
theorem d_M0_begin_11 : decode b_M0_begin 11 = .ok (.invokevirtual 136, 3) := by decide +kernel
theorem d_M0_begin_14 : decode b_M0_begin 14 = .ok (.ifCond .ne 6, 3) := by decide +kernel
theorem d_M0_begin_17 : decode b_M0_begin 17 = .ok (.bipush (-4), 2) := by decide +kernel
theorem d_M0_begin_19 : decode b_M0_begin 19 = .ok (.ireturn, 1) := by decide +kernel
theorem d_M0_begin_20 : decode b_M0_begin 20 = .ok (.aload_n 0, 1) := by decide +kernel
theorem d_M0_begin_21 : decode b_M0_begin 21 = .ok (.getfield 34, 3) := by decide +kernel
theorem d_M0_begin_24 : decode b_M0_begin 24 = .ok (.aload_n 0, 1) := by decide +kernel
theorem d_M0_begin_25 : decode b_M0_begin 25 = .ok (.getfield 130, 3) := by decide +kernel
theorem d_M0_begin_28 : decode b_M0_begin 28 = .ok (.aload_n 0, 1) := by decide +kernel
theorem d_M0_begin_29 : decode b_M0_begin 29 = .ok (.getfield 139, 3) := by decide +kernel
theorem d_M0_begin_32 : decode b_M0_begin 32 = .ok (.iastore, 1) := by decide +kernel
theorem d_M0_begin_33 : decode b_M0_begin 33 = .ok (.aload_n 0, 1) := by decide +kernel
theorem d_M0_begin_34 : decode b_M0_begin 34 = .ok (.dup, 1) := by decide +kernel
theorem d_M0_begin_35 : decode b_M0_begin 35 = .ok (.getfield 130, 3) := by decide +kernel
theorem d_M0_begin_38 : decode b_M0_begin 38 = .ok (.iconst 1, 1) := by decide +kernel
theorem d_M0_begin_39 : decode b_M0_begin 39 = .ok (.iadd, 1) := by decide +kernel
theorem d_M0_begin_40 : decode b_M0_begin 40 = .ok (.putfield 130, 3) := by decide +kernel
theorem d_M0_begin_43 : decode b_M0_begin 43 = .ok (.aload_n 0, 1) := by decide +kernel
theorem d_M0_begin_44 : decode b_M0_begin 44 = .ok (.dup, 1) := by decide +kernel
theorem d_M0_begin_45 : decode b_M0_begin 45 = .ok (.getfield 139, 3) := by decide +kernel
theorem d_M0_begin_48 : decode b_M0_begin 48 = .ok (.iconst 1, 1) := by decide +kernel
theorem d_M0_begin_49 : decode b_M0_begin 49 = .ok (.iadd, 1) := by decide +kernel
theorem d_M0_begin_50 : decode b_M0_begin 50 = .ok (.putfield 139, 3) := by decide +kernel
theorem d_M0_begin_53 : decode b_M0_begin 53 = .ok (.aload_n 0, 1) := by decide +kernel
theorem d_M0_begin_54 : decode b_M0_begin 54 = .ok (.getfield 139, 3) := by decide +kernel
theorem d_M0_begin_57 : decode b_M0_begin 57 = .ok (.iconst 1, 1) := by decide +kernel
theorem d_M0_begin_58 : decode b_M0_begin 58 = .ok (.isub, 1) := by decide +kernel
theorem d_M0_begin_59 : decode b_M0_begin 59 = .ok (.ireturn, 1) := by decide +kernel
theorem d_M0_room_0 : decode b_M0_room 0 = .ok (.sipush 160, 3) := by decide +kernel
theorem d_M0_room_3 : decode b_M0_room 3 = .ok (.aload_n 0, 1) := by decide +kernel
theorem d_M0_room_4 : decode b_M0_room 4 = .ok (.getfield 133, 3) := by decide +kernel
theorem d_M0_room_7 : decode b_M0_room 7 = .ok (.isub, 1) := by decide +kernel
theorem d_M0_room_8 : decode b_M0_room 8 = .ok (.iload_n 1, 1) := by decide +kernel
theorem d_M0_room_9 : decode b_M0_room 9 = .ok (.isub, 1) := by decide +kernel
theorem d_M0_room_10 : decode b_M0_room 10 = .ok (.aload_n 0, 1) := by decide +kernel
theorem d_M0_room_11 : decode b_M0_room 11 = .ok (.getfield 130, 3) := by decide +kernel
theorem d_M0_room_14 : decode b_M0_room 14 = .ok (.iload_n 2, 1) := by decide +kernel
theorem d_M0_room_15 : decode b_M0_room 15 = .ok (.iadd, 1) := by decide +kernel
theorem d_M0_room_16 : decode b_M0_room 16 = .ok (.if_icmp .lt 7, 3) := by decide +kernel
theorem d_M0_room_19 : decode b_M0_room 19 = .ok (.iconst 1, 1) := by decide +kernel
theorem d_M0_room_20 : decode b_M0_room 20 = .ok (.goto 4, 3) := by decide +kernel
theorem d_M0_room_23 : decode b_M0_room 23 = .ok (.iconst 0, 1) := by decide +kernel
theorem d_M0_room_24 : decode b_M0_room 24 = .ok (.ireturn, 1) := by decide +kernel
theorem d_M0_lock_0 : decode b_M0_lock 0 = .ok (.aload_n 0, 1) := by decide +kernel
theorem d_M0_lock_1 : decode b_M0_lock 1 = .ok (.iload_n 1, 1) := by decide +kernel
theorem d_M0_lock_2 : decode b_M0_lock 2 = .ok (.invokevirtual 142, 3) := by decide +kernel
theorem d_M0_lock_5 : decode b_M0_lock 5 = .ok (.ifCond .eq 11, 3) := by decide +kernel
theorem d_M0_lock_8 : decode b_M0_lock 8 = .ok (.aload_n 0, 1) := by decide +kernel
theorem d_M0_lock_9 : decode b_M0_lock 9 = .ok (.iload_n 2, 1) := by decide +kernel
theorem d_M0_lock_10 : decode b_M0_lock 10 = .ok (.invokevirtual 113, 3) := by decide +kernel
theorem d_M0_lock_13 : decode b_M0_lock 13 = .ok (.ifCond .ne 6, 3) := by decide +kernel
theorem d_M0_lock_16 : decode b_M0_lock 16 = .ok (.bipush (-2), 2) := by decide +kernel
theorem d_M0_lock_18 : decode b_M0_lock 18 = .ok (.ireturn, 1) := by decide +kernel
theorem d_M0_lock_19 : decode b_M0_lock 19 = .ok (.aload_n 0, 1) := by decide +kernel
theorem d_M0_lock_20 : decode b_M0_lock 20 = .ok (.iload_n 1, 1) := by decide +kernel
theorem d_M0_lock_21 : decode b_M0_lock 21 = .ok (.iload_n 2, 1) := by decide +kernel
theorem d_M0_lock_22 : decode b_M0_lock 22 = .ok (.invokevirtual 145, 3) := by decide +kernel
theorem d_M0_lock_25 : decode b_M0_lock 25 = .ok (.ifCond .eq 6, 3) := by decide +kernel
theorem d_M0_lock_28 : decode b_M0_lock 28 = .ok (.bipush (-3), 2) := by decide +kernel
theorem d_M0_lock_30 : decode b_M0_lock 30 = .ok (.ireturn, 1) := by decide +kernel
theorem d_M0_lock_31 : decode b_M0_lock 31 = .ok (.aload_n 0, 1) := by decide +kernel
theorem d_M0_lock_32 : decode b_M0_lock 32 = .ok (.getfield 37, 3) := by decide +kernel
theorem d_M0_lock_35 : decode b_M0_lock 35 = .ok (.iload_n 2, 1) := by decide +kernel
theorem d_M0_lock_36 : decode b_M0_lock 36 = .ok (.iload_n 1, 1) := by decide +kernel
theorem d_M0_lock_37 : decode b_M0_lock 37 = .ok (.iastore, 1) := by decide +kernel
theorem d_M0_lock_38 : decode b_M0_lock 38 = .ok (.iconst 0, 1) := by decide +kernel
theorem d_M0_lock_39 : decode b_M0_lock 39 = .ok (.ireturn, 1) := by decide +kernel
theorem d_M0_isOpen_0 : decode b_M0_isOpen 0 = .ok (.iconst 0, 1) := by decide +kernel
theorem d_M0_isOpen_1 : decode b_M0_isOpen 1 = .ok (.istore_n 2, 1) := by decide +kernel
theorem d_M0_isOpen_2 : decode b_M0_isOpen 2 = .ok (.iconst 0, 1) := by decide +kernel
theorem d_M0_isOpen_3 : decode b_M0_isOpen 3 = .ok (.istore_n 3, 1) := by decide +kernel
theorem d_M0_isOpen_4 : decode b_M0_isOpen 4 = .ok (.iload_n 3, 1) := by decide +kernel
theorem d_M0_isOpen_5 : decode b_M0_isOpen 5 = .ok (.aload_n 0, 1) := by decide +kernel
theorem d_M0_isOpen_6 : decode b_M0_isOpen 6 = .ok (.getfield 130, 3) := by decide +kernel
theorem d_M0_isOpen_9 : decode b_M0_isOpen 9 = .ok (.if_icmp .ge 29, 3) := by decide +kernel
theorem d_M0_isOpen_12 : decode b_M0_isOpen 12 = .ok (.iload_n 2, 1) := by decide +kernel
theorem d_M0_isOpen_13 : decode b_M0_isOpen 13 = .ok (.ifCond .ne 13, 3) := by decide +kernel
theorem d_M0_isOpen_16 : decode b_M0_isOpen 16 = .ok (.aload_n 0, 1) := by decide +kernel
theorem d_M0_isOpen_17 : decode b_M0_isOpen 17 = .ok (.getfield 34, 3) := by decide +kernel
theorem d_M0_isOpen_20 : decode b_M0_isOpen 20 = .ok (.iload_n 3, 1) := by decide +kernel
theorem d_M0_isOpen_21 : decode b_M0_isOpen 21 = .ok (.iaload, 1) := by decide +kernel
theorem d_M0_isOpen_22 : decode b_M0_isOpen 22 = .ok (.iload_n 1, 1) := by decide +kernel
theorem d_M0_isOpen_23 : decode b_M0_isOpen 23 = .ok (.if_icmp .ne 7, 3) := by decide +kernel
theorem d_M0_isOpen_26 : decode b_M0_isOpen 26 = .ok (.iconst 1, 1) := by decide +kernel
theorem d_M0_isOpen_27 : decode b_M0_isOpen 27 = .ok (.goto 4, 3) := by decide +kernel
theorem d_M0_isOpen_30 : decode b_M0_isOpen 30 = .ok (.iconst 0, 1) := by decide +kernel
theorem d_M0_isOpen_31 : decode b_M0_isOpen 31 = .ok (.istore_n 2, 1) := by decide +kernel
theorem d_M0_isOpen_32 : decode b_M0_isOpen 32 = .ok (.iinc 3 1, 3) := by decide +kernel
theorem d_M0_isOpen_35 : decode b_M0_isOpen 35 = .ok (.goto (-31), 3) := by decide +kernel
theorem d_M0_isOpen_38 : decode b_M0_isOpen 38 = .ok (.iload_n 2, 1) := by decide +kernel
theorem d_M0_isOpen_39 : decode b_M0_isOpen 39 = .ok (.ireturn, 1) := by decide +kernel
theorem d_M0_lockedFor_0 : decode b_M0_lockedFor 0 = .ok (.aload_n 0, 1) := by decide +kernel
theorem d_M0_lockedFor_1 : decode b_M0_lockedFor 1 = .ok (.getfield 37, 3) := by decide +kernel
theorem d_M0_lockedFor_4 : decode b_M0_lockedFor 4 = .ok (.iload_n 2, 1) := by decide +kernel
theorem d_M0_lockedFor_5 : decode b_M0_lockedFor 5 = .ok (.iaload, 1) := by decide +kernel
theorem d_M0_lockedFor_6 : decode b_M0_lockedFor 6 = .ok (.ifCond .lt 17, 3) := by decide +kernel
theorem d_M0_lockedFor_9 : decode b_M0_lockedFor 9 = .ok (.aload_n 0, 1) := by decide +kernel
theorem d_M0_lockedFor_10 : decode b_M0_lockedFor 10 = .ok (.getfield 37, 3) := by decide +kernel
theorem d_M0_lockedFor_13 : decode b_M0_lockedFor 13 = .ok (.iload_n 2, 1) := by decide +kernel
theorem d_M0_lockedFor_14 : decode b_M0_lockedFor 14 = .ok (.iaload, 1) := by decide +kernel
theorem d_M0_lockedFor_15 : decode b_M0_lockedFor 15 = .ok (.iload_n 1, 1) := by decide +kernel
theorem d_M0_lockedFor_16 : decode b_M0_lockedFor 16 = .ok (.if_icmp .eq 7, 3) := by decide +kernel
theorem d_M0_lockedFor_19 : decode b_M0_lockedFor 19 = .ok (.iconst 1, 1) := by decide +kernel
theorem d_M0_lockedFor_20 : decode b_M0_lockedFor 20 = .ok (.goto 4, 3) := by decide +kernel
theorem d_M0_lockedFor_23 : decode b_M0_lockedFor 23 = .ok (.iconst 0, 1) := by decide +kernel
theorem d_M0_lockedFor_24 : decode b_M0_lockedFor 24 = .ok (.ireturn, 1) := by decide +kernel
theorem d_M0_put_0 : decode b_M0_put 0 = .ok (.aload_n 0, 1) := by decide +kernel
theorem d_M0_put_1 : decode b_M0_put 1 = .ok (.iload_n 1, 1) := by decide +kernel
theorem d_M0_put_2 : decode b_M0_put 2 = .ok (.invokevirtual 142, 3) := by decide +kernel
theorem d_M0_put_5 : decode b_M0_put 5 = .ok (.ifCond .eq 20, 3) := by decide +kernel
theorem d_M0_put_8 : decode b_M0_put 8 = .ok (.aload_n 0, 1) := by decide +kernel
theorem d_M0_put_9 : decode b_M0_put 9 = .ok (.iload_n 2, 1) := by decide +kernel
theorem d_M0_put_10 : decode b_M0_put 10 = .ok (.invokevirtual 113, 3) := by decide +kernel
theorem d_M0_put_13 : decode b_M0_put 13 = .ok (.ifCond .eq 12, 3) := by decide +kernel
theorem d_M0_put_16 : decode b_M0_put 16 = .ok (.iload_n 3, 1) := by decide +kernel
theorem d_M0_put_17 : decode b_M0_put 17 = .ok (.ifCond .lt 8, 3) := by decide +kernel
theorem d_M0_put_20 : decode b_M0_put 20 = .ok (.iload_n 3, 1) := by decide +kernel
theorem d_M0_put_21 : decode b_M0_put 21 = .ok (.iconst 3, 1) := by decide +kernel
theorem d_M0_put_22 : decode b_M0_put 22 = .ok (.if_icmp .le 6, 3) := by decide +kernel
theorem d_M0_put_25 : decode b_M0_put 25 = .ok (.bipush (-2), 2) := by decide +kernel
theorem d_M0_put_27 : decode b_M0_put 27 = .ok (.ireturn, 1) := by decide +kernel
theorem d_M0_put_28 : decode b_M0_put 28 = .ok (.aload_n 0, 1) := by decide +kernel
theorem d_M0_put_29 : decode b_M0_put 29 = .ok (.iload_n 1, 1) := by decide +kernel
theorem d_M0_put_30 : decode b_M0_put 30 = .ok (.iload_n 2, 1) := by decide +kernel
theorem d_M0_put_31 : decode b_M0_put 31 = .ok (.invokevirtual 145, 3) := by decide +kernel
theorem d_M0_put_34 : decode b_M0_put 34 = .ok (.ifCond .eq 6, 3) := by decide +kernel
theorem d_M0_put_37 : decode b_M0_put 37 = .ok (.bipush (-3), 2) := by decide +kernel
theorem d_M0_put_39 : decode b_M0_put 39 = .ok (.ireturn, 1) := by decide +kernel
theorem d_M0_put_40 : decode b_M0_put 40 = .ok (.aload_n 0, 1) := by decide +kernel
theorem d_M0_put_41 : decode b_M0_put 41 = .ok (.iconst 1, 1) := by decide +kernel
theorem d_M0_put_42 : decode b_M0_put 42 = .ok (.iconst 0, 1) := by decide +kernel
theorem d_M0_put_43 : decode b_M0_put 43 = .ok (.invokevirtual 136, 3) := by decide +kernel
theorem d_M0_put_46 : decode b_M0_put 46 = .ok (.ifCond .ne 6, 3) := by decide +kernel
theorem d_M0_put_49 : decode b_M0_put 49 = .ok (.bipush (-4), 2) := by decide +kernel
theorem d_M0_put_51 : decode b_M0_put 51 = .ok (.ireturn, 1) := by decide +kernel
theorem d_M0_put_52 : decode b_M0_put 52 = .ok (.aload_n 0, 1) := by decide +kernel
theorem d_M0_put_53 : decode b_M0_put 53 = .ok (.iconst 1, 1) := by decide +kernel
theorem d_M0_put_54 : decode b_M0_put 54 = .ok (.iload_n 1, 1) := by decide +kernel
theorem d_M0_put_55 : decode b_M0_put 55 = .ok (.iload_n 2, 1) := by decide +kernel
theorem d_M0_put_56 : decode b_M0_put 56 = .ok (.invokevirtual 148, 3) := by decide +kernel
theorem d_M0_put_59 : decode b_M0_put 59 = .ok (.istore 5, 2) := by decide +kernel
theorem d_M0_put_61 : decode b_M0_put 61 = .ok (.aload_n 0, 1) := by decide +kernel
theorem d_M0_put_62 : decode b_M0_put 62 = .ok (.getfield 19, 3) := by decide +kernel
theorem d_M0_put_65 : decode b_M0_put 65 = .ok (.iload 5, 2) := by decide +kernel
theorem d_M0_put_67 : decode b_M0_put 67 = .ok (.iload_n 3, 1) := by decide +kernel
theorem d_M0_put_68 : decode b_M0_put 68 = .ok (.iastore, 1) := by decide +kernel
theorem d_M0_put_69 : decode b_M0_put 69 = .ok (.aload_n 0, 1) := by decide +kernel
theorem d_M0_put_70 : decode b_M0_put 70 = .ok (.getfield 22, 3) := by decide +kernel
theorem d_M0_put_73 : decode b_M0_put 73 = .ok (.iload 5, 2) := by decide +kernel
theorem d_M0_put_75 : decode b_M0_put 75 = .ok (.iload 4, 2) := by decide +kernel
theorem d_M0_put_77 : decode b_M0_put 77 = .ok (.iastore, 1) := by decide +kernel
theorem d_M0_put_78 : decode b_M0_put 78 = .ok (.aload_n 0, 1) := by decide +kernel
theorem d_M0_put_79 : decode b_M0_put 79 = .ok (.getfield 37, 3) := by decide +kernel
theorem d_M0_put_82 : decode b_M0_put 82 = .ok (.iload_n 2, 1) := by decide +kernel
theorem d_M0_put_83 : decode b_M0_put 83 = .ok (.iload_n 1, 1) := by decide +kernel
theorem d_M0_put_84 : decode b_M0_put 84 = .ok (.iastore, 1) := by decide +kernel
theorem d_M0_put_85 : decode b_M0_put 85 = .ok (.iconst 0, 1) := by decide +kernel
theorem d_M0_put_86 : decode b_M0_put 86 = .ok (.ireturn, 1) := by decide +kernel
theorem d_M0_write_0 : decode b_M0_write 0 = .ok (.aload_n 0, 1) := by decide +kernel
theorem d_M0_write_1 : decode b_M0_write 1 = .ok (.getfield 7, 3) := by decide +kernel
theorem d_M0_write_4 : decode b_M0_write 4 = .ok (.aload_n 0, 1) := by decide +kernel
theorem d_M0_write_5 : decode b_M0_write 5 = .ok (.getfield 133, 3) := by decide +kernel
theorem d_M0_write_8 : decode b_M0_write 8 = .ok (.iload_n 1, 1) := by decide +kernel
theorem d_M0_write_9 : decode b_M0_write 9 = .ok (.iastore, 1) := by decide +kernel
theorem d_M0_write_10 : decode b_M0_write 10 = .ok (.aload_n 0, 1) := by decide +kernel
theorem d_M0_write_11 : decode b_M0_write 11 = .ok (.getfield 13, 3) := by decide +kernel
theorem d_M0_write_14 : decode b_M0_write 14 = .ok (.aload_n 0, 1) := by decide +kernel
theorem d_M0_write_15 : decode b_M0_write 15 = .ok (.getfield 133, 3) := by decide +kernel
theorem d_M0_write_18 : decode b_M0_write 18 = .ok (.iload_n 2, 1) := by decide +kernel
theorem d_M0_write_19 : decode b_M0_write 19 = .ok (.iastore, 1) := by decide +kernel
theorem d_M0_write_20 : decode b_M0_write 20 = .ok (.aload_n 0, 1) := by decide +kernel
theorem d_M0_write_21 : decode b_M0_write 21 = .ok (.getfield 16, 3) := by decide +kernel
theorem d_M0_write_24 : decode b_M0_write 24 = .ok (.aload_n 0, 1) := by decide +kernel
theorem d_M0_write_25 : decode b_M0_write 25 = .ok (.getfield 133, 3) := by decide +kernel
theorem d_M0_write_28 : decode b_M0_write 28 = .ok (.iload_n 3, 1) := by decide +kernel
theorem d_M0_write_29 : decode b_M0_write 29 = .ok (.iastore, 1) := by decide +kernel
theorem d_M0_write_30 : decode b_M0_write 30 = .ok (.aload_n 0, 1) := by decide +kernel
theorem d_M0_write_31 : decode b_M0_write 31 = .ok (.dup, 1) := by decide +kernel
theorem d_M0_write_32 : decode b_M0_write 32 = .ok (.getfield 133, 3) := by decide +kernel
theorem d_M0_write_35 : decode b_M0_write 35 = .ok (.iconst 1, 1) := by decide +kernel
theorem d_M0_write_36 : decode b_M0_write 36 = .ok (.iadd, 1) := by decide +kernel
theorem d_M0_write_37 : decode b_M0_write 37 = .ok (.putfield 133, 3) := by decide +kernel
theorem d_M0_write_40 : decode b_M0_write 40 = .ok (.aload_n 0, 1) := by decide +kernel
theorem d_M0_write_41 : decode b_M0_write 41 = .ok (.getfield 133, 3) := by decide +kernel
theorem d_M0_write_44 : decode b_M0_write 44 = .ok (.iconst 1, 1) := by decide +kernel
theorem d_M0_write_45 : decode b_M0_write 45 = .ok (.isub, 1) := by decide +kernel
theorem d_M0_write_46 : decode b_M0_write 46 = .ok (.ireturn, 1) := by decide +kernel
theorem d_M0_remove_0 : decode b_M0_remove 0 = .ok (.aload_n 0, 1) := by decide +kernel
theorem d_M0_remove_1 : decode b_M0_remove 1 = .ok (.iload_n 1, 1) := by decide +kernel
theorem d_M0_remove_2 : decode b_M0_remove 2 = .ok (.invokevirtual 142, 3) := by decide +kernel
theorem d_M0_remove_5 : decode b_M0_remove 5 = .ok (.ifCond .eq 11, 3) := by decide +kernel
theorem d_M0_remove_8 : decode b_M0_remove 8 = .ok (.aload_n 0, 1) := by decide +kernel
theorem d_M0_remove_9 : decode b_M0_remove 9 = .ok (.iload_n 2, 1) := by decide +kernel
theorem d_M0_remove_10 : decode b_M0_remove 10 = .ok (.invokevirtual 113, 3) := by decide +kernel
theorem d_M0_remove_13 : decode b_M0_remove 13 = .ok (.ifCond .ne 6, 3) := by decide +kernel
theorem d_M0_remove_16 : decode b_M0_remove 16 = .ok (.bipush (-2), 2) := by decide +kernel
theorem d_M0_remove_18 : decode b_M0_remove 18 = .ok (.ireturn, 1) := by decide +kernel
theorem d_M0_remove_19 : decode b_M0_remove 19 = .ok (.aload_n 0, 1) := by decide +kernel
theorem d_M0_remove_20 : decode b_M0_remove 20 = .ok (.iload_n 1, 1) := by decide +kernel
theorem d_M0_remove_21 : decode b_M0_remove 21 = .ok (.iload_n 2, 1) := by decide +kernel
theorem d_M0_remove_22 : decode b_M0_remove 22 = .ok (.invokevirtual 145, 3) := by decide +kernel
theorem d_M0_remove_25 : decode b_M0_remove 25 = .ok (.ifCond .eq 6, 3) := by decide +kernel
theorem d_M0_remove_28 : decode b_M0_remove 28 = .ok (.bipush (-3), 2) := by decide +kernel
theorem d_M0_remove_30 : decode b_M0_remove 30 = .ok (.ireturn, 1) := by decide +kernel
theorem d_M0_remove_31 : decode b_M0_remove 31 = .ok (.aload_n 0, 1) := by decide +kernel
theorem d_M0_remove_32 : decode b_M0_remove 32 = .ok (.iload_n 1, 1) := by decide +kernel
theorem d_M0_remove_33 : decode b_M0_remove 33 = .ok (.iload_n 2, 1) := by decide +kernel
theorem d_M0_remove_34 : decode b_M0_remove 34 = .ok (.invokevirtual 151, 3) := by decide +kernel
theorem d_M0_remove_37 : decode b_M0_remove 37 = .ok (.lconst 0, 1) := by decide +kernel
theorem d_M0_remove_38 : decode b_M0_remove 38 = .ok (.lcmp, 1) := by decide +kernel
theorem d_M0_remove_39 : decode b_M0_remove 39 = .ok (.ifCond .ge 6, 3) := by decide +kernel
theorem d_M0_remove_42 : decode b_M0_remove 42 = .ok (.bipush (-2), 2) := by decide +kernel
theorem d_M0_remove_44 : decode b_M0_remove 44 = .ok (.ireturn, 1) := by decide +kernel
theorem d_M0_remove_45 : decode b_M0_remove 45 = .ok (.aload_n 0, 1) := by decide +kernel
theorem d_M0_remove_46 : decode b_M0_remove 46 = .ok (.iconst 1, 1) := by decide +kernel
theorem d_M0_remove_47 : decode b_M0_remove 47 = .ok (.iconst 0, 1) := by decide +kernel
theorem d_M0_remove_48 : decode b_M0_remove 48 = .ok (.invokevirtual 136, 3) := by decide +kernel
theorem d_M0_remove_51 : decode b_M0_remove 51 = .ok (.ifCond .ne 6, 3) := by decide +kernel
theorem d_M0_remove_54 : decode b_M0_remove 54 = .ok (.bipush (-4), 2) := by decide +kernel
theorem d_M0_remove_56 : decode b_M0_remove 56 = .ok (.ireturn, 1) := by decide +kernel
theorem d_M0_remove_57 : decode b_M0_remove 57 = .ok (.aload_n 0, 1) := by decide +kernel
theorem d_M0_remove_58 : decode b_M0_remove 58 = .ok (.iconst 2, 1) := by decide +kernel
theorem d_M0_remove_59 : decode b_M0_remove 59 = .ok (.iload_n 1, 1) := by decide +kernel
theorem d_M0_remove_60 : decode b_M0_remove 60 = .ok (.iload_n 2, 1) := by decide +kernel
theorem d_M0_remove_61 : decode b_M0_remove 61 = .ok (.invokevirtual 148, 3) := by decide +kernel
theorem d_M0_remove_64 : decode b_M0_remove 64 = .ok (.istore_n 3, 1) := by decide +kernel
theorem d_M0_remove_65 : decode b_M0_remove 65 = .ok (.aload_n 0, 1) := by decide +kernel
theorem d_M0_remove_66 : decode b_M0_remove 66 = .ok (.getfield 37, 3) := by decide +kernel
theorem d_M0_remove_69 : decode b_M0_remove 69 = .ok (.aload_n 0, 1) := by decide +kernel
theorem d_M0_remove_70 : decode b_M0_remove 70 = .ok (.getfield 16, 3) := by decide +kernel
theorem d_M0_remove_73 : decode b_M0_remove 73 = .ok (.iload_n 3, 1) := by decide +kernel
theorem d_M0_remove_74 : decode b_M0_remove 74 = .ok (.iaload, 1) := by decide +kernel
theorem d_M0_remove_75 : decode b_M0_remove 75 = .ok (.iload_n 1, 1) := by decide +kernel
theorem d_M0_remove_76 : decode b_M0_remove 76 = .ok (.iastore, 1) := by decide +kernel
theorem d_M0_remove_77 : decode b_M0_remove 77 = .ok (.iconst 0, 1) := by decide +kernel
theorem d_M0_remove_78 : decode b_M0_remove 78 = .ok (.ireturn, 1) := by decide +kernel
theorem d_M0_row_0 : decode b_M0_row 0 = .ok (.aload_n 0, 1) := by decide +kernel
theorem d_M0_row_1 : decode b_M0_row 1 = .ok (.iload_n 2, 1) := by decide +kernel
theorem d_M0_row_2 : decode b_M0_row 2 = .ok (.invokevirtual 113, 3) := by decide +kernel
theorem d_M0_row_5 : decode b_M0_row 5 = .ok (.ifCond .eq 16, 3) := by decide +kernel
theorem d_M0_row_8 : decode b_M0_row 8 = .ok (.iload_n 1, 1) := by decide +kernel
theorem d_M0_row_9 : decode b_M0_row 9 = .ok (.iconst (-1), 1) := by decide +kernel
theorem d_M0_row_10 : decode b_M0_row 10 = .ok (.if_icmp .eq 15, 3) := by decide +kernel
theorem d_M0_row_13 : decode b_M0_row 13 = .ok (.aload_n 0, 1) := by decide +kernel
theorem d_M0_row_14 : decode b_M0_row 14 = .ok (.iload_n 1, 1) := by decide +kernel
theorem d_M0_row_15 : decode b_M0_row 15 = .ok (.invokevirtual 142, 3) := by decide +kernel
theorem d_M0_row_18 : decode b_M0_row 18 = .ok (.ifCond .ne 7, 3) := by decide +kernel
theorem d_M0_row_21 : decode b_M0_row 21 = .ok (.ldc2_w 92, 3) := by decide +kernel
theorem d_M0_row_24 : decode b_M0_row 24 = .ok (.lreturn, 1) := by decide +kernel
theorem d_M0_row_25 : decode b_M0_row 25 = .ok (.iload_n 1, 1) := by decide +kernel
theorem d_M0_row_26 : decode b_M0_row 26 = .ok (.ifCond .ge 7, 3) := by decide +kernel
theorem d_M0_row_29 : decode b_M0_row 29 = .ok (.iconst (-1), 1) := by decide +kernel
theorem d_M0_row_30 : decode b_M0_row 30 = .ok (.goto 13, 3) := by decide +kernel
theorem d_M0_row_33 : decode b_M0_row 33 = .ok (.aload_n 0, 1) := by decide +kernel
theorem d_M0_row_34 : decode b_M0_row 34 = .ok (.iload_n 1, 1) := by decide +kernel
theorem d_M0_row_35 : decode b_M0_row 35 = .ok (.iload_n 2, 1) := by decide +kernel
theorem d_M0_row_36 : decode b_M0_row 36 = .ok (.aload_n 0, 1) := by decide +kernel
theorem d_M0_row_37 : decode b_M0_row 37 = .ok (.getfield 133, 3) := by decide +kernel
theorem d_M0_row_40 : decode b_M0_row 40 = .ok (.invokevirtual 94, 3) := by decide +kernel
theorem d_M0_row_43 : decode b_M0_row 43 = .ok (.istore_n 3, 1) := by decide +kernel
theorem d_M0_row_44 : decode b_M0_row 44 = .ok (.iload_n 3, 1) := by decide +kernel
theorem d_M0_row_45 : decode b_M0_row 45 = .ok (.ifCond .ge 15, 3) := by decide +kernel
theorem d_M0_row_48 : decode b_M0_row 48 = .ok (.aload_n 0, 1) := by decide +kernel
theorem d_M0_row_49 : decode b_M0_row 49 = .ok (.iload_n 2, 1) := by decide +kernel
theorem d_M0_row_50 : decode b_M0_row 50 = .ok (.aload_n 0, 1) := by decide +kernel
theorem d_M0_row_51 : decode b_M0_row 51 = .ok (.getfield 133, 3) := by decide +kernel
theorem d_M0_row_54 : decode b_M0_row 54 = .ok (.invokevirtual 106, 3) := by decide +kernel
theorem d_M0_row_57 : decode b_M0_row 57 = .ok (.goto 8, 3) := by decide +kernel
theorem d_M0_row_60 : decode b_M0_row 60 = .ok (.aload_n 0, 1) := by decide +kernel
theorem d_M0_row_61 : decode b_M0_row 61 = .ok (.iload_n 3, 1) := by decide +kernel
theorem d_M0_row_62 : decode b_M0_row 62 = .ok (.invokevirtual 98, 3) := by decide +kernel
theorem d_M0_row_65 : decode b_M0_row 65 = .ok (.lreturn, 1) := by decide +kernel
theorem d_M0_end_0 : decode b_M0_end 0 = .ok (.aload_n 0, 1) := by decide +kernel
theorem d_M0_end_1 : decode b_M0_end 1 = .ok (.iload_n 1, 1) := by decide +kernel
