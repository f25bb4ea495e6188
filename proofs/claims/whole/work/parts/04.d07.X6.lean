theorem d_X6_init_0 : decode b_X6_init 0 = .ok (.aload_n 0, 1) := by decide +kernel
theorem d_X6_init_1 : decode b_X6_init 1 = .ok (.invokespecial 3, 3) := by decide +kernel
theorem d_X6_init_4 : decode b_X6_init 4 = .ok (.aload_n 0, 1) := by decide +kernel
theorem d_X6_init_5 : decode b_X6_init 5 = .ok (.iconst 0, 1) := by decide +kernel
theorem d_X6_init_6 : decode b_X6_init 6 = .ok (.putfield 11, 3) := by decide +kernel
theorem d_X6_init_9 : decode b_X6_init 9 = .ok (.aload_n 0, 1) := by decide +kernel
theorem d_X6_init_10 : decode b_X6_init 10 = .ok (.iconst (-1), 1) := by decide +kernel
theorem d_X6_init_11 : decode b_X6_init 11 = .ok (.putfield 15, 3) := by decide +kernel
theorem d_X6_init_14 : decode b_X6_init 14 = .ok (.aload_n 0, 1) := by decide +kernel
theorem d_X6_init_15 : decode b_X6_init 15 = .ok (.iconst (-1), 1) := by decide +kernel
theorem d_X6_init_16 : decode b_X6_init 16 = .ok (.putfield 18, 3) := by decide +kernel
theorem d_X6_init_19 : decode b_X6_init 19 = .ok (.aload_n 0, 1) := by decide +kernel
theorem d_X6_init_20 : decode b_X6_init 20 = .ok (.iload_n 1, 1) := by decide +kernel
theorem d_X6_init_21 : decode b_X6_init 21 = .ok (.newarray .long, 2) := by decide +kernel
theorem d_X6_init_23 : decode b_X6_init 23 = .ok (.putfield 21, 3) := by decide +kernel
theorem d_X6_init_26 : decode b_X6_init 26 = .ok (.aload_n 0, 1) := by decide +kernel
theorem d_X6_init_27 : decode b_X6_init 27 = .ok (.iload_n 1, 1) := by decide +kernel
theorem d_X6_init_28 : decode b_X6_init 28 = .ok (.newarray .boolean, 2) := by decide +kernel
theorem d_X6_init_30 : decode b_X6_init 30 = .ok (.putfield 25, 3) := by decide +kernel
theorem d_X6_init_33 : decode b_X6_init 33 = .ok (.return_, 1) := by decide +kernel
theorem d_X6_stop_0 : decode b_X6_stop 0 = .ok (.aload_n 0, 1) := by decide +kernel
theorem d_X6_stop_1 : decode b_X6_stop 1 = .ok (.iconst 0, 1) := by decide +kernel
theorem d_X6_stop_2 : decode b_X6_stop 2 = .ok (.putfield 11, 3) := by decide +kernel
theorem d_X6_stop_5 : decode b_X6_stop 5 = .ok (.return_, 1) := by decide +kernel
theorem d_X6_start_0 : decode b_X6_start 0 = .ok (.aload_n 0, 1) := by decide +kernel
theorem d_X6_start_1 : decode b_X6_start 1 = .ok (.iconst 1, 1) := by decide +kernel
theorem d_X6_start_2 : decode b_X6_start 2 = .ok (.putfield 11, 3) := by decide +kernel
theorem d_X6_start_5 : decode b_X6_start 5 = .ok (.aload_n 0, 1) := by decide +kernel
theorem d_X6_start_6 : decode b_X6_start 6 = .ok (.iload_n 1, 1) := by decide +kernel
theorem d_X6_start_7 : decode b_X6_start 7 = .ok (.putfield 15, 3) := by decide +kernel
theorem d_X6_start_10 : decode b_X6_start 10 = .ok (.iconst 0, 1) := by decide +kernel
theorem d_X6_start_11 : decode b_X6_start 11 = .ok (.istore_n 2, 1) := by decide +kernel
theorem d_X6_start_12 : decode b_X6_start 12 = .ok (.iload_n 2, 1) := by decide +kernel
theorem d_X6_start_13 : decode b_X6_start 13 = .ok (.aload_n 0, 1) := by decide +kernel
theorem d_X6_start_14 : decode b_X6_start 14 = .ok (.getfield 25, 3) := by decide +kernel
theorem d_X6_start_17 : decode b_X6_start 17 = .ok (.arraylength, 1) := by decide +kernel
theorem d_X6_start_18 : decode b_X6_start 18 = .ok (.if_icmp .ge 16, 3) := by decide +kernel
theorem d_X6_start_21 : decode b_X6_start 21 = .ok (.aload_n 0, 1) := by decide +kernel
theorem d_X6_start_22 : decode b_X6_start 22 = .ok (.getfield 25, 3) := by decide +kernel
theorem d_X6_start_25 : decode b_X6_start 25 = .ok (.iload_n 2, 1) := by decide +kernel
theorem d_X6_start_26 : decode b_X6_start 26 = .ok (.iconst 0, 1) := by decide +kernel
theorem d_X6_start_27 : decode b_X6_start 27 = .ok (.bastore, 1) := by decide +kernel
theorem d_X6_start_28 : decode b_X6_start 28 = .ok (.iinc 2 1, 3) := by decide +kernel
theorem d_X6_start_31 : decode b_X6_start 31 = .ok (.goto (-19), 3) := by decide +kernel
theorem d_X6_start_34 : decode b_X6_start 34 = .ok (.return_, 1) := by decide +kernel
theorem d_X6_select_0 : decode b_X6_select 0 = .ok (.aload_n 0, 1) := by decide +kernel
theorem d_X6_select_1 : decode b_X6_select 1 = .ok (.iconst 2, 1) := by decide +kernel
theorem d_X6_select_2 : decode b_X6_select 2 = .ok (.putfield 11, 3) := by decide +kernel
theorem d_X6_select_5 : decode b_X6_select 5 = .ok (.iload_n 2, 1) := by decide +kernel
theorem d_X6_select_6 : decode b_X6_select 6 = .ok (.istore 4, 2) := by decide +kernel
theorem d_X6_select_8 : decode b_X6_select 8 = .ok (.iload 4, 2) := by decide +kernel
theorem d_X6_select_10 : decode b_X6_select 10 = .ok (.iload_n 3, 1) := by decide +kernel
theorem d_X6_select_11 : decode b_X6_select 11 = .ok (.if_icmp .ge 22, 3) := by decide +kernel
theorem d_X6_select_14 : decode b_X6_select 14 = .ok (.aload_n 0, 1) := by decide +kernel
theorem d_X6_select_15 : decode b_X6_select 15 = .ok (.getfield 21, 3) := by decide +kernel
theorem d_X6_select_18 : decode b_X6_select 18 = .ok (.iload 4, 2) := by decide +kernel
theorem d_X6_select_20 : decode b_X6_select 20 = .ok (.aload_n 1, 1) := by decide +kernel
theorem d_X6_select_21 : decode b_X6_select 21 = .ok (.iload 4, 2) := by decide +kernel
theorem d_X6_select_23 : decode b_X6_select 23 = .ok (.invokevirtual 29, 3) := by decide +kernel
theorem d_X6_select_26 : decode b_X6_select 26 = .ok (.lastore, 1) := by decide +kernel
theorem d_X6_select_27 : decode b_X6_select 27 = .ok (.iinc 4 1, 3) := by decide +kernel
theorem d_X6_select_30 : decode b_X6_select 30 = .ok (.goto (-22), 3) := by decide +kernel
theorem d_X6_select_33 : decode b_X6_select 33 = .ok (.return_, 1) := by decide +kernel
theorem d_X6_close_0 : decode b_X6_close 0 = .ok (.aload_n 0, 1) := by decide +kernel
theorem d_X6_close_1 : decode b_X6_close 1 = .ok (.iconst 3, 1) := by decide +kernel
theorem d_X6_close_2 : decode b_X6_close 2 = .ok (.putfield 11, 3) := by decide +kernel
theorem d_X6_close_5 : decode b_X6_close 5 = .ok (.aload_n 0, 1) := by decide +kernel
theorem d_X6_close_6 : decode b_X6_close 6 = .ok (.iload_n 1, 1) := by decide +kernel
theorem d_X6_close_7 : decode b_X6_close 7 = .ok (.putfield 18, 3) := by decide +kernel
theorem d_X6_close_10 : decode b_X6_close 10 = .ok (.return_, 1) := by decide +kernel
theorem d_X6_isItsHigh_0 : decode b_X6_isItsHigh 0 = .ok (.aload_n 0, 1) := by decide +kernel
theorem d_X6_isItsHigh_1 : decode b_X6_isItsHigh 1 = .ok (.getfield 11, 3) := by decide +kernel
theorem d_X6_isItsHigh_4 : decode b_X6_isItsHigh 4 = .ok (.iconst 3, 1) := by decide +kernel
theorem d_X6_isItsHigh_5 : decode b_X6_isItsHigh 5 = .ok (.if_icmp .ne 15, 3) := by decide +kernel
theorem d_X6_isItsHigh_8 : decode b_X6_isItsHigh 8 = .ok (.aload_n 0, 1) := by decide +kernel
theorem d_X6_isItsHigh_9 : decode b_X6_isItsHigh 9 = .ok (.getfield 18, 3) := by decide +kernel
theorem d_X6_isItsHigh_12 : decode b_X6_isItsHigh 12 = .ok (.iload_n 1, 1) := by decide +kernel
theorem d_X6_isItsHigh_13 : decode b_X6_isItsHigh 13 = .ok (.if_icmp .ne 7, 3) := by decide +kernel
theorem d_X6_isItsHigh_16 : decode b_X6_isItsHigh 16 = .ok (.iconst 1, 1) := by decide +kernel
theorem d_X6_isItsHigh_17 : decode b_X6_isItsHigh 17 = .ok (.goto 4, 3) := by decide +kernel
theorem d_X6_isItsHigh_20 : decode b_X6_isItsHigh 20 = .ok (.iconst 0, 1) := by decide +kernel
theorem d_X6_isItsHigh_21 : decode b_X6_isItsHigh 21 = .ok (.ireturn, 1) := by decide +kernel
theorem d_X6_isLowBefore_0 : decode b_X6_isLowBefore 0 = .ok (.aload_n 0, 1) := by decide +kernel
theorem d_X6_isLowBefore_1 : decode b_X6_isLowBefore 1 = .ok (.getfield 11, 3) := by decide +kernel
theorem d_X6_isLowBefore_4 : decode b_X6_isLowBefore 4 = .ok (.ifCond .eq 15, 3) := by decide +kernel
theorem d_X6_isLowBefore_7 : decode b_X6_isLowBefore 7 = .ok (.aload_n 0, 1) := by decide +kernel
theorem d_X6_isLowBefore_8 : decode b_X6_isLowBefore 8 = .ok (.getfield 15, 3) := by decide +kernel
theorem d_X6_isLowBefore_11 : decode b_X6_isLowBefore 11 = .ok (.iload_n 1, 1) := by decide +kernel
theorem d_X6_isLowBefore_12 : decode b_X6_isLowBefore 12 = .ok (.if_icmp .ge 7, 3) := by decide +kernel
theorem d_X6_isLowBefore_15 : decode b_X6_isLowBefore 15 = .ok (.iconst 1, 1) := by decide +kernel
theorem d_X6_isLowBefore_16 : decode b_X6_isLowBefore 16 = .ok (.goto 4, 3) := by decide +kernel
theorem d_X6_isLowBefore_19 : decode b_X6_isLowBefore 19 = .ok (.iconst 0, 1) := by decide +kernel
theorem d_X6_isLowBefore_20 : decode b_X6_isLowBefore 20 = .ok (.ireturn, 1) := by decide +kernel
theorem d_X6_rowToBear_0 : decode b_X6_rowToBear 0 = .ok (.aload_n 0, 1) := by decide +kernel
theorem d_X6_rowToBear_1 : decode b_X6_rowToBear 1 = .ok (.getfield 25, 3) := by decide +kernel
theorem d_X6_rowToBear_4 : decode b_X6_rowToBear 4 = .ok (.iload_n 1, 1) := by decide +kernel
theorem d_X6_rowToBear_5 : decode b_X6_rowToBear 5 = .ok (.baload, 1) := by decide +kernel
theorem d_X6_rowToBear_6 : decode b_X6_rowToBear 6 = .ok (.ifCond .eq 9, 3) := by decide +kernel
theorem d_X6_rowToBear_9 : decode b_X6_rowToBear 9 = .ok (.ldc2_w 35, 3) := by decide +kernel
theorem d_X6_rowToBear_12 : decode b_X6_rowToBear 12 = .ok (.goto 9, 3) := by decide +kernel
theorem d_X6_rowToBear_15 : decode b_X6_rowToBear 15 = .ok (.aload_n 0, 1) := by decide +kernel
theorem d_X6_rowToBear_16 : decode b_X6_rowToBear 16 = .ok (.getfield 21, 3) := by decide +kernel
theorem d_X6_rowToBear_19 : decode b_X6_rowToBear 19 = .ok (.iload_n 1, 1) := by decide +kernel
theorem d_X6_rowToBear_20 : decode b_X6_rowToBear 20 = .ok (.laload, 1) := by decide +kernel
theorem d_X6_rowToBear_21 : decode b_X6_rowToBear 21 = .ok (.lreturn, 1) := by decide +kernel
