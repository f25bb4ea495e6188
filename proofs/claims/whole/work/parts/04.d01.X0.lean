theorem d_X0_flight_7 : decode b_X0_flight 7 = .ok (.ireturn, 1) := by decide +kernel
theorem d_X0_packet_0 : decode b_X0_packet 0 = .ok (.aload_n 0, 1) := by decide +kernel
theorem d_X0_packet_1 : decode b_X0_packet 1 = .ok (.getfield 32, 3) := by decide +kernel
theorem d_X0_packet_4 : decode b_X0_packet 4 = .ok (.iload_n 1, 1) := by decide +kernel
theorem d_X0_packet_5 : decode b_X0_packet 5 = .ok (.invokevirtual 127, 3) := by decide +kernel
theorem d_X0_packet_8 : decode b_X0_packet 8 = .ok (.ifCond .eq 24, 3) := by decide +kernel
theorem d_X0_packet_11 : decode b_X0_packet 11 = .ok (.iload_n 2, 1) := by decide +kernel
theorem d_X0_packet_12 : decode b_X0_packet 12 = .ok (.ifCond .lt 20, 3) := by decide +kernel
theorem d_X0_packet_15 : decode b_X0_packet 15 = .ok (.iload_n 2, 1) := by decide +kernel
theorem d_X0_packet_16 : decode b_X0_packet 16 = .ok (.iconst 4, 1) := by decide +kernel
theorem d_X0_packet_17 : decode b_X0_packet 17 = .ok (.if_icmp .ge 15, 3) := by decide +kernel
theorem d_X0_packet_20 : decode b_X0_packet 20 = .ok (.aload_n 0, 1) := by decide +kernel
theorem d_X0_packet_21 : decode b_X0_packet 21 = .ok (.getfield 32, 3) := by decide +kernel
theorem d_X0_packet_24 : decode b_X0_packet 24 = .ok (.iload_n 1, 1) := by decide +kernel
theorem d_X0_packet_25 : decode b_X0_packet 25 = .ok (.iload_n 2, 1) := by decide +kernel
theorem d_X0_packet_26 : decode b_X0_packet 26 = .ok (.invokevirtual 130, 3) := by decide +kernel
theorem d_X0_packet_29 : decode b_X0_packet 29 = .ok (.goto 5, 3) := by decide +kernel
theorem d_X0_packet_32 : decode b_X0_packet 32 = .ok (.bipush (-2), 2) := by decide +kernel
theorem d_X0_packet_34 : decode b_X0_packet 34 = .ok (.ireturn, 1) := by decide +kernel
theorem d_X0_apply_0 : decode b_X0_apply 0 = .ok (.aload_n 0, 1) := by decide +kernel
theorem d_X0_apply_1 : decode b_X0_apply 1 = .ok (.getfield 50, 3) := by decide +kernel
theorem d_X0_apply_4 : decode b_X0_apply 4 = .ok (.aload_n 0, 1) := by decide +kernel
theorem d_X0_apply_5 : decode b_X0_apply 5 = .ok (.getfield 41, 3) := by decide +kernel
theorem d_X0_apply_8 : decode b_X0_apply 8 = .ok (.getfield 155, 3) := by decide +kernel
theorem d_X0_apply_11 : decode b_X0_apply 11 = .ok (.invokevirtual 159, 3) := by decide +kernel
theorem d_X0_apply_14 : decode b_X0_apply 14 = .ok (.ifCond .ne 5, 3) := by decide +kernel
theorem d_X0_apply_17 : decode b_X0_apply 17 = .ok (.iconst 0, 1) := by decide +kernel
theorem d_X0_apply_18 : decode b_X0_apply 18 = .ok (.ireturn, 1) := by decide +kernel
theorem d_X0_apply_19 : decode b_X0_apply 19 = .ok (.aload_n 0, 1) := by decide +kernel
theorem d_X0_apply_20 : decode b_X0_apply 20 = .ok (.invokevirtual 143, 3) := by decide +kernel
theorem d_X0_apply_23 : decode b_X0_apply 23 = .ok (.iconst 1, 1) := by decide +kernel
theorem d_X0_apply_24 : decode b_X0_apply 24 = .ok (.ireturn, 1) := by decide +kernel
theorem d_X0_amountOf_0 : decode b_X0_amountOf 0 = .ok (.lload_n 0, 1) := by decide +kernel
theorem d_X0_amountOf_1 : decode b_X0_amountOf 1 = .ok (.l2i, 1) := by decide +kernel
theorem d_X0_amountOf_2 : decode b_X0_amountOf 2 = .ok (.ireturn, 1) := by decide +kernel
theorem d_X0_stored_0 : decode b_X0_stored 0 = .ok (.aload_n 0, 1) := by decide +kernel
theorem d_X0_stored_1 : decode b_X0_stored 1 = .ok (.iload_n 1, 1) := by decide +kernel
theorem d_X0_stored_2 : decode b_X0_stored 2 = .ok (.invokevirtual 89, 3) := by decide +kernel
theorem d_X0_stored_5 : decode b_X0_stored 5 = .ok (.ifCond .eq 15, 3) := by decide +kernel
theorem d_X0_stored_8 : decode b_X0_stored 8 = .ok (.aload_n 0, 1) := by decide +kernel
theorem d_X0_stored_9 : decode b_X0_stored 9 = .ok (.getfield 50, 3) := by decide +kernel
theorem d_X0_stored_12 : decode b_X0_stored 12 = .ok (.getfield 163, 3) := by decide +kernel
theorem d_X0_stored_15 : decode b_X0_stored 15 = .ok (.iload_n 1, 1) := by decide +kernel
theorem d_X0_stored_16 : decode b_X0_stored 16 = .ok (.laload, 1) := by decide +kernel
theorem d_X0_stored_17 : decode b_X0_stored 17 = .ok (.goto 6, 3) := by decide +kernel
theorem d_X0_stored_20 : decode b_X0_stored 20 = .ok (.ldc2_w 80, 3) := by decide +kernel
theorem d_X0_stored_23 : decode b_X0_stored 23 = .ok (.lreturn, 1) := by decide +kernel
theorem d_X0_view_0 : decode b_X0_view 0 = .ok (.iload_n 1, 1) := by decide +kernel
theorem d_X0_view_1 : decode b_X0_view 1 = .ok (.invokestatic 65, 3) := by decide +kernel
theorem d_X0_view_4 : decode b_X0_view 4 = .ok (.ifCond .ne 5, 3) := by decide +kernel
theorem d_X0_view_7 : decode b_X0_view 7 = .ok (.lconst 0, 1) := by decide +kernel
theorem d_X0_view_8 : decode b_X0_view 8 = .ok (.lreturn, 1) := by decide +kernel
theorem d_X0_view_9 : decode b_X0_view 9 = .ok (.iload_n 2, 1) := by decide +kernel
theorem d_X0_view_10 : decode b_X0_view 10 = .ok (.ifCond .eq 14, 3) := by decide +kernel
theorem d_X0_view_13 : decode b_X0_view 13 = .ok (.aload_n 0, 1) := by decide +kernel
theorem d_X0_view_14 : decode b_X0_view 14 = .ok (.getfield 50, 3) := by decide +kernel
theorem d_X0_view_17 : decode b_X0_view 17 = .ok (.iload_n 1, 1) := by decide +kernel
theorem d_X0_view_18 : decode b_X0_view 18 = .ok (.invokevirtual 166, 3) := by decide +kernel
theorem d_X0_view_21 : decode b_X0_view 21 = .ok (.goto 12, 3) := by decide +kernel
theorem d_X0_view_24 : decode b_X0_view 24 = .ok (.aload_n 0, 1) := by decide +kernel
theorem d_X0_view_25 : decode b_X0_view 25 = .ok (.getfield 50, 3) := by decide +kernel
theorem d_X0_view_28 : decode b_X0_view 28 = .ok (.iload_n 1, 1) := by decide +kernel
theorem d_X0_view_29 : decode b_X0_view 29 = .ok (.invokevirtual 169, 3) := by decide +kernel
theorem d_X0_view_32 : decode b_X0_view 32 = .ok (.i2l, 1) := by decide +kernel
theorem d_X0_view_33 : decode b_X0_view 33 = .ok (.lreturn, 1) := by decide +kernel
theorem d_X0_groupOf_0 : decode b_X0_groupOf 0 = .ok (.lload_n 0, 1) := by decide +kernel
theorem d_X0_groupOf_1 : decode b_X0_groupOf 1 = .ok (.bipush 32, 2) := by decide +kernel
theorem d_X0_groupOf_3 : decode b_X0_groupOf 3 = .ok (.lshr, 1) := by decide +kernel
theorem d_X0_groupOf_4 : decode b_X0_groupOf 4 = .ok (.l2i, 1) := by decide +kernel
theorem d_X0_groupOf_5 : decode b_X0_groupOf 5 = .ok (.ireturn, 1) := by decide +kernel
theorem d_X0_position_0 : decode b_X0_position 0 = .ok (.aload_n 0, 1) := by decide +kernel
theorem d_X0_position_1 : decode b_X0_position 1 = .ok (.getfield 50, 3) := by decide +kernel
theorem d_X0_position_4 : decode b_X0_position 4 = .ok (.getfield 105, 3) := by decide +kernel
theorem d_X0_position_7 : decode b_X0_position 7 = .ok (.ireturn, 1) := by decide +kernel
theorem d_X0_progress_0 : decode b_X0_progress 0 = .ok (.aload_n 0, 1) := by decide +kernel
theorem d_X0_progress_1 : decode b_X0_progress 1 = .ok (.getfield 50, 3) := by decide +kernel
theorem d_X0_progress_4 : decode b_X0_progress 4 = .ok (.getfield 108, 3) := by decide +kernel
theorem d_X0_progress_7 : decode b_X0_progress 7 = .ok (.ireturn, 1) := by decide +kernel
