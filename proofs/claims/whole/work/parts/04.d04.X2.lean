theorem d_X2_init_0 : decode b_X2_init 0 = .ok (.aload_n 0, 1) := by decide +kernel
theorem d_X2_init_1 : decode b_X2_init 1 = .ok (.invokespecial 3, 3) := by decide +kernel
theorem d_X2_init_4 : decode b_X2_init 4 = .ok (.aload_n 0, 1) := by decide +kernel
theorem d_X2_init_5 : decode b_X2_init 5 = .ok (.bipush 32, 2) := by decide +kernel
theorem d_X2_init_7 : decode b_X2_init 7 = .ok (.newarray .int, 2) := by decide +kernel
theorem d_X2_init_9 : decode b_X2_init 9 = .ok (.putfield 9, 3) := by decide +kernel
theorem d_X2_init_12 : decode b_X2_init 12 = .ok (.aload_n 0, 1) := by decide +kernel
theorem d_X2_init_13 : decode b_X2_init 13 = .ok (.iconst 0, 1) := by decide +kernel
theorem d_X2_init_14 : decode b_X2_init 14 = .ok (.putfield 15, 3) := by decide +kernel
theorem d_X2_init_17 : decode b_X2_init 17 = .ok (.aload_n 0, 1) := by decide +kernel
theorem d_X2_init_18 : decode b_X2_init 18 = .ok (.iconst 0, 1) := by decide +kernel
theorem d_X2_init_19 : decode b_X2_init 19 = .ok (.putfield 19, 3) := by decide +kernel
theorem d_X2_init_22 : decode b_X2_init 22 = .ok (.return_, 1) := by decide +kernel
theorem d_X2_startEpoch_0 : decode b_X2_startEpoch 0 = .ok (.aload_n 0, 1) := by decide +kernel
theorem d_X2_startEpoch_1 : decode b_X2_startEpoch 1 = .ok (.dup, 1) := by decide +kernel
theorem d_X2_startEpoch_2 : decode b_X2_startEpoch 2 = .ok (.getfield 19, 3) := by decide +kernel
theorem d_X2_startEpoch_5 : decode b_X2_startEpoch 5 = .ok (.iconst 1, 1) := by decide +kernel
theorem d_X2_startEpoch_6 : decode b_X2_startEpoch 6 = .ok (.iadd, 1) := by decide +kernel
theorem d_X2_startEpoch_7 : decode b_X2_startEpoch 7 = .ok (.putfield 19, 3) := by decide +kernel
theorem d_X2_startEpoch_10 : decode b_X2_startEpoch 10 = .ok (.return_, 1) := by decide +kernel
theorem d_X2_send_0 : decode b_X2_send 0 = .ok (.aload_n 0, 1) := by decide +kernel
theorem d_X2_send_1 : decode b_X2_send 1 = .ok (.iload_n 1, 1) := by decide +kernel
theorem d_X2_send_2 : decode b_X2_send 2 = .ok (.aload_n 0, 1) := by decide +kernel
theorem d_X2_send_3 : decode b_X2_send 3 = .ok (.getfield 19, 3) := by decide +kernel
theorem d_X2_send_6 : decode b_X2_send 6 = .ok (.iload_n 2, 1) := by decide +kernel
theorem d_X2_send_7 : decode b_X2_send 7 = .ok (.iload_n 3, 1) := by decide +kernel
theorem d_X2_send_8 : decode b_X2_send 8 = .ok (.invokevirtual 22, 3) := by decide +kernel
theorem d_X2_send_11 : decode b_X2_send 11 = .ok (.pop, 1) := by decide +kernel
theorem d_X2_send_12 : decode b_X2_send 12 = .ok (.return_, 1) := by decide +kernel
theorem d_X2_append_0 : decode b_X2_append 0 = .ok (.aload_n 0, 1) := by decide +kernel
theorem d_X2_append_1 : decode b_X2_append 1 = .ok (.getfield 15, 3) := by decide +kernel
theorem d_X2_append_4 : decode b_X2_append 4 = .ok (.bipush 8, 2) := by decide +kernel
theorem d_X2_append_6 : decode b_X2_append 6 = .ok (.if_icmp .lt 5, 3) := by decide +kernel
theorem d_X2_append_9 : decode b_X2_append 9 = .ok (.iconst 0, 1) := by decide +kernel
theorem d_X2_append_10 : decode b_X2_append 10 = .ok (.ireturn, 1) := by decide +kernel
theorem d_X2_append_11 : decode b_X2_append 11 = .ok (.aload_n 0, 1) := by decide +kernel
theorem d_X2_append_12 : decode b_X2_append 12 = .ok (.getfield 15, 3) := by decide +kernel
theorem d_X2_append_15 : decode b_X2_append 15 = .ok (.iconst 4, 1) := by decide +kernel
theorem d_X2_append_16 : decode b_X2_append 16 = .ok (.imul, 1) := by decide +kernel
theorem d_X2_append_17 : decode b_X2_append 17 = .ok (.istore 5, 2) := by decide +kernel
theorem d_X2_append_19 : decode b_X2_append 19 = .ok (.aload_n 0, 1) := by decide +kernel
theorem d_X2_append_20 : decode b_X2_append 20 = .ok (.getfield 9, 3) := by decide +kernel
theorem d_X2_append_23 : decode b_X2_append 23 = .ok (.iload 5, 2) := by decide +kernel
theorem d_X2_append_25 : decode b_X2_append 25 = .ok (.iconst 0, 1) := by decide +kernel
theorem d_X2_append_26 : decode b_X2_append 26 = .ok (.iadd, 1) := by decide +kernel
theorem d_X2_append_27 : decode b_X2_append 27 = .ok (.iload_n 1, 1) := by decide +kernel
theorem d_X2_append_28 : decode b_X2_append 28 = .ok (.iastore, 1) := by decide +kernel
theorem d_X2_append_29 : decode b_X2_append 29 = .ok (.aload_n 0, 1) := by decide +kernel
theorem d_X2_append_30 : decode b_X2_append 30 = .ok (.getfield 9, 3) := by decide +kernel
theorem d_X2_append_33 : decode b_X2_append 33 = .ok (.iload 5, 2) := by decide +kernel
theorem d_X2_append_35 : decode b_X2_append 35 = .ok (.iconst 1, 1) := by decide +kernel
theorem d_X2_append_36 : decode b_X2_append 36 = .ok (.iadd, 1) := by decide +kernel
theorem d_X2_append_37 : decode b_X2_append 37 = .ok (.iload_n 2, 1) := by decide +kernel
theorem d_X2_append_38 : decode b_X2_append 38 = .ok (.iastore, 1) := by decide +kernel
theorem d_X2_append_39 : decode b_X2_append 39 = .ok (.aload_n 0, 1) := by decide +kernel
theorem d_X2_append_40 : decode b_X2_append 40 = .ok (.getfield 9, 3) := by decide +kernel
theorem d_X2_append_43 : decode b_X2_append 43 = .ok (.iload 5, 2) := by decide +kernel
theorem d_X2_append_45 : decode b_X2_append 45 = .ok (.iconst 2, 1) := by decide +kernel
theorem d_X2_append_46 : decode b_X2_append 46 = .ok (.iadd, 1) := by decide +kernel
theorem d_X2_append_47 : decode b_X2_append 47 = .ok (.iload_n 3, 1) := by decide +kernel
theorem d_X2_append_48 : decode b_X2_append 48 = .ok (.iastore, 1) := by decide +kernel
theorem d_X2_append_49 : decode b_X2_append 49 = .ok (.aload_n 0, 1) := by decide +kernel
theorem d_X2_append_50 : decode b_X2_append 50 = .ok (.getfield 9, 3) := by decide +kernel
theorem d_X2_append_53 : decode b_X2_append 53 = .ok (.iload 5, 2) := by decide +kernel
theorem d_X2_append_55 : decode b_X2_append 55 = .ok (.iconst 3, 1) := by decide +kernel
theorem d_X2_append_56 : decode b_X2_append 56 = .ok (.iadd, 1) := by decide +kernel
theorem d_X2_append_57 : decode b_X2_append 57 = .ok (.iload 4, 2) := by decide +kernel
theorem d_X2_append_59 : decode b_X2_append 59 = .ok (.iastore, 1) := by decide +kernel
theorem d_X2_append_60 : decode b_X2_append 60 = .ok (.aload_n 0, 1) := by decide +kernel
theorem d_X2_append_61 : decode b_X2_append 61 = .ok (.dup, 1) := by decide +kernel
theorem d_X2_append_62 : decode b_X2_append 62 = .ok (.getfield 15, 3) := by decide +kernel
theorem d_X2_append_65 : decode b_X2_append 65 = .ok (.iconst 1, 1) := by decide +kernel
theorem d_X2_append_66 : decode b_X2_append 66 = .ok (.iadd, 1) := by decide +kernel
theorem d_X2_append_67 : decode b_X2_append 67 = .ok (.putfield 15, 3) := by decide +kernel
theorem d_X2_append_70 : decode b_X2_append 70 = .ok (.iconst 1, 1) := by decide +kernel
theorem d_X2_append_71 : decode b_X2_append 71 = .ok (.ireturn, 1) := by decide +kernel
theorem d_X2_holds_0 : decode b_X2_holds 0 = .ok (.iload_n 1, 1) := by decide +kernel
theorem d_X2_holds_1 : decode b_X2_holds 1 = .ok (.ifCond .lt 15, 3) := by decide +kernel
theorem d_X2_holds_4 : decode b_X2_holds 4 = .ok (.iload_n 1, 1) := by decide +kernel
theorem d_X2_holds_5 : decode b_X2_holds 5 = .ok (.aload_n 0, 1) := by decide +kernel
theorem d_X2_holds_6 : decode b_X2_holds 6 = .ok (.getfield 15, 3) := by decide +kernel
theorem d_X2_holds_9 : decode b_X2_holds 9 = .ok (.if_icmp .ge 7, 3) := by decide +kernel
theorem d_X2_holds_12 : decode b_X2_holds 12 = .ok (.iconst 1, 1) := by decide +kernel
theorem d_X2_holds_13 : decode b_X2_holds 13 = .ok (.goto 4, 3) := by decide +kernel
theorem d_X2_holds_16 : decode b_X2_holds 16 = .ok (.iconst 0, 1) := by decide +kernel
theorem d_X2_holds_17 : decode b_X2_holds 17 = .ok (.ireturn, 1) := by decide +kernel
theorem d_X2_word_0 : decode b_X2_word 0 = .ok (.aload_n 0, 1) := by decide +kernel
theorem d_X2_word_1 : decode b_X2_word 1 = .ok (.getfield 9, 3) := by decide +kernel
theorem d_X2_word_4 : decode b_X2_word 4 = .ok (.iload_n 1, 1) := by decide +kernel
theorem d_X2_word_5 : decode b_X2_word 5 = .ok (.iconst 4, 1) := by decide +kernel
theorem d_X2_word_6 : decode b_X2_word 6 = .ok (.imul, 1) := by decide +kernel
theorem d_X2_word_7 : decode b_X2_word 7 = .ok (.iload_n 2, 1) := by decide +kernel
theorem d_X2_word_8 : decode b_X2_word 8 = .ok (.iadd, 1) := by decide +kernel
theorem d_X2_word_9 : decode b_X2_word 9 = .ok (.iaload, 1) := by decide +kernel
theorem d_X2_word_10 : decode b_X2_word 10 = .ok (.ireturn, 1) := by decide +kernel
theorem d_X2_takeOut_0 : decode b_X2_takeOut 0 = .ok (.aload_n 0, 1) := by decide +kernel
theorem d_X2_takeOut_1 : decode b_X2_takeOut 1 = .ok (.dup, 1) := by decide +kernel
theorem d_X2_takeOut_2 : decode b_X2_takeOut 2 = .ok (.getfield 15, 3) := by decide +kernel
theorem d_X2_takeOut_5 : decode b_X2_takeOut 5 = .ok (.iconst 1, 1) := by decide +kernel
theorem d_X2_takeOut_6 : decode b_X2_takeOut 6 = .ok (.isub, 1) := by decide +kernel
theorem d_X2_takeOut_7 : decode b_X2_takeOut 7 = .ok (.putfield 15, 3) := by decide +kernel
theorem d_X2_takeOut_10 : decode b_X2_takeOut 10 = .ok (.aload_n 0, 1) := by decide +kernel
theorem d_X2_takeOut_11 : decode b_X2_takeOut 11 = .ok (.getfield 9, 3) := by decide +kernel
theorem d_X2_takeOut_14 : decode b_X2_takeOut 14 = .ok (.iload_n 1, 1) := by decide +kernel
theorem d_X2_takeOut_15 : decode b_X2_takeOut 15 = .ok (.iconst 1, 1) := by decide +kernel
theorem d_X2_takeOut_16 : decode b_X2_takeOut 16 = .ok (.iadd, 1) := by decide +kernel
theorem d_X2_takeOut_17 : decode b_X2_takeOut 17 = .ok (.iconst 4, 1) := by decide +kernel
theorem d_X2_takeOut_18 : decode b_X2_takeOut 18 = .ok (.imul, 1) := by decide +kernel
theorem d_X2_takeOut_19 : decode b_X2_takeOut 19 = .ok (.aload_n 0, 1) := by decide +kernel
theorem d_X2_takeOut_20 : decode b_X2_takeOut 20 = .ok (.getfield 9, 3) := by decide +kernel
theorem d_X2_takeOut_23 : decode b_X2_takeOut 23 = .ok (.iload_n 1, 1) := by decide +kernel
theorem d_X2_takeOut_24 : decode b_X2_takeOut 24 = .ok (.iconst 4, 1) := by decide +kernel
theorem d_X2_takeOut_25 : decode b_X2_takeOut 25 = .ok (.imul, 1) := by decide +kernel
theorem d_X2_takeOut_26 : decode b_X2_takeOut 26 = .ok (.aload_n 0, 1) := by decide +kernel
theorem d_X2_takeOut_27 : decode b_X2_takeOut 27 = .ok (.getfield 15, 3) := by decide +kernel
theorem d_X2_takeOut_30 : decode b_X2_takeOut 30 = .ok (.iload_n 1, 1) := by decide +kernel
theorem d_X2_takeOut_31 : decode b_X2_takeOut 31 = .ok (.isub, 1) := by decide +kernel
theorem d_X2_takeOut_32 : decode b_X2_takeOut 32 = .ok (.iconst 4, 1) := by decide +kernel
theorem d_X2_takeOut_33 : decode b_X2_takeOut 33 = .ok (.imul, 1) := by decide +kernel
theorem d_X2_takeOut_34 : decode b_X2_takeOut 34 = .ok (.invokestatic 30, 3) := by decide +kernel
theorem d_X2_takeOut_37 : decode b_X2_takeOut 37 = .ok (.return_, 1) := by decide +kernel
theorem d_X2_repeat_0 : decode b_X2_repeat 0 = .ok (.aload_n 0, 1) := by decide +kernel
theorem d_X2_repeat_1 : decode b_X2_repeat 1 = .ok (.aload_n 0, 1) := by decide +kernel
theorem d_X2_repeat_2 : decode b_X2_repeat 2 = .ok (.iload_n 1, 1) := by decide +kernel
theorem d_X2_repeat_3 : decode b_X2_repeat 3 = .ok (.iconst 0, 1) := by decide +kernel
theorem d_X2_repeat_4 : decode b_X2_repeat 4 = .ok (.invokevirtual 26, 3) := by decide +kernel
theorem d_X2_repeat_7 : decode b_X2_repeat 7 = .ok (.aload_n 0, 1) := by decide +kernel
theorem d_X2_repeat_8 : decode b_X2_repeat 8 = .ok (.iload_n 1, 1) := by decide +kernel
theorem d_X2_repeat_9 : decode b_X2_repeat 9 = .ok (.iconst 1, 1) := by decide +kernel
theorem d_X2_repeat_10 : decode b_X2_repeat 10 = .ok (.invokevirtual 26, 3) := by decide +kernel
theorem d_X2_repeat_13 : decode b_X2_repeat 13 = .ok (.aload_n 0, 1) := by decide +kernel
theorem d_X2_repeat_14 : decode b_X2_repeat 14 = .ok (.iload_n 1, 1) := by decide +kernel
theorem d_X2_repeat_15 : decode b_X2_repeat 15 = .ok (.iconst 2, 1) := by decide +kernel
theorem d_X2_repeat_16 : decode b_X2_repeat 16 = .ok (.invokevirtual 26, 3) := by decide +kernel
theorem d_X2_repeat_19 : decode b_X2_repeat 19 = .ok (.aload_n 0, 1) := by decide +kernel
theorem d_X2_repeat_20 : decode b_X2_repeat 20 = .ok (.iload_n 1, 1) := by decide +kernel
theorem d_X2_repeat_21 : decode b_X2_repeat 21 = .ok (.iconst 3, 1) := by decide +kernel
theorem d_X2_repeat_22 : decode b_X2_repeat 22 = .ok (.invokevirtual 26, 3) := by decide +kernel
theorem d_X2_repeat_25 : decode b_X2_repeat 25 = .ok (.invokevirtual 22, 3) := by decide +kernel
theorem d_X2_repeat_28 : decode b_X2_repeat 28 = .ok (.ireturn, 1) := by decide +kernel
