theorem d_X3_init_0 : decode b_X3_init 0 = .ok (.aload_n 0, 1) := by decide +kernel
theorem d_X3_init_1 : decode b_X3_init 1 = .ok (.invokespecial 3, 3) := by decide +kernel
theorem d_X3_init_4 : decode b_X3_init 4 = .ok (.aload_n 0, 1) := by decide +kernel
theorem d_X3_init_5 : decode b_X3_init 5 = .ok (.iconst 4, 1) := by decide +kernel
theorem d_X3_init_6 : decode b_X3_init 6 = .ok (.newarray .int, 2) := by decide +kernel
theorem d_X3_init_8 : decode b_X3_init 8 = .ok (.putfield 9, 3) := by decide +kernel
theorem d_X3_init_11 : decode b_X3_init 11 = .ok (.aload_n 0, 1) := by decide +kernel
theorem d_X3_init_12 : decode b_X3_init 12 = .ok (.iconst 4, 1) := by decide +kernel
theorem d_X3_init_13 : decode b_X3_init 13 = .ok (.newarray .int, 2) := by decide +kernel
theorem d_X3_init_15 : decode b_X3_init 15 = .ok (.putfield 15, 3) := by decide +kernel
theorem d_X3_init_18 : decode b_X3_init 18 = .ok (.aload_n 0, 1) := by decide +kernel
theorem d_X3_init_19 : decode b_X3_init 19 = .ok (.iconst 4, 1) := by decide +kernel
theorem d_X3_init_20 : decode b_X3_init 20 = .ok (.newarray .int, 2) := by decide +kernel
theorem d_X3_init_22 : decode b_X3_init 22 = .ok (.putfield 18, 3) := by decide +kernel
theorem d_X3_init_25 : decode b_X3_init 25 = .ok (.aload_n 0, 1) := by decide +kernel
theorem d_X3_init_26 : decode b_X3_init 26 = .ok (.iconst 0, 1) := by decide +kernel
theorem d_X3_init_27 : decode b_X3_init 27 = .ok (.putfield 21, 3) := by decide +kernel
theorem d_X3_init_30 : decode b_X3_init 30 = .ok (.aload_n 0, 1) := by decide +kernel
theorem d_X3_init_31 : decode b_X3_init 31 = .ok (.iconst 0, 1) := by decide +kernel
theorem d_X3_init_32 : decode b_X3_init 32 = .ok (.putfield 25, 3) := by decide +kernel
theorem d_X3_init_35 : decode b_X3_init 35 = .ok (.aload_n 0, 1) := by decide +kernel
theorem d_X3_init_36 : decode b_X3_init 36 = .ok (.iconst (-1), 1) := by decide +kernel
theorem d_X3_init_37 : decode b_X3_init 37 = .ok (.putfield 28, 3) := by decide +kernel
theorem d_X3_init_40 : decode b_X3_init 40 = .ok (.aload_n 0, 1) := by decide +kernel
theorem d_X3_init_41 : decode b_X3_init 41 = .ok (.iconst (-1), 1) := by decide +kernel
theorem d_X3_init_42 : decode b_X3_init 42 = .ok (.putfield 31, 3) := by decide +kernel
theorem d_X3_init_45 : decode b_X3_init 45 = .ok (.aload_n 0, 1) := by decide +kernel
theorem d_X3_init_46 : decode b_X3_init 46 = .ok (.iconst 0, 1) := by decide +kernel
theorem d_X3_init_47 : decode b_X3_init 47 = .ok (.putfield 34, 3) := by decide +kernel
theorem d_X3_init_50 : decode b_X3_init 50 = .ok (.aload_n 0, 1) := by decide +kernel
theorem d_X3_init_51 : decode b_X3_init 51 = .ok (.iconst 0, 1) := by decide +kernel
theorem d_X3_init_52 : decode b_X3_init 52 = .ok (.putfield 37, 3) := by decide +kernel
theorem d_X3_init_55 : decode b_X3_init 55 = .ok (.aload_n 0, 1) := by decide +kernel
theorem d_X3_init_56 : decode b_X3_init 56 = .ok (.aload_n 1, 1) := by decide +kernel
theorem d_X3_init_57 : decode b_X3_init 57 = .ok (.putfield 40, 3) := by decide +kernel
theorem d_X3_init_60 : decode b_X3_init 60 = .ok (.aload_n 0, 1) := by decide +kernel
theorem d_X3_init_61 : decode b_X3_init 61 = .ok (.aload_n 2, 1) := by decide +kernel
theorem d_X3_init_62 : decode b_X3_init 62 = .ok (.putfield 44, 3) := by decide +kernel
theorem d_X3_init_65 : decode b_X3_init 65 = .ok (.aload_n 0, 1) := by decide +kernel
theorem d_X3_init_66 : decode b_X3_init 66 = .ok (.aload_n 3, 1) := by decide +kernel
theorem d_X3_init_67 : decode b_X3_init 67 = .ok (.putfield 48, 3) := by decide +kernel
theorem d_X3_init_70 : decode b_X3_init 70 = .ok (.aload_n 0, 1) := by decide +kernel
theorem d_X3_init_71 : decode b_X3_init 71 = .ok (.iload 4, 2) := by decide +kernel
theorem d_X3_init_73 : decode b_X3_init 73 = .ok (.putfield 52, 3) := by decide +kernel
theorem d_X3_init_76 : decode b_X3_init 76 = .ok (.aload_n 0, 1) := by decide +kernel
theorem d_X3_init_77 : decode b_X3_init 77 = .ok (.iload 5, 2) := by decide +kernel
theorem d_X3_init_79 : decode b_X3_init 79 = .ok (.putfield 55, 3) := by decide +kernel
theorem d_X3_init_82 : decode b_X3_init 82 = .ok (.aload_n 0, 1) := by decide +kernel
theorem d_X3_init_83 : decode b_X3_init 83 = .ok (.iload 6, 2) := by decide +kernel
theorem d_X3_init_85 : decode b_X3_init 85 = .ok (.putfield 58, 3) := by decide +kernel
theorem d_X3_init_88 : decode b_X3_init 88 = .ok (.aload_n 0, 1) := by decide +kernel
theorem d_X3_init_89 : decode b_X3_init 89 = .ok (.new 61, 3) := by decide +kernel
theorem d_X3_init_92 : decode b_X3_init 92 = .ok (.dup, 1) := by decide +kernel
theorem d_X3_init_93 : decode b_X3_init 93 = .ok (.iload 4, 2) := by decide +kernel
theorem d_X3_init_95 : decode b_X3_init 95 = .ok (.invokespecial 63, 3) := by decide +kernel
theorem d_X3_init_98 : decode b_X3_init 98 = .ok (.putfield 66, 3) := by decide +kernel
theorem d_X3_init_101 : decode b_X3_init 101 = .ok (.aload_n 0, 1) := by decide +kernel
theorem d_X3_init_102 : decode b_X3_init 102 = .ok (.iload 4, 2) := by decide +kernel
theorem d_X3_init_104 : decode b_X3_init 104 = .ok (.newarray .long, 2) := by decide +kernel
theorem d_X3_init_106 : decode b_X3_init 106 = .ok (.putfield 70, 3) := by decide +kernel
theorem d_X3_init_109 : decode b_X3_init 109 = .ok (.return_, 1) := by decide +kernel
theorem d_X3_restart_0 : decode b_X3_restart 0 = .ok (.aload_n 0, 1) := by decide +kernel
theorem d_X3_restart_1 : decode b_X3_restart 1 = .ok (.iconst 0, 1) := by decide +kernel
theorem d_X3_restart_2 : decode b_X3_restart 2 = .ok (.putfield 21, 3) := by decide +kernel
theorem d_X3_restart_5 : decode b_X3_restart 5 = .ok (.aload_n 0, 1) := by decide +kernel
theorem d_X3_restart_6 : decode b_X3_restart 6 = .ok (.getfield 66, 3) := by decide +kernel
theorem d_X3_restart_9 : decode b_X3_restart 9 = .ok (.invokevirtual 74, 3) := by decide +kernel
theorem d_X3_restart_12 : decode b_X3_restart 12 = .ok (.aload_n 0, 1) := by decide +kernel
theorem d_X3_restart_13 : decode b_X3_restart 13 = .ok (.iload_n 1, 1) := by decide +kernel
theorem d_X3_restart_14 : decode b_X3_restart 14 = .ok (.putfield 28, 3) := by decide +kernel
theorem d_X3_restart_17 : decode b_X3_restart 17 = .ok (.aload_n 0, 1) := by decide +kernel
theorem d_X3_restart_18 : decode b_X3_restart 18 = .ok (.iload_n 1, 1) := by decide +kernel
theorem d_X3_restart_19 : decode b_X3_restart 19 = .ok (.putfield 31, 3) := by decide +kernel
theorem d_X3_restart_22 : decode b_X3_restart 22 = .ok (.aload_n 0, 1) := by decide +kernel
theorem d_X3_restart_23 : decode b_X3_restart 23 = .ok (.iconst 0, 1) := by decide +kernel
theorem d_X3_restart_24 : decode b_X3_restart 24 = .ok (.putfield 34, 3) := by decide +kernel
theorem d_X3_restart_27 : decode b_X3_restart 27 = .ok (.aload_n 0, 1) := by decide +kernel
theorem d_X3_restart_28 : decode b_X3_restart 28 = .ok (.iload_n 2, 1) := by decide +kernel
theorem d_X3_restart_29 : decode b_X3_restart 29 = .ok (.putfield 37, 3) := by decide +kernel
theorem d_X3_restart_32 : decode b_X3_restart 32 = .ok (.return_, 1) := by decide +kernel
theorem d_X3_advanceChunk_0 : decode b_X3_advanceChunk 0 = .ok (.aload_n 0, 1) := by decide +kernel
theorem d_X3_advanceChunk_1 : decode b_X3_advanceChunk 1 = .ok (.getfield 66, 3) := by decide +kernel
theorem d_X3_advanceChunk_4 : decode b_X3_advanceChunk 4 = .ok (.getfield 77, 3) := by decide +kernel
theorem d_X3_advanceChunk_7 : decode b_X3_advanceChunk 7 = .ok (.tableswitch 62 0 2 #[25, 30, 57], 25) := by decide +kernel
theorem d_X3_advanceChunk_32 : decode b_X3_advanceChunk 32 = .ok (.aload_n 0, 1) := by decide +kernel
theorem d_X3_advanceChunk_33 : decode b_X3_advanceChunk 33 = .ok (.invokevirtual 80, 3) := by decide +kernel
theorem d_X3_advanceChunk_36 : decode b_X3_advanceChunk 36 = .ok (.ireturn, 1) := by decide +kernel
theorem d_X3_advanceChunk_37 : decode b_X3_advanceChunk 37 = .ok (.aload_n 0, 1) := by decide +kernel
theorem d_X3_advanceChunk_38 : decode b_X3_advanceChunk 38 = .ok (.getfield 66, 3) := by decide +kernel
theorem d_X3_advanceChunk_41 : decode b_X3_advanceChunk 41 = .ok (.aload_n 0, 1) := by decide +kernel
theorem d_X3_advanceChunk_42 : decode b_X3_advanceChunk 42 = .ok (.getfield 44, 3) := by decide +kernel
theorem d_X3_advanceChunk_45 : decode b_X3_advanceChunk 45 = .ok (.aload_n 0, 1) := by decide +kernel
theorem d_X3_advanceChunk_46 : decode b_X3_advanceChunk 46 = .ok (.getfield 37, 3) := by decide +kernel
theorem d_X3_advanceChunk_49 : decode b_X3_advanceChunk 49 = .ok (.aload_n 0, 1) := by decide +kernel
theorem d_X3_advanceChunk_50 : decode b_X3_advanceChunk 50 = .ok (.invokevirtual 84, 3) := by decide +kernel
theorem d_X3_advanceChunk_53 : decode b_X3_advanceChunk 53 = .ok (.invokevirtual 87, 3) := by decide +kernel
theorem d_X3_advanceChunk_56 : decode b_X3_advanceChunk 56 = .ok (.aload_n 0, 1) := by decide +kernel
theorem d_X3_advanceChunk_57 : decode b_X3_advanceChunk 57 = .ok (.getfield 66, 3) := by decide +kernel
theorem d_X3_advanceChunk_60 : decode b_X3_advanceChunk 60 = .ok (.getfield 77, 3) := by decide +kernel
theorem d_X3_advanceChunk_63 : decode b_X3_advanceChunk 63 = .ok (.ireturn, 1) := by decide +kernel
theorem d_X3_advanceChunk_64 : decode b_X3_advanceChunk 64 = .ok (.aload_n 0, 1) := by decide +kernel
theorem d_X3_advanceChunk_65 : decode b_X3_advanceChunk 65 = .ok (.invokevirtual 91, 3) := by decide +kernel
theorem d_X3_advanceChunk_68 : decode b_X3_advanceChunk 68 = .ok (.ireturn, 1) := by decide +kernel
theorem d_X3_advanceChunk_69 : decode b_X3_advanceChunk 69 = .ok (.bipush (-2), 2) := by decide +kernel
theorem d_X3_advanceChunk_71 : decode b_X3_advanceChunk 71 = .ok (.ireturn, 1) := by decide +kernel
theorem d_X3_beginChunk_0 : decode b_X3_beginChunk 0 = .ok (.aload_n 0, 1) := by decide +kernel
theorem d_X3_beginChunk_1 : decode b_X3_beginChunk 1 = .ok (.getfield 37, 3) := by decide +kernel
theorem d_X3_beginChunk_4 : decode b_X3_beginChunk 4 = .ok (.aload_n 0, 1) := by decide +kernel
theorem d_X3_beginChunk_5 : decode b_X3_beginChunk 5 = .ok (.getfield 52, 3) := by decide +kernel
theorem d_X3_beginChunk_8 : decode b_X3_beginChunk 8 = .ok (.if_icmp .lt 6, 3) := by decide +kernel
theorem d_X3_beginChunk_11 : decode b_X3_beginChunk 11 = .ok (.bipush (-2), 2) := by decide +kernel
theorem d_X3_beginChunk_13 : decode b_X3_beginChunk 13 = .ok (.ireturn, 1) := by decide +kernel
theorem d_X3_beginChunk_14 : decode b_X3_beginChunk 14 = .ok (.aload_n 0, 1) := by decide +kernel
theorem d_X3_beginChunk_15 : decode b_X3_beginChunk 15 = .ok (.getfield 44, 3) := by decide +kernel
theorem d_X3_beginChunk_18 : decode b_X3_beginChunk 18 = .ok (.iconst 1, 1) := by decide +kernel
theorem d_X3_beginChunk_19 : decode b_X3_beginChunk 19 = .ok (.iconst 0, 1) := by decide +kernel
theorem d_X3_beginChunk_20 : decode b_X3_beginChunk 20 = .ok (.invokevirtual 109, 3) := by decide +kernel
theorem d_X3_beginChunk_23 : decode b_X3_beginChunk 23 = .ok (.ifCond .ne 6, 3) := by decide +kernel
theorem d_X3_beginChunk_26 : decode b_X3_beginChunk 26 = .ok (.bipush (-4), 2) := by decide +kernel
theorem d_X3_beginChunk_28 : decode b_X3_beginChunk 28 = .ok (.ireturn, 1) := by decide +kernel
theorem d_X3_beginChunk_29 : decode b_X3_beginChunk 29 = .ok (.aload_n 0, 1) := by decide +kernel
theorem d_X3_beginChunk_30 : decode b_X3_beginChunk 30 = .ok (.getfield 66, 3) := by decide +kernel
theorem d_X3_beginChunk_33 : decode b_X3_beginChunk 33 = .ok (.aload_n 0, 1) := by decide +kernel
theorem d_X3_beginChunk_34 : decode b_X3_beginChunk 34 = .ok (.getfield 40, 3) := by decide +kernel
theorem d_X3_beginChunk_37 : decode b_X3_beginChunk 37 = .ok (.iconst 3, 1) := by decide +kernel
theorem d_X3_beginChunk_38 : decode b_X3_beginChunk 38 = .ok (.iconst (-1), 1) := by decide +kernel
theorem d_X3_beginChunk_39 : decode b_X3_beginChunk 39 = .ok (.iconst (-1), 1) := by decide +kernel
theorem d_X3_beginChunk_40 : decode b_X3_beginChunk 40 = .ok (.ldc2_w 115, 3) := by decide +kernel
theorem d_X3_beginChunk_43 : decode b_X3_beginChunk 43 = .ok (.invokevirtual 117, 3) := by decide +kernel
theorem d_X3_beginChunk_46 : decode b_X3_beginChunk 46 = .ok (.invokevirtual 121, 3) := by decide +kernel
theorem d_X3_beginChunk_49 : decode b_X3_beginChunk 49 = .ok (.aload_n 0, 1) := by decide +kernel
theorem d_X3_beginChunk_50 : decode b_X3_beginChunk 50 = .ok (.getfield 66, 3) := by decide +kernel
theorem d_X3_beginChunk_53 : decode b_X3_beginChunk 53 = .ok (.getfield 77, 3) := by decide +kernel
theorem d_X3_beginChunk_56 : decode b_X3_beginChunk 56 = .ok (.ireturn, 1) := by decide +kernel
theorem d_X3_afterChunk_0 : decode b_X3_afterChunk 0 = .ok (.aload_n 0, 1) := by decide +kernel
theorem d_X3_afterChunk_1 : decode b_X3_afterChunk 1 = .ok (.getfield 37, 3) := by decide +kernel
theorem d_X3_afterChunk_4 : decode b_X3_afterChunk 4 = .ok (.aload_n 0, 1) := by decide +kernel
theorem d_X3_afterChunk_5 : decode b_X3_afterChunk 5 = .ok (.getfield 55, 3) := by decide +kernel
theorem d_X3_afterChunk_8 : decode b_X3_afterChunk 8 = .ok (.iadd, 1) := by decide +kernel
theorem d_X3_afterChunk_9 : decode b_X3_afterChunk 9 = .ok (.aload_n 0, 1) := by decide +kernel
theorem d_X3_afterChunk_10 : decode b_X3_afterChunk 10 = .ok (.getfield 52, 3) := by decide +kernel
theorem d_X3_afterChunk_13 : decode b_X3_afterChunk 13 = .ok (.invokestatic 127, 3) := by decide +kernel
theorem d_X3_afterChunk_16 : decode b_X3_afterChunk 16 = .ok (.ireturn, 1) := by decide +kernel
theorem d_X3_closeChunk_0 : decode b_X3_closeChunk 0 = .ok (.aload_n 0, 1) := by decide +kernel
theorem d_X3_closeChunk_1 : decode b_X3_closeChunk 1 = .ok (.getfield 44, 3) := by decide +kernel
theorem d_X3_closeChunk_4 : decode b_X3_closeChunk 4 = .ok (.iconst 1, 1) := by decide +kernel
theorem d_X3_closeChunk_5 : decode b_X3_closeChunk 5 = .ok (.iconst 0, 1) := by decide +kernel
theorem d_X3_closeChunk_6 : decode b_X3_closeChunk 6 = .ok (.invokevirtual 109, 3) := by decide +kernel
theorem d_X3_closeChunk_9 : decode b_X3_closeChunk 9 = .ok (.ifCond .ne 6, 3) := by decide +kernel
theorem d_X3_closeChunk_12 : decode b_X3_closeChunk 12 = .ok (.bipush (-4), 2) := by decide +kernel
theorem d_X3_closeChunk_14 : decode b_X3_closeChunk 14 = .ok (.ireturn, 1) := by decide +kernel
theorem d_X3_closeChunk_15 : decode b_X3_closeChunk 15 = .ok (.aload_n 0, 1) := by decide +kernel
theorem d_X3_closeChunk_16 : decode b_X3_closeChunk 16 = .ok (.getfield 66, 3) := by decide +kernel
theorem d_X3_closeChunk_19 : decode b_X3_closeChunk 19 = .ok (.aload_n 0, 1) := by decide +kernel
theorem d_X3_closeChunk_20 : decode b_X3_closeChunk 20 = .ok (.getfield 40, 3) := by decide +kernel
theorem d_X3_closeChunk_23 : decode b_X3_closeChunk 23 = .ok (.iconst 4, 1) := by decide +kernel
theorem d_X3_closeChunk_24 : decode b_X3_closeChunk 24 = .ok (.iconst (-1), 1) := by decide +kernel
theorem d_X3_closeChunk_25 : decode b_X3_closeChunk 25 = .ok (.aload_n 0, 1) := by decide +kernel
theorem d_X3_closeChunk_26 : decode b_X3_closeChunk 26 = .ok (.getfield 37, 3) := by decide +kernel
theorem d_X3_closeChunk_29 : decode b_X3_closeChunk 29 = .ok (.ldc2_w 115, 3) := by decide +kernel
theorem d_X3_closeChunk_32 : decode b_X3_closeChunk 32 = .ok (.invokevirtual 117, 3) := by decide +kernel
theorem d_X3_closeChunk_35 : decode b_X3_closeChunk 35 = .ok (.invokevirtual 124, 3) := by decide +kernel
theorem d_X3_closeChunk_38 : decode b_X3_closeChunk 38 = .ok (.aload_n 0, 1) := by decide +kernel
theorem d_X3_closeChunk_39 : decode b_X3_closeChunk 39 = .ok (.getfield 66, 3) := by decide +kernel
theorem d_X3_closeChunk_42 : decode b_X3_closeChunk 42 = .ok (.getfield 77, 3) := by decide +kernel
theorem d_X3_closeChunk_45 : decode b_X3_closeChunk 45 = .ok (.ireturn, 1) := by decide +kernel
theorem d_X3_readEntry_0 : decode b_X3_readEntry 0 = .ok (.aload_n 0, 1) := by decide +kernel
theorem d_X3_readEntry_1 : decode b_X3_readEntry 1 = .ok (.getfield 34, 3) := by decide +kernel
theorem d_X3_readEntry_4 : decode b_X3_readEntry 4 = .ok (.aload_n 0, 1) := by decide +kernel
theorem d_X3_readEntry_5 : decode b_X3_readEntry 5 = .ok (.getfield 40, 3) := by decide +kernel
theorem d_X3_readEntry_8 : decode b_X3_readEntry 8 = .ok (.getfield 94, 3) := by decide +kernel
theorem d_X3_readEntry_11 : decode b_X3_readEntry 11 = .ok (.if_icmp .lt 5, 3) := by decide +kernel
theorem d_X3_readEntry_14 : decode b_X3_readEntry 14 = .ok (.iconst 0, 1) := by decide +kernel
theorem d_X3_readEntry_15 : decode b_X3_readEntry 15 = .ok (.ireturn, 1) := by decide +kernel
theorem d_X3_readEntry_16 : decode b_X3_readEntry 16 = .ok (.aload_n 0, 1) := by decide +kernel
theorem d_X3_readEntry_17 : decode b_X3_readEntry 17 = .ok (.invokevirtual 99, 3) := by decide +kernel
theorem d_X3_readEntry_20 : decode b_X3_readEntry 20 = .ok (.ifCond .eq 17, 3) := by decide +kernel
theorem d_X3_readEntry_23 : decode b_X3_readEntry 23 = .ok (.aload_n 0, 1) := by decide +kernel
theorem d_X3_readEntry_24 : decode b_X3_readEntry 24 = .ok (.getfield 21, 3) := by decide +kernel
theorem d_X3_readEntry_27 : decode b_X3_readEntry 27 = .ok (.iconst 4, 1) := by decide +kernel
theorem d_X3_readEntry_28 : decode b_X3_readEntry 28 = .ok (.if_icmp .lt 5, 3) := by decide +kernel
theorem d_X3_readEntry_31 : decode b_X3_readEntry 31 = .ok (.iconst 0, 1) := by decide +kernel
theorem d_X3_readEntry_32 : decode b_X3_readEntry 32 = .ok (.ireturn, 1) := by decide +kernel
theorem d_X3_readEntry_33 : decode b_X3_readEntry 33 = .ok (.aload_n 0, 1) := by decide +kernel
theorem d_X3_readEntry_34 : decode b_X3_readEntry 34 = .ok (.invokevirtual 103, 3) := by decide +kernel
theorem d_X3_readEntry_37 : decode b_X3_readEntry 37 = .ok (.aload_n 0, 1) := by decide +kernel
theorem d_X3_readEntry_38 : decode b_X3_readEntry 38 = .ok (.dup, 1) := by decide +kernel
theorem d_X3_readEntry_39 : decode b_X3_readEntry 39 = .ok (.getfield 34, 3) := by decide +kernel
theorem d_X3_readEntry_42 : decode b_X3_readEntry 42 = .ok (.iconst 1, 1) := by decide +kernel
theorem d_X3_readEntry_43 : decode b_X3_readEntry 43 = .ok (.iadd, 1) := by decide +kernel
theorem d_X3_readEntry_44 : decode b_X3_readEntry 44 = .ok (.putfield 34, 3) := by decide +kernel
theorem d_X3_readEntry_47 : decode b_X3_readEntry 47 = .ok (.iconst 1, 1) := by decide +kernel
theorem d_X3_readEntry_48 : decode b_X3_readEntry 48 = .ok (.ireturn, 1) := by decide +kernel
theorem d_X3_isToBeEmitted_0 : decode b_X3_isToBeEmitted 0 = .ok (.aload_n 0, 1) := by decide +kernel
theorem d_X3_isToBeEmitted_1 : decode b_X3_isToBeEmitted 1 = .ok (.getfield 40, 3) := by decide +kernel
theorem d_X3_isToBeEmitted_4 : decode b_X3_isToBeEmitted 4 = .ok (.getfield 133, 3) := by decide +kernel
theorem d_X3_isToBeEmitted_7 : decode b_X3_isToBeEmitted 7 = .ok (.aload_n 0, 1) := by decide +kernel
theorem d_X3_isToBeEmitted_8 : decode b_X3_isToBeEmitted 8 = .ok (.getfield 34, 3) := by decide +kernel
theorem d_X3_isToBeEmitted_11 : decode b_X3_isToBeEmitted 11 = .ok (.iaload, 1) := by decide +kernel
theorem d_X3_isToBeEmitted_12 : decode b_X3_isToBeEmitted 12 = .ok (.iconst 1, 1) := by decide +kernel
theorem d_X3_isToBeEmitted_13 : decode b_X3_isToBeEmitted 13 = .ok (.if_icmp .ne 22, 3) := by decide +kernel
theorem d_X3_isToBeEmitted_16 : decode b_X3_isToBeEmitted 16 = .ok (.aload_n 0, 1) := by decide +kernel
theorem d_X3_isToBeEmitted_17 : decode b_X3_isToBeEmitted 17 = .ok (.getfield 34, 3) := by decide +kernel
theorem d_X3_isToBeEmitted_20 : decode b_X3_isToBeEmitted 20 = .ok (.aload_n 0, 1) := by decide +kernel
theorem d_X3_isToBeEmitted_21 : decode b_X3_isToBeEmitted 21 = .ok (.getfield 28, 3) := by decide +kernel
theorem d_X3_isToBeEmitted_24 : decode b_X3_isToBeEmitted 24 = .ok (.if_icmp .le 7, 3) := by decide +kernel
theorem d_X3_isToBeEmitted_27 : decode b_X3_isToBeEmitted 27 = .ok (.iconst 1, 1) := by decide +kernel
theorem d_X3_isToBeEmitted_28 : decode b_X3_isToBeEmitted 28 = .ok (.goto 18, 3) := by decide +kernel
theorem d_X3_isToBeEmitted_31 : decode b_X3_isToBeEmitted 31 = .ok (.iconst 0, 1) := by decide +kernel
theorem d_X3_isToBeEmitted_32 : decode b_X3_isToBeEmitted 32 = .ok (.goto 14, 3) := by decide +kernel
theorem d_X3_isToBeEmitted_35 : decode b_X3_isToBeEmitted 35 = .ok (.aload_n 0, 1) := by decide +kernel
theorem d_X3_isToBeEmitted_36 : decode b_X3_isToBeEmitted 36 = .ok (.getfield 66, 3) := by decide +kernel
theorem d_X3_isToBeEmitted_39 : decode b_X3_isToBeEmitted 39 = .ok (.aload_n 0, 1) := by decide +kernel
theorem d_X3_isToBeEmitted_40 : decode b_X3_isToBeEmitted 40 = .ok (.getfield 34, 3) := by decide +kernel
theorem d_X3_isToBeEmitted_43 : decode b_X3_isToBeEmitted 43 = .ok (.invokevirtual 136, 3) := by decide +kernel
theorem d_X3_isToBeEmitted_46 : decode b_X3_isToBeEmitted 46 = .ok (.ireturn, 1) := by decide +kernel
theorem d_X3_readEvent_0 : decode b_X3_readEvent 0 = .ok (.aload_n 0, 1) := by decide +kernel
theorem d_X3_readEvent_1 : decode b_X3_readEvent 1 = .ok (.invokevirtual 140, 3) := by decide +kernel
theorem d_X3_readEvent_4 : decode b_X3_readEvent 4 = .ok (.aload_n 0, 1) := by decide +kernel
theorem d_X3_readEvent_5 : decode b_X3_readEvent 5 = .ok (.getfield 40, 3) := by decide +kernel
theorem d_X3_readEvent_8 : decode b_X3_readEvent 8 = .ok (.getfield 133, 3) := by decide +kernel
theorem d_X3_readEvent_11 : decode b_X3_readEvent 11 = .ok (.aload_n 0, 1) := by decide +kernel
theorem d_X3_readEvent_12 : decode b_X3_readEvent 12 = .ok (.getfield 34, 3) := by decide +kernel
theorem d_X3_readEvent_15 : decode b_X3_readEvent 15 = .ok (.iaload, 1) := by decide +kernel
theorem d_X3_readEvent_16 : decode b_X3_readEvent 16 = .ok (.iconst 1, 1) := by decide +kernel
theorem d_X3_readEvent_17 : decode b_X3_readEvent 17 = .ok (.if_icmp .ne 22, 3) := by decide +kernel
theorem d_X3_readEvent_20 : decode b_X3_readEvent 20 = .ok (.aload_n 0, 1) := by decide +kernel
theorem d_X3_readEvent_21 : decode b_X3_readEvent 21 = .ok (.aload_n 0, 1) := by decide +kernel
theorem d_X3_readEvent_22 : decode b_X3_readEvent 22 = .ok (.getfield 40, 3) := by decide +kernel
theorem d_X3_readEvent_25 : decode b_X3_readEvent 25 = .ok (.getfield 143, 3) := by decide +kernel
theorem d_X3_readEvent_28 : decode b_X3_readEvent 28 = .ok (.aload_n 0, 1) := by decide +kernel
theorem d_X3_readEvent_29 : decode b_X3_readEvent 29 = .ok (.getfield 34, 3) := by decide +kernel
theorem d_X3_readEvent_32 : decode b_X3_readEvent 32 = .ok (.iaload, 1) := by decide +kernel
theorem d_X3_readEvent_33 : decode b_X3_readEvent 33 = .ok (.invokevirtual 146, 3) := by decide +kernel
theorem d_X3_readEvent_36 : decode b_X3_readEvent 36 = .ok (.goto 7, 3) := by decide +kernel
theorem d_X3_readEvent_39 : decode b_X3_readEvent 39 = .ok (.aload_n 0, 1) := by decide +kernel
theorem d_X3_readEvent_40 : decode b_X3_readEvent 40 = .ok (.invokevirtual 149, 3) := by decide +kernel
theorem d_X3_readEvent_43 : decode b_X3_readEvent 43 = .ok (.return_, 1) := by decide +kernel
theorem d_X3_emit_0 : decode b_X3_emit 0 = .ok (.aload_n 0, 1) := by decide +kernel
theorem d_X3_emit_1 : decode b_X3_emit 1 = .ok (.getfield 9, 3) := by decide +kernel
theorem d_X3_emit_4 : decode b_X3_emit 4 = .ok (.aload_n 0, 1) := by decide +kernel
theorem d_X3_emit_5 : decode b_X3_emit 5 = .ok (.getfield 21, 3) := by decide +kernel
theorem d_X3_emit_8 : decode b_X3_emit 8 = .ok (.aload_n 0, 1) := by decide +kernel
theorem d_X3_emit_9 : decode b_X3_emit 9 = .ok (.getfield 34, 3) := by decide +kernel
theorem d_X3_emit_12 : decode b_X3_emit 12 = .ok (.iastore, 1) := by decide +kernel
theorem d_X3_emit_13 : decode b_X3_emit 13 = .ok (.aload_n 0, 1) := by decide +kernel
theorem d_X3_emit_14 : decode b_X3_emit 14 = .ok (.getfield 15, 3) := by decide +kernel
theorem d_X3_emit_17 : decode b_X3_emit 17 = .ok (.aload_n 0, 1) := by decide +kernel
theorem d_X3_emit_18 : decode b_X3_emit 18 = .ok (.getfield 21, 3) := by decide +kernel
theorem d_X3_emit_21 : decode b_X3_emit 21 = .ok (.aload_n 0, 1) := by decide +kernel
theorem d_X3_emit_22 : decode b_X3_emit 22 = .ok (.getfield 31, 3) := by decide +kernel
theorem d_X3_emit_25 : decode b_X3_emit 25 = .ok (.iastore, 1) := by decide +kernel
theorem d_X3_emit_26 : decode b_X3_emit 26 = .ok (.aload_n 0, 1) := by decide +kernel
theorem d_X3_emit_27 : decode b_X3_emit 27 = .ok (.aload_n 0, 1) := by decide +kernel
theorem d_X3_emit_28 : decode b_X3_emit 28 = .ok (.getfield 34, 3) := by decide +kernel
theorem d_X3_emit_31 : decode b_X3_emit 31 = .ok (.putfield 31, 3) := by decide +kernel
theorem d_X3_emit_34 : decode b_X3_emit 34 = .ok (.aload_n 0, 1) := by decide +kernel
theorem d_X3_emit_35 : decode b_X3_emit 35 = .ok (.dup, 1) := by decide +kernel
theorem d_X3_emit_36 : decode b_X3_emit 36 = .ok (.getfield 21, 3) := by decide +kernel
theorem d_X3_emit_39 : decode b_X3_emit 39 = .ok (.iconst 1, 1) := by decide +kernel
theorem d_X3_emit_40 : decode b_X3_emit 40 = .ok (.iadd, 1) := by decide +kernel
theorem d_X3_emit_41 : decode b_X3_emit 41 = .ok (.putfield 21, 3) := by decide +kernel
theorem d_X3_emit_44 : decode b_X3_emit 44 = .ok (.aload_n 0, 1) := by decide +kernel
theorem d_X3_emit_45 : decode b_X3_emit 45 = .ok (.aload_n 0, 1) := by decide +kernel
theorem d_X3_emit_46 : decode b_X3_emit 46 = .ok (.getfield 21, 3) := by decide +kernel
theorem d_X3_emit_49 : decode b_X3_emit 49 = .ok (.iconst 1, 1) := by decide +kernel
theorem d_X3_emit_50 : decode b_X3_emit 50 = .ok (.isub, 1) := by decide +kernel
theorem d_X3_emit_51 : decode b_X3_emit 51 = .ok (.invokevirtual 106, 3) := by decide +kernel
theorem d_X3_emit_54 : decode b_X3_emit 54 = .ok (.return_, 1) := by decide +kernel
theorem d_X3_sendQueued_0 : decode b_X3_sendQueued 0 = .ok (.aload_n 0, 1) := by decide +kernel
theorem d_X3_sendQueued_1 : decode b_X3_sendQueued 1 = .ok (.getfield 40, 3) := by decide +kernel
theorem d_X3_sendQueued_4 : decode b_X3_sendQueued 4 = .ok (.getfield 133, 3) := by decide +kernel
theorem d_X3_sendQueued_7 : decode b_X3_sendQueued 7 = .ok (.aload_n 0, 1) := by decide +kernel
theorem d_X3_sendQueued_8 : decode b_X3_sendQueued 8 = .ok (.getfield 9, 3) := by decide +kernel
theorem d_X3_sendQueued_11 : decode b_X3_sendQueued 11 = .ok (.iload_n 1, 1) := by decide +kernel
theorem d_X3_sendQueued_12 : decode b_X3_sendQueued 12 = .ok (.iaload, 1) := by decide +kernel
theorem d_X3_sendQueued_13 : decode b_X3_sendQueued 13 = .ok (.iaload, 1) := by decide +kernel
theorem d_X3_sendQueued_14 : decode b_X3_sendQueued 14 = .ok (.iconst 4, 1) := by decide +kernel
theorem d_X3_sendQueued_15 : decode b_X3_sendQueued 15 = .ok (.if_icmp .ne 7, 3) := by decide +kernel
theorem d_X3_sendQueued_18 : decode b_X3_sendQueued 18 = .ok (.iconst 1, 1) := by decide +kernel
theorem d_X3_sendQueued_19 : decode b_X3_sendQueued 19 = .ok (.goto 4, 3) := by decide +kernel
theorem d_X3_sendQueued_22 : decode b_X3_sendQueued 22 = .ok (.iconst 0, 1) := by decide +kernel
theorem d_X3_sendQueued_23 : decode b_X3_sendQueued 23 = .ok (.istore_n 2, 1) := by decide +kernel
theorem d_X3_sendQueued_24 : decode b_X3_sendQueued 24 = .ok (.aload_n 0, 1) := by decide +kernel
theorem d_X3_sendQueued_25 : decode b_X3_sendQueued 25 = .ok (.getfield 48, 3) := by decide +kernel
theorem d_X3_sendQueued_28 : decode b_X3_sendQueued 28 = .ok (.iload_n 2, 1) := by decide +kernel
theorem d_X3_sendQueued_29 : decode b_X3_sendQueued 29 = .ok (.aload_n 0, 1) := by decide +kernel
theorem d_X3_sendQueued_30 : decode b_X3_sendQueued 30 = .ok (.getfield 9, 3) := by decide +kernel
theorem d_X3_sendQueued_33 : decode b_X3_sendQueued 33 = .ok (.iload_n 1, 1) := by decide +kernel
theorem d_X3_sendQueued_34 : decode b_X3_sendQueued 34 = .ok (.iaload, 1) := by decide +kernel
theorem d_X3_sendQueued_35 : decode b_X3_sendQueued 35 = .ok (.aload_n 0, 1) := by decide +kernel
theorem d_X3_sendQueued_36 : decode b_X3_sendQueued 36 = .ok (.getfield 15, 3) := by decide +kernel
theorem d_X3_sendQueued_39 : decode b_X3_sendQueued 39 = .ok (.iload_n 1, 1) := by decide +kernel
theorem d_X3_sendQueued_40 : decode b_X3_sendQueued 40 = .ok (.iaload, 1) := by decide +kernel
theorem d_X3_sendQueued_41 : decode b_X3_sendQueued 41 = .ok (.invokevirtual 169, 3) := by decide +kernel
theorem d_X3_sendQueued_44 : decode b_X3_sendQueued 44 = .ok (.aload_n 0, 1) := by decide +kernel
theorem d_X3_sendQueued_45 : decode b_X3_sendQueued 45 = .ok (.getfield 18, 3) := by decide +kernel
theorem d_X3_sendQueued_48 : decode b_X3_sendQueued 48 = .ok (.iload_n 1, 1) := by decide +kernel
theorem d_X3_sendQueued_49 : decode b_X3_sendQueued 49 = .ok (.aload_n 0, 1) := by decide +kernel
theorem d_X3_sendQueued_50 : decode b_X3_sendQueued 50 = .ok (.getfield 25, 3) := by decide +kernel
theorem d_X3_sendQueued_53 : decode b_X3_sendQueued 53 = .ok (.iastore, 1) := by decide +kernel
theorem d_X3_sendQueued_54 : decode b_X3_sendQueued 54 = .ok (.return_, 1) := by decide +kernel
theorem d_X3_strikeKeysOf_0 : decode b_X3_strikeKeysOf 0 = .ok (.aload_n 0, 1) := by decide +kernel
theorem d_X3_strikeKeysOf_1 : decode b_X3_strikeKeysOf 1 = .ok (.getfield 66, 3) := by decide +kernel
theorem d_X3_strikeKeysOf_4 : decode b_X3_strikeKeysOf 4 = .ok (.aload_n 0, 1) := by decide +kernel
theorem d_X3_strikeKeysOf_5 : decode b_X3_strikeKeysOf 5 = .ok (.getfield 34, 3) := by decide +kernel
theorem d_X3_strikeKeysOf_8 : decode b_X3_strikeKeysOf 8 = .ok (.invokevirtual 152, 3) := by decide +kernel
theorem d_X3_strikeKeysOf_11 : decode b_X3_strikeKeysOf 11 = .ok (.ifCond .ne 4, 3) := by decide +kernel
theorem d_X3_strikeKeysOf_14 : decode b_X3_strikeKeysOf 14 = .ok (.return_, 1) := by decide +kernel
theorem d_X3_strikeKeysOf_15 : decode b_X3_strikeKeysOf 15 = .ok (.iconst 0, 1) := by decide +kernel
theorem d_X3_strikeKeysOf_16 : decode b_X3_strikeKeysOf 16 = .ok (.istore_n 2, 1) := by decide +kernel
theorem d_X3_strikeKeysOf_17 : decode b_X3_strikeKeysOf 17 = .ok (.iload_n 2, 1) := by decide +kernel
theorem d_X3_strikeKeysOf_18 : decode b_X3_strikeKeysOf 18 = .ok (.aload_n 0, 1) := by decide +kernel
theorem d_X3_strikeKeysOf_19 : decode b_X3_strikeKeysOf 19 = .ok (.getfield 34, 3) := by decide +kernel
theorem d_X3_strikeKeysOf_22 : decode b_X3_strikeKeysOf 22 = .ok (.if_icmp .ge 39, 3) := by decide +kernel
theorem d_X3_strikeKeysOf_25 : decode b_X3_strikeKeysOf 25 = .ok (.aload_n 0, 1) := by decide +kernel
theorem d_X3_strikeKeysOf_26 : decode b_X3_strikeKeysOf 26 = .ok (.getfield 40, 3) := by decide +kernel
theorem d_X3_strikeKeysOf_29 : decode b_X3_strikeKeysOf 29 = .ok (.iload_n 2, 1) := by decide +kernel
theorem d_X3_strikeKeysOf_30 : decode b_X3_strikeKeysOf 30 = .ok (.iload_n 1, 1) := by decide +kernel
theorem d_X3_strikeKeysOf_31 : decode b_X3_strikeKeysOf 31 = .ok (.invokevirtual 155, 3) := by decide +kernel
theorem d_X3_strikeKeysOf_34 : decode b_X3_strikeKeysOf 34 = .ok (.ifCond .eq 21, 3) := by decide +kernel
theorem d_X3_strikeKeysOf_37 : decode b_X3_strikeKeysOf 37 = .ok (.aload_n 0, 1) := by decide +kernel
theorem d_X3_strikeKeysOf_38 : decode b_X3_strikeKeysOf 38 = .ok (.getfield 66, 3) := by decide +kernel
theorem d_X3_strikeKeysOf_41 : decode b_X3_strikeKeysOf 41 = .ok (.getfield 158, 3) := by decide +kernel
theorem d_X3_strikeKeysOf_44 : decode b_X3_strikeKeysOf 44 = .ok (.aload_n 0, 1) := by decide +kernel
theorem d_X3_strikeKeysOf_45 : decode b_X3_strikeKeysOf 45 = .ok (.getfield 40, 3) := by decide +kernel
theorem d_X3_strikeKeysOf_48 : decode b_X3_strikeKeysOf 48 = .ok (.getfield 162, 3) := by decide +kernel
theorem d_X3_strikeKeysOf_51 : decode b_X3_strikeKeysOf 51 = .ok (.iload_n 2, 1) := by decide +kernel
theorem d_X3_strikeKeysOf_52 : decode b_X3_strikeKeysOf 52 = .ok (.iaload, 1) := by decide +kernel
theorem d_X3_strikeKeysOf_53 : decode b_X3_strikeKeysOf 53 = .ok (.iconst 1, 1) := by decide +kernel
theorem d_X3_strikeKeysOf_54 : decode b_X3_strikeKeysOf 54 = .ok (.bastore, 1) := by decide +kernel
theorem d_X3_strikeKeysOf_55 : decode b_X3_strikeKeysOf 55 = .ok (.iinc 2 1, 3) := by decide +kernel
theorem d_X3_strikeKeysOf_58 : decode b_X3_strikeKeysOf 58 = .ok (.goto (-41), 3) := by decide +kernel
theorem d_X3_strikeKeysOf_61 : decode b_X3_strikeKeysOf 61 = .ok (.return_, 1) := by decide +kernel
theorem d_X3_bearChunk_0 : decode b_X3_bearChunk 0 = .ok (.aload_n 0, 1) := by decide +kernel
theorem d_X3_bearChunk_1 : decode b_X3_bearChunk 1 = .ok (.getfield 37, 3) := by decide +kernel
theorem d_X3_bearChunk_4 : decode b_X3_bearChunk 4 = .ok (.istore_n 1, 1) := by decide +kernel
theorem d_X3_bearChunk_5 : decode b_X3_bearChunk 5 = .ok (.iload_n 1, 1) := by decide +kernel
theorem d_X3_bearChunk_6 : decode b_X3_bearChunk 6 = .ok (.aload_n 0, 1) := by decide +kernel
theorem d_X3_bearChunk_7 : decode b_X3_bearChunk 7 = .ok (.invokevirtual 84, 3) := by decide +kernel
theorem d_X3_bearChunk_10 : decode b_X3_bearChunk 10 = .ok (.if_icmp .ge 23, 3) := by decide +kernel
theorem d_X3_bearChunk_13 : decode b_X3_bearChunk 13 = .ok (.aload_n 0, 1) := by decide +kernel
theorem d_X3_bearChunk_14 : decode b_X3_bearChunk 14 = .ok (.getfield 70, 3) := by decide +kernel
theorem d_X3_bearChunk_17 : decode b_X3_bearChunk 17 = .ok (.iload_n 1, 1) := by decide +kernel
theorem d_X3_bearChunk_18 : decode b_X3_bearChunk 18 = .ok (.aload_n 0, 1) := by decide +kernel
theorem d_X3_bearChunk_19 : decode b_X3_bearChunk 19 = .ok (.getfield 66, 3) := by decide +kernel
theorem d_X3_bearChunk_22 : decode b_X3_bearChunk 22 = .ok (.iload_n 1, 1) := by decide +kernel
theorem d_X3_bearChunk_23 : decode b_X3_bearChunk 23 = .ok (.invokevirtual 165, 3) := by decide +kernel
theorem d_X3_bearChunk_26 : decode b_X3_bearChunk 26 = .ok (.lastore, 1) := by decide +kernel
theorem d_X3_bearChunk_27 : decode b_X3_bearChunk 27 = .ok (.iinc 1 1, 3) := by decide +kernel
theorem d_X3_bearChunk_30 : decode b_X3_bearChunk 30 = .ok (.goto (-25), 3) := by decide +kernel
theorem d_X3_bearChunk_33 : decode b_X3_bearChunk 33 = .ok (.aload_n 0, 1) := by decide +kernel
theorem d_X3_bearChunk_34 : decode b_X3_bearChunk 34 = .ok (.getfield 66, 3) := by decide +kernel
theorem d_X3_bearChunk_37 : decode b_X3_bearChunk 37 = .ok (.invokevirtual 74, 3) := by decide +kernel
theorem d_X3_bearChunk_40 : decode b_X3_bearChunk 40 = .ok (.aload_n 0, 1) := by decide +kernel
theorem d_X3_bearChunk_41 : decode b_X3_bearChunk 41 = .ok (.dup, 1) := by decide +kernel
theorem d_X3_bearChunk_42 : decode b_X3_bearChunk 42 = .ok (.getfield 37, 3) := by decide +kernel
theorem d_X3_bearChunk_45 : decode b_X3_bearChunk 45 = .ok (.aload_n 0, 1) := by decide +kernel
theorem d_X3_bearChunk_46 : decode b_X3_bearChunk 46 = .ok (.getfield 55, 3) := by decide +kernel
theorem d_X3_bearChunk_49 : decode b_X3_bearChunk 49 = .ok (.iadd, 1) := by decide +kernel
theorem d_X3_bearChunk_50 : decode b_X3_bearChunk 50 = .ok (.putfield 37, 3) := by decide +kernel
theorem d_X3_bearChunk_53 : decode b_X3_bearChunk 53 = .ok (.return_, 1) := by decide +kernel
theorem d_X3_passTime_0 : decode b_X3_passTime 0 = .ok (.aload_n 0, 1) := by decide +kernel
theorem d_X3_passTime_1 : decode b_X3_passTime 1 = .ok (.dup, 1) := by decide +kernel
theorem d_X3_passTime_2 : decode b_X3_passTime 2 = .ok (.getfield 25, 3) := by decide +kernel
theorem d_X3_passTime_5 : decode b_X3_passTime 5 = .ok (.iconst 1, 1) := by decide +kernel
theorem d_X3_passTime_6 : decode b_X3_passTime 6 = .ok (.iadd, 1) := by decide +kernel
theorem d_X3_passTime_7 : decode b_X3_passTime 7 = .ok (.putfield 25, 3) := by decide +kernel
theorem d_X3_passTime_10 : decode b_X3_passTime 10 = .ok (.iconst 0, 1) := by decide +kernel
theorem d_X3_passTime_11 : decode b_X3_passTime 11 = .ok (.istore_n 1, 1) := by decide +kernel
theorem d_X3_passTime_12 : decode b_X3_passTime 12 = .ok (.iconst 0, 1) := by decide +kernel
theorem d_X3_passTime_13 : decode b_X3_passTime 13 = .ok (.istore_n 2, 1) := by decide +kernel
theorem d_X3_passTime_14 : decode b_X3_passTime 14 = .ok (.iload_n 2, 1) := by decide +kernel
theorem d_X3_passTime_15 : decode b_X3_passTime 15 = .ok (.aload_n 0, 1) := by decide +kernel
theorem d_X3_passTime_16 : decode b_X3_passTime 16 = .ok (.getfield 21, 3) := by decide +kernel
theorem d_X3_passTime_19 : decode b_X3_passTime 19 = .ok (.if_icmp .ge 35, 3) := by decide +kernel
theorem d_X3_passTime_22 : decode b_X3_passTime 22 = .ok (.aload_n 0, 1) := by decide +kernel
theorem d_X3_passTime_23 : decode b_X3_passTime 23 = .ok (.getfield 25, 3) := by decide +kernel
theorem d_X3_passTime_26 : decode b_X3_passTime 26 = .ok (.aload_n 0, 1) := by decide +kernel
theorem d_X3_passTime_27 : decode b_X3_passTime 27 = .ok (.getfield 18, 3) := by decide +kernel
theorem d_X3_passTime_30 : decode b_X3_passTime 30 = .ok (.iload_n 2, 1) := by decide +kernel
theorem d_X3_passTime_31 : decode b_X3_passTime 31 = .ok (.iaload, 1) := by decide +kernel
theorem d_X3_passTime_32 : decode b_X3_passTime 32 = .ok (.isub, 1) := by decide +kernel
theorem d_X3_passTime_33 : decode b_X3_passTime 33 = .ok (.aload_n 0, 1) := by decide +kernel
theorem d_X3_passTime_34 : decode b_X3_passTime 34 = .ok (.getfield 58, 3) := by decide +kernel
theorem d_X3_passTime_37 : decode b_X3_passTime 37 = .ok (.if_icmp .lt 11, 3) := by decide +kernel
theorem d_X3_passTime_40 : decode b_X3_passTime 40 = .ok (.aload_n 0, 1) := by decide +kernel
theorem d_X3_passTime_41 : decode b_X3_passTime 41 = .ok (.iload_n 2, 1) := by decide +kernel
theorem d_X3_passTime_42 : decode b_X3_passTime 42 = .ok (.invokevirtual 106, 3) := by decide +kernel
theorem d_X3_passTime_45 : decode b_X3_passTime 45 = .ok (.iinc 1 1, 3) := by decide +kernel
theorem d_X3_passTime_48 : decode b_X3_passTime 48 = .ok (.iinc 2 1, 3) := by decide +kernel
theorem d_X3_passTime_51 : decode b_X3_passTime 51 = .ok (.goto (-37), 3) := by decide +kernel
theorem d_X3_passTime_54 : decode b_X3_passTime 54 = .ok (.iload_n 1, 1) := by decide +kernel
theorem d_X3_passTime_55 : decode b_X3_passTime 55 = .ok (.ireturn, 1) := by decide +kernel
theorem d_X3_dropUpTo_0 : decode b_X3_dropUpTo 0 = .ok (.iconst 0, 1) := by decide +kernel
theorem d_X3_dropUpTo_1 : decode b_X3_dropUpTo 1 = .ok (.istore_n 2, 1) := by decide +kernel
theorem d_X3_dropUpTo_2 : decode b_X3_dropUpTo 2 = .ok (.iload_n 2, 1) := by decide +kernel
theorem d_X3_dropUpTo_3 : decode b_X3_dropUpTo 3 = .ok (.aload_n 0, 1) := by decide +kernel
theorem d_X3_dropUpTo_4 : decode b_X3_dropUpTo 4 = .ok (.getfield 21, 3) := by decide +kernel
theorem d_X3_dropUpTo_7 : decode b_X3_dropUpTo 7 = .ok (.if_icmp .ge 19, 3) := by decide +kernel
