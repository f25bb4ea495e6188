theorem d_M0_end_2 : decode b_M0_end 2 = .ok (.invokevirtual 142, 3) := by decide +kernel
theorem d_M0_end_5 : decode b_M0_end 5 = .ok (.ifCond .ne 6, 3) := by decide +kernel
theorem d_M0_end_8 : decode b_M0_end 8 = .ok (.bipush (-2), 2) := by decide +kernel
theorem d_M0_end_10 : decode b_M0_end 10 = .ok (.ireturn, 1) := by decide +kernel
theorem d_M0_end_11 : decode b_M0_end 11 = .ok (.iconst 0, 1) := by decide +kernel
theorem d_M0_end_12 : decode b_M0_end 12 = .ok (.istore_n 3, 1) := by decide +kernel
theorem d_M0_end_13 : decode b_M0_end 13 = .ok (.iconst 0, 1) := by decide +kernel
theorem d_M0_end_14 : decode b_M0_end 14 = .ok (.istore 4, 2) := by decide +kernel
theorem d_M0_end_16 : decode b_M0_end 16 = .ok (.iload 4, 2) := by decide +kernel
theorem d_M0_end_18 : decode b_M0_end 18 = .ok (.aload_n 0, 1) := by decide +kernel
theorem d_M0_end_19 : decode b_M0_end 19 = .ok (.getfield 130, 3) := by decide +kernel
theorem d_M0_end_22 : decode b_M0_end 22 = .ok (.if_icmp .ge 36, 3) := by decide +kernel
theorem d_M0_end_25 : decode b_M0_end 25 = .ok (.aload_n 0, 1) := by decide +kernel
theorem d_M0_end_26 : decode b_M0_end 26 = .ok (.getfield 34, 3) := by decide +kernel
theorem d_M0_end_29 : decode b_M0_end 29 = .ok (.iload 4, 2) := by decide +kernel
theorem d_M0_end_31 : decode b_M0_end 31 = .ok (.iaload, 1) := by decide +kernel
theorem d_M0_end_32 : decode b_M0_end 32 = .ok (.iload_n 1, 1) := by decide +kernel
theorem d_M0_end_33 : decode b_M0_end 33 = .ok (.if_icmp .eq 19, 3) := by decide +kernel
theorem d_M0_end_36 : decode b_M0_end 36 = .ok (.aload_n 0, 1) := by decide +kernel
theorem d_M0_end_37 : decode b_M0_end 37 = .ok (.getfield 34, 3) := by decide +kernel
theorem d_M0_end_40 : decode b_M0_end 40 = .ok (.iload_n 3, 1) := by decide +kernel
theorem d_M0_end_41 : decode b_M0_end 41 = .ok (.aload_n 0, 1) := by decide +kernel
theorem d_M0_end_42 : decode b_M0_end 42 = .ok (.getfield 34, 3) := by decide +kernel
theorem d_M0_end_45 : decode b_M0_end 45 = .ok (.iload 4, 2) := by decide +kernel
theorem d_M0_end_47 : decode b_M0_end 47 = .ok (.iaload, 1) := by decide +kernel
theorem d_M0_end_48 : decode b_M0_end 48 = .ok (.iastore, 1) := by decide +kernel
theorem d_M0_end_49 : decode b_M0_end 49 = .ok (.iinc 3 1, 3) := by decide +kernel
theorem d_M0_end_52 : decode b_M0_end 52 = .ok (.iinc 4 1, 3) := by decide +kernel
theorem d_M0_end_55 : decode b_M0_end 55 = .ok (.goto (-39), 3) := by decide +kernel
theorem d_M0_end_58 : decode b_M0_end 58 = .ok (.aload_n 0, 1) := by decide +kernel
theorem d_M0_end_59 : decode b_M0_end 59 = .ok (.iload_n 3, 1) := by decide +kernel
theorem d_M0_end_60 : decode b_M0_end 60 = .ok (.putfield 130, 3) := by decide +kernel
theorem d_M0_end_63 : decode b_M0_end 63 = .ok (.iconst 0, 1) := by decide +kernel
theorem d_M0_end_64 : decode b_M0_end 64 = .ok (.istore 4, 2) := by decide +kernel
theorem d_M0_end_66 : decode b_M0_end 66 = .ok (.iload 4, 2) := by decide +kernel
theorem d_M0_end_68 : decode b_M0_end 68 = .ok (.bipush 12, 2) := by decide +kernel
theorem d_M0_end_70 : decode b_M0_end 70 = .ok (.if_icmp .ge 38, 3) := by decide +kernel
theorem d_M0_end_73 : decode b_M0_end 73 = .ok (.aload_n 0, 1) := by decide +kernel
theorem d_M0_end_74 : decode b_M0_end 74 = .ok (.getfield 37, 3) := by decide +kernel
theorem d_M0_end_77 : decode b_M0_end 77 = .ok (.iload 4, 2) := by decide +kernel
theorem d_M0_end_79 : decode b_M0_end 79 = .ok (.aload_n 0, 1) := by decide +kernel
theorem d_M0_end_80 : decode b_M0_end 80 = .ok (.getfield 37, 3) := by decide +kernel
theorem d_M0_end_83 : decode b_M0_end 83 = .ok (.iload 4, 2) := by decide +kernel
theorem d_M0_end_85 : decode b_M0_end 85 = .ok (.iaload, 1) := by decide +kernel
theorem d_M0_end_86 : decode b_M0_end 86 = .ok (.iload_n 1, 1) := by decide +kernel
theorem d_M0_end_87 : decode b_M0_end 87 = .ok (.if_icmp .ne 7, 3) := by decide +kernel
theorem d_M0_end_90 : decode b_M0_end 90 = .ok (.iconst (-1), 1) := by decide +kernel
theorem d_M0_end_91 : decode b_M0_end 91 = .ok (.goto 10, 3) := by decide +kernel
theorem d_M0_end_94 : decode b_M0_end 94 = .ok (.aload_n 0, 1) := by decide +kernel
theorem d_M0_end_95 : decode b_M0_end 95 = .ok (.getfield 37, 3) := by decide +kernel
theorem d_M0_end_98 : decode b_M0_end 98 = .ok (.iload 4, 2) := by decide +kernel
theorem d_M0_end_100 : decode b_M0_end 100 = .ok (.iaload, 1) := by decide +kernel
theorem d_M0_end_101 : decode b_M0_end 101 = .ok (.iastore, 1) := by decide +kernel
theorem d_M0_end_102 : decode b_M0_end 102 = .ok (.iinc 4 1, 3) := by decide +kernel
theorem d_M0_end_105 : decode b_M0_end 105 = .ok (.goto (-39), 3) := by decide +kernel
theorem d_M0_end_108 : decode b_M0_end 108 = .ok (.aload_n 0, 1) := by decide +kernel
theorem d_M0_end_109 : decode b_M0_end 109 = .ok (.iload_n 2, 1) := by decide +kernel
theorem d_M0_end_110 : decode b_M0_end 110 = .ok (.ifCond .eq 7, 3) := by decide +kernel
theorem d_M0_end_113 : decode b_M0_end 113 = .ok (.iconst 3, 1) := by decide +kernel
theorem d_M0_end_114 : decode b_M0_end 114 = .ok (.goto 4, 3) := by decide +kernel
theorem d_M0_end_117 : decode b_M0_end 117 = .ok (.iconst 4, 1) := by decide +kernel
theorem d_M0_end_118 : decode b_M0_end 118 = .ok (.iload_n 1, 1) := by decide +kernel
theorem d_M0_end_119 : decode b_M0_end 119 = .ok (.iconst (-1), 1) := by decide +kernel
theorem d_M0_end_120 : decode b_M0_end 120 = .ok (.invokevirtual 148, 3) := by decide +kernel
theorem d_M0_end_123 : decode b_M0_end 123 = .ok (.ireturn, 1) := by decide +kernel
theorem d_M0_crash_0 : decode b_M0_crash 0 = .ok (.iload_n 1, 1) := by decide +kernel
theorem d_M0_crash_1 : decode b_M0_crash 1 = .ok (.ifCond .lt 8, 3) := by decide +kernel
theorem d_M0_crash_4 : decode b_M0_crash 4 = .ok (.iload_n 1, 1) := by decide +kernel
theorem d_M0_crash_5 : decode b_M0_crash 5 = .ok (.iconst 2, 1) := by decide +kernel
theorem d_M0_crash_6 : decode b_M0_crash 6 = .ok (.if_icmp .le 5, 3) := by decide +kernel
theorem d_M0_crash_9 : decode b_M0_crash 9 = .ok (.iconst 0, 1) := by decide +kernel
theorem d_M0_crash_10 : decode b_M0_crash 10 = .ok (.ireturn, 1) := by decide +kernel
theorem d_M0_crash_11 : decode b_M0_crash 11 = .ok (.iload_n 1, 1) := by decide +kernel
theorem d_M0_crash_12 : decode b_M0_crash 12 = .ok (.ifCond .ne 37, 3) := by decide +kernel
theorem d_M0_crash_15 : decode b_M0_crash 15 = .ok (.iconst 0, 1) := by decide +kernel
theorem d_M0_crash_16 : decode b_M0_crash 16 = .ok (.istore_n 2, 1) := by decide +kernel
theorem d_M0_crash_17 : decode b_M0_crash 17 = .ok (.iload_n 2, 1) := by decide +kernel
theorem d_M0_crash_18 : decode b_M0_crash 18 = .ok (.iconst 4, 1) := by decide +kernel
theorem d_M0_crash_19 : decode b_M0_crash 19 = .ok (.if_icmp .ge 28, 3) := by decide +kernel
theorem d_M0_crash_22 : decode b_M0_crash 22 = .ok (.aload_n 0, 1) := by decide +kernel
theorem d_M0_crash_23 : decode b_M0_crash 23 = .ok (.getfield 130, 3) := by decide +kernel
theorem d_M0_crash_26 : decode b_M0_crash 26 = .ok (.ifCond .le 15, 3) := by decide +kernel
theorem d_M0_crash_29 : decode b_M0_crash 29 = .ok (.aload_n 0, 1) := by decide +kernel
theorem d_M0_crash_30 : decode b_M0_crash 30 = .ok (.aload_n 0, 1) := by decide +kernel
theorem d_M0_crash_31 : decode b_M0_crash 31 = .ok (.getfield 34, 3) := by decide +kernel
theorem d_M0_crash_34 : decode b_M0_crash 34 = .ok (.iconst 0, 1) := by decide +kernel
theorem d_M0_crash_35 : decode b_M0_crash 35 = .ok (.iaload, 1) := by decide +kernel
theorem d_M0_crash_36 : decode b_M0_crash 36 = .ok (.iconst 0, 1) := by decide +kernel
theorem d_M0_crash_37 : decode b_M0_crash 37 = .ok (.invokevirtual 154, 3) := by decide +kernel
theorem d_M0_crash_40 : decode b_M0_crash 40 = .ok (.istore_n 3, 1) := by decide +kernel
theorem d_M0_crash_41 : decode b_M0_crash 41 = .ok (.iinc 2 1, 3) := by decide +kernel
theorem d_M0_crash_44 : decode b_M0_crash 44 = .ok (.goto (-27), 3) := by decide +kernel
theorem d_M0_crash_47 : decode b_M0_crash 47 = .ok (.iconst 1, 1) := by decide +kernel
theorem d_M0_crash_48 : decode b_M0_crash 48 = .ok (.ireturn, 1) := by decide +kernel
theorem d_M0_crash_49 : decode b_M0_crash 49 = .ok (.aload_n 0, 1) := by decide +kernel
theorem d_M0_crash_50 : decode b_M0_crash 50 = .ok (.iconst (-1), 1) := by decide +kernel
theorem d_M0_crash_51 : decode b_M0_crash 51 = .ok (.putfield 71, 3) := by decide +kernel
theorem d_M0_crash_54 : decode b_M0_crash 54 = .ok (.iload_n 1, 1) := by decide +kernel
theorem d_M0_crash_55 : decode b_M0_crash 55 = .ok (.iconst 1, 1) := by decide +kernel
theorem d_M0_crash_56 : decode b_M0_crash 56 = .ok (.if_icmp .ne 52, 3) := by decide +kernel
theorem d_M0_crash_59 : decode b_M0_crash 59 = .ok (.aload_n 0, 1) := by decide +kernel
theorem d_M0_crash_60 : decode b_M0_crash 60 = .ok (.iconst 0, 1) := by decide +kernel
theorem d_M0_crash_61 : decode b_M0_crash 61 = .ok (.putfield 158, 3) := by decide +kernel
theorem d_M0_crash_64 : decode b_M0_crash 64 = .ok (.aload_n 0, 1) := by decide +kernel
theorem d_M0_crash_65 : decode b_M0_crash 65 = .ok (.iconst 0, 1) := by decide +kernel
theorem d_M0_crash_66 : decode b_M0_crash 66 = .ok (.putfield 161, 3) := by decide +kernel
theorem d_M0_crash_69 : decode b_M0_crash 69 = .ok (.aload_n 0, 1) := by decide +kernel
theorem d_M0_crash_70 : decode b_M0_crash 70 = .ok (.dup, 1) := by decide +kernel
theorem d_M0_crash_71 : decode b_M0_crash 71 = .ok (.getfield 164, 3) := by decide +kernel
theorem d_M0_crash_74 : decode b_M0_crash 74 = .ok (.iconst 1, 1) := by decide +kernel
theorem d_M0_crash_75 : decode b_M0_crash 75 = .ok (.iadd, 1) := by decide +kernel
theorem d_M0_crash_76 : decode b_M0_crash 76 = .ok (.putfield 164, 3) := by decide +kernel
theorem d_M0_crash_79 : decode b_M0_crash 79 = .ok (.aload_n 0, 1) := by decide +kernel
theorem d_M0_crash_80 : decode b_M0_crash 80 = .ok (.aload_n 0, 1) := by decide +kernel
theorem d_M0_crash_81 : decode b_M0_crash 81 = .ok (.invokevirtual 167, 3) := by decide +kernel
theorem d_M0_crash_84 : decode b_M0_crash 84 = .ok (.putfield 40, 3) := by decide +kernel
theorem d_M0_crash_87 : decode b_M0_crash 87 = .ok (.aload_n 0, 1) := by decide +kernel
theorem d_M0_crash_88 : decode b_M0_crash 88 = .ok (.aload_n 0, 1) := by decide +kernel
theorem d_M0_crash_89 : decode b_M0_crash 89 = .ok (.getfield 40, 3) := by decide +kernel
theorem d_M0_crash_92 : decode b_M0_crash 92 = .ok (.putfield 44, 3) := by decide +kernel
theorem d_M0_crash_95 : decode b_M0_crash 95 = .ok (.aload_n 0, 1) := by decide +kernel
theorem d_M0_crash_96 : decode b_M0_crash 96 = .ok (.iconst 0, 1) := by decide +kernel
theorem d_M0_crash_97 : decode b_M0_crash 97 = .ok (.putfield 171, 3) := by decide +kernel
theorem d_M0_crash_100 : decode b_M0_crash 100 = .ok (.aload_n 0, 1) := by decide +kernel
theorem d_M0_crash_101 : decode b_M0_crash 101 = .ok (.aload_n 0, 1) := by decide +kernel
theorem d_M0_crash_102 : decode b_M0_crash 102 = .ok (.invokevirtual 174, 3) := by decide +kernel
theorem d_M0_crash_105 : decode b_M0_crash 105 = .ok (.putfield 177, 3) := by decide +kernel
theorem d_M0_crash_108 : decode b_M0_crash 108 = .ok (.iconst 1, 1) := by decide +kernel
theorem d_M0_crash_109 : decode b_M0_crash 109 = .ok (.ireturn, 1) := by decide +kernel
theorem d_M0_snapshot_0 : decode b_M0_snapshot 0 = .ok (.aload_n 0, 1) := by decide +kernel
theorem d_M0_snapshot_1 : decode b_M0_snapshot 1 = .ok (.getfield 161, 3) := by decide +kernel
theorem d_M0_snapshot_4 : decode b_M0_snapshot 4 = .ok (.iconst 3, 1) := by decide +kernel
theorem d_M0_snapshot_5 : decode b_M0_snapshot 5 = .ok (.if_icmp .eq 21, 3) := by decide +kernel
theorem d_M0_snapshot_8 : decode b_M0_snapshot 8 = .ok (.aload_n 0, 1) := by decide +kernel
theorem d_M0_snapshot_9 : decode b_M0_snapshot 9 = .ok (.getfield 161, 3) := by decide +kernel
theorem d_M0_snapshot_12 : decode b_M0_snapshot 12 = .ok (.ifCond .ne 17, 3) := by decide +kernel
theorem d_M0_snapshot_15 : decode b_M0_snapshot 15 = .ok (.aload_n 0, 1) := by decide +kernel
theorem d_M0_snapshot_16 : decode b_M0_snapshot 16 = .ok (.getfield 177, 3) := by decide +kernel
theorem d_M0_snapshot_19 : decode b_M0_snapshot 19 = .ok (.aload_n 0, 1) := by decide +kernel
theorem d_M0_snapshot_20 : decode b_M0_snapshot 20 = .ok (.getfield 74, 3) := by decide +kernel
theorem d_M0_snapshot_23 : decode b_M0_snapshot 23 = .ok (.if_icmp .lt 6, 3) := by decide +kernel
theorem d_M0_snapshot_26 : decode b_M0_snapshot 26 = .ok (.bipush (-2), 2) := by decide +kernel
theorem d_M0_snapshot_28 : decode b_M0_snapshot 28 = .ok (.ireturn, 1) := by decide +kernel
theorem d_M0_snapshot_29 : decode b_M0_snapshot 29 = .ok (.aload_n 0, 1) := by decide +kernel
theorem d_M0_snapshot_30 : decode b_M0_snapshot 30 = .ok (.getfield 161, 3) := by decide +kernel
theorem d_M0_snapshot_33 : decode b_M0_snapshot 33 = .ok (.iconst 1, 1) := by decide +kernel
theorem d_M0_snapshot_34 : decode b_M0_snapshot 34 = .ok (.if_icmp .ne 18, 3) := by decide +kernel
theorem d_M0_snapshot_37 : decode b_M0_snapshot 37 = .ok (.aload_n 0, 1) := by decide +kernel
theorem d_M0_snapshot_38 : decode b_M0_snapshot 38 = .ok (.iconst 2, 1) := by decide +kernel
theorem d_M0_snapshot_39 : decode b_M0_snapshot 39 = .ok (.putfield 161, 3) := by decide +kernel
theorem d_M0_snapshot_42 : decode b_M0_snapshot 42 = .ok (.aload_n 0, 1) := by decide +kernel
theorem d_M0_snapshot_43 : decode b_M0_snapshot 43 = .ok (.aload_n 0, 1) := by decide +kernel
theorem d_M0_snapshot_44 : decode b_M0_snapshot 44 = .ok (.getfield 133, 3) := by decide +kernel
theorem d_M0_snapshot_47 : decode b_M0_snapshot 47 = .ok (.putfield 180, 3) := by decide +kernel
theorem d_M0_snapshot_50 : decode b_M0_snapshot 50 = .ok (.iconst 2, 1) := by decide +kernel
theorem d_M0_snapshot_51 : decode b_M0_snapshot 51 = .ok (.ireturn, 1) := by decide +kernel
theorem d_M0_snapshot_52 : decode b_M0_snapshot 52 = .ok (.aload_n 0, 1) := by decide +kernel
theorem d_M0_snapshot_53 : decode b_M0_snapshot 53 = .ok (.iconst 1, 1) := by decide +kernel
theorem d_M0_snapshot_54 : decode b_M0_snapshot 54 = .ok (.iconst 0, 1) := by decide +kernel
theorem d_M0_snapshot_55 : decode b_M0_snapshot 55 = .ok (.invokevirtual 136, 3) := by decide +kernel
theorem d_M0_snapshot_58 : decode b_M0_snapshot 58 = .ok (.ifCond .ne 6, 3) := by decide +kernel
theorem d_M0_snapshot_61 : decode b_M0_snapshot 61 = .ok (.bipush (-4), 2) := by decide +kernel
theorem d_M0_snapshot_63 : decode b_M0_snapshot 63 = .ok (.ireturn, 1) := by decide +kernel
theorem d_M0_snapshot_64 : decode b_M0_snapshot 64 = .ok (.aload_n 0, 1) := by decide +kernel
theorem d_M0_snapshot_65 : decode b_M0_snapshot 65 = .ok (.getfield 161, 3) := by decide +kernel
theorem d_M0_snapshot_68 : decode b_M0_snapshot 68 = .ok (.ifCond .ne 21, 3) := by decide +kernel
theorem d_M0_snapshot_71 : decode b_M0_snapshot 71 = .ok (.aload_n 0, 1) := by decide +kernel
theorem d_M0_snapshot_72 : decode b_M0_snapshot 72 = .ok (.aload_n 0, 1) := by decide +kernel
theorem d_M0_snapshot_73 : decode b_M0_snapshot 73 = .ok (.iconst 5, 1) := by decide +kernel
theorem d_M0_snapshot_74 : decode b_M0_snapshot 74 = .ok (.iconst (-1), 1) := by decide +kernel
theorem d_M0_snapshot_75 : decode b_M0_snapshot 75 = .ok (.iconst (-1), 1) := by decide +kernel
theorem d_M0_snapshot_76 : decode b_M0_snapshot 76 = .ok (.invokevirtual 148, 3) := by decide +kernel
theorem d_M0_snapshot_79 : decode b_M0_snapshot 79 = .ok (.putfield 183, 3) := by decide +kernel
theorem d_M0_snapshot_82 : decode b_M0_snapshot 82 = .ok (.aload_n 0, 1) := by decide +kernel
theorem d_M0_snapshot_83 : decode b_M0_snapshot 83 = .ok (.iconst 1, 1) := by decide +kernel
theorem d_M0_snapshot_84 : decode b_M0_snapshot 84 = .ok (.putfield 161, 3) := by decide +kernel
theorem d_M0_snapshot_87 : decode b_M0_snapshot 87 = .ok (.iconst 1, 1) := by decide +kernel
theorem d_M0_snapshot_88 : decode b_M0_snapshot 88 = .ok (.ireturn, 1) := by decide +kernel
theorem d_M0_snapshot_89 : decode b_M0_snapshot 89 = .ok (.aload_n 0, 1) := by decide +kernel
theorem d_M0_snapshot_90 : decode b_M0_snapshot 90 = .ok (.aload_n 0, 1) := by decide +kernel
theorem d_M0_snapshot_91 : decode b_M0_snapshot 91 = .ok (.bipush 6, 2) := by decide +kernel
theorem d_M0_snapshot_93 : decode b_M0_snapshot 93 = .ok (.iconst (-1), 1) := by decide +kernel
theorem d_M0_snapshot_94 : decode b_M0_snapshot 94 = .ok (.iconst (-1), 1) := by decide +kernel
theorem d_M0_snapshot_95 : decode b_M0_snapshot 95 = .ok (.invokevirtual 148, 3) := by decide +kernel
theorem d_M0_snapshot_98 : decode b_M0_snapshot 98 = .ok (.putfield 186, 3) := by decide +kernel
theorem d_M0_snapshot_101 : decode b_M0_snapshot 101 = .ok (.aload_n 0, 1) := by decide +kernel
theorem d_M0_snapshot_102 : decode b_M0_snapshot 102 = .ok (.getfield 25, 3) := by decide +kernel
theorem d_M0_snapshot_105 : decode b_M0_snapshot 105 = .ok (.aload_n 0, 1) := by decide +kernel
theorem d_M0_snapshot_106 : decode b_M0_snapshot 106 = .ok (.getfield 186, 3) := by decide +kernel
theorem d_M0_snapshot_109 : decode b_M0_snapshot 109 = .ok (.aload_n 0, 1) := by decide +kernel
theorem d_M0_snapshot_110 : decode b_M0_snapshot 110 = .ok (.getfield 183, 3) := by decide +kernel
theorem d_M0_snapshot_113 : decode b_M0_snapshot 113 = .ok (.iastore, 1) := by decide +kernel
theorem d_M0_snapshot_114 : decode b_M0_snapshot 114 = .ok (.aload_n 0, 1) := by decide +kernel
theorem d_M0_snapshot_115 : decode b_M0_snapshot 115 = .ok (.getfield 28, 3) := by decide +kernel
theorem d_M0_snapshot_118 : decode b_M0_snapshot 118 = .ok (.aload_n 0, 1) := by decide +kernel
theorem d_M0_snapshot_119 : decode b_M0_snapshot 119 = .ok (.getfield 186, 3) := by decide +kernel
theorem d_M0_snapshot_122 : decode b_M0_snapshot 122 = .ok (.aload_n 0, 1) := by decide +kernel
theorem d_M0_snapshot_123 : decode b_M0_snapshot 123 = .ok (.getfield 180, 3) := by decide +kernel
theorem d_M0_snapshot_126 : decode b_M0_snapshot 126 = .ok (.iastore, 1) := by decide +kernel
theorem d_M0_snapshot_127 : decode b_M0_snapshot 127 = .ok (.aload_n 0, 1) := by decide +kernel
theorem d_M0_snapshot_128 : decode b_M0_snapshot 128 = .ok (.getfield 31, 3) := by decide +kernel
theorem d_M0_snapshot_131 : decode b_M0_snapshot 131 = .ok (.aload_n 0, 1) := by decide +kernel
theorem d_M0_snapshot_132 : decode b_M0_snapshot 132 = .ok (.getfield 186, 3) := by decide +kernel
theorem d_M0_snapshot_135 : decode b_M0_snapshot 135 = .ok (.aload_n 0, 1) := by decide +kernel
theorem d_M0_snapshot_136 : decode b_M0_snapshot 136 = .ok (.getfield 177, 3) := by decide +kernel
theorem d_M0_snapshot_139 : decode b_M0_snapshot 139 = .ok (.iastore, 1) := by decide +kernel
theorem d_M0_snapshot_140 : decode b_M0_snapshot 140 = .ok (.aload_n 0, 1) := by decide +kernel
theorem d_M0_snapshot_141 : decode b_M0_snapshot 141 = .ok (.iconst 3, 1) := by decide +kernel
theorem d_M0_snapshot_142 : decode b_M0_snapshot 142 = .ok (.putfield 161, 3) := by decide +kernel
theorem d_M0_snapshot_145 : decode b_M0_snapshot 145 = .ok (.iconst 3, 1) := by decide +kernel
theorem d_M0_snapshot_146 : decode b_M0_snapshot 146 = .ok (.ireturn, 1) := by decide +kernel
theorem d_M0_step_0 : decode b_M0_step 0 = .ok (.iload_n 1, 1) := by decide +kernel
theorem d_M0_step_1 : decode b_M0_step 1 = .ok (.ifCond .lt 9, 3) := by decide +kernel
theorem d_M0_step_4 : decode b_M0_step 4 = .ok (.iload_n 1, 1) := by decide +kernel
theorem d_M0_step_5 : decode b_M0_step 5 = .ok (.bipush 100, 2) := by decide +kernel
theorem d_M0_step_7 : decode b_M0_step 7 = .ok (.if_icmp .le 6, 3) := by decide +kernel
theorem d_M0_step_10 : decode b_M0_step 10 = .ok (.bipush (-2), 2) := by decide +kernel
theorem d_M0_step_12 : decode b_M0_step 12 = .ok (.ireturn, 1) := by decide +kernel
theorem d_M0_step_13 : decode b_M0_step 13 = .ok (.iconst 0, 1) := by decide +kernel
theorem d_M0_step_14 : decode b_M0_step 14 = .ok (.istore_n 2, 1) := by decide +kernel
theorem d_M0_step_15 : decode b_M0_step 15 = .ok (.iconst 0, 1) := by decide +kernel
theorem d_M0_step_16 : decode b_M0_step 16 = .ok (.istore_n 3, 1) := by decide +kernel
theorem d_M0_step_17 : decode b_M0_step 17 = .ok (.iload_n 2, 1) := by decide +kernel
theorem d_M0_step_18 : decode b_M0_step 18 = .ok (.iload_n 1, 1) := by decide +kernel
theorem d_M0_step_19 : decode b_M0_step 19 = .ok (.if_icmp .ge 177, 3) := by decide +kernel
theorem d_M0_step_22 : decode b_M0_step 22 = .ok (.aload_n 0, 1) := by decide +kernel
theorem d_M0_step_23 : decode b_M0_step 23 = .ok (.getfield 171, 3) := by decide +kernel
theorem d_M0_step_26 : decode b_M0_step 26 = .ok (.aload_n 0, 1) := by decide +kernel
theorem d_M0_step_27 : decode b_M0_step 27 = .ok (.getfield 133, 3) := by decide +kernel
theorem d_M0_step_30 : decode b_M0_step 30 = .ok (.if_icmp .ge 166, 3) := by decide +kernel
theorem d_M0_step_33 : decode b_M0_step 33 = .ok (.iload_n 3, 1) := by decide +kernel
theorem d_M0_step_34 : decode b_M0_step 34 = .ok (.ifCond .ne 162, 3) := by decide +kernel
theorem d_M0_step_37 : decode b_M0_step 37 = .ok (.aload_n 0, 1) := by decide +kernel
theorem d_M0_step_38 : decode b_M0_step 38 = .ok (.getfield 7, 3) := by decide +kernel
theorem d_M0_step_41 : decode b_M0_step 41 = .ok (.aload_n 0, 1) := by decide +kernel
theorem d_M0_step_42 : decode b_M0_step 42 = .ok (.getfield 171, 3) := by decide +kernel
theorem d_M0_step_45 : decode b_M0_step 45 = .ok (.iaload, 1) := by decide +kernel
theorem d_M0_step_46 : decode b_M0_step 46 = .ok (.bipush 6, 2) := by decide +kernel
theorem d_M0_step_48 : decode b_M0_step 48 = .ok (.if_icmp .ne 26, 3) := by decide +kernel
theorem d_M0_step_51 : decode b_M0_step 51 = .ok (.aload_n 0, 1) := by decide +kernel
theorem d_M0_step_52 : decode b_M0_step 52 = .ok (.getfield 161, 3) := by decide +kernel
theorem d_M0_step_55 : decode b_M0_step 55 = .ok (.iconst 3, 1) := by decide +kernel
theorem d_M0_step_56 : decode b_M0_step 56 = .ok (.if_icmp .ne 18, 3) := by decide +kernel
theorem d_M0_step_59 : decode b_M0_step 59 = .ok (.aload_n 0, 1) := by decide +kernel
theorem d_M0_step_60 : decode b_M0_step 60 = .ok (.getfield 171, 3) := by decide +kernel
theorem d_M0_step_63 : decode b_M0_step 63 = .ok (.aload_n 0, 1) := by decide +kernel
theorem d_M0_step_64 : decode b_M0_step 64 = .ok (.getfield 186, 3) := by decide +kernel
theorem d_M0_step_67 : decode b_M0_step 67 = .ok (.if_icmp .ne 7, 3) := by decide +kernel
theorem d_M0_step_70 : decode b_M0_step 70 = .ok (.iconst 1, 1) := by decide +kernel
theorem d_M0_step_71 : decode b_M0_step 71 = .ok (.goto 4, 3) := by decide +kernel
theorem d_M0_step_74 : decode b_M0_step 74 = .ok (.iconst 0, 1) := by decide +kernel
theorem d_M0_step_75 : decode b_M0_step 75 = .ok (.istore 4, 2) := by decide +kernel
theorem d_M0_step_77 : decode b_M0_step 77 = .ok (.iload 4, 2) := by decide +kernel
theorem d_M0_step_79 : decode b_M0_step 79 = .ok (.ifCond .ne 27, 3) := by decide +kernel
theorem d_M0_step_82 : decode b_M0_step 82 = .ok (.aload_n 0, 1) := by decide +kernel
theorem d_M0_step_83 : decode b_M0_step 83 = .ok (.getfield 7, 3) := by decide +kernel
theorem d_M0_step_86 : decode b_M0_step 86 = .ok (.aload_n 0, 1) := by decide +kernel
theorem d_M0_step_87 : decode b_M0_step 87 = .ok (.getfield 171, 3) := by decide +kernel
theorem d_M0_step_90 : decode b_M0_step 90 = .ok (.iaload, 1) := by decide +kernel
theorem d_M0_step_91 : decode b_M0_step 91 = .ok (.iconst 3, 1) := by decide +kernel
theorem d_M0_step_92 : decode b_M0_step 92 = .ok (.if_icmp .ne 18, 3) := by decide +kernel
theorem d_M0_step_95 : decode b_M0_step 95 = .ok (.aload_n 0, 1) := by decide +kernel
theorem d_M0_step_96 : decode b_M0_step 96 = .ok (.getfield 171, 3) := by decide +kernel
theorem d_M0_step_99 : decode b_M0_step 99 = .ok (.aload_n 0, 1) := by decide +kernel
theorem d_M0_step_100 : decode b_M0_step 100 = .ok (.getfield 40, 3) := by decide +kernel
theorem d_M0_step_103 : decode b_M0_step 103 = .ok (.if_icmp .le 7, 3) := by decide +kernel
theorem d_M0_step_106 : decode b_M0_step 106 = .ok (.iconst 1, 1) := by decide +kernel
theorem d_M0_step_107 : decode b_M0_step 107 = .ok (.goto 4, 3) := by decide +kernel
theorem d_M0_step_110 : decode b_M0_step 110 = .ok (.iconst 0, 1) := by decide +kernel
theorem d_M0_step_111 : decode b_M0_step 111 = .ok (.istore 5, 2) := by decide +kernel
theorem d_M0_step_113 : decode b_M0_step 113 = .ok (.iload 5, 2) := by decide +kernel
theorem d_M0_step_115 : decode b_M0_step 115 = .ok (.ifCond .eq 15, 3) := by decide +kernel
theorem d_M0_step_118 : decode b_M0_step 118 = .ok (.aload_n 0, 1) := by decide +kernel
theorem d_M0_step_119 : decode b_M0_step 119 = .ok (.getfield 158, 3) := by decide +kernel
theorem d_M0_step_122 : decode b_M0_step 122 = .ok (.iconst 4, 1) := by decide +kernel
theorem d_M0_step_123 : decode b_M0_step 123 = .ok (.if_icmp .lt 7, 3) := by decide +kernel
theorem d_M0_step_126 : decode b_M0_step 126 = .ok (.iconst 1, 1) := by decide +kernel
theorem d_M0_step_127 : decode b_M0_step 127 = .ok (.goto 4, 3) := by decide +kernel
theorem d_M0_step_130 : decode b_M0_step 130 = .ok (.iconst 0, 1) := by decide +kernel
theorem d_M0_step_131 : decode b_M0_step 131 = .ok (.istore_n 3, 1) := by decide +kernel
theorem d_M0_step_132 : decode b_M0_step 132 = .ok (.iload 5, 2) := by decide +kernel
theorem d_M0_step_134 : decode b_M0_step 134 = .ok (.ifCond .eq 15, 3) := by decide +kernel
theorem d_M0_step_137 : decode b_M0_step 137 = .ok (.iload_n 3, 1) := by decide +kernel
theorem d_M0_step_138 : decode b_M0_step 138 = .ok (.ifCond .ne 11, 3) := by decide +kernel
theorem d_M0_step_141 : decode b_M0_step 141 = .ok (.aload_n 0, 1) := by decide +kernel
theorem d_M0_step_142 : decode b_M0_step 142 = .ok (.aload_n 0, 1) := by decide +kernel
theorem d_M0_step_143 : decode b_M0_step 143 = .ok (.getfield 171, 3) := by decide +kernel
theorem d_M0_step_146 : decode b_M0_step 146 = .ok (.invokevirtual 189, 3) := by decide +kernel
theorem d_M0_step_149 : decode b_M0_step 149 = .ok (.iload 4, 2) := by decide +kernel
theorem d_M0_step_151 : decode b_M0_step 151 = .ok (.ifCond .eq 25, 3) := by decide +kernel
theorem d_M0_step_154 : decode b_M0_step 154 = .ok (.iload_n 3, 1) := by decide +kernel
theorem d_M0_step_155 : decode b_M0_step 155 = .ok (.ifCond .ne 21, 3) := by decide +kernel
theorem d_M0_step_158 : decode b_M0_step 158 = .ok (.aload_n 0, 1) := by decide +kernel
theorem d_M0_step_159 : decode b_M0_step 159 = .ok (.iconst 0, 1) := by decide +kernel
theorem d_M0_step_160 : decode b_M0_step 160 = .ok (.putfield 161, 3) := by decide +kernel
theorem d_M0_step_163 : decode b_M0_step 163 = .ok (.aload_n 0, 1) := by decide +kernel
theorem d_M0_step_164 : decode b_M0_step 164 = .ok (.dup, 1) := by decide +kernel
theorem d_M0_step_165 : decode b_M0_step 165 = .ok (.getfield 177, 3) := by decide +kernel
theorem d_M0_step_168 : decode b_M0_step 168 = .ok (.aload_n 0, 1) := by decide +kernel
theorem d_M0_step_169 : decode b_M0_step 169 = .ok (.getfield 77, 3) := by decide +kernel
theorem d_M0_step_172 : decode b_M0_step 172 = .ok (.iadd, 1) := by decide +kernel
theorem d_M0_step_173 : decode b_M0_step 173 = .ok (.putfield 177, 3) := by decide +kernel
theorem d_M0_step_176 : decode b_M0_step 176 = .ok (.iload_n 3, 1) := by decide +kernel
theorem d_M0_step_177 : decode b_M0_step 177 = .ok (.ifCond .ne 16, 3) := by decide +kernel
theorem d_M0_step_180 : decode b_M0_step 180 = .ok (.aload_n 0, 1) := by decide +kernel
theorem d_M0_step_181 : decode b_M0_step 181 = .ok (.dup, 1) := by decide +kernel
theorem d_M0_step_182 : decode b_M0_step 182 = .ok (.getfield 171, 3) := by decide +kernel
theorem d_M0_step_185 : decode b_M0_step 185 = .ok (.iconst 1, 1) := by decide +kernel
theorem d_M0_step_186 : decode b_M0_step 186 = .ok (.iadd, 1) := by decide +kernel
theorem d_M0_step_187 : decode b_M0_step 187 = .ok (.putfield 171, 3) := by decide +kernel
theorem d_M0_step_190 : decode b_M0_step 190 = .ok (.iinc 2 1, 3) := by decide +kernel
theorem d_M0_step_193 : decode b_M0_step 193 = .ok (.goto (-176), 3) := by decide +kernel
theorem d_M0_step_196 : decode b_M0_step 196 = .ok (.iload_n 2, 1) := by decide +kernel
theorem d_M0_step_197 : decode b_M0_step 197 = .ok (.ireturn, 1) := by decide +kernel
theorem d_M0_emit_0 : decode b_M0_emit 0 = .ok (.aload_n 0, 1) := by decide +kernel
theorem d_M0_emit_1 : decode b_M0_emit 1 = .ok (.getfield 47, 3) := by decide +kernel
theorem d_M0_emit_4 : decode b_M0_emit 4 = .ok (.aload_n 0, 1) := by decide +kernel
theorem d_M0_emit_5 : decode b_M0_emit 5 = .ok (.getfield 158, 3) := by decide +kernel
theorem d_M0_emit_8 : decode b_M0_emit 8 = .ok (.iload_n 1, 1) := by decide +kernel
theorem d_M0_emit_9 : decode b_M0_emit 9 = .ok (.iastore, 1) := by decide +kernel
theorem d_M0_emit_10 : decode b_M0_emit 10 = .ok (.aload_n 0, 1) := by decide +kernel
theorem d_M0_emit_11 : decode b_M0_emit 11 = .ok (.getfield 50, 3) := by decide +kernel
theorem d_M0_emit_14 : decode b_M0_emit 14 = .ok (.aload_n 0, 1) := by decide +kernel
theorem d_M0_emit_15 : decode b_M0_emit 15 = .ok (.getfield 158, 3) := by decide +kernel
theorem d_M0_emit_18 : decode b_M0_emit 18 = .ok (.aload_n 0, 1) := by decide +kernel
theorem d_M0_emit_19 : decode b_M0_emit 19 = .ok (.getfield 44, 3) := by decide +kernel
theorem d_M0_emit_22 : decode b_M0_emit 22 = .ok (.iastore, 1) := by decide +kernel
theorem d_M0_emit_23 : decode b_M0_emit 23 = .ok (.aload_n 0, 1) := by decide +kernel
theorem d_M0_emit_24 : decode b_M0_emit 24 = .ok (.iload_n 1, 1) := by decide +kernel
theorem d_M0_emit_25 : decode b_M0_emit 25 = .ok (.putfield 44, 3) := by decide +kernel
theorem d_M0_emit_28 : decode b_M0_emit 28 = .ok (.aload_n 0, 1) := by decide +kernel
theorem d_M0_emit_29 : decode b_M0_emit 29 = .ok (.dup, 1) := by decide +kernel
theorem d_M0_emit_30 : decode b_M0_emit 30 = .ok (.getfield 158, 3) := by decide +kernel
theorem d_M0_emit_33 : decode b_M0_emit 33 = .ok (.iconst 1, 1) := by decide +kernel
theorem d_M0_emit_34 : decode b_M0_emit 34 = .ok (.iadd, 1) := by decide +kernel
theorem d_M0_emit_35 : decode b_M0_emit 35 = .ok (.putfield 158, 3) := by decide +kernel
theorem d_M0_emit_38 : decode b_M0_emit 38 = .ok (.aload_n 0, 1) := by decide +kernel
theorem d_M0_emit_39 : decode b_M0_emit 39 = .ok (.aload_n 0, 1) := by decide +kernel
theorem d_M0_emit_40 : decode b_M0_emit 40 = .ok (.getfield 158, 3) := by decide +kernel
theorem d_M0_emit_43 : decode b_M0_emit 43 = .ok (.iconst 1, 1) := by decide +kernel
theorem d_M0_emit_44 : decode b_M0_emit 44 = .ok (.isub, 1) := by decide +kernel
theorem d_M0_emit_45 : decode b_M0_emit 45 = .ok (.invokevirtual 193, 3) := by decide +kernel
theorem d_M0_emit_48 : decode b_M0_emit 48 = .ok (.return_, 1) := by decide +kernel
theorem d_M0_send_0 : decode b_M0_send 0 = .ok (.aload_n 0, 1) := by decide +kernel
theorem d_M0_send_1 : decode b_M0_send 1 = .ok (.getfield 53, 3) := by decide +kernel
theorem d_M0_send_4 : decode b_M0_send 4 = .ok (.iload_n 1, 1) := by decide +kernel
theorem d_M0_send_5 : decode b_M0_send 5 = .ok (.aload_n 0, 1) := by decide +kernel
theorem d_M0_send_6 : decode b_M0_send 6 = .ok (.getfield 196, 3) := by decide +kernel
theorem d_M0_send_9 : decode b_M0_send 9 = .ok (.iastore, 1) := by decide +kernel
theorem d_M0_send_10 : decode b_M0_send 10 = .ok (.aload_n 0, 1) := by decide +kernel
theorem d_M0_send_11 : decode b_M0_send 11 = .ok (.aload_n 0, 1) := by decide +kernel
theorem d_M0_send_12 : decode b_M0_send 12 = .ok (.getfield 7, 3) := by decide +kernel
theorem d_M0_send_15 : decode b_M0_send 15 = .ok (.aload_n 0, 1) := by decide +kernel
theorem d_M0_send_16 : decode b_M0_send 16 = .ok (.getfield 47, 3) := by decide +kernel
theorem d_M0_send_19 : decode b_M0_send 19 = .ok (.iload_n 1, 1) := by decide +kernel
theorem d_M0_send_20 : decode b_M0_send 20 = .ok (.iaload, 1) := by decide +kernel
theorem d_M0_send_21 : decode b_M0_send 21 = .ok (.iaload, 1) := by decide +kernel
theorem d_M0_send_22 : decode b_M0_send 22 = .ok (.bipush 6, 2) := by decide +kernel
theorem d_M0_send_24 : decode b_M0_send 24 = .ok (.if_icmp .ne 7, 3) := by decide +kernel
theorem d_M0_send_27 : decode b_M0_send 27 = .ok (.iconst 1, 1) := by decide +kernel
theorem d_M0_send_28 : decode b_M0_send 28 = .ok (.goto 4, 3) := by decide +kernel
theorem d_M0_send_31 : decode b_M0_send 31 = .ok (.iconst 0, 1) := by decide +kernel
theorem d_M0_send_32 : decode b_M0_send 32 = .ok (.aload_n 0, 1) := by decide +kernel
theorem d_M0_send_33 : decode b_M0_send 33 = .ok (.getfield 164, 3) := by decide +kernel
theorem d_M0_send_36 : decode b_M0_send 36 = .ok (.aload_n 0, 1) := by decide +kernel
theorem d_M0_send_37 : decode b_M0_send 37 = .ok (.getfield 47, 3) := by decide +kernel
theorem d_M0_send_40 : decode b_M0_send 40 = .ok (.iload_n 1, 1) := by decide +kernel
theorem d_M0_send_41 : decode b_M0_send 41 = .ok (.iaload, 1) := by decide +kernel
theorem d_M0_send_42 : decode b_M0_send 42 = .ok (.aload_n 0, 1) := by decide +kernel
theorem d_M0_send_43 : decode b_M0_send 43 = .ok (.getfield 50, 3) := by decide +kernel
theorem d_M0_send_46 : decode b_M0_send 46 = .ok (.iload_n 1, 1) := by decide +kernel
theorem d_M0_send_47 : decode b_M0_send 47 = .ok (.iaload, 1) := by decide +kernel
theorem d_M0_send_48 : decode b_M0_send 48 = .ok (.invokevirtual 199, 3) := by decide +kernel
theorem d_M0_send_51 : decode b_M0_send 51 = .ok (.return_, 1) := by decide +kernel
theorem d_M0_add_0 : decode b_M0_add 0 = .ok (.aload_n 0, 1) := by decide +kernel
theorem d_M0_add_1 : decode b_M0_add 1 = .ok (.getfield 203, 3) := by decide +kernel
theorem d_M0_add_4 : decode b_M0_add 4 = .ok (.bipush 8, 2) := by decide +kernel
theorem d_M0_add_6 : decode b_M0_add 6 = .ok (.if_icmp .ge 54, 3) := by decide +kernel
theorem d_M0_add_9 : decode b_M0_add 9 = .ok (.aload_n 0, 1) := by decide +kernel
theorem d_M0_add_10 : decode b_M0_add 10 = .ok (.getfield 56, 3) := by decide +kernel
theorem d_M0_add_13 : decode b_M0_add 13 = .ok (.aload_n 0, 1) := by decide +kernel
theorem d_M0_add_14 : decode b_M0_add 14 = .ok (.getfield 203, 3) := by decide +kernel
theorem d_M0_add_17 : decode b_M0_add 17 = .ok (.iload_n 1, 1) := by decide +kernel
theorem d_M0_add_18 : decode b_M0_add 18 = .ok (.iastore, 1) := by decide +kernel
theorem d_M0_add_19 : decode b_M0_add 19 = .ok (.aload_n 0, 1) := by decide +kernel
theorem d_M0_add_20 : decode b_M0_add 20 = .ok (.getfield 59, 3) := by decide +kernel
theorem d_M0_add_23 : decode b_M0_add 23 = .ok (.aload_n 0, 1) := by decide +kernel
theorem d_M0_add_24 : decode b_M0_add 24 = .ok (.getfield 203, 3) := by decide +kernel
theorem d_M0_add_27 : decode b_M0_add 27 = .ok (.iload_n 2, 1) := by decide +kernel
theorem d_M0_add_28 : decode b_M0_add 28 = .ok (.iastore, 1) := by decide +kernel
theorem d_M0_add_29 : decode b_M0_add 29 = .ok (.aload_n 0, 1) := by decide +kernel
theorem d_M0_add_30 : decode b_M0_add 30 = .ok (.getfield 62, 3) := by decide +kernel
theorem d_M0_add_33 : decode b_M0_add 33 = .ok (.aload_n 0, 1) := by decide +kernel
theorem d_M0_add_34 : decode b_M0_add 34 = .ok (.getfield 203, 3) := by decide +kernel
theorem d_M0_add_37 : decode b_M0_add 37 = .ok (.iload_n 3, 1) := by decide +kernel
theorem d_M0_add_38 : decode b_M0_add 38 = .ok (.iastore, 1) := by decide +kernel
theorem d_M0_add_39 : decode b_M0_add 39 = .ok (.aload_n 0, 1) := by decide +kernel
theorem d_M0_add_40 : decode b_M0_add 40 = .ok (.getfield 65, 3) := by decide +kernel
theorem d_M0_add_43 : decode b_M0_add 43 = .ok (.aload_n 0, 1) := by decide +kernel
theorem d_M0_add_44 : decode b_M0_add 44 = .ok (.getfield 203, 3) := by decide +kernel
