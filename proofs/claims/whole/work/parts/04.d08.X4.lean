theorem d_X4_init_0 : decode b_X4_init 0 = .ok (.aload_n 0, 1) := by decide +kernel
theorem d_X4_init_1 : decode b_X4_init 1 = .ok (.invokespecial 3, 3) := by decide +kernel
theorem d_X4_init_4 : decode b_X4_init 4 = .ok (.aload_n 0, 1) := by decide +kernel
theorem d_X4_init_5 : decode b_X4_init 5 = .ok (.iconst (-1), 1) := by decide +kernel
theorem d_X4_init_6 : decode b_X4_init 6 = .ok (.putfield 9, 3) := by decide +kernel
theorem d_X4_init_9 : decode b_X4_init 9 = .ok (.aload_n 0, 1) := by decide +kernel
theorem d_X4_init_10 : decode b_X4_init 10 = .ok (.iconst (-1), 1) := by decide +kernel
theorem d_X4_init_11 : decode b_X4_init 11 = .ok (.putfield 15, 3) := by decide +kernel
theorem d_X4_init_14 : decode b_X4_init 14 = .ok (.aload_n 0, 1) := by decide +kernel
theorem d_X4_init_15 : decode b_X4_init 15 = .ok (.iconst 0, 1) := by decide +kernel
theorem d_X4_init_16 : decode b_X4_init 16 = .ok (.putfield 18, 3) := by decide +kernel
theorem d_X4_init_19 : decode b_X4_init 19 = .ok (.aload_n 0, 1) := by decide +kernel
theorem d_X4_init_20 : decode b_X4_init 20 = .ok (.aload_n 1, 1) := by decide +kernel
theorem d_X4_init_21 : decode b_X4_init 21 = .ok (.putfield 21, 3) := by decide +kernel
theorem d_X4_init_24 : decode b_X4_init 24 = .ok (.aload_n 0, 1) := by decide +kernel
theorem d_X4_init_25 : decode b_X4_init 25 = .ok (.iload_n 3, 1) := by decide +kernel
theorem d_X4_init_26 : decode b_X4_init 26 = .ok (.putfield 25, 3) := by decide +kernel
theorem d_X4_init_29 : decode b_X4_init 29 = .ok (.aload_n 0, 1) := by decide +kernel
theorem d_X4_init_30 : decode b_X4_init 30 = .ok (.iload 4, 2) := by decide +kernel
theorem d_X4_init_32 : decode b_X4_init 32 = .ok (.putfield 28, 3) := by decide +kernel
theorem d_X4_init_35 : decode b_X4_init 35 = .ok (.aload_n 0, 1) := by decide +kernel
theorem d_X4_init_36 : decode b_X4_init 36 = .ok (.iload_n 2, 1) := by decide +kernel
theorem d_X4_init_37 : decode b_X4_init 37 = .ok (.newarray .long, 2) := by decide +kernel
theorem d_X4_init_39 : decode b_X4_init 39 = .ok (.putfield 31, 3) := by decide +kernel
theorem d_X4_init_42 : decode b_X4_init 42 = .ok (.aload_n 0, 1) := by decide +kernel
theorem d_X4_init_43 : decode b_X4_init 43 = .ok (.getfield 31, 3) := by decide +kernel
theorem d_X4_init_46 : decode b_X4_init 46 = .ok (.ldc2_w 35, 3) := by decide +kernel
theorem d_X4_init_49 : decode b_X4_init 49 = .ok (.invokestatic 37, 3) := by decide +kernel
theorem d_X4_init_52 : decode b_X4_init 52 = .ok (.return_, 1) := by decide +kernel
theorem d_X4_forgetStaged_0 : decode b_X4_forgetStaged 0 = .ok (.aload_n 0, 1) := by decide +kernel
theorem d_X4_forgetStaged_1 : decode b_X4_forgetStaged 1 = .ok (.iconst (-1), 1) := by decide +kernel
theorem d_X4_forgetStaged_2 : decode b_X4_forgetStaged 2 = .ok (.putfield 9, 3) := by decide +kernel
theorem d_X4_forgetStaged_5 : decode b_X4_forgetStaged 5 = .ok (.return_, 1) := by decide +kernel
theorem d_X4_offer_0 : decode b_X4_offer 0 = .ok (.iload_n 2, 1) := by decide +kernel
theorem d_X4_offer_1 : decode b_X4_offer 1 = .ok (.aload_n 0, 1) := by decide +kernel
theorem d_X4_offer_2 : decode b_X4_offer 2 = .ok (.getfield 15, 3) := by decide +kernel
theorem d_X4_offer_5 : decode b_X4_offer 5 = .ok (.if_icmp .ne 16, 3) := by decide +kernel
theorem d_X4_offer_8 : decode b_X4_offer 8 = .ok (.aload_n 0, 1) := by decide +kernel
theorem d_X4_offer_9 : decode b_X4_offer 9 = .ok (.getfield 9, 3) := by decide +kernel
theorem d_X4_offer_12 : decode b_X4_offer 12 = .ok (.iconst (-1), 1) := by decide +kernel
theorem d_X4_offer_13 : decode b_X4_offer 13 = .ok (.if_icmp .ne 8, 3) := by decide +kernel
theorem d_X4_offer_16 : decode b_X4_offer 16 = .ok (.aload_n 0, 1) := by decide +kernel
theorem d_X4_offer_17 : decode b_X4_offer 17 = .ok (.iload_n 1, 1) := by decide +kernel
theorem d_X4_offer_18 : decode b_X4_offer 18 = .ok (.putfield 9, 3) := by decide +kernel
theorem d_X4_offer_21 : decode b_X4_offer 21 = .ok (.return_, 1) := by decide +kernel
theorem d_X4_storeStaged_0 : decode b_X4_storeStaged 0 = .ok (.aload_n 0, 1) := by decide +kernel
theorem d_X4_storeStaged_1 : decode b_X4_storeStaged 1 = .ok (.getfield 9, 3) := by decide +kernel
theorem d_X4_storeStaged_4 : decode b_X4_storeStaged 4 = .ok (.iconst (-1), 1) := by decide +kernel
theorem d_X4_storeStaged_5 : decode b_X4_storeStaged 5 = .ok (.if_icmp .ne 5, 3) := by decide +kernel
theorem d_X4_storeStaged_8 : decode b_X4_storeStaged 8 = .ok (.iconst 0, 1) := by decide +kernel
theorem d_X4_storeStaged_9 : decode b_X4_storeStaged 9 = .ok (.ireturn, 1) := by decide +kernel
theorem d_X4_storeStaged_10 : decode b_X4_storeStaged 10 = .ok (.aload_n 0, 1) := by decide +kernel
theorem d_X4_storeStaged_11 : decode b_X4_storeStaged 11 = .ok (.getfield 21, 3) := by decide +kernel
theorem d_X4_storeStaged_14 : decode b_X4_storeStaged 14 = .ok (.getfield 43, 3) := by decide +kernel
theorem d_X4_storeStaged_17 : decode b_X4_storeStaged 17 = .ok (.aload_n 0, 1) := by decide +kernel
theorem d_X4_storeStaged_18 : decode b_X4_storeStaged 18 = .ok (.getfield 9, 3) := by decide +kernel
theorem d_X4_storeStaged_21 : decode b_X4_storeStaged 21 = .ok (.iaload, 1) := by decide +kernel
theorem d_X4_storeStaged_22 : decode b_X4_storeStaged 22 = .ok (.iconst 4, 1) := by decide +kernel
theorem d_X4_storeStaged_23 : decode b_X4_storeStaged 23 = .ok (.if_icmp .ne 23, 3) := by decide +kernel
theorem d_X4_storeStaged_26 : decode b_X4_storeStaged 26 = .ok (.aload_n 0, 1) := by decide +kernel
theorem d_X4_storeStaged_27 : decode b_X4_storeStaged 27 = .ok (.aload_n 1, 1) := by decide +kernel
theorem d_X4_storeStaged_28 : decode b_X4_storeStaged 28 = .ok (.aload_n 0, 1) := by decide +kernel
theorem d_X4_storeStaged_29 : decode b_X4_storeStaged 29 = .ok (.getfield 21, 3) := by decide +kernel
theorem d_X4_storeStaged_32 : decode b_X4_storeStaged 32 = .ok (.getfield 49, 3) := by decide +kernel
theorem d_X4_storeStaged_35 : decode b_X4_storeStaged 35 = .ok (.aload_n 0, 1) := by decide +kernel
theorem d_X4_storeStaged_36 : decode b_X4_storeStaged 36 = .ok (.getfield 9, 3) := by decide +kernel
theorem d_X4_storeStaged_39 : decode b_X4_storeStaged 39 = .ok (.iaload, 1) := by decide +kernel
theorem d_X4_storeStaged_40 : decode b_X4_storeStaged 40 = .ok (.invokevirtual 52, 3) := by decide +kernel
theorem d_X4_storeStaged_43 : decode b_X4_storeStaged 43 = .ok (.goto 19, 3) := by decide +kernel
theorem d_X4_storeStaged_46 : decode b_X4_storeStaged 46 = .ok (.aload_n 0, 1) := by decide +kernel
theorem d_X4_storeStaged_47 : decode b_X4_storeStaged 47 = .ok (.aload_n 0, 1) := by decide +kernel
theorem d_X4_storeStaged_48 : decode b_X4_storeStaged 48 = .ok (.getfield 21, 3) := by decide +kernel
theorem d_X4_storeStaged_51 : decode b_X4_storeStaged 51 = .ok (.getfield 56, 3) := by decide +kernel
theorem d_X4_storeStaged_54 : decode b_X4_storeStaged 54 = .ok (.aload_n 0, 1) := by decide +kernel
theorem d_X4_storeStaged_55 : decode b_X4_storeStaged 55 = .ok (.getfield 9, 3) := by decide +kernel
theorem d_X4_storeStaged_58 : decode b_X4_storeStaged 58 = .ok (.iaload, 1) := by decide +kernel
theorem d_X4_storeStaged_59 : decode b_X4_storeStaged 59 = .ok (.invokevirtual 59, 3) := by decide +kernel
theorem d_X4_storeStaged_62 : decode b_X4_storeStaged 62 = .ok (.aload_n 0, 1) := by decide +kernel
theorem d_X4_storeStaged_63 : decode b_X4_storeStaged 63 = .ok (.aload_n 0, 1) := by decide +kernel
theorem d_X4_storeStaged_64 : decode b_X4_storeStaged 64 = .ok (.getfield 9, 3) := by decide +kernel
theorem d_X4_storeStaged_67 : decode b_X4_storeStaged 67 = .ok (.putfield 15, 3) := by decide +kernel
theorem d_X4_storeStaged_70 : decode b_X4_storeStaged 70 = .ok (.aload_n 0, 1) := by decide +kernel
theorem d_X4_storeStaged_71 : decode b_X4_storeStaged 71 = .ok (.iconst (-1), 1) := by decide +kernel
theorem d_X4_storeStaged_72 : decode b_X4_storeStaged 72 = .ok (.putfield 9, 3) := by decide +kernel
theorem d_X4_storeStaged_75 : decode b_X4_storeStaged 75 = .ok (.iconst 1, 1) := by decide +kernel
theorem d_X4_storeStaged_76 : decode b_X4_storeStaged 76 = .ok (.ireturn, 1) := by decide +kernel
theorem d_X4_storeChunk_0 : decode b_X4_storeChunk 0 = .ok (.iload_n 2, 1) := by decide +kernel
theorem d_X4_storeChunk_1 : decode b_X4_storeChunk 1 = .ok (.aload_n 0, 1) := by decide +kernel
theorem d_X4_storeChunk_2 : decode b_X4_storeChunk 2 = .ok (.getfield 25, 3) := by decide +kernel
theorem d_X4_storeChunk_5 : decode b_X4_storeChunk 5 = .ok (.iadd, 1) := by decide +kernel
theorem d_X4_storeChunk_6 : decode b_X4_storeChunk 6 = .ok (.aload_n 0, 1) := by decide +kernel
theorem d_X4_storeChunk_7 : decode b_X4_storeChunk 7 = .ok (.getfield 31, 3) := by decide +kernel
theorem d_X4_storeChunk_10 : decode b_X4_storeChunk 10 = .ok (.arraylength, 1) := by decide +kernel
theorem d_X4_storeChunk_11 : decode b_X4_storeChunk 11 = .ok (.invokestatic 74, 3) := by decide +kernel
theorem d_X4_storeChunk_14 : decode b_X4_storeChunk 14 = .ok (.istore_n 3, 1) := by decide +kernel
theorem d_X4_storeChunk_15 : decode b_X4_storeChunk 15 = .ok (.iload_n 2, 1) := by decide +kernel
theorem d_X4_storeChunk_16 : decode b_X4_storeChunk 16 = .ok (.istore 4, 2) := by decide +kernel
theorem d_X4_storeChunk_18 : decode b_X4_storeChunk 18 = .ok (.iload 4, 2) := by decide +kernel
theorem d_X4_storeChunk_20 : decode b_X4_storeChunk 20 = .ok (.iload_n 3, 1) := by decide +kernel
theorem d_X4_storeChunk_21 : decode b_X4_storeChunk 21 = .ok (.if_icmp .ge 30, 3) := by decide +kernel
theorem d_X4_storeChunk_24 : decode b_X4_storeChunk 24 = .ok (.aload_n 1, 1) := by decide +kernel
theorem d_X4_storeChunk_25 : decode b_X4_storeChunk 25 = .ok (.iload 4, 2) := by decide +kernel
theorem d_X4_storeChunk_27 : decode b_X4_storeChunk 27 = .ok (.laload, 1) := by decide +kernel
theorem d_X4_storeChunk_28 : decode b_X4_storeChunk 28 = .ok (.ldc2_w 35, 3) := by decide +kernel
theorem d_X4_storeChunk_31 : decode b_X4_storeChunk 31 = .ok (.lcmp, 1) := by decide +kernel
theorem d_X4_storeChunk_32 : decode b_X4_storeChunk 32 = .ok (.ifCond .eq 13, 3) := by decide +kernel
theorem d_X4_storeChunk_35 : decode b_X4_storeChunk 35 = .ok (.aload_n 0, 1) := by decide +kernel
theorem d_X4_storeChunk_36 : decode b_X4_storeChunk 36 = .ok (.iload 4, 2) := by decide +kernel
theorem d_X4_storeChunk_38 : decode b_X4_storeChunk 38 = .ok (.aload_n 1, 1) := by decide +kernel
theorem d_X4_storeChunk_39 : decode b_X4_storeChunk 39 = .ok (.iload 4, 2) := by decide +kernel
theorem d_X4_storeChunk_41 : decode b_X4_storeChunk 41 = .ok (.laload, 1) := by decide +kernel
theorem d_X4_storeChunk_42 : decode b_X4_storeChunk 42 = .ok (.invokevirtual 80, 3) := by decide +kernel
theorem d_X4_storeChunk_45 : decode b_X4_storeChunk 45 = .ok (.iinc 4 1, 3) := by decide +kernel
theorem d_X4_storeChunk_48 : decode b_X4_storeChunk 48 = .ok (.goto (-30), 3) := by decide +kernel
theorem d_X4_storeChunk_51 : decode b_X4_storeChunk 51 = .ok (.aload_n 0, 1) := by decide +kernel
theorem d_X4_storeChunk_52 : decode b_X4_storeChunk 52 = .ok (.aload_n 0, 1) := by decide +kernel
theorem d_X4_storeChunk_53 : decode b_X4_storeChunk 53 = .ok (.getfield 18, 3) := by decide +kernel
theorem d_X4_storeChunk_56 : decode b_X4_storeChunk 56 = .ok (.aload_n 0, 1) := by decide +kernel
theorem d_X4_storeChunk_57 : decode b_X4_storeChunk 57 = .ok (.getfield 25, 3) := by decide +kernel
theorem d_X4_storeChunk_60 : decode b_X4_storeChunk 60 = .ok (.iadd, 1) := by decide +kernel
theorem d_X4_storeChunk_61 : decode b_X4_storeChunk 61 = .ok (.aload_n 0, 1) := by decide +kernel
theorem d_X4_storeChunk_62 : decode b_X4_storeChunk 62 = .ok (.getfield 31, 3) := by decide +kernel
theorem d_X4_storeChunk_65 : decode b_X4_storeChunk 65 = .ok (.arraylength, 1) := by decide +kernel
theorem d_X4_storeChunk_66 : decode b_X4_storeChunk 66 = .ok (.invokestatic 74, 3) := by decide +kernel
theorem d_X4_storeChunk_69 : decode b_X4_storeChunk 69 = .ok (.putfield 18, 3) := by decide +kernel
theorem d_X4_storeChunk_72 : decode b_X4_storeChunk 72 = .ok (.return_, 1) := by decide +kernel
theorem d_X4_storeRow_0 : decode b_X4_storeRow 0 = .ok (.aload_n 0, 1) := by decide +kernel
theorem d_X4_storeRow_1 : decode b_X4_storeRow 1 = .ok (.getfield 31, 3) := by decide +kernel
theorem d_X4_storeRow_4 : decode b_X4_storeRow 4 = .ok (.iload_n 1, 1) := by decide +kernel
theorem d_X4_storeRow_5 : decode b_X4_storeRow 5 = .ok (.lload_n 2, 1) := by decide +kernel
theorem d_X4_storeRow_6 : decode b_X4_storeRow 6 = .ok (.ldc2_w 35, 3) := by decide +kernel
theorem d_X4_storeRow_9 : decode b_X4_storeRow 9 = .ok (.lcmp, 1) := by decide +kernel
theorem d_X4_storeRow_10 : decode b_X4_storeRow 10 = .ok (.ifCond .eq 18, 3) := by decide +kernel
theorem d_X4_storeRow_13 : decode b_X4_storeRow 13 = .ok (.lload_n 2, 1) := by decide +kernel
theorem d_X4_storeRow_14 : decode b_X4_storeRow 14 = .ok (.invokestatic 67, 3) := by decide +kernel
theorem d_X4_storeRow_17 : decode b_X4_storeRow 17 = .ok (.aload_n 0, 1) := by decide +kernel
theorem d_X4_storeRow_18 : decode b_X4_storeRow 18 = .ok (.getfield 28, 3) := by decide +kernel
theorem d_X4_storeRow_21 : decode b_X4_storeRow 21 = .ok (.if_icmp .lt 7, 3) := by decide +kernel
theorem d_X4_storeRow_24 : decode b_X4_storeRow 24 = .ok (.lload_n 2, 1) := by decide +kernel
theorem d_X4_storeRow_25 : decode b_X4_storeRow 25 = .ok (.goto 6, 3) := by decide +kernel
theorem d_X4_storeRow_28 : decode b_X4_storeRow 28 = .ok (.ldc2_w 35, 3) := by decide +kernel
theorem d_X4_storeRow_31 : decode b_X4_storeRow 31 = .ok (.lastore, 1) := by decide +kernel
theorem d_X4_storeRow_32 : decode b_X4_storeRow 32 = .ok (.return_, 1) := by decide +kernel
theorem d_X4_storeChanges_0 : decode b_X4_storeChanges 0 = .ok (.iconst 0, 1) := by decide +kernel
theorem d_X4_storeChanges_1 : decode b_X4_storeChanges 1 = .ok (.istore_n 2, 1) := by decide +kernel
theorem d_X4_storeChanges_2 : decode b_X4_storeChanges 2 = .ok (.iload_n 2, 1) := by decide +kernel
theorem d_X4_storeChanges_3 : decode b_X4_storeChanges 3 = .ok (.aload_n 0, 1) := by decide +kernel
theorem d_X4_storeChanges_4 : decode b_X4_storeChanges 4 = .ok (.getfield 9, 3) := by decide +kernel
theorem d_X4_storeChanges_7 : decode b_X4_storeChanges 7 = .ok (.if_icmp .ge 43, 3) := by decide +kernel
theorem d_X4_storeChanges_10 : decode b_X4_storeChanges 10 = .ok (.aload_n 0, 1) := by decide +kernel
theorem d_X4_storeChanges_11 : decode b_X4_storeChanges 11 = .ok (.getfield 21, 3) := by decide +kernel
theorem d_X4_storeChanges_14 : decode b_X4_storeChanges 14 = .ok (.iload_n 2, 1) := by decide +kernel
theorem d_X4_storeChanges_15 : decode b_X4_storeChanges 15 = .ok (.iload_n 1, 1) := by decide +kernel
theorem d_X4_storeChanges_16 : decode b_X4_storeChanges 16 = .ok (.invokevirtual 84, 3) := by decide +kernel
theorem d_X4_storeChanges_19 : decode b_X4_storeChanges 19 = .ok (.ifCond .eq 25, 3) := by decide +kernel
theorem d_X4_storeChanges_22 : decode b_X4_storeChanges 22 = .ok (.aload_n 0, 1) := by decide +kernel
theorem d_X4_storeChanges_23 : decode b_X4_storeChanges 23 = .ok (.aload_n 0, 1) := by decide +kernel
theorem d_X4_storeChanges_24 : decode b_X4_storeChanges 24 = .ok (.getfield 21, 3) := by decide +kernel
theorem d_X4_storeChanges_27 : decode b_X4_storeChanges 27 = .ok (.getfield 49, 3) := by decide +kernel
theorem d_X4_storeChanges_30 : decode b_X4_storeChanges 30 = .ok (.iload_n 2, 1) := by decide +kernel
theorem d_X4_storeChanges_31 : decode b_X4_storeChanges 31 = .ok (.iaload, 1) := by decide +kernel
theorem d_X4_storeChanges_32 : decode b_X4_storeChanges 32 = .ok (.aload_n 0, 1) := by decide +kernel
theorem d_X4_storeChanges_33 : decode b_X4_storeChanges 33 = .ok (.getfield 21, 3) := by decide +kernel
theorem d_X4_storeChanges_36 : decode b_X4_storeChanges 36 = .ok (.getfield 87, 3) := by decide +kernel
theorem d_X4_storeChanges_39 : decode b_X4_storeChanges 39 = .ok (.iload_n 2, 1) := by decide +kernel
theorem d_X4_storeChanges_40 : decode b_X4_storeChanges 40 = .ok (.laload, 1) := by decide +kernel
theorem d_X4_storeChanges_41 : decode b_X4_storeChanges 41 = .ok (.invokevirtual 80, 3) := by decide +kernel
theorem d_X4_storeChanges_44 : decode b_X4_storeChanges 44 = .ok (.iinc 2 1, 3) := by decide +kernel
theorem d_X4_storeChanges_47 : decode b_X4_storeChanges 47 = .ok (.goto (-45), 3) := by decide +kernel
theorem d_X4_storeChanges_50 : decode b_X4_storeChanges 50 = .ok (.return_, 1) := by decide +kernel
theorem d_X4_sumOf_0 : decode b_X4_sumOf 0 = .ok (.lconst 0, 1) := by decide +kernel
theorem d_X4_sumOf_1 : decode b_X4_sumOf 1 = .ok (.lstore_n 2, 1) := by decide +kernel
theorem d_X4_sumOf_2 : decode b_X4_sumOf 2 = .ok (.iconst 0, 1) := by decide +kernel
theorem d_X4_sumOf_3 : decode b_X4_sumOf 3 = .ok (.istore 4, 2) := by decide +kernel
theorem d_X4_sumOf_5 : decode b_X4_sumOf 5 = .ok (.iload 4, 2) := by decide +kernel
theorem d_X4_sumOf_7 : decode b_X4_sumOf 7 = .ok (.aload_n 0, 1) := by decide +kernel
theorem d_X4_sumOf_8 : decode b_X4_sumOf 8 = .ok (.getfield 31, 3) := by decide +kernel
theorem d_X4_sumOf_11 : decode b_X4_sumOf 11 = .ok (.arraylength, 1) := by decide +kernel
theorem d_X4_sumOf_12 : decode b_X4_sumOf 12 = .ok (.if_icmp .ge 33, 3) := by decide +kernel
theorem d_X4_sumOf_15 : decode b_X4_sumOf 15 = .ok (.aload_n 0, 1) := by decide +kernel
theorem d_X4_sumOf_16 : decode b_X4_sumOf 16 = .ok (.iload 4, 2) := by decide +kernel
theorem d_X4_sumOf_18 : decode b_X4_sumOf 18 = .ok (.iload_n 1, 1) := by decide +kernel
theorem d_X4_sumOf_19 : decode b_X4_sumOf 19 = .ok (.invokevirtual 63, 3) := by decide +kernel
theorem d_X4_sumOf_22 : decode b_X4_sumOf 22 = .ok (.ifCond .eq 17, 3) := by decide +kernel
theorem d_X4_sumOf_25 : decode b_X4_sumOf 25 = .ok (.lload_n 2, 1) := by decide +kernel
theorem d_X4_sumOf_26 : decode b_X4_sumOf 26 = .ok (.aload_n 0, 1) := by decide +kernel
theorem d_X4_sumOf_27 : decode b_X4_sumOf 27 = .ok (.getfield 31, 3) := by decide +kernel
theorem d_X4_sumOf_30 : decode b_X4_sumOf 30 = .ok (.iload 4, 2) := by decide +kernel
theorem d_X4_sumOf_32 : decode b_X4_sumOf 32 = .ok (.laload, 1) := by decide +kernel
theorem d_X4_sumOf_33 : decode b_X4_sumOf 33 = .ok (.invokestatic 67, 3) := by decide +kernel
theorem d_X4_sumOf_36 : decode b_X4_sumOf 36 = .ok (.i2l, 1) := by decide +kernel
theorem d_X4_sumOf_37 : decode b_X4_sumOf 37 = .ok (.ladd, 1) := by decide +kernel
theorem d_X4_sumOf_38 : decode b_X4_sumOf 38 = .ok (.lstore_n 2, 1) := by decide +kernel
theorem d_X4_sumOf_39 : decode b_X4_sumOf 39 = .ok (.iinc 4 1, 3) := by decide +kernel
theorem d_X4_sumOf_42 : decode b_X4_sumOf 42 = .ok (.goto (-37), 3) := by decide +kernel
theorem d_X4_sumOf_45 : decode b_X4_sumOf 45 = .ok (.lload_n 2, 1) := by decide +kernel
theorem d_X4_sumOf_46 : decode b_X4_sumOf 46 = .ok (.lreturn, 1) := by decide +kernel
theorem d_X4_isOfGroup_0 : decode b_X4_isOfGroup 0 = .ok (.aload_n 0, 1) := by decide +kernel
theorem d_X4_isOfGroup_1 : decode b_X4_isOfGroup 1 = .ok (.getfield 31, 3) := by decide +kernel
theorem d_X4_isOfGroup_4 : decode b_X4_isOfGroup 4 = .ok (.iload_n 1, 1) := by decide +kernel
theorem d_X4_isOfGroup_5 : decode b_X4_isOfGroup 5 = .ok (.laload, 1) := by decide +kernel
theorem d_X4_isOfGroup_6 : decode b_X4_isOfGroup 6 = .ok (.ldc2_w 35, 3) := by decide +kernel
theorem d_X4_isOfGroup_9 : decode b_X4_isOfGroup 9 = .ok (.lcmp, 1) := by decide +kernel
theorem d_X4_isOfGroup_10 : decode b_X4_isOfGroup 10 = .ok (.ifCond .eq 20, 3) := by decide +kernel
theorem d_X4_isOfGroup_13 : decode b_X4_isOfGroup 13 = .ok (.aload_n 0, 1) := by decide +kernel
theorem d_X4_isOfGroup_14 : decode b_X4_isOfGroup 14 = .ok (.getfield 31, 3) := by decide +kernel
theorem d_X4_isOfGroup_17 : decode b_X4_isOfGroup 17 = .ok (.iload_n 1, 1) := by decide +kernel
theorem d_X4_isOfGroup_18 : decode b_X4_isOfGroup 18 = .ok (.laload, 1) := by decide +kernel
theorem d_X4_isOfGroup_19 : decode b_X4_isOfGroup 19 = .ok (.invokestatic 71, 3) := by decide +kernel
theorem d_X4_isOfGroup_22 : decode b_X4_isOfGroup 22 = .ok (.iload_n 2, 1) := by decide +kernel
theorem d_X4_isOfGroup_23 : decode b_X4_isOfGroup 23 = .ok (.if_icmp .ne 7, 3) := by decide +kernel
theorem d_X4_isOfGroup_26 : decode b_X4_isOfGroup 26 = .ok (.iconst 1, 1) := by decide +kernel
theorem d_X4_isOfGroup_27 : decode b_X4_isOfGroup 27 = .ok (.goto 4, 3) := by decide +kernel
theorem d_X4_isOfGroup_30 : decode b_X4_isOfGroup 30 = .ok (.iconst 0, 1) := by decide +kernel
theorem d_X4_isOfGroup_31 : decode b_X4_isOfGroup 31 = .ok (.ireturn, 1) := by decide +kernel
theorem d_X4_countOf_0 : decode b_X4_countOf 0 = .ok (.iconst 0, 1) := by decide +kernel
theorem d_X4_countOf_1 : decode b_X4_countOf 1 = .ok (.istore_n 2, 1) := by decide +kernel
theorem d_X4_countOf_2 : decode b_X4_countOf 2 = .ok (.iconst 0, 1) := by decide +kernel
theorem d_X4_countOf_3 : decode b_X4_countOf 3 = .ok (.istore_n 3, 1) := by decide +kernel
theorem d_X4_countOf_4 : decode b_X4_countOf 4 = .ok (.iload_n 3, 1) := by decide +kernel
theorem d_X4_countOf_5 : decode b_X4_countOf 5 = .ok (.aload_n 0, 1) := by decide +kernel
theorem d_X4_countOf_6 : decode b_X4_countOf 6 = .ok (.getfield 31, 3) := by decide +kernel
theorem d_X4_countOf_9 : decode b_X4_countOf 9 = .ok (.arraylength, 1) := by decide +kernel
theorem d_X4_countOf_10 : decode b_X4_countOf 10 = .ok (.if_icmp .ge 21, 3) := by decide +kernel
theorem d_X4_countOf_13 : decode b_X4_countOf 13 = .ok (.aload_n 0, 1) := by decide +kernel
theorem d_X4_countOf_14 : decode b_X4_countOf 14 = .ok (.iload_n 3, 1) := by decide +kernel
theorem d_X4_countOf_15 : decode b_X4_countOf 15 = .ok (.iload_n 1, 1) := by decide +kernel
theorem d_X4_countOf_16 : decode b_X4_countOf 16 = .ok (.invokevirtual 63, 3) := by decide +kernel
theorem d_X4_countOf_19 : decode b_X4_countOf 19 = .ok (.ifCond .eq 6, 3) := by decide +kernel
theorem d_X4_countOf_22 : decode b_X4_countOf 22 = .ok (.iinc 2 1, 3) := by decide +kernel
theorem d_X4_countOf_25 : decode b_X4_countOf 25 = .ok (.iinc 3 1, 3) := by decide +kernel
theorem d_X4_countOf_28 : decode b_X4_countOf 28 = .ok (.goto (-24), 3) := by decide +kernel
theorem d_X4_countOf_31 : decode b_X4_countOf 31 = .ok (.iload_n 2, 1) := by decide +kernel
theorem d_X4_countOf_32 : decode b_X4_countOf 32 = .ok (.ireturn, 1) := by decide +kernel
