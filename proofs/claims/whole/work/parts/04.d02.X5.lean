theorem d_X5_init_0 : decode b_X5_init 0 = .ok (.aload_n 0, 1) := by decide +kernel
theorem d_X5_init_1 : decode b_X5_init 1 = .ok (.invokespecial 3, 3) := by decide +kernel
theorem d_X5_init_4 : decode b_X5_init 4 = .ok (.aload_n 0, 1) := by decide +kernel
theorem d_X5_init_5 : decode b_X5_init 5 = .ok (.sipush 160, 3) := by decide +kernel
theorem d_X5_init_8 : decode b_X5_init 8 = .ok (.newarray .int, 2) := by decide +kernel
theorem d_X5_init_10 : decode b_X5_init 10 = .ok (.putfield 9, 3) := by decide +kernel
theorem d_X5_init_13 : decode b_X5_init 13 = .ok (.aload_n 0, 1) := by decide +kernel
theorem d_X5_init_14 : decode b_X5_init 14 = .ok (.sipush 160, 3) := by decide +kernel
theorem d_X5_init_17 : decode b_X5_init 17 = .ok (.newarray .int, 2) := by decide +kernel
theorem d_X5_init_19 : decode b_X5_init 19 = .ok (.putfield 15, 3) := by decide +kernel
theorem d_X5_init_22 : decode b_X5_init 22 = .ok (.aload_n 0, 1) := by decide +kernel
theorem d_X5_init_23 : decode b_X5_init 23 = .ok (.sipush 160, 3) := by decide +kernel
theorem d_X5_init_26 : decode b_X5_init 26 = .ok (.newarray .int, 2) := by decide +kernel
theorem d_X5_init_28 : decode b_X5_init 28 = .ok (.putfield 18, 3) := by decide +kernel
theorem d_X5_init_31 : decode b_X5_init 31 = .ok (.aload_n 0, 1) := by decide +kernel
theorem d_X5_init_32 : decode b_X5_init 32 = .ok (.sipush 160, 3) := by decide +kernel
theorem d_X5_init_35 : decode b_X5_init 35 = .ok (.newarray .long, 2) := by decide +kernel
theorem d_X5_init_37 : decode b_X5_init 37 = .ok (.putfield 21, 3) := by decide +kernel
theorem d_X5_init_40 : decode b_X5_init 40 = .ok (.aload_n 0, 1) := by decide +kernel
theorem d_X5_init_41 : decode b_X5_init 41 = .ok (.iconst 0, 1) := by decide +kernel
theorem d_X5_init_42 : decode b_X5_init 42 = .ok (.putfield 25, 3) := by decide +kernel
theorem d_X5_init_45 : decode b_X5_init 45 = .ok (.return_, 1) := by decide +kernel
theorem d_X5_write_0 : decode b_X5_write 0 = .ok (.aload_n 0, 1) := by decide +kernel
theorem d_X5_write_1 : decode b_X5_write 1 = .ok (.getfield 25, 3) := by decide +kernel
theorem d_X5_write_4 : decode b_X5_write 4 = .ok (.sipush 160, 3) := by decide +kernel
theorem d_X5_write_7 : decode b_X5_write 7 = .ok (.if_icmp .lt 6, 3) := by decide +kernel
theorem d_X5_write_10 : decode b_X5_write 10 = .ok (.bipush (-4), 2) := by decide +kernel
theorem d_X5_write_12 : decode b_X5_write 12 = .ok (.ireturn, 1) := by decide +kernel
theorem d_X5_write_13 : decode b_X5_write 13 = .ok (.aload_n 0, 1) := by decide +kernel
theorem d_X5_write_14 : decode b_X5_write 14 = .ok (.getfield 9, 3) := by decide +kernel
theorem d_X5_write_17 : decode b_X5_write 17 = .ok (.aload_n 0, 1) := by decide +kernel
theorem d_X5_write_18 : decode b_X5_write 18 = .ok (.getfield 25, 3) := by decide +kernel
theorem d_X5_write_21 : decode b_X5_write 21 = .ok (.iload_n 1, 1) := by decide +kernel
theorem d_X5_write_22 : decode b_X5_write 22 = .ok (.iastore, 1) := by decide +kernel
theorem d_X5_write_23 : decode b_X5_write 23 = .ok (.aload_n 0, 1) := by decide +kernel
theorem d_X5_write_24 : decode b_X5_write 24 = .ok (.getfield 15, 3) := by decide +kernel
theorem d_X5_write_27 : decode b_X5_write 27 = .ok (.aload_n 0, 1) := by decide +kernel
theorem d_X5_write_28 : decode b_X5_write 28 = .ok (.getfield 25, 3) := by decide +kernel
theorem d_X5_write_31 : decode b_X5_write 31 = .ok (.iload_n 2, 1) := by decide +kernel
theorem d_X5_write_32 : decode b_X5_write 32 = .ok (.iastore, 1) := by decide +kernel
theorem d_X5_write_33 : decode b_X5_write 33 = .ok (.aload_n 0, 1) := by decide +kernel
theorem d_X5_write_34 : decode b_X5_write 34 = .ok (.getfield 18, 3) := by decide +kernel
theorem d_X5_write_37 : decode b_X5_write 37 = .ok (.aload_n 0, 1) := by decide +kernel
theorem d_X5_write_38 : decode b_X5_write 38 = .ok (.getfield 25, 3) := by decide +kernel
theorem d_X5_write_41 : decode b_X5_write 41 = .ok (.iload_n 3, 1) := by decide +kernel
theorem d_X5_write_42 : decode b_X5_write 42 = .ok (.iastore, 1) := by decide +kernel
theorem d_X5_write_43 : decode b_X5_write 43 = .ok (.aload_n 0, 1) := by decide +kernel
theorem d_X5_write_44 : decode b_X5_write 44 = .ok (.getfield 21, 3) := by decide +kernel
theorem d_X5_write_47 : decode b_X5_write 47 = .ok (.aload_n 0, 1) := by decide +kernel
theorem d_X5_write_48 : decode b_X5_write 48 = .ok (.getfield 25, 3) := by decide +kernel
theorem d_X5_write_51 : decode b_X5_write 51 = .ok (.lload 4, 2) := by decide +kernel
theorem d_X5_write_53 : decode b_X5_write 53 = .ok (.lastore, 1) := by decide +kernel
theorem d_X5_write_54 : decode b_X5_write 54 = .ok (.aload_n 0, 1) := by decide +kernel
theorem d_X5_write_55 : decode b_X5_write 55 = .ok (.dup, 1) := by decide +kernel
theorem d_X5_write_56 : decode b_X5_write 56 = .ok (.getfield 25, 3) := by decide +kernel
theorem d_X5_write_59 : decode b_X5_write 59 = .ok (.iconst 1, 1) := by decide +kernel
theorem d_X5_write_60 : decode b_X5_write 60 = .ok (.iadd, 1) := by decide +kernel
theorem d_X5_write_61 : decode b_X5_write 61 = .ok (.putfield 25, 3) := by decide +kernel
theorem d_X5_write_64 : decode b_X5_write 64 = .ok (.aload_n 0, 1) := by decide +kernel
theorem d_X5_write_65 : decode b_X5_write 65 = .ok (.getfield 25, 3) := by decide +kernel
theorem d_X5_write_68 : decode b_X5_write 68 = .ok (.iconst 1, 1) := by decide +kernel
theorem d_X5_write_69 : decode b_X5_write 69 = .ok (.isub, 1) := by decide +kernel
theorem d_X5_write_70 : decode b_X5_write 70 = .ok (.ireturn, 1) := by decide +kernel
theorem d_X5_isChangeOf_0 : decode b_X5_isChangeOf 0 = .ok (.aload_n 0, 1) := by decide +kernel
theorem d_X5_isChangeOf_1 : decode b_X5_isChangeOf 1 = .ok (.getfield 9, 3) := by decide +kernel
theorem d_X5_isChangeOf_4 : decode b_X5_isChangeOf 4 = .ok (.iload_n 1, 1) := by decide +kernel
theorem d_X5_isChangeOf_5 : decode b_X5_isChangeOf 5 = .ok (.iaload, 1) := by decide +kernel
theorem d_X5_isChangeOf_6 : decode b_X5_isChangeOf 6 = .ok (.ifCond .ne 17, 3) := by decide +kernel
theorem d_X5_isChangeOf_9 : decode b_X5_isChangeOf 9 = .ok (.aload_n 0, 1) := by decide +kernel
theorem d_X5_isChangeOf_10 : decode b_X5_isChangeOf 10 = .ok (.getfield 15, 3) := by decide +kernel
theorem d_X5_isChangeOf_13 : decode b_X5_isChangeOf 13 = .ok (.iload_n 1, 1) := by decide +kernel
theorem d_X5_isChangeOf_14 : decode b_X5_isChangeOf 14 = .ok (.iaload, 1) := by decide +kernel
theorem d_X5_isChangeOf_15 : decode b_X5_isChangeOf 15 = .ok (.iload_n 2, 1) := by decide +kernel
theorem d_X5_isChangeOf_16 : decode b_X5_isChangeOf 16 = .ok (.if_icmp .ne 7, 3) := by decide +kernel
theorem d_X5_isChangeOf_19 : decode b_X5_isChangeOf 19 = .ok (.iconst 1, 1) := by decide +kernel
theorem d_X5_isChangeOf_20 : decode b_X5_isChangeOf 20 = .ok (.goto 4, 3) := by decide +kernel
theorem d_X5_isChangeOf_23 : decode b_X5_isChangeOf 23 = .ok (.iconst 0, 1) := by decide +kernel
theorem d_X5_isChangeOf_24 : decode b_X5_isChangeOf 24 = .ok (.ireturn, 1) := by decide +kernel
