theorem d_X3_dropUpTo_10 : decode b_X3_dropUpTo 10 = .ok (.aload_n 0, 1) := by decide +kernel
theorem d_X3_dropUpTo_11 : decode b_X3_dropUpTo 11 = .ok (.getfield 9, 3) := by decide +kernel
theorem d_X3_dropUpTo_14 : decode b_X3_dropUpTo 14 = .ok (.iload_n 2, 1) := by decide +kernel
theorem d_X3_dropUpTo_15 : decode b_X3_dropUpTo 15 = .ok (.iaload, 1) := by decide +kernel
theorem d_X3_dropUpTo_16 : decode b_X3_dropUpTo 16 = .ok (.iload_n 1, 1) := by decide +kernel
theorem d_X3_dropUpTo_17 : decode b_X3_dropUpTo 17 = .ok (.if_icmp .gt 9, 3) := by decide +kernel
theorem d_X3_dropUpTo_20 : decode b_X3_dropUpTo 20 = .ok (.iinc 2 1, 3) := by decide +kernel
theorem d_X3_dropUpTo_23 : decode b_X3_dropUpTo 23 = .ok (.goto (-21), 3) := by decide +kernel
theorem d_X3_dropUpTo_26 : decode b_X3_dropUpTo 26 = .ok (.aload_n 0, 1) := by decide +kernel
theorem d_X3_dropUpTo_27 : decode b_X3_dropUpTo 27 = .ok (.dup, 1) := by decide +kernel
theorem d_X3_dropUpTo_28 : decode b_X3_dropUpTo 28 = .ok (.getfield 21, 3) := by decide +kernel
theorem d_X3_dropUpTo_31 : decode b_X3_dropUpTo 31 = .ok (.iload_n 2, 1) := by decide +kernel
theorem d_X3_dropUpTo_32 : decode b_X3_dropUpTo 32 = .ok (.isub, 1) := by decide +kernel
theorem d_X3_dropUpTo_33 : decode b_X3_dropUpTo 33 = .ok (.putfield 21, 3) := by decide +kernel
theorem d_X3_dropUpTo_36 : decode b_X3_dropUpTo 36 = .ok (.iconst 0, 1) := by decide +kernel
theorem d_X3_dropUpTo_37 : decode b_X3_dropUpTo 37 = .ok (.istore_n 3, 1) := by decide +kernel
theorem d_X3_dropUpTo_38 : decode b_X3_dropUpTo 38 = .ok (.iload_n 3, 1) := by decide +kernel
theorem d_X3_dropUpTo_39 : decode b_X3_dropUpTo 39 = .ok (.aload_n 0, 1) := by decide +kernel
theorem d_X3_dropUpTo_40 : decode b_X3_dropUpTo 40 = .ok (.getfield 21, 3) := by decide +kernel
theorem d_X3_dropUpTo_43 : decode b_X3_dropUpTo 43 = .ok (.if_icmp .ge 51, 3) := by decide +kernel
theorem d_X3_dropUpTo_46 : decode b_X3_dropUpTo 46 = .ok (.aload_n 0, 1) := by decide +kernel
theorem d_X3_dropUpTo_47 : decode b_X3_dropUpTo 47 = .ok (.getfield 9, 3) := by decide +kernel
theorem d_X3_dropUpTo_50 : decode b_X3_dropUpTo 50 = .ok (.iload_n 3, 1) := by decide +kernel
theorem d_X3_dropUpTo_51 : decode b_X3_dropUpTo 51 = .ok (.aload_n 0, 1) := by decide +kernel
theorem d_X3_dropUpTo_52 : decode b_X3_dropUpTo 52 = .ok (.getfield 9, 3) := by decide +kernel
theorem d_X3_dropUpTo_55 : decode b_X3_dropUpTo 55 = .ok (.iload_n 3, 1) := by decide +kernel
theorem d_X3_dropUpTo_56 : decode b_X3_dropUpTo 56 = .ok (.iload_n 2, 1) := by decide +kernel
theorem d_X3_dropUpTo_57 : decode b_X3_dropUpTo 57 = .ok (.iadd, 1) := by decide +kernel
theorem d_X3_dropUpTo_58 : decode b_X3_dropUpTo 58 = .ok (.iaload, 1) := by decide +kernel
theorem d_X3_dropUpTo_59 : decode b_X3_dropUpTo 59 = .ok (.iastore, 1) := by decide +kernel
theorem d_X3_dropUpTo_60 : decode b_X3_dropUpTo 60 = .ok (.aload_n 0, 1) := by decide +kernel
theorem d_X3_dropUpTo_61 : decode b_X3_dropUpTo 61 = .ok (.getfield 15, 3) := by decide +kernel
theorem d_X3_dropUpTo_64 : decode b_X3_dropUpTo 64 = .ok (.iload_n 3, 1) := by decide +kernel
theorem d_X3_dropUpTo_65 : decode b_X3_dropUpTo 65 = .ok (.aload_n 0, 1) := by decide +kernel
theorem d_X3_dropUpTo_66 : decode b_X3_dropUpTo 66 = .ok (.getfield 15, 3) := by decide +kernel
theorem d_X3_dropUpTo_69 : decode b_X3_dropUpTo 69 = .ok (.iload_n 3, 1) := by decide +kernel
theorem d_X3_dropUpTo_70 : decode b_X3_dropUpTo 70 = .ok (.iload_n 2, 1) := by decide +kernel
theorem d_X3_dropUpTo_71 : decode b_X3_dropUpTo 71 = .ok (.iadd, 1) := by decide +kernel
theorem d_X3_dropUpTo_72 : decode b_X3_dropUpTo 72 = .ok (.iaload, 1) := by decide +kernel
theorem d_X3_dropUpTo_73 : decode b_X3_dropUpTo 73 = .ok (.iastore, 1) := by decide +kernel
theorem d_X3_dropUpTo_74 : decode b_X3_dropUpTo 74 = .ok (.aload_n 0, 1) := by decide +kernel
theorem d_X3_dropUpTo_75 : decode b_X3_dropUpTo 75 = .ok (.getfield 18, 3) := by decide +kernel
theorem d_X3_dropUpTo_78 : decode b_X3_dropUpTo 78 = .ok (.iload_n 3, 1) := by decide +kernel
theorem d_X3_dropUpTo_79 : decode b_X3_dropUpTo 79 = .ok (.aload_n 0, 1) := by decide +kernel
theorem d_X3_dropUpTo_80 : decode b_X3_dropUpTo 80 = .ok (.getfield 18, 3) := by decide +kernel
theorem d_X3_dropUpTo_83 : decode b_X3_dropUpTo 83 = .ok (.iload_n 3, 1) := by decide +kernel
theorem d_X3_dropUpTo_84 : decode b_X3_dropUpTo 84 = .ok (.iload_n 2, 1) := by decide +kernel
theorem d_X3_dropUpTo_85 : decode b_X3_dropUpTo 85 = .ok (.iadd, 1) := by decide +kernel
theorem d_X3_dropUpTo_86 : decode b_X3_dropUpTo 86 = .ok (.iaload, 1) := by decide +kernel
theorem d_X3_dropUpTo_87 : decode b_X3_dropUpTo 87 = .ok (.iastore, 1) := by decide +kernel
theorem d_X3_dropUpTo_88 : decode b_X3_dropUpTo 88 = .ok (.iinc 3 1, 3) := by decide +kernel
theorem d_X3_dropUpTo_91 : decode b_X3_dropUpTo 91 = .ok (.goto (-53), 3) := by decide +kernel
theorem d_X3_dropUpTo_94 : decode b_X3_dropUpTo 94 = .ok (.return_, 1) := by decide +kernel
