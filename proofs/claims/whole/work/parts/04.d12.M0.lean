theorem d_M0_init_0 : decode b_M0_init 0 = .ok (.aload_n 0, 1) := by decide +kernel
theorem d_M0_init_1 : decode b_M0_init 1 = .ok (.invokespecial 1, 3) := by decide +kernel
theorem d_M0_init_4 : decode b_M0_init 4 = .ok (.aload_n 0, 1) := by decide +kernel
theorem d_M0_init_5 : decode b_M0_init 5 = .ok (.sipush 160, 3) := by decide +kernel
theorem d_M0_init_8 : decode b_M0_init 8 = .ok (.newarray .int, 2) := by decide +kernel
theorem d_M0_init_10 : decode b_M0_init 10 = .ok (.putfield 7, 3) := by decide +kernel
theorem d_M0_init_13 : decode b_M0_init 13 = .ok (.aload_n 0, 1) := by decide +kernel
theorem d_M0_init_14 : decode b_M0_init 14 = .ok (.sipush 160, 3) := by decide +kernel
theorem d_M0_init_17 : decode b_M0_init 17 = .ok (.newarray .int, 2) := by decide +kernel
theorem d_M0_init_19 : decode b_M0_init 19 = .ok (.putfield 13, 3) := by decide +kernel
theorem d_M0_init_22 : decode b_M0_init 22 = .ok (.aload_n 0, 1) := by decide +kernel
theorem d_M0_init_23 : decode b_M0_init 23 = .ok (.sipush 160, 3) := by decide +kernel
theorem d_M0_init_26 : decode b_M0_init 26 = .ok (.newarray .int, 2) := by decide +kernel
theorem d_M0_init_28 : decode b_M0_init 28 = .ok (.putfield 16, 3) := by decide +kernel
theorem d_M0_init_31 : decode b_M0_init 31 = .ok (.aload_n 0, 1) := by decide +kernel
theorem d_M0_init_32 : decode b_M0_init 32 = .ok (.sipush 160, 3) := by decide +kernel
theorem d_M0_init_35 : decode b_M0_init 35 = .ok (.newarray .int, 2) := by decide +kernel
theorem d_M0_init_37 : decode b_M0_init 37 = .ok (.putfield 19, 3) := by decide +kernel
theorem d_M0_init_40 : decode b_M0_init 40 = .ok (.aload_n 0, 1) := by decide +kernel
theorem d_M0_init_41 : decode b_M0_init 41 = .ok (.sipush 160, 3) := by decide +kernel
theorem d_M0_init_44 : decode b_M0_init 44 = .ok (.newarray .int, 2) := by decide +kernel
theorem d_M0_init_46 : decode b_M0_init 46 = .ok (.putfield 22, 3) := by decide +kernel
theorem d_M0_init_49 : decode b_M0_init 49 = .ok (.aload_n 0, 1) := by decide +kernel
theorem d_M0_init_50 : decode b_M0_init 50 = .ok (.sipush 160, 3) := by decide +kernel
theorem d_M0_init_53 : decode b_M0_init 53 = .ok (.newarray .int, 2) := by decide +kernel
theorem d_M0_init_55 : decode b_M0_init 55 = .ok (.putfield 25, 3) := by decide +kernel
theorem d_M0_init_58 : decode b_M0_init 58 = .ok (.aload_n 0, 1) := by decide +kernel
theorem d_M0_init_59 : decode b_M0_init 59 = .ok (.sipush 160, 3) := by decide +kernel
theorem d_M0_init_62 : decode b_M0_init 62 = .ok (.newarray .int, 2) := by decide +kernel
theorem d_M0_init_64 : decode b_M0_init 64 = .ok (.putfield 28, 3) := by decide +kernel
theorem d_M0_init_67 : decode b_M0_init 67 = .ok (.aload_n 0, 1) := by decide +kernel
theorem d_M0_init_68 : decode b_M0_init 68 = .ok (.sipush 160, 3) := by decide +kernel
theorem d_M0_init_71 : decode b_M0_init 71 = .ok (.newarray .int, 2) := by decide +kernel
theorem d_M0_init_73 : decode b_M0_init 73 = .ok (.putfield 31, 3) := by decide +kernel
theorem d_M0_init_76 : decode b_M0_init 76 = .ok (.aload_n 0, 1) := by decide +kernel
theorem d_M0_init_77 : decode b_M0_init 77 = .ok (.iconst 4, 1) := by decide +kernel
theorem d_M0_init_78 : decode b_M0_init 78 = .ok (.newarray .int, 2) := by decide +kernel
theorem d_M0_init_80 : decode b_M0_init 80 = .ok (.putfield 34, 3) := by decide +kernel
theorem d_M0_init_83 : decode b_M0_init 83 = .ok (.aload_n 0, 1) := by decide +kernel
theorem d_M0_init_84 : decode b_M0_init 84 = .ok (.bipush 12, 2) := by decide +kernel
theorem d_M0_init_86 : decode b_M0_init 86 = .ok (.newarray .int, 2) := by decide +kernel
theorem d_M0_init_88 : decode b_M0_init 88 = .ok (.putfield 37, 3) := by decide +kernel
theorem d_M0_init_91 : decode b_M0_init 91 = .ok (.aload_n 0, 1) := by decide +kernel
theorem d_M0_init_92 : decode b_M0_init 92 = .ok (.iconst (-1), 1) := by decide +kernel
theorem d_M0_init_93 : decode b_M0_init 93 = .ok (.putfield 40, 3) := by decide +kernel
theorem d_M0_init_96 : decode b_M0_init 96 = .ok (.aload_n 0, 1) := by decide +kernel
theorem d_M0_init_97 : decode b_M0_init 97 = .ok (.iconst (-1), 1) := by decide +kernel
theorem d_M0_init_98 : decode b_M0_init 98 = .ok (.putfield 44, 3) := by decide +kernel
theorem d_M0_init_101 : decode b_M0_init 101 = .ok (.aload_n 0, 1) := by decide +kernel
theorem d_M0_init_102 : decode b_M0_init 102 = .ok (.iconst 4, 1) := by decide +kernel
theorem d_M0_init_103 : decode b_M0_init 103 = .ok (.newarray .int, 2) := by decide +kernel
theorem d_M0_init_105 : decode b_M0_init 105 = .ok (.putfield 47, 3) := by decide +kernel
theorem d_M0_init_108 : decode b_M0_init 108 = .ok (.aload_n 0, 1) := by decide +kernel
theorem d_M0_init_109 : decode b_M0_init 109 = .ok (.iconst 4, 1) := by decide +kernel
theorem d_M0_init_110 : decode b_M0_init 110 = .ok (.newarray .int, 2) := by decide +kernel
theorem d_M0_init_112 : decode b_M0_init 112 = .ok (.putfield 50, 3) := by decide +kernel
theorem d_M0_init_115 : decode b_M0_init 115 = .ok (.aload_n 0, 1) := by decide +kernel
theorem d_M0_init_116 : decode b_M0_init 116 = .ok (.iconst 4, 1) := by decide +kernel
theorem d_M0_init_117 : decode b_M0_init 117 = .ok (.newarray .int, 2) := by decide +kernel
theorem d_M0_init_119 : decode b_M0_init 119 = .ok (.putfield 53, 3) := by decide +kernel
theorem d_M0_init_122 : decode b_M0_init 122 = .ok (.aload_n 0, 1) := by decide +kernel
theorem d_M0_init_123 : decode b_M0_init 123 = .ok (.bipush 8, 2) := by decide +kernel
theorem d_M0_init_125 : decode b_M0_init 125 = .ok (.newarray .int, 2) := by decide +kernel
theorem d_M0_init_127 : decode b_M0_init 127 = .ok (.putfield 56, 3) := by decide +kernel
theorem d_M0_init_130 : decode b_M0_init 130 = .ok (.aload_n 0, 1) := by decide +kernel
theorem d_M0_init_131 : decode b_M0_init 131 = .ok (.bipush 8, 2) := by decide +kernel
theorem d_M0_init_133 : decode b_M0_init 133 = .ok (.newarray .int, 2) := by decide +kernel
theorem d_M0_init_135 : decode b_M0_init 135 = .ok (.putfield 59, 3) := by decide +kernel
theorem d_M0_init_138 : decode b_M0_init 138 = .ok (.aload_n 0, 1) := by decide +kernel
theorem d_M0_init_139 : decode b_M0_init 139 = .ok (.bipush 8, 2) := by decide +kernel
theorem d_M0_init_141 : decode b_M0_init 141 = .ok (.newarray .int, 2) := by decide +kernel
theorem d_M0_init_143 : decode b_M0_init 143 = .ok (.putfield 62, 3) := by decide +kernel
theorem d_M0_init_146 : decode b_M0_init 146 = .ok (.aload_n 0, 1) := by decide +kernel
theorem d_M0_init_147 : decode b_M0_init 147 = .ok (.bipush 8, 2) := by decide +kernel
theorem d_M0_init_149 : decode b_M0_init 149 = .ok (.newarray .int, 2) := by decide +kernel
theorem d_M0_init_151 : decode b_M0_init 151 = .ok (.putfield 65, 3) := by decide +kernel
theorem d_M0_init_154 : decode b_M0_init 154 = .ok (.aload_n 0, 1) := by decide +kernel
theorem d_M0_init_155 : decode b_M0_init 155 = .ok (.sipush 160, 3) := by decide +kernel
theorem d_M0_init_158 : decode b_M0_init 158 = .ok (.newarray .int, 2) := by decide +kernel
theorem d_M0_init_160 : decode b_M0_init 160 = .ok (.putfield 68, 3) := by decide +kernel
theorem d_M0_init_163 : decode b_M0_init 163 = .ok (.aload_n 0, 1) := by decide +kernel
theorem d_M0_init_164 : decode b_M0_init 164 = .ok (.iconst (-1), 1) := by decide +kernel
theorem d_M0_init_165 : decode b_M0_init 165 = .ok (.putfield 71, 3) := by decide +kernel
theorem d_M0_init_168 : decode b_M0_init 168 = .ok (.aload_n 0, 1) := by decide +kernel
theorem d_M0_init_169 : decode b_M0_init 169 = .ok (.iload_n 1, 1) := by decide +kernel
theorem d_M0_init_170 : decode b_M0_init 170 = .ok (.iconst 1, 1) := by decide +kernel
theorem d_M0_init_171 : decode b_M0_init 171 = .ok (.if_icmp .ge 7, 3) := by decide +kernel
theorem d_M0_init_174 : decode b_M0_init 174 = .ok (.iconst 1, 1) := by decide +kernel
theorem d_M0_init_175 : decode b_M0_init 175 = .ok (.goto 15, 3) := by decide +kernel
theorem d_M0_init_178 : decode b_M0_init 178 = .ok (.iload_n 1, 1) := by decide +kernel
theorem d_M0_init_179 : decode b_M0_init 179 = .ok (.bipush 12, 2) := by decide +kernel
theorem d_M0_init_181 : decode b_M0_init 181 = .ok (.if_icmp .le 8, 3) := by decide +kernel
theorem d_M0_init_184 : decode b_M0_init 184 = .ok (.bipush 12, 2) := by decide +kernel
theorem d_M0_init_186 : decode b_M0_init 186 = .ok (.goto 4, 3) := by decide +kernel
theorem d_M0_init_189 : decode b_M0_init 189 = .ok (.iload_n 1, 1) := by decide +kernel
theorem d_M0_init_190 : decode b_M0_init 190 = .ok (.putfield 74, 3) := by decide +kernel
theorem d_M0_init_193 : decode b_M0_init 193 = .ok (.aload_n 0, 1) := by decide +kernel
theorem d_M0_init_194 : decode b_M0_init 194 = .ok (.iload_n 2, 1) := by decide +kernel
theorem d_M0_init_195 : decode b_M0_init 195 = .ok (.iconst 1, 1) := by decide +kernel
theorem d_M0_init_196 : decode b_M0_init 196 = .ok (.if_icmp .ge 7, 3) := by decide +kernel
theorem d_M0_init_199 : decode b_M0_init 199 = .ok (.iconst 1, 1) := by decide +kernel
theorem d_M0_init_200 : decode b_M0_init 200 = .ok (.goto 15, 3) := by decide +kernel
theorem d_M0_init_203 : decode b_M0_init 203 = .ok (.iload_n 2, 1) := by decide +kernel
theorem d_M0_init_204 : decode b_M0_init 204 = .ok (.bipush 6, 2) := by decide +kernel
theorem d_M0_init_206 : decode b_M0_init 206 = .ok (.if_icmp .le 8, 3) := by decide +kernel
theorem d_M0_init_209 : decode b_M0_init 209 = .ok (.bipush 6, 2) := by decide +kernel
theorem d_M0_init_211 : decode b_M0_init 211 = .ok (.goto 4, 3) := by decide +kernel
theorem d_M0_init_214 : decode b_M0_init 214 = .ok (.iload_n 2, 1) := by decide +kernel
theorem d_M0_init_215 : decode b_M0_init 215 = .ok (.putfield 77, 3) := by decide +kernel
theorem d_M0_init_218 : decode b_M0_init 218 = .ok (.aload_n 0, 1) := by decide +kernel
theorem d_M0_init_219 : decode b_M0_init 219 = .ok (.iload_n 3, 1) := by decide +kernel
theorem d_M0_init_220 : decode b_M0_init 220 = .ok (.iconst 1, 1) := by decide +kernel
theorem d_M0_init_221 : decode b_M0_init 221 = .ok (.if_icmp .ge 7, 3) := by decide +kernel
theorem d_M0_init_224 : decode b_M0_init 224 = .ok (.iconst 1, 1) := by decide +kernel
theorem d_M0_init_225 : decode b_M0_init 225 = .ok (.goto 15, 3) := by decide +kernel
theorem d_M0_init_228 : decode b_M0_init 228 = .ok (.iload_n 3, 1) := by decide +kernel
theorem d_M0_init_229 : decode b_M0_init 229 = .ok (.bipush 20, 2) := by decide +kernel
theorem d_M0_init_231 : decode b_M0_init 231 = .ok (.if_icmp .le 8, 3) := by decide +kernel
theorem d_M0_init_234 : decode b_M0_init 234 = .ok (.bipush 20, 2) := by decide +kernel
theorem d_M0_init_236 : decode b_M0_init 236 = .ok (.goto 4, 3) := by decide +kernel
theorem d_M0_init_239 : decode b_M0_init 239 = .ok (.iload_n 3, 1) := by decide +kernel
theorem d_M0_init_240 : decode b_M0_init 240 = .ok (.putfield 80, 3) := by decide +kernel
theorem d_M0_init_243 : decode b_M0_init 243 = .ok (.aload_n 0, 1) := by decide +kernel
theorem d_M0_init_244 : decode b_M0_init 244 = .ok (.iload 4, 2) := by decide +kernel
theorem d_M0_init_246 : decode b_M0_init 246 = .ok (.putfield 83, 3) := by decide +kernel
theorem d_M0_init_249 : decode b_M0_init 249 = .ok (.iconst 0, 1) := by decide +kernel
theorem d_M0_init_250 : decode b_M0_init 250 = .ok (.istore 5, 2) := by decide +kernel
theorem d_M0_init_252 : decode b_M0_init 252 = .ok (.iload 5, 2) := by decide +kernel
theorem d_M0_init_254 : decode b_M0_init 254 = .ok (.bipush 12, 2) := by decide +kernel
theorem d_M0_init_256 : decode b_M0_init 256 = .ok (.if_icmp .ge 17, 3) := by decide +kernel
theorem d_M0_init_259 : decode b_M0_init 259 = .ok (.aload_n 0, 1) := by decide +kernel
theorem d_M0_init_260 : decode b_M0_init 260 = .ok (.getfield 37, 3) := by decide +kernel
theorem d_M0_init_263 : decode b_M0_init 263 = .ok (.iload 5, 2) := by decide +kernel
theorem d_M0_init_265 : decode b_M0_init 265 = .ok (.iconst (-1), 1) := by decide +kernel
theorem d_M0_init_266 : decode b_M0_init 266 = .ok (.iastore, 1) := by decide +kernel
theorem d_M0_init_267 : decode b_M0_init 267 = .ok (.iinc 5 1, 3) := by decide +kernel
theorem d_M0_init_270 : decode b_M0_init 270 = .ok (.goto (-18), 3) := by decide +kernel
theorem d_M0_init_273 : decode b_M0_init 273 = .ok (.return_, 1) := by decide +kernel
theorem d_M0_stored_0 : decode b_M0_stored 0 = .ok (.aload_n 0, 1) := by decide +kernel
theorem d_M0_stored_1 : decode b_M0_stored 1 = .ok (.iload_n 1, 1) := by decide +kernel
theorem d_M0_stored_2 : decode b_M0_stored 2 = .ok (.invokevirtual 113, 3) := by decide +kernel
theorem d_M0_stored_5 : decode b_M0_stored 5 = .ok (.ifCond .ne 7, 3) := by decide +kernel
theorem d_M0_stored_8 : decode b_M0_stored 8 = .ok (.ldc2_w 92, 3) := by decide +kernel
theorem d_M0_stored_11 : decode b_M0_stored 11 = .ok (.lreturn, 1) := by decide +kernel
theorem d_M0_stored_12 : decode b_M0_stored 12 = .ok (.aload_n 0, 1) := by decide +kernel
theorem d_M0_stored_13 : decode b_M0_stored 13 = .ok (.getfield 117, 3) := by decide +kernel
theorem d_M0_stored_16 : decode b_M0_stored 16 = .ok (.iconst 1, 1) := by decide +kernel
theorem d_M0_stored_17 : decode b_M0_stored 17 = .ok (.isub, 1) := by decide +kernel
theorem d_M0_stored_18 : decode b_M0_stored 18 = .ok (.istore_n 2, 1) := by decide +kernel
theorem d_M0_stored_19 : decode b_M0_stored 19 = .ok (.iload_n 2, 1) := by decide +kernel
theorem d_M0_stored_20 : decode b_M0_stored 20 = .ok (.ifCond .lt 35, 3) := by decide +kernel
theorem d_M0_stored_23 : decode b_M0_stored 23 = .ok (.aload_n 0, 1) := by decide +kernel
theorem d_M0_stored_24 : decode b_M0_stored 24 = .ok (.aload_n 0, 1) := by decide +kernel
theorem d_M0_stored_25 : decode b_M0_stored 25 = .ok (.getfield 68, 3) := by decide +kernel
theorem d_M0_stored_28 : decode b_M0_stored 28 = .ok (.iload_n 2, 1) := by decide +kernel
theorem d_M0_stored_29 : decode b_M0_stored 29 = .ok (.iaload, 1) := by decide +kernel
theorem d_M0_stored_30 : decode b_M0_stored 30 = .ok (.iload_n 1, 1) := by decide +kernel
theorem d_M0_stored_31 : decode b_M0_stored 31 = .ok (.invokevirtual 120, 3) := by decide +kernel
theorem d_M0_stored_34 : decode b_M0_stored 34 = .ok (.ifCond .eq 15, 3) := by decide +kernel
theorem d_M0_stored_37 : decode b_M0_stored 37 = .ok (.aload_n 0, 1) := by decide +kernel
theorem d_M0_stored_38 : decode b_M0_stored 38 = .ok (.aload_n 0, 1) := by decide +kernel
theorem d_M0_stored_39 : decode b_M0_stored 39 = .ok (.getfield 68, 3) := by decide +kernel
theorem d_M0_stored_42 : decode b_M0_stored 42 = .ok (.iload_n 2, 1) := by decide +kernel
theorem d_M0_stored_43 : decode b_M0_stored 43 = .ok (.iaload, 1) := by decide +kernel
theorem d_M0_stored_44 : decode b_M0_stored 44 = .ok (.iload_n 1, 1) := by decide +kernel
theorem d_M0_stored_45 : decode b_M0_stored 45 = .ok (.invokevirtual 124, 3) := by decide +kernel
theorem d_M0_stored_48 : decode b_M0_stored 48 = .ok (.lreturn, 1) := by decide +kernel
theorem d_M0_stored_49 : decode b_M0_stored 49 = .ok (.iinc 2 (-1), 3) := by decide +kernel
theorem d_M0_stored_52 : decode b_M0_stored 52 = .ok (.goto (-33), 3) := by decide +kernel
theorem d_M0_stored_55 : decode b_M0_stored 55 = .ok (.ldc2_w 92, 3) := by decide +kernel
theorem d_M0_stored_58 : decode b_M0_stored 58 = .ok (.lreturn, 1) := by decide +kernel
theorem d_M0_isKey_0 : decode b_M0_isKey 0 = .ok (.iload_n 1, 1) := by decide +kernel
theorem d_M0_isKey_1 : decode b_M0_isKey 1 = .ok (.ifCond .lt 15, 3) := by decide +kernel
theorem d_M0_isKey_4 : decode b_M0_isKey 4 = .ok (.iload_n 1, 1) := by decide +kernel
theorem d_M0_isKey_5 : decode b_M0_isKey 5 = .ok (.aload_n 0, 1) := by decide +kernel
theorem d_M0_isKey_6 : decode b_M0_isKey 6 = .ok (.getfield 74, 3) := by decide +kernel
theorem d_M0_isKey_9 : decode b_M0_isKey 9 = .ok (.if_icmp .ge 7, 3) := by decide +kernel
theorem d_M0_isKey_12 : decode b_M0_isKey 12 = .ok (.iconst 1, 1) := by decide +kernel
theorem d_M0_isKey_13 : decode b_M0_isKey 13 = .ok (.goto 4, 3) := by decide +kernel
theorem d_M0_isKey_16 : decode b_M0_isKey 16 = .ok (.iconst 0, 1) := by decide +kernel
theorem d_M0_isKey_17 : decode b_M0_isKey 17 = .ok (.ireturn, 1) := by decide +kernel
theorem d_M0_speaks_0 : decode b_M0_speaks 0 = .ok (.aload_n 0, 1) := by decide +kernel
theorem d_M0_speaks_1 : decode b_M0_speaks 1 = .ok (.getfield 7, 3) := by decide +kernel
theorem d_M0_speaks_4 : decode b_M0_speaks 4 = .ok (.iload_n 1, 1) := by decide +kernel
theorem d_M0_speaks_5 : decode b_M0_speaks 5 = .ok (.iaload, 1) := by decide +kernel
theorem d_M0_speaks_6 : decode b_M0_speaks 6 = .ok (.iconst 3, 1) := by decide +kernel
theorem d_M0_speaks_7 : decode b_M0_speaks 7 = .ok (.if_icmp .ne 24, 3) := by decide +kernel
theorem d_M0_speaks_10 : decode b_M0_speaks 10 = .ok (.aload_n 0, 1) := by decide +kernel
theorem d_M0_speaks_11 : decode b_M0_speaks 11 = .ok (.aload_n 0, 1) := by decide +kernel
theorem d_M0_speaks_12 : decode b_M0_speaks 12 = .ok (.getfield 13, 3) := by decide +kernel
theorem d_M0_speaks_15 : decode b_M0_speaks 15 = .ok (.iload_n 1, 1) := by decide +kernel
theorem d_M0_speaks_16 : decode b_M0_speaks 16 = .ok (.iaload, 1) := by decide +kernel
theorem d_M0_speaks_17 : decode b_M0_speaks 17 = .ok (.iload_n 2, 1) := by decide +kernel
theorem d_M0_speaks_18 : decode b_M0_speaks 18 = .ok (.iload_n 1, 1) := by decide +kernel
theorem d_M0_speaks_19 : decode b_M0_speaks 19 = .ok (.invokevirtual 94, 3) := by decide +kernel
theorem d_M0_speaks_22 : decode b_M0_speaks 22 = .ok (.ifCond .lt 7, 3) := by decide +kernel
theorem d_M0_speaks_25 : decode b_M0_speaks 25 = .ok (.iconst 1, 1) := by decide +kernel
theorem d_M0_speaks_26 : decode b_M0_speaks 26 = .ok (.goto 4, 3) := by decide +kernel
theorem d_M0_speaks_29 : decode b_M0_speaks 29 = .ok (.iconst 0, 1) := by decide +kernel
theorem d_M0_speaks_30 : decode b_M0_speaks 30 = .ok (.ireturn, 1) := by decide +kernel
theorem d_M0_speaks_31 : decode b_M0_speaks 31 = .ok (.iload_n 2, 1) := by decide +kernel
theorem d_M0_speaks_32 : decode b_M0_speaks 32 = .ok (.aload_n 0, 1) := by decide +kernel
theorem d_M0_speaks_33 : decode b_M0_speaks 33 = .ok (.getfield 31, 3) := by decide +kernel
theorem d_M0_speaks_36 : decode b_M0_speaks 36 = .ok (.iload_n 1, 1) := by decide +kernel
theorem d_M0_speaks_37 : decode b_M0_speaks 37 = .ok (.iaload, 1) := by decide +kernel
theorem d_M0_speaks_38 : decode b_M0_speaks 38 = .ok (.if_icmp .lt 22, 3) := by decide +kernel
theorem d_M0_speaks_41 : decode b_M0_speaks 41 = .ok (.iload_n 2, 1) := by decide +kernel
theorem d_M0_speaks_42 : decode b_M0_speaks 42 = .ok (.aload_n 0, 1) := by decide +kernel
theorem d_M0_speaks_43 : decode b_M0_speaks 43 = .ok (.getfield 31, 3) := by decide +kernel
theorem d_M0_speaks_46 : decode b_M0_speaks 46 = .ok (.iload_n 1, 1) := by decide +kernel
theorem d_M0_speaks_47 : decode b_M0_speaks 47 = .ok (.iaload, 1) := by decide +kernel
theorem d_M0_speaks_48 : decode b_M0_speaks 48 = .ok (.aload_n 0, 1) := by decide +kernel
theorem d_M0_speaks_49 : decode b_M0_speaks 49 = .ok (.getfield 77, 3) := by decide +kernel
theorem d_M0_speaks_52 : decode b_M0_speaks 52 = .ok (.iadd, 1) := by decide +kernel
theorem d_M0_speaks_53 : decode b_M0_speaks 53 = .ok (.if_icmp .ge 7, 3) := by decide +kernel
theorem d_M0_speaks_56 : decode b_M0_speaks 56 = .ok (.iconst 1, 1) := by decide +kernel
theorem d_M0_speaks_57 : decode b_M0_speaks 57 = .ok (.goto 4, 3) := by decide +kernel
theorem d_M0_speaks_60 : decode b_M0_speaks 60 = .ok (.iconst 0, 1) := by decide +kernel
theorem d_M0_speaks_61 : decode b_M0_speaks 61 = .ok (.istore_n 3, 1) := by decide +kernel
theorem d_M0_speaks_62 : decode b_M0_speaks 62 = .ok (.iload_n 3, 1) := by decide +kernel
theorem d_M0_speaks_63 : decode b_M0_speaks 63 = .ok (.ifCond .eq 38, 3) := by decide +kernel
theorem d_M0_speaks_66 : decode b_M0_speaks 66 = .ok (.aload_n 0, 1) := by decide +kernel
theorem d_M0_speaks_67 : decode b_M0_speaks 67 = .ok (.iload_n 2, 1) := by decide +kernel
theorem d_M0_speaks_68 : decode b_M0_speaks 68 = .ok (.aload_n 0, 1) := by decide +kernel
theorem d_M0_speaks_69 : decode b_M0_speaks 69 = .ok (.getfield 25, 3) := by decide +kernel
theorem d_M0_speaks_72 : decode b_M0_speaks 72 = .ok (.iload_n 1, 1) := by decide +kernel
theorem d_M0_speaks_73 : decode b_M0_speaks 73 = .ok (.iaload, 1) := by decide +kernel
theorem d_M0_speaks_74 : decode b_M0_speaks 74 = .ok (.iload_n 1, 1) := by decide +kernel
theorem d_M0_speaks_75 : decode b_M0_speaks 75 = .ok (.invokevirtual 102, 3) := by decide +kernel
theorem d_M0_speaks_78 : decode b_M0_speaks 78 = .ok (.ifCond .ne 23, 3) := by decide +kernel
theorem d_M0_speaks_81 : decode b_M0_speaks 81 = .ok (.aload_n 0, 1) := by decide +kernel
theorem d_M0_speaks_82 : decode b_M0_speaks 82 = .ok (.iload_n 2, 1) := by decide +kernel
theorem d_M0_speaks_83 : decode b_M0_speaks 83 = .ok (.aload_n 0, 1) := by decide +kernel
theorem d_M0_speaks_84 : decode b_M0_speaks 84 = .ok (.getfield 28, 3) := by decide +kernel
theorem d_M0_speaks_87 : decode b_M0_speaks 87 = .ok (.iload_n 1, 1) := by decide +kernel
theorem d_M0_speaks_88 : decode b_M0_speaks 88 = .ok (.iaload, 1) := by decide +kernel
theorem d_M0_speaks_89 : decode b_M0_speaks 89 = .ok (.invokevirtual 106, 3) := by decide +kernel
theorem d_M0_speaks_92 : decode b_M0_speaks 92 = .ok (.lconst 0, 1) := by decide +kernel
theorem d_M0_speaks_93 : decode b_M0_speaks 93 = .ok (.lcmp, 1) := by decide +kernel
theorem d_M0_speaks_94 : decode b_M0_speaks 94 = .ok (.ifCond .lt 7, 3) := by decide +kernel
theorem d_M0_speaks_97 : decode b_M0_speaks 97 = .ok (.iconst 1, 1) := by decide +kernel
theorem d_M0_speaks_98 : decode b_M0_speaks 98 = .ok (.goto 4, 3) := by decide +kernel
theorem d_M0_speaks_101 : decode b_M0_speaks 101 = .ok (.iconst 0, 1) := by decide +kernel
theorem d_M0_speaks_102 : decode b_M0_speaks 102 = .ok (.ireturn, 1) := by decide +kernel
theorem d_M0_lastBy_0 : decode b_M0_lastBy 0 = .ok (.iload_n 3, 1) := by decide +kernel
theorem d_M0_lastBy_1 : decode b_M0_lastBy 1 = .ok (.iconst 1, 1) := by decide +kernel
theorem d_M0_lastBy_2 : decode b_M0_lastBy 2 = .ok (.isub, 1) := by decide +kernel
theorem d_M0_lastBy_3 : decode b_M0_lastBy 3 = .ok (.istore 4, 2) := by decide +kernel
theorem d_M0_lastBy_5 : decode b_M0_lastBy 5 = .ok (.iload 4, 2) := by decide +kernel
theorem d_M0_lastBy_7 : decode b_M0_lastBy 7 = .ok (.ifCond .lt 56, 3) := by decide +kernel
theorem d_M0_lastBy_10 : decode b_M0_lastBy 10 = .ok (.aload_n 0, 1) := by decide +kernel
theorem d_M0_lastBy_11 : decode b_M0_lastBy 11 = .ok (.getfield 13, 3) := by decide +kernel
theorem d_M0_lastBy_14 : decode b_M0_lastBy 14 = .ok (.iload 4, 2) := by decide +kernel
theorem d_M0_lastBy_16 : decode b_M0_lastBy 16 = .ok (.iaload, 1) := by decide +kernel
theorem d_M0_lastBy_17 : decode b_M0_lastBy 17 = .ok (.iload_n 1, 1) := by decide +kernel
theorem d_M0_lastBy_18 : decode b_M0_lastBy 18 = .ok (.if_icmp .ne 39, 3) := by decide +kernel
theorem d_M0_lastBy_21 : decode b_M0_lastBy 21 = .ok (.aload_n 0, 1) := by decide +kernel
theorem d_M0_lastBy_22 : decode b_M0_lastBy 22 = .ok (.getfield 16, 3) := by decide +kernel
theorem d_M0_lastBy_25 : decode b_M0_lastBy 25 = .ok (.iload 4, 2) := by decide +kernel
theorem d_M0_lastBy_27 : decode b_M0_lastBy 27 = .ok (.iaload, 1) := by decide +kernel
theorem d_M0_lastBy_28 : decode b_M0_lastBy 28 = .ok (.iload_n 2, 1) := by decide +kernel
theorem d_M0_lastBy_29 : decode b_M0_lastBy 29 = .ok (.if_icmp .ne 28, 3) := by decide +kernel
theorem d_M0_lastBy_32 : decode b_M0_lastBy 32 = .ok (.aload_n 0, 1) := by decide +kernel
theorem d_M0_lastBy_33 : decode b_M0_lastBy 33 = .ok (.getfield 7, 3) := by decide +kernel
theorem d_M0_lastBy_36 : decode b_M0_lastBy 36 = .ok (.iload 4, 2) := by decide +kernel
theorem d_M0_lastBy_38 : decode b_M0_lastBy 38 = .ok (.iaload, 1) := by decide +kernel
theorem d_M0_lastBy_39 : decode b_M0_lastBy 39 = .ok (.iconst 1, 1) := by decide +kernel
theorem d_M0_lastBy_40 : decode b_M0_lastBy 40 = .ok (.if_icmp .eq 14, 3) := by decide +kernel
theorem d_M0_lastBy_43 : decode b_M0_lastBy 43 = .ok (.aload_n 0, 1) := by decide +kernel
theorem d_M0_lastBy_44 : decode b_M0_lastBy 44 = .ok (.getfield 7, 3) := by decide +kernel
theorem d_M0_lastBy_47 : decode b_M0_lastBy 47 = .ok (.iload 4, 2) := by decide +kernel
theorem d_M0_lastBy_49 : decode b_M0_lastBy 49 = .ok (.iaload, 1) := by decide +kernel
theorem d_M0_lastBy_50 : decode b_M0_lastBy 50 = .ok (.iconst 2, 1) := by decide +kernel
theorem d_M0_lastBy_51 : decode b_M0_lastBy 51 = .ok (.if_icmp .ne 6, 3) := by decide +kernel
theorem d_M0_lastBy_54 : decode b_M0_lastBy 54 = .ok (.iload 4, 2) := by decide +kernel
theorem d_M0_lastBy_56 : decode b_M0_lastBy 56 = .ok (.ireturn, 1) := by decide +kernel
theorem d_M0_lastBy_57 : decode b_M0_lastBy 57 = .ok (.iinc 4 (-1), 3) := by decide +kernel
theorem d_M0_lastBy_60 : decode b_M0_lastBy 60 = .ok (.goto (-55), 3) := by decide +kernel
theorem d_M0_lastBy_63 : decode b_M0_lastBy 63 = .ok (.iconst (-1), 1) := by decide +kernel
theorem d_M0_lastBy_64 : decode b_M0_lastBy 64 = .ok (.ireturn, 1) := by decide +kernel
theorem d_M0_struck_0 : decode b_M0_struck 0 = .ok (.iload_n 2, 1) := by decide +kernel
theorem d_M0_struck_1 : decode b_M0_struck 1 = .ok (.iconst 1, 1) := by decide +kernel
theorem d_M0_struck_2 : decode b_M0_struck 2 = .ok (.iadd, 1) := by decide +kernel
theorem d_M0_struck_3 : decode b_M0_struck 3 = .ok (.istore 4, 2) := by decide +kernel
theorem d_M0_struck_5 : decode b_M0_struck 5 = .ok (.iload 4, 2) := by decide +kernel
theorem d_M0_struck_7 : decode b_M0_struck 7 = .ok (.iload_n 3, 1) := by decide +kernel
theorem d_M0_struck_8 : decode b_M0_struck 8 = .ok (.if_icmp .ge 39, 3) := by decide +kernel
theorem d_M0_struck_11 : decode b_M0_struck 11 = .ok (.aload_n 0, 1) := by decide +kernel
theorem d_M0_struck_12 : decode b_M0_struck 12 = .ok (.getfield 7, 3) := by decide +kernel
theorem d_M0_struck_15 : decode b_M0_struck 15 = .ok (.iload 4, 2) := by decide +kernel
theorem d_M0_struck_17 : decode b_M0_struck 17 = .ok (.iaload, 1) := by decide +kernel
theorem d_M0_struck_18 : decode b_M0_struck 18 = .ok (.iconst 3, 1) := by decide +kernel
theorem d_M0_struck_19 : decode b_M0_struck 19 = .ok (.if_icmp .ne 22, 3) := by decide +kernel
theorem d_M0_struck_22 : decode b_M0_struck 22 = .ok (.aload_n 0, 1) := by decide +kernel
theorem d_M0_struck_23 : decode b_M0_struck 23 = .ok (.aload_n 0, 1) := by decide +kernel
theorem d_M0_struck_24 : decode b_M0_struck 24 = .ok (.getfield 13, 3) := by decide +kernel
theorem d_M0_struck_27 : decode b_M0_struck 27 = .ok (.iload 4, 2) := by decide +kernel
theorem d_M0_struck_29 : decode b_M0_struck 29 = .ok (.iaload, 1) := by decide +kernel
theorem d_M0_struck_30 : decode b_M0_struck 30 = .ok (.iload_n 1, 1) := by decide +kernel
theorem d_M0_struck_31 : decode b_M0_struck 31 = .ok (.iload 4, 2) := by decide +kernel
theorem d_M0_struck_33 : decode b_M0_struck 33 = .ok (.invokevirtual 94, 3) := by decide +kernel
theorem d_M0_struck_36 : decode b_M0_struck 36 = .ok (.ifCond .lt 5, 3) := by decide +kernel
theorem d_M0_struck_39 : decode b_M0_struck 39 = .ok (.iconst 1, 1) := by decide +kernel
theorem d_M0_struck_40 : decode b_M0_struck 40 = .ok (.ireturn, 1) := by decide +kernel
theorem d_M0_struck_41 : decode b_M0_struck 41 = .ok (.iinc 4 1, 3) := by decide +kernel
theorem d_M0_struck_44 : decode b_M0_struck 44 = .ok (.goto (-39), 3) := by decide +kernel
theorem d_M0_struck_47 : decode b_M0_struck 47 = .ok (.iconst 0, 1) := by decide +kernel
theorem d_M0_struck_48 : decode b_M0_struck 48 = .ok (.ireturn, 1) := by decide +kernel
theorem d_M0_table_0 : decode b_M0_table 0 = .ok (.iload_n 2, 1) := by decide +kernel
theorem d_M0_table_1 : decode b_M0_table 1 = .ok (.iconst 1, 1) := by decide +kernel
theorem d_M0_table_2 : decode b_M0_table 2 = .ok (.isub, 1) := by decide +kernel
theorem d_M0_table_3 : decode b_M0_table 3 = .ok (.istore_n 3, 1) := by decide +kernel
theorem d_M0_table_4 : decode b_M0_table 4 = .ok (.iload_n 3, 1) := by decide +kernel
theorem d_M0_table_5 : decode b_M0_table 5 = .ok (.ifCond .lt 49, 3) := by decide +kernel
theorem d_M0_table_8 : decode b_M0_table 8 = .ok (.aload_n 0, 1) := by decide +kernel
theorem d_M0_table_9 : decode b_M0_table 9 = .ok (.getfield 7, 3) := by decide +kernel
theorem d_M0_table_12 : decode b_M0_table 12 = .ok (.iload_n 3, 1) := by decide +kernel
theorem d_M0_table_13 : decode b_M0_table 13 = .ok (.iaload, 1) := by decide +kernel
theorem d_M0_table_14 : decode b_M0_table 14 = .ok (.iconst 3, 1) := by decide +kernel
theorem d_M0_table_15 : decode b_M0_table 15 = .ok (.if_icmp .ne 18, 3) := by decide +kernel
theorem d_M0_table_18 : decode b_M0_table 18 = .ok (.aload_n 0, 1) := by decide +kernel
theorem d_M0_table_19 : decode b_M0_table 19 = .ok (.aload_n 0, 1) := by decide +kernel
theorem d_M0_table_20 : decode b_M0_table 20 = .ok (.getfield 13, 3) := by decide +kernel
theorem d_M0_table_23 : decode b_M0_table 23 = .ok (.iload_n 3, 1) := by decide +kernel
theorem d_M0_table_24 : decode b_M0_table 24 = .ok (.iaload, 1) := by decide +kernel
theorem d_M0_table_25 : decode b_M0_table 25 = .ok (.iload_n 1, 1) := by decide +kernel
theorem d_M0_table_26 : decode b_M0_table 26 = .ok (.iload_n 3, 1) := by decide +kernel
theorem d_M0_table_27 : decode b_M0_table 27 = .ok (.invokevirtual 94, 3) := by decide +kernel
theorem d_M0_table_30 : decode b_M0_table 30 = .ok (.goto 4, 3) := by decide +kernel
theorem d_M0_table_33 : decode b_M0_table 33 = .ok (.iconst (-1), 1) := by decide +kernel
theorem d_M0_table_34 : decode b_M0_table 34 = .ok (.istore 4, 2) := by decide +kernel
theorem d_M0_table_36 : decode b_M0_table 36 = .ok (.iload 4, 2) := by decide +kernel
theorem d_M0_table_38 : decode b_M0_table 38 = .ok (.ifCond .lt 10, 3) := by decide +kernel
theorem d_M0_table_41 : decode b_M0_table 41 = .ok (.aload_n 0, 1) := by decide +kernel
theorem d_M0_table_42 : decode b_M0_table 42 = .ok (.iload 4, 2) := by decide +kernel
theorem d_M0_table_44 : decode b_M0_table 44 = .ok (.invokevirtual 98, 3) := by decide +kernel
theorem d_M0_table_47 : decode b_M0_table 47 = .ok (.lreturn, 1) := by decide +kernel
theorem d_M0_table_48 : decode b_M0_table 48 = .ok (.iinc 3 (-1), 3) := by decide +kernel
theorem d_M0_table_51 : decode b_M0_table 51 = .ok (.goto (-47), 3) := by decide +kernel
theorem d_M0_table_54 : decode b_M0_table 54 = .ok (.iload_n 1, 1) := by decide +kernel
theorem d_M0_table_55 : decode b_M0_table 55 = .ok (.iconst 4, 1) := by decide +kernel
theorem d_M0_table_56 : decode b_M0_table 56 = .ok (.irem, 1) := by decide +kernel
theorem d_M0_table_57 : decode b_M0_table 57 = .ok (.bipush 10, 2) := by decide +kernel
theorem d_M0_table_59 : decode b_M0_table 59 = .ok (.iload_n 1, 1) := by decide +kernel
theorem d_M0_table_60 : decode b_M0_table 60 = .ok (.imul, 1) := by decide +kernel
theorem d_M0_table_61 : decode b_M0_table 61 = .ok (.invokestatic 88, 3) := by decide +kernel
theorem d_M0_table_64 : decode b_M0_table 64 = .ok (.lreturn, 1) := by decide +kernel
theorem d_M0_made_0 : decode b_M0_made 0 = .ok (.aload_n 0, 1) := by decide +kernel
theorem d_M0_made_1 : decode b_M0_made 1 = .ok (.getfield 7, 3) := by decide +kernel
theorem d_M0_made_4 : decode b_M0_made 4 = .ok (.iload_n 1, 1) := by decide +kernel
theorem d_M0_made_5 : decode b_M0_made 5 = .ok (.iaload, 1) := by decide +kernel
theorem d_M0_made_6 : decode b_M0_made 6 = .ok (.iconst 1, 1) := by decide +kernel
theorem d_M0_made_7 : decode b_M0_made 7 = .ok (.if_icmp .ne 21, 3) := by decide +kernel
theorem d_M0_made_10 : decode b_M0_made 10 = .ok (.aload_n 0, 1) := by decide +kernel
theorem d_M0_made_11 : decode b_M0_made 11 = .ok (.getfield 19, 3) := by decide +kernel
theorem d_M0_made_14 : decode b_M0_made 14 = .ok (.iload_n 1, 1) := by decide +kernel
theorem d_M0_made_15 : decode b_M0_made 15 = .ok (.iaload, 1) := by decide +kernel
theorem d_M0_made_16 : decode b_M0_made 16 = .ok (.aload_n 0, 1) := by decide +kernel
theorem d_M0_made_17 : decode b_M0_made 17 = .ok (.getfield 22, 3) := by decide +kernel
theorem d_M0_made_20 : decode b_M0_made 20 = .ok (.iload_n 1, 1) := by decide +kernel
theorem d_M0_made_21 : decode b_M0_made 21 = .ok (.iaload, 1) := by decide +kernel
theorem d_M0_made_22 : decode b_M0_made 22 = .ok (.invokestatic 88, 3) := by decide +kernel
theorem d_M0_made_25 : decode b_M0_made 25 = .ok (.goto 6, 3) := by decide +kernel
theorem d_M0_made_28 : decode b_M0_made 28 = .ok (.ldc2_w 92, 3) := by decide +kernel
theorem d_M0_made_31 : decode b_M0_made 31 = .ok (.lreturn, 1) := by decide +kernel
theorem d_M0_rowOf_0 : decode b_M0_rowOf 0 = .ok (.iload_n 0, 1) := by decide +kernel
theorem d_M0_rowOf_1 : decode b_M0_rowOf 1 = .ok (.i2l, 1) := by decide +kernel
theorem d_M0_rowOf_2 : decode b_M0_rowOf 2 = .ok (.bipush 32, 2) := by decide +kernel
theorem d_M0_rowOf_4 : decode b_M0_rowOf 4 = .ok (.lshl, 1) := by decide +kernel
theorem d_M0_rowOf_5 : decode b_M0_rowOf 5 = .ok (.iload_n 1, 1) := by decide +kernel
theorem d_M0_rowOf_6 : decode b_M0_rowOf 6 = .ok (.i2l, 1) := by decide +kernel
theorem d_M0_rowOf_7 : decode b_M0_rowOf 7 = .ok (.ldc2_w 86, 3) := by decide +kernel
theorem d_M0_rowOf_10 : decode b_M0_rowOf 10 = .ok (.land, 1) := by decide +kernel
theorem d_M0_rowOf_11 : decode b_M0_rowOf 11 = .ok (.lor, 1) := by decide +kernel
theorem d_M0_rowOf_12 : decode b_M0_rowOf 12 = .ok (.lreturn, 1) := by decide +kernel
theorem d_M0_says_0 : decode b_M0_says 0 = .ok (.aload_n 0, 1) := by decide +kernel
theorem d_M0_says_1 : decode b_M0_says 1 = .ok (.getfield 7, 3) := by decide +kernel
theorem d_M0_says_4 : decode b_M0_says 4 = .ok (.iload_n 1, 1) := by decide +kernel
theorem d_M0_says_5 : decode b_M0_says 5 = .ok (.iaload, 1) := by decide +kernel
theorem d_M0_says_6 : decode b_M0_says 6 = .ok (.iconst 3, 1) := by decide +kernel
theorem d_M0_says_7 : decode b_M0_says 7 = .ok (.if_icmp .ne 26, 3) := by decide +kernel
theorem d_M0_says_10 : decode b_M0_says 10 = .ok (.aload_n 0, 1) := by decide +kernel
theorem d_M0_says_11 : decode b_M0_says 11 = .ok (.aload_n 0, 1) := by decide +kernel
theorem d_M0_says_12 : decode b_M0_says 12 = .ok (.getfield 13, 3) := by decide +kernel
theorem d_M0_says_15 : decode b_M0_says 15 = .ok (.iload_n 1, 1) := by decide +kernel
theorem d_M0_says_16 : decode b_M0_says 16 = .ok (.iaload, 1) := by decide +kernel
theorem d_M0_says_17 : decode b_M0_says 17 = .ok (.iload_n 2, 1) := by decide +kernel
theorem d_M0_says_18 : decode b_M0_says 18 = .ok (.iload_n 1, 1) := by decide +kernel
theorem d_M0_says_19 : decode b_M0_says 19 = .ok (.invokevirtual 94, 3) := by decide +kernel
theorem d_M0_says_22 : decode b_M0_says 22 = .ok (.istore_n 3, 1) := by decide +kernel
theorem d_M0_says_23 : decode b_M0_says 23 = .ok (.aload_n 0, 1) := by decide +kernel
theorem d_M0_says_24 : decode b_M0_says 24 = .ok (.aload_n 0, 1) := by decide +kernel
theorem d_M0_says_25 : decode b_M0_says 25 = .ok (.iload_n 3, 1) := by decide +kernel
theorem d_M0_says_26 : decode b_M0_says 26 = .ok (.invokevirtual 98, 3) := by decide +kernel
theorem d_M0_says_29 : decode b_M0_says 29 = .ok (.invokevirtual 109, 3) := by decide +kernel
theorem d_M0_says_32 : decode b_M0_says 32 = .ok (.lreturn, 1) := by decide +kernel
theorem d_M0_says_33 : decode b_M0_says 33 = .ok (.aload_n 0, 1) := by decide +kernel
theorem d_M0_says_34 : decode b_M0_says 34 = .ok (.iload_n 2, 1) := by decide +kernel
theorem d_M0_says_35 : decode b_M0_says 35 = .ok (.aload_n 0, 1) := by decide +kernel
theorem d_M0_says_36 : decode b_M0_says 36 = .ok (.getfield 28, 3) := by decide +kernel
