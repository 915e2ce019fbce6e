theorem dX5_init_0 : decode cX5_init 0 = .ok (.aload_n 0, 1) := by decide +kernel
theorem dX5_init_1 : decode cX5_init 1 = .ok (.invokespecial 3, 3) := by decide +kernel
theorem dX5_init_4 : decode cX5_init 4 = .ok (.aload_n 0, 1) := by decide +kernel
theorem dX5_init_5 : decode cX5_init 5 = .ok (.aload_n 1, 1) := by decide +kernel
theorem dX5_init_6 : decode cX5_init 6 = .ok (.putfield 9, 3) := by decide +kernel
theorem dX5_init_9 : decode cX5_init 9 = .ok (.aload_n 0, 1) := by decide +kernel
theorem dX5_init_10 : decode cX5_init 10 = .ok (.new 15, 3) := by decide +kernel
theorem dX5_init_13 : decode cX5_init 13 = .ok (.dup, 1) := by decide +kernel
theorem dX5_init_14 : decode cX5_init 14 = .ok (.bipush 96, 2) := by decide +kernel
theorem dX5_init_16 : decode cX5_init 16 = .ok (.invokespecial 17, 3) := by decide +kernel
theorem dX5_init_19 : decode cX5_init 19 = .ok (.putfield 20, 3) := by decide +kernel
theorem dX5_init_22 : decode cX5_init 22 = .ok (.aload_n 0, 1) := by decide +kernel
theorem dX5_init_23 : decode cX5_init 23 = .ok (.new 15, 3) := by decide +kernel
theorem dX5_init_26 : decode cX5_init 26 = .ok (.dup, 1) := by decide +kernel
theorem dX5_init_27 : decode cX5_init 27 = .ok (.bipush 96, 2) := by decide +kernel
theorem dX5_init_29 : decode cX5_init 29 = .ok (.invokespecial 17, 3) := by decide +kernel
theorem dX5_init_32 : decode cX5_init 32 = .ok (.putfield 24, 3) := by decide +kernel
theorem dX5_init_35 : decode cX5_init 35 = .ok (.aload_n 0, 1) := by decide +kernel
theorem dX5_init_36 : decode cX5_init 36 = .ok (.new 15, 3) := by decide +kernel
theorem dX5_init_39 : decode cX5_init 39 = .ok (.dup, 1) := by decide +kernel
theorem dX5_init_40 : decode cX5_init 40 = .ok (.bipush 96, 2) := by decide +kernel
theorem dX5_init_42 : decode cX5_init 42 = .ok (.invokespecial 17, 3) := by decide +kernel
theorem dX5_init_45 : decode cX5_init 45 = .ok (.putfield 27, 3) := by decide +kernel
theorem dX5_init_48 : decode cX5_init 48 = .ok (.aload_n 0, 1) := by decide +kernel
theorem dX5_init_49 : decode cX5_init 49 = .ok (.new 15, 3) := by decide +kernel
theorem dX5_init_52 : decode cX5_init 52 = .ok (.dup, 1) := by decide +kernel
theorem dX5_init_53 : decode cX5_init 53 = .ok (.bipush 96, 2) := by decide +kernel
theorem dX5_init_55 : decode cX5_init 55 = .ok (.invokespecial 17, 3) := by decide +kernel
theorem dX5_init_58 : decode cX5_init 58 = .ok (.putfield 30, 3) := by decide +kernel
theorem dX5_init_61 : decode cX5_init 61 = .ok (.aload_n 0, 1) := by decide +kernel
theorem dX5_init_62 : decode cX5_init 62 = .ok (.lconst 1, 1) := by decide +kernel
theorem dX5_init_63 : decode cX5_init 63 = .ok (.putfield 33, 3) := by decide +kernel
theorem dX5_init_66 : decode cX5_init 66 = .ok (.aload_n 0, 1) := by decide +kernel
theorem dX5_init_67 : decode cX5_init 67 = .ok (.lconst 0, 1) := by decide +kernel
theorem dX5_init_68 : decode cX5_init 68 = .ok (.putfield 37, 3) := by decide +kernel
theorem dX5_init_71 : decode cX5_init 71 = .ok (.aload_n 0, 1) := by decide +kernel
theorem dX5_init_72 : decode cX5_init 72 = .ok (.lconst 0, 1) := by decide +kernel
theorem dX5_init_73 : decode cX5_init 73 = .ok (.putfield 40, 3) := by decide +kernel
theorem dX5_init_76 : decode cX5_init 76 = .ok (.aload_n 0, 1) := by decide +kernel
theorem dX5_init_77 : decode cX5_init 77 = .ok (.lconst 1, 1) := by decide +kernel
theorem dX5_init_78 : decode cX5_init 78 = .ok (.putfield 43, 3) := by decide +kernel
theorem dX5_init_81 : decode cX5_init 81 = .ok (.return_, 1) := by decide +kernel
theorem dX5_cancel_0 : decode cX5_cancel 0 = .ok (.aload_n 1, 1) := by decide +kernel
theorem dX5_cancel_1 : decode cX5_cancel 1 = .ok (.aload_n 2, 1) := by decide +kernel
theorem dX5_cancel_2 : decode cX5_cancel 2 = .ok (.invokevirtual 46, 3) := by decide +kernel
theorem dX5_cancel_5 : decode cX5_cancel 5 = .ok (.ifCond .lt 7, 3) := by decide +kernel
theorem dX5_cancel_8 : decode cX5_cancel 8 = .ok (.iconst 1, 1) := by decide +kernel
theorem dX5_cancel_9 : decode cX5_cancel 9 = .ok (.goto 4, 3) := by decide +kernel
theorem dX5_cancel_12 : decode cX5_cancel 12 = .ok (.iconst 0, 1) := by decide +kernel
theorem dX5_cancel_13 : decode cX5_cancel 13 = .ok (.istore 5, 2) := by decide +kernel
theorem dX5_cancel_15 : decode cX5_cancel 15 = .ok (.aload_n 0, 1) := by decide +kernel
theorem dX5_cancel_16 : decode cX5_cancel 16 = .ok (.getfield 20, 3) := by decide +kernel
theorem dX5_cancel_19 : decode cX5_cancel 19 = .ok (.astore 6, 2) := by decide +kernel
theorem dX5_cancel_21 : decode cX5_cancel 21 = .ok (.aload_n 0, 1) := by decide +kernel
theorem dX5_cancel_22 : decode cX5_cancel 22 = .ok (.getfield 24, 3) := by decide +kernel
theorem dX5_cancel_25 : decode cX5_cancel 25 = .ok (.astore 7, 2) := by decide +kernel
theorem dX5_cancel_27 : decode cX5_cancel 27 = .ok (.aload_n 0, 1) := by decide +kernel
theorem dX5_cancel_28 : decode cX5_cancel 28 = .ok (.getfield 27, 3) := by decide +kernel
theorem dX5_cancel_31 : decode cX5_cancel 31 = .ok (.astore 8, 2) := by decide +kernel
theorem dX5_cancel_33 : decode cX5_cancel 33 = .ok (.aload 6, 2) := by decide +kernel
theorem dX5_cancel_35 : decode cX5_cancel 35 = .ok (.iload 5, 2) := by decide +kernel
theorem dX5_cancel_37 : decode cX5_cancel 37 = .ok (.ifCond .eq 7, 3) := by decide +kernel
theorem dX5_cancel_40 : decode cX5_cancel 40 = .ok (.aload_n 1, 1) := by decide +kernel
theorem dX5_cancel_41 : decode cX5_cancel 41 = .ok (.goto 4, 3) := by decide +kernel
theorem dX5_cancel_44 : decode cX5_cancel 44 = .ok (.aload_n 2, 1) := by decide +kernel
theorem dX5_cancel_45 : decode cX5_cancel 45 = .ok (.invokevirtual 50, 3) := by decide +kernel
theorem dX5_cancel_48 : decode cX5_cancel 48 = .ok (.aload 7, 2) := by decide +kernel
theorem dX5_cancel_50 : decode cX5_cancel 50 = .ok (.iload 5, 2) := by decide +kernel
theorem dX5_cancel_52 : decode cX5_cancel 52 = .ok (.ifCond .eq 7, 3) := by decide +kernel
theorem dX5_cancel_55 : decode cX5_cancel 55 = .ok (.aload_n 2, 1) := by decide +kernel
theorem dX5_cancel_56 : decode cX5_cancel 56 = .ok (.goto 4, 3) := by decide +kernel
theorem dX5_cancel_59 : decode cX5_cancel 59 = .ok (.aload_n 1, 1) := by decide +kernel
theorem dX5_cancel_60 : decode cX5_cancel 60 = .ok (.invokevirtual 50, 3) := by decide +kernel
theorem dX5_cancel_63 : decode cX5_cancel 63 = .ok (.iconst 0, 1) := by decide +kernel
theorem dX5_cancel_64 : decode cX5_cancel 64 = .ok (.istore 9, 2) := by decide +kernel
theorem dX5_cancel_66 : decode cX5_cancel 66 = .ok (.iload 9, 2) := by decide +kernel
theorem dX5_cancel_68 : decode cX5_cancel 68 = .ok (.ldc 54, 2) := by decide +kernel
theorem dX5_cancel_70 : decode cX5_cancel 70 = .ok (.if_icmp .ge 117, 3) := by decide +kernel
theorem dX5_cancel_73 : decode cX5_cancel 73 = .ok (.aload 6, 2) := by decide +kernel
theorem dX5_cancel_75 : decode cX5_cancel 75 = .ok (.getfield 55, 3) := by decide +kernel
theorem dX5_cancel_78 : decode cX5_cancel 78 = .ok (.iconst 2, 1) := by decide +kernel
theorem dX5_cancel_79 : decode cX5_cancel 79 = .ok (.if_icmp .le 108, 3) := by decide +kernel
theorem dX5_cancel_82 : decode cX5_cancel 82 = .ok (.aload 7, 2) := by decide +kernel
theorem dX5_cancel_84 : decode cX5_cancel 84 = .ok (.getfield 55, 3) := by decide +kernel
theorem dX5_cancel_87 : decode cX5_cancel 87 = .ok (.ifCond .le 100, 3) := by decide +kernel
theorem dX5_cancel_90 : decode cX5_cancel 90 = .ok (.aload 6, 2) := by decide +kernel
theorem dX5_cancel_92 : decode cX5_cancel 92 = .ok (.getfield 55, 3) := by decide +kernel
theorem dX5_cancel_95 : decode cX5_cancel 95 = .ok (.istore 10, 2) := by decide +kernel
theorem dX5_cancel_97 : decode cX5_cancel 97 = .ok (.aload 6, 2) := by decide +kernel
theorem dX5_cancel_99 : decode cX5_cancel 99 = .ok (.getfield 59, 3) := by decide +kernel
theorem dX5_cancel_102 : decode cX5_cancel 102 = .ok (.iload 10, 2) := by decide +kernel
theorem dX5_cancel_104 : decode cX5_cancel 104 = .ok (.iconst 1, 1) := by decide +kernel
theorem dX5_cancel_105 : decode cX5_cancel 105 = .ok (.isub, 1) := by decide +kernel
theorem dX5_cancel_106 : decode cX5_cancel 106 = .ok (.iaload, 1) := by decide +kernel
theorem dX5_cancel_107 : decode cX5_cancel 107 = .ok (.invokestatic 63, 3) := by decide +kernel
theorem dX5_cancel_110 : decode cX5_cancel 110 = .ok (.istore 11, 2) := by decide +kernel
theorem dX5_cancel_112 : decode cX5_cancel 112 = .ok (.aload_n 0, 1) := by decide +kernel
theorem dX5_cancel_113 : decode cX5_cancel 113 = .ok (.aload 6, 2) := by decide +kernel
theorem dX5_cancel_115 : decode cX5_cancel 115 = .ok (.iload 10, 2) := by decide +kernel
theorem dX5_cancel_117 : decode cX5_cancel 117 = .ok (.iload 11, 2) := by decide +kernel
theorem dX5_cancel_119 : decode cX5_cancel 119 = .ok (.invokestatic 67, 3) := by decide +kernel
theorem dX5_cancel_122 : decode cX5_cancel 122 = .ok (.aload 7, 2) := by decide +kernel
theorem dX5_cancel_124 : decode cX5_cancel 124 = .ok (.iload 10, 2) := by decide +kernel
theorem dX5_cancel_126 : decode cX5_cancel 126 = .ok (.iload 11, 2) := by decide +kernel
theorem dX5_cancel_128 : decode cX5_cancel 128 = .ok (.invokestatic 67, 3) := by decide +kernel
theorem dX5_cancel_131 : decode cX5_cancel 131 = .ok (.invokevirtual 71, 3) := by decide +kernel
theorem dX5_cancel_134 : decode cX5_cancel 134 = .ok (.ifCond .eq 14, 3) := by decide +kernel
theorem dX5_cancel_137 : decode cX5_cancel 137 = .ok (.aload_n 0, 1) := by decide +kernel
theorem dX5_cancel_138 : decode cX5_cancel 138 = .ok (.aload 6, 2) := by decide +kernel
theorem dX5_cancel_140 : decode cX5_cancel 140 = .ok (.aload 7, 2) := by decide +kernel
theorem dX5_cancel_142 : decode cX5_cancel 142 = .ok (.invokevirtual 75, 3) := by decide +kernel
theorem dX5_cancel_145 : decode cX5_cancel 145 = .ok (.goto 36, 3) := by decide +kernel
theorem dX5_cancel_148 : decode cX5_cancel 148 = .ok (.aload_n 0, 1) := by decide +kernel
theorem dX5_cancel_149 : decode cX5_cancel 149 = .ok (.getfield 9, 3) := by decide +kernel
theorem dX5_cancel_152 : decode cX5_cancel 152 = .ok (.aload 6, 2) := by decide +kernel
theorem dX5_cancel_154 : decode cX5_cancel 154 = .ok (.aload 7, 2) := by decide +kernel
theorem dX5_cancel_156 : decode cX5_cancel 156 = .ok (.aload_n 0, 1) := by decide +kernel
theorem dX5_cancel_157 : decode cX5_cancel 157 = .ok (.getfield 30, 3) := by decide +kernel
theorem dX5_cancel_160 : decode cX5_cancel 160 = .ok (.aload 8, 2) := by decide +kernel
theorem dX5_cancel_162 : decode cX5_cancel 162 = .ok (.invokevirtual 79, 3) := by decide +kernel
theorem dX5_cancel_165 : decode cX5_cancel 165 = .ok (.aload 6, 2) := by decide +kernel
theorem dX5_cancel_167 : decode cX5_cancel 167 = .ok (.astore 12, 2) := by decide +kernel
theorem dX5_cancel_169 : decode cX5_cancel 169 = .ok (.aload 7, 2) := by decide +kernel
theorem dX5_cancel_171 : decode cX5_cancel 171 = .ok (.astore 6, 2) := by decide +kernel
theorem dX5_cancel_173 : decode cX5_cancel 173 = .ok (.aload 8, 2) := by decide +kernel
theorem dX5_cancel_175 : decode cX5_cancel 175 = .ok (.astore 7, 2) := by decide +kernel
theorem dX5_cancel_177 : decode cX5_cancel 177 = .ok (.aload 12, 2) := by decide +kernel
theorem dX5_cancel_179 : decode cX5_cancel 179 = .ok (.astore 8, 2) := by decide +kernel
theorem dX5_cancel_181 : decode cX5_cancel 181 = .ok (.iinc 9 1, 3) := by decide +kernel
theorem dX5_cancel_184 : decode cX5_cancel 184 = .ok (.goto (-118), 3) := by decide +kernel
theorem dX5_cancel_187 : decode cX5_cancel 187 = .ok (.aload 6, 2) := by decide +kernel
theorem dX5_cancel_189 : decode cX5_cancel 189 = .ok (.getfield 55, 3) := by decide +kernel
theorem dX5_cancel_192 : decode cX5_cancel 192 = .ok (.iconst 2, 1) := by decide +kernel
theorem dX5_cancel_193 : decode cX5_cancel 193 = .ok (.if_icmp .gt 21, 3) := by decide +kernel
theorem dX5_cancel_196 : decode cX5_cancel 196 = .ok (.aload 6, 2) := by decide +kernel
theorem dX5_cancel_198 : decode cX5_cancel 198 = .ok (.aload 6, 2) := by decide +kernel
theorem dX5_cancel_200 : decode cX5_cancel 200 = .ok (.invokevirtual 85, 3) := by decide +kernel
theorem dX5_cancel_203 : decode cX5_cancel 203 = .ok (.aload 7, 2) := by decide +kernel
theorem dX5_cancel_205 : decode cX5_cancel 205 = .ok (.invokevirtual 85, 3) := by decide +kernel
theorem dX5_cancel_208 : decode cX5_cancel 208 = .ok (.invokestatic 89, 3) := by decide +kernel
theorem dX5_cancel_211 : decode cX5_cancel 211 = .ok (.invokevirtual 93, 3) := by decide +kernel
theorem dX5_cancel_214 : decode cX5_cancel 214 = .ok (.aload 6, 2) := by decide +kernel
theorem dX5_cancel_216 : decode cX5_cancel 216 = .ok (.invokevirtual 97, 3) := by decide +kernel
theorem dX5_cancel_219 : decode cX5_cancel 219 = .ok (.ifCond .eq 17, 3) := by decide +kernel
theorem dX5_cancel_222 : decode cX5_cancel 222 = .ok (.aload_n 3, 1) := by decide +kernel
theorem dX5_cancel_223 : decode cX5_cancel 223 = .ok (.aload_n 1, 1) := by decide +kernel
theorem dX5_cancel_224 : decode cX5_cancel 224 = .ok (.invokevirtual 50, 3) := by decide +kernel
theorem dX5_cancel_227 : decode cX5_cancel 227 = .ok (.aload 4, 2) := by decide +kernel
theorem dX5_cancel_229 : decode cX5_cancel 229 = .ok (.aload_n 2, 1) := by decide +kernel
theorem dX5_cancel_230 : decode cX5_cancel 230 = .ok (.invokevirtual 50, 3) := by decide +kernel
theorem dX5_cancel_233 : decode cX5_cancel 233 = .ok (.goto 34, 3) := by decide +kernel
theorem dX5_cancel_236 : decode cX5_cancel 236 = .ok (.aload_n 0, 1) := by decide +kernel
theorem dX5_cancel_237 : decode cX5_cancel 237 = .ok (.getfield 9, 3) := by decide +kernel
theorem dX5_cancel_240 : decode cX5_cancel 240 = .ok (.aload_n 1, 1) := by decide +kernel
theorem dX5_cancel_241 : decode cX5_cancel 241 = .ok (.aload 6, 2) := by decide +kernel
theorem dX5_cancel_243 : decode cX5_cancel 243 = .ok (.aload_n 3, 1) := by decide +kernel
theorem dX5_cancel_244 : decode cX5_cancel 244 = .ok (.aload_n 0, 1) := by decide +kernel
theorem dX5_cancel_245 : decode cX5_cancel 245 = .ok (.getfield 30, 3) := by decide +kernel
theorem dX5_cancel_248 : decode cX5_cancel 248 = .ok (.invokevirtual 79, 3) := by decide +kernel
theorem dX5_cancel_251 : decode cX5_cancel 251 = .ok (.aload_n 0, 1) := by decide +kernel
theorem dX5_cancel_252 : decode cX5_cancel 252 = .ok (.getfield 9, 3) := by decide +kernel
theorem dX5_cancel_255 : decode cX5_cancel 255 = .ok (.aload_n 2, 1) := by decide +kernel
theorem dX5_cancel_256 : decode cX5_cancel 256 = .ok (.aload 6, 2) := by decide +kernel
theorem dX5_cancel_258 : decode cX5_cancel 258 = .ok (.aload 4, 2) := by decide +kernel
theorem dX5_cancel_260 : decode cX5_cancel 260 = .ok (.aload_n 0, 1) := by decide +kernel
theorem dX5_cancel_261 : decode cX5_cancel 261 = .ok (.getfield 30, 3) := by decide +kernel
theorem dX5_cancel_264 : decode cX5_cancel 264 = .ok (.invokevirtual 79, 3) := by decide +kernel
theorem dX5_cancel_267 : decode cX5_cancel 267 = .ok (.return_, 1) := by decide +kernel
theorem dX5_highBits_0 : decode cX5_highBits 0 = .ok (.aload_n 0, 1) := by decide +kernel
theorem dX5_highBits_1 : decode cX5_highBits 1 = .ok (.iload_n 1, 1) := by decide +kernel
theorem dX5_highBits_2 : decode cX5_highBits 2 = .ok (.iconst 1, 1) := by decide +kernel
theorem dX5_highBits_3 : decode cX5_highBits 3 = .ok (.isub, 1) := by decide +kernel
theorem dX5_highBits_4 : decode cX5_highBits 4 = .ok (.invokevirtual 101, 3) := by decide +kernel
theorem dX5_highBits_7 : decode cX5_highBits 7 = .ok (.i2l, 1) := by decide +kernel
theorem dX5_highBits_8 : decode cX5_highBits 8 = .ok (.bipush 31, 2) := by decide +kernel
theorem dX5_highBits_10 : decode cX5_highBits 10 = .ok (.lshl, 1) := by decide +kernel
theorem dX5_highBits_11 : decode cX5_highBits 11 = .ok (.aload_n 0, 1) := by decide +kernel
theorem dX5_highBits_12 : decode cX5_highBits 12 = .ok (.iload_n 1, 1) := by decide +kernel
theorem dX5_highBits_13 : decode cX5_highBits 13 = .ok (.iconst 2, 1) := by decide +kernel
theorem dX5_highBits_14 : decode cX5_highBits 14 = .ok (.isub, 1) := by decide +kernel
theorem dX5_highBits_15 : decode cX5_highBits 15 = .ok (.invokevirtual 101, 3) := by decide +kernel
theorem dX5_highBits_18 : decode cX5_highBits 18 = .ok (.i2l, 1) := by decide +kernel
theorem dX5_highBits_19 : decode cX5_highBits 19 = .ok (.lor, 1) := by decide +kernel
theorem dX5_highBits_20 : decode cX5_highBits 20 = .ok (.lstore_n 3, 1) := by decide +kernel
theorem dX5_highBits_21 : decode cX5_highBits 21 = .ok (.lload_n 3, 1) := by decide +kernel
theorem dX5_highBits_22 : decode cX5_highBits 22 = .ok (.iload_n 2, 1) := by decide +kernel
theorem dX5_highBits_23 : decode cX5_highBits 23 = .ok (.lshl, 1) := by decide +kernel
theorem dX5_highBits_24 : decode cX5_highBits 24 = .ok (.aload_n 0, 1) := by decide +kernel
theorem dX5_highBits_25 : decode cX5_highBits 25 = .ok (.iload_n 1, 1) := by decide +kernel
theorem dX5_highBits_26 : decode cX5_highBits 26 = .ok (.iconst 3, 1) := by decide +kernel
theorem dX5_highBits_27 : decode cX5_highBits 27 = .ok (.isub, 1) := by decide +kernel
theorem dX5_highBits_28 : decode cX5_highBits 28 = .ok (.invokevirtual 101, 3) := by decide +kernel
theorem dX5_highBits_31 : decode cX5_highBits 31 = .ok (.bipush 31, 2) := by decide +kernel
theorem dX5_highBits_33 : decode cX5_highBits 33 = .ok (.iload_n 2, 1) := by decide +kernel
theorem dX5_highBits_34 : decode cX5_highBits 34 = .ok (.isub, 1) := by decide +kernel
theorem dX5_highBits_35 : decode cX5_highBits 35 = .ok (.iushr, 1) := by decide +kernel
theorem dX5_highBits_36 : decode cX5_highBits 36 = .ok (.i2l, 1) := by decide +kernel
theorem dX5_highBits_37 : decode cX5_highBits 37 = .ok (.lor, 1) := by decide +kernel
theorem dX5_highBits_38 : decode cX5_highBits 38 = .ok (.lreturn, 1) := by decide +kernel
theorem dX5_findSteps_0 : decode cX5_findSteps 0 = .ok (.lload_n 1, 1) := by decide +kernel
theorem dX5_findSteps_1 : decode cX5_findSteps 1 = .ok (.lstore 5, 2) := by decide +kernel
theorem dX5_findSteps_3 : decode cX5_findSteps 3 = .ok (.lload_n 3, 1) := by decide +kernel
theorem dX5_findSteps_4 : decode cX5_findSteps 4 = .ok (.lstore 7, 2) := by decide +kernel
theorem dX5_findSteps_6 : decode cX5_findSteps 6 = .ok (.aload_n 0, 1) := by decide +kernel
theorem dX5_findSteps_7 : decode cX5_findSteps 7 = .ok (.lconst 1, 1) := by decide +kernel
theorem dX5_findSteps_8 : decode cX5_findSteps 8 = .ok (.putfield 33, 3) := by decide +kernel
theorem dX5_findSteps_11 : decode cX5_findSteps 11 = .ok (.aload_n 0, 1) := by decide +kernel
theorem dX5_findSteps_12 : decode cX5_findSteps 12 = .ok (.lconst 0, 1) := by decide +kernel
theorem dX5_findSteps_13 : decode cX5_findSteps 13 = .ok (.putfield 37, 3) := by decide +kernel
theorem dX5_findSteps_16 : decode cX5_findSteps 16 = .ok (.aload_n 0, 1) := by decide +kernel
theorem dX5_findSteps_17 : decode cX5_findSteps 17 = .ok (.lconst 0, 1) := by decide +kernel
theorem dX5_findSteps_18 : decode cX5_findSteps 18 = .ok (.putfield 40, 3) := by decide +kernel
theorem dX5_findSteps_21 : decode cX5_findSteps 21 = .ok (.aload_n 0, 1) := by decide +kernel
theorem dX5_findSteps_22 : decode cX5_findSteps 22 = .ok (.lconst 1, 1) := by decide +kernel
theorem dX5_findSteps_23 : decode cX5_findSteps 23 = .ok (.putfield 43, 3) := by decide +kernel
theorem dX5_findSteps_26 : decode cX5_findSteps 26 = .ok (.iconst 0, 1) := by decide +kernel
theorem dX5_findSteps_27 : decode cX5_findSteps 27 = .ok (.istore 9, 2) := by decide +kernel
theorem dX5_findSteps_29 : decode cX5_findSteps 29 = .ok (.iload 9, 2) := by decide +kernel
theorem dX5_findSteps_31 : decode cX5_findSteps 31 = .ok (.ldc 54, 2) := by decide +kernel
theorem dX5_findSteps_33 : decode cX5_findSteps 33 = .ok (.if_icmp .ge 184, 3) := by decide +kernel
theorem dX5_findSteps_36 : decode cX5_findSteps 36 = .ok (.lload 7, 2) := by decide +kernel
theorem dX5_findSteps_38 : decode cX5_findSteps 38 = .ok (.aload_n 0, 1) := by decide +kernel
theorem dX5_findSteps_39 : decode cX5_findSteps 39 = .ok (.getfield 40, 3) := by decide +kernel
theorem dX5_findSteps_42 : decode cX5_findSteps 42 = .ok (.ladd, 1) := by decide +kernel
theorem dX5_findSteps_43 : decode cX5_findSteps 43 = .ok (.lconst 0, 1) := by decide +kernel
theorem dX5_findSteps_44 : decode cX5_findSteps 44 = .ok (.lcmp, 1) := by decide +kernel
theorem dX5_findSteps_45 : decode cX5_findSteps 45 = .ok (.ifCond .le 172, 3) := by decide +kernel
theorem dX5_findSteps_48 : decode cX5_findSteps 48 = .ok (.lload 7, 2) := by decide +kernel
theorem dX5_findSteps_50 : decode cX5_findSteps 50 = .ok (.aload_n 0, 1) := by decide +kernel
theorem dX5_findSteps_51 : decode cX5_findSteps 51 = .ok (.getfield 43, 3) := by decide +kernel
theorem dX5_findSteps_54 : decode cX5_findSteps 54 = .ok (.ladd, 1) := by decide +kernel
theorem dX5_findSteps_55 : decode cX5_findSteps 55 = .ok (.lconst 0, 1) := by decide +kernel
theorem dX5_findSteps_56 : decode cX5_findSteps 56 = .ok (.lcmp, 1) := by decide +kernel
theorem dX5_findSteps_57 : decode cX5_findSteps 57 = .ok (.ifCond .le 160, 3) := by decide +kernel
theorem dX5_findSteps_60 : decode cX5_findSteps 60 = .ok (.lload 5, 2) := by decide +kernel
theorem dX5_findSteps_62 : decode cX5_findSteps 62 = .ok (.aload_n 0, 1) := by decide +kernel
theorem dX5_findSteps_63 : decode cX5_findSteps 63 = .ok (.getfield 33, 3) := by decide +kernel
theorem dX5_findSteps_66 : decode cX5_findSteps 66 = .ok (.ladd, 1) := by decide +kernel
theorem dX5_findSteps_67 : decode cX5_findSteps 67 = .ok (.lload 7, 2) := by decide +kernel
theorem dX5_findSteps_69 : decode cX5_findSteps 69 = .ok (.aload_n 0, 1) := by decide +kernel
theorem dX5_findSteps_70 : decode cX5_findSteps 70 = .ok (.getfield 40, 3) := by decide +kernel
theorem dX5_findSteps_73 : decode cX5_findSteps 73 = .ok (.ladd, 1) := by decide +kernel
theorem dX5_findSteps_74 : decode cX5_findSteps 74 = .ok (.ldiv, 1) := by decide +kernel
theorem dX5_findSteps_75 : decode cX5_findSteps 75 = .ok (.lstore 10, 2) := by decide +kernel
theorem dX5_findSteps_77 : decode cX5_findSteps 77 = .ok (.lload 10, 2) := by decide +kernel
theorem dX5_findSteps_79 : decode cX5_findSteps 79 = .ok (.lload 5, 2) := by decide +kernel
theorem dX5_findSteps_81 : decode cX5_findSteps 81 = .ok (.aload_n 0, 1) := by decide +kernel
theorem dX5_findSteps_82 : decode cX5_findSteps 82 = .ok (.getfield 37, 3) := by decide +kernel
theorem dX5_findSteps_85 : decode cX5_findSteps 85 = .ok (.ladd, 1) := by decide +kernel
theorem dX5_findSteps_86 : decode cX5_findSteps 86 = .ok (.lload 7, 2) := by decide +kernel
theorem dX5_findSteps_88 : decode cX5_findSteps 88 = .ok (.aload_n 0, 1) := by decide +kernel
theorem dX5_findSteps_89 : decode cX5_findSteps 89 = .ok (.getfield 43, 3) := by decide +kernel
theorem dX5_findSteps_92 : decode cX5_findSteps 92 = .ok (.ladd, 1) := by decide +kernel
theorem dX5_findSteps_93 : decode cX5_findSteps 93 = .ok (.ldiv, 1) := by decide +kernel
theorem dX5_findSteps_94 : decode cX5_findSteps 94 = .ok (.lcmp, 1) := by decide +kernel
theorem dX5_findSteps_95 : decode cX5_findSteps 95 = .ok (.ifCond .ne 122, 3) := by decide +kernel
theorem dX5_findSteps_98 : decode cX5_findSteps 98 = .ok (.lload 10, 2) := by decide +kernel
theorem dX5_findSteps_100 : decode cX5_findSteps 100 = .ok (.ldc2_w 104, 3) := by decide +kernel
theorem dX5_findSteps_103 : decode cX5_findSteps 103 = .ok (.lcmp, 1) := by decide +kernel
theorem dX5_findSteps_104 : decode cX5_findSteps 104 = .ok (.ifCond .le 6, 3) := by decide +kernel
theorem dX5_findSteps_107 : decode cX5_findSteps 107 = .ok (.goto 110, 3) := by decide +kernel
theorem dX5_findSteps_110 : decode cX5_findSteps 110 = .ok (.aload_n 0, 1) := by decide +kernel
theorem dX5_findSteps_111 : decode cX5_findSteps 111 = .ok (.getfield 33, 3) := by decide +kernel
theorem dX5_findSteps_114 : decode cX5_findSteps 114 = .ok (.lload 10, 2) := by decide +kernel
theorem dX5_findSteps_116 : decode cX5_findSteps 116 = .ok (.aload_n 0, 1) := by decide +kernel
theorem dX5_findSteps_117 : decode cX5_findSteps 117 = .ok (.getfield 40, 3) := by decide +kernel
theorem dX5_findSteps_120 : decode cX5_findSteps 120 = .ok (.lmul, 1) := by decide +kernel
theorem dX5_findSteps_121 : decode cX5_findSteps 121 = .ok (.lsub, 1) := by decide +kernel
theorem dX5_findSteps_122 : decode cX5_findSteps 122 = .ok (.lstore 12, 2) := by decide +kernel
theorem dX5_findSteps_124 : decode cX5_findSteps 124 = .ok (.aload_n 0, 1) := by decide +kernel
theorem dX5_findSteps_125 : decode cX5_findSteps 125 = .ok (.getfield 37, 3) := by decide +kernel
theorem dX5_findSteps_128 : decode cX5_findSteps 128 = .ok (.lload 10, 2) := by decide +kernel
theorem dX5_findSteps_130 : decode cX5_findSteps 130 = .ok (.aload_n 0, 1) := by decide +kernel
theorem dX5_findSteps_131 : decode cX5_findSteps 131 = .ok (.getfield 43, 3) := by decide +kernel
theorem dX5_findSteps_134 : decode cX5_findSteps 134 = .ok (.lmul, 1) := by decide +kernel
theorem dX5_findSteps_135 : decode cX5_findSteps 135 = .ok (.lsub, 1) := by decide +kernel
theorem dX5_findSteps_136 : decode cX5_findSteps 136 = .ok (.lstore 14, 2) := by decide +kernel
theorem dX5_findSteps_138 : decode cX5_findSteps 138 = .ok (.lload 12, 2) := by decide +kernel
theorem dX5_findSteps_140 : decode cX5_findSteps 140 = .ok (.invokestatic 106, 3) := by decide +kernel
theorem dX5_findSteps_143 : decode cX5_findSteps 143 = .ok (.ldc2_w 104, 3) := by decide +kernel
theorem dX5_findSteps_146 : decode cX5_findSteps 146 = .ok (.lcmp, 1) := by decide +kernel
theorem dX5_findSteps_147 : decode cX5_findSteps 147 = .ok (.ifCond .gt 70, 3) := by decide +kernel
theorem dX5_findSteps_150 : decode cX5_findSteps 150 = .ok (.lload 14, 2) := by decide +kernel
theorem dX5_findSteps_152 : decode cX5_findSteps 152 = .ok (.invokestatic 106, 3) := by decide +kernel
theorem dX5_findSteps_155 : decode cX5_findSteps 155 = .ok (.ldc2_w 104, 3) := by decide +kernel
theorem dX5_findSteps_158 : decode cX5_findSteps 158 = .ok (.lcmp, 1) := by decide +kernel
theorem dX5_findSteps_159 : decode cX5_findSteps 159 = .ok (.ifCond .le 6, 3) := by decide +kernel
theorem dX5_findSteps_162 : decode cX5_findSteps 162 = .ok (.goto 55, 3) := by decide +kernel
theorem dX5_findSteps_165 : decode cX5_findSteps 165 = .ok (.aload_n 0, 1) := by decide +kernel
theorem dX5_findSteps_166 : decode cX5_findSteps 166 = .ok (.aload_n 0, 1) := by decide +kernel
theorem dX5_findSteps_167 : decode cX5_findSteps 167 = .ok (.getfield 40, 3) := by decide +kernel
theorem dX5_findSteps_170 : decode cX5_findSteps 170 = .ok (.putfield 33, 3) := by decide +kernel
theorem dX5_findSteps_173 : decode cX5_findSteps 173 = .ok (.aload_n 0, 1) := by decide +kernel
theorem dX5_findSteps_174 : decode cX5_findSteps 174 = .ok (.aload_n 0, 1) := by decide +kernel
theorem dX5_findSteps_175 : decode cX5_findSteps 175 = .ok (.getfield 43, 3) := by decide +kernel
theorem dX5_findSteps_178 : decode cX5_findSteps 178 = .ok (.putfield 37, 3) := by decide +kernel
theorem dX5_findSteps_181 : decode cX5_findSteps 181 = .ok (.aload_n 0, 1) := by decide +kernel
theorem dX5_findSteps_182 : decode cX5_findSteps 182 = .ok (.lload 12, 2) := by decide +kernel
theorem dX5_findSteps_184 : decode cX5_findSteps 184 = .ok (.putfield 40, 3) := by decide +kernel
theorem dX5_findSteps_187 : decode cX5_findSteps 187 = .ok (.aload_n 0, 1) := by decide +kernel
theorem dX5_findSteps_188 : decode cX5_findSteps 188 = .ok (.lload 14, 2) := by decide +kernel
theorem dX5_findSteps_190 : decode cX5_findSteps 190 = .ok (.putfield 43, 3) := by decide +kernel
theorem dX5_findSteps_193 : decode cX5_findSteps 193 = .ok (.lload 5, 2) := by decide +kernel
theorem dX5_findSteps_195 : decode cX5_findSteps 195 = .ok (.lload 10, 2) := by decide +kernel
theorem dX5_findSteps_197 : decode cX5_findSteps 197 = .ok (.lload 7, 2) := by decide +kernel
theorem dX5_findSteps_199 : decode cX5_findSteps 199 = .ok (.lmul, 1) := by decide +kernel
theorem dX5_findSteps_200 : decode cX5_findSteps 200 = .ok (.lsub, 1) := by decide +kernel
theorem dX5_findSteps_201 : decode cX5_findSteps 201 = .ok (.lstore 16, 2) := by decide +kernel
theorem dX5_findSteps_203 : decode cX5_findSteps 203 = .ok (.lload 7, 2) := by decide +kernel
theorem dX5_findSteps_205 : decode cX5_findSteps 205 = .ok (.lstore 5, 2) := by decide +kernel
theorem dX5_findSteps_207 : decode cX5_findSteps 207 = .ok (.lload 16, 2) := by decide +kernel
theorem dX5_findSteps_209 : decode cX5_findSteps 209 = .ok (.lstore 7, 2) := by decide +kernel
theorem dX5_findSteps_211 : decode cX5_findSteps 211 = .ok (.iinc 9 1, 3) := by decide +kernel
theorem dX5_findSteps_214 : decode cX5_findSteps 214 = .ok (.goto (-185), 3) := by decide +kernel
theorem dX5_findSteps_217 : decode cX5_findSteps 217 = .ok (.aload_n 0, 1) := by decide +kernel
theorem dX5_findSteps_218 : decode cX5_findSteps 218 = .ok (.getfield 37, 3) := by decide +kernel
theorem dX5_findSteps_221 : decode cX5_findSteps 221 = .ok (.lconst 0, 1) := by decide +kernel
theorem dX5_findSteps_222 : decode cX5_findSteps 222 = .ok (.lcmp, 1) := by decide +kernel
theorem dX5_findSteps_223 : decode cX5_findSteps 223 = .ok (.ifCond .eq 7, 3) := by decide +kernel
theorem dX5_findSteps_226 : decode cX5_findSteps 226 = .ok (.iconst 1, 1) := by decide +kernel
theorem dX5_findSteps_227 : decode cX5_findSteps 227 = .ok (.goto 4, 3) := by decide +kernel
theorem dX5_findSteps_230 : decode cX5_findSteps 230 = .ok (.iconst 0, 1) := by decide +kernel
theorem dX5_findSteps_231 : decode cX5_findSteps 231 = .ok (.ireturn, 1) := by decide +kernel
theorem dX5_carryOut_0 : decode cX5_carryOut 0 = .ok (.aload_n 1, 1) := by decide +kernel
theorem dX5_carryOut_1 : decode cX5_carryOut 1 = .ok (.getfield 55, 3) := by decide +kernel
theorem dX5_carryOut_4 : decode cX5_carryOut 4 = .ok (.istore_n 3, 1) := by decide +kernel
theorem dX5_carryOut_5 : decode cX5_carryOut 5 = .ok (.iload_n 3, 1) := by decide +kernel
theorem dX5_carryOut_6 : decode cX5_carryOut 6 = .ok (.aload_n 1, 1) := by decide +kernel
theorem dX5_carryOut_7 : decode cX5_carryOut 7 = .ok (.getfield 59, 3) := by decide +kernel
theorem dX5_carryOut_10 : decode cX5_carryOut 10 = .ok (.arraylength, 1) := by decide +kernel
theorem dX5_carryOut_11 : decode cX5_carryOut 11 = .ok (.if_icmp .gt 12, 3) := by decide +kernel
theorem dX5_carryOut_14 : decode cX5_carryOut 14 = .ok (.iload_n 3, 1) := by decide +kernel
theorem dX5_carryOut_15 : decode cX5_carryOut 15 = .ok (.aload_n 2, 1) := by decide +kernel
theorem dX5_carryOut_16 : decode cX5_carryOut 16 = .ok (.getfield 59, 3) := by decide +kernel
theorem dX5_carryOut_19 : decode cX5_carryOut 19 = .ok (.arraylength, 1) := by decide +kernel
theorem dX5_carryOut_20 : decode cX5_carryOut 20 = .ok (.if_icmp .le 4, 3) := by decide +kernel
theorem dX5_carryOut_23 : decode cX5_carryOut 23 = .ok (.return_, 1) := by decide +kernel
theorem dX5_carryOut_24 : decode cX5_carryOut 24 = .ok (.lconst 0, 1) := by decide +kernel
theorem dX5_carryOut_25 : decode cX5_carryOut 25 = .ok (.lstore 4, 2) := by decide +kernel
theorem dX5_carryOut_27 : decode cX5_carryOut 27 = .ok (.lconst 0, 1) := by decide +kernel
theorem dX5_carryOut_28 : decode cX5_carryOut 28 = .ok (.lstore 6, 2) := by decide +kernel
theorem dX5_carryOut_30 : decode cX5_carryOut 30 = .ok (.iconst 0, 1) := by decide +kernel
theorem dX5_carryOut_31 : decode cX5_carryOut 31 = .ok (.istore 8, 2) := by decide +kernel
theorem dX5_carryOut_33 : decode cX5_carryOut 33 = .ok (.iload 8, 2) := by decide +kernel
theorem dX5_carryOut_35 : decode cX5_carryOut 35 = .ok (.iload_n 3, 1) := by decide +kernel
theorem dX5_carryOut_36 : decode cX5_carryOut 36 = .ok (.if_icmp .ge 110, 3) := by decide +kernel
theorem dX5_carryOut_39 : decode cX5_carryOut 39 = .ok (.aload_n 1, 1) := by decide +kernel
theorem dX5_carryOut_40 : decode cX5_carryOut 40 = .ok (.getfield 59, 3) := by decide +kernel
theorem dX5_carryOut_43 : decode cX5_carryOut 43 = .ok (.iload 8, 2) := by decide +kernel
theorem dX5_carryOut_45 : decode cX5_carryOut 45 = .ok (.iaload, 1) := by decide +kernel
theorem dX5_carryOut_46 : decode cX5_carryOut 46 = .ok (.i2l, 1) := by decide +kernel
theorem dX5_carryOut_47 : decode cX5_carryOut 47 = .ok (.lstore 9, 2) := by decide +kernel
theorem dX5_carryOut_49 : decode cX5_carryOut 49 = .ok (.aload_n 2, 1) := by decide +kernel
theorem dX5_carryOut_50 : decode cX5_carryOut 50 = .ok (.iload 8, 2) := by decide +kernel
theorem dX5_carryOut_52 : decode cX5_carryOut 52 = .ok (.invokevirtual 101, 3) := by decide +kernel
theorem dX5_carryOut_55 : decode cX5_carryOut 55 = .ok (.i2l, 1) := by decide +kernel
theorem dX5_carryOut_56 : decode cX5_carryOut 56 = .ok (.lstore 11, 2) := by decide +kernel
theorem dX5_carryOut_58 : decode cX5_carryOut 58 = .ok (.lload 4, 2) := by decide +kernel
theorem dX5_carryOut_60 : decode cX5_carryOut 60 = .ok (.aload_n 0, 1) := by decide +kernel
theorem dX5_carryOut_61 : decode cX5_carryOut 61 = .ok (.getfield 33, 3) := by decide +kernel
theorem dX5_carryOut_64 : decode cX5_carryOut 64 = .ok (.lload 9, 2) := by decide +kernel
theorem dX5_carryOut_66 : decode cX5_carryOut 66 = .ok (.lmul, 1) := by decide +kernel
theorem dX5_carryOut_67 : decode cX5_carryOut 67 = .ok (.aload_n 0, 1) := by decide +kernel
theorem dX5_carryOut_68 : decode cX5_carryOut 68 = .ok (.getfield 37, 3) := by decide +kernel
theorem dX5_carryOut_71 : decode cX5_carryOut 71 = .ok (.lload 11, 2) := by decide +kernel
theorem dX5_carryOut_73 : decode cX5_carryOut 73 = .ok (.lmul, 1) := by decide +kernel
theorem dX5_carryOut_74 : decode cX5_carryOut 74 = .ok (.ladd, 1) := by decide +kernel
theorem dX5_carryOut_75 : decode cX5_carryOut 75 = .ok (.ladd, 1) := by decide +kernel
theorem dX5_carryOut_76 : decode cX5_carryOut 76 = .ok (.lstore 4, 2) := by decide +kernel
theorem dX5_carryOut_78 : decode cX5_carryOut 78 = .ok (.lload 6, 2) := by decide +kernel
theorem dX5_carryOut_80 : decode cX5_carryOut 80 = .ok (.aload_n 0, 1) := by decide +kernel
theorem dX5_carryOut_81 : decode cX5_carryOut 81 = .ok (.getfield 40, 3) := by decide +kernel
theorem dX5_carryOut_84 : decode cX5_carryOut 84 = .ok (.lload 9, 2) := by decide +kernel
theorem dX5_carryOut_86 : decode cX5_carryOut 86 = .ok (.lmul, 1) := by decide +kernel
theorem dX5_carryOut_87 : decode cX5_carryOut 87 = .ok (.aload_n 0, 1) := by decide +kernel
theorem dX5_carryOut_88 : decode cX5_carryOut 88 = .ok (.getfield 43, 3) := by decide +kernel
theorem dX5_carryOut_91 : decode cX5_carryOut 91 = .ok (.lload 11, 2) := by decide +kernel
theorem dX5_carryOut_93 : decode cX5_carryOut 93 = .ok (.lmul, 1) := by decide +kernel
theorem dX5_carryOut_94 : decode cX5_carryOut 94 = .ok (.ladd, 1) := by decide +kernel
theorem dX5_carryOut_95 : decode cX5_carryOut 95 = .ok (.ladd, 1) := by decide +kernel
theorem dX5_carryOut_96 : decode cX5_carryOut 96 = .ok (.lstore 6, 2) := by decide +kernel
theorem dX5_carryOut_98 : decode cX5_carryOut 98 = .ok (.aload_n 1, 1) := by decide +kernel
theorem dX5_carryOut_99 : decode cX5_carryOut 99 = .ok (.getfield 59, 3) := by decide +kernel
theorem dX5_carryOut_102 : decode cX5_carryOut 102 = .ok (.iload 8, 2) := by decide +kernel
theorem dX5_carryOut_104 : decode cX5_carryOut 104 = .ok (.lload 4, 2) := by decide +kernel
theorem dX5_carryOut_106 : decode cX5_carryOut 106 = .ok (.ldc2_w 104, 3) := by decide +kernel
theorem dX5_carryOut_109 : decode cX5_carryOut 109 = .ok (.land, 1) := by decide +kernel
theorem dX5_carryOut_110 : decode cX5_carryOut 110 = .ok (.l2i, 1) := by decide +kernel
theorem dX5_carryOut_111 : decode cX5_carryOut 111 = .ok (.iastore, 1) := by decide +kernel
theorem dX5_carryOut_112 : decode cX5_carryOut 112 = .ok (.aload_n 2, 1) := by decide +kernel
theorem dX5_carryOut_113 : decode cX5_carryOut 113 = .ok (.getfield 59, 3) := by decide +kernel
theorem dX5_carryOut_116 : decode cX5_carryOut 116 = .ok (.iload 8, 2) := by decide +kernel
theorem dX5_carryOut_118 : decode cX5_carryOut 118 = .ok (.lload 6, 2) := by decide +kernel
theorem dX5_carryOut_120 : decode cX5_carryOut 120 = .ok (.ldc2_w 104, 3) := by decide +kernel
theorem dX5_carryOut_123 : decode cX5_carryOut 123 = .ok (.land, 1) := by decide +kernel
theorem dX5_carryOut_124 : decode cX5_carryOut 124 = .ok (.l2i, 1) := by decide +kernel
theorem dX5_carryOut_125 : decode cX5_carryOut 125 = .ok (.iastore, 1) := by decide +kernel
theorem dX5_carryOut_126 : decode cX5_carryOut 126 = .ok (.lload 4, 2) := by decide +kernel
theorem dX5_carryOut_128 : decode cX5_carryOut 128 = .ok (.bipush 31, 2) := by decide +kernel
theorem dX5_carryOut_130 : decode cX5_carryOut 130 = .ok (.lshr, 1) := by decide +kernel
theorem dX5_carryOut_131 : decode cX5_carryOut 131 = .ok (.lstore 4, 2) := by decide +kernel
theorem dX5_carryOut_133 : decode cX5_carryOut 133 = .ok (.lload 6, 2) := by decide +kernel
theorem dX5_carryOut_135 : decode cX5_carryOut 135 = .ok (.bipush 31, 2) := by decide +kernel
theorem dX5_carryOut_137 : decode cX5_carryOut 137 = .ok (.lshr, 1) := by decide +kernel
theorem dX5_carryOut_138 : decode cX5_carryOut 138 = .ok (.lstore 6, 2) := by decide +kernel
theorem dX5_carryOut_140 : decode cX5_carryOut 140 = .ok (.iinc 8 1, 3) := by decide +kernel
theorem dX5_carryOut_143 : decode cX5_carryOut 143 = .ok (.goto (-110), 3) := by decide +kernel
theorem dX5_carryOut_146 : decode cX5_carryOut 146 = .ok (.aload_n 1, 1) := by decide +kernel
theorem dX5_carryOut_147 : decode cX5_carryOut 147 = .ok (.iload_n 3, 1) := by decide +kernel
theorem dX5_carryOut_148 : decode cX5_carryOut 148 = .ok (.invokevirtual 112, 3) := by decide +kernel
theorem dX5_carryOut_151 : decode cX5_carryOut 151 = .ok (.aload_n 2, 1) := by decide +kernel
theorem dX5_carryOut_152 : decode cX5_carryOut 152 = .ok (.iload_n 3, 1) := by decide +kernel
theorem dX5_carryOut_153 : decode cX5_carryOut 153 = .ok (.invokevirtual 112, 3) := by decide +kernel
theorem dX5_carryOut_156 : decode cX5_carryOut 156 = .ok (.return_, 1) := by decide +kernel
