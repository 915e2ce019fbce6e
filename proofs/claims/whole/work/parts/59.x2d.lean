theorem dX2_init_0 : decode cX2_init 0 = .ok (.aload_n 0, 1) := by decide +kernel
theorem dX2_init_1 : decode cX2_init 1 = .ok (.invokespecial 3, 3) := by decide +kernel
theorem dX2_init_4 : decode cX2_init 4 = .ok (.aload_n 0, 1) := by decide +kernel
theorem dX2_init_5 : decode cX2_init 5 = .ok (.new 9, 3) := by decide +kernel
theorem dX2_init_8 : decode cX2_init 8 = .ok (.dup, 1) := by decide +kernel
theorem dX2_init_9 : decode cX2_init 9 = .ok (.invokespecial 11, 3) := by decide +kernel
theorem dX2_init_12 : decode cX2_init 12 = .ok (.putfield 12, 3) := by decide +kernel
theorem dX2_init_15 : decode cX2_init 15 = .ok (.aload_n 0, 1) := by decide +kernel
theorem dX2_init_16 : decode cX2_init 16 = .ok (.bipush 6, 2) := by decide +kernel
theorem dX2_init_18 : decode cX2_init 18 = .ok (.anewarray 18, 3) := by decide +kernel
theorem dX2_init_21 : decode cX2_init 21 = .ok (.putfield 20, 3) := by decide +kernel
theorem dX2_init_24 : decode cX2_init 24 = .ok (.aload_n 0, 1) := by decide +kernel
theorem dX2_init_25 : decode cX2_init 25 = .ok (.bipush 6, 2) := by decide +kernel
theorem dX2_init_27 : decode cX2_init 27 = .ok (.anewarray 24, 3) := by decide +kernel
theorem dX2_init_30 : decode cX2_init 30 = .ok (.putfield 26, 3) := by decide +kernel
theorem dX2_init_33 : decode cX2_init 33 = .ok (.aload_n 0, 1) := by decide +kernel
theorem dX2_init_34 : decode cX2_init 34 = .ok (.bipush 6, 2) := by decide +kernel
theorem dX2_init_36 : decode cX2_init 36 = .ok (.newarray .int, 2) := by decide +kernel
theorem dX2_init_38 : decode cX2_init 38 = .ok (.putfield 30, 3) := by decide +kernel
theorem dX2_init_41 : decode cX2_init 41 = .ok (.aload_n 0, 1) := by decide +kernel
theorem dX2_init_42 : decode cX2_init 42 = .ok (.bipush 7, 2) := by decide +kernel
theorem dX2_init_44 : decode cX2_init 44 = .ok (.anewarray 34, 3) := by decide +kernel
theorem dX2_init_47 : decode cX2_init 47 = .ok (.putfield 36, 3) := by decide +kernel
theorem dX2_init_50 : decode cX2_init 50 = .ok (.iconst 0, 1) := by decide +kernel
theorem dX2_init_51 : decode cX2_init 51 = .ok (.istore_n 1, 1) := by decide +kernel
theorem dX2_init_52 : decode cX2_init 52 = .ok (.iload_n 1, 1) := by decide +kernel
theorem dX2_init_53 : decode cX2_init 53 = .ok (.bipush 6, 2) := by decide +kernel
theorem dX2_init_55 : decode cX2_init 55 = .ok (.if_icmp .ge 46, 3) := by decide +kernel
theorem dX2_init_58 : decode cX2_init 58 = .ok (.aload_n 0, 1) := by decide +kernel
theorem dX2_init_59 : decode cX2_init 59 = .ok (.getfield 20, 3) := by decide +kernel
theorem dX2_init_62 : decode cX2_init 62 = .ok (.iload_n 1, 1) := by decide +kernel
theorem dX2_init_63 : decode cX2_init 63 = .ok (.new 18, 3) := by decide +kernel
theorem dX2_init_66 : decode cX2_init 66 = .ok (.dup, 1) := by decide +kernel
theorem dX2_init_67 : decode cX2_init 67 = .ok (.invokespecial 40, 3) := by decide +kernel
theorem dX2_init_70 : decode cX2_init 70 = .ok (.aastore, 1) := by decide +kernel
theorem dX2_init_71 : decode cX2_init 71 = .ok (.aload_n 0, 1) := by decide +kernel
theorem dX2_init_72 : decode cX2_init 72 = .ok (.getfield 26, 3) := by decide +kernel
theorem dX2_init_75 : decode cX2_init 75 = .ok (.iload_n 1, 1) := by decide +kernel
theorem dX2_init_76 : decode cX2_init 76 = .ok (.new 24, 3) := by decide +kernel
theorem dX2_init_79 : decode cX2_init 79 = .ok (.dup, 1) := by decide +kernel
theorem dX2_init_80 : decode cX2_init 80 = .ok (.bipush 46, 2) := by decide +kernel
theorem dX2_init_82 : decode cX2_init 82 = .ok (.bipush 46, 2) := by decide +kernel
theorem dX2_init_84 : decode cX2_init 84 = .ok (.invokespecial 41, 3) := by decide +kernel
theorem dX2_init_87 : decode cX2_init 87 = .ok (.aastore, 1) := by decide +kernel
theorem dX2_init_88 : decode cX2_init 88 = .ok (.aload_n 0, 1) := by decide +kernel
theorem dX2_init_89 : decode cX2_init 89 = .ok (.getfield 30, 3) := by decide +kernel
theorem dX2_init_92 : decode cX2_init 92 = .ok (.iload_n 1, 1) := by decide +kernel
theorem dX2_init_93 : decode cX2_init 93 = .ok (.iconst (-1), 1) := by decide +kernel
theorem dX2_init_94 : decode cX2_init 94 = .ok (.iastore, 1) := by decide +kernel
theorem dX2_init_95 : decode cX2_init 95 = .ok (.iinc 1 1, 3) := by decide +kernel
theorem dX2_init_98 : decode cX2_init 98 = .ok (.goto (-46), 3) := by decide +kernel
theorem dX2_init_101 : decode cX2_init 101 = .ok (.iconst 0, 1) := by decide +kernel
theorem dX2_init_102 : decode cX2_init 102 = .ok (.istore_n 1, 1) := by decide +kernel
theorem dX2_init_103 : decode cX2_init 103 = .ok (.iload_n 1, 1) := by decide +kernel
theorem dX2_init_104 : decode cX2_init 104 = .ok (.bipush 7, 2) := by decide +kernel
theorem dX2_init_106 : decode cX2_init 106 = .ok (.if_icmp .ge 24, 3) := by decide +kernel
theorem dX2_init_109 : decode cX2_init 109 = .ok (.aload_n 0, 1) := by decide +kernel
theorem dX2_init_110 : decode cX2_init 110 = .ok (.getfield 36, 3) := by decide +kernel
theorem dX2_init_113 : decode cX2_init 113 = .ok (.iload_n 1, 1) := by decide +kernel
theorem dX2_init_114 : decode cX2_init 114 = .ok (.new 34, 3) := by decide +kernel
theorem dX2_init_117 : decode cX2_init 117 = .ok (.dup, 1) := by decide +kernel
theorem dX2_init_118 : decode cX2_init 118 = .ok (.bipush 46, 2) := by decide +kernel
theorem dX2_init_120 : decode cX2_init 120 = .ok (.invokespecial 44, 3) := by decide +kernel
theorem dX2_init_123 : decode cX2_init 123 = .ok (.aastore, 1) := by decide +kernel
theorem dX2_init_124 : decode cX2_init 124 = .ok (.iinc 1 1, 3) := by decide +kernel
theorem dX2_init_127 : decode cX2_init 127 = .ok (.goto (-24), 3) := by decide +kernel
theorem dX2_init_130 : decode cX2_init 130 = .ok (.aload_n 0, 1) := by decide +kernel
theorem dX2_init_131 : decode cX2_init 131 = .ok (.new 24, 3) := by decide +kernel
theorem dX2_init_134 : decode cX2_init 134 = .ok (.dup, 1) := by decide +kernel
theorem dX2_init_135 : decode cX2_init 135 = .ok (.bipush 46, 2) := by decide +kernel
theorem dX2_init_137 : decode cX2_init 137 = .ok (.bipush 46, 2) := by decide +kernel
theorem dX2_init_139 : decode cX2_init 139 = .ok (.invokespecial 41, 3) := by decide +kernel
theorem dX2_init_142 : decode cX2_init 142 = .ok (.putfield 47, 3) := by decide +kernel
theorem dX2_init_145 : decode cX2_init 145 = .ok (.aload_n 0, 1) := by decide +kernel
theorem dX2_init_146 : decode cX2_init 146 = .ok (.new 24, 3) := by decide +kernel
theorem dX2_init_149 : decode cX2_init 149 = .ok (.dup, 1) := by decide +kernel
theorem dX2_init_150 : decode cX2_init 150 = .ok (.bipush 46, 2) := by decide +kernel
theorem dX2_init_152 : decode cX2_init 152 = .ok (.bipush 46, 2) := by decide +kernel
theorem dX2_init_154 : decode cX2_init 154 = .ok (.invokespecial 41, 3) := by decide +kernel
theorem dX2_init_157 : decode cX2_init 157 = .ok (.putfield 51, 3) := by decide +kernel
theorem dX2_init_160 : decode cX2_init 160 = .ok (.aload_n 0, 1) := by decide +kernel
theorem dX2_init_161 : decode cX2_init 161 = .ok (.new 54, 3) := by decide +kernel
theorem dX2_init_164 : decode cX2_init 164 = .ok (.dup, 1) := by decide +kernel
theorem dX2_init_165 : decode cX2_init 165 = .ok (.bipush 96, 2) := by decide +kernel
theorem dX2_init_167 : decode cX2_init 167 = .ok (.invokespecial 56, 3) := by decide +kernel
theorem dX2_init_170 : decode cX2_init 170 = .ok (.putfield 57, 3) := by decide +kernel
theorem dX2_init_173 : decode cX2_init 173 = .ok (.aload_n 0, 1) := by decide +kernel
theorem dX2_init_174 : decode cX2_init 174 = .ok (.new 54, 3) := by decide +kernel
theorem dX2_init_177 : decode cX2_init 177 = .ok (.dup, 1) := by decide +kernel
theorem dX2_init_178 : decode cX2_init 178 = .ok (.bipush 96, 2) := by decide +kernel
theorem dX2_init_180 : decode cX2_init 180 = .ok (.invokespecial 56, 3) := by decide +kernel
theorem dX2_init_183 : decode cX2_init 183 = .ok (.putfield 61, 3) := by decide +kernel
theorem dX2_init_186 : decode cX2_init 186 = .ok (.aload_n 0, 1) := by decide +kernel
theorem dX2_init_187 : decode cX2_init 187 = .ok (.new 54, 3) := by decide +kernel
theorem dX2_init_190 : decode cX2_init 190 = .ok (.dup, 1) := by decide +kernel
theorem dX2_init_191 : decode cX2_init 191 = .ok (.bipush 96, 2) := by decide +kernel
theorem dX2_init_193 : decode cX2_init 193 = .ok (.invokespecial 56, 3) := by decide +kernel
theorem dX2_init_196 : decode cX2_init 196 = .ok (.putfield 64, 3) := by decide +kernel
theorem dX2_init_199 : decode cX2_init 199 = .ok (.aload_n 0, 1) := by decide +kernel
theorem dX2_init_200 : decode cX2_init 200 = .ok (.new 34, 3) := by decide +kernel
theorem dX2_init_203 : decode cX2_init 203 = .ok (.dup, 1) := by decide +kernel
theorem dX2_init_204 : decode cX2_init 204 = .ok (.iconst 1, 1) := by decide +kernel
theorem dX2_init_205 : decode cX2_init 205 = .ok (.invokespecial 44, 3) := by decide +kernel
theorem dX2_init_208 : decode cX2_init 208 = .ok (.putfield 67, 3) := by decide +kernel
theorem dX2_init_211 : decode cX2_init 211 = .ok (.aload_n 0, 1) := by decide +kernel
theorem dX2_init_212 : decode cX2_init 212 = .ok (.getfield 67, 3) := by decide +kernel
theorem dX2_init_215 : decode cX2_init 215 = .ok (.getfield 71, 3) := by decide +kernel
theorem dX2_init_218 : decode cX2_init 218 = .ok (.lconst 1, 1) := by decide +kernel
theorem dX2_init_219 : decode cX2_init 219 = .ok (.invokevirtual 74, 3) := by decide +kernel
theorem dX2_init_222 : decode cX2_init 222 = .ok (.aload_n 0, 1) := by decide +kernel
theorem dX2_init_223 : decode cX2_init 223 = .ok (.getfield 67, 3) := by decide +kernel
theorem dX2_init_226 : decode cX2_init 226 = .ok (.iconst 1, 1) := by decide +kernel
theorem dX2_init_227 : decode cX2_init 227 = .ok (.putfield 78, 3) := by decide +kernel
theorem dX2_init_230 : decode cX2_init 230 = .ok (.aload_n 0, 1) := by decide +kernel
theorem dX2_init_231 : decode cX2_init 231 = .ok (.aload_n 0, 1) := by decide +kernel
theorem dX2_init_232 : decode cX2_init 232 = .ok (.getfield 67, 3) := by decide +kernel
theorem dX2_init_235 : decode cX2_init 235 = .ok (.putfield 82, 3) := by decide +kernel
theorem dX2_init_238 : decode cX2_init 238 = .ok (.aload_n 0, 1) := by decide +kernel
theorem dX2_init_239 : decode cX2_init 239 = .ok (.iconst 1, 1) := by decide +kernel
theorem dX2_init_240 : decode cX2_init 240 = .ok (.putfield 85, 3) := by decide +kernel
theorem dX2_init_243 : decode cX2_init 243 = .ok (.aload_n 0, 1) := by decide +kernel
theorem dX2_init_244 : decode cX2_init 244 = .ok (.iconst 1, 1) := by decide +kernel
theorem dX2_init_245 : decode cX2_init 245 = .ok (.putfield 88, 3) := by decide +kernel
theorem dX2_init_248 : decode cX2_init 248 = .ok (.aload_n 0, 1) := by decide +kernel
theorem dX2_init_249 : decode cX2_init 249 = .ok (.iconst 0, 1) := by decide +kernel
theorem dX2_init_250 : decode cX2_init 250 = .ok (.putfield 91, 3) := by decide +kernel
theorem dX2_init_253 : decode cX2_init 253 = .ok (.aload_n 0, 1) := by decide +kernel
theorem dX2_init_254 : decode cX2_init 254 = .ok (.iconst 0, 1) := by decide +kernel
theorem dX2_init_255 : decode cX2_init 255 = .ok (.putfield 94, 3) := by decide +kernel
theorem dX2_init_258 : decode cX2_init 258 = .ok (.aload_n 0, 1) := by decide +kernel
theorem dX2_init_259 : decode cX2_init 259 = .ok (.iconst 0, 1) := by decide +kernel
theorem dX2_init_260 : decode cX2_init 260 = .ok (.putfield 97, 3) := by decide +kernel
theorem dX2_init_263 : decode cX2_init 263 = .ok (.return_, 1) := by decide +kernel
theorem dX2_run_0 : decode cX2_run 0 = .ok (.aload_n 0, 1) := by decide +kernel
theorem dX2_run_1 : decode cX2_run 1 = .ok (.aload_n 1, 1) := by decide +kernel
theorem dX2_run_2 : decode cX2_run 2 = .ok (.invokevirtual 101, 3) := by decide +kernel
theorem dX2_run_5 : decode cX2_run 5 = .ok (.iconst 0, 1) := by decide +kernel
theorem dX2_run_6 : decode cX2_run 6 = .ok (.istore_n 2, 1) := by decide +kernel
theorem dX2_run_7 : decode cX2_run 7 = .ok (.iload_n 2, 1) := by decide +kernel
theorem dX2_run_8 : decode cX2_run 8 = .ok (.aload_n 0, 1) := by decide +kernel
theorem dX2_run_9 : decode cX2_run 9 = .ok (.getfield 85, 3) := by decide +kernel
theorem dX2_run_12 : decode cX2_run 12 = .ok (.if_icmp .ge 159, 3) := by decide +kernel
theorem dX2_run_15 : decode cX2_run 15 = .ok (.aload_n 0, 1) := by decide +kernel
theorem dX2_run_16 : decode cX2_run 16 = .ok (.iload_n 2, 1) := by decide +kernel
theorem dX2_run_17 : decode cX2_run 17 = .ok (.invokevirtual 105, 3) := by decide +kernel
theorem dX2_run_20 : decode cX2_run 20 = .ok (.istore_n 3, 1) := by decide +kernel
theorem dX2_run_21 : decode cX2_run 21 = .ok (.aload_n 0, 1) := by decide +kernel
theorem dX2_run_22 : decode cX2_run 22 = .ok (.getfield 30, 3) := by decide +kernel
theorem dX2_run_25 : decode cX2_run 25 = .ok (.iload_n 2, 1) := by decide +kernel
theorem dX2_run_26 : decode cX2_run 26 = .ok (.iload_n 3, 1) := by decide +kernel
theorem dX2_run_27 : decode cX2_run 27 = .ok (.iconst (-1), 1) := by decide +kernel
theorem dX2_run_28 : decode cX2_run 28 = .ok (.if_icmp .ne 7, 3) := by decide +kernel
theorem dX2_run_31 : decode cX2_run 31 = .ok (.iconst (-1), 1) := by decide +kernel
theorem dX2_run_32 : decode cX2_run 32 = .ok (.goto 7, 3) := by decide +kernel
theorem dX2_run_35 : decode cX2_run 35 = .ok (.aload_n 0, 1) := by decide +kernel
theorem dX2_run_36 : decode cX2_run 36 = .ok (.getfield 91, 3) := by decide +kernel
theorem dX2_run_39 : decode cX2_run 39 = .ok (.iastore, 1) := by decide +kernel
theorem dX2_run_40 : decode cX2_run 40 = .ok (.iload_n 3, 1) := by decide +kernel
theorem dX2_run_41 : decode cX2_run 41 = .ok (.iconst (-1), 1) := by decide +kernel
theorem dX2_run_42 : decode cX2_run 42 = .ok (.if_icmp .ne 6, 3) := by decide +kernel
theorem dX2_run_45 : decode cX2_run 45 = .ok (.goto 120, 3) := by decide +kernel
theorem dX2_run_48 : decode cX2_run 48 = .ok (.aload_n 0, 1) := by decide +kernel
theorem dX2_run_49 : decode cX2_run 49 = .ok (.aload_n 0, 1) := by decide +kernel
theorem dX2_run_50 : decode cX2_run 50 = .ok (.getfield 91, 3) := by decide +kernel
theorem dX2_run_53 : decode cX2_run 53 = .ok (.iload_n 3, 1) := by decide +kernel
theorem dX2_run_54 : decode cX2_run 54 = .ok (.invokevirtual 109, 3) := by decide +kernel
theorem dX2_run_57 : decode cX2_run 57 = .ok (.aload_n 0, 1) := by decide +kernel
theorem dX2_run_58 : decode cX2_run 58 = .ok (.getfield 20, 3) := by decide +kernel
theorem dX2_run_61 : decode cX2_run 61 = .ok (.aload_n 0, 1) := by decide +kernel
theorem dX2_run_62 : decode cX2_run 62 = .ok (.getfield 91, 3) := by decide +kernel
theorem dX2_run_65 : decode cX2_run 65 = .ok (.aaload, 1) := by decide +kernel
theorem dX2_run_66 : decode cX2_run 66 = .ok (.astore 4, 2) := by decide +kernel
theorem dX2_run_68 : decode cX2_run 68 = .ok (.iconst 0, 1) := by decide +kernel
theorem dX2_run_69 : decode cX2_run 69 = .ok (.istore 5, 2) := by decide +kernel
theorem dX2_run_71 : decode cX2_run 71 = .ok (.iload 5, 2) := by decide +kernel
theorem dX2_run_73 : decode cX2_run 73 = .ok (.aload_n 0, 1) := by decide +kernel
theorem dX2_run_74 : decode cX2_run 74 = .ok (.getfield 85, 3) := by decide +kernel
theorem dX2_run_77 : decode cX2_run 77 = .ok (.if_icmp .ge 46, 3) := by decide +kernel
theorem dX2_run_80 : decode cX2_run 80 = .ok (.iload 5, 2) := by decide +kernel
theorem dX2_run_82 : decode cX2_run 82 = .ok (.aload_n 0, 1) := by decide +kernel
theorem dX2_run_83 : decode cX2_run 83 = .ok (.getfield 91, 3) := by decide +kernel
theorem dX2_run_86 : decode cX2_run 86 = .ok (.if_icmp .eq 31, 3) := by decide +kernel
theorem dX2_run_89 : decode cX2_run 89 = .ok (.aload_n 0, 1) := by decide +kernel
theorem dX2_run_90 : decode cX2_run 90 = .ok (.aload_n 0, 1) := by decide +kernel
theorem dX2_run_91 : decode cX2_run 91 = .ok (.getfield 20, 3) := by decide +kernel
theorem dX2_run_94 : decode cX2_run 94 = .ok (.iload 5, 2) := by decide +kernel
theorem dX2_run_96 : decode cX2_run 96 = .ok (.aaload, 1) := by decide +kernel
theorem dX2_run_97 : decode cX2_run 97 = .ok (.aload 4, 2) := by decide +kernel
theorem dX2_run_99 : decode cX2_run 99 = .ok (.iload_n 2, 1) := by decide +kernel
theorem dX2_run_100 : decode cX2_run 100 = .ok (.invokevirtual 112, 3) := by decide +kernel
theorem dX2_run_103 : decode cX2_run 103 = .ok (.aload_n 0, 1) := by decide +kernel
theorem dX2_run_104 : decode cX2_run 104 = .ok (.aload_n 0, 1) := by decide +kernel
theorem dX2_run_105 : decode cX2_run 105 = .ok (.getfield 20, 3) := by decide +kernel
theorem dX2_run_108 : decode cX2_run 108 = .ok (.iload 5, 2) := by decide +kernel
theorem dX2_run_110 : decode cX2_run 110 = .ok (.aaload, 1) := by decide +kernel
theorem dX2_run_111 : decode cX2_run 111 = .ok (.aload 4, 2) := by decide +kernel
theorem dX2_run_113 : decode cX2_run 113 = .ok (.iload_n 2, 1) := by decide +kernel
theorem dX2_run_114 : decode cX2_run 114 = .ok (.invokevirtual 116, 3) := by decide +kernel
theorem dX2_run_117 : decode cX2_run 117 = .ok (.iinc 5 1, 3) := by decide +kernel
theorem dX2_run_120 : decode cX2_run 120 = .ok (.goto (-49), 3) := by decide +kernel
theorem dX2_run_123 : decode cX2_run 123 = .ok (.aload 4, 2) := by decide +kernel
theorem dX2_run_125 : decode cX2_run 125 = .ok (.iload_n 2, 1) := by decide +kernel
theorem dX2_run_126 : decode cX2_run 126 = .ok (.putfield 119, 3) := by decide +kernel
theorem dX2_run_129 : decode cX2_run 129 = .ok (.aload_n 0, 1) := by decide +kernel
theorem dX2_run_130 : decode cX2_run 130 = .ok (.aload 4, 2) := by decide +kernel
theorem dX2_run_132 : decode cX2_run 132 = .ok (.getfield 122, 3) := by decide +kernel
theorem dX2_run_135 : decode cX2_run 135 = .ok (.iload_n 2, 1) := by decide +kernel
theorem dX2_run_136 : decode cX2_run 136 = .ok (.aaload, 1) := by decide +kernel
theorem dX2_run_137 : decode cX2_run 137 = .ok (.putfield 82, 3) := by decide +kernel
theorem dX2_run_140 : decode cX2_run 140 = .ok (.aload_n 0, 1) := by decide +kernel
theorem dX2_run_141 : decode cX2_run 141 = .ok (.dup, 1) := by decide +kernel
theorem dX2_run_142 : decode cX2_run 142 = .ok (.getfield 91, 3) := by decide +kernel
theorem dX2_run_145 : decode cX2_run 145 = .ok (.iconst 1, 1) := by decide +kernel
theorem dX2_run_146 : decode cX2_run 146 = .ok (.iadd, 1) := by decide +kernel
theorem dX2_run_147 : decode cX2_run 147 = .ok (.putfield 91, 3) := by decide +kernel
theorem dX2_run_150 : decode cX2_run 150 = .ok (.aload_n 0, 1) := by decide +kernel
theorem dX2_run_151 : decode cX2_run 151 = .ok (.aload_n 0, 1) := by decide +kernel
theorem dX2_run_152 : decode cX2_run 152 = .ok (.getfield 94, 3) := by decide +kernel
theorem dX2_run_155 : decode cX2_run 155 = .ok (.aload_n 0, 1) := by decide +kernel
theorem dX2_run_156 : decode cX2_run 156 = .ok (.invokevirtual 125, 3) := by decide +kernel
theorem dX2_run_159 : decode cX2_run 159 = .ok (.invokestatic 129, 3) := by decide +kernel
theorem dX2_run_162 : decode cX2_run 162 = .ok (.putfield 94, 3) := by decide +kernel
theorem dX2_run_165 : decode cX2_run 165 = .ok (.iinc 2 1, 3) := by decide +kernel
theorem dX2_run_168 : decode cX2_run 168 = .ok (.goto (-161), 3) := by decide +kernel
theorem dX2_run_171 : decode cX2_run 171 = .ok (.aload_n 0, 1) := by decide +kernel
theorem dX2_run_172 : decode cX2_run 172 = .ok (.aload_n 0, 1) := by decide +kernel
theorem dX2_run_173 : decode cX2_run 173 = .ok (.invokevirtual 135, 3) := by decide +kernel
theorem dX2_run_176 : decode cX2_run 176 = .ok (.putfield 97, 3) := by decide +kernel
theorem dX2_run_179 : decode cX2_run 179 = .ok (.aload_n 0, 1) := by decide +kernel
theorem dX2_run_180 : decode cX2_run 180 = .ok (.invokevirtual 139, 3) := by decide +kernel
theorem dX2_run_183 : decode cX2_run 183 = .ok (.aload_n 0, 1) := by decide +kernel
theorem dX2_run_184 : decode cX2_run 184 = .ok (.invokevirtual 142, 3) := by decide +kernel
theorem dX2_run_187 : decode cX2_run 187 = .ok (.return_, 1) := by decide +kernel
theorem dX2_begin_0 : decode cX2_begin 0 = .ok (.aload_n 0, 1) := by decide +kernel
theorem dX2_begin_1 : decode cX2_begin 1 = .ok (.aload_n 1, 1) := by decide +kernel
theorem dX2_begin_2 : decode cX2_begin 2 = .ok (.getfield 145, 3) := by decide +kernel
theorem dX2_begin_5 : decode cX2_begin 5 = .ok (.bipush 6, 2) := by decide +kernel
theorem dX2_begin_7 : decode cX2_begin 7 = .ok (.invokestatic 148, 3) := by decide +kernel
theorem dX2_begin_10 : decode cX2_begin 10 = .ok (.putfield 85, 3) := by decide +kernel
theorem dX2_begin_13 : decode cX2_begin 13 = .ok (.aload_n 0, 1) := by decide +kernel
theorem dX2_begin_14 : decode cX2_begin 14 = .ok (.iconst 1, 1) := by decide +kernel
theorem dX2_begin_15 : decode cX2_begin 15 = .ok (.putfield 88, 3) := by decide +kernel
theorem dX2_begin_18 : decode cX2_begin 18 = .ok (.aload_n 0, 1) := by decide +kernel
theorem dX2_begin_19 : decode cX2_begin 19 = .ok (.iconst 0, 1) := by decide +kernel
theorem dX2_begin_20 : decode cX2_begin 20 = .ok (.putfield 91, 3) := by decide +kernel
theorem dX2_begin_23 : decode cX2_begin 23 = .ok (.aload_n 0, 1) := by decide +kernel
theorem dX2_begin_24 : decode cX2_begin 24 = .ok (.aload_n 0, 1) := by decide +kernel
theorem dX2_begin_25 : decode cX2_begin 25 = .ok (.getfield 67, 3) := by decide +kernel
theorem dX2_begin_28 : decode cX2_begin 28 = .ok (.putfield 82, 3) := by decide +kernel
theorem dX2_begin_31 : decode cX2_begin 31 = .ok (.iconst 0, 1) := by decide +kernel
theorem dX2_begin_32 : decode cX2_begin 32 = .ok (.istore_n 2, 1) := by decide +kernel
theorem dX2_begin_33 : decode cX2_begin 33 = .ok (.iload_n 2, 1) := by decide +kernel
theorem dX2_begin_34 : decode cX2_begin 34 = .ok (.aload_n 0, 1) := by decide +kernel
theorem dX2_begin_35 : decode cX2_begin 35 = .ok (.getfield 85, 3) := by decide +kernel
theorem dX2_begin_38 : decode cX2_begin 38 = .ok (.if_icmp .ge 70, 3) := by decide +kernel
theorem dX2_begin_41 : decode cX2_begin 41 = .ok (.aload_n 0, 1) := by decide +kernel
theorem dX2_begin_42 : decode cX2_begin 42 = .ok (.getfield 20, 3) := by decide +kernel
theorem dX2_begin_45 : decode cX2_begin 45 = .ok (.iload_n 2, 1) := by decide +kernel
theorem dX2_begin_46 : decode cX2_begin 46 = .ok (.aaload, 1) := by decide +kernel
theorem dX2_begin_47 : decode cX2_begin 47 = .ok (.astore_n 3, 1) := by decide +kernel
theorem dX2_begin_48 : decode cX2_begin 48 = .ok (.aload_n 3, 1) := by decide +kernel
theorem dX2_begin_49 : decode cX2_begin 49 = .ok (.iconst (-1), 1) := by decide +kernel
theorem dX2_begin_50 : decode cX2_begin 50 = .ok (.putfield 119, 3) := by decide +kernel
theorem dX2_begin_53 : decode cX2_begin 53 = .ok (.aload_n 0, 1) := by decide +kernel
theorem dX2_begin_54 : decode cX2_begin 54 = .ok (.getfield 12, 3) := by decide +kernel
theorem dX2_begin_57 : decode cX2_begin 57 = .ok (.aload_n 1, 1) := by decide +kernel
theorem dX2_begin_58 : decode cX2_begin 58 = .ok (.iload_n 2, 1) := by decide +kernel
theorem dX2_begin_59 : decode cX2_begin 59 = .ok (.aload_n 3, 1) := by decide +kernel
theorem dX2_begin_60 : decode cX2_begin 60 = .ok (.getfield 122, 3) := by decide +kernel
theorem dX2_begin_63 : decode cX2_begin 63 = .ok (.aload_n 3, 1) := by decide +kernel
theorem dX2_begin_64 : decode cX2_begin 64 = .ok (.getfield 151, 3) := by decide +kernel
theorem dX2_begin_67 : decode cX2_begin 67 = .ok (.invokevirtual 154, 3) := by decide +kernel
theorem dX2_begin_70 : decode cX2_begin 70 = .ok (.iconst 0, 1) := by decide +kernel
theorem dX2_begin_71 : decode cX2_begin 71 = .ok (.istore 4, 2) := by decide +kernel
theorem dX2_begin_73 : decode cX2_begin 73 = .ok (.iload 4, 2) := by decide +kernel
theorem dX2_begin_75 : decode cX2_begin 75 = .ok (.aload_n 0, 1) := by decide +kernel
theorem dX2_begin_76 : decode cX2_begin 76 = .ok (.getfield 85, 3) := by decide +kernel
theorem dX2_begin_79 : decode cX2_begin 79 = .ok (.if_icmp .gt 23, 3) := by decide +kernel
theorem dX2_begin_82 : decode cX2_begin 82 = .ok (.aload_n 1, 1) := by decide +kernel
theorem dX2_begin_83 : decode cX2_begin 83 = .ok (.iload_n 2, 1) := by decide +kernel
theorem dX2_begin_84 : decode cX2_begin 84 = .ok (.iload 4, 2) := by decide +kernel
theorem dX2_begin_86 : decode cX2_begin 86 = .ok (.aload_n 3, 1) := by decide +kernel
theorem dX2_begin_87 : decode cX2_begin 87 = .ok (.getfield 158, 3) := by decide +kernel
theorem dX2_begin_90 : decode cX2_begin 90 = .ok (.iload 4, 2) := by decide +kernel
theorem dX2_begin_92 : decode cX2_begin 92 = .ok (.aaload, 1) := by decide +kernel
theorem dX2_begin_93 : decode cX2_begin 93 = .ok (.invokevirtual 161, 3) := by decide +kernel
theorem dX2_begin_96 : decode cX2_begin 96 = .ok (.iinc 4 1, 3) := by decide +kernel
theorem dX2_begin_99 : decode cX2_begin 99 = .ok (.goto (-26), 3) := by decide +kernel
theorem dX2_begin_102 : decode cX2_begin 102 = .ok (.iinc 2 1, 3) := by decide +kernel
theorem dX2_begin_105 : decode cX2_begin 105 = .ok (.goto (-72), 3) := by decide +kernel
theorem dX2_begin_108 : decode cX2_begin 108 = .ok (.aload_n 0, 1) := by decide +kernel
theorem dX2_begin_109 : decode cX2_begin 109 = .ok (.aload_n 0, 1) := by decide +kernel
theorem dX2_begin_110 : decode cX2_begin 110 = .ok (.invokevirtual 125, 3) := by decide +kernel
theorem dX2_begin_113 : decode cX2_begin 113 = .ok (.putfield 94, 3) := by decide +kernel
theorem dX2_begin_116 : decode cX2_begin 116 = .ok (.return_, 1) := by decide +kernel
theorem dX2_firstRowWith_0 : decode cX2_firstRowWith 0 = .ok (.aload_n 0, 1) := by decide +kernel
theorem dX2_firstRowWith_1 : decode cX2_firstRowWith 1 = .ok (.getfield 91, 3) := by decide +kernel
theorem dX2_firstRowWith_4 : decode cX2_firstRowWith 4 = .ok (.istore_n 2, 1) := by decide +kernel
theorem dX2_firstRowWith_5 : decode cX2_firstRowWith 5 = .ok (.iload_n 2, 1) := by decide +kernel
theorem dX2_firstRowWith_6 : decode cX2_firstRowWith 6 = .ok (.aload_n 0, 1) := by decide +kernel
theorem dX2_firstRowWith_7 : decode cX2_firstRowWith 7 = .ok (.getfield 85, 3) := by decide +kernel
theorem dX2_firstRowWith_10 : decode cX2_firstRowWith 10 = .ok (.if_icmp .ge 28, 3) := by decide +kernel
theorem dX2_firstRowWith_13 : decode cX2_firstRowWith 13 = .ok (.aload_n 0, 1) := by decide +kernel
theorem dX2_firstRowWith_14 : decode cX2_firstRowWith 14 = .ok (.getfield 20, 3) := by decide +kernel
theorem dX2_firstRowWith_17 : decode cX2_firstRowWith 17 = .ok (.iload_n 2, 1) := by decide +kernel
theorem dX2_firstRowWith_18 : decode cX2_firstRowWith 18 = .ok (.aaload, 1) := by decide +kernel
theorem dX2_firstRowWith_19 : decode cX2_firstRowWith 19 = .ok (.getfield 122, 3) := by decide +kernel
theorem dX2_firstRowWith_22 : decode cX2_firstRowWith 22 = .ok (.iload_n 1, 1) := by decide +kernel
theorem dX2_firstRowWith_23 : decode cX2_firstRowWith 23 = .ok (.aaload, 1) := by decide +kernel
theorem dX2_firstRowWith_24 : decode cX2_firstRowWith 24 = .ok (.getfield 78, 3) := by decide +kernel
theorem dX2_firstRowWith_27 : decode cX2_firstRowWith 27 = .ok (.ifCond .eq 5, 3) := by decide +kernel
theorem dX2_firstRowWith_30 : decode cX2_firstRowWith 30 = .ok (.iload_n 2, 1) := by decide +kernel
theorem dX2_firstRowWith_31 : decode cX2_firstRowWith 31 = .ok (.ireturn, 1) := by decide +kernel
theorem dX2_firstRowWith_32 : decode cX2_firstRowWith 32 = .ok (.iinc 2 1, 3) := by decide +kernel
theorem dX2_firstRowWith_35 : decode cX2_firstRowWith 35 = .ok (.goto (-30), 3) := by decide +kernel
theorem dX2_firstRowWith_38 : decode cX2_firstRowWith 38 = .ok (.iconst (-1), 1) := by decide +kernel
theorem dX2_firstRowWith_39 : decode cX2_firstRowWith 39 = .ok (.ireturn, 1) := by decide +kernel
theorem dX2_changePlaces_0 : decode cX2_changePlaces 0 = .ok (.iload_n 1, 1) := by decide +kernel
theorem dX2_changePlaces_1 : decode cX2_changePlaces 1 = .ok (.iload_n 2, 1) := by decide +kernel
theorem dX2_changePlaces_2 : decode cX2_changePlaces 2 = .ok (.if_icmp .ne 4, 3) := by decide +kernel
theorem dX2_changePlaces_5 : decode cX2_changePlaces 5 = .ok (.return_, 1) := by decide +kernel
theorem dX2_changePlaces_6 : decode cX2_changePlaces 6 = .ok (.aload_n 0, 1) := by decide +kernel
theorem dX2_changePlaces_7 : decode cX2_changePlaces 7 = .ok (.getfield 20, 3) := by decide +kernel
theorem dX2_changePlaces_10 : decode cX2_changePlaces 10 = .ok (.iload_n 1, 1) := by decide +kernel
theorem dX2_changePlaces_11 : decode cX2_changePlaces 11 = .ok (.aaload, 1) := by decide +kernel
theorem dX2_changePlaces_12 : decode cX2_changePlaces 12 = .ok (.astore_n 3, 1) := by decide +kernel
theorem dX2_changePlaces_13 : decode cX2_changePlaces 13 = .ok (.aload_n 0, 1) := by decide +kernel
theorem dX2_changePlaces_14 : decode cX2_changePlaces 14 = .ok (.getfield 20, 3) := by decide +kernel
theorem dX2_changePlaces_17 : decode cX2_changePlaces 17 = .ok (.iload_n 1, 1) := by decide +kernel
theorem dX2_changePlaces_18 : decode cX2_changePlaces 18 = .ok (.aload_n 0, 1) := by decide +kernel
theorem dX2_changePlaces_19 : decode cX2_changePlaces 19 = .ok (.getfield 20, 3) := by decide +kernel
theorem dX2_changePlaces_22 : decode cX2_changePlaces 22 = .ok (.iload_n 2, 1) := by decide +kernel
theorem dX2_changePlaces_23 : decode cX2_changePlaces 23 = .ok (.aaload, 1) := by decide +kernel
theorem dX2_changePlaces_24 : decode cX2_changePlaces 24 = .ok (.aastore, 1) := by decide +kernel
theorem dX2_changePlaces_25 : decode cX2_changePlaces 25 = .ok (.aload_n 0, 1) := by decide +kernel
theorem dX2_changePlaces_26 : decode cX2_changePlaces 26 = .ok (.getfield 20, 3) := by decide +kernel
theorem dX2_changePlaces_29 : decode cX2_changePlaces 29 = .ok (.iload_n 2, 1) := by decide +kernel
theorem dX2_changePlaces_30 : decode cX2_changePlaces 30 = .ok (.aload_n 3, 1) := by decide +kernel
theorem dX2_changePlaces_31 : decode cX2_changePlaces 31 = .ok (.aastore, 1) := by decide +kernel
theorem dX2_changePlaces_32 : decode cX2_changePlaces 32 = .ok (.aload_n 0, 1) := by decide +kernel
theorem dX2_changePlaces_33 : decode cX2_changePlaces 33 = .ok (.aload_n 0, 1) := by decide +kernel
theorem dX2_changePlaces_34 : decode cX2_changePlaces 34 = .ok (.getfield 88, 3) := by decide +kernel
theorem dX2_changePlaces_37 : decode cX2_changePlaces 37 = .ok (.ineg, 1) := by decide +kernel
theorem dX2_changePlaces_38 : decode cX2_changePlaces 38 = .ok (.putfield 88, 3) := by decide +kernel
theorem dX2_changePlaces_41 : decode cX2_changePlaces 41 = .ok (.return_, 1) := by decide +kernel
theorem dX2_combineRow_0 : decode cX2_combineRow 0 = .ok (.aload_n 2, 1) := by decide +kernel
theorem dX2_combineRow_1 : decode cX2_combineRow 1 = .ok (.getfield 122, 3) := by decide +kernel
theorem dX2_combineRow_4 : decode cX2_combineRow 4 = .ok (.iload_n 3, 1) := by decide +kernel
theorem dX2_combineRow_5 : decode cX2_combineRow 5 = .ok (.aaload, 1) := by decide +kernel
theorem dX2_combineRow_6 : decode cX2_combineRow 6 = .ok (.astore 4, 2) := by decide +kernel
theorem dX2_combineRow_8 : decode cX2_combineRow 8 = .ok (.aload_n 1, 1) := by decide +kernel
theorem dX2_combineRow_9 : decode cX2_combineRow 9 = .ok (.getfield 122, 3) := by decide +kernel
theorem dX2_combineRow_12 : decode cX2_combineRow 12 = .ok (.iload_n 3, 1) := by decide +kernel
theorem dX2_combineRow_13 : decode cX2_combineRow 13 = .ok (.aaload, 1) := by decide +kernel
theorem dX2_combineRow_14 : decode cX2_combineRow 14 = .ok (.astore 5, 2) := by decide +kernel
theorem dX2_combineRow_16 : decode cX2_combineRow 16 = .ok (.iload_n 3, 1) := by decide +kernel
theorem dX2_combineRow_17 : decode cX2_combineRow 17 = .ok (.iconst 1, 1) := by decide +kernel
theorem dX2_combineRow_18 : decode cX2_combineRow 18 = .ok (.iadd, 1) := by decide +kernel
theorem dX2_combineRow_19 : decode cX2_combineRow 19 = .ok (.istore 6, 2) := by decide +kernel
theorem dX2_combineRow_21 : decode cX2_combineRow 21 = .ok (.iload 6, 2) := by decide +kernel
theorem dX2_combineRow_23 : decode cX2_combineRow 23 = .ok (.aload_n 0, 1) := by decide +kernel
theorem dX2_combineRow_24 : decode cX2_combineRow 24 = .ok (.getfield 85, 3) := by decide +kernel
theorem dX2_combineRow_27 : decode cX2_combineRow 27 = .ok (.if_icmp .gt 138, 3) := by decide +kernel
theorem dX2_combineRow_30 : decode cX2_combineRow 30 = .ok (.aload_n 1, 1) := by decide +kernel
theorem dX2_combineRow_31 : decode cX2_combineRow 31 = .ok (.getfield 122, 3) := by decide +kernel
theorem dX2_combineRow_34 : decode cX2_combineRow 34 = .ok (.iload 6, 2) := by decide +kernel
theorem dX2_combineRow_36 : decode cX2_combineRow 36 = .ok (.aaload, 1) := by decide +kernel
theorem dX2_combineRow_37 : decode cX2_combineRow 37 = .ok (.astore 7, 2) := by decide +kernel
theorem dX2_combineRow_39 : decode cX2_combineRow 39 = .ok (.aload_n 2, 1) := by decide +kernel
theorem dX2_combineRow_40 : decode cX2_combineRow 40 = .ok (.getfield 122, 3) := by decide +kernel
theorem dX2_combineRow_43 : decode cX2_combineRow 43 = .ok (.iload 6, 2) := by decide +kernel
theorem dX2_combineRow_45 : decode cX2_combineRow 45 = .ok (.aaload, 1) := by decide +kernel
theorem dX2_combineRow_46 : decode cX2_combineRow 46 = .ok (.astore 8, 2) := by decide +kernel
theorem dX2_combineRow_48 : decode cX2_combineRow 48 = .ok (.aload_n 0, 1) := by decide +kernel
theorem dX2_combineRow_49 : decode cX2_combineRow 49 = .ok (.getfield 57, 3) := by decide +kernel
theorem dX2_combineRow_52 : decode cX2_combineRow 52 = .ok (.aload 4, 2) := by decide +kernel
theorem dX2_combineRow_54 : decode cX2_combineRow 54 = .ok (.getfield 71, 3) := by decide +kernel
theorem dX2_combineRow_57 : decode cX2_combineRow 57 = .ok (.aload 7, 2) := by decide +kernel
theorem dX2_combineRow_59 : decode cX2_combineRow 59 = .ok (.getfield 71, 3) := by decide +kernel
theorem dX2_combineRow_62 : decode cX2_combineRow 62 = .ok (.invokevirtual 165, 3) := by decide +kernel
theorem dX2_combineRow_65 : decode cX2_combineRow 65 = .ok (.aload_n 0, 1) := by decide +kernel
theorem dX2_combineRow_66 : decode cX2_combineRow 66 = .ok (.getfield 61, 3) := by decide +kernel
theorem dX2_combineRow_69 : decode cX2_combineRow 69 = .ok (.aload 5, 2) := by decide +kernel
theorem dX2_combineRow_71 : decode cX2_combineRow 71 = .ok (.getfield 71, 3) := by decide +kernel
theorem dX2_combineRow_74 : decode cX2_combineRow 74 = .ok (.aload 8, 2) := by decide +kernel
theorem dX2_combineRow_76 : decode cX2_combineRow 76 = .ok (.getfield 71, 3) := by decide +kernel
theorem dX2_combineRow_79 : decode cX2_combineRow 79 = .ok (.invokevirtual 165, 3) := by decide +kernel
theorem dX2_combineRow_82 : decode cX2_combineRow 82 = .ok (.aload_n 0, 1) := by decide +kernel
theorem dX2_combineRow_83 : decode cX2_combineRow 83 = .ok (.getfield 12, 3) := by decide +kernel
theorem dX2_combineRow_86 : decode cX2_combineRow 86 = .ok (.aload 4, 2) := by decide +kernel
theorem dX2_combineRow_88 : decode cX2_combineRow 88 = .ok (.getfield 78, 3) := by decide +kernel
theorem dX2_combineRow_91 : decode cX2_combineRow 91 = .ok (.aload 7, 2) := by decide +kernel
theorem dX2_combineRow_93 : decode cX2_combineRow 93 = .ok (.getfield 78, 3) := by decide +kernel
theorem dX2_combineRow_96 : decode cX2_combineRow 96 = .ok (.imul, 1) := by decide +kernel
theorem dX2_combineRow_97 : decode cX2_combineRow 97 = .ok (.aload_n 0, 1) := by decide +kernel
theorem dX2_combineRow_98 : decode cX2_combineRow 98 = .ok (.getfield 57, 3) := by decide +kernel
theorem dX2_combineRow_101 : decode cX2_combineRow 101 = .ok (.aload 5, 2) := by decide +kernel
theorem dX2_combineRow_103 : decode cX2_combineRow 103 = .ok (.getfield 78, 3) := by decide +kernel
theorem dX2_combineRow_106 : decode cX2_combineRow 106 = .ok (.aload 8, 2) := by decide +kernel
theorem dX2_combineRow_108 : decode cX2_combineRow 108 = .ok (.getfield 78, 3) := by decide +kernel
theorem dX2_combineRow_111 : decode cX2_combineRow 111 = .ok (.imul, 1) := by decide +kernel
theorem dX2_combineRow_112 : decode cX2_combineRow 112 = .ok (.aload_n 0, 1) := by decide +kernel
theorem dX2_combineRow_113 : decode cX2_combineRow 113 = .ok (.getfield 61, 3) := by decide +kernel
theorem dX2_combineRow_116 : decode cX2_combineRow 116 = .ok (.invokevirtual 169, 3) := by decide +kernel
theorem dX2_combineRow_119 : decode cX2_combineRow 119 = .ok (.istore 9, 2) := by decide +kernel
theorem dX2_combineRow_121 : decode cX2_combineRow 121 = .ok (.aload_n 0, 1) := by decide +kernel
theorem dX2_combineRow_122 : decode cX2_combineRow 122 = .ok (.getfield 12, 3) := by decide +kernel
theorem dX2_combineRow_125 : decode cX2_combineRow 125 = .ok (.aload_n 0, 1) := by decide +kernel
theorem dX2_combineRow_126 : decode cX2_combineRow 126 = .ok (.getfield 57, 3) := by decide +kernel
theorem dX2_combineRow_129 : decode cX2_combineRow 129 = .ok (.aload_n 0, 1) := by decide +kernel
theorem dX2_combineRow_130 : decode cX2_combineRow 130 = .ok (.getfield 82, 3) := by decide +kernel
theorem dX2_combineRow_133 : decode cX2_combineRow 133 = .ok (.getfield 71, 3) := by decide +kernel
theorem dX2_combineRow_136 : decode cX2_combineRow 136 = .ok (.aload 7, 2) := by decide +kernel
theorem dX2_combineRow_138 : decode cX2_combineRow 138 = .ok (.getfield 71, 3) := by decide +kernel
theorem dX2_combineRow_141 : decode cX2_combineRow 141 = .ok (.invokevirtual 173, 3) := by decide +kernel
theorem dX2_combineRow_144 : decode cX2_combineRow 144 = .ok (.aload 7, 2) := by decide +kernel
theorem dX2_combineRow_146 : decode cX2_combineRow 146 = .ok (.iload 9, 2) := by decide +kernel
theorem dX2_combineRow_148 : decode cX2_combineRow 148 = .ok (.aload_n 0, 1) := by decide +kernel
theorem dX2_combineRow_149 : decode cX2_combineRow 149 = .ok (.getfield 82, 3) := by decide +kernel
theorem dX2_combineRow_152 : decode cX2_combineRow 152 = .ok (.getfield 78, 3) := by decide +kernel
theorem dX2_combineRow_155 : decode cX2_combineRow 155 = .ok (.imul, 1) := by decide +kernel
theorem dX2_combineRow_156 : decode cX2_combineRow 156 = .ok (.putfield 78, 3) := by decide +kernel
theorem dX2_combineRow_159 : decode cX2_combineRow 159 = .ok (.iinc 6 1, 3) := by decide +kernel
theorem dX2_combineRow_162 : decode cX2_combineRow 162 = .ok (.goto (-141), 3) := by decide +kernel
theorem dX2_combineRow_165 : decode cX2_combineRow 165 = .ok (.return_, 1) := by decide +kernel
theorem dX2_refreshCells_0 : decode cX2_refreshCells 0 = .ok (.aload_n 2, 1) := by decide +kernel
theorem dX2_refreshCells_1 : decode cX2_refreshCells 1 = .ok (.getfield 122, 3) := by decide +kernel
theorem dX2_refreshCells_4 : decode cX2_refreshCells 4 = .ok (.iload_n 3, 1) := by decide +kernel
theorem dX2_refreshCells_5 : decode cX2_refreshCells 5 = .ok (.aaload, 1) := by decide +kernel
theorem dX2_refreshCells_6 : decode cX2_refreshCells 6 = .ok (.astore 4, 2) := by decide +kernel
theorem dX2_refreshCells_8 : decode cX2_refreshCells 8 = .ok (.aload_n 1, 1) := by decide +kernel
theorem dX2_refreshCells_9 : decode cX2_refreshCells 9 = .ok (.getfield 122, 3) := by decide +kernel
theorem dX2_refreshCells_12 : decode cX2_refreshCells 12 = .ok (.iload_n 3, 1) := by decide +kernel
theorem dX2_refreshCells_13 : decode cX2_refreshCells 13 = .ok (.aaload, 1) := by decide +kernel
theorem dX2_refreshCells_14 : decode cX2_refreshCells 14 = .ok (.getfield 78, 3) := by decide +kernel
theorem dX2_refreshCells_17 : decode cX2_refreshCells 17 = .ok (.ifCond .ne 4, 3) := by decide +kernel
theorem dX2_refreshCells_20 : decode cX2_refreshCells 20 = .ok (.return_, 1) := by decide +kernel
theorem dX2_refreshCells_21 : decode cX2_refreshCells 21 = .ok (.aload_n 0, 1) := by decide +kernel
theorem dX2_refreshCells_22 : decode cX2_refreshCells 22 = .ok (.getfield 64, 3) := by decide +kernel
theorem dX2_refreshCells_25 : decode cX2_refreshCells 25 = .ok (.aload 4, 2) := by decide +kernel
theorem dX2_refreshCells_27 : decode cX2_refreshCells 27 = .ok (.getfield 71, 3) := by decide +kernel
theorem dX2_refreshCells_30 : decode cX2_refreshCells 30 = .ok (.aload_n 1, 1) := by decide +kernel
theorem dX2_refreshCells_31 : decode cX2_refreshCells 31 = .ok (.getfield 151, 3) := by decide +kernel
theorem dX2_refreshCells_34 : decode cX2_refreshCells 34 = .ok (.invokevirtual 165, 3) := by decide +kernel
theorem dX2_refreshCells_37 : decode cX2_refreshCells 37 = .ok (.iload_n 3, 1) := by decide +kernel
theorem dX2_refreshCells_38 : decode cX2_refreshCells 38 = .ok (.iconst 1, 1) := by decide +kernel
theorem dX2_refreshCells_39 : decode cX2_refreshCells 39 = .ok (.iadd, 1) := by decide +kernel
theorem dX2_refreshCells_40 : decode cX2_refreshCells 40 = .ok (.istore 5, 2) := by decide +kernel
theorem dX2_refreshCells_42 : decode cX2_refreshCells 42 = .ok (.iload 5, 2) := by decide +kernel
theorem dX2_refreshCells_44 : decode cX2_refreshCells 44 = .ok (.aload_n 0, 1) := by decide +kernel
theorem dX2_refreshCells_45 : decode cX2_refreshCells 45 = .ok (.getfield 85, 3) := by decide +kernel
theorem dX2_refreshCells_48 : decode cX2_refreshCells 48 = .ok (.if_icmp .gt 120, 3) := by decide +kernel
theorem dX2_refreshCells_51 : decode cX2_refreshCells 51 = .ok (.aload_n 2, 1) := by decide +kernel
theorem dX2_refreshCells_52 : decode cX2_refreshCells 52 = .ok (.getfield 122, 3) := by decide +kernel
theorem dX2_refreshCells_55 : decode cX2_refreshCells 55 = .ok (.iload 5, 2) := by decide +kernel
theorem dX2_refreshCells_57 : decode cX2_refreshCells 57 = .ok (.aaload, 1) := by decide +kernel
theorem dX2_refreshCells_58 : decode cX2_refreshCells 58 = .ok (.getfield 78, 3) := by decide +kernel
theorem dX2_refreshCells_61 : decode cX2_refreshCells 61 = .ok (.ifCond .ne 6, 3) := by decide +kernel
theorem dX2_refreshCells_64 : decode cX2_refreshCells 64 = .ok (.goto 98, 3) := by decide +kernel
theorem dX2_refreshCells_67 : decode cX2_refreshCells 67 = .ok (.aload_n 1, 1) := by decide +kernel
theorem dX2_refreshCells_68 : decode cX2_refreshCells 68 = .ok (.getfield 119, 3) := by decide +kernel
theorem dX2_refreshCells_71 : decode cX2_refreshCells 71 = .ok (.ifCond .ge 36, 3) := by decide +kernel
theorem dX2_refreshCells_74 : decode cX2_refreshCells 74 = .ok (.aload_n 0, 1) := by decide +kernel
theorem dX2_refreshCells_75 : decode cX2_refreshCells 75 = .ok (.getfield 12, 3) := by decide +kernel
theorem dX2_refreshCells_78 : decode cX2_refreshCells 78 = .ok (.aload_n 1, 1) := by decide +kernel
theorem dX2_refreshCells_79 : decode cX2_refreshCells 79 = .ok (.getfield 122, 3) := by decide +kernel
theorem dX2_refreshCells_82 : decode cX2_refreshCells 82 = .ok (.iload 5, 2) := by decide +kernel
theorem dX2_refreshCells_84 : decode cX2_refreshCells 84 = .ok (.aaload, 1) := by decide +kernel
theorem dX2_refreshCells_85 : decode cX2_refreshCells 85 = .ok (.aload_n 0, 1) := by decide +kernel
theorem dX2_refreshCells_86 : decode cX2_refreshCells 86 = .ok (.getfield 64, 3) := by decide +kernel
theorem dX2_refreshCells_89 : decode cX2_refreshCells 89 = .ok (.aload 4, 2) := by decide +kernel
theorem dX2_refreshCells_91 : decode cX2_refreshCells 91 = .ok (.getfield 78, 3) := by decide +kernel
theorem dX2_refreshCells_94 : decode cX2_refreshCells 94 = .ok (.aload_n 1, 1) := by decide +kernel
theorem dX2_refreshCells_95 : decode cX2_refreshCells 95 = .ok (.getfield 158, 3) := by decide +kernel
theorem dX2_refreshCells_98 : decode cX2_refreshCells 98 = .ok (.iload 5, 2) := by decide +kernel
theorem dX2_refreshCells_100 : decode cX2_refreshCells 100 = .ok (.aaload, 1) := by decide +kernel
theorem dX2_refreshCells_101 : decode cX2_refreshCells 101 = .ok (.invokevirtual 177, 3) := by decide +kernel
theorem dX2_refreshCells_104 : decode cX2_refreshCells 104 = .ok (.goto 58, 3) := by decide +kernel
theorem dX2_refreshCells_107 : decode cX2_refreshCells 107 = .ok (.aload_n 0, 1) := by decide +kernel
theorem dX2_refreshCells_108 : decode cX2_refreshCells 108 = .ok (.getfield 12, 3) := by decide +kernel
theorem dX2_refreshCells_111 : decode cX2_refreshCells 111 = .ok (.aload_n 1, 1) := by decide +kernel
theorem dX2_refreshCells_112 : decode cX2_refreshCells 112 = .ok (.getfield 122, 3) := by decide +kernel
theorem dX2_refreshCells_115 : decode cX2_refreshCells 115 = .ok (.iload 5, 2) := by decide +kernel
theorem dX2_refreshCells_117 : decode cX2_refreshCells 117 = .ok (.aaload, 1) := by decide +kernel
theorem dX2_refreshCells_118 : decode cX2_refreshCells 118 = .ok (.aload 4, 2) := by decide +kernel
theorem dX2_refreshCells_120 : decode cX2_refreshCells 120 = .ok (.getfield 71, 3) := by decide +kernel
theorem dX2_refreshCells_123 : decode cX2_refreshCells 123 = .ok (.aload 4, 2) := by decide +kernel
theorem dX2_refreshCells_125 : decode cX2_refreshCells 125 = .ok (.getfield 78, 3) := by decide +kernel
theorem dX2_refreshCells_128 : decode cX2_refreshCells 128 = .ok (.aload_n 0, 1) := by decide +kernel
theorem dX2_refreshCells_129 : decode cX2_refreshCells 129 = .ok (.getfield 51, 3) := by decide +kernel
theorem dX2_refreshCells_132 : decode cX2_refreshCells 132 = .ok (.invokevirtual 177, 3) := by decide +kernel
theorem dX2_refreshCells_135 : decode cX2_refreshCells 135 = .ok (.aload_n 0, 1) := by decide +kernel
theorem dX2_refreshCells_136 : decode cX2_refreshCells 136 = .ok (.getfield 12, 3) := by decide +kernel
theorem dX2_refreshCells_139 : decode cX2_refreshCells 139 = .ok (.aload_n 0, 1) := by decide +kernel
theorem dX2_refreshCells_140 : decode cX2_refreshCells 140 = .ok (.getfield 51, 3) := by decide +kernel
theorem dX2_refreshCells_143 : decode cX2_refreshCells 143 = .ok (.aload_n 1, 1) := by decide +kernel
theorem dX2_refreshCells_144 : decode cX2_refreshCells 144 = .ok (.getfield 158, 3) := by decide +kernel
theorem dX2_refreshCells_147 : decode cX2_refreshCells 147 = .ok (.aload_n 1, 1) := by decide +kernel
theorem dX2_refreshCells_148 : decode cX2_refreshCells 148 = .ok (.getfield 119, 3) := by decide +kernel
theorem dX2_refreshCells_151 : decode cX2_refreshCells 151 = .ok (.aaload, 1) := by decide +kernel
theorem dX2_refreshCells_152 : decode cX2_refreshCells 152 = .ok (.aload_n 1, 1) := by decide +kernel
theorem dX2_refreshCells_153 : decode cX2_refreshCells 153 = .ok (.getfield 158, 3) := by decide +kernel
theorem dX2_refreshCells_156 : decode cX2_refreshCells 156 = .ok (.iload 5, 2) := by decide +kernel
theorem dX2_refreshCells_158 : decode cX2_refreshCells 158 = .ok (.aaload, 1) := by decide +kernel
theorem dX2_refreshCells_159 : decode cX2_refreshCells 159 = .ok (.invokevirtual 181, 3) := by decide +kernel
theorem dX2_refreshCells_162 : decode cX2_refreshCells 162 = .ok (.iinc 5 1, 3) := by decide +kernel
theorem dX2_refreshCells_165 : decode cX2_refreshCells 165 = .ok (.goto (-123), 3) := by decide +kernel
theorem dX2_refreshCells_168 : decode cX2_refreshCells 168 = .ok (.aload_n 1, 1) := by decide +kernel
theorem dX2_refreshCells_169 : decode cX2_refreshCells 169 = .ok (.getfield 158, 3) := by decide +kernel
theorem dX2_refreshCells_172 : decode cX2_refreshCells 172 = .ok (.iload_n 3, 1) := by decide +kernel
theorem dX2_refreshCells_173 : decode cX2_refreshCells 173 = .ok (.aaload, 1) := by decide +kernel
theorem dX2_refreshCells_174 : decode cX2_refreshCells 174 = .ok (.invokevirtual 185, 3) := by decide +kernel
theorem dX2_refreshCells_177 : decode cX2_refreshCells 177 = .ok (.return_, 1) := by decide +kernel
theorem dX2_stateLimbs_0 : decode cX2_stateLimbs 0 = .ok (.iconst 0, 1) := by decide +kernel
theorem dX2_stateLimbs_1 : decode cX2_stateLimbs 1 = .ok (.istore_n 1, 1) := by decide +kernel
theorem dX2_stateLimbs_2 : decode cX2_stateLimbs 2 = .ok (.iconst 0, 1) := by decide +kernel
theorem dX2_stateLimbs_3 : decode cX2_stateLimbs 3 = .ok (.istore_n 2, 1) := by decide +kernel
theorem dX2_stateLimbs_4 : decode cX2_stateLimbs 4 = .ok (.iload_n 2, 1) := by decide +kernel
theorem dX2_stateLimbs_5 : decode cX2_stateLimbs 5 = .ok (.aload_n 0, 1) := by decide +kernel
theorem dX2_stateLimbs_6 : decode cX2_stateLimbs 6 = .ok (.getfield 85, 3) := by decide +kernel
theorem dX2_stateLimbs_9 : decode cX2_stateLimbs 9 = .ok (.if_icmp .ge 42, 3) := by decide +kernel
theorem dX2_stateLimbs_12 : decode cX2_stateLimbs 12 = .ok (.iconst 0, 1) := by decide +kernel
theorem dX2_stateLimbs_13 : decode cX2_stateLimbs 13 = .ok (.istore_n 3, 1) := by decide +kernel
theorem dX2_stateLimbs_14 : decode cX2_stateLimbs 14 = .ok (.iload_n 3, 1) := by decide +kernel
theorem dX2_stateLimbs_15 : decode cX2_stateLimbs 15 = .ok (.aload_n 0, 1) := by decide +kernel
theorem dX2_stateLimbs_16 : decode cX2_stateLimbs 16 = .ok (.getfield 85, 3) := by decide +kernel
theorem dX2_stateLimbs_19 : decode cX2_stateLimbs 19 = .ok (.if_icmp .gt 26, 3) := by decide +kernel
theorem dX2_stateLimbs_22 : decode cX2_stateLimbs 22 = .ok (.iload_n 1, 1) := by decide +kernel
theorem dX2_stateLimbs_23 : decode cX2_stateLimbs 23 = .ok (.aload_n 0, 1) := by decide +kernel
theorem dX2_stateLimbs_24 : decode cX2_stateLimbs 24 = .ok (.getfield 20, 3) := by decide +kernel
theorem dX2_stateLimbs_27 : decode cX2_stateLimbs 27 = .ok (.iload_n 2, 1) := by decide +kernel
theorem dX2_stateLimbs_28 : decode cX2_stateLimbs 28 = .ok (.aaload, 1) := by decide +kernel
theorem dX2_stateLimbs_29 : decode cX2_stateLimbs 29 = .ok (.getfield 158, 3) := by decide +kernel
theorem dX2_stateLimbs_32 : decode cX2_stateLimbs 32 = .ok (.iload_n 3, 1) := by decide +kernel
theorem dX2_stateLimbs_33 : decode cX2_stateLimbs 33 = .ok (.aaload, 1) := by decide +kernel
theorem dX2_stateLimbs_34 : decode cX2_stateLimbs 34 = .ok (.invokevirtual 188, 3) := by decide +kernel
theorem dX2_stateLimbs_37 : decode cX2_stateLimbs 37 = .ok (.iadd, 1) := by decide +kernel
theorem dX2_stateLimbs_38 : decode cX2_stateLimbs 38 = .ok (.istore_n 1, 1) := by decide +kernel
theorem dX2_stateLimbs_39 : decode cX2_stateLimbs 39 = .ok (.iinc 3 1, 3) := by decide +kernel
theorem dX2_stateLimbs_42 : decode cX2_stateLimbs 42 = .ok (.goto (-28), 3) := by decide +kernel
theorem dX2_stateLimbs_45 : decode cX2_stateLimbs 45 = .ok (.iinc 2 1, 3) := by decide +kernel
theorem dX2_stateLimbs_48 : decode cX2_stateLimbs 48 = .ok (.goto (-44), 3) := by decide +kernel
theorem dX2_stateLimbs_51 : decode cX2_stateLimbs 51 = .ok (.iload_n 1, 1) := by decide +kernel
theorem dX2_stateLimbs_52 : decode cX2_stateLimbs 52 = .ok (.ireturn, 1) := by decide +kernel
theorem dX2_hasNoRightSidesLeft_0 : decode cX2_hasNoRightSidesLeft 0 = .ok (.aload_n 0, 1) := by decide +kernel
theorem dX2_hasNoRightSidesLeft_1 : decode cX2_hasNoRightSidesLeft 1 = .ok (.getfield 91, 3) := by decide +kernel
theorem dX2_hasNoRightSidesLeft_4 : decode cX2_hasNoRightSidesLeft 4 = .ok (.istore_n 1, 1) := by decide +kernel
theorem dX2_hasNoRightSidesLeft_5 : decode cX2_hasNoRightSidesLeft 5 = .ok (.iload_n 1, 1) := by decide +kernel
theorem dX2_hasNoRightSidesLeft_6 : decode cX2_hasNoRightSidesLeft 6 = .ok (.aload_n 0, 1) := by decide +kernel
theorem dX2_hasNoRightSidesLeft_7 : decode cX2_hasNoRightSidesLeft 7 = .ok (.getfield 85, 3) := by decide +kernel
theorem dX2_hasNoRightSidesLeft_10 : decode cX2_hasNoRightSidesLeft 10 = .ok (.if_icmp .ge 31, 3) := by decide +kernel
theorem dX2_hasNoRightSidesLeft_13 : decode cX2_hasNoRightSidesLeft 13 = .ok (.aload_n 0, 1) := by decide +kernel
theorem dX2_hasNoRightSidesLeft_14 : decode cX2_hasNoRightSidesLeft 14 = .ok (.getfield 20, 3) := by decide +kernel
theorem dX2_hasNoRightSidesLeft_17 : decode cX2_hasNoRightSidesLeft 17 = .ok (.iload_n 1, 1) := by decide +kernel
theorem dX2_hasNoRightSidesLeft_18 : decode cX2_hasNoRightSidesLeft 18 = .ok (.aaload, 1) := by decide +kernel
theorem dX2_hasNoRightSidesLeft_19 : decode cX2_hasNoRightSidesLeft 19 = .ok (.getfield 122, 3) := by decide +kernel
theorem dX2_hasNoRightSidesLeft_22 : decode cX2_hasNoRightSidesLeft 22 = .ok (.aload_n 0, 1) := by decide +kernel
theorem dX2_hasNoRightSidesLeft_23 : decode cX2_hasNoRightSidesLeft 23 = .ok (.getfield 85, 3) := by decide +kernel
theorem dX2_hasNoRightSidesLeft_26 : decode cX2_hasNoRightSidesLeft 26 = .ok (.aaload, 1) := by decide +kernel
theorem dX2_hasNoRightSidesLeft_27 : decode cX2_hasNoRightSidesLeft 27 = .ok (.getfield 78, 3) := by decide +kernel
theorem dX2_hasNoRightSidesLeft_30 : decode cX2_hasNoRightSidesLeft 30 = .ok (.ifCond .eq 5, 3) := by decide +kernel
theorem dX2_hasNoRightSidesLeft_33 : decode cX2_hasNoRightSidesLeft 33 = .ok (.iconst 0, 1) := by decide +kernel
theorem dX2_hasNoRightSidesLeft_34 : decode cX2_hasNoRightSidesLeft 34 = .ok (.ireturn, 1) := by decide +kernel
theorem dX2_hasNoRightSidesLeft_35 : decode cX2_hasNoRightSidesLeft 35 = .ok (.iinc 1 1, 3) := by decide +kernel
theorem dX2_hasNoRightSidesLeft_38 : decode cX2_hasNoRightSidesLeft 38 = .ok (.goto (-33), 3) := by decide +kernel
theorem dX2_hasNoRightSidesLeft_41 : decode cX2_hasNoRightSidesLeft 41 = .ok (.iconst 1, 1) := by decide +kernel
theorem dX2_hasNoRightSidesLeft_42 : decode cX2_hasNoRightSidesLeft 42 = .ok (.ireturn, 1) := by decide +kernel
theorem dX2_findUnknowns_0 : decode cX2_findUnknowns 0 = .ok (.iconst 0, 1) := by decide +kernel
theorem dX2_findUnknowns_1 : decode cX2_findUnknowns 1 = .ok (.istore_n 1, 1) := by decide +kernel
theorem dX2_findUnknowns_2 : decode cX2_findUnknowns 2 = .ok (.iload_n 1, 1) := by decide +kernel
theorem dX2_findUnknowns_3 : decode cX2_findUnknowns 3 = .ok (.aload_n 0, 1) := by decide +kernel
theorem dX2_findUnknowns_4 : decode cX2_findUnknowns 4 = .ok (.getfield 85, 3) := by decide +kernel
theorem dX2_findUnknowns_7 : decode cX2_findUnknowns 7 = .ok (.if_icmp .ge 77, 3) := by decide +kernel
theorem dX2_findUnknowns_10 : decode cX2_findUnknowns 10 = .ok (.aload_n 0, 1) := by decide +kernel
theorem dX2_findUnknowns_11 : decode cX2_findUnknowns 11 = .ok (.getfield 26, 3) := by decide +kernel
theorem dX2_findUnknowns_14 : decode cX2_findUnknowns 14 = .ok (.iload_n 1, 1) := by decide +kernel
theorem dX2_findUnknowns_15 : decode cX2_findUnknowns 15 = .ok (.aaload, 1) := by decide +kernel
theorem dX2_findUnknowns_16 : decode cX2_findUnknowns 16 = .ok (.astore_n 2, 1) := by decide +kernel
theorem dX2_findUnknowns_17 : decode cX2_findUnknowns 17 = .ok (.aload_n 0, 1) := by decide +kernel
theorem dX2_findUnknowns_18 : decode cX2_findUnknowns 18 = .ok (.getfield 30, 3) := by decide +kernel
theorem dX2_findUnknowns_21 : decode cX2_findUnknowns 21 = .ok (.iload_n 1, 1) := by decide +kernel
theorem dX2_findUnknowns_22 : decode cX2_findUnknowns 22 = .ok (.iaload, 1) := by decide +kernel
theorem dX2_findUnknowns_23 : decode cX2_findUnknowns 23 = .ok (.istore_n 3, 1) := by decide +kernel
theorem dX2_findUnknowns_24 : decode cX2_findUnknowns 24 = .ok (.aload_n 0, 1) := by decide +kernel
theorem dX2_findUnknowns_25 : decode cX2_findUnknowns 25 = .ok (.getfield 97, 3) := by decide +kernel
theorem dX2_findUnknowns_28 : decode cX2_findUnknowns 28 = .ok (.ifCond .eq 46, 3) := by decide +kernel
theorem dX2_findUnknowns_31 : decode cX2_findUnknowns 31 = .ok (.iload_n 3, 1) := by decide +kernel
theorem dX2_findUnknowns_32 : decode cX2_findUnknowns 32 = .ok (.ifCond .lt 42, 3) := by decide +kernel
theorem dX2_findUnknowns_35 : decode cX2_findUnknowns 35 = .ok (.aload_n 0, 1) := by decide +kernel
theorem dX2_findUnknowns_36 : decode cX2_findUnknowns 36 = .ok (.getfield 12, 3) := by decide +kernel
theorem dX2_findUnknowns_39 : decode cX2_findUnknowns 39 = .ok (.aload_n 0, 1) := by decide +kernel
theorem dX2_findUnknowns_40 : decode cX2_findUnknowns 40 = .ok (.getfield 20, 3) := by decide +kernel
theorem dX2_findUnknowns_43 : decode cX2_findUnknowns 43 = .ok (.iload_n 3, 1) := by decide +kernel
theorem dX2_findUnknowns_44 : decode cX2_findUnknowns 44 = .ok (.aaload, 1) := by decide +kernel
theorem dX2_findUnknowns_45 : decode cX2_findUnknowns 45 = .ok (.getfield 122, 3) := by decide +kernel
theorem dX2_findUnknowns_48 : decode cX2_findUnknowns 48 = .ok (.aload_n 0, 1) := by decide +kernel
theorem dX2_findUnknowns_49 : decode cX2_findUnknowns 49 = .ok (.getfield 85, 3) := by decide +kernel
theorem dX2_findUnknowns_52 : decode cX2_findUnknowns 52 = .ok (.aaload, 1) := by decide +kernel
theorem dX2_findUnknowns_53 : decode cX2_findUnknowns 53 = .ok (.aload_n 0, 1) := by decide +kernel
theorem dX2_findUnknowns_54 : decode cX2_findUnknowns 54 = .ok (.getfield 82, 3) := by decide +kernel
theorem dX2_findUnknowns_57 : decode cX2_findUnknowns 57 = .ok (.getfield 71, 3) := by decide +kernel
theorem dX2_findUnknowns_60 : decode cX2_findUnknowns 60 = .ok (.aload_n 0, 1) := by decide +kernel
theorem dX2_findUnknowns_61 : decode cX2_findUnknowns 61 = .ok (.getfield 82, 3) := by decide +kernel
theorem dX2_findUnknowns_64 : decode cX2_findUnknowns 64 = .ok (.getfield 78, 3) := by decide +kernel
theorem dX2_findUnknowns_67 : decode cX2_findUnknowns 67 = .ok (.aload_n 2, 1) := by decide +kernel
theorem dX2_findUnknowns_68 : decode cX2_findUnknowns 68 = .ok (.invokevirtual 177, 3) := by decide +kernel
theorem dX2_findUnknowns_71 : decode cX2_findUnknowns 71 = .ok (.goto 7, 3) := by decide +kernel
theorem dX2_findUnknowns_74 : decode cX2_findUnknowns 74 = .ok (.aload_n 2, 1) := by decide +kernel
theorem dX2_findUnknowns_75 : decode cX2_findUnknowns 75 = .ok (.invokevirtual 185, 3) := by decide +kernel
theorem dX2_findUnknowns_78 : decode cX2_findUnknowns 78 = .ok (.iinc 1 1, 3) := by decide +kernel
theorem dX2_findUnknowns_81 : decode cX2_findUnknowns 81 = .ok (.goto (-79), 3) := by decide +kernel
theorem dX2_findUnknowns_84 : decode cX2_findUnknowns 84 = .ok (.return_, 1) := by decide +kernel
theorem dX2_findVolume_0 : decode cX2_findVolume 0 = .ok (.aload_n 0, 1) := by decide +kernel
theorem dX2_findVolume_1 : decode cX2_findVolume 1 = .ok (.getfield 91, 3) := by decide +kernel
theorem dX2_findVolume_4 : decode cX2_findVolume 4 = .ok (.aload_n 0, 1) := by decide +kernel
theorem dX2_findVolume_5 : decode cX2_findVolume 5 = .ok (.getfield 85, 3) := by decide +kernel
theorem dX2_findVolume_8 : decode cX2_findVolume 8 = .ok (.if_icmp .ge 11, 3) := by decide +kernel
theorem dX2_findVolume_11 : decode cX2_findVolume 11 = .ok (.aload_n 0, 1) := by decide +kernel
theorem dX2_findVolume_12 : decode cX2_findVolume 12 = .ok (.getfield 47, 3) := by decide +kernel
theorem dX2_findVolume_15 : decode cX2_findVolume 15 = .ok (.invokevirtual 185, 3) := by decide +kernel
theorem dX2_findVolume_18 : decode cX2_findVolume 18 = .ok (.return_, 1) := by decide +kernel
theorem dX2_findVolume_19 : decode cX2_findVolume 19 = .ok (.aload_n 0, 1) := by decide +kernel
theorem dX2_findVolume_20 : decode cX2_findVolume 20 = .ok (.getfield 64, 3) := by decide +kernel
theorem dX2_findVolume_23 : decode cX2_findVolume 23 = .ok (.lconst 1, 1) := by decide +kernel
theorem dX2_findVolume_24 : decode cX2_findVolume 24 = .ok (.invokevirtual 74, 3) := by decide +kernel
theorem dX2_findVolume_27 : decode cX2_findVolume 27 = .ok (.iconst 0, 1) := by decide +kernel
theorem dX2_findVolume_28 : decode cX2_findVolume 28 = .ok (.istore_n 1, 1) := by decide +kernel
theorem dX2_findVolume_29 : decode cX2_findVolume 29 = .ok (.iload_n 1, 1) := by decide +kernel
theorem dX2_findVolume_30 : decode cX2_findVolume 30 = .ok (.aload_n 0, 1) := by decide +kernel
theorem dX2_findVolume_31 : decode cX2_findVolume 31 = .ok (.getfield 85, 3) := by decide +kernel
theorem dX2_findVolume_34 : decode cX2_findVolume 34 = .ok (.if_icmp .ge 40, 3) := by decide +kernel
theorem dX2_findVolume_37 : decode cX2_findVolume 37 = .ok (.aload_n 0, 1) := by decide +kernel
theorem dX2_findVolume_38 : decode cX2_findVolume 38 = .ok (.getfield 57, 3) := by decide +kernel
theorem dX2_findVolume_41 : decode cX2_findVolume 41 = .ok (.aload_n 0, 1) := by decide +kernel
theorem dX2_findVolume_42 : decode cX2_findVolume 42 = .ok (.getfield 64, 3) := by decide +kernel
theorem dX2_findVolume_45 : decode cX2_findVolume 45 = .ok (.aload_n 0, 1) := by decide +kernel
theorem dX2_findVolume_46 : decode cX2_findVolume 46 = .ok (.getfield 20, 3) := by decide +kernel
theorem dX2_findVolume_49 : decode cX2_findVolume 49 = .ok (.iload_n 1, 1) := by decide +kernel
theorem dX2_findVolume_50 : decode cX2_findVolume 50 = .ok (.aaload, 1) := by decide +kernel
theorem dX2_findVolume_51 : decode cX2_findVolume 51 = .ok (.getfield 151, 3) := by decide +kernel
theorem dX2_findVolume_54 : decode cX2_findVolume 54 = .ok (.invokevirtual 165, 3) := by decide +kernel
theorem dX2_findVolume_57 : decode cX2_findVolume 57 = .ok (.aload_n 0, 1) := by decide +kernel
theorem dX2_findVolume_58 : decode cX2_findVolume 58 = .ok (.getfield 64, 3) := by decide +kernel
theorem dX2_findVolume_61 : decode cX2_findVolume 61 = .ok (.aload_n 0, 1) := by decide +kernel
theorem dX2_findVolume_62 : decode cX2_findVolume 62 = .ok (.getfield 57, 3) := by decide +kernel
theorem dX2_findVolume_65 : decode cX2_findVolume 65 = .ok (.invokevirtual 191, 3) := by decide +kernel
theorem dX2_findVolume_68 : decode cX2_findVolume 68 = .ok (.iinc 1 1, 3) := by decide +kernel
theorem dX2_findVolume_71 : decode cX2_findVolume 71 = .ok (.goto (-42), 3) := by decide +kernel
theorem dX2_findVolume_74 : decode cX2_findVolume 74 = .ok (.aload_n 0, 1) := by decide +kernel
theorem dX2_findVolume_75 : decode cX2_findVolume 75 = .ok (.getfield 12, 3) := by decide +kernel
theorem dX2_findVolume_78 : decode cX2_findVolume 78 = .ok (.aload_n 0, 1) := by decide +kernel
theorem dX2_findVolume_79 : decode cX2_findVolume 79 = .ok (.getfield 82, 3) := by decide +kernel
theorem dX2_findVolume_82 : decode cX2_findVolume 82 = .ok (.aload_n 0, 1) := by decide +kernel
theorem dX2_findVolume_83 : decode cX2_findVolume 83 = .ok (.getfield 64, 3) := by decide +kernel
theorem dX2_findVolume_86 : decode cX2_findVolume 86 = .ok (.aload_n 0, 1) := by decide +kernel
theorem dX2_findVolume_87 : decode cX2_findVolume 87 = .ok (.getfield 88, 3) := by decide +kernel
theorem dX2_findVolume_90 : decode cX2_findVolume 90 = .ok (.aload_n 0, 1) := by decide +kernel
theorem dX2_findVolume_91 : decode cX2_findVolume 91 = .ok (.getfield 47, 3) := by decide +kernel
theorem dX2_findVolume_94 : decode cX2_findVolume 94 = .ok (.invokevirtual 177, 3) := by decide +kernel
theorem dX2_findVolume_97 : decode cX2_findVolume 97 = .ok (.return_, 1) := by decide +kernel
theorem dX2_holds_0 : decode cX2_holds 0 = .ok (.aload_n 0, 1) := by decide +kernel
theorem dX2_holds_1 : decode cX2_holds 1 = .ok (.getfield 12, 3) := by decide +kernel
theorem dX2_holds_4 : decode cX2_holds 4 = .ok (.aload_n 1, 1) := by decide +kernel
theorem dX2_holds_5 : decode cX2_holds 5 = .ok (.iload_n 2, 1) := by decide +kernel
theorem dX2_holds_6 : decode cX2_holds 6 = .ok (.aload_n 0, 1) := by decide +kernel
theorem dX2_holds_7 : decode cX2_holds 7 = .ok (.getfield 36, 3) := by decide +kernel
theorem dX2_holds_10 : decode cX2_holds 10 = .ok (.aload_n 0, 1) := by decide +kernel
theorem dX2_holds_11 : decode cX2_holds 11 = .ok (.getfield 64, 3) := by decide +kernel
theorem dX2_holds_14 : decode cX2_holds 14 = .ok (.invokevirtual 154, 3) := by decide +kernel
theorem dX2_holds_17 : decode cX2_holds 17 = .ok (.aload_n 0, 1) := by decide +kernel
theorem dX2_holds_18 : decode cX2_holds 18 = .ok (.getfield 57, 3) := by decide +kernel
theorem dX2_holds_21 : decode cX2_holds 21 = .ok (.invokevirtual 195, 3) := by decide +kernel
theorem dX2_holds_24 : decode cX2_holds 24 = .ok (.aload_n 0, 1) := by decide +kernel
theorem dX2_holds_25 : decode cX2_holds 25 = .ok (.getfield 61, 3) := by decide +kernel
theorem dX2_holds_28 : decode cX2_holds 28 = .ok (.invokevirtual 195, 3) := by decide +kernel
theorem dX2_holds_31 : decode cX2_holds 31 = .ok (.iconst 0, 1) := by decide +kernel
theorem dX2_holds_32 : decode cX2_holds 32 = .ok (.istore_n 3, 1) := by decide +kernel
theorem dX2_holds_33 : decode cX2_holds 33 = .ok (.iload_n 3, 1) := by decide +kernel
theorem dX2_holds_34 : decode cX2_holds 34 = .ok (.aload_n 0, 1) := by decide +kernel
theorem dX2_holds_35 : decode cX2_holds 35 = .ok (.getfield 85, 3) := by decide +kernel
theorem dX2_holds_38 : decode cX2_holds 38 = .ok (.if_icmp .ge 48, 3) := by decide +kernel
theorem dX2_holds_41 : decode cX2_holds 41 = .ok (.aload_n 0, 1) := by decide +kernel
theorem dX2_holds_42 : decode cX2_holds 42 = .ok (.getfield 30, 3) := by decide +kernel
theorem dX2_holds_45 : decode cX2_holds 45 = .ok (.iload_n 3, 1) := by decide +kernel
theorem dX2_holds_46 : decode cX2_holds 46 = .ok (.iaload, 1) := by decide +kernel
theorem dX2_holds_47 : decode cX2_holds 47 = .ok (.ifCond .lt 33, 3) := by decide +kernel
theorem dX2_holds_50 : decode cX2_holds 50 = .ok (.aload_n 0, 1) := by decide +kernel
theorem dX2_holds_51 : decode cX2_holds 51 = .ok (.aload_n 0, 1) := by decide +kernel
theorem dX2_holds_52 : decode cX2_holds 52 = .ok (.getfield 36, 3) := by decide +kernel
theorem dX2_holds_55 : decode cX2_holds 55 = .ok (.iload_n 3, 1) := by decide +kernel
theorem dX2_holds_56 : decode cX2_holds 56 = .ok (.aaload, 1) := by decide +kernel
theorem dX2_holds_57 : decode cX2_holds 57 = .ok (.aload_n 0, 1) := by decide +kernel
theorem dX2_holds_58 : decode cX2_holds 58 = .ok (.getfield 20, 3) := by decide +kernel
theorem dX2_holds_61 : decode cX2_holds 61 = .ok (.aload_n 0, 1) := by decide +kernel
theorem dX2_holds_62 : decode cX2_holds 62 = .ok (.getfield 30, 3) := by decide +kernel
theorem dX2_holds_65 : decode cX2_holds 65 = .ok (.iload_n 3, 1) := by decide +kernel
theorem dX2_holds_66 : decode cX2_holds 66 = .ok (.iaload, 1) := by decide +kernel
theorem dX2_holds_67 : decode cX2_holds 67 = .ok (.aaload, 1) := by decide +kernel
theorem dX2_holds_68 : decode cX2_holds 68 = .ok (.getfield 122, 3) := by decide +kernel
theorem dX2_holds_71 : decode cX2_holds 71 = .ok (.aload_n 0, 1) := by decide +kernel
theorem dX2_holds_72 : decode cX2_holds 72 = .ok (.getfield 85, 3) := by decide +kernel
theorem dX2_holds_75 : decode cX2_holds 75 = .ok (.aaload, 1) := by decide +kernel
theorem dX2_holds_76 : decode cX2_holds 76 = .ok (.iconst 1, 1) := by decide +kernel
theorem dX2_holds_77 : decode cX2_holds 77 = .ok (.invokevirtual 196, 3) := by decide +kernel
theorem dX2_holds_80 : decode cX2_holds 80 = .ok (.iinc 3 1, 3) := by decide +kernel
theorem dX2_holds_83 : decode cX2_holds 83 = .ok (.goto (-50), 3) := by decide +kernel
theorem dX2_holds_86 : decode cX2_holds 86 = .ok (.aload_n 0, 1) := by decide +kernel
theorem dX2_holds_87 : decode cX2_holds 87 = .ok (.aload_n 0, 1) := by decide +kernel
theorem dX2_holds_88 : decode cX2_holds 88 = .ok (.getfield 36, 3) := by decide +kernel
theorem dX2_holds_91 : decode cX2_holds 91 = .ok (.aload_n 0, 1) := by decide +kernel
theorem dX2_holds_92 : decode cX2_holds 92 = .ok (.getfield 85, 3) := by decide +kernel
theorem dX2_holds_95 : decode cX2_holds 95 = .ok (.aaload, 1) := by decide +kernel
theorem dX2_holds_96 : decode cX2_holds 96 = .ok (.aload_n 0, 1) := by decide +kernel
theorem dX2_holds_97 : decode cX2_holds 97 = .ok (.getfield 82, 3) := by decide +kernel
theorem dX2_holds_100 : decode cX2_holds 100 = .ok (.iconst (-1), 1) := by decide +kernel
theorem dX2_holds_101 : decode cX2_holds 101 = .ok (.invokevirtual 196, 3) := by decide +kernel
theorem dX2_holds_104 : decode cX2_holds 104 = .ok (.aload_n 0, 1) := by decide +kernel
theorem dX2_holds_105 : decode cX2_holds 105 = .ok (.getfield 57, 3) := by decide +kernel
theorem dX2_holds_108 : decode cX2_holds 108 = .ok (.aload_n 0, 1) := by decide +kernel
theorem dX2_holds_109 : decode cX2_holds 109 = .ok (.getfield 61, 3) := by decide +kernel
theorem dX2_holds_112 : decode cX2_holds 112 = .ok (.invokevirtual 200, 3) := by decide +kernel
theorem dX2_holds_115 : decode cX2_holds 115 = .ok (.ifCond .ne 7, 3) := by decide +kernel
theorem dX2_holds_118 : decode cX2_holds 118 = .ok (.iconst 1, 1) := by decide +kernel
theorem dX2_holds_119 : decode cX2_holds 119 = .ok (.goto 4, 3) := by decide +kernel
theorem dX2_holds_122 : decode cX2_holds 122 = .ok (.iconst 0, 1) := by decide +kernel
theorem dX2_holds_123 : decode cX2_holds 123 = .ok (.ireturn, 1) := by decide +kernel
theorem dX2_addProduct_0 : decode cX2_addProduct 0 = .ok (.aload_n 0, 1) := by decide +kernel
theorem dX2_addProduct_1 : decode cX2_addProduct 1 = .ok (.getfield 64, 3) := by decide +kernel
theorem dX2_addProduct_4 : decode cX2_addProduct 4 = .ok (.aload_n 1, 1) := by decide +kernel
theorem dX2_addProduct_5 : decode cX2_addProduct 5 = .ok (.getfield 71, 3) := by decide +kernel
theorem dX2_addProduct_8 : decode cX2_addProduct 8 = .ok (.aload_n 2, 1) := by decide +kernel
theorem dX2_addProduct_9 : decode cX2_addProduct 9 = .ok (.getfield 71, 3) := by decide +kernel
theorem dX2_addProduct_12 : decode cX2_addProduct 12 = .ok (.invokevirtual 165, 3) := by decide +kernel
theorem dX2_addProduct_15 : decode cX2_addProduct 15 = .ok (.iload_n 3, 1) := by decide +kernel
theorem dX2_addProduct_16 : decode cX2_addProduct 16 = .ok (.aload_n 1, 1) := by decide +kernel
theorem dX2_addProduct_17 : decode cX2_addProduct 17 = .ok (.getfield 78, 3) := by decide +kernel
theorem dX2_addProduct_20 : decode cX2_addProduct 20 = .ok (.imul, 1) := by decide +kernel
theorem dX2_addProduct_21 : decode cX2_addProduct 21 = .ok (.aload_n 2, 1) := by decide +kernel
theorem dX2_addProduct_22 : decode cX2_addProduct 22 = .ok (.getfield 78, 3) := by decide +kernel
theorem dX2_addProduct_25 : decode cX2_addProduct 25 = .ok (.imul, 1) := by decide +kernel
theorem dX2_addProduct_26 : decode cX2_addProduct 26 = .ok (.ifCond .le 17, 3) := by decide +kernel
theorem dX2_addProduct_29 : decode cX2_addProduct 29 = .ok (.aload_n 0, 1) := by decide +kernel
theorem dX2_addProduct_30 : decode cX2_addProduct 30 = .ok (.getfield 57, 3) := by decide +kernel
theorem dX2_addProduct_33 : decode cX2_addProduct 33 = .ok (.aload_n 0, 1) := by decide +kernel
theorem dX2_addProduct_34 : decode cX2_addProduct 34 = .ok (.getfield 64, 3) := by decide +kernel
theorem dX2_addProduct_37 : decode cX2_addProduct 37 = .ok (.invokevirtual 204, 3) := by decide +kernel
theorem dX2_addProduct_40 : decode cX2_addProduct 40 = .ok (.goto 14, 3) := by decide +kernel
theorem dX2_addProduct_43 : decode cX2_addProduct 43 = .ok (.aload_n 0, 1) := by decide +kernel
theorem dX2_addProduct_44 : decode cX2_addProduct 44 = .ok (.getfield 61, 3) := by decide +kernel
theorem dX2_addProduct_47 : decode cX2_addProduct 47 = .ok (.aload_n 0, 1) := by decide +kernel
theorem dX2_addProduct_48 : decode cX2_addProduct 48 = .ok (.getfield 64, 3) := by decide +kernel
theorem dX2_addProduct_51 : decode cX2_addProduct 51 = .ok (.invokevirtual 204, 3) := by decide +kernel
theorem dX2_addProduct_54 : decode cX2_addProduct 54 = .ok (.return_, 1) := by decide +kernel
