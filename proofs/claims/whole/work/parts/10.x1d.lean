theorem dX1_init_0 : decode cX1_init 0 = .ok (.aload_n 0, 1) := by decide +kernel
theorem dX1_init_1 : decode cX1_init 1 = .ok (.invokespecial 3, 3) := by decide +kernel
theorem dX1_init_4 : decode cX1_init 4 = .ok (.aload_n 0, 1) := by decide +kernel
theorem dX1_init_5 : decode cX1_init 5 = .ok (.bipush 97, 2) := by decide +kernel
theorem dX1_init_7 : decode cX1_init 7 = .ok (.newarray .int, 2) := by decide +kernel
theorem dX1_init_9 : decode cX1_init 9 = .ok (.putfield 9, 3) := by decide +kernel
theorem dX1_init_12 : decode cX1_init 12 = .ok (.aload_n 0, 1) := by decide +kernel
theorem dX1_init_13 : decode cX1_init 13 = .ok (.bipush 97, 2) := by decide +kernel
theorem dX1_init_15 : decode cX1_init 15 = .ok (.newarray .int, 2) := by decide +kernel
theorem dX1_init_17 : decode cX1_init 17 = .ok (.putfield 15, 3) := by decide +kernel
theorem dX1_init_20 : decode cX1_init 20 = .ok (.return_, 1) := by decide +kernel
theorem dX1_divide_0 : decode cX1_divide 0 = .ok (.aload_n 2, 1) := by decide +kernel
theorem dX1_divide_1 : decode cX1_divide 1 = .ok (.getfield 18, 3) := by decide +kernel
theorem dX1_divide_4 : decode cX1_divide 4 = .ok (.istore 5, 2) := by decide +kernel
theorem dX1_divide_6 : decode cX1_divide 6 = .ok (.aload_n 1, 1) := by decide +kernel
theorem dX1_divide_7 : decode cX1_divide 7 = .ok (.getfield 18, 3) := by decide +kernel
theorem dX1_divide_10 : decode cX1_divide 10 = .ok (.iload 5, 2) := by decide +kernel
theorem dX1_divide_12 : decode cX1_divide 12 = .ok (.isub, 1) := by decide +kernel
theorem dX1_divide_13 : decode cX1_divide 13 = .ok (.iconst 1, 1) := by decide +kernel
theorem dX1_divide_14 : decode cX1_divide 14 = .ok (.iadd, 1) := by decide +kernel
theorem dX1_divide_15 : decode cX1_divide 15 = .ok (.istore 6, 2) := by decide +kernel
theorem dX1_divide_17 : decode cX1_divide 17 = .ok (.iload 5, 2) := by decide +kernel
theorem dX1_divide_19 : decode cX1_divide 19 = .ok (.ifCond .eq 36, 3) := by decide +kernel
theorem dX1_divide_22 : decode cX1_divide 22 = .ok (.aload_n 1, 1) := by decide +kernel
theorem dX1_divide_23 : decode cX1_divide 23 = .ok (.getfield 18, 3) := by decide +kernel
theorem dX1_divide_26 : decode cX1_divide 26 = .ok (.aload_n 0, 1) := by decide +kernel
theorem dX1_divide_27 : decode cX1_divide 27 = .ok (.getfield 9, 3) := by decide +kernel
theorem dX1_divide_30 : decode cX1_divide 30 = .ok (.arraylength, 1) := by decide +kernel
theorem dX1_divide_31 : decode cX1_divide 31 = .ok (.if_icmp .ge 24, 3) := by decide +kernel
theorem dX1_divide_34 : decode cX1_divide 34 = .ok (.iload 5, 2) := by decide +kernel
theorem dX1_divide_36 : decode cX1_divide 36 = .ok (.aload 4, 2) := by decide +kernel
theorem dX1_divide_38 : decode cX1_divide 38 = .ok (.getfield 24, 3) := by decide +kernel
theorem dX1_divide_41 : decode cX1_divide 41 = .ok (.arraylength, 1) := by decide +kernel
theorem dX1_divide_42 : decode cX1_divide 42 = .ok (.if_icmp .gt 13, 3) := by decide +kernel
theorem dX1_divide_45 : decode cX1_divide 45 = .ok (.iload 6, 2) := by decide +kernel
theorem dX1_divide_47 : decode cX1_divide 47 = .ok (.aload_n 3, 1) := by decide +kernel
theorem dX1_divide_48 : decode cX1_divide 48 = .ok (.getfield 24, 3) := by decide +kernel
theorem dX1_divide_51 : decode cX1_divide 51 = .ok (.arraylength, 1) := by decide +kernel
theorem dX1_divide_52 : decode cX1_divide 52 = .ok (.if_icmp .le 4, 3) := by decide +kernel
theorem dX1_divide_55 : decode cX1_divide 55 = .ok (.return_, 1) := by decide +kernel
theorem dX1_divide_56 : decode cX1_divide 56 = .ok (.iload 6, 2) := by decide +kernel
theorem dX1_divide_58 : decode cX1_divide 58 = .ok (.ifCond .gt 14, 3) := by decide +kernel
theorem dX1_divide_61 : decode cX1_divide 61 = .ok (.aload 4, 2) := by decide +kernel
theorem dX1_divide_63 : decode cX1_divide 63 = .ok (.aload_n 1, 1) := by decide +kernel
theorem dX1_divide_64 : decode cX1_divide 64 = .ok (.invokevirtual 27, 3) := by decide +kernel
theorem dX1_divide_67 : decode cX1_divide 67 = .ok (.aload_n 3, 1) := by decide +kernel
theorem dX1_divide_68 : decode cX1_divide 68 = .ok (.invokevirtual 31, 3) := by decide +kernel
theorem dX1_divide_71 : decode cX1_divide 71 = .ok (.return_, 1) := by decide +kernel
theorem dX1_divide_72 : decode cX1_divide 72 = .ok (.aload_n 2, 1) := by decide +kernel
theorem dX1_divide_73 : decode cX1_divide 73 = .ok (.getfield 24, 3) := by decide +kernel
theorem dX1_divide_76 : decode cX1_divide 76 = .ok (.iload 5, 2) := by decide +kernel
theorem dX1_divide_78 : decode cX1_divide 78 = .ok (.iconst 1, 1) := by decide +kernel
theorem dX1_divide_79 : decode cX1_divide 79 = .ok (.isub, 1) := by decide +kernel
theorem dX1_divide_80 : decode cX1_divide 80 = .ok (.iaload, 1) := by decide +kernel
theorem dX1_divide_81 : decode cX1_divide 81 = .ok (.invokestatic 34, 3) := by decide +kernel
theorem dX1_divide_84 : decode cX1_divide 84 = .ok (.istore 7, 2) := by decide +kernel
theorem dX1_divide_86 : decode cX1_divide 86 = .ok (.aload_n 1, 1) := by decide +kernel
theorem dX1_divide_87 : decode cX1_divide 87 = .ok (.iload 7, 2) := by decide +kernel
theorem dX1_divide_89 : decode cX1_divide 89 = .ok (.aload_n 0, 1) := by decide +kernel
theorem dX1_divide_90 : decode cX1_divide 90 = .ok (.getfield 9, 3) := by decide +kernel
theorem dX1_divide_93 : decode cX1_divide 93 = .ok (.invokestatic 38, 3) := by decide +kernel
theorem dX1_divide_96 : decode cX1_divide 96 = .ok (.aload_n 2, 1) := by decide +kernel
theorem dX1_divide_97 : decode cX1_divide 97 = .ok (.iload 7, 2) := by decide +kernel
theorem dX1_divide_99 : decode cX1_divide 99 = .ok (.aload_n 0, 1) := by decide +kernel
theorem dX1_divide_100 : decode cX1_divide 100 = .ok (.getfield 15, 3) := by decide +kernel
theorem dX1_divide_103 : decode cX1_divide 103 = .ok (.invokestatic 38, 3) := by decide +kernel
theorem dX1_divide_106 : decode cX1_divide 106 = .ok (.iload 6, 2) := by decide +kernel
theorem dX1_divide_108 : decode cX1_divide 108 = .ok (.iconst 1, 1) := by decide +kernel
theorem dX1_divide_109 : decode cX1_divide 109 = .ok (.isub, 1) := by decide +kernel
theorem dX1_divide_110 : decode cX1_divide 110 = .ok (.istore 8, 2) := by decide +kernel
theorem dX1_divide_112 : decode cX1_divide 112 = .ok (.iload 8, 2) := by decide +kernel
theorem dX1_divide_114 : decode cX1_divide 114 = .ok (.ifCond .lt 52, 3) := by decide +kernel
theorem dX1_divide_117 : decode cX1_divide 117 = .ok (.aload_n 0, 1) := by decide +kernel
theorem dX1_divide_118 : decode cX1_divide 118 = .ok (.iload 8, 2) := by decide +kernel
theorem dX1_divide_120 : decode cX1_divide 120 = .ok (.iload 5, 2) := by decide +kernel
theorem dX1_divide_122 : decode cX1_divide 122 = .ok (.invokevirtual 42, 3) := by decide +kernel
theorem dX1_divide_125 : decode cX1_divide 125 = .ok (.istore 9, 2) := by decide +kernel
theorem dX1_divide_127 : decode cX1_divide 127 = .ok (.aload_n 0, 1) := by decide +kernel
theorem dX1_divide_128 : decode cX1_divide 128 = .ok (.iload 9, 2) := by decide +kernel
theorem dX1_divide_130 : decode cX1_divide 130 = .ok (.iload 8, 2) := by decide +kernel
theorem dX1_divide_132 : decode cX1_divide 132 = .ok (.iload 5, 2) := by decide +kernel
theorem dX1_divide_134 : decode cX1_divide 134 = .ok (.invokevirtual 46, 3) := by decide +kernel
theorem dX1_divide_137 : decode cX1_divide 137 = .ok (.ifCond .eq 14, 3) := by decide +kernel
theorem dX1_divide_140 : decode cX1_divide 140 = .ok (.iinc 9 (-1), 3) := by decide +kernel
theorem dX1_divide_143 : decode cX1_divide 143 = .ok (.aload_n 0, 1) := by decide +kernel
theorem dX1_divide_144 : decode cX1_divide 144 = .ok (.iload 8, 2) := by decide +kernel
theorem dX1_divide_146 : decode cX1_divide 146 = .ok (.iload 5, 2) := by decide +kernel
theorem dX1_divide_148 : decode cX1_divide 148 = .ok (.invokevirtual 50, 3) := by decide +kernel
theorem dX1_divide_151 : decode cX1_divide 151 = .ok (.aload_n 3, 1) := by decide +kernel
theorem dX1_divide_152 : decode cX1_divide 152 = .ok (.getfield 24, 3) := by decide +kernel
theorem dX1_divide_155 : decode cX1_divide 155 = .ok (.iload 8, 2) := by decide +kernel
theorem dX1_divide_157 : decode cX1_divide 157 = .ok (.iload 9, 2) := by decide +kernel
theorem dX1_divide_159 : decode cX1_divide 159 = .ok (.iastore, 1) := by decide +kernel
theorem dX1_divide_160 : decode cX1_divide 160 = .ok (.iinc 8 (-1), 3) := by decide +kernel
theorem dX1_divide_163 : decode cX1_divide 163 = .ok (.goto (-51), 3) := by decide +kernel
theorem dX1_divide_166 : decode cX1_divide 166 = .ok (.aload_n 3, 1) := by decide +kernel
theorem dX1_divide_167 : decode cX1_divide 167 = .ok (.iload 6, 2) := by decide +kernel
theorem dX1_divide_169 : decode cX1_divide 169 = .ok (.invokevirtual 54, 3) := by decide +kernel
theorem dX1_divide_172 : decode cX1_divide 172 = .ok (.aload_n 0, 1) := by decide +kernel
theorem dX1_divide_173 : decode cX1_divide 173 = .ok (.iload 5, 2) := by decide +kernel
theorem dX1_divide_175 : decode cX1_divide 175 = .ok (.iload 7, 2) := by decide +kernel
theorem dX1_divide_177 : decode cX1_divide 177 = .ok (.aload 4, 2) := by decide +kernel
theorem dX1_divide_179 : decode cX1_divide 179 = .ok (.getfield 24, 3) := by decide +kernel
theorem dX1_divide_182 : decode cX1_divide 182 = .ok (.invokevirtual 58, 3) := by decide +kernel
theorem dX1_divide_185 : decode cX1_divide 185 = .ok (.aload 4, 2) := by decide +kernel
theorem dX1_divide_187 : decode cX1_divide 187 = .ok (.iload 5, 2) := by decide +kernel
theorem dX1_divide_189 : decode cX1_divide 189 = .ok (.invokevirtual 54, 3) := by decide +kernel
theorem dX1_divide_192 : decode cX1_divide 192 = .ok (.return_, 1) := by decide +kernel
theorem dX1_shiftUp_0 : decode cX1_shiftUp 0 = .ok (.aload_n 0, 1) := by decide +kernel
theorem dX1_shiftUp_1 : decode cX1_shiftUp 1 = .ok (.getfield 18, 3) := by decide +kernel
theorem dX1_shiftUp_4 : decode cX1_shiftUp 4 = .ok (.aload_n 2, 1) := by decide +kernel
theorem dX1_shiftUp_5 : decode cX1_shiftUp 5 = .ok (.arraylength, 1) := by decide +kernel
theorem dX1_shiftUp_6 : decode cX1_shiftUp 6 = .ok (.if_icmp .lt 4, 3) := by decide +kernel
theorem dX1_shiftUp_9 : decode cX1_shiftUp 9 = .ok (.return_, 1) := by decide +kernel
theorem dX1_shiftUp_10 : decode cX1_shiftUp 10 = .ok (.lconst 0, 1) := by decide +kernel
theorem dX1_shiftUp_11 : decode cX1_shiftUp 11 = .ok (.lstore_n 3, 1) := by decide +kernel
theorem dX1_shiftUp_12 : decode cX1_shiftUp 12 = .ok (.iconst 0, 1) := by decide +kernel
theorem dX1_shiftUp_13 : decode cX1_shiftUp 13 = .ok (.istore 5, 2) := by decide +kernel
theorem dX1_shiftUp_15 : decode cX1_shiftUp 15 = .ok (.iload 5, 2) := by decide +kernel
theorem dX1_shiftUp_17 : decode cX1_shiftUp 17 = .ok (.aload_n 0, 1) := by decide +kernel
theorem dX1_shiftUp_18 : decode cX1_shiftUp 18 = .ok (.getfield 18, 3) := by decide +kernel
theorem dX1_shiftUp_21 : decode cX1_shiftUp 21 = .ok (.if_icmp .ge 37, 3) := by decide +kernel
theorem dX1_shiftUp_24 : decode cX1_shiftUp 24 = .ok (.lload_n 3, 1) := by decide +kernel
theorem dX1_shiftUp_25 : decode cX1_shiftUp 25 = .ok (.aload_n 0, 1) := by decide +kernel
theorem dX1_shiftUp_26 : decode cX1_shiftUp 26 = .ok (.getfield 24, 3) := by decide +kernel
theorem dX1_shiftUp_29 : decode cX1_shiftUp 29 = .ok (.iload 5, 2) := by decide +kernel
theorem dX1_shiftUp_31 : decode cX1_shiftUp 31 = .ok (.iaload, 1) := by decide +kernel
theorem dX1_shiftUp_32 : decode cX1_shiftUp 32 = .ok (.i2l, 1) := by decide +kernel
theorem dX1_shiftUp_33 : decode cX1_shiftUp 33 = .ok (.iload_n 1, 1) := by decide +kernel
theorem dX1_shiftUp_34 : decode cX1_shiftUp 34 = .ok (.lshl, 1) := by decide +kernel
theorem dX1_shiftUp_35 : decode cX1_shiftUp 35 = .ok (.lor, 1) := by decide +kernel
theorem dX1_shiftUp_36 : decode cX1_shiftUp 36 = .ok (.lstore_n 3, 1) := by decide +kernel
theorem dX1_shiftUp_37 : decode cX1_shiftUp 37 = .ok (.aload_n 2, 1) := by decide +kernel
theorem dX1_shiftUp_38 : decode cX1_shiftUp 38 = .ok (.iload 5, 2) := by decide +kernel
theorem dX1_shiftUp_40 : decode cX1_shiftUp 40 = .ok (.lload_n 3, 1) := by decide +kernel
theorem dX1_shiftUp_41 : decode cX1_shiftUp 41 = .ok (.ldc2_w 62, 3) := by decide +kernel
theorem dX1_shiftUp_44 : decode cX1_shiftUp 44 = .ok (.land, 1) := by decide +kernel
theorem dX1_shiftUp_45 : decode cX1_shiftUp 45 = .ok (.l2i, 1) := by decide +kernel
theorem dX1_shiftUp_46 : decode cX1_shiftUp 46 = .ok (.iastore, 1) := by decide +kernel
theorem dX1_shiftUp_47 : decode cX1_shiftUp 47 = .ok (.lload_n 3, 1) := by decide +kernel
theorem dX1_shiftUp_48 : decode cX1_shiftUp 48 = .ok (.bipush 31, 2) := by decide +kernel
theorem dX1_shiftUp_50 : decode cX1_shiftUp 50 = .ok (.lshr, 1) := by decide +kernel
theorem dX1_shiftUp_51 : decode cX1_shiftUp 51 = .ok (.lstore_n 3, 1) := by decide +kernel
theorem dX1_shiftUp_52 : decode cX1_shiftUp 52 = .ok (.iinc 5 1, 3) := by decide +kernel
theorem dX1_shiftUp_55 : decode cX1_shiftUp 55 = .ok (.goto (-40), 3) := by decide +kernel
theorem dX1_shiftUp_58 : decode cX1_shiftUp 58 = .ok (.aload_n 2, 1) := by decide +kernel
theorem dX1_shiftUp_59 : decode cX1_shiftUp 59 = .ok (.aload_n 0, 1) := by decide +kernel
theorem dX1_shiftUp_60 : decode cX1_shiftUp 60 = .ok (.getfield 18, 3) := by decide +kernel
theorem dX1_shiftUp_63 : decode cX1_shiftUp 63 = .ok (.lload_n 3, 1) := by decide +kernel
theorem dX1_shiftUp_64 : decode cX1_shiftUp 64 = .ok (.l2i, 1) := by decide +kernel
theorem dX1_shiftUp_65 : decode cX1_shiftUp 65 = .ok (.iastore, 1) := by decide +kernel
theorem dX1_shiftUp_66 : decode cX1_shiftUp 66 = .ok (.return_, 1) := by decide +kernel
theorem dX1_shiftDown_0 : decode cX1_shiftDown 0 = .ok (.iconst 0, 1) := by decide +kernel
theorem dX1_shiftDown_1 : decode cX1_shiftDown 1 = .ok (.istore 4, 2) := by decide +kernel
theorem dX1_shiftDown_3 : decode cX1_shiftDown 3 = .ok (.iload 4, 2) := by decide +kernel
theorem dX1_shiftDown_5 : decode cX1_shiftDown 5 = .ok (.iload_n 1, 1) := by decide +kernel
theorem dX1_shiftDown_6 : decode cX1_shiftDown 6 = .ok (.if_icmp .ge 64, 3) := by decide +kernel
theorem dX1_shiftDown_9 : decode cX1_shiftDown 9 = .ok (.iload 4, 2) := by decide +kernel
theorem dX1_shiftDown_11 : decode cX1_shiftDown 11 = .ok (.aload_n 3, 1) := by decide +kernel
theorem dX1_shiftDown_12 : decode cX1_shiftDown 12 = .ok (.arraylength, 1) := by decide +kernel
theorem dX1_shiftDown_13 : decode cX1_shiftDown 13 = .ok (.if_icmp .ge 57, 3) := by decide +kernel
theorem dX1_shiftDown_16 : decode cX1_shiftDown 16 = .ok (.iload 4, 2) := by decide +kernel
theorem dX1_shiftDown_18 : decode cX1_shiftDown 18 = .ok (.iconst 1, 1) := by decide +kernel
theorem dX1_shiftDown_19 : decode cX1_shiftDown 19 = .ok (.iadd, 1) := by decide +kernel
theorem dX1_shiftDown_20 : decode cX1_shiftDown 20 = .ok (.iload_n 1, 1) := by decide +kernel
theorem dX1_shiftDown_21 : decode cX1_shiftDown 21 = .ok (.if_icmp .ge 16, 3) := by decide +kernel
theorem dX1_shiftDown_24 : decode cX1_shiftDown 24 = .ok (.aload_n 0, 1) := by decide +kernel
theorem dX1_shiftDown_25 : decode cX1_shiftDown 25 = .ok (.getfield 9, 3) := by decide +kernel
theorem dX1_shiftDown_28 : decode cX1_shiftDown 28 = .ok (.iload 4, 2) := by decide +kernel
theorem dX1_shiftDown_30 : decode cX1_shiftDown 30 = .ok (.iconst 1, 1) := by decide +kernel
theorem dX1_shiftDown_31 : decode cX1_shiftDown 31 = .ok (.iadd, 1) := by decide +kernel
theorem dX1_shiftDown_32 : decode cX1_shiftDown 32 = .ok (.iaload, 1) := by decide +kernel
theorem dX1_shiftDown_33 : decode cX1_shiftDown 33 = .ok (.i2l, 1) := by decide +kernel
theorem dX1_shiftDown_34 : decode cX1_shiftDown 34 = .ok (.goto 4, 3) := by decide +kernel
theorem dX1_shiftDown_37 : decode cX1_shiftDown 37 = .ok (.lconst 0, 1) := by decide +kernel
theorem dX1_shiftDown_38 : decode cX1_shiftDown 38 = .ok (.lstore 5, 2) := by decide +kernel
theorem dX1_shiftDown_40 : decode cX1_shiftDown 40 = .ok (.aload_n 3, 1) := by decide +kernel
theorem dX1_shiftDown_41 : decode cX1_shiftDown 41 = .ok (.iload 4, 2) := by decide +kernel
theorem dX1_shiftDown_43 : decode cX1_shiftDown 43 = .ok (.lload 5, 2) := by decide +kernel
theorem dX1_shiftDown_45 : decode cX1_shiftDown 45 = .ok (.bipush 31, 2) := by decide +kernel
theorem dX1_shiftDown_47 : decode cX1_shiftDown 47 = .ok (.lshl, 1) := by decide +kernel
theorem dX1_shiftDown_48 : decode cX1_shiftDown 48 = .ok (.aload_n 0, 1) := by decide +kernel
theorem dX1_shiftDown_49 : decode cX1_shiftDown 49 = .ok (.getfield 9, 3) := by decide +kernel
theorem dX1_shiftDown_52 : decode cX1_shiftDown 52 = .ok (.iload 4, 2) := by decide +kernel
theorem dX1_shiftDown_54 : decode cX1_shiftDown 54 = .ok (.iaload, 1) := by decide +kernel
theorem dX1_shiftDown_55 : decode cX1_shiftDown 55 = .ok (.i2l, 1) := by decide +kernel
theorem dX1_shiftDown_56 : decode cX1_shiftDown 56 = .ok (.lor, 1) := by decide +kernel
theorem dX1_shiftDown_57 : decode cX1_shiftDown 57 = .ok (.iload_n 2, 1) := by decide +kernel
theorem dX1_shiftDown_58 : decode cX1_shiftDown 58 = .ok (.lushr, 1) := by decide +kernel
theorem dX1_shiftDown_59 : decode cX1_shiftDown 59 = .ok (.l2i, 1) := by decide +kernel
theorem dX1_shiftDown_60 : decode cX1_shiftDown 60 = .ok (.ldc 64, 2) := by decide +kernel
theorem dX1_shiftDown_62 : decode cX1_shiftDown 62 = .ok (.iand, 1) := by decide +kernel
theorem dX1_shiftDown_63 : decode cX1_shiftDown 63 = .ok (.iastore, 1) := by decide +kernel
theorem dX1_shiftDown_64 : decode cX1_shiftDown 64 = .ok (.iinc 4 1, 3) := by decide +kernel
theorem dX1_shiftDown_67 : decode cX1_shiftDown 67 = .ok (.goto (-64), 3) := by decide +kernel
theorem dX1_shiftDown_70 : decode cX1_shiftDown 70 = .ok (.return_, 1) := by decide +kernel
theorem dX1_guessDigit_0 : decode cX1_guessDigit 0 = .ok (.iload_n 1, 1) := by decide +kernel
theorem dX1_guessDigit_1 : decode cX1_guessDigit 1 = .ok (.iload_n 2, 1) := by decide +kernel
theorem dX1_guessDigit_2 : decode cX1_guessDigit 2 = .ok (.iadd, 1) := by decide +kernel
theorem dX1_guessDigit_3 : decode cX1_guessDigit 3 = .ok (.istore_n 3, 1) := by decide +kernel
theorem dX1_guessDigit_4 : decode cX1_guessDigit 4 = .ok (.iload_n 1, 1) := by decide +kernel
theorem dX1_guessDigit_5 : decode cX1_guessDigit 5 = .ok (.ifCond .lt 28, 3) := by decide +kernel
theorem dX1_guessDigit_8 : decode cX1_guessDigit 8 = .ok (.iload_n 2, 1) := by decide +kernel
theorem dX1_guessDigit_9 : decode cX1_guessDigit 9 = .ok (.iconst 1, 1) := by decide +kernel
theorem dX1_guessDigit_10 : decode cX1_guessDigit 10 = .ok (.if_icmp .lt 23, 3) := by decide +kernel
theorem dX1_guessDigit_13 : decode cX1_guessDigit 13 = .ok (.iload_n 3, 1) := by decide +kernel
theorem dX1_guessDigit_14 : decode cX1_guessDigit 14 = .ok (.aload_n 0, 1) := by decide +kernel
theorem dX1_guessDigit_15 : decode cX1_guessDigit 15 = .ok (.getfield 9, 3) := by decide +kernel
theorem dX1_guessDigit_18 : decode cX1_guessDigit 18 = .ok (.arraylength, 1) := by decide +kernel
theorem dX1_guessDigit_19 : decode cX1_guessDigit 19 = .ok (.if_icmp .ge 14, 3) := by decide +kernel
theorem dX1_guessDigit_22 : decode cX1_guessDigit 22 = .ok (.aload_n 0, 1) := by decide +kernel
theorem dX1_guessDigit_23 : decode cX1_guessDigit 23 = .ok (.getfield 15, 3) := by decide +kernel
theorem dX1_guessDigit_26 : decode cX1_guessDigit 26 = .ok (.iload_n 2, 1) := by decide +kernel
theorem dX1_guessDigit_27 : decode cX1_guessDigit 27 = .ok (.iconst 1, 1) := by decide +kernel
theorem dX1_guessDigit_28 : decode cX1_guessDigit 28 = .ok (.isub, 1) := by decide +kernel
theorem dX1_guessDigit_29 : decode cX1_guessDigit 29 = .ok (.iaload, 1) := by decide +kernel
theorem dX1_guessDigit_30 : decode cX1_guessDigit 30 = .ok (.ifCond .ne 5, 3) := by decide +kernel
theorem dX1_guessDigit_33 : decode cX1_guessDigit 33 = .ok (.iconst 0, 1) := by decide +kernel
theorem dX1_guessDigit_34 : decode cX1_guessDigit 34 = .ok (.ireturn, 1) := by decide +kernel
theorem dX1_guessDigit_35 : decode cX1_guessDigit 35 = .ok (.aload_n 0, 1) := by decide +kernel
theorem dX1_guessDigit_36 : decode cX1_guessDigit 36 = .ok (.getfield 15, 3) := by decide +kernel
theorem dX1_guessDigit_39 : decode cX1_guessDigit 39 = .ok (.iload_n 2, 1) := by decide +kernel
theorem dX1_guessDigit_40 : decode cX1_guessDigit 40 = .ok (.iconst 1, 1) := by decide +kernel
theorem dX1_guessDigit_41 : decode cX1_guessDigit 41 = .ok (.isub, 1) := by decide +kernel
theorem dX1_guessDigit_42 : decode cX1_guessDigit 42 = .ok (.iaload, 1) := by decide +kernel
theorem dX1_guessDigit_43 : decode cX1_guessDigit 43 = .ok (.i2l, 1) := by decide +kernel
theorem dX1_guessDigit_44 : decode cX1_guessDigit 44 = .ok (.lstore 4, 2) := by decide +kernel
theorem dX1_guessDigit_46 : decode cX1_guessDigit 46 = .ok (.iload_n 2, 1) := by decide +kernel
theorem dX1_guessDigit_47 : decode cX1_guessDigit 47 = .ok (.iconst 1, 1) := by decide +kernel
theorem dX1_guessDigit_48 : decode cX1_guessDigit 48 = .ok (.if_icmp .le 15, 3) := by decide +kernel
theorem dX1_guessDigit_51 : decode cX1_guessDigit 51 = .ok (.aload_n 0, 1) := by decide +kernel
theorem dX1_guessDigit_52 : decode cX1_guessDigit 52 = .ok (.getfield 15, 3) := by decide +kernel
theorem dX1_guessDigit_55 : decode cX1_guessDigit 55 = .ok (.iload_n 2, 1) := by decide +kernel
theorem dX1_guessDigit_56 : decode cX1_guessDigit 56 = .ok (.iconst 2, 1) := by decide +kernel
theorem dX1_guessDigit_57 : decode cX1_guessDigit 57 = .ok (.isub, 1) := by decide +kernel
theorem dX1_guessDigit_58 : decode cX1_guessDigit 58 = .ok (.iaload, 1) := by decide +kernel
theorem dX1_guessDigit_59 : decode cX1_guessDigit 59 = .ok (.i2l, 1) := by decide +kernel
theorem dX1_guessDigit_60 : decode cX1_guessDigit 60 = .ok (.goto 4, 3) := by decide +kernel
theorem dX1_guessDigit_63 : decode cX1_guessDigit 63 = .ok (.lconst 0, 1) := by decide +kernel
theorem dX1_guessDigit_64 : decode cX1_guessDigit 64 = .ok (.lstore 6, 2) := by decide +kernel
theorem dX1_guessDigit_66 : decode cX1_guessDigit 66 = .ok (.iload_n 2, 1) := by decide +kernel
theorem dX1_guessDigit_67 : decode cX1_guessDigit 67 = .ok (.iconst 1, 1) := by decide +kernel
theorem dX1_guessDigit_68 : decode cX1_guessDigit 68 = .ok (.if_icmp .le 15, 3) := by decide +kernel
theorem dX1_guessDigit_71 : decode cX1_guessDigit 71 = .ok (.aload_n 0, 1) := by decide +kernel
theorem dX1_guessDigit_72 : decode cX1_guessDigit 72 = .ok (.getfield 9, 3) := by decide +kernel
theorem dX1_guessDigit_75 : decode cX1_guessDigit 75 = .ok (.iload_n 3, 1) := by decide +kernel
theorem dX1_guessDigit_76 : decode cX1_guessDigit 76 = .ok (.iconst 2, 1) := by decide +kernel
theorem dX1_guessDigit_77 : decode cX1_guessDigit 77 = .ok (.isub, 1) := by decide +kernel
theorem dX1_guessDigit_78 : decode cX1_guessDigit 78 = .ok (.iaload, 1) := by decide +kernel
theorem dX1_guessDigit_79 : decode cX1_guessDigit 79 = .ok (.i2l, 1) := by decide +kernel
theorem dX1_guessDigit_80 : decode cX1_guessDigit 80 = .ok (.goto 4, 3) := by decide +kernel
theorem dX1_guessDigit_83 : decode cX1_guessDigit 83 = .ok (.lconst 0, 1) := by decide +kernel
theorem dX1_guessDigit_84 : decode cX1_guessDigit 84 = .ok (.lstore 8, 2) := by decide +kernel
theorem dX1_guessDigit_86 : decode cX1_guessDigit 86 = .ok (.aload_n 0, 1) := by decide +kernel
theorem dX1_guessDigit_87 : decode cX1_guessDigit 87 = .ok (.getfield 9, 3) := by decide +kernel
theorem dX1_guessDigit_90 : decode cX1_guessDigit 90 = .ok (.iload_n 3, 1) := by decide +kernel
theorem dX1_guessDigit_91 : decode cX1_guessDigit 91 = .ok (.iaload, 1) := by decide +kernel
theorem dX1_guessDigit_92 : decode cX1_guessDigit 92 = .ok (.i2l, 1) := by decide +kernel
theorem dX1_guessDigit_93 : decode cX1_guessDigit 93 = .ok (.bipush 31, 2) := by decide +kernel
theorem dX1_guessDigit_95 : decode cX1_guessDigit 95 = .ok (.lshl, 1) := by decide +kernel
theorem dX1_guessDigit_96 : decode cX1_guessDigit 96 = .ok (.aload_n 0, 1) := by decide +kernel
theorem dX1_guessDigit_97 : decode cX1_guessDigit 97 = .ok (.getfield 9, 3) := by decide +kernel
theorem dX1_guessDigit_100 : decode cX1_guessDigit 100 = .ok (.iload_n 3, 1) := by decide +kernel
theorem dX1_guessDigit_101 : decode cX1_guessDigit 101 = .ok (.iconst 1, 1) := by decide +kernel
theorem dX1_guessDigit_102 : decode cX1_guessDigit 102 = .ok (.isub, 1) := by decide +kernel
theorem dX1_guessDigit_103 : decode cX1_guessDigit 103 = .ok (.iaload, 1) := by decide +kernel
theorem dX1_guessDigit_104 : decode cX1_guessDigit 104 = .ok (.i2l, 1) := by decide +kernel
theorem dX1_guessDigit_105 : decode cX1_guessDigit 105 = .ok (.lor, 1) := by decide +kernel
theorem dX1_guessDigit_106 : decode cX1_guessDigit 106 = .ok (.lstore 10, 2) := by decide +kernel
theorem dX1_guessDigit_108 : decode cX1_guessDigit 108 = .ok (.lload 10, 2) := by decide +kernel
theorem dX1_guessDigit_110 : decode cX1_guessDigit 110 = .ok (.lload 4, 2) := by decide +kernel
theorem dX1_guessDigit_112 : decode cX1_guessDigit 112 = .ok (.ldiv, 1) := by decide +kernel
theorem dX1_guessDigit_113 : decode cX1_guessDigit 113 = .ok (.lstore 12, 2) := by decide +kernel
theorem dX1_guessDigit_115 : decode cX1_guessDigit 115 = .ok (.lload 10, 2) := by decide +kernel
theorem dX1_guessDigit_117 : decode cX1_guessDigit 117 = .ok (.lload 12, 2) := by decide +kernel
theorem dX1_guessDigit_119 : decode cX1_guessDigit 119 = .ok (.lload 4, 2) := by decide +kernel
theorem dX1_guessDigit_121 : decode cX1_guessDigit 121 = .ok (.lmul, 1) := by decide +kernel
theorem dX1_guessDigit_122 : decode cX1_guessDigit 122 = .ok (.lsub, 1) := by decide +kernel
theorem dX1_guessDigit_123 : decode cX1_guessDigit 123 = .ok (.lstore 14, 2) := by decide +kernel
theorem dX1_guessDigit_125 : decode cX1_guessDigit 125 = .ok (.iconst 0, 1) := by decide +kernel
theorem dX1_guessDigit_126 : decode cX1_guessDigit 126 = .ok (.istore 16, 2) := by decide +kernel
theorem dX1_guessDigit_128 : decode cX1_guessDigit 128 = .ok (.iload 16, 2) := by decide +kernel
theorem dX1_guessDigit_130 : decode cX1_guessDigit 130 = .ok (.iconst 2, 1) := by decide +kernel
theorem dX1_guessDigit_131 : decode cX1_guessDigit 131 = .ok (.if_icmp .ge 60, 3) := by decide +kernel
theorem dX1_guessDigit_134 : decode cX1_guessDigit 134 = .ok (.lload 14, 2) := by decide +kernel
theorem dX1_guessDigit_136 : decode cX1_guessDigit 136 = .ok (.ldc2_w 62, 3) := by decide +kernel
theorem dX1_guessDigit_139 : decode cX1_guessDigit 139 = .ok (.lcmp, 1) := by decide +kernel
theorem dX1_guessDigit_140 : decode cX1_guessDigit 140 = .ok (.ifCond .gt 51, 3) := by decide +kernel
theorem dX1_guessDigit_143 : decode cX1_guessDigit 143 = .ok (.lload 12, 2) := by decide +kernel
theorem dX1_guessDigit_145 : decode cX1_guessDigit 145 = .ok (.ldc2_w 62, 3) := by decide +kernel
theorem dX1_guessDigit_148 : decode cX1_guessDigit 148 = .ok (.lcmp, 1) := by decide +kernel
theorem dX1_guessDigit_149 : decode cX1_guessDigit 149 = .ok (.ifCond .gt 23, 3) := by decide +kernel
theorem dX1_guessDigit_152 : decode cX1_guessDigit 152 = .ok (.lload 12, 2) := by decide +kernel
theorem dX1_guessDigit_154 : decode cX1_guessDigit 154 = .ok (.lload 6, 2) := by decide +kernel
theorem dX1_guessDigit_156 : decode cX1_guessDigit 156 = .ok (.lmul, 1) := by decide +kernel
theorem dX1_guessDigit_157 : decode cX1_guessDigit 157 = .ok (.lload 14, 2) := by decide +kernel
theorem dX1_guessDigit_159 : decode cX1_guessDigit 159 = .ok (.bipush 31, 2) := by decide +kernel
theorem dX1_guessDigit_161 : decode cX1_guessDigit 161 = .ok (.lshl, 1) := by decide +kernel
theorem dX1_guessDigit_162 : decode cX1_guessDigit 162 = .ok (.lload 8, 2) := by decide +kernel
theorem dX1_guessDigit_164 : decode cX1_guessDigit 164 = .ok (.lor, 1) := by decide +kernel
theorem dX1_guessDigit_165 : decode cX1_guessDigit 165 = .ok (.lcmp, 1) := by decide +kernel
theorem dX1_guessDigit_166 : decode cX1_guessDigit 166 = .ok (.ifCond .gt 6, 3) := by decide +kernel
theorem dX1_guessDigit_169 : decode cX1_guessDigit 169 = .ok (.goto 22, 3) := by decide +kernel
theorem dX1_guessDigit_172 : decode cX1_guessDigit 172 = .ok (.lload 12, 2) := by decide +kernel
theorem dX1_guessDigit_174 : decode cX1_guessDigit 174 = .ok (.lconst 1, 1) := by decide +kernel
theorem dX1_guessDigit_175 : decode cX1_guessDigit 175 = .ok (.lsub, 1) := by decide +kernel
theorem dX1_guessDigit_176 : decode cX1_guessDigit 176 = .ok (.lstore 12, 2) := by decide +kernel
theorem dX1_guessDigit_178 : decode cX1_guessDigit 178 = .ok (.lload 14, 2) := by decide +kernel
theorem dX1_guessDigit_180 : decode cX1_guessDigit 180 = .ok (.lload 4, 2) := by decide +kernel
theorem dX1_guessDigit_182 : decode cX1_guessDigit 182 = .ok (.ladd, 1) := by decide +kernel
theorem dX1_guessDigit_183 : decode cX1_guessDigit 183 = .ok (.lstore 14, 2) := by decide +kernel
theorem dX1_guessDigit_185 : decode cX1_guessDigit 185 = .ok (.iinc 16 1, 3) := by decide +kernel
theorem dX1_guessDigit_188 : decode cX1_guessDigit 188 = .ok (.goto (-60), 3) := by decide +kernel
theorem dX1_guessDigit_191 : decode cX1_guessDigit 191 = .ok (.lload 12, 2) := by decide +kernel
theorem dX1_guessDigit_193 : decode cX1_guessDigit 193 = .ok (.l2i, 1) := by decide +kernel
theorem dX1_guessDigit_194 : decode cX1_guessDigit 194 = .ok (.ireturn, 1) := by decide +kernel
theorem dX1_takeTimes_0 : decode cX1_takeTimes 0 = .ok (.iload_n 1, 1) := by decide +kernel
theorem dX1_takeTimes_1 : decode cX1_takeTimes 1 = .ok (.i2l, 1) := by decide +kernel
theorem dX1_takeTimes_2 : decode cX1_takeTimes 2 = .ok (.lstore 4, 2) := by decide +kernel
theorem dX1_takeTimes_4 : decode cX1_takeTimes 4 = .ok (.lconst 0, 1) := by decide +kernel
theorem dX1_takeTimes_5 : decode cX1_takeTimes 5 = .ok (.lstore 6, 2) := by decide +kernel
theorem dX1_takeTimes_7 : decode cX1_takeTimes 7 = .ok (.iconst 0, 1) := by decide +kernel
theorem dX1_takeTimes_8 : decode cX1_takeTimes 8 = .ok (.istore 8, 2) := by decide +kernel
theorem dX1_takeTimes_10 : decode cX1_takeTimes 10 = .ok (.iload 8, 2) := by decide +kernel
theorem dX1_takeTimes_12 : decode cX1_takeTimes 12 = .ok (.iload_n 3, 1) := by decide +kernel
theorem dX1_takeTimes_13 : decode cX1_takeTimes 13 = .ok (.if_icmp .ge 59, 3) := by decide +kernel
theorem dX1_takeTimes_16 : decode cX1_takeTimes 16 = .ok (.lload 6, 2) := by decide +kernel
theorem dX1_takeTimes_18 : decode cX1_takeTimes 18 = .ok (.aload_n 0, 1) := by decide +kernel
theorem dX1_takeTimes_19 : decode cX1_takeTimes 19 = .ok (.getfield 9, 3) := by decide +kernel
theorem dX1_takeTimes_22 : decode cX1_takeTimes 22 = .ok (.iload_n 2, 1) := by decide +kernel
theorem dX1_takeTimes_23 : decode cX1_takeTimes 23 = .ok (.iload 8, 2) := by decide +kernel
theorem dX1_takeTimes_25 : decode cX1_takeTimes 25 = .ok (.iadd, 1) := by decide +kernel
theorem dX1_takeTimes_26 : decode cX1_takeTimes 26 = .ok (.iaload, 1) := by decide +kernel
theorem dX1_takeTimes_27 : decode cX1_takeTimes 27 = .ok (.i2l, 1) := by decide +kernel
theorem dX1_takeTimes_28 : decode cX1_takeTimes 28 = .ok (.lload 4, 2) := by decide +kernel
theorem dX1_takeTimes_30 : decode cX1_takeTimes 30 = .ok (.aload_n 0, 1) := by decide +kernel
theorem dX1_takeTimes_31 : decode cX1_takeTimes 31 = .ok (.getfield 15, 3) := by decide +kernel
theorem dX1_takeTimes_34 : decode cX1_takeTimes 34 = .ok (.iload 8, 2) := by decide +kernel
theorem dX1_takeTimes_36 : decode cX1_takeTimes 36 = .ok (.iaload, 1) := by decide +kernel
theorem dX1_takeTimes_37 : decode cX1_takeTimes 37 = .ok (.i2l, 1) := by decide +kernel
theorem dX1_takeTimes_38 : decode cX1_takeTimes 38 = .ok (.lmul, 1) := by decide +kernel
theorem dX1_takeTimes_39 : decode cX1_takeTimes 39 = .ok (.lsub, 1) := by decide +kernel
theorem dX1_takeTimes_40 : decode cX1_takeTimes 40 = .ok (.ladd, 1) := by decide +kernel
theorem dX1_takeTimes_41 : decode cX1_takeTimes 41 = .ok (.lstore 6, 2) := by decide +kernel
theorem dX1_takeTimes_43 : decode cX1_takeTimes 43 = .ok (.aload_n 0, 1) := by decide +kernel
theorem dX1_takeTimes_44 : decode cX1_takeTimes 44 = .ok (.getfield 9, 3) := by decide +kernel
theorem dX1_takeTimes_47 : decode cX1_takeTimes 47 = .ok (.iload_n 2, 1) := by decide +kernel
theorem dX1_takeTimes_48 : decode cX1_takeTimes 48 = .ok (.iload 8, 2) := by decide +kernel
theorem dX1_takeTimes_50 : decode cX1_takeTimes 50 = .ok (.iadd, 1) := by decide +kernel
theorem dX1_takeTimes_51 : decode cX1_takeTimes 51 = .ok (.lload 6, 2) := by decide +kernel
theorem dX1_takeTimes_53 : decode cX1_takeTimes 53 = .ok (.ldc2_w 62, 3) := by decide +kernel
theorem dX1_takeTimes_56 : decode cX1_takeTimes 56 = .ok (.land, 1) := by decide +kernel
theorem dX1_takeTimes_57 : decode cX1_takeTimes 57 = .ok (.l2i, 1) := by decide +kernel
theorem dX1_takeTimes_58 : decode cX1_takeTimes 58 = .ok (.iastore, 1) := by decide +kernel
theorem dX1_takeTimes_59 : decode cX1_takeTimes 59 = .ok (.lload 6, 2) := by decide +kernel
theorem dX1_takeTimes_61 : decode cX1_takeTimes 61 = .ok (.bipush 31, 2) := by decide +kernel
theorem dX1_takeTimes_63 : decode cX1_takeTimes 63 = .ok (.lshr, 1) := by decide +kernel
theorem dX1_takeTimes_64 : decode cX1_takeTimes 64 = .ok (.lstore 6, 2) := by decide +kernel
theorem dX1_takeTimes_66 : decode cX1_takeTimes 66 = .ok (.iinc 8 1, 3) := by decide +kernel
theorem dX1_takeTimes_69 : decode cX1_takeTimes 69 = .ok (.goto (-59), 3) := by decide +kernel
theorem dX1_takeTimes_72 : decode cX1_takeTimes 72 = .ok (.lload 6, 2) := by decide +kernel
theorem dX1_takeTimes_74 : decode cX1_takeTimes 74 = .ok (.aload_n 0, 1) := by decide +kernel
theorem dX1_takeTimes_75 : decode cX1_takeTimes 75 = .ok (.getfield 9, 3) := by decide +kernel
theorem dX1_takeTimes_78 : decode cX1_takeTimes 78 = .ok (.iload_n 2, 1) := by decide +kernel
theorem dX1_takeTimes_79 : decode cX1_takeTimes 79 = .ok (.iload_n 3, 1) := by decide +kernel
theorem dX1_takeTimes_80 : decode cX1_takeTimes 80 = .ok (.iadd, 1) := by decide +kernel
theorem dX1_takeTimes_81 : decode cX1_takeTimes 81 = .ok (.iaload, 1) := by decide +kernel
theorem dX1_takeTimes_82 : decode cX1_takeTimes 82 = .ok (.i2l, 1) := by decide +kernel
theorem dX1_takeTimes_83 : decode cX1_takeTimes 83 = .ok (.ladd, 1) := by decide +kernel
theorem dX1_takeTimes_84 : decode cX1_takeTimes 84 = .ok (.lstore 6, 2) := by decide +kernel
theorem dX1_takeTimes_86 : decode cX1_takeTimes 86 = .ok (.aload_n 0, 1) := by decide +kernel
theorem dX1_takeTimes_87 : decode cX1_takeTimes 87 = .ok (.getfield 9, 3) := by decide +kernel
theorem dX1_takeTimes_90 : decode cX1_takeTimes 90 = .ok (.iload_n 2, 1) := by decide +kernel
theorem dX1_takeTimes_91 : decode cX1_takeTimes 91 = .ok (.iload_n 3, 1) := by decide +kernel
theorem dX1_takeTimes_92 : decode cX1_takeTimes 92 = .ok (.iadd, 1) := by decide +kernel
theorem dX1_takeTimes_93 : decode cX1_takeTimes 93 = .ok (.lload 6, 2) := by decide +kernel
theorem dX1_takeTimes_95 : decode cX1_takeTimes 95 = .ok (.ldc2_w 62, 3) := by decide +kernel
theorem dX1_takeTimes_98 : decode cX1_takeTimes 98 = .ok (.land, 1) := by decide +kernel
theorem dX1_takeTimes_99 : decode cX1_takeTimes 99 = .ok (.l2i, 1) := by decide +kernel
theorem dX1_takeTimes_100 : decode cX1_takeTimes 100 = .ok (.iastore, 1) := by decide +kernel
theorem dX1_takeTimes_101 : decode cX1_takeTimes 101 = .ok (.lload 6, 2) := by decide +kernel
theorem dX1_takeTimes_103 : decode cX1_takeTimes 103 = .ok (.lconst 0, 1) := by decide +kernel
theorem dX1_takeTimes_104 : decode cX1_takeTimes 104 = .ok (.lcmp, 1) := by decide +kernel
theorem dX1_takeTimes_105 : decode cX1_takeTimes 105 = .ok (.ifCond .ge 7, 3) := by decide +kernel
theorem dX1_takeTimes_108 : decode cX1_takeTimes 108 = .ok (.iconst 1, 1) := by decide +kernel
theorem dX1_takeTimes_109 : decode cX1_takeTimes 109 = .ok (.goto 4, 3) := by decide +kernel
theorem dX1_takeTimes_112 : decode cX1_takeTimes 112 = .ok (.iconst 0, 1) := by decide +kernel
theorem dX1_takeTimes_113 : decode cX1_takeTimes 113 = .ok (.ireturn, 1) := by decide +kernel
theorem dX1_giveBack_0 : decode cX1_giveBack 0 = .ok (.lconst 0, 1) := by decide +kernel
theorem dX1_giveBack_1 : decode cX1_giveBack 1 = .ok (.lstore_n 3, 1) := by decide +kernel
theorem dX1_giveBack_2 : decode cX1_giveBack 2 = .ok (.iconst 0, 1) := by decide +kernel
theorem dX1_giveBack_3 : decode cX1_giveBack 3 = .ok (.istore 5, 2) := by decide +kernel
theorem dX1_giveBack_5 : decode cX1_giveBack 5 = .ok (.iload 5, 2) := by decide +kernel
theorem dX1_giveBack_7 : decode cX1_giveBack 7 = .ok (.iload_n 2, 1) := by decide +kernel
theorem dX1_giveBack_8 : decode cX1_giveBack 8 = .ok (.if_icmp .ge 51, 3) := by decide +kernel
theorem dX1_giveBack_11 : decode cX1_giveBack 11 = .ok (.lload_n 3, 1) := by decide +kernel
theorem dX1_giveBack_12 : decode cX1_giveBack 12 = .ok (.aload_n 0, 1) := by decide +kernel
theorem dX1_giveBack_13 : decode cX1_giveBack 13 = .ok (.getfield 9, 3) := by decide +kernel
theorem dX1_giveBack_16 : decode cX1_giveBack 16 = .ok (.iload_n 1, 1) := by decide +kernel
theorem dX1_giveBack_17 : decode cX1_giveBack 17 = .ok (.iload 5, 2) := by decide +kernel
theorem dX1_giveBack_19 : decode cX1_giveBack 19 = .ok (.iadd, 1) := by decide +kernel
theorem dX1_giveBack_20 : decode cX1_giveBack 20 = .ok (.iaload, 1) := by decide +kernel
theorem dX1_giveBack_21 : decode cX1_giveBack 21 = .ok (.i2l, 1) := by decide +kernel
theorem dX1_giveBack_22 : decode cX1_giveBack 22 = .ok (.aload_n 0, 1) := by decide +kernel
theorem dX1_giveBack_23 : decode cX1_giveBack 23 = .ok (.getfield 15, 3) := by decide +kernel
theorem dX1_giveBack_26 : decode cX1_giveBack 26 = .ok (.iload 5, 2) := by decide +kernel
theorem dX1_giveBack_28 : decode cX1_giveBack 28 = .ok (.iaload, 1) := by decide +kernel
theorem dX1_giveBack_29 : decode cX1_giveBack 29 = .ok (.i2l, 1) := by decide +kernel
theorem dX1_giveBack_30 : decode cX1_giveBack 30 = .ok (.ladd, 1) := by decide +kernel
theorem dX1_giveBack_31 : decode cX1_giveBack 31 = .ok (.ladd, 1) := by decide +kernel
theorem dX1_giveBack_32 : decode cX1_giveBack 32 = .ok (.lstore_n 3, 1) := by decide +kernel
theorem dX1_giveBack_33 : decode cX1_giveBack 33 = .ok (.aload_n 0, 1) := by decide +kernel
theorem dX1_giveBack_34 : decode cX1_giveBack 34 = .ok (.getfield 9, 3) := by decide +kernel
theorem dX1_giveBack_37 : decode cX1_giveBack 37 = .ok (.iload_n 1, 1) := by decide +kernel
theorem dX1_giveBack_38 : decode cX1_giveBack 38 = .ok (.iload 5, 2) := by decide +kernel
theorem dX1_giveBack_40 : decode cX1_giveBack 40 = .ok (.iadd, 1) := by decide +kernel
theorem dX1_giveBack_41 : decode cX1_giveBack 41 = .ok (.lload_n 3, 1) := by decide +kernel
theorem dX1_giveBack_42 : decode cX1_giveBack 42 = .ok (.ldc2_w 62, 3) := by decide +kernel
theorem dX1_giveBack_45 : decode cX1_giveBack 45 = .ok (.land, 1) := by decide +kernel
theorem dX1_giveBack_46 : decode cX1_giveBack 46 = .ok (.l2i, 1) := by decide +kernel
theorem dX1_giveBack_47 : decode cX1_giveBack 47 = .ok (.iastore, 1) := by decide +kernel
theorem dX1_giveBack_48 : decode cX1_giveBack 48 = .ok (.lload_n 3, 1) := by decide +kernel
theorem dX1_giveBack_49 : decode cX1_giveBack 49 = .ok (.bipush 31, 2) := by decide +kernel
theorem dX1_giveBack_51 : decode cX1_giveBack 51 = .ok (.lshr, 1) := by decide +kernel
theorem dX1_giveBack_52 : decode cX1_giveBack 52 = .ok (.lstore_n 3, 1) := by decide +kernel
theorem dX1_giveBack_53 : decode cX1_giveBack 53 = .ok (.iinc 5 1, 3) := by decide +kernel
theorem dX1_giveBack_56 : decode cX1_giveBack 56 = .ok (.goto (-51), 3) := by decide +kernel
theorem dX1_giveBack_59 : decode cX1_giveBack 59 = .ok (.aload_n 0, 1) := by decide +kernel
theorem dX1_giveBack_60 : decode cX1_giveBack 60 = .ok (.getfield 9, 3) := by decide +kernel
theorem dX1_giveBack_63 : decode cX1_giveBack 63 = .ok (.iload_n 1, 1) := by decide +kernel
theorem dX1_giveBack_64 : decode cX1_giveBack 64 = .ok (.iload_n 2, 1) := by decide +kernel
theorem dX1_giveBack_65 : decode cX1_giveBack 65 = .ok (.iadd, 1) := by decide +kernel
theorem dX1_giveBack_66 : decode cX1_giveBack 66 = .ok (.lload_n 3, 1) := by decide +kernel
theorem dX1_giveBack_67 : decode cX1_giveBack 67 = .ok (.aload_n 0, 1) := by decide +kernel
theorem dX1_giveBack_68 : decode cX1_giveBack 68 = .ok (.getfield 9, 3) := by decide +kernel
theorem dX1_giveBack_71 : decode cX1_giveBack 71 = .ok (.iload_n 1, 1) := by decide +kernel
theorem dX1_giveBack_72 : decode cX1_giveBack 72 = .ok (.iload_n 2, 1) := by decide +kernel
theorem dX1_giveBack_73 : decode cX1_giveBack 73 = .ok (.iadd, 1) := by decide +kernel
theorem dX1_giveBack_74 : decode cX1_giveBack 74 = .ok (.iaload, 1) := by decide +kernel
theorem dX1_giveBack_75 : decode cX1_giveBack 75 = .ok (.i2l, 1) := by decide +kernel
theorem dX1_giveBack_76 : decode cX1_giveBack 76 = .ok (.ladd, 1) := by decide +kernel
theorem dX1_giveBack_77 : decode cX1_giveBack 77 = .ok (.ldc2_w 62, 3) := by decide +kernel
theorem dX1_giveBack_80 : decode cX1_giveBack 80 = .ok (.land, 1) := by decide +kernel
theorem dX1_giveBack_81 : decode cX1_giveBack 81 = .ok (.l2i, 1) := by decide +kernel
theorem dX1_giveBack_82 : decode cX1_giveBack 82 = .ok (.iastore, 1) := by decide +kernel
theorem dX1_giveBack_83 : decode cX1_giveBack 83 = .ok (.return_, 1) := by decide +kernel
