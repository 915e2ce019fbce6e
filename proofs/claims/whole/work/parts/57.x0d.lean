theorem dX0_init_0 : decode cX0_init 0 = .ok (.aload_n 0, 1) := by decide +kernel
theorem dX0_init_1 : decode cX0_init 1 = .ok (.invokespecial 3, 3) := by decide +kernel
theorem dX0_init_4 : decode cX0_init 4 = .ok (.aload_n 0, 1) := by decide +kernel
theorem dX0_init_5 : decode cX0_init 5 = .ok (.new 9, 3) := by decide +kernel
theorem dX0_init_8 : decode cX0_init 8 = .ok (.dup, 1) := by decide +kernel
theorem dX0_init_9 : decode cX0_init 9 = .ok (.invokespecial 11, 3) := by decide +kernel
theorem dX0_init_12 : decode cX0_init 12 = .ok (.putfield 12, 3) := by decide +kernel
theorem dX0_init_15 : decode cX0_init 15 = .ok (.aload_n 0, 1) := by decide +kernel
theorem dX0_init_16 : decode cX0_init 16 = .ok (.new 18, 3) := by decide +kernel
theorem dX0_init_19 : decode cX0_init 19 = .ok (.dup, 1) := by decide +kernel
theorem dX0_init_20 : decode cX0_init 20 = .ok (.aload_n 0, 1) := by decide +kernel
theorem dX0_init_21 : decode cX0_init 21 = .ok (.getfield 12, 3) := by decide +kernel
theorem dX0_init_24 : decode cX0_init 24 = .ok (.invokespecial 20, 3) := by decide +kernel
theorem dX0_init_27 : decode cX0_init 27 = .ok (.putfield 23, 3) := by decide +kernel
theorem dX0_init_30 : decode cX0_init 30 = .ok (.aload_n 0, 1) := by decide +kernel
theorem dX0_init_31 : decode cX0_init 31 = .ok (.new 27, 3) := by decide +kernel
theorem dX0_init_34 : decode cX0_init 34 = .ok (.dup, 1) := by decide +kernel
theorem dX0_init_35 : decode cX0_init 35 = .ok (.bipush 96, 2) := by decide +kernel
theorem dX0_init_37 : decode cX0_init 37 = .ok (.invokespecial 29, 3) := by decide +kernel
theorem dX0_init_40 : decode cX0_init 40 = .ok (.putfield 32, 3) := by decide +kernel
theorem dX0_init_43 : decode cX0_init 43 = .ok (.aload_n 0, 1) := by decide +kernel
theorem dX0_init_44 : decode cX0_init 44 = .ok (.new 27, 3) := by decide +kernel
theorem dX0_init_47 : decode cX0_init 47 = .ok (.dup, 1) := by decide +kernel
theorem dX0_init_48 : decode cX0_init 48 = .ok (.bipush 96, 2) := by decide +kernel
theorem dX0_init_50 : decode cX0_init 50 = .ok (.invokespecial 29, 3) := by decide +kernel
theorem dX0_init_53 : decode cX0_init 53 = .ok (.putfield 36, 3) := by decide +kernel
theorem dX0_init_56 : decode cX0_init 56 = .ok (.aload_n 0, 1) := by decide +kernel
theorem dX0_init_57 : decode cX0_init 57 = .ok (.new 27, 3) := by decide +kernel
theorem dX0_init_60 : decode cX0_init 60 = .ok (.dup, 1) := by decide +kernel
theorem dX0_init_61 : decode cX0_init 61 = .ok (.bipush 96, 2) := by decide +kernel
theorem dX0_init_63 : decode cX0_init 63 = .ok (.invokespecial 29, 3) := by decide +kernel
theorem dX0_init_66 : decode cX0_init 66 = .ok (.putfield 39, 3) := by decide +kernel
theorem dX0_init_69 : decode cX0_init 69 = .ok (.aload_n 0, 1) := by decide +kernel
theorem dX0_init_70 : decode cX0_init 70 = .ok (.new 27, 3) := by decide +kernel
theorem dX0_init_73 : decode cX0_init 73 = .ok (.dup, 1) := by decide +kernel
theorem dX0_init_74 : decode cX0_init 74 = .ok (.bipush 96, 2) := by decide +kernel
theorem dX0_init_76 : decode cX0_init 76 = .ok (.invokespecial 29, 3) := by decide +kernel
theorem dX0_init_79 : decode cX0_init 79 = .ok (.putfield 42, 3) := by decide +kernel
theorem dX0_init_82 : decode cX0_init 82 = .ok (.aload_n 0, 1) := by decide +kernel
theorem dX0_init_83 : decode cX0_init 83 = .ok (.new 27, 3) := by decide +kernel
theorem dX0_init_86 : decode cX0_init 86 = .ok (.dup, 1) := by decide +kernel
theorem dX0_init_87 : decode cX0_init 87 = .ok (.bipush 96, 2) := by decide +kernel
theorem dX0_init_89 : decode cX0_init 89 = .ok (.invokespecial 29, 3) := by decide +kernel
theorem dX0_init_92 : decode cX0_init 92 = .ok (.putfield 45, 3) := by decide +kernel
theorem dX0_init_95 : decode cX0_init 95 = .ok (.aload_n 0, 1) := by decide +kernel
theorem dX0_init_96 : decode cX0_init 96 = .ok (.new 27, 3) := by decide +kernel
theorem dX0_init_99 : decode cX0_init 99 = .ok (.dup, 1) := by decide +kernel
theorem dX0_init_100 : decode cX0_init 100 = .ok (.bipush 96, 2) := by decide +kernel
theorem dX0_init_102 : decode cX0_init 102 = .ok (.invokespecial 29, 3) := by decide +kernel
theorem dX0_init_105 : decode cX0_init 105 = .ok (.putfield 48, 3) := by decide +kernel
theorem dX0_init_108 : decode cX0_init 108 = .ok (.aload_n 0, 1) := by decide +kernel
theorem dX0_init_109 : decode cX0_init 109 = .ok (.new 27, 3) := by decide +kernel
theorem dX0_init_112 : decode cX0_init 112 = .ok (.dup, 1) := by decide +kernel
theorem dX0_init_113 : decode cX0_init 113 = .ok (.bipush 96, 2) := by decide +kernel
theorem dX0_init_115 : decode cX0_init 115 = .ok (.invokespecial 29, 3) := by decide +kernel
theorem dX0_init_118 : decode cX0_init 118 = .ok (.putfield 51, 3) := by decide +kernel
theorem dX0_init_121 : decode cX0_init 121 = .ok (.return_, 1) := by decide +kernel
theorem dX0_divideExactly_0 : decode cX0_divideExactly 0 = .ok (.aload_n 0, 1) := by decide +kernel
theorem dX0_divideExactly_1 : decode cX0_divideExactly 1 = .ok (.getfield 12, 3) := by decide +kernel
theorem dX0_divideExactly_4 : decode cX0_divideExactly 4 = .ok (.aload_n 1, 1) := by decide +kernel
theorem dX0_divideExactly_5 : decode cX0_divideExactly 5 = .ok (.aload_n 2, 1) := by decide +kernel
theorem dX0_divideExactly_6 : decode cX0_divideExactly 6 = .ok (.aload_n 3, 1) := by decide +kernel
theorem dX0_divideExactly_7 : decode cX0_divideExactly 7 = .ok (.aload_n 0, 1) := by decide +kernel
theorem dX0_divideExactly_8 : decode cX0_divideExactly 8 = .ok (.getfield 32, 3) := by decide +kernel
theorem dX0_divideExactly_11 : decode cX0_divideExactly 11 = .ok (.invokevirtual 54, 3) := by decide +kernel
theorem dX0_divideExactly_14 : decode cX0_divideExactly 14 = .ok (.return_, 1) := by decide +kernel
theorem dX0_reduce_0 : decode cX0_reduce 0 = .ok (.aload_n 0, 1) := by decide +kernel
theorem dX0_reduce_1 : decode cX0_reduce 1 = .ok (.getfield 23, 3) := by decide +kernel
theorem dX0_reduce_4 : decode cX0_reduce 4 = .ok (.aload_n 1, 1) := by decide +kernel
theorem dX0_reduce_5 : decode cX0_reduce 5 = .ok (.getfield 58, 3) := by decide +kernel
theorem dX0_reduce_8 : decode cX0_reduce 8 = .ok (.aload_n 2, 1) := by decide +kernel
theorem dX0_reduce_9 : decode cX0_reduce 9 = .ok (.aload 4, 2) := by decide +kernel
theorem dX0_reduce_11 : decode cX0_reduce 11 = .ok (.getfield 63, 3) := by decide +kernel
theorem dX0_reduce_14 : decode cX0_reduce 14 = .ok (.aload 4, 2) := by decide +kernel
theorem dX0_reduce_16 : decode cX0_reduce 16 = .ok (.getfield 68, 3) := by decide +kernel
theorem dX0_reduce_19 : decode cX0_reduce 19 = .ok (.invokevirtual 71, 3) := by decide +kernel
theorem dX0_reduce_22 : decode cX0_reduce 22 = .ok (.aload 4, 2) := by decide +kernel
theorem dX0_reduce_24 : decode cX0_reduce 24 = .ok (.aload_n 1, 1) := by decide +kernel
theorem dX0_reduce_25 : decode cX0_reduce 25 = .ok (.getfield 74, 3) := by decide +kernel
theorem dX0_reduce_28 : decode cX0_reduce 28 = .ok (.iload_n 3, 1) := by decide +kernel
theorem dX0_reduce_29 : decode cX0_reduce 29 = .ok (.imul, 1) := by decide +kernel
theorem dX0_reduce_30 : decode cX0_reduce 30 = .ok (.putfield 78, 3) := by decide +kernel
theorem dX0_reduce_33 : decode cX0_reduce 33 = .ok (.return_, 1) := by decide +kernel
theorem dX0_multiplyFractions_0 : decode cX0_multiplyFractions 0 = .ok (.aload_n 0, 1) := by decide +kernel
theorem dX0_multiplyFractions_1 : decode cX0_multiplyFractions 1 = .ok (.getfield 23, 3) := by decide +kernel
theorem dX0_multiplyFractions_4 : decode cX0_multiplyFractions 4 = .ok (.aload_n 1, 1) := by decide +kernel
theorem dX0_multiplyFractions_5 : decode cX0_multiplyFractions 5 = .ok (.getfield 63, 3) := by decide +kernel
theorem dX0_multiplyFractions_8 : decode cX0_multiplyFractions 8 = .ok (.aload_n 2, 1) := by decide +kernel
theorem dX0_multiplyFractions_9 : decode cX0_multiplyFractions 9 = .ok (.getfield 68, 3) := by decide +kernel
theorem dX0_multiplyFractions_12 : decode cX0_multiplyFractions 12 = .ok (.aload_n 0, 1) := by decide +kernel
theorem dX0_multiplyFractions_13 : decode cX0_multiplyFractions 13 = .ok (.getfield 42, 3) := by decide +kernel
theorem dX0_multiplyFractions_16 : decode cX0_multiplyFractions 16 = .ok (.aload_n 0, 1) := by decide +kernel
theorem dX0_multiplyFractions_17 : decode cX0_multiplyFractions 17 = .ok (.getfield 51, 3) := by decide +kernel
theorem dX0_multiplyFractions_20 : decode cX0_multiplyFractions 20 = .ok (.invokevirtual 71, 3) := by decide +kernel
theorem dX0_multiplyFractions_23 : decode cX0_multiplyFractions 23 = .ok (.aload_n 0, 1) := by decide +kernel
theorem dX0_multiplyFractions_24 : decode cX0_multiplyFractions 24 = .ok (.getfield 23, 3) := by decide +kernel
theorem dX0_multiplyFractions_27 : decode cX0_multiplyFractions 27 = .ok (.aload_n 2, 1) := by decide +kernel
theorem dX0_multiplyFractions_28 : decode cX0_multiplyFractions 28 = .ok (.getfield 63, 3) := by decide +kernel
theorem dX0_multiplyFractions_31 : decode cX0_multiplyFractions 31 = .ok (.aload_n 1, 1) := by decide +kernel
theorem dX0_multiplyFractions_32 : decode cX0_multiplyFractions 32 = .ok (.getfield 68, 3) := by decide +kernel
theorem dX0_multiplyFractions_35 : decode cX0_multiplyFractions 35 = .ok (.aload_n 0, 1) := by decide +kernel
theorem dX0_multiplyFractions_36 : decode cX0_multiplyFractions 36 = .ok (.getfield 48, 3) := by decide +kernel
theorem dX0_multiplyFractions_39 : decode cX0_multiplyFractions 39 = .ok (.aload_n 0, 1) := by decide +kernel
theorem dX0_multiplyFractions_40 : decode cX0_multiplyFractions 40 = .ok (.getfield 45, 3) := by decide +kernel
theorem dX0_multiplyFractions_43 : decode cX0_multiplyFractions 43 = .ok (.invokevirtual 71, 3) := by decide +kernel
theorem dX0_multiplyFractions_46 : decode cX0_multiplyFractions 46 = .ok (.aload_n 3, 1) := by decide +kernel
theorem dX0_multiplyFractions_47 : decode cX0_multiplyFractions 47 = .ok (.getfield 63, 3) := by decide +kernel
theorem dX0_multiplyFractions_50 : decode cX0_multiplyFractions 50 = .ok (.aload_n 0, 1) := by decide +kernel
theorem dX0_multiplyFractions_51 : decode cX0_multiplyFractions 51 = .ok (.getfield 42, 3) := by decide +kernel
theorem dX0_multiplyFractions_54 : decode cX0_multiplyFractions 54 = .ok (.aload_n 0, 1) := by decide +kernel
theorem dX0_multiplyFractions_55 : decode cX0_multiplyFractions 55 = .ok (.getfield 48, 3) := by decide +kernel
theorem dX0_multiplyFractions_58 : decode cX0_multiplyFractions 58 = .ok (.invokevirtual 79, 3) := by decide +kernel
theorem dX0_multiplyFractions_61 : decode cX0_multiplyFractions 61 = .ok (.aload_n 3, 1) := by decide +kernel
theorem dX0_multiplyFractions_62 : decode cX0_multiplyFractions 62 = .ok (.getfield 68, 3) := by decide +kernel
theorem dX0_multiplyFractions_65 : decode cX0_multiplyFractions 65 = .ok (.aload_n 0, 1) := by decide +kernel
theorem dX0_multiplyFractions_66 : decode cX0_multiplyFractions 66 = .ok (.getfield 45, 3) := by decide +kernel
theorem dX0_multiplyFractions_69 : decode cX0_multiplyFractions 69 = .ok (.aload_n 0, 1) := by decide +kernel
theorem dX0_multiplyFractions_70 : decode cX0_multiplyFractions 70 = .ok (.getfield 51, 3) := by decide +kernel
theorem dX0_multiplyFractions_73 : decode cX0_multiplyFractions 73 = .ok (.invokevirtual 79, 3) := by decide +kernel
theorem dX0_multiplyFractions_76 : decode cX0_multiplyFractions 76 = .ok (.aload_n 3, 1) := by decide +kernel
theorem dX0_multiplyFractions_77 : decode cX0_multiplyFractions 77 = .ok (.aload_n 1, 1) := by decide +kernel
theorem dX0_multiplyFractions_78 : decode cX0_multiplyFractions 78 = .ok (.getfield 78, 3) := by decide +kernel
theorem dX0_multiplyFractions_81 : decode cX0_multiplyFractions 81 = .ok (.aload_n 2, 1) := by decide +kernel
theorem dX0_multiplyFractions_82 : decode cX0_multiplyFractions 82 = .ok (.getfield 78, 3) := by decide +kernel
theorem dX0_multiplyFractions_85 : decode cX0_multiplyFractions 85 = .ok (.imul, 1) := by decide +kernel
theorem dX0_multiplyFractions_86 : decode cX0_multiplyFractions 86 = .ok (.putfield 78, 3) := by decide +kernel
theorem dX0_multiplyFractions_89 : decode cX0_multiplyFractions 89 = .ok (.return_, 1) := by decide +kernel
theorem dX0_takeAway_0 : decode cX0_takeAway 0 = .ok (.iload_n 3, 1) := by decide +kernel
theorem dX0_takeAway_1 : decode cX0_takeAway 1 = .ok (.ifCond .ne 5, 3) := by decide +kernel
theorem dX0_takeAway_4 : decode cX0_takeAway 4 = .ok (.iload_n 1, 1) := by decide +kernel
theorem dX0_takeAway_5 : decode cX0_takeAway 5 = .ok (.ireturn, 1) := by decide +kernel
theorem dX0_takeAway_6 : decode cX0_takeAway 6 = .ok (.iload_n 1, 1) := by decide +kernel
theorem dX0_takeAway_7 : decode cX0_takeAway 7 = .ok (.ifCond .ne 12, 3) := by decide +kernel
theorem dX0_takeAway_10 : decode cX0_takeAway 10 = .ok (.aload_n 2, 1) := by decide +kernel
theorem dX0_takeAway_11 : decode cX0_takeAway 11 = .ok (.aload 4, 2) := by decide +kernel
theorem dX0_takeAway_13 : decode cX0_takeAway 13 = .ok (.invokevirtual 83, 3) := by decide +kernel
theorem dX0_takeAway_16 : decode cX0_takeAway 16 = .ok (.iload_n 3, 1) := by decide +kernel
theorem dX0_takeAway_17 : decode cX0_takeAway 17 = .ok (.ineg, 1) := by decide +kernel
theorem dX0_takeAway_18 : decode cX0_takeAway 18 = .ok (.ireturn, 1) := by decide +kernel
theorem dX0_takeAway_19 : decode cX0_takeAway 19 = .ok (.iload_n 1, 1) := by decide +kernel
theorem dX0_takeAway_20 : decode cX0_takeAway 20 = .ok (.iload_n 3, 1) := by decide +kernel
theorem dX0_takeAway_21 : decode cX0_takeAway 21 = .ok (.if_icmp .eq 11, 3) := by decide +kernel
theorem dX0_takeAway_24 : decode cX0_takeAway 24 = .ok (.aload_n 2, 1) := by decide +kernel
theorem dX0_takeAway_25 : decode cX0_takeAway 25 = .ok (.aload 4, 2) := by decide +kernel
theorem dX0_takeAway_27 : decode cX0_takeAway 27 = .ok (.invokevirtual 87, 3) := by decide +kernel
theorem dX0_takeAway_30 : decode cX0_takeAway 30 = .ok (.iload_n 1, 1) := by decide +kernel
theorem dX0_takeAway_31 : decode cX0_takeAway 31 = .ok (.ireturn, 1) := by decide +kernel
theorem dX0_takeAway_32 : decode cX0_takeAway 32 = .ok (.aload_n 2, 1) := by decide +kernel
theorem dX0_takeAway_33 : decode cX0_takeAway 33 = .ok (.aload 4, 2) := by decide +kernel
theorem dX0_takeAway_35 : decode cX0_takeAway 35 = .ok (.invokevirtual 90, 3) := by decide +kernel
theorem dX0_takeAway_38 : decode cX0_takeAway 38 = .ok (.ifCond .lt 22, 3) := by decide +kernel
theorem dX0_takeAway_41 : decode cX0_takeAway 41 = .ok (.aload_n 2, 1) := by decide +kernel
theorem dX0_takeAway_42 : decode cX0_takeAway 42 = .ok (.aload 4, 2) := by decide +kernel
theorem dX0_takeAway_44 : decode cX0_takeAway 44 = .ok (.invokevirtual 94, 3) := by decide +kernel
theorem dX0_takeAway_47 : decode cX0_takeAway 47 = .ok (.aload_n 2, 1) := by decide +kernel
theorem dX0_takeAway_48 : decode cX0_takeAway 48 = .ok (.getfield 97, 3) := by decide +kernel
theorem dX0_takeAway_51 : decode cX0_takeAway 51 = .ok (.ifCond .ne 7, 3) := by decide +kernel
theorem dX0_takeAway_54 : decode cX0_takeAway 54 = .ok (.iconst 0, 1) := by decide +kernel
theorem dX0_takeAway_55 : decode cX0_takeAway 55 = .ok (.goto 4, 3) := by decide +kernel
theorem dX0_takeAway_58 : decode cX0_takeAway 58 = .ok (.iload_n 1, 1) := by decide +kernel
theorem dX0_takeAway_59 : decode cX0_takeAway 59 = .ok (.ireturn, 1) := by decide +kernel
theorem dX0_takeAway_60 : decode cX0_takeAway 60 = .ok (.aload 4, 2) := by decide +kernel
theorem dX0_takeAway_62 : decode cX0_takeAway 62 = .ok (.aload_n 2, 1) := by decide +kernel
theorem dX0_takeAway_63 : decode cX0_takeAway 63 = .ok (.invokevirtual 94, 3) := by decide +kernel
theorem dX0_takeAway_66 : decode cX0_takeAway 66 = .ok (.aload_n 2, 1) := by decide +kernel
theorem dX0_takeAway_67 : decode cX0_takeAway 67 = .ok (.aload 4, 2) := by decide +kernel
theorem dX0_takeAway_69 : decode cX0_takeAway 69 = .ok (.invokevirtual 83, 3) := by decide +kernel
theorem dX0_takeAway_72 : decode cX0_takeAway 72 = .ok (.iload_n 1, 1) := by decide +kernel
theorem dX0_takeAway_73 : decode cX0_takeAway 73 = .ok (.ineg, 1) := by decide +kernel
theorem dX0_takeAway_74 : decode cX0_takeAway 74 = .ok (.ireturn, 1) := by decide +kernel
theorem dX0_scaleRow_0 : decode cX0_scaleRow 0 = .ok (.aload 4, 2) := by decide +kernel
theorem dX0_scaleRow_2 : decode cX0_scaleRow 2 = .ok (.lconst 1, 1) := by decide +kernel
theorem dX0_scaleRow_3 : decode cX0_scaleRow 3 = .ok (.invokevirtual 100, 3) := by decide +kernel
theorem dX0_scaleRow_6 : decode cX0_scaleRow 6 = .ok (.iconst 0, 1) := by decide +kernel
theorem dX0_scaleRow_7 : decode cX0_scaleRow 7 = .ok (.istore 5, 2) := by decide +kernel
theorem dX0_scaleRow_9 : decode cX0_scaleRow 9 = .ok (.iload 5, 2) := by decide +kernel
theorem dX0_scaleRow_11 : decode cX0_scaleRow 11 = .ok (.aload_n 1, 1) := by decide +kernel
theorem dX0_scaleRow_12 : decode cX0_scaleRow 12 = .ok (.getfield 104, 3) := by decide +kernel
theorem dX0_scaleRow_15 : decode cX0_scaleRow 15 = .ok (.if_icmp .gt 66, 3) := by decide +kernel
theorem dX0_scaleRow_18 : decode cX0_scaleRow 18 = .ok (.aload_n 0, 1) := by decide +kernel
theorem dX0_scaleRow_19 : decode cX0_scaleRow 19 = .ok (.getfield 36, 3) := by decide +kernel
theorem dX0_scaleRow_22 : decode cX0_scaleRow 22 = .ok (.aload_n 1, 1) := by decide +kernel
theorem dX0_scaleRow_23 : decode cX0_scaleRow 23 = .ok (.iload_n 2, 1) := by decide +kernel
theorem dX0_scaleRow_24 : decode cX0_scaleRow 24 = .ok (.iload 5, 2) := by decide +kernel
theorem dX0_scaleRow_26 : decode cX0_scaleRow 26 = .ok (.invokevirtual 109, 3) := by decide +kernel
theorem dX0_scaleRow_29 : decode cX0_scaleRow 29 = .ok (.invokevirtual 100, 3) := by decide +kernel
theorem dX0_scaleRow_32 : decode cX0_scaleRow 32 = .ok (.aload_n 0, 1) := by decide +kernel
theorem dX0_scaleRow_33 : decode cX0_scaleRow 33 = .ok (.getfield 23, 3) := by decide +kernel
theorem dX0_scaleRow_36 : decode cX0_scaleRow 36 = .ok (.aload_n 0, 1) := by decide +kernel
theorem dX0_scaleRow_37 : decode cX0_scaleRow 37 = .ok (.getfield 36, 3) := by decide +kernel
theorem dX0_scaleRow_40 : decode cX0_scaleRow 40 = .ok (.aload 4, 2) := by decide +kernel
theorem dX0_scaleRow_42 : decode cX0_scaleRow 42 = .ok (.aload_n 0, 1) := by decide +kernel
theorem dX0_scaleRow_43 : decode cX0_scaleRow 43 = .ok (.getfield 36, 3) := by decide +kernel
theorem dX0_scaleRow_46 : decode cX0_scaleRow 46 = .ok (.aload_n 0, 1) := by decide +kernel
theorem dX0_scaleRow_47 : decode cX0_scaleRow 47 = .ok (.getfield 39, 3) := by decide +kernel
theorem dX0_scaleRow_50 : decode cX0_scaleRow 50 = .ok (.invokevirtual 71, 3) := by decide +kernel
theorem dX0_scaleRow_53 : decode cX0_scaleRow 53 = .ok (.aload_n 0, 1) := by decide +kernel
theorem dX0_scaleRow_54 : decode cX0_scaleRow 54 = .ok (.getfield 39, 3) := by decide +kernel
theorem dX0_scaleRow_57 : decode cX0_scaleRow 57 = .ok (.aload_n 0, 1) := by decide +kernel
theorem dX0_scaleRow_58 : decode cX0_scaleRow 58 = .ok (.getfield 36, 3) := by decide +kernel
theorem dX0_scaleRow_61 : decode cX0_scaleRow 61 = .ok (.aload 4, 2) := by decide +kernel
theorem dX0_scaleRow_63 : decode cX0_scaleRow 63 = .ok (.invokevirtual 79, 3) := by decide +kernel
theorem dX0_scaleRow_66 : decode cX0_scaleRow 66 = .ok (.aload 4, 2) := by decide +kernel
theorem dX0_scaleRow_68 : decode cX0_scaleRow 68 = .ok (.aload_n 0, 1) := by decide +kernel
theorem dX0_scaleRow_69 : decode cX0_scaleRow 69 = .ok (.getfield 39, 3) := by decide +kernel
theorem dX0_scaleRow_72 : decode cX0_scaleRow 72 = .ok (.invokevirtual 83, 3) := by decide +kernel
theorem dX0_scaleRow_75 : decode cX0_scaleRow 75 = .ok (.iinc 5 1, 3) := by decide +kernel
theorem dX0_scaleRow_78 : decode cX0_scaleRow 78 = .ok (.goto (-69), 3) := by decide +kernel
theorem dX0_scaleRow_81 : decode cX0_scaleRow 81 = .ok (.iconst 0, 1) := by decide +kernel
theorem dX0_scaleRow_82 : decode cX0_scaleRow 82 = .ok (.istore 5, 2) := by decide +kernel
theorem dX0_scaleRow_84 : decode cX0_scaleRow 84 = .ok (.iload 5, 2) := by decide +kernel
theorem dX0_scaleRow_86 : decode cX0_scaleRow 86 = .ok (.aload_n 1, 1) := by decide +kernel
theorem dX0_scaleRow_87 : decode cX0_scaleRow 87 = .ok (.getfield 104, 3) := by decide +kernel
theorem dX0_scaleRow_90 : decode cX0_scaleRow 90 = .ok (.if_icmp .gt 104, 3) := by decide +kernel
theorem dX0_scaleRow_93 : decode cX0_scaleRow 93 = .ok (.iload 5, 2) := by decide +kernel
theorem dX0_scaleRow_95 : decode cX0_scaleRow 95 = .ok (.aload_n 3, 1) := by decide +kernel
theorem dX0_scaleRow_96 : decode cX0_scaleRow 96 = .ok (.arraylength, 1) := by decide +kernel
theorem dX0_scaleRow_97 : decode cX0_scaleRow 97 = .ok (.if_icmp .ge 97, 3) := by decide +kernel
theorem dX0_scaleRow_100 : decode cX0_scaleRow 100 = .ok (.aload_n 1, 1) := by decide +kernel
theorem dX0_scaleRow_101 : decode cX0_scaleRow 101 = .ok (.iload_n 2, 1) := by decide +kernel
theorem dX0_scaleRow_102 : decode cX0_scaleRow 102 = .ok (.iload 5, 2) := by decide +kernel
theorem dX0_scaleRow_104 : decode cX0_scaleRow 104 = .ok (.invokevirtual 113, 3) := by decide +kernel
theorem dX0_scaleRow_107 : decode cX0_scaleRow 107 = .ok (.lstore 6, 2) := by decide +kernel
theorem dX0_scaleRow_109 : decode cX0_scaleRow 109 = .ok (.aload_n 3, 1) := by decide +kernel
theorem dX0_scaleRow_110 : decode cX0_scaleRow 110 = .ok (.iload 5, 2) := by decide +kernel
theorem dX0_scaleRow_112 : decode cX0_scaleRow 112 = .ok (.aaload, 1) := by decide +kernel
theorem dX0_scaleRow_113 : decode cX0_scaleRow 113 = .ok (.astore 8, 2) := by decide +kernel
theorem dX0_scaleRow_115 : decode cX0_scaleRow 115 = .ok (.aload 8, 2) := by decide +kernel
theorem dX0_scaleRow_117 : decode cX0_scaleRow 117 = .ok (.lload 6, 2) := by decide +kernel
theorem dX0_scaleRow_119 : decode cX0_scaleRow 119 = .ok (.invokestatic 116, 3) := by decide +kernel
theorem dX0_scaleRow_122 : decode cX0_scaleRow 122 = .ok (.putfield 74, 3) := by decide +kernel
theorem dX0_scaleRow_125 : decode cX0_scaleRow 125 = .ok (.aload_n 0, 1) := by decide +kernel
theorem dX0_scaleRow_126 : decode cX0_scaleRow 126 = .ok (.getfield 36, 3) := by decide +kernel
theorem dX0_scaleRow_129 : decode cX0_scaleRow 129 = .ok (.aload_n 1, 1) := by decide +kernel
theorem dX0_scaleRow_130 : decode cX0_scaleRow 130 = .ok (.iload_n 2, 1) := by decide +kernel
theorem dX0_scaleRow_131 : decode cX0_scaleRow 131 = .ok (.iload 5, 2) := by decide +kernel
theorem dX0_scaleRow_133 : decode cX0_scaleRow 133 = .ok (.invokevirtual 109, 3) := by decide +kernel
theorem dX0_scaleRow_136 : decode cX0_scaleRow 136 = .ok (.invokevirtual 100, 3) := by decide +kernel
theorem dX0_scaleRow_139 : decode cX0_scaleRow 139 = .ok (.aload_n 0, 1) := by decide +kernel
theorem dX0_scaleRow_140 : decode cX0_scaleRow 140 = .ok (.getfield 12, 3) := by decide +kernel
theorem dX0_scaleRow_143 : decode cX0_scaleRow 143 = .ok (.aload 4, 2) := by decide +kernel
theorem dX0_scaleRow_145 : decode cX0_scaleRow 145 = .ok (.aload_n 0, 1) := by decide +kernel
theorem dX0_scaleRow_146 : decode cX0_scaleRow 146 = .ok (.getfield 36, 3) := by decide +kernel
theorem dX0_scaleRow_149 : decode cX0_scaleRow 149 = .ok (.aload_n 0, 1) := by decide +kernel
theorem dX0_scaleRow_150 : decode cX0_scaleRow 150 = .ok (.getfield 39, 3) := by decide +kernel
theorem dX0_scaleRow_153 : decode cX0_scaleRow 153 = .ok (.aload_n 0, 1) := by decide +kernel
theorem dX0_scaleRow_154 : decode cX0_scaleRow 154 = .ok (.getfield 32, 3) := by decide +kernel
theorem dX0_scaleRow_157 : decode cX0_scaleRow 157 = .ok (.invokevirtual 54, 3) := by decide +kernel
theorem dX0_scaleRow_160 : decode cX0_scaleRow 160 = .ok (.aload_n 0, 1) := by decide +kernel
theorem dX0_scaleRow_161 : decode cX0_scaleRow 161 = .ok (.getfield 36, 3) := by decide +kernel
theorem dX0_scaleRow_164 : decode cX0_scaleRow 164 = .ok (.lload 6, 2) := by decide +kernel
theorem dX0_scaleRow_166 : decode cX0_scaleRow 166 = .ok (.invokestatic 120, 3) := by decide +kernel
theorem dX0_scaleRow_169 : decode cX0_scaleRow 169 = .ok (.invokevirtual 100, 3) := by decide +kernel
theorem dX0_scaleRow_172 : decode cX0_scaleRow 172 = .ok (.aload 8, 2) := by decide +kernel
theorem dX0_scaleRow_174 : decode cX0_scaleRow 174 = .ok (.getfield 58, 3) := by decide +kernel
theorem dX0_scaleRow_177 : decode cX0_scaleRow 177 = .ok (.aload_n 0, 1) := by decide +kernel
theorem dX0_scaleRow_178 : decode cX0_scaleRow 178 = .ok (.getfield 39, 3) := by decide +kernel
theorem dX0_scaleRow_181 : decode cX0_scaleRow 181 = .ok (.aload_n 0, 1) := by decide +kernel
theorem dX0_scaleRow_182 : decode cX0_scaleRow 182 = .ok (.getfield 36, 3) := by decide +kernel
theorem dX0_scaleRow_185 : decode cX0_scaleRow 185 = .ok (.invokevirtual 79, 3) := by decide +kernel
theorem dX0_scaleRow_188 : decode cX0_scaleRow 188 = .ok (.iinc 5 1, 3) := by decide +kernel
theorem dX0_scaleRow_191 : decode cX0_scaleRow 191 = .ok (.goto (-107), 3) := by decide +kernel
theorem dX0_scaleRow_194 : decode cX0_scaleRow 194 = .ok (.return_, 1) := by decide +kernel
