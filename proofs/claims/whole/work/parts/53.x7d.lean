theorem dX7_init_0 : decode cX7_init 0 = .ok (.aload_n 0, 1) := by decide +kernel
theorem dX7_init_1 : decode cX7_init 1 = .ok (.invokespecial 3, 3) := by decide +kernel
theorem dX7_init_4 : decode cX7_init 4 = .ok (.aload_n 0, 1) := by decide +kernel
theorem dX7_init_5 : decode cX7_init 5 = .ok (.bipush 36, 2) := by decide +kernel
theorem dX7_init_7 : decode cX7_init 7 = .ok (.newarray .int, 2) := by decide +kernel
theorem dX7_init_9 : decode cX7_init 9 = .ok (.putfield 9, 3) := by decide +kernel
theorem dX7_init_12 : decode cX7_init 12 = .ok (.return_, 1) := by decide +kernel
theorem dX7_residue_0 : decode cX7_residue 0 = .ok (.iload_n 2, 1) := by decide +kernel
theorem dX7_residue_1 : decode cX7_residue 1 = .ok (.invokestatic 15, 3) := by decide +kernel
theorem dX7_residue_4 : decode cX7_residue 4 = .ok (.ifCond .eq 12, 3) := by decide +kernel
theorem dX7_residue_7 : decode cX7_residue 7 = .ok (.aload_n 0, 1) := by decide +kernel
theorem dX7_residue_8 : decode cX7_residue 8 = .ok (.aload_n 1, 1) := by decide +kernel
theorem dX7_residue_9 : decode cX7_residue 9 = .ok (.iload_n 2, 1) := by decide +kernel
theorem dX7_residue_10 : decode cX7_residue 10 = .ok (.invokevirtual 19, 3) := by decide +kernel
theorem dX7_residue_13 : decode cX7_residue 13 = .ok (.ifCond .ne 5, 3) := by decide +kernel
theorem dX7_residue_16 : decode cX7_residue 16 = .ok (.iconst (-1), 1) := by decide +kernel
theorem dX7_residue_17 : decode cX7_residue 17 = .ok (.ireturn, 1) := by decide +kernel
theorem dX7_residue_18 : decode cX7_residue 18 = .ok (.aload_n 1, 1) := by decide +kernel
theorem dX7_residue_19 : decode cX7_residue 19 = .ok (.getfield 23, 3) := by decide +kernel
theorem dX7_residue_22 : decode cX7_residue 22 = .ok (.bipush 6, 2) := by decide +kernel
theorem dX7_residue_24 : decode cX7_residue 24 = .ok (.invokestatic 29, 3) := by decide +kernel
theorem dX7_residue_27 : decode cX7_residue 27 = .ok (.istore_n 3, 1) := by decide +kernel
theorem dX7_residue_28 : decode cX7_residue 28 = .ok (.iconst 1, 1) := by decide +kernel
theorem dX7_residue_29 : decode cX7_residue 29 = .ok (.istore 4, 2) := by decide +kernel
theorem dX7_residue_31 : decode cX7_residue 31 = .ok (.iconst 0, 1) := by decide +kernel
theorem dX7_residue_32 : decode cX7_residue 32 = .ok (.istore 5, 2) := by decide +kernel
theorem dX7_residue_34 : decode cX7_residue 34 = .ok (.iload 5, 2) := by decide +kernel
theorem dX7_residue_36 : decode cX7_residue 36 = .ok (.iload_n 3, 1) := by decide +kernel
theorem dX7_residue_37 : decode cX7_residue 37 = .ok (.if_icmp .ge 85, 3) := by decide +kernel
theorem dX7_residue_40 : decode cX7_residue 40 = .ok (.aload_n 0, 1) := by decide +kernel
theorem dX7_residue_41 : decode cX7_residue 41 = .ok (.iload 5, 2) := by decide +kernel
theorem dX7_residue_43 : decode cX7_residue 43 = .ok (.iload_n 3, 1) := by decide +kernel
theorem dX7_residue_44 : decode cX7_residue 44 = .ok (.invokevirtual 35, 3) := by decide +kernel
theorem dX7_residue_47 : decode cX7_residue 47 = .ok (.istore 6, 2) := by decide +kernel
theorem dX7_residue_49 : decode cX7_residue 49 = .ok (.iload 6, 2) := by decide +kernel
theorem dX7_residue_51 : decode cX7_residue 51 = .ok (.iconst (-1), 1) := by decide +kernel
theorem dX7_residue_52 : decode cX7_residue 52 = .ok (.if_icmp .ne 5, 3) := by decide +kernel
theorem dX7_residue_55 : decode cX7_residue 55 = .ok (.iconst 0, 1) := by decide +kernel
theorem dX7_residue_56 : decode cX7_residue 56 = .ok (.ireturn, 1) := by decide +kernel
theorem dX7_residue_57 : decode cX7_residue 57 = .ok (.iload 6, 2) := by decide +kernel
theorem dX7_residue_59 : decode cX7_residue 59 = .ok (.iload 5, 2) := by decide +kernel
theorem dX7_residue_61 : decode cX7_residue 61 = .ok (.if_icmp .eq 17, 3) := by decide +kernel
theorem dX7_residue_64 : decode cX7_residue 64 = .ok (.aload_n 0, 1) := by decide +kernel
theorem dX7_residue_65 : decode cX7_residue 65 = .ok (.iload 6, 2) := by decide +kernel
theorem dX7_residue_67 : decode cX7_residue 67 = .ok (.iload 5, 2) := by decide +kernel
theorem dX7_residue_69 : decode cX7_residue 69 = .ok (.invokevirtual 38, 3) := by decide +kernel
theorem dX7_residue_72 : decode cX7_residue 72 = .ok (.iload_n 2, 1) := by decide +kernel
theorem dX7_residue_73 : decode cX7_residue 73 = .ok (.iload 4, 2) := by decide +kernel
theorem dX7_residue_75 : decode cX7_residue 75 = .ok (.isub, 1) := by decide +kernel
theorem dX7_residue_76 : decode cX7_residue 76 = .ok (.istore 4, 2) := by decide +kernel
theorem dX7_residue_78 : decode cX7_residue 78 = .ok (.aload_n 0, 1) := by decide +kernel
theorem dX7_residue_79 : decode cX7_residue 79 = .ok (.getfield 9, 3) := by decide +kernel
theorem dX7_residue_82 : decode cX7_residue 82 = .ok (.iload 5, 2) := by decide +kernel
theorem dX7_residue_84 : decode cX7_residue 84 = .ok (.bipush 6, 2) := by decide +kernel
theorem dX7_residue_86 : decode cX7_residue 86 = .ok (.imul, 1) := by decide +kernel
theorem dX7_residue_87 : decode cX7_residue 87 = .ok (.iload 5, 2) := by decide +kernel
theorem dX7_residue_89 : decode cX7_residue 89 = .ok (.iadd, 1) := by decide +kernel
theorem dX7_residue_90 : decode cX7_residue 90 = .ok (.iaload, 1) := by decide +kernel
theorem dX7_residue_91 : decode cX7_residue 91 = .ok (.istore 7, 2) := by decide +kernel
theorem dX7_residue_93 : decode cX7_residue 93 = .ok (.iload 4, 2) := by decide +kernel
theorem dX7_residue_95 : decode cX7_residue 95 = .ok (.iload 7, 2) := by decide +kernel
theorem dX7_residue_97 : decode cX7_residue 97 = .ok (.imul, 1) := by decide +kernel
theorem dX7_residue_98 : decode cX7_residue 98 = .ok (.iload_n 2, 1) := by decide +kernel
theorem dX7_residue_99 : decode cX7_residue 99 = .ok (.irem, 1) := by decide +kernel
theorem dX7_residue_100 : decode cX7_residue 100 = .ok (.istore 4, 2) := by decide +kernel
theorem dX7_residue_102 : decode cX7_residue 102 = .ok (.aload_n 0, 1) := by decide +kernel
theorem dX7_residue_103 : decode cX7_residue 103 = .ok (.iload 5, 2) := by decide +kernel
theorem dX7_residue_105 : decode cX7_residue 105 = .ok (.iload_n 3, 1) := by decide +kernel
theorem dX7_residue_106 : decode cX7_residue 106 = .ok (.iload 7, 2) := by decide +kernel
theorem dX7_residue_108 : decode cX7_residue 108 = .ok (.iload_n 2, 1) := by decide +kernel
theorem dX7_residue_109 : decode cX7_residue 109 = .ok (.invokestatic 42, 3) := by decide +kernel
theorem dX7_residue_112 : decode cX7_residue 112 = .ok (.iload_n 2, 1) := by decide +kernel
theorem dX7_residue_113 : decode cX7_residue 113 = .ok (.invokevirtual 45, 3) := by decide +kernel
theorem dX7_residue_116 : decode cX7_residue 116 = .ok (.iinc 5 1, 3) := by decide +kernel
theorem dX7_residue_119 : decode cX7_residue 119 = .ok (.goto (-85), 3) := by decide +kernel
theorem dX7_residue_122 : decode cX7_residue 122 = .ok (.iload 4, 2) := by decide +kernel
theorem dX7_residue_124 : decode cX7_residue 124 = .ok (.ireturn, 1) := by decide +kernel
theorem dX7_fill_0 : decode cX7_fill 0 = .ok (.iconst 0, 1) := by decide +kernel
theorem dX7_fill_1 : decode cX7_fill 1 = .ok (.istore_n 3, 1) := by decide +kernel
theorem dX7_fill_2 : decode cX7_fill 2 = .ok (.iload_n 3, 1) := by decide +kernel
theorem dX7_fill_3 : decode cX7_fill 3 = .ok (.aload_n 1, 1) := by decide +kernel
theorem dX7_fill_4 : decode cX7_fill 4 = .ok (.getfield 23, 3) := by decide +kernel
theorem dX7_fill_7 : decode cX7_fill 7 = .ok (.if_icmp .ge 98, 3) := by decide +kernel
theorem dX7_fill_10 : decode cX7_fill 10 = .ok (.iload_n 3, 1) := by decide +kernel
theorem dX7_fill_11 : decode cX7_fill 11 = .ok (.bipush 6, 2) := by decide +kernel
theorem dX7_fill_13 : decode cX7_fill 13 = .ok (.if_icmp .ge 92, 3) := by decide +kernel
theorem dX7_fill_16 : decode cX7_fill 16 = .ok (.iconst 0, 1) := by decide +kernel
theorem dX7_fill_17 : decode cX7_fill 17 = .ok (.istore 4, 2) := by decide +kernel
theorem dX7_fill_19 : decode cX7_fill 19 = .ok (.iload 4, 2) := by decide +kernel
theorem dX7_fill_21 : decode cX7_fill 21 = .ok (.aload_n 1, 1) := by decide +kernel
theorem dX7_fill_22 : decode cX7_fill 22 = .ok (.getfield 23, 3) := by decide +kernel
theorem dX7_fill_25 : decode cX7_fill 25 = .ok (.if_icmp .ge 74, 3) := by decide +kernel
theorem dX7_fill_28 : decode cX7_fill 28 = .ok (.iload 4, 2) := by decide +kernel
theorem dX7_fill_30 : decode cX7_fill 30 = .ok (.bipush 6, 2) := by decide +kernel
theorem dX7_fill_32 : decode cX7_fill 32 = .ok (.if_icmp .ge 67, 3) := by decide +kernel
theorem dX7_fill_35 : decode cX7_fill 35 = .ok (.aload_n 1, 1) := by decide +kernel
theorem dX7_fill_36 : decode cX7_fill 36 = .ok (.iload_n 3, 1) := by decide +kernel
theorem dX7_fill_37 : decode cX7_fill 37 = .ok (.iload 4, 2) := by decide +kernel
theorem dX7_fill_39 : decode cX7_fill 39 = .ok (.invokevirtual 49, 3) := by decide +kernel
theorem dX7_fill_42 : decode cX7_fill 42 = .ok (.iload_n 2, 1) := by decide +kernel
theorem dX7_fill_43 : decode cX7_fill 43 = .ok (.i2l, 1) := by decide +kernel
theorem dX7_fill_44 : decode cX7_fill 44 = .ok (.lrem, 1) := by decide +kernel
theorem dX7_fill_45 : decode cX7_fill 45 = .ok (.l2i, 1) := by decide +kernel
theorem dX7_fill_46 : decode cX7_fill 46 = .ok (.istore 5, 2) := by decide +kernel
theorem dX7_fill_48 : decode cX7_fill 48 = .ok (.iload 5, 2) := by decide +kernel
theorem dX7_fill_50 : decode cX7_fill 50 = .ok (.ifCond .ne 5, 3) := by decide +kernel
theorem dX7_fill_53 : decode cX7_fill 53 = .ok (.iconst 0, 1) := by decide +kernel
theorem dX7_fill_54 : decode cX7_fill 54 = .ok (.ireturn, 1) := by decide +kernel
theorem dX7_fill_55 : decode cX7_fill 55 = .ok (.aload_n 1, 1) := by decide +kernel
theorem dX7_fill_56 : decode cX7_fill 56 = .ok (.iload_n 3, 1) := by decide +kernel
theorem dX7_fill_57 : decode cX7_fill 57 = .ok (.iload 4, 2) := by decide +kernel
theorem dX7_fill_59 : decode cX7_fill 59 = .ok (.invokevirtual 53, 3) := by decide +kernel
theorem dX7_fill_62 : decode cX7_fill 62 = .ok (.iload_n 2, 1) := by decide +kernel
theorem dX7_fill_63 : decode cX7_fill 63 = .ok (.i2l, 1) := by decide +kernel
theorem dX7_fill_64 : decode cX7_fill 64 = .ok (.invokestatic 56, 3) := by decide +kernel
theorem dX7_fill_67 : decode cX7_fill 67 = .ok (.l2i, 1) := by decide +kernel
theorem dX7_fill_68 : decode cX7_fill 68 = .ok (.istore 6, 2) := by decide +kernel
theorem dX7_fill_70 : decode cX7_fill 70 = .ok (.aload_n 0, 1) := by decide +kernel
theorem dX7_fill_71 : decode cX7_fill 71 = .ok (.getfield 9, 3) := by decide +kernel
theorem dX7_fill_74 : decode cX7_fill 74 = .ok (.iload_n 3, 1) := by decide +kernel
theorem dX7_fill_75 : decode cX7_fill 75 = .ok (.bipush 6, 2) := by decide +kernel
theorem dX7_fill_77 : decode cX7_fill 77 = .ok (.imul, 1) := by decide +kernel
theorem dX7_fill_78 : decode cX7_fill 78 = .ok (.iload 4, 2) := by decide +kernel
theorem dX7_fill_80 : decode cX7_fill 80 = .ok (.iadd, 1) := by decide +kernel
theorem dX7_fill_81 : decode cX7_fill 81 = .ok (.iload 6, 2) := by decide +kernel
theorem dX7_fill_83 : decode cX7_fill 83 = .ok (.iload 5, 2) := by decide +kernel
theorem dX7_fill_85 : decode cX7_fill 85 = .ok (.iload_n 2, 1) := by decide +kernel
theorem dX7_fill_86 : decode cX7_fill 86 = .ok (.invokestatic 42, 3) := by decide +kernel
theorem dX7_fill_89 : decode cX7_fill 89 = .ok (.imul, 1) := by decide +kernel
theorem dX7_fill_90 : decode cX7_fill 90 = .ok (.iload_n 2, 1) := by decide +kernel
theorem dX7_fill_91 : decode cX7_fill 91 = .ok (.irem, 1) := by decide +kernel
theorem dX7_fill_92 : decode cX7_fill 92 = .ok (.iastore, 1) := by decide +kernel
theorem dX7_fill_93 : decode cX7_fill 93 = .ok (.iinc 4 1, 3) := by decide +kernel
theorem dX7_fill_96 : decode cX7_fill 96 = .ok (.goto (-77), 3) := by decide +kernel
theorem dX7_fill_99 : decode cX7_fill 99 = .ok (.iinc 3 1, 3) := by decide +kernel
theorem dX7_fill_102 : decode cX7_fill 102 = .ok (.goto (-100), 3) := by decide +kernel
theorem dX7_fill_105 : decode cX7_fill 105 = .ok (.iconst 1, 1) := by decide +kernel
theorem dX7_fill_106 : decode cX7_fill 106 = .ok (.ireturn, 1) := by decide +kernel
theorem dX7_firstRowWith_0 : decode cX7_firstRowWith 0 = .ok (.iload_n 1, 1) := by decide +kernel
theorem dX7_firstRowWith_1 : decode cX7_firstRowWith 1 = .ok (.istore_n 3, 1) := by decide +kernel
theorem dX7_firstRowWith_2 : decode cX7_firstRowWith 2 = .ok (.iload_n 3, 1) := by decide +kernel
theorem dX7_firstRowWith_3 : decode cX7_firstRowWith 3 = .ok (.iload_n 2, 1) := by decide +kernel
theorem dX7_firstRowWith_4 : decode cX7_firstRowWith 4 = .ok (.if_icmp .ge 25, 3) := by decide +kernel
theorem dX7_firstRowWith_7 : decode cX7_firstRowWith 7 = .ok (.aload_n 0, 1) := by decide +kernel
theorem dX7_firstRowWith_8 : decode cX7_firstRowWith 8 = .ok (.getfield 9, 3) := by decide +kernel
theorem dX7_firstRowWith_11 : decode cX7_firstRowWith 11 = .ok (.iload_n 3, 1) := by decide +kernel
theorem dX7_firstRowWith_12 : decode cX7_firstRowWith 12 = .ok (.bipush 6, 2) := by decide +kernel
theorem dX7_firstRowWith_14 : decode cX7_firstRowWith 14 = .ok (.imul, 1) := by decide +kernel
theorem dX7_firstRowWith_15 : decode cX7_firstRowWith 15 = .ok (.iload_n 1, 1) := by decide +kernel
theorem dX7_firstRowWith_16 : decode cX7_firstRowWith 16 = .ok (.iadd, 1) := by decide +kernel
theorem dX7_firstRowWith_17 : decode cX7_firstRowWith 17 = .ok (.iaload, 1) := by decide +kernel
theorem dX7_firstRowWith_18 : decode cX7_firstRowWith 18 = .ok (.ifCond .eq 5, 3) := by decide +kernel
theorem dX7_firstRowWith_21 : decode cX7_firstRowWith 21 = .ok (.iload_n 3, 1) := by decide +kernel
theorem dX7_firstRowWith_22 : decode cX7_firstRowWith 22 = .ok (.ireturn, 1) := by decide +kernel
theorem dX7_firstRowWith_23 : decode cX7_firstRowWith 23 = .ok (.iinc 3 1, 3) := by decide +kernel
theorem dX7_firstRowWith_26 : decode cX7_firstRowWith 26 = .ok (.goto (-24), 3) := by decide +kernel
theorem dX7_firstRowWith_29 : decode cX7_firstRowWith 29 = .ok (.iconst (-1), 1) := by decide +kernel
theorem dX7_firstRowWith_30 : decode cX7_firstRowWith 30 = .ok (.ireturn, 1) := by decide +kernel
theorem dX7_changePlaces_0 : decode cX7_changePlaces 0 = .ok (.iconst 0, 1) := by decide +kernel
theorem dX7_changePlaces_1 : decode cX7_changePlaces 1 = .ok (.istore_n 3, 1) := by decide +kernel
theorem dX7_changePlaces_2 : decode cX7_changePlaces 2 = .ok (.iload_n 3, 1) := by decide +kernel
theorem dX7_changePlaces_3 : decode cX7_changePlaces 3 = .ok (.bipush 6, 2) := by decide +kernel
theorem dX7_changePlaces_5 : decode cX7_changePlaces 5 = .ok (.if_icmp .ge 57, 3) := by decide +kernel
theorem dX7_changePlaces_8 : decode cX7_changePlaces 8 = .ok (.aload_n 0, 1) := by decide +kernel
theorem dX7_changePlaces_9 : decode cX7_changePlaces 9 = .ok (.getfield 9, 3) := by decide +kernel
theorem dX7_changePlaces_12 : decode cX7_changePlaces 12 = .ok (.iload_n 1, 1) := by decide +kernel
theorem dX7_changePlaces_13 : decode cX7_changePlaces 13 = .ok (.bipush 6, 2) := by decide +kernel
theorem dX7_changePlaces_15 : decode cX7_changePlaces 15 = .ok (.imul, 1) := by decide +kernel
theorem dX7_changePlaces_16 : decode cX7_changePlaces 16 = .ok (.iload_n 3, 1) := by decide +kernel
theorem dX7_changePlaces_17 : decode cX7_changePlaces 17 = .ok (.iadd, 1) := by decide +kernel
theorem dX7_changePlaces_18 : decode cX7_changePlaces 18 = .ok (.iaload, 1) := by decide +kernel
theorem dX7_changePlaces_19 : decode cX7_changePlaces 19 = .ok (.istore 4, 2) := by decide +kernel
theorem dX7_changePlaces_21 : decode cX7_changePlaces 21 = .ok (.aload_n 0, 1) := by decide +kernel
theorem dX7_changePlaces_22 : decode cX7_changePlaces 22 = .ok (.getfield 9, 3) := by decide +kernel
theorem dX7_changePlaces_25 : decode cX7_changePlaces 25 = .ok (.iload_n 1, 1) := by decide +kernel
theorem dX7_changePlaces_26 : decode cX7_changePlaces 26 = .ok (.bipush 6, 2) := by decide +kernel
theorem dX7_changePlaces_28 : decode cX7_changePlaces 28 = .ok (.imul, 1) := by decide +kernel
theorem dX7_changePlaces_29 : decode cX7_changePlaces 29 = .ok (.iload_n 3, 1) := by decide +kernel
theorem dX7_changePlaces_30 : decode cX7_changePlaces 30 = .ok (.iadd, 1) := by decide +kernel
theorem dX7_changePlaces_31 : decode cX7_changePlaces 31 = .ok (.aload_n 0, 1) := by decide +kernel
theorem dX7_changePlaces_32 : decode cX7_changePlaces 32 = .ok (.getfield 9, 3) := by decide +kernel
theorem dX7_changePlaces_35 : decode cX7_changePlaces 35 = .ok (.iload_n 2, 1) := by decide +kernel
theorem dX7_changePlaces_36 : decode cX7_changePlaces 36 = .ok (.bipush 6, 2) := by decide +kernel
theorem dX7_changePlaces_38 : decode cX7_changePlaces 38 = .ok (.imul, 1) := by decide +kernel
theorem dX7_changePlaces_39 : decode cX7_changePlaces 39 = .ok (.iload_n 3, 1) := by decide +kernel
theorem dX7_changePlaces_40 : decode cX7_changePlaces 40 = .ok (.iadd, 1) := by decide +kernel
theorem dX7_changePlaces_41 : decode cX7_changePlaces 41 = .ok (.iaload, 1) := by decide +kernel
theorem dX7_changePlaces_42 : decode cX7_changePlaces 42 = .ok (.iastore, 1) := by decide +kernel
theorem dX7_changePlaces_43 : decode cX7_changePlaces 43 = .ok (.aload_n 0, 1) := by decide +kernel
theorem dX7_changePlaces_44 : decode cX7_changePlaces 44 = .ok (.getfield 9, 3) := by decide +kernel
theorem dX7_changePlaces_47 : decode cX7_changePlaces 47 = .ok (.iload_n 2, 1) := by decide +kernel
theorem dX7_changePlaces_48 : decode cX7_changePlaces 48 = .ok (.bipush 6, 2) := by decide +kernel
theorem dX7_changePlaces_50 : decode cX7_changePlaces 50 = .ok (.imul, 1) := by decide +kernel
theorem dX7_changePlaces_51 : decode cX7_changePlaces 51 = .ok (.iload_n 3, 1) := by decide +kernel
theorem dX7_changePlaces_52 : decode cX7_changePlaces 52 = .ok (.iadd, 1) := by decide +kernel
theorem dX7_changePlaces_53 : decode cX7_changePlaces 53 = .ok (.iload 4, 2) := by decide +kernel
theorem dX7_changePlaces_55 : decode cX7_changePlaces 55 = .ok (.iastore, 1) := by decide +kernel
theorem dX7_changePlaces_56 : decode cX7_changePlaces 56 = .ok (.iinc 3 1, 3) := by decide +kernel
theorem dX7_changePlaces_59 : decode cX7_changePlaces 59 = .ok (.goto (-57), 3) := by decide +kernel
theorem dX7_changePlaces_62 : decode cX7_changePlaces 62 = .ok (.return_, 1) := by decide +kernel
theorem dX7_clearBelow_0 : decode cX7_clearBelow 0 = .ok (.iload_n 1, 1) := by decide +kernel
theorem dX7_clearBelow_1 : decode cX7_clearBelow 1 = .ok (.iconst 1, 1) := by decide +kernel
theorem dX7_clearBelow_2 : decode cX7_clearBelow 2 = .ok (.iadd, 1) := by decide +kernel
theorem dX7_clearBelow_3 : decode cX7_clearBelow 3 = .ok (.istore 5, 2) := by decide +kernel
theorem dX7_clearBelow_5 : decode cX7_clearBelow 5 = .ok (.iload 5, 2) := by decide +kernel
theorem dX7_clearBelow_7 : decode cX7_clearBelow 7 = .ok (.iload_n 2, 1) := by decide +kernel
theorem dX7_clearBelow_8 : decode cX7_clearBelow 8 = .ok (.if_icmp .ge 109, 3) := by decide +kernel
theorem dX7_clearBelow_11 : decode cX7_clearBelow 11 = .ok (.aload_n 0, 1) := by decide +kernel
theorem dX7_clearBelow_12 : decode cX7_clearBelow 12 = .ok (.getfield 9, 3) := by decide +kernel
theorem dX7_clearBelow_15 : decode cX7_clearBelow 15 = .ok (.iload 5, 2) := by decide +kernel
theorem dX7_clearBelow_17 : decode cX7_clearBelow 17 = .ok (.bipush 6, 2) := by decide +kernel
theorem dX7_clearBelow_19 : decode cX7_clearBelow 19 = .ok (.imul, 1) := by decide +kernel
theorem dX7_clearBelow_20 : decode cX7_clearBelow 20 = .ok (.iload_n 1, 1) := by decide +kernel
theorem dX7_clearBelow_21 : decode cX7_clearBelow 21 = .ok (.iadd, 1) := by decide +kernel
theorem dX7_clearBelow_22 : decode cX7_clearBelow 22 = .ok (.iaload, 1) := by decide +kernel
theorem dX7_clearBelow_23 : decode cX7_clearBelow 23 = .ok (.iload_n 3, 1) := by decide +kernel
theorem dX7_clearBelow_24 : decode cX7_clearBelow 24 = .ok (.imul, 1) := by decide +kernel
theorem dX7_clearBelow_25 : decode cX7_clearBelow 25 = .ok (.iload 4, 2) := by decide +kernel
theorem dX7_clearBelow_27 : decode cX7_clearBelow 27 = .ok (.irem, 1) := by decide +kernel
theorem dX7_clearBelow_28 : decode cX7_clearBelow 28 = .ok (.istore 6, 2) := by decide +kernel
theorem dX7_clearBelow_30 : decode cX7_clearBelow 30 = .ok (.iload_n 1, 1) := by decide +kernel
theorem dX7_clearBelow_31 : decode cX7_clearBelow 31 = .ok (.istore 7, 2) := by decide +kernel
theorem dX7_clearBelow_33 : decode cX7_clearBelow 33 = .ok (.iload 7, 2) := by decide +kernel
theorem dX7_clearBelow_35 : decode cX7_clearBelow 35 = .ok (.iload_n 2, 1) := by decide +kernel
theorem dX7_clearBelow_36 : decode cX7_clearBelow 36 = .ok (.if_icmp .ge 75, 3) := by decide +kernel
theorem dX7_clearBelow_39 : decode cX7_clearBelow 39 = .ok (.iload 6, 2) := by decide +kernel
theorem dX7_clearBelow_41 : decode cX7_clearBelow 41 = .ok (.aload_n 0, 1) := by decide +kernel
theorem dX7_clearBelow_42 : decode cX7_clearBelow 42 = .ok (.getfield 9, 3) := by decide +kernel
theorem dX7_clearBelow_45 : decode cX7_clearBelow 45 = .ok (.iload_n 1, 1) := by decide +kernel
theorem dX7_clearBelow_46 : decode cX7_clearBelow 46 = .ok (.bipush 6, 2) := by decide +kernel
theorem dX7_clearBelow_48 : decode cX7_clearBelow 48 = .ok (.imul, 1) := by decide +kernel
theorem dX7_clearBelow_49 : decode cX7_clearBelow 49 = .ok (.iload 7, 2) := by decide +kernel
theorem dX7_clearBelow_51 : decode cX7_clearBelow 51 = .ok (.iadd, 1) := by decide +kernel
theorem dX7_clearBelow_52 : decode cX7_clearBelow 52 = .ok (.iaload, 1) := by decide +kernel
theorem dX7_clearBelow_53 : decode cX7_clearBelow 53 = .ok (.imul, 1) := by decide +kernel
theorem dX7_clearBelow_54 : decode cX7_clearBelow 54 = .ok (.iload 4, 2) := by decide +kernel
theorem dX7_clearBelow_56 : decode cX7_clearBelow 56 = .ok (.irem, 1) := by decide +kernel
theorem dX7_clearBelow_57 : decode cX7_clearBelow 57 = .ok (.istore 8, 2) := by decide +kernel
theorem dX7_clearBelow_59 : decode cX7_clearBelow 59 = .ok (.aload_n 0, 1) := by decide +kernel
theorem dX7_clearBelow_60 : decode cX7_clearBelow 60 = .ok (.getfield 9, 3) := by decide +kernel
theorem dX7_clearBelow_63 : decode cX7_clearBelow 63 = .ok (.iload 5, 2) := by decide +kernel
theorem dX7_clearBelow_65 : decode cX7_clearBelow 65 = .ok (.bipush 6, 2) := by decide +kernel
theorem dX7_clearBelow_67 : decode cX7_clearBelow 67 = .ok (.imul, 1) := by decide +kernel
theorem dX7_clearBelow_68 : decode cX7_clearBelow 68 = .ok (.iload 7, 2) := by decide +kernel
theorem dX7_clearBelow_70 : decode cX7_clearBelow 70 = .ok (.iadd, 1) := by decide +kernel
theorem dX7_clearBelow_71 : decode cX7_clearBelow 71 = .ok (.iaload, 1) := by decide +kernel
theorem dX7_clearBelow_72 : decode cX7_clearBelow 72 = .ok (.iload 8, 2) := by decide +kernel
theorem dX7_clearBelow_74 : decode cX7_clearBelow 74 = .ok (.isub, 1) := by decide +kernel
theorem dX7_clearBelow_75 : decode cX7_clearBelow 75 = .ok (.istore 9, 2) := by decide +kernel
theorem dX7_clearBelow_77 : decode cX7_clearBelow 77 = .ok (.aload_n 0, 1) := by decide +kernel
theorem dX7_clearBelow_78 : decode cX7_clearBelow 78 = .ok (.getfield 9, 3) := by decide +kernel
theorem dX7_clearBelow_81 : decode cX7_clearBelow 81 = .ok (.iload 5, 2) := by decide +kernel
theorem dX7_clearBelow_83 : decode cX7_clearBelow 83 = .ok (.bipush 6, 2) := by decide +kernel
theorem dX7_clearBelow_85 : decode cX7_clearBelow 85 = .ok (.imul, 1) := by decide +kernel
theorem dX7_clearBelow_86 : decode cX7_clearBelow 86 = .ok (.iload 7, 2) := by decide +kernel
theorem dX7_clearBelow_88 : decode cX7_clearBelow 88 = .ok (.iadd, 1) := by decide +kernel
theorem dX7_clearBelow_89 : decode cX7_clearBelow 89 = .ok (.iload 9, 2) := by decide +kernel
theorem dX7_clearBelow_91 : decode cX7_clearBelow 91 = .ok (.ifCond .ge 11, 3) := by decide +kernel
theorem dX7_clearBelow_94 : decode cX7_clearBelow 94 = .ok (.iload 9, 2) := by decide +kernel
theorem dX7_clearBelow_96 : decode cX7_clearBelow 96 = .ok (.iload 4, 2) := by decide +kernel
theorem dX7_clearBelow_98 : decode cX7_clearBelow 98 = .ok (.iadd, 1) := by decide +kernel
theorem dX7_clearBelow_99 : decode cX7_clearBelow 99 = .ok (.goto 5, 3) := by decide +kernel
theorem dX7_clearBelow_102 : decode cX7_clearBelow 102 = .ok (.iload 9, 2) := by decide +kernel
theorem dX7_clearBelow_104 : decode cX7_clearBelow 104 = .ok (.iastore, 1) := by decide +kernel
theorem dX7_clearBelow_105 : decode cX7_clearBelow 105 = .ok (.iinc 7 1, 3) := by decide +kernel
theorem dX7_clearBelow_108 : decode cX7_clearBelow 108 = .ok (.goto (-75), 3) := by decide +kernel
theorem dX7_clearBelow_111 : decode cX7_clearBelow 111 = .ok (.iinc 5 1, 3) := by decide +kernel
theorem dX7_clearBelow_114 : decode cX7_clearBelow 114 = .ok (.goto (-109), 3) := by decide +kernel
theorem dX7_clearBelow_117 : decode cX7_clearBelow 117 = .ok (.return_, 1) := by decide +kernel
theorem dX7_inverse_0 : decode cX7_inverse 0 = .ok (.iconst 1, 1) := by decide +kernel
theorem dX7_inverse_1 : decode cX7_inverse 1 = .ok (.istore_n 2, 1) := by decide +kernel
theorem dX7_inverse_2 : decode cX7_inverse 2 = .ok (.iload_n 0, 1) := by decide +kernel
theorem dX7_inverse_3 : decode cX7_inverse 3 = .ok (.istore_n 3, 1) := by decide +kernel
theorem dX7_inverse_4 : decode cX7_inverse 4 = .ok (.iload_n 1, 1) := by decide +kernel
theorem dX7_inverse_5 : decode cX7_inverse 5 = .ok (.iconst 2, 1) := by decide +kernel
theorem dX7_inverse_6 : decode cX7_inverse 6 = .ok (.isub, 1) := by decide +kernel
theorem dX7_inverse_7 : decode cX7_inverse 7 = .ok (.istore 4, 2) := by decide +kernel
theorem dX7_inverse_9 : decode cX7_inverse 9 = .ok (.iload 4, 2) := by decide +kernel
theorem dX7_inverse_11 : decode cX7_inverse 11 = .ok (.ifCond .le 32, 3) := by decide +kernel
theorem dX7_inverse_14 : decode cX7_inverse 14 = .ok (.iload 4, 2) := by decide +kernel
theorem dX7_inverse_16 : decode cX7_inverse 16 = .ok (.iconst 1, 1) := by decide +kernel
theorem dX7_inverse_17 : decode cX7_inverse 17 = .ok (.iand, 1) := by decide +kernel
theorem dX7_inverse_18 : decode cX7_inverse 18 = .ok (.iconst 1, 1) := by decide +kernel
theorem dX7_inverse_19 : decode cX7_inverse 19 = .ok (.if_icmp .ne 9, 3) := by decide +kernel
theorem dX7_inverse_22 : decode cX7_inverse 22 = .ok (.iload_n 2, 1) := by decide +kernel
theorem dX7_inverse_23 : decode cX7_inverse 23 = .ok (.iload_n 3, 1) := by decide +kernel
theorem dX7_inverse_24 : decode cX7_inverse 24 = .ok (.imul, 1) := by decide +kernel
theorem dX7_inverse_25 : decode cX7_inverse 25 = .ok (.iload_n 1, 1) := by decide +kernel
theorem dX7_inverse_26 : decode cX7_inverse 26 = .ok (.irem, 1) := by decide +kernel
theorem dX7_inverse_27 : decode cX7_inverse 27 = .ok (.istore_n 2, 1) := by decide +kernel
theorem dX7_inverse_28 : decode cX7_inverse 28 = .ok (.iload_n 3, 1) := by decide +kernel
theorem dX7_inverse_29 : decode cX7_inverse 29 = .ok (.iload_n 3, 1) := by decide +kernel
theorem dX7_inverse_30 : decode cX7_inverse 30 = .ok (.imul, 1) := by decide +kernel
theorem dX7_inverse_31 : decode cX7_inverse 31 = .ok (.iload_n 1, 1) := by decide +kernel
theorem dX7_inverse_32 : decode cX7_inverse 32 = .ok (.irem, 1) := by decide +kernel
theorem dX7_inverse_33 : decode cX7_inverse 33 = .ok (.istore_n 3, 1) := by decide +kernel
theorem dX7_inverse_34 : decode cX7_inverse 34 = .ok (.iload 4, 2) := by decide +kernel
theorem dX7_inverse_36 : decode cX7_inverse 36 = .ok (.iconst 1, 1) := by decide +kernel
theorem dX7_inverse_37 : decode cX7_inverse 37 = .ok (.ishr, 1) := by decide +kernel
theorem dX7_inverse_38 : decode cX7_inverse 38 = .ok (.istore 4, 2) := by decide +kernel
theorem dX7_inverse_40 : decode cX7_inverse 40 = .ok (.goto (-31), 3) := by decide +kernel
theorem dX7_inverse_43 : decode cX7_inverse 43 = .ok (.iload_n 2, 1) := by decide +kernel
theorem dX7_inverse_44 : decode cX7_inverse 44 = .ok (.ireturn, 1) := by decide +kernel
theorem dX7_isPrime_0 : decode cX7_isPrime 0 = .ok (.iload_n 0, 1) := by decide +kernel
theorem dX7_isPrime_1 : decode cX7_isPrime 1 = .ok (.iconst 2, 1) := by decide +kernel
theorem dX7_isPrime_2 : decode cX7_isPrime 2 = .ok (.if_icmp .lt 9, 3) := by decide +kernel
theorem dX7_isPrime_5 : decode cX7_isPrime 5 = .ok (.iload_n 0, 1) := by decide +kernel
theorem dX7_isPrime_6 : decode cX7_isPrime 6 = .ok (.ldc 60, 2) := by decide +kernel
theorem dX7_isPrime_8 : decode cX7_isPrime 8 = .ok (.if_icmp .le 5, 3) := by decide +kernel
theorem dX7_isPrime_11 : decode cX7_isPrime 11 = .ok (.iconst 0, 1) := by decide +kernel
theorem dX7_isPrime_12 : decode cX7_isPrime 12 = .ok (.ireturn, 1) := by decide +kernel
theorem dX7_isPrime_13 : decode cX7_isPrime 13 = .ok (.iconst 2, 1) := by decide +kernel
theorem dX7_isPrime_14 : decode cX7_isPrime 14 = .ok (.istore_n 1, 1) := by decide +kernel
theorem dX7_isPrime_15 : decode cX7_isPrime 15 = .ok (.iload_n 1, 1) := by decide +kernel
theorem dX7_isPrime_16 : decode cX7_isPrime 16 = .ok (.iload_n 1, 1) := by decide +kernel
theorem dX7_isPrime_17 : decode cX7_isPrime 17 = .ok (.imul, 1) := by decide +kernel
theorem dX7_isPrime_18 : decode cX7_isPrime 18 = .ok (.iload_n 0, 1) := by decide +kernel
theorem dX7_isPrime_19 : decode cX7_isPrime 19 = .ok (.if_icmp .gt 17, 3) := by decide +kernel
theorem dX7_isPrime_22 : decode cX7_isPrime 22 = .ok (.iload_n 0, 1) := by decide +kernel
theorem dX7_isPrime_23 : decode cX7_isPrime 23 = .ok (.iload_n 1, 1) := by decide +kernel
theorem dX7_isPrime_24 : decode cX7_isPrime 24 = .ok (.irem, 1) := by decide +kernel
theorem dX7_isPrime_25 : decode cX7_isPrime 25 = .ok (.ifCond .ne 5, 3) := by decide +kernel
theorem dX7_isPrime_28 : decode cX7_isPrime 28 = .ok (.iconst 0, 1) := by decide +kernel
theorem dX7_isPrime_29 : decode cX7_isPrime 29 = .ok (.ireturn, 1) := by decide +kernel
theorem dX7_isPrime_30 : decode cX7_isPrime 30 = .ok (.iinc 1 1, 3) := by decide +kernel
theorem dX7_isPrime_33 : decode cX7_isPrime 33 = .ok (.goto (-18), 3) := by decide +kernel
theorem dX7_isPrime_36 : decode cX7_isPrime 36 = .ok (.iconst 1, 1) := by decide +kernel
theorem dX7_isPrime_37 : decode cX7_isPrime 37 = .ok (.ireturn, 1) := by decide +kernel
