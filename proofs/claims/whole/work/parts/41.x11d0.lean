theorem dX11_init_0 : decode cX11_init 0 = .ok (.aload_n 0, 1) := by decide +kernel
theorem dX11_init_1 : decode cX11_init 1 = .ok (.invokespecial 1, 3) := by decide +kernel
theorem dX11_init_4 : decode cX11_init 4 = .ok (.aload_n 0, 1) := by decide +kernel
theorem dX11_init_5 : decode cX11_init 5 = .ok (.ldc 7, 2) := by decide +kernel
theorem dX11_init_7 : decode cX11_init 7 = .ok (.newarray .int, 2) := by decide +kernel
theorem dX11_init_9 : decode cX11_init 9 = .ok (.putfield 8, 3) := by decide +kernel
theorem dX11_init_12 : decode cX11_init 12 = .ok (.aload_n 0, 1) := by decide +kernel
theorem dX11_init_13 : decode cX11_init 13 = .ok (.sipush 190, 3) := by decide +kernel
theorem dX11_init_16 : decode cX11_init 16 = .ok (.newarray .int, 2) := by decide +kernel
theorem dX11_init_18 : decode cX11_init 18 = .ok (.putfield 14, 3) := by decide +kernel
theorem dX11_init_21 : decode cX11_init 21 = .ok (.aload_n 0, 1) := by decide +kernel
theorem dX11_init_22 : decode cX11_init 22 = .ok (.bipush 90, 2) := by decide +kernel
theorem dX11_init_24 : decode cX11_init 24 = .ok (.newarray .int, 2) := by decide +kernel
theorem dX11_init_26 : decode cX11_init 26 = .ok (.putfield 17, 3) := by decide +kernel
theorem dX11_init_29 : decode cX11_init 29 = .ok (.aload_n 0, 1) := by decide +kernel
theorem dX11_init_30 : decode cX11_init 30 = .ok (.sipush 1300, 3) := by decide +kernel
theorem dX11_init_33 : decode cX11_init 33 = .ok (.newarray .int, 2) := by decide +kernel
theorem dX11_init_35 : decode cX11_init 35 = .ok (.putfield 20, 3) := by decide +kernel
theorem dX11_init_38 : decode cX11_init 38 = .ok (.aload_n 0, 1) := by decide +kernel
theorem dX11_init_39 : decode cX11_init 39 = .ok (.sipush 1300, 3) := by decide +kernel
theorem dX11_init_42 : decode cX11_init 42 = .ok (.newarray .int, 2) := by decide +kernel
theorem dX11_init_44 : decode cX11_init 44 = .ok (.putfield 23, 3) := by decide +kernel
theorem dX11_init_47 : decode cX11_init 47 = .ok (.aload_n 0, 1) := by decide +kernel
theorem dX11_init_48 : decode cX11_init 48 = .ok (.iconst 1, 1) := by decide +kernel
theorem dX11_init_49 : decode cX11_init 49 = .ok (.putfield 26, 3) := by decide +kernel
theorem dX11_init_52 : decode cX11_init 52 = .ok (.aload_n 0, 1) := by decide +kernel
theorem dX11_init_53 : decode cX11_init 53 = .ok (.bipush 6, 2) := by decide +kernel
theorem dX11_init_55 : decode cX11_init 55 = .ok (.newarray .int, 2) := by decide +kernel
theorem dX11_init_57 : decode cX11_init 57 = .ok (.putfield 30, 3) := by decide +kernel
theorem dX11_init_60 : decode cX11_init 60 = .ok (.aload_n 0, 1) := by decide +kernel
theorem dX11_init_61 : decode cX11_init 61 = .ok (.bipush 36, 2) := by decide +kernel
theorem dX11_init_63 : decode cX11_init 63 = .ok (.newarray .long, 2) := by decide +kernel
theorem dX11_init_65 : decode cX11_init 65 = .ok (.putfield 33, 3) := by decide +kernel
theorem dX11_init_68 : decode cX11_init 68 = .ok (.aload_n 0, 1) := by decide +kernel
theorem dX11_init_69 : decode cX11_init 69 = .ok (.invokevirtual 37, 3) := by decide +kernel
theorem dX11_init_72 : decode cX11_init 72 = .ok (.return_, 1) := by decide +kernel
theorem dX11_thrown_0 : decode cX11_thrown 0 = .ok (.aload_n 0, 1) := by decide +kernel
theorem dX11_thrown_1 : decode cX11_thrown 1 = .ok (.getfield 40, 3) := by decide +kernel
theorem dX11_thrown_4 : decode cX11_thrown 4 = .ok (.ireturn, 1) := by decide +kernel
theorem dX11_at_0 : decode cX11_at 0 = .ok (.iload_n 0, 1) := by decide +kernel
theorem dX11_at_1 : decode cX11_at 1 = .ok (.sipush 170, 3) := by decide +kernel
theorem dX11_at_4 : decode cX11_at 4 = .ok (.if_icmp .ge 11, 3) := by decide +kernel
theorem dX11_at_7 : decode cX11_at 7 = .ok (.sipush 180, 3) := by decide +kernel
theorem dX11_at_10 : decode cX11_at 10 = .ok (.iload_n 0, 1) := by decide +kernel
theorem dX11_at_11 : decode cX11_at 11 = .ok (.imul, 1) := by decide +kernel
theorem dX11_at_12 : decode cX11_at 12 = .ok (.goto 16, 3) := by decide +kernel
theorem dX11_at_15 : decode cX11_at 15 = .ok (.sipush 30600, 3) := by decide +kernel
theorem dX11_at_18 : decode cX11_at 18 = .ok (.sipush 1200, 3) := by decide +kernel
theorem dX11_at_21 : decode cX11_at 21 = .ok (.iload_n 0, 1) := by decide +kernel
theorem dX11_at_22 : decode cX11_at 22 = .ok (.sipush 170, 3) := by decide +kernel
theorem dX11_at_25 : decode cX11_at 25 = .ok (.isub, 1) := by decide +kernel
theorem dX11_at_26 : decode cX11_at 26 = .ok (.imul, 1) := by decide +kernel
theorem dX11_at_27 : decode cX11_at 27 = .ok (.iadd, 1) := by decide +kernel
theorem dX11_at_28 : decode cX11_at 28 = .ok (.ireturn, 1) := by decide +kernel
theorem dX11_trim_0 : decode cX11_trim 0 = .ok (.iload_n 2, 1) := by decide +kernel
theorem dX11_trim_1 : decode cX11_trim 1 = .ok (.istore_n 3, 1) := by decide +kernel
theorem dX11_trim_2 : decode cX11_trim 2 = .ok (.iload_n 3, 1) := by decide +kernel
theorem dX11_trim_3 : decode cX11_trim 3 = .ok (.ifCond .le 25, 3) := by decide +kernel
theorem dX11_trim_6 : decode cX11_trim 6 = .ok (.aload_n 0, 1) := by decide +kernel
theorem dX11_trim_7 : decode cX11_trim 7 = .ok (.getfield 8, 3) := by decide +kernel
theorem dX11_trim_10 : decode cX11_trim 10 = .ok (.iload_n 1, 1) := by decide +kernel
theorem dX11_trim_11 : decode cX11_trim 11 = .ok (.invokestatic 43, 3) := by decide +kernel
theorem dX11_trim_14 : decode cX11_trim 14 = .ok (.iload_n 3, 1) := by decide +kernel
theorem dX11_trim_15 : decode cX11_trim 15 = .ok (.iadd, 1) := by decide +kernel
theorem dX11_trim_16 : decode cX11_trim 16 = .ok (.iconst 1, 1) := by decide +kernel
theorem dX11_trim_17 : decode cX11_trim 17 = .ok (.isub, 1) := by decide +kernel
theorem dX11_trim_18 : decode cX11_trim 18 = .ok (.iaload, 1) := by decide +kernel
theorem dX11_trim_19 : decode cX11_trim 19 = .ok (.ifCond .ne 9, 3) := by decide +kernel
theorem dX11_trim_22 : decode cX11_trim 22 = .ok (.iinc 3 (-1), 3) := by decide +kernel
theorem dX11_trim_25 : decode cX11_trim 25 = .ok (.goto (-23), 3) := by decide +kernel
theorem dX11_trim_28 : decode cX11_trim 28 = .ok (.aload_n 0, 1) := by decide +kernel
theorem dX11_trim_29 : decode cX11_trim 29 = .ok (.getfield 14, 3) := by decide +kernel
theorem dX11_trim_32 : decode cX11_trim 32 = .ok (.iload_n 1, 1) := by decide +kernel
theorem dX11_trim_33 : decode cX11_trim 33 = .ok (.iload_n 3, 1) := by decide +kernel
theorem dX11_trim_34 : decode cX11_trim 34 = .ok (.iastore, 1) := by decide +kernel
theorem dX11_trim_35 : decode cX11_trim 35 = .ok (.return_, 1) := by decide +kernel
theorem dX11_put_0 : decode cX11_put 0 = .ok (.lload_n 2, 1) := by decide +kernel
theorem dX11_put_1 : decode cX11_put 1 = .ok (.lstore 4, 2) := by decide +kernel
theorem dX11_put_3 : decode cX11_put 3 = .ok (.iconst 0, 1) := by decide +kernel
theorem dX11_put_4 : decode cX11_put 4 = .ok (.istore 6, 2) := by decide +kernel
theorem dX11_put_6 : decode cX11_put 6 = .ok (.lload 4, 2) := by decide +kernel
theorem dX11_put_8 : decode cX11_put 8 = .ok (.lconst 0, 1) := by decide +kernel
theorem dX11_put_9 : decode cX11_put 9 = .ok (.lcmp, 1) := by decide +kernel
theorem dX11_put_10 : decode cX11_put 10 = .ok (.ifCond .le 36, 3) := by decide +kernel
theorem dX11_put_13 : decode cX11_put 13 = .ok (.aload_n 0, 1) := by decide +kernel
theorem dX11_put_14 : decode cX11_put 14 = .ok (.getfield 8, 3) := by decide +kernel
theorem dX11_put_17 : decode cX11_put 17 = .ok (.iload_n 1, 1) := by decide +kernel
theorem dX11_put_18 : decode cX11_put 18 = .ok (.invokestatic 43, 3) := by decide +kernel
theorem dX11_put_21 : decode cX11_put 21 = .ok (.iload 6, 2) := by decide +kernel
theorem dX11_put_23 : decode cX11_put 23 = .ok (.iadd, 1) := by decide +kernel
theorem dX11_put_24 : decode cX11_put 24 = .ok (.lload 4, 2) := by decide +kernel
theorem dX11_put_26 : decode cX11_put 26 = .ok (.ldc2_w 47, 3) := by decide +kernel
theorem dX11_put_29 : decode cX11_put 29 = .ok (.lrem, 1) := by decide +kernel
theorem dX11_put_30 : decode cX11_put 30 = .ok (.l2i, 1) := by decide +kernel
theorem dX11_put_31 : decode cX11_put 31 = .ok (.iastore, 1) := by decide +kernel
theorem dX11_put_32 : decode cX11_put 32 = .ok (.lload 4, 2) := by decide +kernel
theorem dX11_put_34 : decode cX11_put 34 = .ok (.ldc2_w 47, 3) := by decide +kernel
theorem dX11_put_37 : decode cX11_put 37 = .ok (.ldiv, 1) := by decide +kernel
theorem dX11_put_38 : decode cX11_put 38 = .ok (.lstore 4, 2) := by decide +kernel
theorem dX11_put_40 : decode cX11_put 40 = .ok (.iinc 6 1, 3) := by decide +kernel
theorem dX11_put_43 : decode cX11_put 43 = .ok (.goto (-37), 3) := by decide +kernel
theorem dX11_put_46 : decode cX11_put 46 = .ok (.aload_n 0, 1) := by decide +kernel
theorem dX11_put_47 : decode cX11_put 47 = .ok (.getfield 14, 3) := by decide +kernel
theorem dX11_put_50 : decode cX11_put 50 = .ok (.iload_n 1, 1) := by decide +kernel
theorem dX11_put_51 : decode cX11_put 51 = .ok (.iload 6, 2) := by decide +kernel
theorem dX11_put_53 : decode cX11_put 53 = .ok (.iastore, 1) := by decide +kernel
theorem dX11_put_54 : decode cX11_put 54 = .ok (.return_, 1) := by decide +kernel
theorem dX11_copy_0 : decode cX11_copy 0 = .ok (.iconst 0, 1) := by decide +kernel
theorem dX11_copy_1 : decode cX11_copy 1 = .ok (.istore_n 3, 1) := by decide +kernel
theorem dX11_copy_2 : decode cX11_copy 2 = .ok (.iload_n 3, 1) := by decide +kernel
theorem dX11_copy_3 : decode cX11_copy 3 = .ok (.aload_n 0, 1) := by decide +kernel
theorem dX11_copy_4 : decode cX11_copy 4 = .ok (.getfield 14, 3) := by decide +kernel
theorem dX11_copy_7 : decode cX11_copy 7 = .ok (.iload_n 2, 1) := by decide +kernel
theorem dX11_copy_8 : decode cX11_copy 8 = .ok (.iaload, 1) := by decide +kernel
theorem dX11_copy_9 : decode cX11_copy 9 = .ok (.if_icmp .ge 31, 3) := by decide +kernel
theorem dX11_copy_12 : decode cX11_copy 12 = .ok (.aload_n 0, 1) := by decide +kernel
theorem dX11_copy_13 : decode cX11_copy 13 = .ok (.getfield 8, 3) := by decide +kernel
theorem dX11_copy_16 : decode cX11_copy 16 = .ok (.iload_n 1, 1) := by decide +kernel
theorem dX11_copy_17 : decode cX11_copy 17 = .ok (.invokestatic 43, 3) := by decide +kernel
theorem dX11_copy_20 : decode cX11_copy 20 = .ok (.iload_n 3, 1) := by decide +kernel
theorem dX11_copy_21 : decode cX11_copy 21 = .ok (.iadd, 1) := by decide +kernel
theorem dX11_copy_22 : decode cX11_copy 22 = .ok (.aload_n 0, 1) := by decide +kernel
theorem dX11_copy_23 : decode cX11_copy 23 = .ok (.getfield 8, 3) := by decide +kernel
theorem dX11_copy_26 : decode cX11_copy 26 = .ok (.iload_n 2, 1) := by decide +kernel
theorem dX11_copy_27 : decode cX11_copy 27 = .ok (.invokestatic 43, 3) := by decide +kernel
theorem dX11_copy_30 : decode cX11_copy 30 = .ok (.iload_n 3, 1) := by decide +kernel
theorem dX11_copy_31 : decode cX11_copy 31 = .ok (.iadd, 1) := by decide +kernel
theorem dX11_copy_32 : decode cX11_copy 32 = .ok (.iaload, 1) := by decide +kernel
theorem dX11_copy_33 : decode cX11_copy 33 = .ok (.iastore, 1) := by decide +kernel
theorem dX11_copy_34 : decode cX11_copy 34 = .ok (.iinc 3 1, 3) := by decide +kernel
theorem dX11_copy_37 : decode cX11_copy 37 = .ok (.goto (-35), 3) := by decide +kernel
theorem dX11_copy_40 : decode cX11_copy 40 = .ok (.aload_n 0, 1) := by decide +kernel
theorem dX11_copy_41 : decode cX11_copy 41 = .ok (.getfield 14, 3) := by decide +kernel
theorem dX11_copy_44 : decode cX11_copy 44 = .ok (.iload_n 1, 1) := by decide +kernel
theorem dX11_copy_45 : decode cX11_copy 45 = .ok (.aload_n 0, 1) := by decide +kernel
theorem dX11_copy_46 : decode cX11_copy 46 = .ok (.getfield 14, 3) := by decide +kernel
theorem dX11_copy_49 : decode cX11_copy 49 = .ok (.iload_n 2, 1) := by decide +kernel
theorem dX11_copy_50 : decode cX11_copy 50 = .ok (.iaload, 1) := by decide +kernel
theorem dX11_copy_51 : decode cX11_copy 51 = .ok (.iastore, 1) := by decide +kernel
theorem dX11_copy_52 : decode cX11_copy 52 = .ok (.return_, 1) := by decide +kernel
theorem dX11_isOne_0 : decode cX11_isOne 0 = .ok (.aload_n 0, 1) := by decide +kernel
theorem dX11_isOne_1 : decode cX11_isOne 1 = .ok (.getfield 14, 3) := by decide +kernel
theorem dX11_isOne_4 : decode cX11_isOne 4 = .ok (.iload_n 1, 1) := by decide +kernel
theorem dX11_isOne_5 : decode cX11_isOne 5 = .ok (.iaload, 1) := by decide +kernel
theorem dX11_isOne_6 : decode cX11_isOne 6 = .ok (.iconst 1, 1) := by decide +kernel
theorem dX11_isOne_7 : decode cX11_isOne 7 = .ok (.if_icmp .ne 20, 3) := by decide +kernel
theorem dX11_isOne_10 : decode cX11_isOne 10 = .ok (.aload_n 0, 1) := by decide +kernel
theorem dX11_isOne_11 : decode cX11_isOne 11 = .ok (.getfield 8, 3) := by decide +kernel
theorem dX11_isOne_14 : decode cX11_isOne 14 = .ok (.iload_n 1, 1) := by decide +kernel
theorem dX11_isOne_15 : decode cX11_isOne 15 = .ok (.invokestatic 43, 3) := by decide +kernel
theorem dX11_isOne_18 : decode cX11_isOne 18 = .ok (.iaload, 1) := by decide +kernel
theorem dX11_isOne_19 : decode cX11_isOne 19 = .ok (.iconst 1, 1) := by decide +kernel
theorem dX11_isOne_20 : decode cX11_isOne 20 = .ok (.if_icmp .ne 7, 3) := by decide +kernel
theorem dX11_isOne_23 : decode cX11_isOne 23 = .ok (.iconst 1, 1) := by decide +kernel
theorem dX11_isOne_24 : decode cX11_isOne 24 = .ok (.goto 4, 3) := by decide +kernel
theorem dX11_isOne_27 : decode cX11_isOne 27 = .ok (.iconst 0, 1) := by decide +kernel
theorem dX11_isOne_28 : decode cX11_isOne 28 = .ok (.ireturn, 1) := by decide +kernel
theorem dX11_compare_0 : decode cX11_compare 0 = .ok (.aload_n 0, 1) := by decide +kernel
theorem dX11_compare_1 : decode cX11_compare 1 = .ok (.getfield 14, 3) := by decide +kernel
theorem dX11_compare_4 : decode cX11_compare 4 = .ok (.iload_n 1, 1) := by decide +kernel
theorem dX11_compare_5 : decode cX11_compare 5 = .ok (.iaload, 1) := by decide +kernel
theorem dX11_compare_6 : decode cX11_compare 6 = .ok (.aload_n 0, 1) := by decide +kernel
theorem dX11_compare_7 : decode cX11_compare 7 = .ok (.getfield 14, 3) := by decide +kernel
theorem dX11_compare_10 : decode cX11_compare 10 = .ok (.iload_n 2, 1) := by decide +kernel
theorem dX11_compare_11 : decode cX11_compare 11 = .ok (.iaload, 1) := by decide +kernel
theorem dX11_compare_12 : decode cX11_compare 12 = .ok (.if_icmp .eq 24, 3) := by decide +kernel
theorem dX11_compare_15 : decode cX11_compare 15 = .ok (.aload_n 0, 1) := by decide +kernel
theorem dX11_compare_16 : decode cX11_compare 16 = .ok (.getfield 14, 3) := by decide +kernel
theorem dX11_compare_19 : decode cX11_compare 19 = .ok (.iload_n 1, 1) := by decide +kernel
theorem dX11_compare_20 : decode cX11_compare 20 = .ok (.iaload, 1) := by decide +kernel
theorem dX11_compare_21 : decode cX11_compare 21 = .ok (.aload_n 0, 1) := by decide +kernel
theorem dX11_compare_22 : decode cX11_compare 22 = .ok (.getfield 14, 3) := by decide +kernel
theorem dX11_compare_25 : decode cX11_compare 25 = .ok (.iload_n 2, 1) := by decide +kernel
theorem dX11_compare_26 : decode cX11_compare 26 = .ok (.iaload, 1) := by decide +kernel
theorem dX11_compare_27 : decode cX11_compare 27 = .ok (.if_icmp .ge 7, 3) := by decide +kernel
theorem dX11_compare_30 : decode cX11_compare 30 = .ok (.iconst (-1), 1) := by decide +kernel
theorem dX11_compare_31 : decode cX11_compare 31 = .ok (.goto 4, 3) := by decide +kernel
theorem dX11_compare_34 : decode cX11_compare 34 = .ok (.iconst 1, 1) := by decide +kernel
theorem dX11_compare_35 : decode cX11_compare 35 = .ok (.ireturn, 1) := by decide +kernel
theorem dX11_compare_36 : decode cX11_compare 36 = .ok (.aload_n 0, 1) := by decide +kernel
theorem dX11_compare_37 : decode cX11_compare 37 = .ok (.getfield 14, 3) := by decide +kernel
theorem dX11_compare_40 : decode cX11_compare 40 = .ok (.iload_n 1, 1) := by decide +kernel
theorem dX11_compare_41 : decode cX11_compare 41 = .ok (.iaload, 1) := by decide +kernel
theorem dX11_compare_42 : decode cX11_compare 42 = .ok (.iconst 1, 1) := by decide +kernel
theorem dX11_compare_43 : decode cX11_compare 43 = .ok (.isub, 1) := by decide +kernel
theorem dX11_compare_44 : decode cX11_compare 44 = .ok (.istore_n 3, 1) := by decide +kernel
theorem dX11_compare_45 : decode cX11_compare 45 = .ok (.iload_n 3, 1) := by decide +kernel
theorem dX11_compare_46 : decode cX11_compare 46 = .ok (.ifCond .lt 50, 3) := by decide +kernel
theorem dX11_compare_49 : decode cX11_compare 49 = .ok (.aload_n 0, 1) := by decide +kernel
theorem dX11_compare_50 : decode cX11_compare 50 = .ok (.getfield 8, 3) := by decide +kernel
theorem dX11_compare_53 : decode cX11_compare 53 = .ok (.iload_n 1, 1) := by decide +kernel
theorem dX11_compare_54 : decode cX11_compare 54 = .ok (.invokestatic 43, 3) := by decide +kernel
theorem dX11_compare_57 : decode cX11_compare 57 = .ok (.iload_n 3, 1) := by decide +kernel
theorem dX11_compare_58 : decode cX11_compare 58 = .ok (.iadd, 1) := by decide +kernel
theorem dX11_compare_59 : decode cX11_compare 59 = .ok (.iaload, 1) := by decide +kernel
theorem dX11_compare_60 : decode cX11_compare 60 = .ok (.aload_n 0, 1) := by decide +kernel
theorem dX11_compare_61 : decode cX11_compare 61 = .ok (.getfield 8, 3) := by decide +kernel
theorem dX11_compare_64 : decode cX11_compare 64 = .ok (.iload_n 2, 1) := by decide +kernel
theorem dX11_compare_65 : decode cX11_compare 65 = .ok (.invokestatic 43, 3) := by decide +kernel
theorem dX11_compare_68 : decode cX11_compare 68 = .ok (.iload_n 3, 1) := by decide +kernel
theorem dX11_compare_69 : decode cX11_compare 69 = .ok (.iadd, 1) := by decide +kernel
theorem dX11_compare_70 : decode cX11_compare 70 = .ok (.iaload, 1) := by decide +kernel
theorem dX11_compare_71 : decode cX11_compare 71 = .ok (.isub, 1) := by decide +kernel
theorem dX11_compare_72 : decode cX11_compare 72 = .ok (.istore 4, 2) := by decide +kernel
theorem dX11_compare_74 : decode cX11_compare 74 = .ok (.iload 4, 2) := by decide +kernel
theorem dX11_compare_76 : decode cX11_compare 76 = .ok (.ifCond .eq 14, 3) := by decide +kernel
theorem dX11_compare_79 : decode cX11_compare 79 = .ok (.iload 4, 2) := by decide +kernel
theorem dX11_compare_81 : decode cX11_compare 81 = .ok (.ifCond .ge 7, 3) := by decide +kernel
theorem dX11_compare_84 : decode cX11_compare 84 = .ok (.iconst (-1), 1) := by decide +kernel
theorem dX11_compare_85 : decode cX11_compare 85 = .ok (.goto 4, 3) := by decide +kernel
theorem dX11_compare_88 : decode cX11_compare 88 = .ok (.iconst 1, 1) := by decide +kernel
theorem dX11_compare_89 : decode cX11_compare 89 = .ok (.ireturn, 1) := by decide +kernel
theorem dX11_compare_90 : decode cX11_compare 90 = .ok (.iinc 3 (-1), 3) := by decide +kernel
theorem dX11_compare_93 : decode cX11_compare 93 = .ok (.goto (-48), 3) := by decide +kernel
theorem dX11_compare_96 : decode cX11_compare 96 = .ok (.iconst 0, 1) := by decide +kernel
theorem dX11_compare_97 : decode cX11_compare 97 = .ok (.ireturn, 1) := by decide +kernel
theorem dX11_figureOf_0 : decode cX11_figureOf 0 = .ok (.iload_n 2, 1) := by decide +kernel
theorem dX11_figureOf_1 : decode cX11_figureOf 1 = .ok (.aload_n 0, 1) := by decide +kernel
theorem dX11_figureOf_2 : decode cX11_figureOf 2 = .ok (.getfield 14, 3) := by decide +kernel
theorem dX11_figureOf_5 : decode cX11_figureOf 5 = .ok (.iload_n 1, 1) := by decide +kernel
theorem dX11_figureOf_6 : decode cX11_figureOf 6 = .ok (.iaload, 1) := by decide +kernel
theorem dX11_figureOf_7 : decode cX11_figureOf 7 = .ok (.if_icmp .ge 17, 3) := by decide +kernel
theorem dX11_figureOf_10 : decode cX11_figureOf 10 = .ok (.aload_n 0, 1) := by decide +kernel
theorem dX11_figureOf_11 : decode cX11_figureOf 11 = .ok (.getfield 8, 3) := by decide +kernel
theorem dX11_figureOf_14 : decode cX11_figureOf 14 = .ok (.iload_n 1, 1) := by decide +kernel
theorem dX11_figureOf_15 : decode cX11_figureOf 15 = .ok (.invokestatic 43, 3) := by decide +kernel
theorem dX11_figureOf_18 : decode cX11_figureOf 18 = .ok (.iload_n 2, 1) := by decide +kernel
theorem dX11_figureOf_19 : decode cX11_figureOf 19 = .ok (.iadd, 1) := by decide +kernel
theorem dX11_figureOf_20 : decode cX11_figureOf 20 = .ok (.iaload, 1) := by decide +kernel
theorem dX11_figureOf_21 : decode cX11_figureOf 21 = .ok (.goto 4, 3) := by decide +kernel
theorem dX11_figureOf_24 : decode cX11_figureOf 24 = .ok (.iconst 0, 1) := by decide +kernel
theorem dX11_figureOf_25 : decode cX11_figureOf 25 = .ok (.ireturn, 1) := by decide +kernel
theorem dX11_add_0 : decode cX11_add 0 = .ok (.aload_n 0, 1) := by decide +kernel
theorem dX11_add_1 : decode cX11_add 1 = .ok (.getfield 14, 3) := by decide +kernel
theorem dX11_add_4 : decode cX11_add 4 = .ok (.iload_n 2, 1) := by decide +kernel
theorem dX11_add_5 : decode cX11_add 5 = .ok (.iaload, 1) := by decide +kernel
theorem dX11_add_6 : decode cX11_add 6 = .ok (.aload_n 0, 1) := by decide +kernel
theorem dX11_add_7 : decode cX11_add 7 = .ok (.getfield 14, 3) := by decide +kernel
theorem dX11_add_10 : decode cX11_add 10 = .ok (.iload_n 3, 1) := by decide +kernel
theorem dX11_add_11 : decode cX11_add 11 = .ok (.iaload, 1) := by decide +kernel
theorem dX11_add_12 : decode cX11_add 12 = .ok (.if_icmp .le 12, 3) := by decide +kernel
theorem dX11_add_15 : decode cX11_add 15 = .ok (.aload_n 0, 1) := by decide +kernel
theorem dX11_add_16 : decode cX11_add 16 = .ok (.getfield 14, 3) := by decide +kernel
theorem dX11_add_19 : decode cX11_add 19 = .ok (.iload_n 2, 1) := by decide +kernel
theorem dX11_add_20 : decode cX11_add 20 = .ok (.iaload, 1) := by decide +kernel
theorem dX11_add_21 : decode cX11_add 21 = .ok (.goto 9, 3) := by decide +kernel
theorem dX11_add_24 : decode cX11_add 24 = .ok (.aload_n 0, 1) := by decide +kernel
theorem dX11_add_25 : decode cX11_add 25 = .ok (.getfield 14, 3) := by decide +kernel
theorem dX11_add_28 : decode cX11_add 28 = .ok (.iload_n 3, 1) := by decide +kernel
theorem dX11_add_29 : decode cX11_add 29 = .ok (.iaload, 1) := by decide +kernel
theorem dX11_add_30 : decode cX11_add 30 = .ok (.iconst 1, 1) := by decide +kernel
theorem dX11_add_31 : decode cX11_add 31 = .ok (.iadd, 1) := by decide +kernel
theorem dX11_add_32 : decode cX11_add 32 = .ok (.istore 4, 2) := by decide +kernel
theorem dX11_add_34 : decode cX11_add 34 = .ok (.iconst 0, 1) := by decide +kernel
theorem dX11_add_35 : decode cX11_add 35 = .ok (.istore 5, 2) := by decide +kernel
theorem dX11_add_37 : decode cX11_add 37 = .ok (.iconst 0, 1) := by decide +kernel
theorem dX11_add_38 : decode cX11_add 38 = .ok (.istore 6, 2) := by decide +kernel
theorem dX11_add_40 : decode cX11_add 40 = .ok (.iload 6, 2) := by decide +kernel
theorem dX11_add_42 : decode cX11_add 42 = .ok (.iload 4, 2) := by decide +kernel
theorem dX11_add_44 : decode cX11_add 44 = .ok (.if_icmp .ge 48, 3) := by decide +kernel
theorem dX11_add_47 : decode cX11_add 47 = .ok (.aload_n 0, 1) := by decide +kernel
theorem dX11_add_48 : decode cX11_add 48 = .ok (.iload_n 2, 1) := by decide +kernel
theorem dX11_add_49 : decode cX11_add 49 = .ok (.iload 6, 2) := by decide +kernel
theorem dX11_add_51 : decode cX11_add 51 = .ok (.invokevirtual 49, 3) := by decide +kernel
theorem dX11_add_54 : decode cX11_add 54 = .ok (.aload_n 0, 1) := by decide +kernel
theorem dX11_add_55 : decode cX11_add 55 = .ok (.iload_n 3, 1) := by decide +kernel
theorem dX11_add_56 : decode cX11_add 56 = .ok (.iload 6, 2) := by decide +kernel
theorem dX11_add_58 : decode cX11_add 58 = .ok (.invokevirtual 49, 3) := by decide +kernel
theorem dX11_add_61 : decode cX11_add 61 = .ok (.iadd, 1) := by decide +kernel
theorem dX11_add_62 : decode cX11_add 62 = .ok (.iload 5, 2) := by decide +kernel
theorem dX11_add_64 : decode cX11_add 64 = .ok (.iadd, 1) := by decide +kernel
theorem dX11_add_65 : decode cX11_add 65 = .ok (.istore 7, 2) := by decide +kernel
theorem dX11_add_67 : decode cX11_add 67 = .ok (.aload_n 0, 1) := by decide +kernel
theorem dX11_add_68 : decode cX11_add 68 = .ok (.getfield 20, 3) := by decide +kernel
theorem dX11_add_71 : decode cX11_add 71 = .ok (.iload 6, 2) := by decide +kernel
theorem dX11_add_73 : decode cX11_add 73 = .ok (.iload 7, 2) := by decide +kernel
theorem dX11_add_75 : decode cX11_add 75 = .ok (.ldc 53, 2) := by decide +kernel
theorem dX11_add_77 : decode cX11_add 77 = .ok (.iand, 1) := by decide +kernel
theorem dX11_add_78 : decode cX11_add 78 = .ok (.iastore, 1) := by decide +kernel
theorem dX11_add_79 : decode cX11_add 79 = .ok (.iload 7, 2) := by decide +kernel
theorem dX11_add_81 : decode cX11_add 81 = .ok (.bipush 16, 2) := by decide +kernel
theorem dX11_add_83 : decode cX11_add 83 = .ok (.ishr, 1) := by decide +kernel
theorem dX11_add_84 : decode cX11_add 84 = .ok (.istore 5, 2) := by decide +kernel
theorem dX11_add_86 : decode cX11_add 86 = .ok (.iinc 6 1, 3) := by decide +kernel
theorem dX11_add_89 : decode cX11_add 89 = .ok (.goto (-49), 3) := by decide +kernel
theorem dX11_add_92 : decode cX11_add 92 = .ok (.aload_n 0, 1) := by decide +kernel
theorem dX11_add_93 : decode cX11_add 93 = .ok (.iload_n 1, 1) := by decide +kernel
theorem dX11_add_94 : decode cX11_add 94 = .ok (.iload 4, 2) := by decide +kernel
theorem dX11_add_96 : decode cX11_add 96 = .ok (.invokevirtual 54, 3) := by decide +kernel
theorem dX11_add_99 : decode cX11_add 99 = .ok (.return_, 1) := by decide +kernel
theorem dX11_less_0 : decode cX11_less 0 = .ok (.aload_n 0, 1) := by decide +kernel
theorem dX11_less_1 : decode cX11_less 1 = .ok (.getfield 14, 3) := by decide +kernel
theorem dX11_less_4 : decode cX11_less 4 = .ok (.iload_n 2, 1) := by decide +kernel
theorem dX11_less_5 : decode cX11_less 5 = .ok (.iaload, 1) := by decide +kernel
theorem dX11_less_6 : decode cX11_less 6 = .ok (.istore 4, 2) := by decide +kernel
theorem dX11_less_8 : decode cX11_less 8 = .ok (.iconst 0, 1) := by decide +kernel
theorem dX11_less_9 : decode cX11_less 9 = .ok (.istore 5, 2) := by decide +kernel
theorem dX11_less_11 : decode cX11_less 11 = .ok (.iconst 0, 1) := by decide +kernel
theorem dX11_less_12 : decode cX11_less 12 = .ok (.istore 6, 2) := by decide +kernel
theorem dX11_less_14 : decode cX11_less 14 = .ok (.iload 6, 2) := by decide +kernel
theorem dX11_less_16 : decode cX11_less 16 = .ok (.iload 4, 2) := by decide +kernel
theorem dX11_less_18 : decode cX11_less 18 = .ok (.if_icmp .ge 53, 3) := by decide +kernel
theorem dX11_less_21 : decode cX11_less 21 = .ok (.aload_n 0, 1) := by decide +kernel
theorem dX11_less_22 : decode cX11_less 22 = .ok (.iload_n 2, 1) := by decide +kernel
theorem dX11_less_23 : decode cX11_less 23 = .ok (.iload 6, 2) := by decide +kernel
theorem dX11_less_25 : decode cX11_less 25 = .ok (.invokevirtual 49, 3) := by decide +kernel
theorem dX11_less_28 : decode cX11_less 28 = .ok (.aload_n 0, 1) := by decide +kernel
theorem dX11_less_29 : decode cX11_less 29 = .ok (.iload_n 3, 1) := by decide +kernel
theorem dX11_less_30 : decode cX11_less 30 = .ok (.iload 6, 2) := by decide +kernel
theorem dX11_less_32 : decode cX11_less 32 = .ok (.invokevirtual 49, 3) := by decide +kernel
theorem dX11_less_35 : decode cX11_less 35 = .ok (.isub, 1) := by decide +kernel
theorem dX11_less_36 : decode cX11_less 36 = .ok (.iload 5, 2) := by decide +kernel
theorem dX11_less_38 : decode cX11_less 38 = .ok (.isub, 1) := by decide +kernel
theorem dX11_less_39 : decode cX11_less 39 = .ok (.istore 7, 2) := by decide +kernel
theorem dX11_less_41 : decode cX11_less 41 = .ok (.aload_n 0, 1) := by decide +kernel
theorem dX11_less_42 : decode cX11_less 42 = .ok (.getfield 20, 3) := by decide +kernel
theorem dX11_less_45 : decode cX11_less 45 = .ok (.iload 6, 2) := by decide +kernel
theorem dX11_less_47 : decode cX11_less 47 = .ok (.iload 7, 2) := by decide +kernel
theorem dX11_less_49 : decode cX11_less 49 = .ok (.ldc 53, 2) := by decide +kernel
theorem dX11_less_51 : decode cX11_less 51 = .ok (.iand, 1) := by decide +kernel
theorem dX11_less_52 : decode cX11_less 52 = .ok (.iastore, 1) := by decide +kernel
theorem dX11_less_53 : decode cX11_less 53 = .ok (.iload 7, 2) := by decide +kernel
theorem dX11_less_55 : decode cX11_less 55 = .ok (.ifCond .ge 7, 3) := by decide +kernel
theorem dX11_less_58 : decode cX11_less 58 = .ok (.iconst 1, 1) := by decide +kernel
theorem dX11_less_59 : decode cX11_less 59 = .ok (.goto 4, 3) := by decide +kernel
theorem dX11_less_62 : decode cX11_less 62 = .ok (.iconst 0, 1) := by decide +kernel
theorem dX11_less_63 : decode cX11_less 63 = .ok (.istore 5, 2) := by decide +kernel
theorem dX11_less_65 : decode cX11_less 65 = .ok (.iinc 6 1, 3) := by decide +kernel
theorem dX11_less_68 : decode cX11_less 68 = .ok (.goto (-54), 3) := by decide +kernel
theorem dX11_less_71 : decode cX11_less 71 = .ok (.aload_n 0, 1) := by decide +kernel
theorem dX11_less_72 : decode cX11_less 72 = .ok (.iload_n 1, 1) := by decide +kernel
theorem dX11_less_73 : decode cX11_less 73 = .ok (.iload 4, 2) := by decide +kernel
theorem dX11_less_75 : decode cX11_less 75 = .ok (.invokevirtual 54, 3) := by decide +kernel
theorem dX11_less_78 : decode cX11_less 78 = .ok (.return_, 1) := by decide +kernel
theorem dX11_take_0 : decode cX11_take 0 = .ok (.iconst 0, 1) := by decide +kernel
theorem dX11_take_1 : decode cX11_take 1 = .ok (.istore_n 3, 1) := by decide +kernel
theorem dX11_take_2 : decode cX11_take 2 = .ok (.iload_n 3, 1) := by decide +kernel
theorem dX11_take_3 : decode cX11_take 3 = .ok (.iload_n 2, 1) := by decide +kernel
theorem dX11_take_4 : decode cX11_take 4 = .ok (.if_icmp .ge 26, 3) := by decide +kernel
theorem dX11_take_7 : decode cX11_take 7 = .ok (.aload_n 0, 1) := by decide +kernel
theorem dX11_take_8 : decode cX11_take 8 = .ok (.getfield 8, 3) := by decide +kernel
theorem dX11_take_11 : decode cX11_take 11 = .ok (.iload_n 1, 1) := by decide +kernel
theorem dX11_take_12 : decode cX11_take 12 = .ok (.invokestatic 43, 3) := by decide +kernel
theorem dX11_take_15 : decode cX11_take 15 = .ok (.iload_n 3, 1) := by decide +kernel
theorem dX11_take_16 : decode cX11_take 16 = .ok (.iadd, 1) := by decide +kernel
theorem dX11_take_17 : decode cX11_take 17 = .ok (.aload_n 0, 1) := by decide +kernel
theorem dX11_take_18 : decode cX11_take 18 = .ok (.getfield 20, 3) := by decide +kernel
theorem dX11_take_21 : decode cX11_take 21 = .ok (.iload_n 3, 1) := by decide +kernel
theorem dX11_take_22 : decode cX11_take 22 = .ok (.iaload, 1) := by decide +kernel
theorem dX11_take_23 : decode cX11_take 23 = .ok (.iastore, 1) := by decide +kernel
theorem dX11_take_24 : decode cX11_take 24 = .ok (.iinc 3 1, 3) := by decide +kernel
theorem dX11_take_27 : decode cX11_take 27 = .ok (.goto (-25), 3) := by decide +kernel
theorem dX11_take_30 : decode cX11_take 30 = .ok (.aload_n 0, 1) := by decide +kernel
theorem dX11_take_31 : decode cX11_take 31 = .ok (.iload_n 1, 1) := by decide +kernel
theorem dX11_take_32 : decode cX11_take 32 = .ok (.iload_n 2, 1) := by decide +kernel
theorem dX11_take_33 : decode cX11_take 33 = .ok (.invokevirtual 58, 3) := by decide +kernel
theorem dX11_take_36 : decode cX11_take 36 = .ok (.return_, 1) := by decide +kernel
theorem dX11_times_0 : decode cX11_times 0 = .ok (.aload_n 0, 1) := by decide +kernel
theorem dX11_times_1 : decode cX11_times 1 = .ok (.getfield 14, 3) := by decide +kernel
theorem dX11_times_4 : decode cX11_times 4 = .ok (.iload_n 2, 1) := by decide +kernel
theorem dX11_times_5 : decode cX11_times 5 = .ok (.iaload, 1) := by decide +kernel
theorem dX11_times_6 : decode cX11_times 6 = .ok (.aload_n 0, 1) := by decide +kernel
theorem dX11_times_7 : decode cX11_times 7 = .ok (.getfield 14, 3) := by decide +kernel
theorem dX11_times_10 : decode cX11_times 10 = .ok (.iload_n 3, 1) := by decide +kernel
theorem dX11_times_11 : decode cX11_times 11 = .ok (.iaload, 1) := by decide +kernel
theorem dX11_times_12 : decode cX11_times 12 = .ok (.iadd, 1) := by decide +kernel
theorem dX11_times_13 : decode cX11_times 13 = .ok (.istore 4, 2) := by decide +kernel
theorem dX11_times_15 : decode cX11_times 15 = .ok (.iconst 0, 1) := by decide +kernel
theorem dX11_times_16 : decode cX11_times 16 = .ok (.istore 5, 2) := by decide +kernel
theorem dX11_times_18 : decode cX11_times 18 = .ok (.iload 5, 2) := by decide +kernel
theorem dX11_times_20 : decode cX11_times 20 = .ok (.iload 4, 2) := by decide +kernel
theorem dX11_times_22 : decode cX11_times 22 = .ok (.if_icmp .ge 17, 3) := by decide +kernel
theorem dX11_times_25 : decode cX11_times 25 = .ok (.aload_n 0, 1) := by decide +kernel
theorem dX11_times_26 : decode cX11_times 26 = .ok (.getfield 20, 3) := by decide +kernel
theorem dX11_times_29 : decode cX11_times 29 = .ok (.iload 5, 2) := by decide +kernel
theorem dX11_times_31 : decode cX11_times 31 = .ok (.iconst 0, 1) := by decide +kernel
theorem dX11_times_32 : decode cX11_times 32 = .ok (.iastore, 1) := by decide +kernel
theorem dX11_times_33 : decode cX11_times 33 = .ok (.iinc 5 1, 3) := by decide +kernel
theorem dX11_times_36 : decode cX11_times 36 = .ok (.goto (-18), 3) := by decide +kernel
theorem dX11_times_39 : decode cX11_times 39 = .ok (.iconst 0, 1) := by decide +kernel
theorem dX11_times_40 : decode cX11_times 40 = .ok (.istore 5, 2) := by decide +kernel
theorem dX11_times_42 : decode cX11_times 42 = .ok (.iload 5, 2) := by decide +kernel
theorem dX11_times_44 : decode cX11_times 44 = .ok (.aload_n 0, 1) := by decide +kernel
theorem dX11_times_45 : decode cX11_times 45 = .ok (.getfield 14, 3) := by decide +kernel
theorem dX11_times_48 : decode cX11_times 48 = .ok (.iload_n 2, 1) := by decide +kernel
theorem dX11_times_49 : decode cX11_times 49 = .ok (.iaload, 1) := by decide +kernel
theorem dX11_times_50 : decode cX11_times 50 = .ok (.if_icmp .ge 122, 3) := by decide +kernel
theorem dX11_times_53 : decode cX11_times 53 = .ok (.lconst 0, 1) := by decide +kernel
theorem dX11_times_54 : decode cX11_times 54 = .ok (.lstore 6, 2) := by decide +kernel
theorem dX11_times_56 : decode cX11_times 56 = .ok (.aload_n 0, 1) := by decide +kernel
theorem dX11_times_57 : decode cX11_times 57 = .ok (.getfield 8, 3) := by decide +kernel
theorem dX11_times_60 : decode cX11_times 60 = .ok (.iload_n 2, 1) := by decide +kernel
theorem dX11_times_61 : decode cX11_times 61 = .ok (.invokestatic 43, 3) := by decide +kernel
theorem dX11_times_64 : decode cX11_times 64 = .ok (.iload 5, 2) := by decide +kernel
theorem dX11_times_66 : decode cX11_times 66 = .ok (.iadd, 1) := by decide +kernel
theorem dX11_times_67 : decode cX11_times 67 = .ok (.iaload, 1) := by decide +kernel
theorem dX11_times_68 : decode cX11_times 68 = .ok (.i2l, 1) := by decide +kernel
theorem dX11_times_69 : decode cX11_times 69 = .ok (.lstore 8, 2) := by decide +kernel
theorem dX11_times_71 : decode cX11_times 71 = .ok (.iconst 0, 1) := by decide +kernel
theorem dX11_times_72 : decode cX11_times 72 = .ok (.istore 10, 2) := by decide +kernel
theorem dX11_times_74 : decode cX11_times 74 = .ok (.iload 10, 2) := by decide +kernel
theorem dX11_times_76 : decode cX11_times 76 = .ok (.aload_n 0, 1) := by decide +kernel
theorem dX11_times_77 : decode cX11_times 77 = .ok (.getfield 14, 3) := by decide +kernel
theorem dX11_times_80 : decode cX11_times 80 = .ok (.iload_n 3, 1) := by decide +kernel
theorem dX11_times_81 : decode cX11_times 81 = .ok (.iaload, 1) := by decide +kernel
theorem dX11_times_82 : decode cX11_times 82 = .ok (.if_icmp .ge 67, 3) := by decide +kernel
theorem dX11_times_85 : decode cX11_times 85 = .ok (.lload 8, 2) := by decide +kernel
theorem dX11_times_87 : decode cX11_times 87 = .ok (.aload_n 0, 1) := by decide +kernel
theorem dX11_times_88 : decode cX11_times 88 = .ok (.getfield 8, 3) := by decide +kernel
theorem dX11_times_91 : decode cX11_times 91 = .ok (.iload_n 3, 1) := by decide +kernel
theorem dX11_times_92 : decode cX11_times 92 = .ok (.invokestatic 43, 3) := by decide +kernel
theorem dX11_times_95 : decode cX11_times 95 = .ok (.iload 10, 2) := by decide +kernel
theorem dX11_times_97 : decode cX11_times 97 = .ok (.iadd, 1) := by decide +kernel
theorem dX11_times_98 : decode cX11_times 98 = .ok (.iaload, 1) := by decide +kernel
theorem dX11_times_99 : decode cX11_times 99 = .ok (.i2l, 1) := by decide +kernel
theorem dX11_times_100 : decode cX11_times 100 = .ok (.lmul, 1) := by decide +kernel
theorem dX11_times_101 : decode cX11_times 101 = .ok (.aload_n 0, 1) := by decide +kernel
theorem dX11_times_102 : decode cX11_times 102 = .ok (.getfield 20, 3) := by decide +kernel
theorem dX11_times_105 : decode cX11_times 105 = .ok (.iload 5, 2) := by decide +kernel
theorem dX11_times_107 : decode cX11_times 107 = .ok (.iload 10, 2) := by decide +kernel
theorem dX11_times_109 : decode cX11_times 109 = .ok (.iadd, 1) := by decide +kernel
theorem dX11_times_110 : decode cX11_times 110 = .ok (.iaload, 1) := by decide +kernel
theorem dX11_times_111 : decode cX11_times 111 = .ok (.i2l, 1) := by decide +kernel
theorem dX11_times_112 : decode cX11_times 112 = .ok (.ladd, 1) := by decide +kernel
theorem dX11_times_113 : decode cX11_times 113 = .ok (.lload 6, 2) := by decide +kernel
theorem dX11_times_115 : decode cX11_times 115 = .ok (.ladd, 1) := by decide +kernel
theorem dX11_times_116 : decode cX11_times 116 = .ok (.lstore 11, 2) := by decide +kernel
theorem dX11_times_118 : decode cX11_times 118 = .ok (.aload_n 0, 1) := by decide +kernel
theorem dX11_times_119 : decode cX11_times 119 = .ok (.getfield 20, 3) := by decide +kernel
theorem dX11_times_122 : decode cX11_times 122 = .ok (.iload 5, 2) := by decide +kernel
theorem dX11_times_124 : decode cX11_times 124 = .ok (.iload 10, 2) := by decide +kernel
theorem dX11_times_126 : decode cX11_times 126 = .ok (.iadd, 1) := by decide +kernel
theorem dX11_times_127 : decode cX11_times 127 = .ok (.lload 11, 2) := by decide +kernel
theorem dX11_times_129 : decode cX11_times 129 = .ok (.ldc2_w 47, 3) := by decide +kernel
theorem dX11_times_132 : decode cX11_times 132 = .ok (.lrem, 1) := by decide +kernel
theorem dX11_times_133 : decode cX11_times 133 = .ok (.l2i, 1) := by decide +kernel
theorem dX11_times_134 : decode cX11_times 134 = .ok (.iastore, 1) := by decide +kernel
theorem dX11_times_135 : decode cX11_times 135 = .ok (.lload 11, 2) := by decide +kernel
theorem dX11_times_137 : decode cX11_times 137 = .ok (.ldc2_w 47, 3) := by decide +kernel
theorem dX11_times_140 : decode cX11_times 140 = .ok (.ldiv, 1) := by decide +kernel
theorem dX11_times_141 : decode cX11_times 141 = .ok (.lstore 6, 2) := by decide +kernel
theorem dX11_times_143 : decode cX11_times 143 = .ok (.iinc 10 1, 3) := by decide +kernel
theorem dX11_times_146 : decode cX11_times 146 = .ok (.goto (-72), 3) := by decide +kernel
theorem dX11_times_149 : decode cX11_times 149 = .ok (.aload_n 0, 1) := by decide +kernel
theorem dX11_times_150 : decode cX11_times 150 = .ok (.getfield 20, 3) := by decide +kernel
theorem dX11_times_153 : decode cX11_times 153 = .ok (.iload 5, 2) := by decide +kernel
theorem dX11_times_155 : decode cX11_times 155 = .ok (.aload_n 0, 1) := by decide +kernel
theorem dX11_times_156 : decode cX11_times 156 = .ok (.getfield 14, 3) := by decide +kernel
theorem dX11_times_159 : decode cX11_times 159 = .ok (.iload_n 3, 1) := by decide +kernel
theorem dX11_times_160 : decode cX11_times 160 = .ok (.iaload, 1) := by decide +kernel
theorem dX11_times_161 : decode cX11_times 161 = .ok (.iadd, 1) := by decide +kernel
theorem dX11_times_162 : decode cX11_times 162 = .ok (.lload 6, 2) := by decide +kernel
theorem dX11_times_164 : decode cX11_times 164 = .ok (.l2i, 1) := by decide +kernel
theorem dX11_times_165 : decode cX11_times 165 = .ok (.iastore, 1) := by decide +kernel
theorem dX11_times_166 : decode cX11_times 166 = .ok (.iinc 5 1, 3) := by decide +kernel
theorem dX11_times_169 : decode cX11_times 169 = .ok (.goto (-127), 3) := by decide +kernel
theorem dX11_times_172 : decode cX11_times 172 = .ok (.aload_n 0, 1) := by decide +kernel
theorem dX11_times_173 : decode cX11_times 173 = .ok (.iload_n 1, 1) := by decide +kernel
theorem dX11_times_174 : decode cX11_times 174 = .ok (.iload 4, 2) := by decide +kernel
theorem dX11_times_176 : decode cX11_times 176 = .ok (.invokevirtual 54, 3) := by decide +kernel
theorem dX11_times_179 : decode cX11_times 179 = .ok (.return_, 1) := by decide +kernel
theorem dX11_shortDivide_0 : decode cX11_shortDivide 0 = .ok (.lconst 0, 1) := by decide +kernel
theorem dX11_shortDivide_1 : decode cX11_shortDivide 1 = .ok (.lstore 5, 2) := by decide +kernel
theorem dX11_shortDivide_3 : decode cX11_shortDivide 3 = .ok (.aload_n 0, 1) := by decide +kernel
theorem dX11_shortDivide_4 : decode cX11_shortDivide 4 = .ok (.getfield 14, 3) := by decide +kernel
theorem dX11_shortDivide_7 : decode cX11_shortDivide 7 = .ok (.iload_n 3, 1) := by decide +kernel
theorem dX11_shortDivide_8 : decode cX11_shortDivide 8 = .ok (.iaload, 1) := by decide +kernel
theorem dX11_shortDivide_9 : decode cX11_shortDivide 9 = .ok (.istore 7, 2) := by decide +kernel
theorem dX11_shortDivide_11 : decode cX11_shortDivide 11 = .ok (.aload_n 0, 1) := by decide +kernel
theorem dX11_shortDivide_12 : decode cX11_shortDivide 12 = .ok (.getfield 8, 3) := by decide +kernel
theorem dX11_shortDivide_15 : decode cX11_shortDivide 15 = .ok (.iload 4, 2) := by decide +kernel
theorem dX11_shortDivide_17 : decode cX11_shortDivide 17 = .ok (.invokestatic 43, 3) := by decide +kernel
theorem dX11_shortDivide_20 : decode cX11_shortDivide 20 = .ok (.iaload, 1) := by decide +kernel
theorem dX11_shortDivide_21 : decode cX11_shortDivide 21 = .ok (.i2l, 1) := by decide +kernel
theorem dX11_shortDivide_22 : decode cX11_shortDivide 22 = .ok (.lstore 8, 2) := by decide +kernel
theorem dX11_shortDivide_24 : decode cX11_shortDivide 24 = .ok (.iload 7, 2) := by decide +kernel
theorem dX11_shortDivide_26 : decode cX11_shortDivide 26 = .ok (.iconst 1, 1) := by decide +kernel
theorem dX11_shortDivide_27 : decode cX11_shortDivide 27 = .ok (.isub, 1) := by decide +kernel
theorem dX11_shortDivide_28 : decode cX11_shortDivide 28 = .ok (.istore 10, 2) := by decide +kernel
theorem dX11_shortDivide_30 : decode cX11_shortDivide 30 = .ok (.iload 10, 2) := by decide +kernel
theorem dX11_shortDivide_32 : decode cX11_shortDivide 32 = .ok (.ifCond .lt 51, 3) := by decide +kernel
theorem dX11_shortDivide_35 : decode cX11_shortDivide 35 = .ok (.lload 5, 2) := by decide +kernel
theorem dX11_shortDivide_37 : decode cX11_shortDivide 37 = .ok (.ldc2_w 47, 3) := by decide +kernel
theorem dX11_shortDivide_40 : decode cX11_shortDivide 40 = .ok (.lmul, 1) := by decide +kernel
theorem dX11_shortDivide_41 : decode cX11_shortDivide 41 = .ok (.aload_n 0, 1) := by decide +kernel
theorem dX11_shortDivide_42 : decode cX11_shortDivide 42 = .ok (.getfield 8, 3) := by decide +kernel
theorem dX11_shortDivide_45 : decode cX11_shortDivide 45 = .ok (.iload_n 3, 1) := by decide +kernel
theorem dX11_shortDivide_46 : decode cX11_shortDivide 46 = .ok (.invokestatic 43, 3) := by decide +kernel
theorem dX11_shortDivide_49 : decode cX11_shortDivide 49 = .ok (.iload 10, 2) := by decide +kernel
theorem dX11_shortDivide_51 : decode cX11_shortDivide 51 = .ok (.iadd, 1) := by decide +kernel
theorem dX11_shortDivide_52 : decode cX11_shortDivide 52 = .ok (.iaload, 1) := by decide +kernel
theorem dX11_shortDivide_53 : decode cX11_shortDivide 53 = .ok (.i2l, 1) := by decide +kernel
theorem dX11_shortDivide_54 : decode cX11_shortDivide 54 = .ok (.ladd, 1) := by decide +kernel
theorem dX11_shortDivide_55 : decode cX11_shortDivide 55 = .ok (.lstore 11, 2) := by decide +kernel
theorem dX11_shortDivide_57 : decode cX11_shortDivide 57 = .ok (.aload_n 0, 1) := by decide +kernel
theorem dX11_shortDivide_58 : decode cX11_shortDivide 58 = .ok (.getfield 20, 3) := by decide +kernel
theorem dX11_shortDivide_61 : decode cX11_shortDivide 61 = .ok (.iload 10, 2) := by decide +kernel
theorem dX11_shortDivide_63 : decode cX11_shortDivide 63 = .ok (.lload 11, 2) := by decide +kernel
theorem dX11_shortDivide_65 : decode cX11_shortDivide 65 = .ok (.lload 8, 2) := by decide +kernel
theorem dX11_shortDivide_67 : decode cX11_shortDivide 67 = .ok (.ldiv, 1) := by decide +kernel
theorem dX11_shortDivide_68 : decode cX11_shortDivide 68 = .ok (.l2i, 1) := by decide +kernel
theorem dX11_shortDivide_69 : decode cX11_shortDivide 69 = .ok (.iastore, 1) := by decide +kernel
theorem dX11_shortDivide_70 : decode cX11_shortDivide 70 = .ok (.lload 11, 2) := by decide +kernel
theorem dX11_shortDivide_72 : decode cX11_shortDivide 72 = .ok (.lload 8, 2) := by decide +kernel
theorem dX11_shortDivide_74 : decode cX11_shortDivide 74 = .ok (.lrem, 1) := by decide +kernel
theorem dX11_shortDivide_75 : decode cX11_shortDivide 75 = .ok (.lstore 5, 2) := by decide +kernel
theorem dX11_shortDivide_77 : decode cX11_shortDivide 77 = .ok (.iinc 10 (-1), 3) := by decide +kernel
theorem dX11_shortDivide_80 : decode cX11_shortDivide 80 = .ok (.goto (-50), 3) := by decide +kernel
theorem dX11_shortDivide_83 : decode cX11_shortDivide 83 = .ok (.aload_n 0, 1) := by decide +kernel
theorem dX11_shortDivide_84 : decode cX11_shortDivide 84 = .ok (.iload_n 1, 1) := by decide +kernel
theorem dX11_shortDivide_85 : decode cX11_shortDivide 85 = .ok (.iload 7, 2) := by decide +kernel
theorem dX11_shortDivide_87 : decode cX11_shortDivide 87 = .ok (.invokevirtual 54, 3) := by decide +kernel
theorem dX11_shortDivide_90 : decode cX11_shortDivide 90 = .ok (.aload_n 0, 1) := by decide +kernel
theorem dX11_shortDivide_91 : decode cX11_shortDivide 91 = .ok (.iload_n 2, 1) := by decide +kernel
theorem dX11_shortDivide_92 : decode cX11_shortDivide 92 = .ok (.lload 5, 2) := by decide +kernel
theorem dX11_shortDivide_94 : decode cX11_shortDivide 94 = .ok (.invokevirtual 61, 3) := by decide +kernel
theorem dX11_shortDivide_97 : decode cX11_shortDivide 97 = .ok (.return_, 1) := by decide +kernel
theorem dX11_divide_0 : decode cX11_divide 0 = .ok (.aload_n 0, 1) := by decide +kernel
theorem dX11_divide_1 : decode cX11_divide 1 = .ok (.iload_n 3, 1) := by decide +kernel
theorem dX11_divide_2 : decode cX11_divide 2 = .ok (.iload 4, 2) := by decide +kernel
theorem dX11_divide_4 : decode cX11_divide 4 = .ok (.invokevirtual 65, 3) := by decide +kernel
theorem dX11_divide_7 : decode cX11_divide 7 = .ok (.ifCond .ge 22, 3) := by decide +kernel
theorem dX11_divide_10 : decode cX11_divide 10 = .ok (.iload_n 2, 1) := by decide +kernel
theorem dX11_divide_11 : decode cX11_divide 11 = .ok (.iload_n 3, 1) := by decide +kernel
theorem dX11_divide_12 : decode cX11_divide 12 = .ok (.if_icmp .eq 9, 3) := by decide +kernel
theorem dX11_divide_15 : decode cX11_divide 15 = .ok (.aload_n 0, 1) := by decide +kernel
theorem dX11_divide_16 : decode cX11_divide 16 = .ok (.iload_n 2, 1) := by decide +kernel
theorem dX11_divide_17 : decode cX11_divide 17 = .ok (.iload_n 3, 1) := by decide +kernel
theorem dX11_divide_18 : decode cX11_divide 18 = .ok (.invokevirtual 68, 3) := by decide +kernel
theorem dX11_divide_21 : decode cX11_divide 21 = .ok (.aload_n 0, 1) := by decide +kernel
theorem dX11_divide_22 : decode cX11_divide 22 = .ok (.getfield 14, 3) := by decide +kernel
theorem dX11_divide_25 : decode cX11_divide 25 = .ok (.iload_n 1, 1) := by decide +kernel
theorem dX11_divide_26 : decode cX11_divide 26 = .ok (.iconst 0, 1) := by decide +kernel
theorem dX11_divide_27 : decode cX11_divide 27 = .ok (.iastore, 1) := by decide +kernel
theorem dX11_divide_28 : decode cX11_divide 28 = .ok (.return_, 1) := by decide +kernel
theorem dX11_divide_29 : decode cX11_divide 29 = .ok (.aload_n 0, 1) := by decide +kernel
theorem dX11_divide_30 : decode cX11_divide 30 = .ok (.getfield 14, 3) := by decide +kernel
theorem dX11_divide_33 : decode cX11_divide 33 = .ok (.iload 4, 2) := by decide +kernel
theorem dX11_divide_35 : decode cX11_divide 35 = .ok (.iaload, 1) := by decide +kernel
theorem dX11_divide_36 : decode cX11_divide 36 = .ok (.iconst 1, 1) := by decide +kernel
theorem dX11_divide_37 : decode cX11_divide 37 = .ok (.if_icmp .ne 13, 3) := by decide +kernel
theorem dX11_divide_40 : decode cX11_divide 40 = .ok (.aload_n 0, 1) := by decide +kernel
theorem dX11_divide_41 : decode cX11_divide 41 = .ok (.iload_n 1, 1) := by decide +kernel
theorem dX11_divide_42 : decode cX11_divide 42 = .ok (.iload_n 2, 1) := by decide +kernel
theorem dX11_divide_43 : decode cX11_divide 43 = .ok (.iload_n 3, 1) := by decide +kernel
theorem dX11_divide_44 : decode cX11_divide 44 = .ok (.iload 4, 2) := by decide +kernel
theorem dX11_divide_46 : decode cX11_divide 46 = .ok (.invokevirtual 71, 3) := by decide +kernel
theorem dX11_divide_49 : decode cX11_divide 49 = .ok (.return_, 1) := by decide +kernel
theorem dX11_divide_50 : decode cX11_divide 50 = .ok (.aload_n 0, 1) := by decide +kernel
theorem dX11_divide_51 : decode cX11_divide 51 = .ok (.getfield 14, 3) := by decide +kernel
theorem dX11_divide_54 : decode cX11_divide 54 = .ok (.iload 4, 2) := by decide +kernel
theorem dX11_divide_56 : decode cX11_divide 56 = .ok (.iaload, 1) := by decide +kernel
theorem dX11_divide_57 : decode cX11_divide 57 = .ok (.istore 5, 2) := by decide +kernel
theorem dX11_divide_59 : decode cX11_divide 59 = .ok (.aload_n 0, 1) := by decide +kernel
theorem dX11_divide_60 : decode cX11_divide 60 = .ok (.getfield 14, 3) := by decide +kernel
theorem dX11_divide_63 : decode cX11_divide 63 = .ok (.iload_n 3, 1) := by decide +kernel
theorem dX11_divide_64 : decode cX11_divide 64 = .ok (.iaload, 1) := by decide +kernel
theorem dX11_divide_65 : decode cX11_divide 65 = .ok (.istore 6, 2) := by decide +kernel
theorem dX11_divide_67 : decode cX11_divide 67 = .ok (.iconst 0, 1) := by decide +kernel
theorem dX11_divide_68 : decode cX11_divide 68 = .ok (.istore 7, 2) := by decide +kernel
theorem dX11_divide_70 : decode cX11_divide 70 = .ok (.aload_n 0, 1) := by decide +kernel
theorem dX11_divide_71 : decode cX11_divide 71 = .ok (.getfield 8, 3) := by decide +kernel
theorem dX11_divide_74 : decode cX11_divide 74 = .ok (.iload 4, 2) := by decide +kernel
theorem dX11_divide_76 : decode cX11_divide 76 = .ok (.invokestatic 43, 3) := by decide +kernel
theorem dX11_divide_79 : decode cX11_divide 79 = .ok (.iload 5, 2) := by decide +kernel
theorem dX11_divide_81 : decode cX11_divide 81 = .ok (.iadd, 1) := by decide +kernel
theorem dX11_divide_82 : decode cX11_divide 82 = .ok (.iconst 1, 1) := by decide +kernel
theorem dX11_divide_83 : decode cX11_divide 83 = .ok (.isub, 1) := by decide +kernel
theorem dX11_divide_84 : decode cX11_divide 84 = .ok (.iaload, 1) := by decide +kernel
theorem dX11_divide_85 : decode cX11_divide 85 = .ok (.iload 7, 2) := by decide +kernel
theorem dX11_divide_87 : decode cX11_divide 87 = .ok (.ishl, 1) := by decide +kernel
theorem dX11_divide_88 : decode cX11_divide 88 = .ok (.ldc 75, 2) := by decide +kernel
theorem dX11_divide_90 : decode cX11_divide 90 = .ok (.iand, 1) := by decide +kernel
theorem dX11_divide_91 : decode cX11_divide 91 = .ok (.ifCond .ne 9, 3) := by decide +kernel
theorem dX11_divide_94 : decode cX11_divide 94 = .ok (.iinc 7 1, 3) := by decide +kernel
theorem dX11_divide_97 : decode cX11_divide 97 = .ok (.goto (-27), 3) := by decide +kernel
theorem dX11_divide_100 : decode cX11_divide 100 = .ok (.aload_n 0, 1) := by decide +kernel
theorem dX11_divide_101 : decode cX11_divide 101 = .ok (.getfield 20, 3) := by decide +kernel
theorem dX11_divide_104 : decode cX11_divide 104 = .ok (.iload 6, 2) := by decide +kernel
theorem dX11_divide_106 : decode cX11_divide 106 = .ok (.aload_n 0, 1) := by decide +kernel
theorem dX11_divide_107 : decode cX11_divide 107 = .ok (.getfield 8, 3) := by decide +kernel
theorem dX11_divide_110 : decode cX11_divide 110 = .ok (.iload_n 3, 1) := by decide +kernel
theorem dX11_divide_111 : decode cX11_divide 111 = .ok (.invokestatic 43, 3) := by decide +kernel
theorem dX11_divide_114 : decode cX11_divide 114 = .ok (.iload 6, 2) := by decide +kernel
theorem dX11_divide_116 : decode cX11_divide 116 = .ok (.iadd, 1) := by decide +kernel
theorem dX11_divide_117 : decode cX11_divide 117 = .ok (.iconst 1, 1) := by decide +kernel
theorem dX11_divide_118 : decode cX11_divide 118 = .ok (.isub, 1) := by decide +kernel
theorem dX11_divide_119 : decode cX11_divide 119 = .ok (.iaload, 1) := by decide +kernel
theorem dX11_divide_120 : decode cX11_divide 120 = .ok (.bipush 16, 2) := by decide +kernel
theorem dX11_divide_122 : decode cX11_divide 122 = .ok (.iload 7, 2) := by decide +kernel
theorem dX11_divide_124 : decode cX11_divide 124 = .ok (.isub, 1) := by decide +kernel
theorem dX11_divide_125 : decode cX11_divide 125 = .ok (.ishr, 1) := by decide +kernel
theorem dX11_divide_126 : decode cX11_divide 126 = .ok (.iastore, 1) := by decide +kernel
theorem dX11_divide_127 : decode cX11_divide 127 = .ok (.iload 6, 2) := by decide +kernel
theorem dX11_divide_129 : decode cX11_divide 129 = .ok (.iconst 1, 1) := by decide +kernel
theorem dX11_divide_130 : decode cX11_divide 130 = .ok (.isub, 1) := by decide +kernel
theorem dX11_divide_131 : decode cX11_divide 131 = .ok (.istore 8, 2) := by decide +kernel
theorem dX11_divide_133 : decode cX11_divide 133 = .ok (.iload 8, 2) := by decide +kernel
theorem dX11_divide_135 : decode cX11_divide 135 = .ok (.ifCond .lt 68, 3) := by decide +kernel
theorem dX11_divide_138 : decode cX11_divide 138 = .ok (.iload 8, 2) := by decide +kernel
theorem dX11_divide_140 : decode cX11_divide 140 = .ok (.ifCond .le 26, 3) := by decide +kernel
theorem dX11_divide_143 : decode cX11_divide 143 = .ok (.aload_n 0, 1) := by decide +kernel
theorem dX11_divide_144 : decode cX11_divide 144 = .ok (.getfield 8, 3) := by decide +kernel
theorem dX11_divide_147 : decode cX11_divide 147 = .ok (.iload_n 3, 1) := by decide +kernel
theorem dX11_divide_148 : decode cX11_divide 148 = .ok (.invokestatic 43, 3) := by decide +kernel
theorem dX11_divide_151 : decode cX11_divide 151 = .ok (.iload 8, 2) := by decide +kernel
theorem dX11_divide_153 : decode cX11_divide 153 = .ok (.iadd, 1) := by decide +kernel
theorem dX11_divide_154 : decode cX11_divide 154 = .ok (.iconst 1, 1) := by decide +kernel
theorem dX11_divide_155 : decode cX11_divide 155 = .ok (.isub, 1) := by decide +kernel
theorem dX11_divide_156 : decode cX11_divide 156 = .ok (.iaload, 1) := by decide +kernel
theorem dX11_divide_157 : decode cX11_divide 157 = .ok (.bipush 16, 2) := by decide +kernel
theorem dX11_divide_159 : decode cX11_divide 159 = .ok (.iload 7, 2) := by decide +kernel
theorem dX11_divide_161 : decode cX11_divide 161 = .ok (.isub, 1) := by decide +kernel
theorem dX11_divide_162 : decode cX11_divide 162 = .ok (.ishr, 1) := by decide +kernel
theorem dX11_divide_163 : decode cX11_divide 163 = .ok (.goto 4, 3) := by decide +kernel
theorem dX11_divide_166 : decode cX11_divide 166 = .ok (.iconst 0, 1) := by decide +kernel
theorem dX11_divide_167 : decode cX11_divide 167 = .ok (.istore 9, 2) := by decide +kernel
theorem dX11_divide_169 : decode cX11_divide 169 = .ok (.aload_n 0, 1) := by decide +kernel
theorem dX11_divide_170 : decode cX11_divide 170 = .ok (.getfield 20, 3) := by decide +kernel
theorem dX11_divide_173 : decode cX11_divide 173 = .ok (.iload 8, 2) := by decide +kernel
theorem dX11_divide_175 : decode cX11_divide 175 = .ok (.aload_n 0, 1) := by decide +kernel
theorem dX11_divide_176 : decode cX11_divide 176 = .ok (.getfield 8, 3) := by decide +kernel
theorem dX11_divide_179 : decode cX11_divide 179 = .ok (.iload_n 3, 1) := by decide +kernel
theorem dX11_divide_180 : decode cX11_divide 180 = .ok (.invokestatic 43, 3) := by decide +kernel
theorem dX11_divide_183 : decode cX11_divide 183 = .ok (.iload 8, 2) := by decide +kernel
theorem dX11_divide_185 : decode cX11_divide 185 = .ok (.iadd, 1) := by decide +kernel
theorem dX11_divide_186 : decode cX11_divide 186 = .ok (.iaload, 1) := by decide +kernel
theorem dX11_divide_187 : decode cX11_divide 187 = .ok (.iload 7, 2) := by decide +kernel
theorem dX11_divide_189 : decode cX11_divide 189 = .ok (.ishl, 1) := by decide +kernel
theorem dX11_divide_190 : decode cX11_divide 190 = .ok (.iload 9, 2) := by decide +kernel
theorem dX11_divide_192 : decode cX11_divide 192 = .ok (.ior, 1) := by decide +kernel
theorem dX11_divide_193 : decode cX11_divide 193 = .ok (.ldc 53, 2) := by decide +kernel
theorem dX11_divide_195 : decode cX11_divide 195 = .ok (.iand, 1) := by decide +kernel
theorem dX11_divide_196 : decode cX11_divide 196 = .ok (.iastore, 1) := by decide +kernel
theorem dX11_divide_197 : decode cX11_divide 197 = .ok (.iinc 8 (-1), 3) := by decide +kernel
theorem dX11_divide_200 : decode cX11_divide 200 = .ok (.goto (-67), 3) := by decide +kernel
theorem dX11_divide_203 : decode cX11_divide 203 = .ok (.iload 5, 2) := by decide +kernel
theorem dX11_divide_205 : decode cX11_divide 205 = .ok (.iconst 1, 1) := by decide +kernel
theorem dX11_divide_206 : decode cX11_divide 206 = .ok (.isub, 1) := by decide +kernel
theorem dX11_divide_207 : decode cX11_divide 207 = .ok (.istore 8, 2) := by decide +kernel
theorem dX11_divide_209 : decode cX11_divide 209 = .ok (.iload 8, 2) := by decide +kernel
theorem dX11_divide_211 : decode cX11_divide 211 = .ok (.ifCond .lt 70, 3) := by decide +kernel
theorem dX11_divide_214 : decode cX11_divide 214 = .ok (.iload 8, 2) := by decide +kernel
theorem dX11_divide_216 : decode cX11_divide 216 = .ok (.ifCond .le 27, 3) := by decide +kernel
theorem dX11_divide_219 : decode cX11_divide 219 = .ok (.aload_n 0, 1) := by decide +kernel
theorem dX11_divide_220 : decode cX11_divide 220 = .ok (.getfield 8, 3) := by decide +kernel
theorem dX11_divide_223 : decode cX11_divide 223 = .ok (.iload 4, 2) := by decide +kernel
theorem dX11_divide_225 : decode cX11_divide 225 = .ok (.invokestatic 43, 3) := by decide +kernel
theorem dX11_divide_228 : decode cX11_divide 228 = .ok (.iload 8, 2) := by decide +kernel
theorem dX11_divide_230 : decode cX11_divide 230 = .ok (.iadd, 1) := by decide +kernel
theorem dX11_divide_231 : decode cX11_divide 231 = .ok (.iconst 1, 1) := by decide +kernel
theorem dX11_divide_232 : decode cX11_divide 232 = .ok (.isub, 1) := by decide +kernel
theorem dX11_divide_233 : decode cX11_divide 233 = .ok (.iaload, 1) := by decide +kernel
theorem dX11_divide_234 : decode cX11_divide 234 = .ok (.bipush 16, 2) := by decide +kernel
theorem dX11_divide_236 : decode cX11_divide 236 = .ok (.iload 7, 2) := by decide +kernel
theorem dX11_divide_238 : decode cX11_divide 238 = .ok (.isub, 1) := by decide +kernel
theorem dX11_divide_239 : decode cX11_divide 239 = .ok (.ishr, 1) := by decide +kernel
theorem dX11_divide_240 : decode cX11_divide 240 = .ok (.goto 4, 3) := by decide +kernel
theorem dX11_divide_243 : decode cX11_divide 243 = .ok (.iconst 0, 1) := by decide +kernel
theorem dX11_divide_244 : decode cX11_divide 244 = .ok (.istore 9, 2) := by decide +kernel
theorem dX11_divide_246 : decode cX11_divide 246 = .ok (.aload_n 0, 1) := by decide +kernel
theorem dX11_divide_247 : decode cX11_divide 247 = .ok (.getfield 23, 3) := by decide +kernel
theorem dX11_divide_250 : decode cX11_divide 250 = .ok (.iload 8, 2) := by decide +kernel
theorem dX11_divide_252 : decode cX11_divide 252 = .ok (.aload_n 0, 1) := by decide +kernel
theorem dX11_divide_253 : decode cX11_divide 253 = .ok (.getfield 8, 3) := by decide +kernel
theorem dX11_divide_256 : decode cX11_divide 256 = .ok (.iload 4, 2) := by decide +kernel
theorem dX11_divide_258 : decode cX11_divide 258 = .ok (.invokestatic 43, 3) := by decide +kernel
theorem dX11_divide_261 : decode cX11_divide 261 = .ok (.iload 8, 2) := by decide +kernel
theorem dX11_divide_263 : decode cX11_divide 263 = .ok (.iadd, 1) := by decide +kernel
theorem dX11_divide_264 : decode cX11_divide 264 = .ok (.iaload, 1) := by decide +kernel
theorem dX11_divide_265 : decode cX11_divide 265 = .ok (.iload 7, 2) := by decide +kernel
theorem dX11_divide_267 : decode cX11_divide 267 = .ok (.ishl, 1) := by decide +kernel
theorem dX11_divide_268 : decode cX11_divide 268 = .ok (.iload 9, 2) := by decide +kernel
theorem dX11_divide_270 : decode cX11_divide 270 = .ok (.ior, 1) := by decide +kernel
theorem dX11_divide_271 : decode cX11_divide 271 = .ok (.ldc 53, 2) := by decide +kernel
theorem dX11_divide_273 : decode cX11_divide 273 = .ok (.iand, 1) := by decide +kernel
theorem dX11_divide_274 : decode cX11_divide 274 = .ok (.iastore, 1) := by decide +kernel
theorem dX11_divide_275 : decode cX11_divide 275 = .ok (.iinc 8 (-1), 3) := by decide +kernel
theorem dX11_divide_278 : decode cX11_divide 278 = .ok (.goto (-69), 3) := by decide +kernel
theorem dX11_divide_281 : decode cX11_divide 281 = .ok (.iload 6, 2) := by decide +kernel
theorem dX11_divide_283 : decode cX11_divide 283 = .ok (.iload 5, 2) := by decide +kernel
theorem dX11_divide_285 : decode cX11_divide 285 = .ok (.isub, 1) := by decide +kernel
theorem dX11_divide_286 : decode cX11_divide 286 = .ok (.istore 8, 2) := by decide +kernel
theorem dX11_divide_288 : decode cX11_divide 288 = .ok (.iload 8, 2) := by decide +kernel
theorem dX11_divide_290 : decode cX11_divide 290 = .ok (.ifCond .lt 172, 3) := by decide +kernel
theorem dX11_divide_293 : decode cX11_divide 293 = .ok (.aload_n 0, 1) := by decide +kernel
theorem dX11_divide_294 : decode cX11_divide 294 = .ok (.getfield 20, 3) := by decide +kernel
theorem dX11_divide_297 : decode cX11_divide 297 = .ok (.iload 8, 2) := by decide +kernel
theorem dX11_divide_299 : decode cX11_divide 299 = .ok (.iload 5, 2) := by decide +kernel
theorem dX11_divide_301 : decode cX11_divide 301 = .ok (.iadd, 1) := by decide +kernel
theorem dX11_divide_302 : decode cX11_divide 302 = .ok (.iaload, 1) := by decide +kernel
theorem dX11_divide_303 : decode cX11_divide 303 = .ok (.i2l, 1) := by decide +kernel
theorem dX11_divide_304 : decode cX11_divide 304 = .ok (.ldc2_w 47, 3) := by decide +kernel
theorem dX11_divide_307 : decode cX11_divide 307 = .ok (.lmul, 1) := by decide +kernel
theorem dX11_divide_308 : decode cX11_divide 308 = .ok (.aload_n 0, 1) := by decide +kernel
theorem dX11_divide_309 : decode cX11_divide 309 = .ok (.getfield 20, 3) := by decide +kernel
theorem dX11_divide_312 : decode cX11_divide 312 = .ok (.iload 8, 2) := by decide +kernel
theorem dX11_divide_314 : decode cX11_divide 314 = .ok (.iload 5, 2) := by decide +kernel
theorem dX11_divide_316 : decode cX11_divide 316 = .ok (.iadd, 1) := by decide +kernel
theorem dX11_divide_317 : decode cX11_divide 317 = .ok (.iconst 1, 1) := by decide +kernel
theorem dX11_divide_318 : decode cX11_divide 318 = .ok (.isub, 1) := by decide +kernel
theorem dX11_divide_319 : decode cX11_divide 319 = .ok (.iaload, 1) := by decide +kernel
theorem dX11_divide_320 : decode cX11_divide 320 = .ok (.i2l, 1) := by decide +kernel
theorem dX11_divide_321 : decode cX11_divide 321 = .ok (.ladd, 1) := by decide +kernel
theorem dX11_divide_322 : decode cX11_divide 322 = .ok (.lstore 9, 2) := by decide +kernel
theorem dX11_divide_324 : decode cX11_divide 324 = .ok (.lload 9, 2) := by decide +kernel
theorem dX11_divide_326 : decode cX11_divide 326 = .ok (.aload_n 0, 1) := by decide +kernel
theorem dX11_divide_327 : decode cX11_divide 327 = .ok (.getfield 23, 3) := by decide +kernel
theorem dX11_divide_330 : decode cX11_divide 330 = .ok (.iload 5, 2) := by decide +kernel
theorem dX11_divide_332 : decode cX11_divide 332 = .ok (.iconst 1, 1) := by decide +kernel
theorem dX11_divide_333 : decode cX11_divide 333 = .ok (.isub, 1) := by decide +kernel
theorem dX11_divide_334 : decode cX11_divide 334 = .ok (.iaload, 1) := by decide +kernel
theorem dX11_divide_335 : decode cX11_divide 335 = .ok (.i2l, 1) := by decide +kernel
theorem dX11_divide_336 : decode cX11_divide 336 = .ok (.ldiv, 1) := by decide +kernel
theorem dX11_divide_337 : decode cX11_divide 337 = .ok (.lstore 11, 2) := by decide +kernel
theorem dX11_divide_339 : decode cX11_divide 339 = .ok (.lload 9, 2) := by decide +kernel
theorem dX11_divide_341 : decode cX11_divide 341 = .ok (.aload_n 0, 1) := by decide +kernel
theorem dX11_divide_342 : decode cX11_divide 342 = .ok (.getfield 23, 3) := by decide +kernel
theorem dX11_divide_345 : decode cX11_divide 345 = .ok (.iload 5, 2) := by decide +kernel
theorem dX11_divide_347 : decode cX11_divide 347 = .ok (.iconst 1, 1) := by decide +kernel
theorem dX11_divide_348 : decode cX11_divide 348 = .ok (.isub, 1) := by decide +kernel
theorem dX11_divide_349 : decode cX11_divide 349 = .ok (.iaload, 1) := by decide +kernel
theorem dX11_divide_350 : decode cX11_divide 350 = .ok (.i2l, 1) := by decide +kernel
theorem dX11_divide_351 : decode cX11_divide 351 = .ok (.lrem, 1) := by decide +kernel
theorem dX11_divide_352 : decode cX11_divide 352 = .ok (.lstore 13, 2) := by decide +kernel
theorem dX11_divide_354 : decode cX11_divide 354 = .ok (.lload 11, 2) := by decide +kernel
theorem dX11_divide_356 : decode cX11_divide 356 = .ok (.ldc2_w 47, 3) := by decide +kernel
theorem dX11_divide_359 : decode cX11_divide 359 = .ok (.lcmp, 1) := by decide +kernel
theorem dX11_divide_360 : decode cX11_divide 360 = .ok (.ifCond .ge 49, 3) := by decide +kernel
theorem dX11_divide_363 : decode cX11_divide 363 = .ok (.lload 13, 2) := by decide +kernel
theorem dX11_divide_365 : decode cX11_divide 365 = .ok (.ldc2_w 47, 3) := by decide +kernel
theorem dX11_divide_368 : decode cX11_divide 368 = .ok (.lcmp, 1) := by decide +kernel
theorem dX11_divide_369 : decode cX11_divide 369 = .ok (.ifCond .ge 64, 3) := by decide +kernel
theorem dX11_divide_372 : decode cX11_divide 372 = .ok (.lload 11, 2) := by decide +kernel
theorem dX11_divide_374 : decode cX11_divide 374 = .ok (.aload_n 0, 1) := by decide +kernel
theorem dX11_divide_375 : decode cX11_divide 375 = .ok (.getfield 23, 3) := by decide +kernel
theorem dX11_divide_378 : decode cX11_divide 378 = .ok (.iload 5, 2) := by decide +kernel
theorem dX11_divide_380 : decode cX11_divide 380 = .ok (.iconst 2, 1) := by decide +kernel
theorem dX11_divide_381 : decode cX11_divide 381 = .ok (.isub, 1) := by decide +kernel
theorem dX11_divide_382 : decode cX11_divide 382 = .ok (.iaload, 1) := by decide +kernel
theorem dX11_divide_383 : decode cX11_divide 383 = .ok (.i2l, 1) := by decide +kernel
theorem dX11_divide_384 : decode cX11_divide 384 = .ok (.lmul, 1) := by decide +kernel
theorem dX11_divide_385 : decode cX11_divide 385 = .ok (.lload 13, 2) := by decide +kernel
theorem dX11_divide_387 : decode cX11_divide 387 = .ok (.ldc2_w 47, 3) := by decide +kernel
theorem dX11_divide_390 : decode cX11_divide 390 = .ok (.lmul, 1) := by decide +kernel
theorem dX11_divide_391 : decode cX11_divide 391 = .ok (.aload_n 0, 1) := by decide +kernel
theorem dX11_divide_392 : decode cX11_divide 392 = .ok (.getfield 20, 3) := by decide +kernel
theorem dX11_divide_395 : decode cX11_divide 395 = .ok (.iload 8, 2) := by decide +kernel
theorem dX11_divide_397 : decode cX11_divide 397 = .ok (.iload 5, 2) := by decide +kernel
theorem dX11_divide_399 : decode cX11_divide 399 = .ok (.iadd, 1) := by decide +kernel
theorem dX11_divide_400 : decode cX11_divide 400 = .ok (.iconst 2, 1) := by decide +kernel
theorem dX11_divide_401 : decode cX11_divide 401 = .ok (.isub, 1) := by decide +kernel
theorem dX11_divide_402 : decode cX11_divide 402 = .ok (.iaload, 1) := by decide +kernel
theorem dX11_divide_403 : decode cX11_divide 403 = .ok (.i2l, 1) := by decide +kernel
theorem dX11_divide_404 : decode cX11_divide 404 = .ok (.ladd, 1) := by decide +kernel
theorem dX11_divide_405 : decode cX11_divide 405 = .ok (.lcmp, 1) := by decide +kernel
theorem dX11_divide_406 : decode cX11_divide 406 = .ok (.ifCond .le 27, 3) := by decide +kernel
theorem dX11_divide_409 : decode cX11_divide 409 = .ok (.lload 11, 2) := by decide +kernel
theorem dX11_divide_411 : decode cX11_divide 411 = .ok (.lconst 1, 1) := by decide +kernel
theorem dX11_divide_412 : decode cX11_divide 412 = .ok (.lsub, 1) := by decide +kernel
theorem dX11_divide_413 : decode cX11_divide 413 = .ok (.lstore 11, 2) := by decide +kernel
theorem dX11_divide_415 : decode cX11_divide 415 = .ok (.lload 13, 2) := by decide +kernel
theorem dX11_divide_417 : decode cX11_divide 417 = .ok (.aload_n 0, 1) := by decide +kernel
theorem dX11_divide_418 : decode cX11_divide 418 = .ok (.getfield 23, 3) := by decide +kernel
theorem dX11_divide_421 : decode cX11_divide 421 = .ok (.iload 5, 2) := by decide +kernel
theorem dX11_divide_423 : decode cX11_divide 423 = .ok (.iconst 1, 1) := by decide +kernel
theorem dX11_divide_424 : decode cX11_divide 424 = .ok (.isub, 1) := by decide +kernel
theorem dX11_divide_425 : decode cX11_divide 425 = .ok (.iaload, 1) := by decide +kernel
theorem dX11_divide_426 : decode cX11_divide 426 = .ok (.i2l, 1) := by decide +kernel
theorem dX11_divide_427 : decode cX11_divide 427 = .ok (.ladd, 1) := by decide +kernel
theorem dX11_divide_428 : decode cX11_divide 428 = .ok (.lstore 13, 2) := by decide +kernel
theorem dX11_divide_430 : decode cX11_divide 430 = .ok (.goto (-76), 3) := by decide +kernel
theorem dX11_divide_433 : decode cX11_divide 433 = .ok (.aload_n 0, 1) := by decide +kernel
theorem dX11_divide_434 : decode cX11_divide 434 = .ok (.getfield 8, 3) := by decide +kernel
theorem dX11_divide_437 : decode cX11_divide 437 = .ok (.iload_n 1, 1) := by decide +kernel
theorem dX11_divide_438 : decode cX11_divide 438 = .ok (.invokestatic 43, 3) := by decide +kernel
theorem dX11_divide_441 : decode cX11_divide 441 = .ok (.iload 8, 2) := by decide +kernel
theorem dX11_divide_443 : decode cX11_divide 443 = .ok (.iadd, 1) := by decide +kernel
theorem dX11_divide_444 : decode cX11_divide 444 = .ok (.aload_n 0, 1) := by decide +kernel
theorem dX11_divide_445 : decode cX11_divide 445 = .ok (.iload 8, 2) := by decide +kernel
theorem dX11_divide_447 : decode cX11_divide 447 = .ok (.iload 5, 2) := by decide +kernel
theorem dX11_divide_449 : decode cX11_divide 449 = .ok (.lload 11, 2) := by decide +kernel
theorem dX11_divide_451 : decode cX11_divide 451 = .ok (.invokevirtual 76, 3) := by decide +kernel
theorem dX11_divide_454 : decode cX11_divide 454 = .ok (.l2i, 1) := by decide +kernel
theorem dX11_divide_455 : decode cX11_divide 455 = .ok (.iastore, 1) := by decide +kernel
theorem dX11_divide_456 : decode cX11_divide 456 = .ok (.iinc 8 (-1), 3) := by decide +kernel
theorem dX11_divide_459 : decode cX11_divide 459 = .ok (.goto (-171), 3) := by decide +kernel
theorem dX11_divide_462 : decode cX11_divide 462 = .ok (.aload_n 0, 1) := by decide +kernel
theorem dX11_divide_463 : decode cX11_divide 463 = .ok (.iload_n 1, 1) := by decide +kernel
theorem dX11_divide_464 : decode cX11_divide 464 = .ok (.iload 6, 2) := by decide +kernel
theorem dX11_divide_466 : decode cX11_divide 466 = .ok (.iload 5, 2) := by decide +kernel
theorem dX11_divide_468 : decode cX11_divide 468 = .ok (.isub, 1) := by decide +kernel
theorem dX11_divide_469 : decode cX11_divide 469 = .ok (.iconst 1, 1) := by decide +kernel
theorem dX11_divide_470 : decode cX11_divide 470 = .ok (.iadd, 1) := by decide +kernel
theorem dX11_divide_471 : decode cX11_divide 471 = .ok (.invokevirtual 58, 3) := by decide +kernel
theorem dX11_divide_474 : decode cX11_divide 474 = .ok (.iconst 0, 1) := by decide +kernel
theorem dX11_divide_475 : decode cX11_divide 475 = .ok (.istore 8, 2) := by decide +kernel
theorem dX11_divide_477 : decode cX11_divide 477 = .ok (.iload 8, 2) := by decide +kernel
theorem dX11_divide_479 : decode cX11_divide 479 = .ok (.iload 5, 2) := by decide +kernel
theorem dX11_divide_481 : decode cX11_divide 481 = .ok (.if_icmp .ge 67, 3) := by decide +kernel
theorem dX11_divide_484 : decode cX11_divide 484 = .ok (.iload 8, 2) := by decide +kernel
theorem dX11_divide_486 : decode cX11_divide 486 = .ok (.iconst 1, 1) := by decide +kernel
theorem dX11_divide_487 : decode cX11_divide 487 = .ok (.iadd, 1) := by decide +kernel
theorem dX11_divide_488 : decode cX11_divide 488 = .ok (.iload 5, 2) := by decide +kernel
theorem dX11_divide_490 : decode cX11_divide 490 = .ok (.if_icmp .ge 21, 3) := by decide +kernel
theorem dX11_divide_493 : decode cX11_divide 493 = .ok (.aload_n 0, 1) := by decide +kernel
theorem dX11_divide_494 : decode cX11_divide 494 = .ok (.getfield 20, 3) := by decide +kernel
theorem dX11_divide_497 : decode cX11_divide 497 = .ok (.iload 8, 2) := by decide +kernel
theorem dX11_divide_499 : decode cX11_divide 499 = .ok (.iconst 1, 1) := by decide +kernel
theorem dX11_divide_500 : decode cX11_divide 500 = .ok (.iadd, 1) := by decide +kernel
theorem dX11_divide_501 : decode cX11_divide 501 = .ok (.iaload, 1) := by decide +kernel
theorem dX11_divide_502 : decode cX11_divide 502 = .ok (.bipush 16, 2) := by decide +kernel
theorem dX11_divide_504 : decode cX11_divide 504 = .ok (.iload 7, 2) := by decide +kernel
theorem dX11_divide_506 : decode cX11_divide 506 = .ok (.isub, 1) := by decide +kernel
theorem dX11_divide_507 : decode cX11_divide 507 = .ok (.ishl, 1) := by decide +kernel
theorem dX11_divide_508 : decode cX11_divide 508 = .ok (.goto 4, 3) := by decide +kernel
theorem dX11_divide_511 : decode cX11_divide 511 = .ok (.iconst 0, 1) := by decide +kernel
theorem dX11_divide_512 : decode cX11_divide 512 = .ok (.istore 9, 2) := by decide +kernel
theorem dX11_divide_514 : decode cX11_divide 514 = .ok (.aload_n 0, 1) := by decide +kernel
theorem dX11_divide_515 : decode cX11_divide 515 = .ok (.getfield 8, 3) := by decide +kernel
theorem dX11_divide_518 : decode cX11_divide 518 = .ok (.iload_n 2, 1) := by decide +kernel
theorem dX11_divide_519 : decode cX11_divide 519 = .ok (.invokestatic 43, 3) := by decide +kernel
theorem dX11_divide_522 : decode cX11_divide 522 = .ok (.iload 8, 2) := by decide +kernel
theorem dX11_divide_524 : decode cX11_divide 524 = .ok (.iadd, 1) := by decide +kernel
theorem dX11_divide_525 : decode cX11_divide 525 = .ok (.aload_n 0, 1) := by decide +kernel
theorem dX11_divide_526 : decode cX11_divide 526 = .ok (.getfield 20, 3) := by decide +kernel
theorem dX11_divide_529 : decode cX11_divide 529 = .ok (.iload 8, 2) := by decide +kernel
theorem dX11_divide_531 : decode cX11_divide 531 = .ok (.iaload, 1) := by decide +kernel
theorem dX11_divide_532 : decode cX11_divide 532 = .ok (.iload 7, 2) := by decide +kernel
theorem dX11_divide_534 : decode cX11_divide 534 = .ok (.ishr, 1) := by decide +kernel
theorem dX11_divide_535 : decode cX11_divide 535 = .ok (.iload 9, 2) := by decide +kernel
theorem dX11_divide_537 : decode cX11_divide 537 = .ok (.ior, 1) := by decide +kernel
theorem dX11_divide_538 : decode cX11_divide 538 = .ok (.ldc 53, 2) := by decide +kernel
theorem dX11_divide_540 : decode cX11_divide 540 = .ok (.iand, 1) := by decide +kernel
theorem dX11_divide_541 : decode cX11_divide 541 = .ok (.iastore, 1) := by decide +kernel
theorem dX11_divide_542 : decode cX11_divide 542 = .ok (.iinc 8 1, 3) := by decide +kernel
theorem dX11_divide_545 : decode cX11_divide 545 = .ok (.goto (-68), 3) := by decide +kernel
theorem dX11_divide_548 : decode cX11_divide 548 = .ok (.aload_n 0, 1) := by decide +kernel
theorem dX11_divide_549 : decode cX11_divide 549 = .ok (.iload_n 2, 1) := by decide +kernel
theorem dX11_divide_550 : decode cX11_divide 550 = .ok (.iload 5, 2) := by decide +kernel
theorem dX11_divide_552 : decode cX11_divide 552 = .ok (.invokevirtual 58, 3) := by decide +kernel
theorem dX11_divide_555 : decode cX11_divide 555 = .ok (.return_, 1) := by decide +kernel
theorem dX11_takeAway_0 : decode cX11_takeAway 0 = .ok (.lconst 0, 1) := by decide +kernel
theorem dX11_takeAway_1 : decode cX11_takeAway 1 = .ok (.lstore 5, 2) := by decide +kernel
theorem dX11_takeAway_3 : decode cX11_takeAway 3 = .ok (.lconst 0, 1) := by decide +kernel
theorem dX11_takeAway_4 : decode cX11_takeAway 4 = .ok (.lstore 7, 2) := by decide +kernel
theorem dX11_takeAway_6 : decode cX11_takeAway 6 = .ok (.iconst 0, 1) := by decide +kernel
theorem dX11_takeAway_7 : decode cX11_takeAway 7 = .ok (.istore 9, 2) := by decide +kernel
theorem dX11_takeAway_9 : decode cX11_takeAway 9 = .ok (.iload 9, 2) := by decide +kernel
theorem dX11_takeAway_11 : decode cX11_takeAway 11 = .ok (.iload_n 2, 1) := by decide +kernel
theorem dX11_takeAway_12 : decode cX11_takeAway 12 = .ok (.if_icmp .ge 84, 3) := by decide +kernel
theorem dX11_takeAway_15 : decode cX11_takeAway 15 = .ok (.lload_n 3, 1) := by decide +kernel
theorem dX11_takeAway_16 : decode cX11_takeAway 16 = .ok (.aload_n 0, 1) := by decide +kernel
theorem dX11_takeAway_17 : decode cX11_takeAway 17 = .ok (.getfield 23, 3) := by decide +kernel
theorem dX11_takeAway_20 : decode cX11_takeAway 20 = .ok (.iload 9, 2) := by decide +kernel
theorem dX11_takeAway_22 : decode cX11_takeAway 22 = .ok (.iaload, 1) := by decide +kernel
theorem dX11_takeAway_23 : decode cX11_takeAway 23 = .ok (.i2l, 1) := by decide +kernel
theorem dX11_takeAway_24 : decode cX11_takeAway 24 = .ok (.lmul, 1) := by decide +kernel
theorem dX11_takeAway_25 : decode cX11_takeAway 25 = .ok (.lload 5, 2) := by decide +kernel
theorem dX11_takeAway_27 : decode cX11_takeAway 27 = .ok (.ladd, 1) := by decide +kernel
theorem dX11_takeAway_28 : decode cX11_takeAway 28 = .ok (.lstore 10, 2) := by decide +kernel
theorem dX11_takeAway_30 : decode cX11_takeAway 30 = .ok (.lload 10, 2) := by decide +kernel
theorem dX11_takeAway_32 : decode cX11_takeAway 32 = .ok (.ldc2_w 47, 3) := by decide +kernel
theorem dX11_takeAway_35 : decode cX11_takeAway 35 = .ok (.ldiv, 1) := by decide +kernel
theorem dX11_takeAway_36 : decode cX11_takeAway 36 = .ok (.lstore 5, 2) := by decide +kernel
theorem dX11_takeAway_38 : decode cX11_takeAway 38 = .ok (.aload_n 0, 1) := by decide +kernel
theorem dX11_takeAway_39 : decode cX11_takeAway 39 = .ok (.getfield 20, 3) := by decide +kernel
theorem dX11_takeAway_42 : decode cX11_takeAway 42 = .ok (.iload_n 1, 1) := by decide +kernel
theorem dX11_takeAway_43 : decode cX11_takeAway 43 = .ok (.iload 9, 2) := by decide +kernel
theorem dX11_takeAway_45 : decode cX11_takeAway 45 = .ok (.iadd, 1) := by decide +kernel
theorem dX11_takeAway_46 : decode cX11_takeAway 46 = .ok (.iaload, 1) := by decide +kernel
theorem dX11_takeAway_47 : decode cX11_takeAway 47 = .ok (.i2l, 1) := by decide +kernel
theorem dX11_takeAway_48 : decode cX11_takeAway 48 = .ok (.lload 10, 2) := by decide +kernel
theorem dX11_takeAway_50 : decode cX11_takeAway 50 = .ok (.ldc2_w 47, 3) := by decide +kernel
theorem dX11_takeAway_53 : decode cX11_takeAway 53 = .ok (.lrem, 1) := by decide +kernel
theorem dX11_takeAway_54 : decode cX11_takeAway 54 = .ok (.lsub, 1) := by decide +kernel
theorem dX11_takeAway_55 : decode cX11_takeAway 55 = .ok (.lload 7, 2) := by decide +kernel
theorem dX11_takeAway_57 : decode cX11_takeAway 57 = .ok (.lsub, 1) := by decide +kernel
theorem dX11_takeAway_58 : decode cX11_takeAway 58 = .ok (.lstore 12, 2) := by decide +kernel
theorem dX11_takeAway_60 : decode cX11_takeAway 60 = .ok (.aload_n 0, 1) := by decide +kernel
theorem dX11_takeAway_61 : decode cX11_takeAway 61 = .ok (.getfield 20, 3) := by decide +kernel
theorem dX11_takeAway_64 : decode cX11_takeAway 64 = .ok (.iload_n 1, 1) := by decide +kernel
theorem dX11_takeAway_65 : decode cX11_takeAway 65 = .ok (.iload 9, 2) := by decide +kernel
theorem dX11_takeAway_67 : decode cX11_takeAway 67 = .ok (.iadd, 1) := by decide +kernel
theorem dX11_takeAway_68 : decode cX11_takeAway 68 = .ok (.lload 12, 2) := by decide +kernel
theorem dX11_takeAway_70 : decode cX11_takeAway 70 = .ok (.ldc2_w 80, 3) := by decide +kernel
theorem dX11_takeAway_73 : decode cX11_takeAway 73 = .ok (.land, 1) := by decide +kernel
theorem dX11_takeAway_74 : decode cX11_takeAway 74 = .ok (.l2i, 1) := by decide +kernel
theorem dX11_takeAway_75 : decode cX11_takeAway 75 = .ok (.iastore, 1) := by decide +kernel
theorem dX11_takeAway_76 : decode cX11_takeAway 76 = .ok (.lload 12, 2) := by decide +kernel
theorem dX11_takeAway_78 : decode cX11_takeAway 78 = .ok (.lconst 0, 1) := by decide +kernel
theorem dX11_takeAway_79 : decode cX11_takeAway 79 = .ok (.lcmp, 1) := by decide +kernel
theorem dX11_takeAway_80 : decode cX11_takeAway 80 = .ok (.ifCond .ge 7, 3) := by decide +kernel
theorem dX11_takeAway_83 : decode cX11_takeAway 83 = .ok (.lconst 1, 1) := by decide +kernel
theorem dX11_takeAway_84 : decode cX11_takeAway 84 = .ok (.goto 4, 3) := by decide +kernel
theorem dX11_takeAway_87 : decode cX11_takeAway 87 = .ok (.lconst 0, 1) := by decide +kernel
theorem dX11_takeAway_88 : decode cX11_takeAway 88 = .ok (.lstore 7, 2) := by decide +kernel
theorem dX11_takeAway_90 : decode cX11_takeAway 90 = .ok (.iinc 9 1, 3) := by decide +kernel
theorem dX11_takeAway_93 : decode cX11_takeAway 93 = .ok (.goto (-84), 3) := by decide +kernel
theorem dX11_takeAway_96 : decode cX11_takeAway 96 = .ok (.aload_n 0, 1) := by decide +kernel
theorem dX11_takeAway_97 : decode cX11_takeAway 97 = .ok (.getfield 20, 3) := by decide +kernel
theorem dX11_takeAway_100 : decode cX11_takeAway 100 = .ok (.iload_n 1, 1) := by decide +kernel
theorem dX11_takeAway_101 : decode cX11_takeAway 101 = .ok (.iload_n 2, 1) := by decide +kernel
theorem dX11_takeAway_102 : decode cX11_takeAway 102 = .ok (.iadd, 1) := by decide +kernel
theorem dX11_takeAway_103 : decode cX11_takeAway 103 = .ok (.iaload, 1) := by decide +kernel
theorem dX11_takeAway_104 : decode cX11_takeAway 104 = .ok (.i2l, 1) := by decide +kernel
theorem dX11_takeAway_105 : decode cX11_takeAway 105 = .ok (.lload 5, 2) := by decide +kernel
theorem dX11_takeAway_107 : decode cX11_takeAway 107 = .ok (.lsub, 1) := by decide +kernel
theorem dX11_takeAway_108 : decode cX11_takeAway 108 = .ok (.lload 7, 2) := by decide +kernel
theorem dX11_takeAway_110 : decode cX11_takeAway 110 = .ok (.lsub, 1) := by decide +kernel
theorem dX11_takeAway_111 : decode cX11_takeAway 111 = .ok (.lstore 9, 2) := by decide +kernel
theorem dX11_takeAway_113 : decode cX11_takeAway 113 = .ok (.aload_n 0, 1) := by decide +kernel
theorem dX11_takeAway_114 : decode cX11_takeAway 114 = .ok (.getfield 20, 3) := by decide +kernel
theorem dX11_takeAway_117 : decode cX11_takeAway 117 = .ok (.iload_n 1, 1) := by decide +kernel
theorem dX11_takeAway_118 : decode cX11_takeAway 118 = .ok (.iload_n 2, 1) := by decide +kernel
theorem dX11_takeAway_119 : decode cX11_takeAway 119 = .ok (.iadd, 1) := by decide +kernel
theorem dX11_takeAway_120 : decode cX11_takeAway 120 = .ok (.lload 9, 2) := by decide +kernel
theorem dX11_takeAway_122 : decode cX11_takeAway 122 = .ok (.ldc2_w 80, 3) := by decide +kernel
theorem dX11_takeAway_125 : decode cX11_takeAway 125 = .ok (.land, 1) := by decide +kernel
theorem dX11_takeAway_126 : decode cX11_takeAway 126 = .ok (.l2i, 1) := by decide +kernel
theorem dX11_takeAway_127 : decode cX11_takeAway 127 = .ok (.iastore, 1) := by decide +kernel
theorem dX11_takeAway_128 : decode cX11_takeAway 128 = .ok (.lload 9, 2) := by decide +kernel
theorem dX11_takeAway_130 : decode cX11_takeAway 130 = .ok (.lconst 0, 1) := by decide +kernel
theorem dX11_takeAway_131 : decode cX11_takeAway 131 = .ok (.lcmp, 1) := by decide +kernel
theorem dX11_takeAway_132 : decode cX11_takeAway 132 = .ok (.ifCond .lt 5, 3) := by decide +kernel
theorem dX11_takeAway_135 : decode cX11_takeAway 135 = .ok (.lload_n 3, 1) := by decide +kernel
theorem dX11_takeAway_136 : decode cX11_takeAway 136 = .ok (.lreturn, 1) := by decide +kernel
theorem dX11_takeAway_137 : decode cX11_takeAway 137 = .ok (.iconst 0, 1) := by decide +kernel
theorem dX11_takeAway_138 : decode cX11_takeAway 138 = .ok (.istore 11, 2) := by decide +kernel
theorem dX11_takeAway_140 : decode cX11_takeAway 140 = .ok (.iconst 0, 1) := by decide +kernel
theorem dX11_takeAway_141 : decode cX11_takeAway 141 = .ok (.istore 12, 2) := by decide +kernel
theorem dX11_takeAway_143 : decode cX11_takeAway 143 = .ok (.iload 12, 2) := by decide +kernel
theorem dX11_takeAway_145 : decode cX11_takeAway 145 = .ok (.iload_n 2, 1) := by decide +kernel
theorem dX11_takeAway_146 : decode cX11_takeAway 146 = .ok (.if_icmp .ge 52, 3) := by decide +kernel
theorem dX11_takeAway_149 : decode cX11_takeAway 149 = .ok (.aload_n 0, 1) := by decide +kernel
theorem dX11_takeAway_150 : decode cX11_takeAway 150 = .ok (.getfield 20, 3) := by decide +kernel
theorem dX11_takeAway_153 : decode cX11_takeAway 153 = .ok (.iload_n 1, 1) := by decide +kernel
theorem dX11_takeAway_154 : decode cX11_takeAway 154 = .ok (.iload 12, 2) := by decide +kernel
theorem dX11_takeAway_156 : decode cX11_takeAway 156 = .ok (.iadd, 1) := by decide +kernel
theorem dX11_takeAway_157 : decode cX11_takeAway 157 = .ok (.iaload, 1) := by decide +kernel
theorem dX11_takeAway_158 : decode cX11_takeAway 158 = .ok (.aload_n 0, 1) := by decide +kernel
theorem dX11_takeAway_159 : decode cX11_takeAway 159 = .ok (.getfield 23, 3) := by decide +kernel
theorem dX11_takeAway_162 : decode cX11_takeAway 162 = .ok (.iload 12, 2) := by decide +kernel
theorem dX11_takeAway_164 : decode cX11_takeAway 164 = .ok (.iaload, 1) := by decide +kernel
theorem dX11_takeAway_165 : decode cX11_takeAway 165 = .ok (.iadd, 1) := by decide +kernel
theorem dX11_takeAway_166 : decode cX11_takeAway 166 = .ok (.iload 11, 2) := by decide +kernel
theorem dX11_takeAway_168 : decode cX11_takeAway 168 = .ok (.iadd, 1) := by decide +kernel
theorem dX11_takeAway_169 : decode cX11_takeAway 169 = .ok (.istore 13, 2) := by decide +kernel
theorem dX11_takeAway_171 : decode cX11_takeAway 171 = .ok (.aload_n 0, 1) := by decide +kernel
theorem dX11_takeAway_172 : decode cX11_takeAway 172 = .ok (.getfield 20, 3) := by decide +kernel
theorem dX11_takeAway_175 : decode cX11_takeAway 175 = .ok (.iload_n 1, 1) := by decide +kernel
theorem dX11_takeAway_176 : decode cX11_takeAway 176 = .ok (.iload 12, 2) := by decide +kernel
theorem dX11_takeAway_178 : decode cX11_takeAway 178 = .ok (.iadd, 1) := by decide +kernel
theorem dX11_takeAway_179 : decode cX11_takeAway 179 = .ok (.iload 13, 2) := by decide +kernel
theorem dX11_takeAway_181 : decode cX11_takeAway 181 = .ok (.ldc 53, 2) := by decide +kernel
theorem dX11_takeAway_183 : decode cX11_takeAway 183 = .ok (.iand, 1) := by decide +kernel
theorem dX11_takeAway_184 : decode cX11_takeAway 184 = .ok (.iastore, 1) := by decide +kernel
theorem dX11_takeAway_185 : decode cX11_takeAway 185 = .ok (.iload 13, 2) := by decide +kernel
theorem dX11_takeAway_187 : decode cX11_takeAway 187 = .ok (.bipush 16, 2) := by decide +kernel
theorem dX11_takeAway_189 : decode cX11_takeAway 189 = .ok (.ishr, 1) := by decide +kernel
theorem dX11_takeAway_190 : decode cX11_takeAway 190 = .ok (.istore 11, 2) := by decide +kernel
theorem dX11_takeAway_192 : decode cX11_takeAway 192 = .ok (.iinc 12 1, 3) := by decide +kernel
theorem dX11_takeAway_195 : decode cX11_takeAway 195 = .ok (.goto (-52), 3) := by decide +kernel
theorem dX11_takeAway_198 : decode cX11_takeAway 198 = .ok (.aload_n 0, 1) := by decide +kernel
theorem dX11_takeAway_199 : decode cX11_takeAway 199 = .ok (.getfield 20, 3) := by decide +kernel
theorem dX11_takeAway_202 : decode cX11_takeAway 202 = .ok (.iload_n 1, 1) := by decide +kernel
theorem dX11_takeAway_203 : decode cX11_takeAway 203 = .ok (.iload_n 2, 1) := by decide +kernel
theorem dX11_takeAway_204 : decode cX11_takeAway 204 = .ok (.iadd, 1) := by decide +kernel
theorem dX11_takeAway_205 : decode cX11_takeAway 205 = .ok (.aload_n 0, 1) := by decide +kernel
theorem dX11_takeAway_206 : decode cX11_takeAway 206 = .ok (.getfield 20, 3) := by decide +kernel
theorem dX11_takeAway_209 : decode cX11_takeAway 209 = .ok (.iload_n 1, 1) := by decide +kernel
theorem dX11_takeAway_210 : decode cX11_takeAway 210 = .ok (.iload_n 2, 1) := by decide +kernel
theorem dX11_takeAway_211 : decode cX11_takeAway 211 = .ok (.iadd, 1) := by decide +kernel
theorem dX11_takeAway_212 : decode cX11_takeAway 212 = .ok (.iaload, 1) := by decide +kernel
theorem dX11_takeAway_213 : decode cX11_takeAway 213 = .ok (.iload 11, 2) := by decide +kernel
theorem dX11_takeAway_215 : decode cX11_takeAway 215 = .ok (.iadd, 1) := by decide +kernel
theorem dX11_takeAway_216 : decode cX11_takeAway 216 = .ok (.ldc 53, 2) := by decide +kernel
theorem dX11_takeAway_218 : decode cX11_takeAway 218 = .ok (.iand, 1) := by decide +kernel
theorem dX11_takeAway_219 : decode cX11_takeAway 219 = .ok (.iastore, 1) := by decide +kernel
theorem dX11_takeAway_220 : decode cX11_takeAway 220 = .ok (.lload_n 3, 1) := by decide +kernel
theorem dX11_takeAway_221 : decode cX11_takeAway 221 = .ok (.lconst 1, 1) := by decide +kernel
theorem dX11_takeAway_222 : decode cX11_takeAway 222 = .ok (.lsub, 1) := by decide +kernel
theorem dX11_takeAway_223 : decode cX11_takeAway 223 = .ok (.lreturn, 1) := by decide +kernel
theorem dX11_divisor_0 : decode cX11_divisor 0 = .ok (.aload_n 0, 1) := by decide +kernel
theorem dX11_divisor_1 : decode cX11_divisor 1 = .ok (.sipush 180, 3) := by decide +kernel
theorem dX11_divisor_4 : decode cX11_divisor 4 = .ok (.iload_n 1, 1) := by decide +kernel
theorem dX11_divisor_5 : decode cX11_divisor 5 = .ok (.invokevirtual 68, 3) := by decide +kernel
theorem dX11_divisor_8 : decode cX11_divisor 8 = .ok (.aload_n 0, 1) := by decide +kernel
theorem dX11_divisor_9 : decode cX11_divisor 9 = .ok (.sipush 181, 3) := by decide +kernel
theorem dX11_divisor_12 : decode cX11_divisor 12 = .ok (.iload_n 2, 1) := by decide +kernel
theorem dX11_divisor_13 : decode cX11_divisor 13 = .ok (.invokevirtual 68, 3) := by decide +kernel
theorem dX11_divisor_16 : decode cX11_divisor 16 = .ok (.aload_n 0, 1) := by decide +kernel
theorem dX11_divisor_17 : decode cX11_divisor 17 = .ok (.getfield 14, 3) := by decide +kernel
theorem dX11_divisor_20 : decode cX11_divisor 20 = .ok (.sipush 181, 3) := by decide +kernel
theorem dX11_divisor_23 : decode cX11_divisor 23 = .ok (.iaload, 1) := by decide +kernel
theorem dX11_divisor_24 : decode cX11_divisor 24 = .ok (.ifCond .le 42, 3) := by decide +kernel
theorem dX11_divisor_27 : decode cX11_divisor 27 = .ok (.aload_n 0, 1) := by decide +kernel
theorem dX11_divisor_28 : decode cX11_divisor 28 = .ok (.sipush 182, 3) := by decide +kernel
theorem dX11_divisor_31 : decode cX11_divisor 31 = .ok (.sipush 183, 3) := by decide +kernel
theorem dX11_divisor_34 : decode cX11_divisor 34 = .ok (.sipush 180, 3) := by decide +kernel
theorem dX11_divisor_37 : decode cX11_divisor 37 = .ok (.sipush 181, 3) := by decide +kernel
theorem dX11_divisor_40 : decode cX11_divisor 40 = .ok (.invokevirtual 82, 3) := by decide +kernel
theorem dX11_divisor_43 : decode cX11_divisor 43 = .ok (.aload_n 0, 1) := by decide +kernel
theorem dX11_divisor_44 : decode cX11_divisor 44 = .ok (.sipush 180, 3) := by decide +kernel
theorem dX11_divisor_47 : decode cX11_divisor 47 = .ok (.sipush 181, 3) := by decide +kernel
theorem dX11_divisor_50 : decode cX11_divisor 50 = .ok (.invokevirtual 68, 3) := by decide +kernel
theorem dX11_divisor_53 : decode cX11_divisor 53 = .ok (.aload_n 0, 1) := by decide +kernel
theorem dX11_divisor_54 : decode cX11_divisor 54 = .ok (.sipush 181, 3) := by decide +kernel
theorem dX11_divisor_57 : decode cX11_divisor 57 = .ok (.sipush 183, 3) := by decide +kernel
theorem dX11_divisor_60 : decode cX11_divisor 60 = .ok (.invokevirtual 68, 3) := by decide +kernel
theorem dX11_divisor_63 : decode cX11_divisor 63 = .ok (.goto (-47), 3) := by decide +kernel
theorem dX11_divisor_66 : decode cX11_divisor 66 = .ok (.return_, 1) := by decide +kernel
theorem dX11_zero_0 : decode cX11_zero 0 = .ok (.aload_n 0, 1) := by decide +kernel
theorem dX11_zero_1 : decode cX11_zero 1 = .ok (.getfield 17, 3) := by decide +kernel
theorem dX11_zero_4 : decode cX11_zero 4 = .ok (.iload_n 1, 1) := by decide +kernel
theorem dX11_zero_5 : decode cX11_zero 5 = .ok (.iconst 0, 1) := by decide +kernel
theorem dX11_zero_6 : decode cX11_zero 6 = .ok (.iastore, 1) := by decide +kernel
theorem dX11_zero_7 : decode cX11_zero 7 = .ok (.aload_n 0, 1) := by decide +kernel
theorem dX11_zero_8 : decode cX11_zero 8 = .ok (.getfield 14, 3) := by decide +kernel
theorem dX11_zero_11 : decode cX11_zero 11 = .ok (.iconst 2, 1) := by decide +kernel
theorem dX11_zero_12 : decode cX11_zero 12 = .ok (.iload_n 1, 1) := by decide +kernel
theorem dX11_zero_13 : decode cX11_zero 13 = .ok (.imul, 1) := by decide +kernel
theorem dX11_zero_14 : decode cX11_zero 14 = .ok (.iconst 0, 1) := by decide +kernel
theorem dX11_zero_15 : decode cX11_zero 15 = .ok (.iastore, 1) := by decide +kernel
theorem dX11_zero_16 : decode cX11_zero 16 = .ok (.aload_n 0, 1) := by decide +kernel
theorem dX11_zero_17 : decode cX11_zero 17 = .ok (.iconst 2, 1) := by decide +kernel
theorem dX11_zero_18 : decode cX11_zero 18 = .ok (.iload_n 1, 1) := by decide +kernel
theorem dX11_zero_19 : decode cX11_zero 19 = .ok (.imul, 1) := by decide +kernel
theorem dX11_zero_20 : decode cX11_zero 20 = .ok (.iconst 1, 1) := by decide +kernel
theorem dX11_zero_21 : decode cX11_zero 21 = .ok (.iadd, 1) := by decide +kernel
theorem dX11_zero_22 : decode cX11_zero 22 = .ok (.lconst 1, 1) := by decide +kernel
theorem dX11_zero_23 : decode cX11_zero 23 = .ok (.invokevirtual 61, 3) := by decide +kernel
theorem dX11_zero_26 : decode cX11_zero 26 = .ok (.return_, 1) := by decide +kernel
theorem dX11_assign_0 : decode cX11_assign 0 = .ok (.aload_n 0, 1) := by decide +kernel
theorem dX11_assign_1 : decode cX11_assign 1 = .ok (.getfield 17, 3) := by decide +kernel
theorem dX11_assign_4 : decode cX11_assign 4 = .ok (.iload_n 1, 1) := by decide +kernel
theorem dX11_assign_5 : decode cX11_assign 5 = .ok (.aload_n 0, 1) := by decide +kernel
theorem dX11_assign_6 : decode cX11_assign 6 = .ok (.getfield 17, 3) := by decide +kernel
theorem dX11_assign_9 : decode cX11_assign 9 = .ok (.iload_n 2, 1) := by decide +kernel
theorem dX11_assign_10 : decode cX11_assign 10 = .ok (.iaload, 1) := by decide +kernel
theorem dX11_assign_11 : decode cX11_assign 11 = .ok (.iastore, 1) := by decide +kernel
theorem dX11_assign_12 : decode cX11_assign 12 = .ok (.aload_n 0, 1) := by decide +kernel
theorem dX11_assign_13 : decode cX11_assign 13 = .ok (.iconst 2, 1) := by decide +kernel
theorem dX11_assign_14 : decode cX11_assign 14 = .ok (.iload_n 1, 1) := by decide +kernel
theorem dX11_assign_15 : decode cX11_assign 15 = .ok (.imul, 1) := by decide +kernel
theorem dX11_assign_16 : decode cX11_assign 16 = .ok (.iconst 2, 1) := by decide +kernel
theorem dX11_assign_17 : decode cX11_assign 17 = .ok (.iload_n 2, 1) := by decide +kernel
theorem dX11_assign_18 : decode cX11_assign 18 = .ok (.imul, 1) := by decide +kernel
theorem dX11_assign_19 : decode cX11_assign 19 = .ok (.invokevirtual 68, 3) := by decide +kernel
theorem dX11_assign_22 : decode cX11_assign 22 = .ok (.aload_n 0, 1) := by decide +kernel
theorem dX11_assign_23 : decode cX11_assign 23 = .ok (.iconst 2, 1) := by decide +kernel
theorem dX11_assign_24 : decode cX11_assign 24 = .ok (.iload_n 1, 1) := by decide +kernel
theorem dX11_assign_25 : decode cX11_assign 25 = .ok (.imul, 1) := by decide +kernel
theorem dX11_assign_26 : decode cX11_assign 26 = .ok (.iconst 1, 1) := by decide +kernel
theorem dX11_assign_27 : decode cX11_assign 27 = .ok (.iadd, 1) := by decide +kernel
theorem dX11_assign_28 : decode cX11_assign 28 = .ok (.iconst 2, 1) := by decide +kernel
theorem dX11_assign_29 : decode cX11_assign 29 = .ok (.iload_n 2, 1) := by decide +kernel
theorem dX11_assign_30 : decode cX11_assign 30 = .ok (.imul, 1) := by decide +kernel
theorem dX11_assign_31 : decode cX11_assign 31 = .ok (.iconst 1, 1) := by decide +kernel
theorem dX11_assign_32 : decode cX11_assign 32 = .ok (.iadd, 1) := by decide +kernel
theorem dX11_assign_33 : decode cX11_assign 33 = .ok (.invokevirtual 68, 3) := by decide +kernel
theorem dX11_assign_36 : decode cX11_assign 36 = .ok (.return_, 1) := by decide +kernel
theorem dX11_lowest_0 : decode cX11_lowest 0 = .ok (.aload_n 0, 1) := by decide +kernel
theorem dX11_lowest_1 : decode cX11_lowest 1 = .ok (.getfield 14, 3) := by decide +kernel
theorem dX11_lowest_4 : decode cX11_lowest 4 = .ok (.iload_n 3, 1) := by decide +kernel
theorem dX11_lowest_5 : decode cX11_lowest 5 = .ok (.iaload, 1) := by decide +kernel
theorem dX11_lowest_6 : decode cX11_lowest 6 = .ok (.ifCond .ne 9, 3) := by decide +kernel
theorem dX11_lowest_9 : decode cX11_lowest 9 = .ok (.aload_n 0, 1) := by decide +kernel
theorem dX11_lowest_10 : decode cX11_lowest 10 = .ok (.iload_n 1, 1) := by decide +kernel
theorem dX11_lowest_11 : decode cX11_lowest 11 = .ok (.invokevirtual 85, 3) := by decide +kernel
theorem dX11_lowest_14 : decode cX11_lowest 14 = .ok (.return_, 1) := by decide +kernel
theorem dX11_lowest_15 : decode cX11_lowest 15 = .ok (.aload_n 0, 1) := by decide +kernel
theorem dX11_lowest_16 : decode cX11_lowest 16 = .ok (.iload_n 3, 1) := by decide +kernel
theorem dX11_lowest_17 : decode cX11_lowest 17 = .ok (.iload 4, 2) := by decide +kernel
theorem dX11_lowest_19 : decode cX11_lowest 19 = .ok (.invokevirtual 89, 3) := by decide +kernel
theorem dX11_lowest_22 : decode cX11_lowest 22 = .ok (.aload_n 0, 1) := by decide +kernel
theorem dX11_lowest_23 : decode cX11_lowest 23 = .ok (.getfield 17, 3) := by decide +kernel
theorem dX11_lowest_26 : decode cX11_lowest 26 = .ok (.iload_n 1, 1) := by decide +kernel
theorem dX11_lowest_27 : decode cX11_lowest 27 = .ok (.iload_n 2, 1) := by decide +kernel
theorem dX11_lowest_28 : decode cX11_lowest 28 = .ok (.iastore, 1) := by decide +kernel
theorem dX11_lowest_29 : decode cX11_lowest 29 = .ok (.aload_n 0, 1) := by decide +kernel
theorem dX11_lowest_30 : decode cX11_lowest 30 = .ok (.sipush 180, 3) := by decide +kernel
theorem dX11_lowest_33 : decode cX11_lowest 33 = .ok (.invokevirtual 92, 3) := by decide +kernel
theorem dX11_lowest_36 : decode cX11_lowest 36 = .ok (.ifCond .eq 23, 3) := by decide +kernel
theorem dX11_lowest_39 : decode cX11_lowest 39 = .ok (.aload_n 0, 1) := by decide +kernel
theorem dX11_lowest_40 : decode cX11_lowest 40 = .ok (.iconst 2, 1) := by decide +kernel
theorem dX11_lowest_41 : decode cX11_lowest 41 = .ok (.iload_n 1, 1) := by decide +kernel
theorem dX11_lowest_42 : decode cX11_lowest 42 = .ok (.imul, 1) := by decide +kernel
theorem dX11_lowest_43 : decode cX11_lowest 43 = .ok (.iload_n 3, 1) := by decide +kernel
theorem dX11_lowest_44 : decode cX11_lowest 44 = .ok (.invokevirtual 68, 3) := by decide +kernel
theorem dX11_lowest_47 : decode cX11_lowest 47 = .ok (.aload_n 0, 1) := by decide +kernel
theorem dX11_lowest_48 : decode cX11_lowest 48 = .ok (.iconst 2, 1) := by decide +kernel
theorem dX11_lowest_49 : decode cX11_lowest 49 = .ok (.iload_n 1, 1) := by decide +kernel
theorem dX11_lowest_50 : decode cX11_lowest 50 = .ok (.imul, 1) := by decide +kernel
theorem dX11_lowest_51 : decode cX11_lowest 51 = .ok (.iconst 1, 1) := by decide +kernel
theorem dX11_lowest_52 : decode cX11_lowest 52 = .ok (.iadd, 1) := by decide +kernel
theorem dX11_lowest_53 : decode cX11_lowest 53 = .ok (.iload 4, 2) := by decide +kernel
theorem dX11_lowest_55 : decode cX11_lowest 55 = .ok (.invokevirtual 68, 3) := by decide +kernel
theorem dX11_lowest_58 : decode cX11_lowest 58 = .ok (.return_, 1) := by decide +kernel
theorem dX11_lowest_59 : decode cX11_lowest 59 = .ok (.aload_n 0, 1) := by decide +kernel
theorem dX11_lowest_60 : decode cX11_lowest 60 = .ok (.sipush 182, 3) := by decide +kernel
theorem dX11_lowest_63 : decode cX11_lowest 63 = .ok (.sipush 183, 3) := by decide +kernel
theorem dX11_lowest_66 : decode cX11_lowest 66 = .ok (.iload_n 3, 1) := by decide +kernel
theorem dX11_lowest_67 : decode cX11_lowest 67 = .ok (.sipush 180, 3) := by decide +kernel
theorem dX11_lowest_70 : decode cX11_lowest 70 = .ok (.invokevirtual 82, 3) := by decide +kernel
theorem dX11_lowest_73 : decode cX11_lowest 73 = .ok (.aload_n 0, 1) := by decide +kernel
theorem dX11_lowest_74 : decode cX11_lowest 74 = .ok (.sipush 181, 3) := by decide +kernel
theorem dX11_lowest_77 : decode cX11_lowest 77 = .ok (.sipush 183, 3) := by decide +kernel
theorem dX11_lowest_80 : decode cX11_lowest 80 = .ok (.iload 4, 2) := by decide +kernel
theorem dX11_lowest_82 : decode cX11_lowest 82 = .ok (.sipush 180, 3) := by decide +kernel
theorem dX11_lowest_85 : decode cX11_lowest 85 = .ok (.invokevirtual 82, 3) := by decide +kernel
theorem dX11_lowest_88 : decode cX11_lowest 88 = .ok (.aload_n 0, 1) := by decide +kernel
theorem dX11_lowest_89 : decode cX11_lowest 89 = .ok (.iconst 2, 1) := by decide +kernel
theorem dX11_lowest_90 : decode cX11_lowest 90 = .ok (.iload_n 1, 1) := by decide +kernel
theorem dX11_lowest_91 : decode cX11_lowest 91 = .ok (.imul, 1) := by decide +kernel
theorem dX11_lowest_92 : decode cX11_lowest 92 = .ok (.sipush 182, 3) := by decide +kernel
theorem dX11_lowest_95 : decode cX11_lowest 95 = .ok (.invokevirtual 68, 3) := by decide +kernel
theorem dX11_lowest_98 : decode cX11_lowest 98 = .ok (.aload_n 0, 1) := by decide +kernel
theorem dX11_lowest_99 : decode cX11_lowest 99 = .ok (.iconst 2, 1) := by decide +kernel
theorem dX11_lowest_100 : decode cX11_lowest 100 = .ok (.iload_n 1, 1) := by decide +kernel
theorem dX11_lowest_101 : decode cX11_lowest 101 = .ok (.imul, 1) := by decide +kernel
theorem dX11_lowest_102 : decode cX11_lowest 102 = .ok (.iconst 1, 1) := by decide +kernel
theorem dX11_lowest_103 : decode cX11_lowest 103 = .ok (.iadd, 1) := by decide +kernel
theorem dX11_lowest_104 : decode cX11_lowest 104 = .ok (.sipush 181, 3) := by decide +kernel
theorem dX11_lowest_107 : decode cX11_lowest 107 = .ok (.invokevirtual 68, 3) := by decide +kernel
theorem dX11_lowest_110 : decode cX11_lowest 110 = .ok (.return_, 1) := by decide +kernel
theorem dX11_product_0 : decode cX11_product 0 = .ok (.aload_n 0, 1) := by decide +kernel
theorem dX11_product_1 : decode cX11_product 1 = .ok (.sipush 184, 3) := by decide +kernel
theorem dX11_product_4 : decode cX11_product 4 = .ok (.iconst 2, 1) := by decide +kernel
theorem dX11_product_5 : decode cX11_product 5 = .ok (.iload_n 2, 1) := by decide +kernel
theorem dX11_product_6 : decode cX11_product 6 = .ok (.imul, 1) := by decide +kernel
theorem dX11_product_7 : decode cX11_product 7 = .ok (.iconst 2, 1) := by decide +kernel
theorem dX11_product_8 : decode cX11_product 8 = .ok (.iload_n 3, 1) := by decide +kernel
theorem dX11_product_9 : decode cX11_product 9 = .ok (.imul, 1) := by decide +kernel
theorem dX11_product_10 : decode cX11_product 10 = .ok (.invokevirtual 96, 3) := by decide +kernel
theorem dX11_product_13 : decode cX11_product 13 = .ok (.aload_n 0, 1) := by decide +kernel
theorem dX11_product_14 : decode cX11_product 14 = .ok (.sipush 185, 3) := by decide +kernel
theorem dX11_product_17 : decode cX11_product 17 = .ok (.iconst 2, 1) := by decide +kernel
theorem dX11_product_18 : decode cX11_product 18 = .ok (.iload_n 2, 1) := by decide +kernel
theorem dX11_product_19 : decode cX11_product 19 = .ok (.imul, 1) := by decide +kernel
theorem dX11_product_20 : decode cX11_product 20 = .ok (.iconst 1, 1) := by decide +kernel
theorem dX11_product_21 : decode cX11_product 21 = .ok (.iadd, 1) := by decide +kernel
theorem dX11_product_22 : decode cX11_product 22 = .ok (.iconst 2, 1) := by decide +kernel
theorem dX11_product_23 : decode cX11_product 23 = .ok (.iload_n 3, 1) := by decide +kernel
theorem dX11_product_24 : decode cX11_product 24 = .ok (.imul, 1) := by decide +kernel
theorem dX11_product_25 : decode cX11_product 25 = .ok (.iconst 1, 1) := by decide +kernel
theorem dX11_product_26 : decode cX11_product 26 = .ok (.iadd, 1) := by decide +kernel
theorem dX11_product_27 : decode cX11_product 27 = .ok (.invokevirtual 96, 3) := by decide +kernel
theorem dX11_product_30 : decode cX11_product 30 = .ok (.aload_n 0, 1) := by decide +kernel
theorem dX11_product_31 : decode cX11_product 31 = .ok (.iload_n 1, 1) := by decide +kernel
theorem dX11_product_32 : decode cX11_product 32 = .ok (.aload_n 0, 1) := by decide +kernel
theorem dX11_product_33 : decode cX11_product 33 = .ok (.getfield 17, 3) := by decide +kernel
theorem dX11_product_36 : decode cX11_product 36 = .ok (.iload_n 2, 1) := by decide +kernel
theorem dX11_product_37 : decode cX11_product 37 = .ok (.iaload, 1) := by decide +kernel
theorem dX11_product_38 : decode cX11_product 38 = .ok (.aload_n 0, 1) := by decide +kernel
theorem dX11_product_39 : decode cX11_product 39 = .ok (.getfield 17, 3) := by decide +kernel
theorem dX11_product_42 : decode cX11_product 42 = .ok (.iload_n 3, 1) := by decide +kernel
theorem dX11_product_43 : decode cX11_product 43 = .ok (.iaload, 1) := by decide +kernel
theorem dX11_product_44 : decode cX11_product 44 = .ok (.imul, 1) := by decide +kernel
theorem dX11_product_45 : decode cX11_product 45 = .ok (.sipush 184, 3) := by decide +kernel
theorem dX11_product_48 : decode cX11_product 48 = .ok (.sipush 185, 3) := by decide +kernel
theorem dX11_product_51 : decode cX11_product 51 = .ok (.invokevirtual 100, 3) := by decide +kernel
theorem dX11_product_54 : decode cX11_product 54 = .ok (.return_, 1) := by decide +kernel
theorem dX11_quotient_0 : decode cX11_quotient 0 = .ok (.aload_n 0, 1) := by decide +kernel
theorem dX11_quotient_1 : decode cX11_quotient 1 = .ok (.sipush 184, 3) := by decide +kernel
theorem dX11_quotient_4 : decode cX11_quotient 4 = .ok (.iconst 2, 1) := by decide +kernel
theorem dX11_quotient_5 : decode cX11_quotient 5 = .ok (.iload_n 2, 1) := by decide +kernel
theorem dX11_quotient_6 : decode cX11_quotient 6 = .ok (.imul, 1) := by decide +kernel
theorem dX11_quotient_7 : decode cX11_quotient 7 = .ok (.iconst 2, 1) := by decide +kernel
theorem dX11_quotient_8 : decode cX11_quotient 8 = .ok (.iload_n 3, 1) := by decide +kernel
theorem dX11_quotient_9 : decode cX11_quotient 9 = .ok (.imul, 1) := by decide +kernel
theorem dX11_quotient_10 : decode cX11_quotient 10 = .ok (.iconst 1, 1) := by decide +kernel
theorem dX11_quotient_11 : decode cX11_quotient 11 = .ok (.iadd, 1) := by decide +kernel
theorem dX11_quotient_12 : decode cX11_quotient 12 = .ok (.invokevirtual 96, 3) := by decide +kernel
theorem dX11_quotient_15 : decode cX11_quotient 15 = .ok (.aload_n 0, 1) := by decide +kernel
theorem dX11_quotient_16 : decode cX11_quotient 16 = .ok (.sipush 185, 3) := by decide +kernel
theorem dX11_quotient_19 : decode cX11_quotient 19 = .ok (.iconst 2, 1) := by decide +kernel
theorem dX11_quotient_20 : decode cX11_quotient 20 = .ok (.iload_n 2, 1) := by decide +kernel
theorem dX11_quotient_21 : decode cX11_quotient 21 = .ok (.imul, 1) := by decide +kernel
theorem dX11_quotient_22 : decode cX11_quotient 22 = .ok (.iconst 1, 1) := by decide +kernel
theorem dX11_quotient_23 : decode cX11_quotient 23 = .ok (.iadd, 1) := by decide +kernel
theorem dX11_quotient_24 : decode cX11_quotient 24 = .ok (.iconst 2, 1) := by decide +kernel
theorem dX11_quotient_25 : decode cX11_quotient 25 = .ok (.iload_n 3, 1) := by decide +kernel
theorem dX11_quotient_26 : decode cX11_quotient 26 = .ok (.imul, 1) := by decide +kernel
theorem dX11_quotient_27 : decode cX11_quotient 27 = .ok (.invokevirtual 96, 3) := by decide +kernel
theorem dX11_quotient_30 : decode cX11_quotient 30 = .ok (.aload_n 0, 1) := by decide +kernel
theorem dX11_quotient_31 : decode cX11_quotient 31 = .ok (.iload_n 1, 1) := by decide +kernel
theorem dX11_quotient_32 : decode cX11_quotient 32 = .ok (.aload_n 0, 1) := by decide +kernel
theorem dX11_quotient_33 : decode cX11_quotient 33 = .ok (.getfield 17, 3) := by decide +kernel
theorem dX11_quotient_36 : decode cX11_quotient 36 = .ok (.iload_n 2, 1) := by decide +kernel
theorem dX11_quotient_37 : decode cX11_quotient 37 = .ok (.iaload, 1) := by decide +kernel
theorem dX11_quotient_38 : decode cX11_quotient 38 = .ok (.aload_n 0, 1) := by decide +kernel
theorem dX11_quotient_39 : decode cX11_quotient 39 = .ok (.getfield 17, 3) := by decide +kernel
theorem dX11_quotient_42 : decode cX11_quotient 42 = .ok (.iload_n 3, 1) := by decide +kernel
theorem dX11_quotient_43 : decode cX11_quotient 43 = .ok (.iaload, 1) := by decide +kernel
theorem dX11_quotient_44 : decode cX11_quotient 44 = .ok (.imul, 1) := by decide +kernel
theorem dX11_quotient_45 : decode cX11_quotient 45 = .ok (.sipush 184, 3) := by decide +kernel
theorem dX11_quotient_48 : decode cX11_quotient 48 = .ok (.sipush 185, 3) := by decide +kernel
theorem dX11_quotient_51 : decode cX11_quotient 51 = .ok (.invokevirtual 100, 3) := by decide +kernel
theorem dX11_quotient_54 : decode cX11_quotient 54 = .ok (.return_, 1) := by decide +kernel
theorem dX11_sum_0 : decode cX11_sum 0 = .ok (.aload_n 0, 1) := by decide +kernel
theorem dX11_sum_1 : decode cX11_sum 1 = .ok (.sipush 186, 3) := by decide +kernel
theorem dX11_sum_4 : decode cX11_sum 4 = .ok (.iconst 2, 1) := by decide +kernel
theorem dX11_sum_5 : decode cX11_sum 5 = .ok (.iload_n 2, 1) := by decide +kernel
theorem dX11_sum_6 : decode cX11_sum 6 = .ok (.imul, 1) := by decide +kernel
theorem dX11_sum_7 : decode cX11_sum 7 = .ok (.iconst 2, 1) := by decide +kernel
theorem dX11_sum_8 : decode cX11_sum 8 = .ok (.iload_n 3, 1) := by decide +kernel
theorem dX11_sum_9 : decode cX11_sum 9 = .ok (.imul, 1) := by decide +kernel
theorem dX11_sum_10 : decode cX11_sum 10 = .ok (.iconst 1, 1) := by decide +kernel
theorem dX11_sum_11 : decode cX11_sum 11 = .ok (.iadd, 1) := by decide +kernel
theorem dX11_sum_12 : decode cX11_sum 12 = .ok (.invokevirtual 96, 3) := by decide +kernel
theorem dX11_sum_15 : decode cX11_sum 15 = .ok (.aload_n 0, 1) := by decide +kernel
theorem dX11_sum_16 : decode cX11_sum 16 = .ok (.sipush 187, 3) := by decide +kernel
theorem dX11_sum_19 : decode cX11_sum 19 = .ok (.iconst 2, 1) := by decide +kernel
theorem dX11_sum_20 : decode cX11_sum 20 = .ok (.iload_n 3, 1) := by decide +kernel
theorem dX11_sum_21 : decode cX11_sum 21 = .ok (.imul, 1) := by decide +kernel
theorem dX11_sum_22 : decode cX11_sum 22 = .ok (.iconst 2, 1) := by decide +kernel
theorem dX11_sum_23 : decode cX11_sum 23 = .ok (.iload_n 2, 1) := by decide +kernel
theorem dX11_sum_24 : decode cX11_sum 24 = .ok (.imul, 1) := by decide +kernel
theorem dX11_sum_25 : decode cX11_sum 25 = .ok (.iconst 1, 1) := by decide +kernel
theorem dX11_sum_26 : decode cX11_sum 26 = .ok (.iadd, 1) := by decide +kernel
theorem dX11_sum_27 : decode cX11_sum 27 = .ok (.invokevirtual 96, 3) := by decide +kernel
theorem dX11_sum_30 : decode cX11_sum 30 = .ok (.aload_n 0, 1) := by decide +kernel
theorem dX11_sum_31 : decode cX11_sum 31 = .ok (.sipush 185, 3) := by decide +kernel
theorem dX11_sum_34 : decode cX11_sum 34 = .ok (.iconst 2, 1) := by decide +kernel
theorem dX11_sum_35 : decode cX11_sum 35 = .ok (.iload_n 2, 1) := by decide +kernel
theorem dX11_sum_36 : decode cX11_sum 36 = .ok (.imul, 1) := by decide +kernel
theorem dX11_sum_37 : decode cX11_sum 37 = .ok (.iconst 1, 1) := by decide +kernel
theorem dX11_sum_38 : decode cX11_sum 38 = .ok (.iadd, 1) := by decide +kernel
theorem dX11_sum_39 : decode cX11_sum 39 = .ok (.iconst 2, 1) := by decide +kernel
theorem dX11_sum_40 : decode cX11_sum 40 = .ok (.iload_n 3, 1) := by decide +kernel
theorem dX11_sum_41 : decode cX11_sum 41 = .ok (.imul, 1) := by decide +kernel
theorem dX11_sum_42 : decode cX11_sum 42 = .ok (.iconst 1, 1) := by decide +kernel
theorem dX11_sum_43 : decode cX11_sum 43 = .ok (.iadd, 1) := by decide +kernel
theorem dX11_sum_44 : decode cX11_sum 44 = .ok (.invokevirtual 96, 3) := by decide +kernel
theorem dX11_sum_47 : decode cX11_sum 47 = .ok (.aload_n 0, 1) := by decide +kernel
theorem dX11_sum_48 : decode cX11_sum 48 = .ok (.getfield 17, 3) := by decide +kernel
theorem dX11_sum_51 : decode cX11_sum 51 = .ok (.iload_n 2, 1) := by decide +kernel
theorem dX11_sum_52 : decode cX11_sum 52 = .ok (.iaload, 1) := by decide +kernel
theorem dX11_sum_53 : decode cX11_sum 53 = .ok (.istore 5, 2) := by decide +kernel
theorem dX11_sum_55 : decode cX11_sum 55 = .ok (.aload_n 0, 1) := by decide +kernel
theorem dX11_sum_56 : decode cX11_sum 56 = .ok (.getfield 17, 3) := by decide +kernel
theorem dX11_sum_59 : decode cX11_sum 59 = .ok (.iload_n 3, 1) := by decide +kernel
theorem dX11_sum_60 : decode cX11_sum 60 = .ok (.iaload, 1) := by decide +kernel
theorem dX11_sum_61 : decode cX11_sum 61 = .ok (.iload 4, 2) := by decide +kernel
theorem dX11_sum_63 : decode cX11_sum 63 = .ok (.imul, 1) := by decide +kernel
theorem dX11_sum_64 : decode cX11_sum 64 = .ok (.istore 6, 2) := by decide +kernel
theorem dX11_sum_66 : decode cX11_sum 66 = .ok (.aload_n 0, 1) := by decide +kernel
theorem dX11_sum_67 : decode cX11_sum 67 = .ok (.sipush 186, 3) := by decide +kernel
theorem dX11_sum_70 : decode cX11_sum 70 = .ok (.sipush 187, 3) := by decide +kernel
theorem dX11_sum_73 : decode cX11_sum 73 = .ok (.invokevirtual 65, 3) := by decide +kernel
theorem dX11_sum_76 : decode cX11_sum 76 = .ok (.istore 7, 2) := by decide +kernel
theorem dX11_sum_78 : decode cX11_sum 78 = .ok (.iload 5, 2) := by decide +kernel
theorem dX11_sum_80 : decode cX11_sum 80 = .ok (.istore 8, 2) := by decide +kernel
theorem dX11_sum_82 : decode cX11_sum 82 = .ok (.iload 5, 2) := by decide +kernel
theorem dX11_sum_84 : decode cX11_sum 84 = .ok (.iload 6, 2) := by decide +kernel
theorem dX11_sum_86 : decode cX11_sum 86 = .ok (.if_icmp .eq 13, 3) := by decide +kernel
theorem dX11_sum_89 : decode cX11_sum 89 = .ok (.iload 5, 2) := by decide +kernel
theorem dX11_sum_91 : decode cX11_sum 91 = .ok (.ifCond .eq 8, 3) := by decide +kernel
theorem dX11_sum_94 : decode cX11_sum 94 = .ok (.iload 6, 2) := by decide +kernel
theorem dX11_sum_96 : decode cX11_sum 96 = .ok (.ifCond .ne 33, 3) := by decide +kernel
theorem dX11_sum_99 : decode cX11_sum 99 = .ok (.aload_n 0, 1) := by decide +kernel
theorem dX11_sum_100 : decode cX11_sum 100 = .ok (.sipush 184, 3) := by decide +kernel
theorem dX11_sum_103 : decode cX11_sum 103 = .ok (.sipush 186, 3) := by decide +kernel
theorem dX11_sum_106 : decode cX11_sum 106 = .ok (.sipush 187, 3) := by decide +kernel
theorem dX11_sum_109 : decode cX11_sum 109 = .ok (.invokevirtual 103, 3) := by decide +kernel
theorem dX11_sum_112 : decode cX11_sum 112 = .ok (.iload 5, 2) := by decide +kernel
theorem dX11_sum_114 : decode cX11_sum 114 = .ok (.ifCond .eq 8, 3) := by decide +kernel
theorem dX11_sum_117 : decode cX11_sum 117 = .ok (.iload 5, 2) := by decide +kernel
theorem dX11_sum_119 : decode cX11_sum 119 = .ok (.goto 5, 3) := by decide +kernel
theorem dX11_sum_122 : decode cX11_sum 122 = .ok (.iload 6, 2) := by decide +kernel
theorem dX11_sum_124 : decode cX11_sum 124 = .ok (.istore 8, 2) := by decide +kernel
theorem dX11_sum_126 : decode cX11_sum 126 = .ok (.goto 41, 3) := by decide +kernel
theorem dX11_sum_129 : decode cX11_sum 129 = .ok (.iload 7, 2) := by decide +kernel
theorem dX11_sum_131 : decode cX11_sum 131 = .ok (.ifCond .lt 19, 3) := by decide +kernel
theorem dX11_sum_134 : decode cX11_sum 134 = .ok (.aload_n 0, 1) := by decide +kernel
theorem dX11_sum_135 : decode cX11_sum 135 = .ok (.sipush 184, 3) := by decide +kernel
theorem dX11_sum_138 : decode cX11_sum 138 = .ok (.sipush 186, 3) := by decide +kernel
theorem dX11_sum_141 : decode cX11_sum 141 = .ok (.sipush 187, 3) := by decide +kernel
theorem dX11_sum_144 : decode cX11_sum 144 = .ok (.invokevirtual 106, 3) := by decide +kernel
theorem dX11_sum_147 : decode cX11_sum 147 = .ok (.goto 20, 3) := by decide +kernel
theorem dX11_sum_150 : decode cX11_sum 150 = .ok (.aload_n 0, 1) := by decide +kernel
theorem dX11_sum_151 : decode cX11_sum 151 = .ok (.sipush 184, 3) := by decide +kernel
theorem dX11_sum_154 : decode cX11_sum 154 = .ok (.sipush 187, 3) := by decide +kernel
theorem dX11_sum_157 : decode cX11_sum 157 = .ok (.sipush 186, 3) := by decide +kernel
theorem dX11_sum_160 : decode cX11_sum 160 = .ok (.invokevirtual 106, 3) := by decide +kernel
theorem dX11_sum_163 : decode cX11_sum 163 = .ok (.iload 6, 2) := by decide +kernel
theorem dX11_sum_165 : decode cX11_sum 165 = .ok (.istore 8, 2) := by decide +kernel
theorem dX11_sum_167 : decode cX11_sum 167 = .ok (.aload_n 0, 1) := by decide +kernel
theorem dX11_sum_168 : decode cX11_sum 168 = .ok (.iload_n 1, 1) := by decide +kernel
theorem dX11_sum_169 : decode cX11_sum 169 = .ok (.iload 8, 2) := by decide +kernel
theorem dX11_sum_171 : decode cX11_sum 171 = .ok (.sipush 184, 3) := by decide +kernel
theorem dX11_sum_174 : decode cX11_sum 174 = .ok (.sipush 185, 3) := by decide +kernel
theorem dX11_sum_177 : decode cX11_sum 177 = .ok (.invokevirtual 100, 3) := by decide +kernel
theorem dX11_sum_180 : decode cX11_sum 180 = .ok (.return_, 1) := by decide +kernel
