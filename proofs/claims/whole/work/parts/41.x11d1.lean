theorem dX11_isSame_0 : decode cX11_isSame 0 = .ok (.aload_n 0, 1) := by decide +kernel
theorem dX11_isSame_1 : decode cX11_isSame 1 = .ok (.getfield 17, 3) := by decide +kernel
theorem dX11_isSame_4 : decode cX11_isSame 4 = .ok (.iload_n 1, 1) := by decide +kernel
theorem dX11_isSame_5 : decode cX11_isSame 5 = .ok (.iaload, 1) := by decide +kernel
theorem dX11_isSame_6 : decode cX11_isSame 6 = .ok (.aload_n 0, 1) := by decide +kernel
theorem dX11_isSame_7 : decode cX11_isSame 7 = .ok (.getfield 17, 3) := by decide +kernel
theorem dX11_isSame_10 : decode cX11_isSame 10 = .ok (.iload_n 2, 1) := by decide +kernel
theorem dX11_isSame_11 : decode cX11_isSame 11 = .ok (.iaload, 1) := by decide +kernel
theorem dX11_isSame_12 : decode cX11_isSame 12 = .ok (.if_icmp .ne 37, 3) := by decide +kernel
theorem dX11_isSame_15 : decode cX11_isSame 15 = .ok (.aload_n 0, 1) := by decide +kernel
theorem dX11_isSame_16 : decode cX11_isSame 16 = .ok (.iconst 2, 1) := by decide +kernel
theorem dX11_isSame_17 : decode cX11_isSame 17 = .ok (.iload_n 1, 1) := by decide +kernel
theorem dX11_isSame_18 : decode cX11_isSame 18 = .ok (.imul, 1) := by decide +kernel
theorem dX11_isSame_19 : decode cX11_isSame 19 = .ok (.iconst 2, 1) := by decide +kernel
theorem dX11_isSame_20 : decode cX11_isSame 20 = .ok (.iload_n 2, 1) := by decide +kernel
theorem dX11_isSame_21 : decode cX11_isSame 21 = .ok (.imul, 1) := by decide +kernel
theorem dX11_isSame_22 : decode cX11_isSame 22 = .ok (.invokevirtual 65, 3) := by decide +kernel
theorem dX11_isSame_25 : decode cX11_isSame 25 = .ok (.ifCond .ne 24, 3) := by decide +kernel
theorem dX11_isSame_28 : decode cX11_isSame 28 = .ok (.aload_n 0, 1) := by decide +kernel
theorem dX11_isSame_29 : decode cX11_isSame 29 = .ok (.iconst 2, 1) := by decide +kernel
theorem dX11_isSame_30 : decode cX11_isSame 30 = .ok (.iload_n 1, 1) := by decide +kernel
theorem dX11_isSame_31 : decode cX11_isSame 31 = .ok (.imul, 1) := by decide +kernel
theorem dX11_isSame_32 : decode cX11_isSame 32 = .ok (.iconst 1, 1) := by decide +kernel
theorem dX11_isSame_33 : decode cX11_isSame 33 = .ok (.iadd, 1) := by decide +kernel
theorem dX11_isSame_34 : decode cX11_isSame 34 = .ok (.iconst 2, 1) := by decide +kernel
theorem dX11_isSame_35 : decode cX11_isSame 35 = .ok (.iload_n 2, 1) := by decide +kernel
theorem dX11_isSame_36 : decode cX11_isSame 36 = .ok (.imul, 1) := by decide +kernel
theorem dX11_isSame_37 : decode cX11_isSame 37 = .ok (.iconst 1, 1) := by decide +kernel
theorem dX11_isSame_38 : decode cX11_isSame 38 = .ok (.iadd, 1) := by decide +kernel
theorem dX11_isSame_39 : decode cX11_isSame 39 = .ok (.invokevirtual 65, 3) := by decide +kernel
theorem dX11_isSame_42 : decode cX11_isSame 42 = .ok (.ifCond .ne 7, 3) := by decide +kernel
theorem dX11_isSame_45 : decode cX11_isSame 45 = .ok (.iconst 1, 1) := by decide +kernel
theorem dX11_isSame_46 : decode cX11_isSame 46 = .ok (.goto 4, 3) := by decide +kernel
theorem dX11_isSame_49 : decode cX11_isSame 49 = .ok (.iconst 0, 1) := by decide +kernel
theorem dX11_isSame_50 : decode cX11_isSame 50 = .ok (.ireturn, 1) := by decide +kernel
theorem dX11_part_0 : decode cX11_part 0 = .ok (.iload_n 2, 1) := by decide +kernel
theorem dX11_part_1 : decode cX11_part 1 = .ok (.ifCond .ne 10, 3) := by decide +kernel
theorem dX11_part_4 : decode cX11_part 4 = .ok (.aload_n 0, 1) := by decide +kernel
theorem dX11_part_5 : decode cX11_part 5 = .ok (.getfield 17, 3) := by decide +kernel
theorem dX11_part_8 : decode cX11_part 8 = .ok (.iload_n 1, 1) := by decide +kernel
theorem dX11_part_9 : decode cX11_part 9 = .ok (.iaload, 1) := by decide +kernel
theorem dX11_part_10 : decode cX11_part 10 = .ok (.ireturn, 1) := by decide +kernel
theorem dX11_part_11 : decode cX11_part 11 = .ok (.iload_n 2, 1) := by decide +kernel
theorem dX11_part_12 : decode cX11_part 12 = .ok (.iconst 1, 1) := by decide +kernel
theorem dX11_part_13 : decode cX11_part 13 = .ok (.if_icmp .ne 9, 3) := by decide +kernel
theorem dX11_part_16 : decode cX11_part 16 = .ok (.iconst 2, 1) := by decide +kernel
theorem dX11_part_17 : decode cX11_part 17 = .ok (.iload_n 1, 1) := by decide +kernel
theorem dX11_part_18 : decode cX11_part 18 = .ok (.imul, 1) := by decide +kernel
theorem dX11_part_19 : decode cX11_part 19 = .ok (.goto 8, 3) := by decide +kernel
theorem dX11_part_22 : decode cX11_part 22 = .ok (.iconst 2, 1) := by decide +kernel
theorem dX11_part_23 : decode cX11_part 23 = .ok (.iload_n 1, 1) := by decide +kernel
theorem dX11_part_24 : decode cX11_part 24 = .ok (.imul, 1) := by decide +kernel
theorem dX11_part_25 : decode cX11_part 25 = .ok (.iconst 1, 1) := by decide +kernel
theorem dX11_part_26 : decode cX11_part 26 = .ok (.iadd, 1) := by decide +kernel
theorem dX11_part_27 : decode cX11_part 27 = .ok (.istore 4, 2) := by decide +kernel
theorem dX11_part_29 : decode cX11_part 29 = .ok (.iload_n 3, 1) := by decide +kernel
theorem dX11_part_30 : decode cX11_part 30 = .ok (.iconst (-1), 1) := by decide +kernel
theorem dX11_part_31 : decode cX11_part 31 = .ok (.if_icmp .ne 13, 3) := by decide +kernel
theorem dX11_part_34 : decode cX11_part 34 = .ok (.aload_n 0, 1) := by decide +kernel
theorem dX11_part_35 : decode cX11_part 35 = .ok (.getfield 14, 3) := by decide +kernel
theorem dX11_part_38 : decode cX11_part 38 = .ok (.iload 4, 2) := by decide +kernel
theorem dX11_part_40 : decode cX11_part 40 = .ok (.iaload, 1) := by decide +kernel
theorem dX11_part_41 : decode cX11_part 41 = .ok (.goto 34, 3) := by decide +kernel
theorem dX11_part_44 : decode cX11_part 44 = .ok (.iload_n 3, 1) := by decide +kernel
theorem dX11_part_45 : decode cX11_part 45 = .ok (.ifCond .lt 14, 3) := by decide +kernel
theorem dX11_part_48 : decode cX11_part 48 = .ok (.iload_n 3, 1) := by decide +kernel
theorem dX11_part_49 : decode cX11_part 49 = .ok (.aload_n 0, 1) := by decide +kernel
theorem dX11_part_50 : decode cX11_part 50 = .ok (.getfield 14, 3) := by decide +kernel
theorem dX11_part_53 : decode cX11_part 53 = .ok (.iload 4, 2) := by decide +kernel
theorem dX11_part_55 : decode cX11_part 55 = .ok (.iaload, 1) := by decide +kernel
theorem dX11_part_56 : decode cX11_part 56 = .ok (.if_icmp .lt 7, 3) := by decide +kernel
theorem dX11_part_59 : decode cX11_part 59 = .ok (.iconst (-1), 1) := by decide +kernel
theorem dX11_part_60 : decode cX11_part 60 = .ok (.goto 15, 3) := by decide +kernel
theorem dX11_part_63 : decode cX11_part 63 = .ok (.aload_n 0, 1) := by decide +kernel
theorem dX11_part_64 : decode cX11_part 64 = .ok (.getfield 8, 3) := by decide +kernel
theorem dX11_part_67 : decode cX11_part 67 = .ok (.iload 4, 2) := by decide +kernel
theorem dX11_part_69 : decode cX11_part 69 = .ok (.invokestatic 43, 3) := by decide +kernel
theorem dX11_part_72 : decode cX11_part 72 = .ok (.iload_n 3, 1) := by decide +kernel
theorem dX11_part_73 : decode cX11_part 73 = .ok (.iadd, 1) := by decide +kernel
theorem dX11_part_74 : decode cX11_part 74 = .ok (.iaload, 1) := by decide +kernel
theorem dX11_part_75 : decode cX11_part 75 = .ok (.ireturn, 1) := by decide +kernel
theorem dX11_place_0 : decode cX11_place 0 = .ok (.bipush 7, 2) := by decide +kernel
theorem dX11_place_2 : decode cX11_place 2 = .ok (.iload_n 0, 1) := by decide +kernel
theorem dX11_place_3 : decode cX11_place 3 = .ok (.imul, 1) := by decide +kernel
theorem dX11_place_4 : decode cX11_place 4 = .ok (.iload_n 1, 1) := by decide +kernel
theorem dX11_place_5 : decode cX11_place 5 = .ok (.iadd, 1) := by decide +kernel
theorem dX11_place_6 : decode cX11_place 6 = .ok (.ireturn, 1) := by decide +kernel
theorem dX11_clear_0 : decode cX11_clear 0 = .ok (.aload_n 0, 1) := by decide +kernel
theorem dX11_clear_1 : decode cX11_clear 1 = .ok (.iconst 0, 1) := by decide +kernel
theorem dX11_clear_2 : decode cX11_clear 2 = .ok (.putfield 109, 3) := by decide +kernel
theorem dX11_clear_5 : decode cX11_clear 5 = .ok (.iconst 0, 1) := by decide +kernel
theorem dX11_clear_6 : decode cX11_clear 6 = .ok (.istore_n 1, 1) := by decide +kernel
theorem dX11_clear_7 : decode cX11_clear 7 = .ok (.iload_n 1, 1) := by decide +kernel
theorem dX11_clear_8 : decode cX11_clear 8 = .ok (.bipush 42, 2) := by decide +kernel
theorem dX11_clear_10 : decode cX11_clear 10 = .ok (.if_icmp .ge 14, 3) := by decide +kernel
theorem dX11_clear_13 : decode cX11_clear 13 = .ok (.aload_n 0, 1) := by decide +kernel
theorem dX11_clear_14 : decode cX11_clear 14 = .ok (.iload_n 1, 1) := by decide +kernel
theorem dX11_clear_15 : decode cX11_clear 15 = .ok (.invokevirtual 85, 3) := by decide +kernel
theorem dX11_clear_18 : decode cX11_clear 18 = .ok (.iinc 1 1, 3) := by decide +kernel
theorem dX11_clear_21 : decode cX11_clear 21 = .ok (.goto (-14), 3) := by decide +kernel
theorem dX11_clear_24 : decode cX11_clear 24 = .ok (.return_, 1) := by decide +kernel
theorem dX11_size_0 : decode cX11_size 0 = .ok (.aload_n 0, 1) := by decide +kernel
theorem dX11_size_1 : decode cX11_size 1 = .ok (.iload_n 1, 1) := by decide +kernel
theorem dX11_size_2 : decode cX11_size 2 = .ok (.iconst 1, 1) := by decide +kernel
theorem dX11_size_3 : decode cX11_size 3 = .ok (.if_icmp .lt 9, 3) := by decide +kernel
theorem dX11_size_6 : decode cX11_size 6 = .ok (.iload_n 1, 1) := by decide +kernel
theorem dX11_size_7 : decode cX11_size 7 = .ok (.bipush 6, 2) := by decide +kernel
theorem dX11_size_9 : decode cX11_size 9 = .ok (.if_icmp .le 7, 3) := by decide +kernel
theorem dX11_size_12 : decode cX11_size 12 = .ok (.iconst 1, 1) := by decide +kernel
theorem dX11_size_13 : decode cX11_size 13 = .ok (.goto 4, 3) := by decide +kernel
theorem dX11_size_16 : decode cX11_size 16 = .ok (.iconst 0, 1) := by decide +kernel
theorem dX11_size_17 : decode cX11_size 17 = .ok (.putfield 40, 3) := by decide +kernel
theorem dX11_size_20 : decode cX11_size 20 = .ok (.aload_n 0, 1) := by decide +kernel
theorem dX11_size_21 : decode cX11_size 21 = .ok (.getfield 40, 3) := by decide +kernel
theorem dX11_size_24 : decode cX11_size 24 = .ok (.ifCond .ne 12, 3) := by decide +kernel
theorem dX11_size_27 : decode cX11_size 27 = .ok (.aload_n 0, 1) := by decide +kernel
theorem dX11_size_28 : decode cX11_size 28 = .ok (.iload_n 1, 1) := by decide +kernel
theorem dX11_size_29 : decode cX11_size 29 = .ok (.putfield 26, 3) := by decide +kernel
theorem dX11_size_32 : decode cX11_size 32 = .ok (.aload_n 0, 1) := by decide +kernel
theorem dX11_size_33 : decode cX11_size 33 = .ok (.invokevirtual 37, 3) := by decide +kernel
theorem dX11_size_36 : decode cX11_size 36 = .ok (.return_, 1) := by decide +kernel
theorem dX11_meterOf_0 : decode cX11_meterOf 0 = .ok (.iconst 0, 1) := by decide +kernel
theorem dX11_meterOf_1 : decode cX11_meterOf 1 = .ok (.istore_n 2, 1) := by decide +kernel
theorem dX11_meterOf_2 : decode cX11_meterOf 2 = .ok (.iconst 0, 1) := by decide +kernel
theorem dX11_meterOf_3 : decode cX11_meterOf 3 = .ok (.istore_n 3, 1) := by decide +kernel
theorem dX11_meterOf_4 : decode cX11_meterOf 4 = .ok (.iload_n 3, 1) := by decide +kernel
theorem dX11_meterOf_5 : decode cX11_meterOf 5 = .ok (.aload_n 0, 1) := by decide +kernel
theorem dX11_meterOf_6 : decode cX11_meterOf 6 = .ok (.getfield 26, 3) := by decide +kernel
theorem dX11_meterOf_9 : decode cX11_meterOf 9 = .ok (.if_icmp .ge 61, 3) := by decide +kernel
theorem dX11_meterOf_12 : decode cX11_meterOf 12 = .ok (.iconst 0, 1) := by decide +kernel
theorem dX11_meterOf_13 : decode cX11_meterOf 13 = .ok (.istore 4, 2) := by decide +kernel
theorem dX11_meterOf_15 : decode cX11_meterOf 15 = .ok (.iload 4, 2) := by decide +kernel
theorem dX11_meterOf_17 : decode cX11_meterOf 17 = .ok (.aload_n 0, 1) := by decide +kernel
theorem dX11_meterOf_18 : decode cX11_meterOf 18 = .ok (.getfield 26, 3) := by decide +kernel
theorem dX11_meterOf_21 : decode cX11_meterOf 21 = .ok (.if_icmp .gt 43, 3) := by decide +kernel
theorem dX11_meterOf_24 : decode cX11_meterOf 24 = .ok (.iload_n 1, 1) := by decide +kernel
theorem dX11_meterOf_25 : decode cX11_meterOf 25 = .ok (.iload_n 3, 1) := by decide +kernel
theorem dX11_meterOf_26 : decode cX11_meterOf 26 = .ok (.iload 4, 2) := by decide +kernel
theorem dX11_meterOf_28 : decode cX11_meterOf 28 = .ok (.invokestatic 113, 3) := by decide +kernel
theorem dX11_meterOf_31 : decode cX11_meterOf 31 = .ok (.iadd, 1) := by decide +kernel
theorem dX11_meterOf_32 : decode cX11_meterOf 32 = .ok (.istore 5, 2) := by decide +kernel
theorem dX11_meterOf_34 : decode cX11_meterOf 34 = .ok (.iload_n 2, 1) := by decide +kernel
theorem dX11_meterOf_35 : decode cX11_meterOf 35 = .ok (.aload_n 0, 1) := by decide +kernel
theorem dX11_meterOf_36 : decode cX11_meterOf 36 = .ok (.getfield 14, 3) := by decide +kernel
theorem dX11_meterOf_39 : decode cX11_meterOf 39 = .ok (.iconst 2, 1) := by decide +kernel
theorem dX11_meterOf_40 : decode cX11_meterOf 40 = .ok (.iload 5, 2) := by decide +kernel
theorem dX11_meterOf_42 : decode cX11_meterOf 42 = .ok (.imul, 1) := by decide +kernel
theorem dX11_meterOf_43 : decode cX11_meterOf 43 = .ok (.iaload, 1) := by decide +kernel
theorem dX11_meterOf_44 : decode cX11_meterOf 44 = .ok (.aload_n 0, 1) := by decide +kernel
theorem dX11_meterOf_45 : decode cX11_meterOf 45 = .ok (.getfield 14, 3) := by decide +kernel
theorem dX11_meterOf_48 : decode cX11_meterOf 48 = .ok (.iconst 2, 1) := by decide +kernel
theorem dX11_meterOf_49 : decode cX11_meterOf 49 = .ok (.iload 5, 2) := by decide +kernel
theorem dX11_meterOf_51 : decode cX11_meterOf 51 = .ok (.imul, 1) := by decide +kernel
theorem dX11_meterOf_52 : decode cX11_meterOf 52 = .ok (.iconst 1, 1) := by decide +kernel
theorem dX11_meterOf_53 : decode cX11_meterOf 53 = .ok (.iadd, 1) := by decide +kernel
theorem dX11_meterOf_54 : decode cX11_meterOf 54 = .ok (.iaload, 1) := by decide +kernel
theorem dX11_meterOf_55 : decode cX11_meterOf 55 = .ok (.iadd, 1) := by decide +kernel
theorem dX11_meterOf_56 : decode cX11_meterOf 56 = .ok (.iadd, 1) := by decide +kernel
theorem dX11_meterOf_57 : decode cX11_meterOf 57 = .ok (.istore_n 2, 1) := by decide +kernel
theorem dX11_meterOf_58 : decode cX11_meterOf 58 = .ok (.iinc 4 1, 3) := by decide +kernel
theorem dX11_meterOf_61 : decode cX11_meterOf 61 = .ok (.goto (-46), 3) := by decide +kernel
theorem dX11_meterOf_64 : decode cX11_meterOf 64 = .ok (.iinc 3 1, 3) := by decide +kernel
theorem dX11_meterOf_67 : decode cX11_meterOf 67 = .ok (.goto (-63), 3) := by decide +kernel
theorem dX11_meterOf_70 : decode cX11_meterOf 70 = .ok (.iload_n 2, 1) := by decide +kernel
theorem dX11_meterOf_71 : decode cX11_meterOf 71 = .ok (.ireturn, 1) := by decide +kernel
theorem dX11_setOne_0 : decode cX11_setOne 0 = .ok (.iload_n 2, 1) := by decide +kernel
theorem dX11_setOne_1 : decode cX11_setOne 1 = .ok (.ifCond .ge 9, 3) := by decide +kernel
theorem dX11_setOne_4 : decode cX11_setOne 4 = .ok (.iload_n 2, 1) := by decide +kernel
theorem dX11_setOne_5 : decode cX11_setOne 5 = .ok (.i2l, 1) := by decide +kernel
theorem dX11_setOne_6 : decode cX11_setOne 6 = .ok (.lneg, 1) := by decide +kernel
theorem dX11_setOne_7 : decode cX11_setOne 7 = .ok (.goto 5, 3) := by decide +kernel
theorem dX11_setOne_10 : decode cX11_setOne 10 = .ok (.iload_n 2, 1) := by decide +kernel
theorem dX11_setOne_11 : decode cX11_setOne 11 = .ok (.i2l, 1) := by decide +kernel
theorem dX11_setOne_12 : decode cX11_setOne 12 = .ok (.lstore 4, 2) := by decide +kernel
theorem dX11_setOne_14 : decode cX11_setOne 14 = .ok (.iload_n 3, 1) := by decide +kernel
theorem dX11_setOne_15 : decode cX11_setOne 15 = .ok (.ifCond .ge 9, 3) := by decide +kernel
theorem dX11_setOne_18 : decode cX11_setOne 18 = .ok (.iload_n 3, 1) := by decide +kernel
theorem dX11_setOne_19 : decode cX11_setOne 19 = .ok (.i2l, 1) := by decide +kernel
theorem dX11_setOne_20 : decode cX11_setOne 20 = .ok (.lneg, 1) := by decide +kernel
theorem dX11_setOne_21 : decode cX11_setOne 21 = .ok (.goto 5, 3) := by decide +kernel
theorem dX11_setOne_24 : decode cX11_setOne 24 = .ok (.iload_n 3, 1) := by decide +kernel
theorem dX11_setOne_25 : decode cX11_setOne 25 = .ok (.i2l, 1) := by decide +kernel
theorem dX11_setOne_26 : decode cX11_setOne 26 = .ok (.lstore 6, 2) := by decide +kernel
theorem dX11_setOne_28 : decode cX11_setOne 28 = .ok (.lload 4, 2) := by decide +kernel
theorem dX11_setOne_30 : decode cX11_setOne 30 = .ok (.lstore 8, 2) := by decide +kernel
theorem dX11_setOne_32 : decode cX11_setOne 32 = .ok (.lload 6, 2) := by decide +kernel
theorem dX11_setOne_34 : decode cX11_setOne 34 = .ok (.lstore 10, 2) := by decide +kernel
theorem dX11_setOne_36 : decode cX11_setOne 36 = .ok (.lload 10, 2) := by decide +kernel
theorem dX11_setOne_38 : decode cX11_setOne 38 = .ok (.lconst 0, 1) := by decide +kernel
theorem dX11_setOne_39 : decode cX11_setOne 39 = .ok (.lcmp, 1) := by decide +kernel
theorem dX11_setOne_40 : decode cX11_setOne 40 = .ok (.ifCond .le 21, 3) := by decide +kernel
theorem dX11_setOne_43 : decode cX11_setOne 43 = .ok (.lload 8, 2) := by decide +kernel
theorem dX11_setOne_45 : decode cX11_setOne 45 = .ok (.lload 10, 2) := by decide +kernel
theorem dX11_setOne_47 : decode cX11_setOne 47 = .ok (.lrem, 1) := by decide +kernel
theorem dX11_setOne_48 : decode cX11_setOne 48 = .ok (.lstore 12, 2) := by decide +kernel
theorem dX11_setOne_50 : decode cX11_setOne 50 = .ok (.lload 10, 2) := by decide +kernel
theorem dX11_setOne_52 : decode cX11_setOne 52 = .ok (.lstore 8, 2) := by decide +kernel
theorem dX11_setOne_54 : decode cX11_setOne 54 = .ok (.lload 12, 2) := by decide +kernel
theorem dX11_setOne_56 : decode cX11_setOne 56 = .ok (.lstore 10, 2) := by decide +kernel
theorem dX11_setOne_58 : decode cX11_setOne 58 = .ok (.goto (-22), 3) := by decide +kernel
theorem dX11_setOne_61 : decode cX11_setOne 61 = .ok (.aload_n 0, 1) := by decide +kernel
theorem dX11_setOne_62 : decode cX11_setOne 62 = .ok (.getfield 17, 3) := by decide +kernel
theorem dX11_setOne_65 : decode cX11_setOne 65 = .ok (.iload_n 1, 1) := by decide +kernel
theorem dX11_setOne_66 : decode cX11_setOne 66 = .ok (.iload_n 2, 1) := by decide +kernel
theorem dX11_setOne_67 : decode cX11_setOne 67 = .ok (.ifCond .ne 7, 3) := by decide +kernel
theorem dX11_setOne_70 : decode cX11_setOne 70 = .ok (.iconst 0, 1) := by decide +kernel
theorem dX11_setOne_71 : decode cX11_setOne 71 = .ok (.goto 29, 3) := by decide +kernel
theorem dX11_setOne_74 : decode cX11_setOne 74 = .ok (.iload_n 2, 1) := by decide +kernel
theorem dX11_setOne_75 : decode cX11_setOne 75 = .ok (.ifCond .ge 7, 3) := by decide +kernel
theorem dX11_setOne_78 : decode cX11_setOne 78 = .ok (.iconst 1, 1) := by decide +kernel
theorem dX11_setOne_79 : decode cX11_setOne 79 = .ok (.goto 4, 3) := by decide +kernel
theorem dX11_setOne_82 : decode cX11_setOne 82 = .ok (.iconst 0, 1) := by decide +kernel
theorem dX11_setOne_83 : decode cX11_setOne 83 = .ok (.iload_n 3, 1) := by decide +kernel
theorem dX11_setOne_84 : decode cX11_setOne 84 = .ok (.ifCond .ge 7, 3) := by decide +kernel
theorem dX11_setOne_87 : decode cX11_setOne 87 = .ok (.iconst 1, 1) := by decide +kernel
theorem dX11_setOne_88 : decode cX11_setOne 88 = .ok (.goto 4, 3) := by decide +kernel
theorem dX11_setOne_91 : decode cX11_setOne 91 = .ok (.iconst 0, 1) := by decide +kernel
theorem dX11_setOne_92 : decode cX11_setOne 92 = .ok (.if_icmp .ne 7, 3) := by decide +kernel
theorem dX11_setOne_95 : decode cX11_setOne 95 = .ok (.iconst 1, 1) := by decide +kernel
theorem dX11_setOne_96 : decode cX11_setOne 96 = .ok (.goto 4, 3) := by decide +kernel
theorem dX11_setOne_99 : decode cX11_setOne 99 = .ok (.iconst (-1), 1) := by decide +kernel
theorem dX11_setOne_100 : decode cX11_setOne 100 = .ok (.iastore, 1) := by decide +kernel
theorem dX11_setOne_101 : decode cX11_setOne 101 = .ok (.aload_n 0, 1) := by decide +kernel
theorem dX11_setOne_102 : decode cX11_setOne 102 = .ok (.iconst 2, 1) := by decide +kernel
theorem dX11_setOne_103 : decode cX11_setOne 103 = .ok (.iload_n 1, 1) := by decide +kernel
theorem dX11_setOne_104 : decode cX11_setOne 104 = .ok (.imul, 1) := by decide +kernel
theorem dX11_setOne_105 : decode cX11_setOne 105 = .ok (.lload 4, 2) := by decide +kernel
theorem dX11_setOne_107 : decode cX11_setOne 107 = .ok (.lload 8, 2) := by decide +kernel
theorem dX11_setOne_109 : decode cX11_setOne 109 = .ok (.ldiv, 1) := by decide +kernel
theorem dX11_setOne_110 : decode cX11_setOne 110 = .ok (.invokevirtual 61, 3) := by decide +kernel
theorem dX11_setOne_113 : decode cX11_setOne 113 = .ok (.aload_n 0, 1) := by decide +kernel
theorem dX11_setOne_114 : decode cX11_setOne 114 = .ok (.iconst 2, 1) := by decide +kernel
theorem dX11_setOne_115 : decode cX11_setOne 115 = .ok (.iload_n 1, 1) := by decide +kernel
theorem dX11_setOne_116 : decode cX11_setOne 116 = .ok (.imul, 1) := by decide +kernel
theorem dX11_setOne_117 : decode cX11_setOne 117 = .ok (.iconst 1, 1) := by decide +kernel
theorem dX11_setOne_118 : decode cX11_setOne 118 = .ok (.iadd, 1) := by decide +kernel
theorem dX11_setOne_119 : decode cX11_setOne 119 = .ok (.lload 6, 2) := by decide +kernel
theorem dX11_setOne_121 : decode cX11_setOne 121 = .ok (.lload 8, 2) := by decide +kernel
theorem dX11_setOne_123 : decode cX11_setOne 123 = .ok (.ldiv, 1) := by decide +kernel
theorem dX11_setOne_124 : decode cX11_setOne 124 = .ok (.invokevirtual 61, 3) := by decide +kernel
theorem dX11_setOne_127 : decode cX11_setOne 127 = .ok (.aload_n 0, 1) := by decide +kernel
theorem dX11_setOne_128 : decode cX11_setOne 128 = .ok (.iconst 0, 1) := by decide +kernel
theorem dX11_setOne_129 : decode cX11_setOne 129 = .ok (.putfield 109, 3) := by decide +kernel
theorem dX11_setOne_132 : decode cX11_setOne 132 = .ok (.aload_n 0, 1) := by decide +kernel
theorem dX11_setOne_133 : decode cX11_setOne 133 = .ok (.iconst 0, 1) := by decide +kernel
theorem dX11_setOne_134 : decode cX11_setOne 134 = .ok (.invokevirtual 116, 3) := by decide +kernel
theorem dX11_setOne_137 : decode cX11_setOne 137 = .ok (.ireturn, 1) := by decide +kernel
theorem dX11_set_0 : decode cX11_set 0 = .ok (.aload_n 0, 1) := by decide +kernel
theorem dX11_set_1 : decode cX11_set 1 = .ok (.iload_n 1, 1) := by decide +kernel
theorem dX11_set_2 : decode cX11_set 2 = .ok (.ifCond .lt 23, 3) := by decide +kernel
theorem dX11_set_5 : decode cX11_set 5 = .ok (.iload_n 1, 1) := by decide +kernel
theorem dX11_set_6 : decode cX11_set 6 = .ok (.aload_n 0, 1) := by decide +kernel
theorem dX11_set_7 : decode cX11_set 7 = .ok (.getfield 26, 3) := by decide +kernel
theorem dX11_set_10 : decode cX11_set 10 = .ok (.if_icmp .ge 15, 3) := by decide +kernel
theorem dX11_set_13 : decode cX11_set 13 = .ok (.iload_n 2, 1) := by decide +kernel
theorem dX11_set_14 : decode cX11_set 14 = .ok (.ifCond .lt 11, 3) := by decide +kernel
theorem dX11_set_17 : decode cX11_set 17 = .ok (.iload_n 2, 1) := by decide +kernel
theorem dX11_set_18 : decode cX11_set 18 = .ok (.aload_n 0, 1) := by decide +kernel
theorem dX11_set_19 : decode cX11_set 19 = .ok (.getfield 26, 3) := by decide +kernel
theorem dX11_set_22 : decode cX11_set 22 = .ok (.if_icmp .lt 7, 3) := by decide +kernel
theorem dX11_set_25 : decode cX11_set 25 = .ok (.iconst 1, 1) := by decide +kernel
theorem dX11_set_26 : decode cX11_set 26 = .ok (.goto 13, 3) := by decide +kernel
theorem dX11_set_29 : decode cX11_set 29 = .ok (.iload 4, 2) := by decide +kernel
theorem dX11_set_31 : decode cX11_set 31 = .ok (.ifCond .ne 7, 3) := by decide +kernel
theorem dX11_set_34 : decode cX11_set 34 = .ok (.iconst 2, 1) := by decide +kernel
theorem dX11_set_35 : decode cX11_set 35 = .ok (.goto 4, 3) := by decide +kernel
theorem dX11_set_38 : decode cX11_set 38 = .ok (.iconst 0, 1) := by decide +kernel
theorem dX11_set_39 : decode cX11_set 39 = .ok (.putfield 40, 3) := by decide +kernel
theorem dX11_set_42 : decode cX11_set 42 = .ok (.aload_n 0, 1) := by decide +kernel
theorem dX11_set_43 : decode cX11_set 43 = .ok (.getfield 40, 3) := by decide +kernel
theorem dX11_set_46 : decode cX11_set 46 = .ok (.ifCond .le 7, 3) := by decide +kernel
theorem dX11_set_49 : decode cX11_set 49 = .ok (.iconst 0, 1) := by decide +kernel
theorem dX11_set_50 : decode cX11_set 50 = .ok (.goto 15, 3) := by decide +kernel
theorem dX11_set_53 : decode cX11_set 53 = .ok (.aload_n 0, 1) := by decide +kernel
theorem dX11_set_54 : decode cX11_set 54 = .ok (.iload_n 1, 1) := by decide +kernel
theorem dX11_set_55 : decode cX11_set 55 = .ok (.iload_n 2, 1) := by decide +kernel
theorem dX11_set_56 : decode cX11_set 56 = .ok (.invokestatic 113, 3) := by decide +kernel
theorem dX11_set_59 : decode cX11_set 59 = .ok (.iload_n 3, 1) := by decide +kernel
theorem dX11_set_60 : decode cX11_set 60 = .ok (.iload 4, 2) := by decide +kernel
theorem dX11_set_62 : decode cX11_set 62 = .ok (.invokevirtual 119, 3) := by decide +kernel
theorem dX11_set_65 : decode cX11_set 65 = .ok (.ireturn, 1) := by decide +kernel
theorem dX11_right_0 : decode cX11_right 0 = .ok (.aload_n 0, 1) := by decide +kernel
theorem dX11_right_1 : decode cX11_right 1 = .ok (.iload_n 1, 1) := by decide +kernel
theorem dX11_right_2 : decode cX11_right 2 = .ok (.ifCond .lt 11, 3) := by decide +kernel
theorem dX11_right_5 : decode cX11_right 5 = .ok (.iload_n 1, 1) := by decide +kernel
theorem dX11_right_6 : decode cX11_right 6 = .ok (.aload_n 0, 1) := by decide +kernel
theorem dX11_right_7 : decode cX11_right 7 = .ok (.getfield 26, 3) := by decide +kernel
theorem dX11_right_10 : decode cX11_right 10 = .ok (.if_icmp .lt 7, 3) := by decide +kernel
theorem dX11_right_13 : decode cX11_right 13 = .ok (.iconst 1, 1) := by decide +kernel
theorem dX11_right_14 : decode cX11_right 14 = .ok (.goto 12, 3) := by decide +kernel
theorem dX11_right_17 : decode cX11_right 17 = .ok (.iload_n 3, 1) := by decide +kernel
theorem dX11_right_18 : decode cX11_right 18 = .ok (.ifCond .ne 7, 3) := by decide +kernel
theorem dX11_right_21 : decode cX11_right 21 = .ok (.iconst 2, 1) := by decide +kernel
theorem dX11_right_22 : decode cX11_right 22 = .ok (.goto 4, 3) := by decide +kernel
theorem dX11_right_25 : decode cX11_right 25 = .ok (.iconst 0, 1) := by decide +kernel
theorem dX11_right_26 : decode cX11_right 26 = .ok (.putfield 40, 3) := by decide +kernel
theorem dX11_right_29 : decode cX11_right 29 = .ok (.aload_n 0, 1) := by decide +kernel
theorem dX11_right_30 : decode cX11_right 30 = .ok (.getfield 40, 3) := by decide +kernel
theorem dX11_right_33 : decode cX11_right 33 = .ok (.ifCond .le 7, 3) := by decide +kernel
theorem dX11_right_36 : decode cX11_right 36 = .ok (.iconst 0, 1) := by decide +kernel
theorem dX11_right_37 : decode cX11_right 37 = .ok (.goto 17, 3) := by decide +kernel
theorem dX11_right_40 : decode cX11_right 40 = .ok (.aload_n 0, 1) := by decide +kernel
theorem dX11_right_41 : decode cX11_right 41 = .ok (.iload_n 1, 1) := by decide +kernel
theorem dX11_right_42 : decode cX11_right 42 = .ok (.aload_n 0, 1) := by decide +kernel
theorem dX11_right_43 : decode cX11_right 43 = .ok (.getfield 26, 3) := by decide +kernel
theorem dX11_right_46 : decode cX11_right 46 = .ok (.invokestatic 113, 3) := by decide +kernel
theorem dX11_right_49 : decode cX11_right 49 = .ok (.iload_n 2, 1) := by decide +kernel
theorem dX11_right_50 : decode cX11_right 50 = .ok (.iload_n 3, 1) := by decide +kernel
theorem dX11_right_51 : decode cX11_right 51 = .ok (.invokevirtual 119, 3) := by decide +kernel
theorem dX11_right_54 : decode cX11_right 54 = .ok (.ireturn, 1) := by decide +kernel
theorem dX11_exchange_0 : decode cX11_exchange 0 = .ok (.iconst 0, 1) := by decide +kernel
theorem dX11_exchange_1 : decode cX11_exchange 1 = .ok (.istore_n 3, 1) := by decide +kernel
theorem dX11_exchange_2 : decode cX11_exchange 2 = .ok (.iload_n 3, 1) := by decide +kernel
theorem dX11_exchange_3 : decode cX11_exchange 3 = .ok (.aload_n 0, 1) := by decide +kernel
theorem dX11_exchange_4 : decode cX11_exchange 4 = .ok (.getfield 26, 3) := by decide +kernel
theorem dX11_exchange_7 : decode cX11_exchange 7 = .ok (.if_icmp .gt 53, 3) := by decide +kernel
theorem dX11_exchange_10 : decode cX11_exchange 10 = .ok (.bipush 42, 2) := by decide +kernel
theorem dX11_exchange_12 : decode cX11_exchange 12 = .ok (.iload_n 1, 1) := by decide +kernel
theorem dX11_exchange_13 : decode cX11_exchange 13 = .ok (.iload_n 3, 1) := by decide +kernel
theorem dX11_exchange_14 : decode cX11_exchange 14 = .ok (.invokestatic 113, 3) := by decide +kernel
theorem dX11_exchange_17 : decode cX11_exchange 17 = .ok (.iadd, 1) := by decide +kernel
theorem dX11_exchange_18 : decode cX11_exchange 18 = .ok (.istore 4, 2) := by decide +kernel
theorem dX11_exchange_20 : decode cX11_exchange 20 = .ok (.bipush 42, 2) := by decide +kernel
theorem dX11_exchange_22 : decode cX11_exchange 22 = .ok (.iload_n 2, 1) := by decide +kernel
theorem dX11_exchange_23 : decode cX11_exchange 23 = .ok (.iload_n 3, 1) := by decide +kernel
theorem dX11_exchange_24 : decode cX11_exchange 24 = .ok (.invokestatic 113, 3) := by decide +kernel
theorem dX11_exchange_27 : decode cX11_exchange 27 = .ok (.iadd, 1) := by decide +kernel
theorem dX11_exchange_28 : decode cX11_exchange 28 = .ok (.istore 5, 2) := by decide +kernel
theorem dX11_exchange_30 : decode cX11_exchange 30 = .ok (.aload_n 0, 1) := by decide +kernel
theorem dX11_exchange_31 : decode cX11_exchange 31 = .ok (.bipush 85, 2) := by decide +kernel
theorem dX11_exchange_33 : decode cX11_exchange 33 = .ok (.iload 4, 2) := by decide +kernel
theorem dX11_exchange_35 : decode cX11_exchange 35 = .ok (.invokevirtual 123, 3) := by decide +kernel
theorem dX11_exchange_38 : decode cX11_exchange 38 = .ok (.aload_n 0, 1) := by decide +kernel
theorem dX11_exchange_39 : decode cX11_exchange 39 = .ok (.iload 4, 2) := by decide +kernel
theorem dX11_exchange_41 : decode cX11_exchange 41 = .ok (.iload 5, 2) := by decide +kernel
theorem dX11_exchange_43 : decode cX11_exchange 43 = .ok (.invokevirtual 123, 3) := by decide +kernel
theorem dX11_exchange_46 : decode cX11_exchange 46 = .ok (.aload_n 0, 1) := by decide +kernel
theorem dX11_exchange_47 : decode cX11_exchange 47 = .ok (.iload 5, 2) := by decide +kernel
theorem dX11_exchange_49 : decode cX11_exchange 49 = .ok (.bipush 85, 2) := by decide +kernel
theorem dX11_exchange_51 : decode cX11_exchange 51 = .ok (.invokevirtual 123, 3) := by decide +kernel
theorem dX11_exchange_54 : decode cX11_exchange 54 = .ok (.iinc 3 1, 3) := by decide +kernel
theorem dX11_exchange_57 : decode cX11_exchange 57 = .ok (.goto (-55), 3) := by decide +kernel
theorem dX11_exchange_60 : decode cX11_exchange 60 = .ok (.return_, 1) := by decide +kernel
theorem dX11_clearCell_0 : decode cX11_clearCell 0 = .ok (.bipush 42, 2) := by decide +kernel
theorem dX11_clearCell_2 : decode cX11_clearCell 2 = .ok (.iload_n 1, 1) := by decide +kernel
theorem dX11_clearCell_3 : decode cX11_clearCell 3 = .ok (.iload_n 3, 1) := by decide +kernel
theorem dX11_clearCell_4 : decode cX11_clearCell 4 = .ok (.invokestatic 113, 3) := by decide +kernel
theorem dX11_clearCell_7 : decode cX11_clearCell 7 = .ok (.iadd, 1) := by decide +kernel
theorem dX11_clearCell_8 : decode cX11_clearCell 8 = .ok (.istore 4, 2) := by decide +kernel
theorem dX11_clearCell_10 : decode cX11_clearCell 10 = .ok (.aload_n 0, 1) := by decide +kernel
theorem dX11_clearCell_11 : decode cX11_clearCell 11 = .ok (.getfield 17, 3) := by decide +kernel
theorem dX11_clearCell_14 : decode cX11_clearCell 14 = .ok (.iload 4, 2) := by decide +kernel
theorem dX11_clearCell_16 : decode cX11_clearCell 16 = .ok (.iaload, 1) := by decide +kernel
theorem dX11_clearCell_17 : decode cX11_clearCell 17 = .ok (.ifCond .ne 4, 3) := by decide +kernel
theorem dX11_clearCell_20 : decode cX11_clearCell 20 = .ok (.return_, 1) := by decide +kernel
theorem dX11_clearCell_21 : decode cX11_clearCell 21 = .ok (.aload_n 0, 1) := by decide +kernel
theorem dX11_clearCell_22 : decode cX11_clearCell 22 = .ok (.bipush 86, 2) := by decide +kernel
theorem dX11_clearCell_24 : decode cX11_clearCell 24 = .ok (.iload 4, 2) := by decide +kernel
theorem dX11_clearCell_26 : decode cX11_clearCell 26 = .ok (.bipush 42, 2) := by decide +kernel
theorem dX11_clearCell_28 : decode cX11_clearCell 28 = .ok (.iload_n 2, 1) := by decide +kernel
theorem dX11_clearCell_29 : decode cX11_clearCell 29 = .ok (.iload_n 3, 1) := by decide +kernel
theorem dX11_clearCell_30 : decode cX11_clearCell 30 = .ok (.invokestatic 113, 3) := by decide +kernel
theorem dX11_clearCell_33 : decode cX11_clearCell 33 = .ok (.iadd, 1) := by decide +kernel
theorem dX11_clearCell_34 : decode cX11_clearCell 34 = .ok (.invokevirtual 126, 3) := by decide +kernel
theorem dX11_clearCell_37 : decode cX11_clearCell 37 = .ok (.iconst 0, 1) := by decide +kernel
theorem dX11_clearCell_38 : decode cX11_clearCell 38 = .ok (.istore 5, 2) := by decide +kernel
theorem dX11_clearCell_40 : decode cX11_clearCell 40 = .ok (.iload 5, 2) := by decide +kernel
theorem dX11_clearCell_42 : decode cX11_clearCell 42 = .ok (.aload_n 0, 1) := by decide +kernel
theorem dX11_clearCell_43 : decode cX11_clearCell 43 = .ok (.getfield 26, 3) := by decide +kernel
theorem dX11_clearCell_46 : decode cX11_clearCell 46 = .ok (.if_icmp .gt 73, 3) := by decide +kernel
theorem dX11_clearCell_49 : decode cX11_clearCell 49 = .ok (.bipush 42, 2) := by decide +kernel
theorem dX11_clearCell_51 : decode cX11_clearCell 51 = .ok (.iload_n 2, 1) := by decide +kernel
theorem dX11_clearCell_52 : decode cX11_clearCell 52 = .ok (.iload 5, 2) := by decide +kernel
theorem dX11_clearCell_54 : decode cX11_clearCell 54 = .ok (.invokestatic 113, 3) := by decide +kernel
theorem dX11_clearCell_57 : decode cX11_clearCell 57 = .ok (.iadd, 1) := by decide +kernel
theorem dX11_clearCell_58 : decode cX11_clearCell 58 = .ok (.istore 6, 2) := by decide +kernel
theorem dX11_clearCell_60 : decode cX11_clearCell 60 = .ok (.aload_n 0, 1) := by decide +kernel
theorem dX11_clearCell_61 : decode cX11_clearCell 61 = .ok (.getfield 17, 3) := by decide +kernel
theorem dX11_clearCell_64 : decode cX11_clearCell 64 = .ok (.iload 6, 2) := by decide +kernel
theorem dX11_clearCell_66 : decode cX11_clearCell 66 = .ok (.iaload, 1) := by decide +kernel
theorem dX11_clearCell_67 : decode cX11_clearCell 67 = .ok (.ifCond .eq 46, 3) := by decide +kernel
theorem dX11_clearCell_70 : decode cX11_clearCell 70 = .ok (.aload_n 0, 1) := by decide +kernel
theorem dX11_clearCell_71 : decode cX11_clearCell 71 = .ok (.bipush 87, 2) := by decide +kernel
theorem dX11_clearCell_73 : decode cX11_clearCell 73 = .ok (.bipush 86, 2) := by decide +kernel
theorem dX11_clearCell_75 : decode cX11_clearCell 75 = .ok (.iload 6, 2) := by decide +kernel
theorem dX11_clearCell_77 : decode cX11_clearCell 77 = .ok (.invokevirtual 129, 3) := by decide +kernel
theorem dX11_clearCell_80 : decode cX11_clearCell 80 = .ok (.aload_n 0, 1) := by decide +kernel
theorem dX11_clearCell_81 : decode cX11_clearCell 81 = .ok (.bipush 88, 2) := by decide +kernel
theorem dX11_clearCell_83 : decode cX11_clearCell 83 = .ok (.bipush 42, 2) := by decide +kernel
theorem dX11_clearCell_85 : decode cX11_clearCell 85 = .ok (.iload_n 1, 1) := by decide +kernel
theorem dX11_clearCell_86 : decode cX11_clearCell 86 = .ok (.iload 5, 2) := by decide +kernel
theorem dX11_clearCell_88 : decode cX11_clearCell 88 = .ok (.invokestatic 113, 3) := by decide +kernel
theorem dX11_clearCell_91 : decode cX11_clearCell 91 = .ok (.iadd, 1) := by decide +kernel
theorem dX11_clearCell_92 : decode cX11_clearCell 92 = .ok (.bipush 87, 2) := by decide +kernel
theorem dX11_clearCell_94 : decode cX11_clearCell 94 = .ok (.iconst (-1), 1) := by decide +kernel
theorem dX11_clearCell_95 : decode cX11_clearCell 95 = .ok (.invokevirtual 132, 3) := by decide +kernel
theorem dX11_clearCell_98 : decode cX11_clearCell 98 = .ok (.aload_n 0, 1) := by decide +kernel
theorem dX11_clearCell_99 : decode cX11_clearCell 99 = .ok (.bipush 42, 2) := by decide +kernel
theorem dX11_clearCell_101 : decode cX11_clearCell 101 = .ok (.iload_n 1, 1) := by decide +kernel
theorem dX11_clearCell_102 : decode cX11_clearCell 102 = .ok (.iload 5, 2) := by decide +kernel
theorem dX11_clearCell_104 : decode cX11_clearCell 104 = .ok (.invokestatic 113, 3) := by decide +kernel
theorem dX11_clearCell_107 : decode cX11_clearCell 107 = .ok (.iadd, 1) := by decide +kernel
theorem dX11_clearCell_108 : decode cX11_clearCell 108 = .ok (.bipush 88, 2) := by decide +kernel
theorem dX11_clearCell_110 : decode cX11_clearCell 110 = .ok (.invokevirtual 123, 3) := by decide +kernel
theorem dX11_clearCell_113 : decode cX11_clearCell 113 = .ok (.iinc 5 1, 3) := by decide +kernel
theorem dX11_clearCell_116 : decode cX11_clearCell 116 = .ok (.goto (-76), 3) := by decide +kernel
theorem dX11_clearCell_119 : decode cX11_clearCell 119 = .ok (.return_, 1) := by decide +kernel
theorem dX11_eliminate_0 : decode cX11_eliminate 0 = .ok (.aload_n 0, 1) := by decide +kernel
theorem dX11_eliminate_1 : decode cX11_eliminate 1 = .ok (.iload_n 1, 1) := by decide +kernel
theorem dX11_eliminate_2 : decode cX11_eliminate 2 = .ok (.ifCond .lt 9, 3) := by decide +kernel
theorem dX11_eliminate_5 : decode cX11_eliminate 5 = .ok (.iload_n 1, 1) := by decide +kernel
theorem dX11_eliminate_6 : decode cX11_eliminate 6 = .ok (.ldc 135, 2) := by decide +kernel
theorem dX11_eliminate_8 : decode cX11_eliminate 8 = .ok (.if_icmp .le 7, 3) := by decide +kernel
theorem dX11_eliminate_11 : decode cX11_eliminate 11 = .ok (.iconst 1, 1) := by decide +kernel
theorem dX11_eliminate_12 : decode cX11_eliminate 12 = .ok (.goto 4, 3) := by decide +kernel
theorem dX11_eliminate_15 : decode cX11_eliminate 15 = .ok (.iconst 0, 1) := by decide +kernel
theorem dX11_eliminate_16 : decode cX11_eliminate 16 = .ok (.putfield 40, 3) := by decide +kernel
theorem dX11_eliminate_19 : decode cX11_eliminate 19 = .ok (.aload_n 0, 1) := by decide +kernel
theorem dX11_eliminate_20 : decode cX11_eliminate 20 = .ok (.getfield 40, 3) := by decide +kernel
theorem dX11_eliminate_23 : decode cX11_eliminate 23 = .ok (.ifCond .le 5, 3) := by decide +kernel
theorem dX11_eliminate_26 : decode cX11_eliminate 26 = .ok (.iconst 0, 1) := by decide +kernel
theorem dX11_eliminate_27 : decode cX11_eliminate 27 = .ok (.ireturn, 1) := by decide +kernel
theorem dX11_eliminate_28 : decode cX11_eliminate 28 = .ok (.aload_n 0, 1) := by decide +kernel
theorem dX11_eliminate_29 : decode cX11_eliminate 29 = .ok (.iconst 0, 1) := by decide +kernel
theorem dX11_eliminate_30 : decode cX11_eliminate 30 = .ok (.putfield 109, 3) := by decide +kernel
theorem dX11_eliminate_33 : decode cX11_eliminate 33 = .ok (.iconst 0, 1) := by decide +kernel
theorem dX11_eliminate_34 : decode cX11_eliminate 34 = .ok (.istore_n 2, 1) := by decide +kernel
theorem dX11_eliminate_35 : decode cX11_eliminate 35 = .ok (.iload_n 2, 1) := by decide +kernel
theorem dX11_eliminate_36 : decode cX11_eliminate 36 = .ok (.bipush 42, 2) := by decide +kernel
theorem dX11_eliminate_38 : decode cX11_eliminate 38 = .ok (.if_icmp .ge 18, 3) := by decide +kernel
theorem dX11_eliminate_41 : decode cX11_eliminate 41 = .ok (.aload_n 0, 1) := by decide +kernel
theorem dX11_eliminate_42 : decode cX11_eliminate 42 = .ok (.bipush 42, 2) := by decide +kernel
theorem dX11_eliminate_44 : decode cX11_eliminate 44 = .ok (.iload_n 2, 1) := by decide +kernel
theorem dX11_eliminate_45 : decode cX11_eliminate 45 = .ok (.iadd, 1) := by decide +kernel
theorem dX11_eliminate_46 : decode cX11_eliminate 46 = .ok (.iload_n 2, 1) := by decide +kernel
theorem dX11_eliminate_47 : decode cX11_eliminate 47 = .ok (.invokevirtual 123, 3) := by decide +kernel
theorem dX11_eliminate_50 : decode cX11_eliminate 50 = .ok (.iinc 2 1, 3) := by decide +kernel
theorem dX11_eliminate_53 : decode cX11_eliminate 53 = .ok (.goto (-18), 3) := by decide +kernel
theorem dX11_eliminate_56 : decode cX11_eliminate 56 = .ok (.aload_n 0, 1) := by decide +kernel
theorem dX11_eliminate_57 : decode cX11_eliminate 57 = .ok (.iconst 0, 1) := by decide +kernel
theorem dX11_eliminate_58 : decode cX11_eliminate 58 = .ok (.putfield 136, 3) := by decide +kernel
theorem dX11_eliminate_61 : decode cX11_eliminate 61 = .ok (.aload_n 0, 1) := by decide +kernel
theorem dX11_eliminate_62 : decode cX11_eliminate 62 = .ok (.iconst 1, 1) := by decide +kernel
theorem dX11_eliminate_63 : decode cX11_eliminate 63 = .ok (.putfield 139, 3) := by decide +kernel
theorem dX11_eliminate_66 : decode cX11_eliminate 66 = .ok (.aload_n 0, 1) := by decide +kernel
theorem dX11_eliminate_67 : decode cX11_eliminate 67 = .ok (.aload_n 0, 1) := by decide +kernel
theorem dX11_eliminate_68 : decode cX11_eliminate 68 = .ok (.bipush 42, 2) := by decide +kernel
theorem dX11_eliminate_70 : decode cX11_eliminate 70 = .ok (.invokevirtual 116, 3) := by decide +kernel
theorem dX11_eliminate_73 : decode cX11_eliminate 73 = .ok (.putfield 142, 3) := by decide +kernel
theorem dX11_eliminate_76 : decode cX11_eliminate 76 = .ok (.iconst 0, 1) := by decide +kernel
theorem dX11_eliminate_77 : decode cX11_eliminate 77 = .ok (.istore_n 2, 1) := by decide +kernel
theorem dX11_eliminate_78 : decode cX11_eliminate 78 = .ok (.iload_n 2, 1) := by decide +kernel
theorem dX11_eliminate_79 : decode cX11_eliminate 79 = .ok (.aload_n 0, 1) := by decide +kernel
theorem dX11_eliminate_80 : decode cX11_eliminate 80 = .ok (.getfield 26, 3) := by decide +kernel
theorem dX11_eliminate_83 : decode cX11_eliminate 83 = .ok (.if_icmp .ge 186, 3) := by decide +kernel
theorem dX11_eliminate_86 : decode cX11_eliminate 86 = .ok (.aload_n 0, 1) := by decide +kernel
theorem dX11_eliminate_87 : decode cX11_eliminate 87 = .ok (.getfield 142, 3) := by decide +kernel
theorem dX11_eliminate_90 : decode cX11_eliminate 90 = .ok (.iload_n 1, 1) := by decide +kernel
theorem dX11_eliminate_91 : decode cX11_eliminate 91 = .ok (.if_icmp .gt 178, 3) := by decide +kernel
theorem dX11_eliminate_94 : decode cX11_eliminate 94 = .ok (.aload_n 0, 1) := by decide +kernel
theorem dX11_eliminate_95 : decode cX11_eliminate 95 = .ok (.getfield 136, 3) := by decide +kernel
theorem dX11_eliminate_98 : decode cX11_eliminate 98 = .ok (.istore_n 3, 1) := by decide +kernel
theorem dX11_eliminate_99 : decode cX11_eliminate 99 = .ok (.iload_n 3, 1) := by decide +kernel
theorem dX11_eliminate_100 : decode cX11_eliminate 100 = .ok (.aload_n 0, 1) := by decide +kernel
theorem dX11_eliminate_101 : decode cX11_eliminate 101 = .ok (.getfield 26, 3) := by decide +kernel
theorem dX11_eliminate_104 : decode cX11_eliminate 104 = .ok (.if_icmp .ge 25, 3) := by decide +kernel
theorem dX11_eliminate_107 : decode cX11_eliminate 107 = .ok (.aload_n 0, 1) := by decide +kernel
theorem dX11_eliminate_108 : decode cX11_eliminate 108 = .ok (.getfield 17, 3) := by decide +kernel
theorem dX11_eliminate_111 : decode cX11_eliminate 111 = .ok (.bipush 42, 2) := by decide +kernel
theorem dX11_eliminate_113 : decode cX11_eliminate 113 = .ok (.iload_n 3, 1) := by decide +kernel
theorem dX11_eliminate_114 : decode cX11_eliminate 114 = .ok (.iload_n 2, 1) := by decide +kernel
theorem dX11_eliminate_115 : decode cX11_eliminate 115 = .ok (.invokestatic 113, 3) := by decide +kernel
theorem dX11_eliminate_118 : decode cX11_eliminate 118 = .ok (.iadd, 1) := by decide +kernel
theorem dX11_eliminate_119 : decode cX11_eliminate 119 = .ok (.iaload, 1) := by decide +kernel
theorem dX11_eliminate_120 : decode cX11_eliminate 120 = .ok (.ifCond .ne 9, 3) := by decide +kernel
theorem dX11_eliminate_123 : decode cX11_eliminate 123 = .ok (.iinc 3 1, 3) := by decide +kernel
theorem dX11_eliminate_126 : decode cX11_eliminate 126 = .ok (.goto (-27), 3) := by decide +kernel
theorem dX11_eliminate_129 : decode cX11_eliminate 129 = .ok (.aload_n 0, 1) := by decide +kernel
theorem dX11_eliminate_130 : decode cX11_eliminate 130 = .ok (.getfield 30, 3) := by decide +kernel
theorem dX11_eliminate_133 : decode cX11_eliminate 133 = .ok (.iload_n 2, 1) := by decide +kernel
theorem dX11_eliminate_134 : decode cX11_eliminate 134 = .ok (.iload_n 3, 1) := by decide +kernel
theorem dX11_eliminate_135 : decode cX11_eliminate 135 = .ok (.aload_n 0, 1) := by decide +kernel
theorem dX11_eliminate_136 : decode cX11_eliminate 136 = .ok (.getfield 26, 3) := by decide +kernel
theorem dX11_eliminate_139 : decode cX11_eliminate 139 = .ok (.if_icmp .ge 10, 3) := by decide +kernel
theorem dX11_eliminate_142 : decode cX11_eliminate 142 = .ok (.aload_n 0, 1) := by decide +kernel
theorem dX11_eliminate_143 : decode cX11_eliminate 143 = .ok (.getfield 136, 3) := by decide +kernel
theorem dX11_eliminate_146 : decode cX11_eliminate 146 = .ok (.goto 4, 3) := by decide +kernel
theorem dX11_eliminate_149 : decode cX11_eliminate 149 = .ok (.iconst (-1), 1) := by decide +kernel
theorem dX11_eliminate_150 : decode cX11_eliminate 150 = .ok (.iastore, 1) := by decide +kernel
theorem dX11_eliminate_151 : decode cX11_eliminate 151 = .ok (.iload_n 3, 1) := by decide +kernel
theorem dX11_eliminate_152 : decode cX11_eliminate 152 = .ok (.aload_n 0, 1) := by decide +kernel
theorem dX11_eliminate_153 : decode cX11_eliminate 153 = .ok (.getfield 26, 3) := by decide +kernel
theorem dX11_eliminate_156 : decode cX11_eliminate 156 = .ok (.if_icmp .ge 77, 3) := by decide +kernel
theorem dX11_eliminate_159 : decode cX11_eliminate 159 = .ok (.iload_n 3, 1) := by decide +kernel
theorem dX11_eliminate_160 : decode cX11_eliminate 160 = .ok (.aload_n 0, 1) := by decide +kernel
theorem dX11_eliminate_161 : decode cX11_eliminate 161 = .ok (.getfield 136, 3) := by decide +kernel
theorem dX11_eliminate_164 : decode cX11_eliminate 164 = .ok (.if_icmp .eq 21, 3) := by decide +kernel
theorem dX11_eliminate_167 : decode cX11_eliminate 167 = .ok (.aload_n 0, 1) := by decide +kernel
theorem dX11_eliminate_168 : decode cX11_eliminate 168 = .ok (.iload_n 3, 1) := by decide +kernel
theorem dX11_eliminate_169 : decode cX11_eliminate 169 = .ok (.aload_n 0, 1) := by decide +kernel
theorem dX11_eliminate_170 : decode cX11_eliminate 170 = .ok (.getfield 136, 3) := by decide +kernel
theorem dX11_eliminate_173 : decode cX11_eliminate 173 = .ok (.invokevirtual 145, 3) := by decide +kernel
theorem dX11_eliminate_176 : decode cX11_eliminate 176 = .ok (.aload_n 0, 1) := by decide +kernel
theorem dX11_eliminate_177 : decode cX11_eliminate 177 = .ok (.aload_n 0, 1) := by decide +kernel
theorem dX11_eliminate_178 : decode cX11_eliminate 178 = .ok (.getfield 139, 3) := by decide +kernel
theorem dX11_eliminate_181 : decode cX11_eliminate 181 = .ok (.ineg, 1) := by decide +kernel
theorem dX11_eliminate_182 : decode cX11_eliminate 182 = .ok (.putfield 139, 3) := by decide +kernel
theorem dX11_eliminate_185 : decode cX11_eliminate 185 = .ok (.iconst 0, 1) := by decide +kernel
theorem dX11_eliminate_186 : decode cX11_eliminate 186 = .ok (.istore 4, 2) := by decide +kernel
theorem dX11_eliminate_188 : decode cX11_eliminate 188 = .ok (.iload 4, 2) := by decide +kernel
theorem dX11_eliminate_190 : decode cX11_eliminate 190 = .ok (.aload_n 0, 1) := by decide +kernel
theorem dX11_eliminate_191 : decode cX11_eliminate 191 = .ok (.getfield 26, 3) := by decide +kernel
theorem dX11_eliminate_194 : decode cX11_eliminate 194 = .ok (.if_icmp .ge 29, 3) := by decide +kernel
theorem dX11_eliminate_197 : decode cX11_eliminate 197 = .ok (.iload 4, 2) := by decide +kernel
theorem dX11_eliminate_199 : decode cX11_eliminate 199 = .ok (.aload_n 0, 1) := by decide +kernel
theorem dX11_eliminate_200 : decode cX11_eliminate 200 = .ok (.getfield 136, 3) := by decide +kernel
theorem dX11_eliminate_203 : decode cX11_eliminate 203 = .ok (.if_icmp .eq 14, 3) := by decide +kernel
theorem dX11_eliminate_206 : decode cX11_eliminate 206 = .ok (.aload_n 0, 1) := by decide +kernel
theorem dX11_eliminate_207 : decode cX11_eliminate 207 = .ok (.iload 4, 2) := by decide +kernel
theorem dX11_eliminate_209 : decode cX11_eliminate 209 = .ok (.aload_n 0, 1) := by decide +kernel
theorem dX11_eliminate_210 : decode cX11_eliminate 210 = .ok (.getfield 136, 3) := by decide +kernel
theorem dX11_eliminate_213 : decode cX11_eliminate 213 = .ok (.iload_n 2, 1) := by decide +kernel
theorem dX11_eliminate_214 : decode cX11_eliminate 214 = .ok (.invokevirtual 148, 3) := by decide +kernel
theorem dX11_eliminate_217 : decode cX11_eliminate 217 = .ok (.iinc 4 1, 3) := by decide +kernel
theorem dX11_eliminate_220 : decode cX11_eliminate 220 = .ok (.goto (-32), 3) := by decide +kernel
theorem dX11_eliminate_223 : decode cX11_eliminate 223 = .ok (.aload_n 0, 1) := by decide +kernel
theorem dX11_eliminate_224 : decode cX11_eliminate 224 = .ok (.dup, 1) := by decide +kernel
theorem dX11_eliminate_225 : decode cX11_eliminate 225 = .ok (.getfield 136, 3) := by decide +kernel
theorem dX11_eliminate_228 : decode cX11_eliminate 228 = .ok (.iconst 1, 1) := by decide +kernel
theorem dX11_eliminate_229 : decode cX11_eliminate 229 = .ok (.iadd, 1) := by decide +kernel
theorem dX11_eliminate_230 : decode cX11_eliminate 230 = .ok (.putfield 136, 3) := by decide +kernel
theorem dX11_eliminate_233 : decode cX11_eliminate 233 = .ok (.aload_n 0, 1) := by decide +kernel
theorem dX11_eliminate_234 : decode cX11_eliminate 234 = .ok (.bipush 42, 2) := by decide +kernel
theorem dX11_eliminate_236 : decode cX11_eliminate 236 = .ok (.invokevirtual 116, 3) := by decide +kernel
theorem dX11_eliminate_239 : decode cX11_eliminate 239 = .ok (.istore 4, 2) := by decide +kernel
theorem dX11_eliminate_241 : decode cX11_eliminate 241 = .ok (.aload_n 0, 1) := by decide +kernel
theorem dX11_eliminate_242 : decode cX11_eliminate 242 = .ok (.iload 4, 2) := by decide +kernel
theorem dX11_eliminate_244 : decode cX11_eliminate 244 = .ok (.aload_n 0, 1) := by decide +kernel
theorem dX11_eliminate_245 : decode cX11_eliminate 245 = .ok (.getfield 142, 3) := by decide +kernel
theorem dX11_eliminate_248 : decode cX11_eliminate 248 = .ok (.if_icmp .le 8, 3) := by decide +kernel
theorem dX11_eliminate_251 : decode cX11_eliminate 251 = .ok (.iload 4, 2) := by decide +kernel
theorem dX11_eliminate_253 : decode cX11_eliminate 253 = .ok (.goto 7, 3) := by decide +kernel
theorem dX11_eliminate_256 : decode cX11_eliminate 256 = .ok (.aload_n 0, 1) := by decide +kernel
theorem dX11_eliminate_257 : decode cX11_eliminate 257 = .ok (.getfield 142, 3) := by decide +kernel
theorem dX11_eliminate_260 : decode cX11_eliminate 260 = .ok (.putfield 142, 3) := by decide +kernel
theorem dX11_eliminate_263 : decode cX11_eliminate 263 = .ok (.iinc 2 1, 3) := by decide +kernel
theorem dX11_eliminate_266 : decode cX11_eliminate 266 = .ok (.goto (-188), 3) := by decide +kernel
theorem dX11_eliminate_269 : decode cX11_eliminate 269 = .ok (.aload_n 0, 1) := by decide +kernel
theorem dX11_eliminate_270 : decode cX11_eliminate 270 = .ok (.getfield 142, 3) := by decide +kernel
theorem dX11_eliminate_273 : decode cX11_eliminate 273 = .ok (.iload_n 1, 1) := by decide +kernel
theorem dX11_eliminate_274 : decode cX11_eliminate 274 = .ok (.if_icmp .le 5, 3) := by decide +kernel
theorem dX11_eliminate_277 : decode cX11_eliminate 277 = .ok (.iconst (-1), 1) := by decide +kernel
theorem dX11_eliminate_278 : decode cX11_eliminate 278 = .ok (.ireturn, 1) := by decide +kernel
theorem dX11_eliminate_279 : decode cX11_eliminate 279 = .ok (.aload_n 0, 1) := by decide +kernel
theorem dX11_eliminate_280 : decode cX11_eliminate 280 = .ok (.iconst 1, 1) := by decide +kernel
theorem dX11_eliminate_281 : decode cX11_eliminate 281 = .ok (.putfield 109, 3) := by decide +kernel
theorem dX11_eliminate_284 : decode cX11_eliminate 284 = .ok (.aload_n 0, 1) := by decide +kernel
theorem dX11_eliminate_285 : decode cX11_eliminate 285 = .ok (.iconst 1, 1) := by decide +kernel
theorem dX11_eliminate_286 : decode cX11_eliminate 286 = .ok (.putfield 151, 3) := by decide +kernel
theorem dX11_eliminate_289 : decode cX11_eliminate 289 = .ok (.aload_n 0, 1) := by decide +kernel
theorem dX11_eliminate_290 : decode cX11_eliminate 290 = .ok (.getfield 136, 3) := by decide +kernel
theorem dX11_eliminate_293 : decode cX11_eliminate 293 = .ok (.istore_n 2, 1) := by decide +kernel
theorem dX11_eliminate_294 : decode cX11_eliminate 294 = .ok (.iload_n 2, 1) := by decide +kernel
theorem dX11_eliminate_295 : decode cX11_eliminate 295 = .ok (.aload_n 0, 1) := by decide +kernel
theorem dX11_eliminate_296 : decode cX11_eliminate 296 = .ok (.getfield 26, 3) := by decide +kernel
theorem dX11_eliminate_299 : decode cX11_eliminate 299 = .ok (.if_icmp .ge 42, 3) := by decide +kernel
theorem dX11_eliminate_302 : decode cX11_eliminate 302 = .ok (.aload_n 0, 1) := by decide +kernel
theorem dX11_eliminate_303 : decode cX11_eliminate 303 = .ok (.dup, 1) := by decide +kernel
theorem dX11_eliminate_304 : decode cX11_eliminate 304 = .ok (.getfield 151, 3) := by decide +kernel
theorem dX11_eliminate_307 : decode cX11_eliminate 307 = .ok (.aload_n 0, 1) := by decide +kernel
theorem dX11_eliminate_308 : decode cX11_eliminate 308 = .ok (.getfield 17, 3) := by decide +kernel
theorem dX11_eliminate_311 : decode cX11_eliminate 311 = .ok (.bipush 42, 2) := by decide +kernel
theorem dX11_eliminate_313 : decode cX11_eliminate 313 = .ok (.iload_n 2, 1) := by decide +kernel
theorem dX11_eliminate_314 : decode cX11_eliminate 314 = .ok (.aload_n 0, 1) := by decide +kernel
theorem dX11_eliminate_315 : decode cX11_eliminate 315 = .ok (.getfield 26, 3) := by decide +kernel
theorem dX11_eliminate_318 : decode cX11_eliminate 318 = .ok (.invokestatic 113, 3) := by decide +kernel
theorem dX11_eliminate_321 : decode cX11_eliminate 321 = .ok (.iadd, 1) := by decide +kernel
theorem dX11_eliminate_322 : decode cX11_eliminate 322 = .ok (.iaload, 1) := by decide +kernel
theorem dX11_eliminate_323 : decode cX11_eliminate 323 = .ok (.ifCond .ne 7, 3) := by decide +kernel
theorem dX11_eliminate_326 : decode cX11_eliminate 326 = .ok (.iconst 1, 1) := by decide +kernel
theorem dX11_eliminate_327 : decode cX11_eliminate 327 = .ok (.goto 4, 3) := by decide +kernel
theorem dX11_eliminate_330 : decode cX11_eliminate 330 = .ok (.iconst 0, 1) := by decide +kernel
theorem dX11_eliminate_331 : decode cX11_eliminate 331 = .ok (.iand, 1) := by decide +kernel
theorem dX11_eliminate_332 : decode cX11_eliminate 332 = .ok (.putfield 151, 3) := by decide +kernel
theorem dX11_eliminate_335 : decode cX11_eliminate 335 = .ok (.iinc 2 1, 3) := by decide +kernel
theorem dX11_eliminate_338 : decode cX11_eliminate 338 = .ok (.goto (-44), 3) := by decide +kernel
theorem dX11_eliminate_341 : decode cX11_eliminate 341 = .ok (.aload_n 0, 1) := by decide +kernel
theorem dX11_eliminate_342 : decode cX11_eliminate 342 = .ok (.bipush 84, 2) := by decide +kernel
theorem dX11_eliminate_344 : decode cX11_eliminate 344 = .ok (.invokevirtual 85, 3) := by decide +kernel
theorem dX11_eliminate_347 : decode cX11_eliminate 347 = .ok (.aload_n 0, 1) := by decide +kernel
theorem dX11_eliminate_348 : decode cX11_eliminate 348 = .ok (.getfield 136, 3) := by decide +kernel
theorem dX11_eliminate_351 : decode cX11_eliminate 351 = .ok (.aload_n 0, 1) := by decide +kernel
theorem dX11_eliminate_352 : decode cX11_eliminate 352 = .ok (.getfield 26, 3) := by decide +kernel
theorem dX11_eliminate_355 : decode cX11_eliminate 355 = .ok (.if_icmp .ne 62, 3) := by decide +kernel
theorem dX11_eliminate_358 : decode cX11_eliminate 358 = .ok (.aload_n 0, 1) := by decide +kernel
theorem dX11_eliminate_359 : decode cX11_eliminate 359 = .ok (.getfield 17, 3) := by decide +kernel
theorem dX11_eliminate_362 : decode cX11_eliminate 362 = .ok (.bipush 84, 2) := by decide +kernel
theorem dX11_eliminate_364 : decode cX11_eliminate 364 = .ok (.aload_n 0, 1) := by decide +kernel
theorem dX11_eliminate_365 : decode cX11_eliminate 365 = .ok (.getfield 139, 3) := by decide +kernel
theorem dX11_eliminate_368 : decode cX11_eliminate 368 = .ok (.iastore, 1) := by decide +kernel
theorem dX11_eliminate_369 : decode cX11_eliminate 369 = .ok (.aload_n 0, 1) := by decide +kernel
theorem dX11_eliminate_370 : decode cX11_eliminate 370 = .ok (.sipush 168, 3) := by decide +kernel
theorem dX11_eliminate_373 : decode cX11_eliminate 373 = .ok (.lconst 1, 1) := by decide +kernel
theorem dX11_eliminate_374 : decode cX11_eliminate 374 = .ok (.invokevirtual 61, 3) := by decide +kernel
theorem dX11_eliminate_377 : decode cX11_eliminate 377 = .ok (.iconst 0, 1) := by decide +kernel
theorem dX11_eliminate_378 : decode cX11_eliminate 378 = .ok (.istore_n 2, 1) := by decide +kernel
theorem dX11_eliminate_379 : decode cX11_eliminate 379 = .ok (.iload_n 2, 1) := by decide +kernel
theorem dX11_eliminate_380 : decode cX11_eliminate 380 = .ok (.aload_n 0, 1) := by decide +kernel
theorem dX11_eliminate_381 : decode cX11_eliminate 381 = .ok (.getfield 26, 3) := by decide +kernel
theorem dX11_eliminate_384 : decode cX11_eliminate 384 = .ok (.if_icmp .ge 33, 3) := by decide +kernel
theorem dX11_eliminate_387 : decode cX11_eliminate 387 = .ok (.aload_n 0, 1) := by decide +kernel
theorem dX11_eliminate_388 : decode cX11_eliminate 388 = .ok (.bipush 85, 2) := by decide +kernel
theorem dX11_eliminate_390 : decode cX11_eliminate 390 = .ok (.bipush 84, 2) := by decide +kernel
theorem dX11_eliminate_392 : decode cX11_eliminate 392 = .ok (.bipush 42, 2) := by decide +kernel
theorem dX11_eliminate_394 : decode cX11_eliminate 394 = .ok (.iload_n 2, 1) := by decide +kernel
theorem dX11_eliminate_395 : decode cX11_eliminate 395 = .ok (.iload_n 2, 1) := by decide +kernel
theorem dX11_eliminate_396 : decode cX11_eliminate 396 = .ok (.invokestatic 113, 3) := by decide +kernel
theorem dX11_eliminate_399 : decode cX11_eliminate 399 = .ok (.iadd, 1) := by decide +kernel
theorem dX11_eliminate_400 : decode cX11_eliminate 400 = .ok (.invokevirtual 129, 3) := by decide +kernel
theorem dX11_eliminate_403 : decode cX11_eliminate 403 = .ok (.aload_n 0, 1) := by decide +kernel
theorem dX11_eliminate_404 : decode cX11_eliminate 404 = .ok (.bipush 84, 2) := by decide +kernel
theorem dX11_eliminate_406 : decode cX11_eliminate 406 = .ok (.bipush 85, 2) := by decide +kernel
theorem dX11_eliminate_408 : decode cX11_eliminate 408 = .ok (.invokevirtual 123, 3) := by decide +kernel
theorem dX11_eliminate_411 : decode cX11_eliminate 411 = .ok (.iinc 2 1, 3) := by decide +kernel
theorem dX11_eliminate_414 : decode cX11_eliminate 414 = .ok (.goto (-35), 3) := by decide +kernel
theorem dX11_eliminate_417 : decode cX11_eliminate 417 = .ok (.aload_n 0, 1) := by decide +kernel
theorem dX11_eliminate_418 : decode cX11_eliminate 418 = .ok (.getfield 136, 3) := by decide +kernel
theorem dX11_eliminate_421 : decode cX11_eliminate 421 = .ok (.ireturn, 1) := by decide +kernel
theorem dX11_rank_0 : decode cX11_rank 0 = .ok (.aload_n 0, 1) := by decide +kernel
theorem dX11_rank_1 : decode cX11_rank 1 = .ok (.iconst 0, 1) := by decide +kernel
theorem dX11_rank_2 : decode cX11_rank 2 = .ok (.putfield 40, 3) := by decide +kernel
theorem dX11_rank_5 : decode cX11_rank 5 = .ok (.aload_n 0, 1) := by decide +kernel
theorem dX11_rank_6 : decode cX11_rank 6 = .ok (.getfield 109, 3) := by decide +kernel
theorem dX11_rank_9 : decode cX11_rank 9 = .ok (.ifCond .eq 10, 3) := by decide +kernel
theorem dX11_rank_12 : decode cX11_rank 12 = .ok (.aload_n 0, 1) := by decide +kernel
theorem dX11_rank_13 : decode cX11_rank 13 = .ok (.getfield 136, 3) := by decide +kernel
theorem dX11_rank_16 : decode cX11_rank 16 = .ok (.goto 4, 3) := by decide +kernel
theorem dX11_rank_19 : decode cX11_rank 19 = .ok (.iconst (-1), 1) := by decide +kernel
theorem dX11_rank_20 : decode cX11_rank 20 = .ok (.ireturn, 1) := by decide +kernel
theorem dX11_isSolvable_0 : decode cX11_isSolvable 0 = .ok (.aload_n 0, 1) := by decide +kernel
theorem dX11_isSolvable_1 : decode cX11_isSolvable 1 = .ok (.aload_n 0, 1) := by decide +kernel
theorem dX11_isSolvable_2 : decode cX11_isSolvable 2 = .ok (.getfield 109, 3) := by decide +kernel
theorem dX11_isSolvable_5 : decode cX11_isSolvable 5 = .ok (.ifCond .eq 7, 3) := by decide +kernel
theorem dX11_isSolvable_8 : decode cX11_isSolvable 8 = .ok (.iconst 0, 1) := by decide +kernel
theorem dX11_isSolvable_9 : decode cX11_isSolvable 9 = .ok (.goto 4, 3) := by decide +kernel
theorem dX11_isSolvable_12 : decode cX11_isSolvable 12 = .ok (.iconst 1, 1) := by decide +kernel
theorem dX11_isSolvable_13 : decode cX11_isSolvable 13 = .ok (.putfield 40, 3) := by decide +kernel
theorem dX11_isSolvable_16 : decode cX11_isSolvable 16 = .ok (.aload_n 0, 1) := by decide +kernel
theorem dX11_isSolvable_17 : decode cX11_isSolvable 17 = .ok (.getfield 109, 3) := by decide +kernel
theorem dX11_isSolvable_20 : decode cX11_isSolvable 20 = .ok (.ifCond .eq 14, 3) := by decide +kernel
theorem dX11_isSolvable_23 : decode cX11_isSolvable 23 = .ok (.aload_n 0, 1) := by decide +kernel
theorem dX11_isSolvable_24 : decode cX11_isSolvable 24 = .ok (.getfield 151, 3) := by decide +kernel
theorem dX11_isSolvable_27 : decode cX11_isSolvable 27 = .ok (.ifCond .eq 7, 3) := by decide +kernel
theorem dX11_isSolvable_30 : decode cX11_isSolvable 30 = .ok (.iconst 1, 1) := by decide +kernel
theorem dX11_isSolvable_31 : decode cX11_isSolvable 31 = .ok (.goto 4, 3) := by decide +kernel
theorem dX11_isSolvable_34 : decode cX11_isSolvable 34 = .ok (.iconst 0, 1) := by decide +kernel
theorem dX11_isSolvable_35 : decode cX11_isSolvable 35 = .ok (.ireturn, 1) := by decide +kernel
theorem dX11_most_0 : decode cX11_most 0 = .ok (.aload_n 0, 1) := by decide +kernel
theorem dX11_most_1 : decode cX11_most 1 = .ok (.aload_n 0, 1) := by decide +kernel
theorem dX11_most_2 : decode cX11_most 2 = .ok (.getfield 109, 3) := by decide +kernel
theorem dX11_most_5 : decode cX11_most 5 = .ok (.ifCond .eq 7, 3) := by decide +kernel
theorem dX11_most_8 : decode cX11_most 8 = .ok (.iconst 0, 1) := by decide +kernel
theorem dX11_most_9 : decode cX11_most 9 = .ok (.goto 4, 3) := by decide +kernel
theorem dX11_most_12 : decode cX11_most 12 = .ok (.iconst 1, 1) := by decide +kernel
theorem dX11_most_13 : decode cX11_most 13 = .ok (.putfield 40, 3) := by decide +kernel
theorem dX11_most_16 : decode cX11_most 16 = .ok (.aload_n 0, 1) := by decide +kernel
theorem dX11_most_17 : decode cX11_most 17 = .ok (.getfield 109, 3) := by decide +kernel
theorem dX11_most_20 : decode cX11_most 20 = .ok (.ifCond .eq 10, 3) := by decide +kernel
theorem dX11_most_23 : decode cX11_most 23 = .ok (.aload_n 0, 1) := by decide +kernel
theorem dX11_most_24 : decode cX11_most 24 = .ok (.getfield 142, 3) := by decide +kernel
theorem dX11_most_27 : decode cX11_most 27 = .ok (.goto 4, 3) := by decide +kernel
theorem dX11_most_30 : decode cX11_most 30 = .ok (.iconst 0, 1) := by decide +kernel
theorem dX11_most_31 : decode cX11_most 31 = .ok (.ireturn, 1) := by decide +kernel
theorem dX11_noColumn_0 : decode cX11_noColumn 0 = .ok (.iload_n 1, 1) := by decide +kernel
theorem dX11_noColumn_1 : decode cX11_noColumn 1 = .ok (.ifCond .lt 11, 3) := by decide +kernel
theorem dX11_noColumn_4 : decode cX11_noColumn 4 = .ok (.iload_n 1, 1) := by decide +kernel
theorem dX11_noColumn_5 : decode cX11_noColumn 5 = .ok (.aload_n 0, 1) := by decide +kernel
theorem dX11_noColumn_6 : decode cX11_noColumn 6 = .ok (.getfield 26, 3) := by decide +kernel
theorem dX11_noColumn_9 : decode cX11_noColumn 9 = .ok (.if_icmp .lt 7, 3) := by decide +kernel
theorem dX11_noColumn_12 : decode cX11_noColumn 12 = .ok (.iconst 1, 1) := by decide +kernel
theorem dX11_noColumn_13 : decode cX11_noColumn 13 = .ok (.goto 4, 3) := by decide +kernel
theorem dX11_noColumn_16 : decode cX11_noColumn 16 = .ok (.iconst 0, 1) := by decide +kernel
theorem dX11_noColumn_17 : decode cX11_noColumn 17 = .ok (.ireturn, 1) := by decide +kernel
theorem dX11_pivot_0 : decode cX11_pivot 0 = .ok (.aload_n 0, 1) := by decide +kernel
theorem dX11_pivot_1 : decode cX11_pivot 1 = .ok (.aload_n 0, 1) := by decide +kernel
theorem dX11_pivot_2 : decode cX11_pivot 2 = .ok (.iload_n 1, 1) := by decide +kernel
theorem dX11_pivot_3 : decode cX11_pivot 3 = .ok (.invokevirtual 154, 3) := by decide +kernel
theorem dX11_pivot_6 : decode cX11_pivot 6 = .ok (.ifCond .eq 7, 3) := by decide +kernel
theorem dX11_pivot_9 : decode cX11_pivot 9 = .ok (.iconst 1, 1) := by decide +kernel
theorem dX11_pivot_10 : decode cX11_pivot 10 = .ok (.goto 15, 3) := by decide +kernel
theorem dX11_pivot_13 : decode cX11_pivot 13 = .ok (.aload_n 0, 1) := by decide +kernel
theorem dX11_pivot_14 : decode cX11_pivot 14 = .ok (.getfield 109, 3) := by decide +kernel
theorem dX11_pivot_17 : decode cX11_pivot 17 = .ok (.ifCond .ne 7, 3) := by decide +kernel
theorem dX11_pivot_20 : decode cX11_pivot 20 = .ok (.iconst 2, 1) := by decide +kernel
theorem dX11_pivot_21 : decode cX11_pivot 21 = .ok (.goto 4, 3) := by decide +kernel
theorem dX11_pivot_24 : decode cX11_pivot 24 = .ok (.iconst 0, 1) := by decide +kernel
theorem dX11_pivot_25 : decode cX11_pivot 25 = .ok (.putfield 40, 3) := by decide +kernel
theorem dX11_pivot_28 : decode cX11_pivot 28 = .ok (.aload_n 0, 1) := by decide +kernel
theorem dX11_pivot_29 : decode cX11_pivot 29 = .ok (.getfield 40, 3) := by decide +kernel
theorem dX11_pivot_32 : decode cX11_pivot 32 = .ok (.ifCond .le 7, 3) := by decide +kernel
theorem dX11_pivot_35 : decode cX11_pivot 35 = .ok (.iconst 0, 1) := by decide +kernel
theorem dX11_pivot_36 : decode cX11_pivot 36 = .ok (.goto 9, 3) := by decide +kernel
theorem dX11_pivot_39 : decode cX11_pivot 39 = .ok (.aload_n 0, 1) := by decide +kernel
theorem dX11_pivot_40 : decode cX11_pivot 40 = .ok (.getfield 30, 3) := by decide +kernel
theorem dX11_pivot_43 : decode cX11_pivot 43 = .ok (.iload_n 1, 1) := by decide +kernel
theorem dX11_pivot_44 : decode cX11_pivot 44 = .ok (.iaload, 1) := by decide +kernel
theorem dX11_pivot_45 : decode cX11_pivot 45 = .ok (.ireturn, 1) := by decide +kernel
theorem dX11_solve_0 : decode cX11_solve 0 = .ok (.aload_n 0, 1) := by decide +kernel
theorem dX11_solve_1 : decode cX11_solve 1 = .ok (.getfield 30, 3) := by decide +kernel
theorem dX11_solve_4 : decode cX11_solve 4 = .ok (.iload_n 1, 1) := by decide +kernel
theorem dX11_solve_5 : decode cX11_solve 5 = .ok (.iaload, 1) := by decide +kernel
theorem dX11_solve_6 : decode cX11_solve 6 = .ok (.istore_n 2, 1) := by decide +kernel
theorem dX11_solve_7 : decode cX11_solve 7 = .ok (.iload_n 2, 1) := by decide +kernel
theorem dX11_solve_8 : decode cX11_solve 8 = .ok (.ifCond .ge 12, 3) := by decide +kernel
theorem dX11_solve_11 : decode cX11_solve 11 = .ok (.aload_n 0, 1) := by decide +kernel
theorem dX11_solve_12 : decode cX11_solve 12 = .ok (.bipush 85, 2) := by decide +kernel
theorem dX11_solve_14 : decode cX11_solve 14 = .ok (.invokevirtual 85, 3) := by decide +kernel
theorem dX11_solve_17 : decode cX11_solve 17 = .ok (.goto 28, 3) := by decide +kernel
theorem dX11_solve_20 : decode cX11_solve 20 = .ok (.aload_n 0, 1) := by decide +kernel
theorem dX11_solve_21 : decode cX11_solve 21 = .ok (.bipush 85, 2) := by decide +kernel
theorem dX11_solve_23 : decode cX11_solve 23 = .ok (.bipush 42, 2) := by decide +kernel
theorem dX11_solve_25 : decode cX11_solve 25 = .ok (.iload_n 2, 1) := by decide +kernel
theorem dX11_solve_26 : decode cX11_solve 26 = .ok (.aload_n 0, 1) := by decide +kernel
theorem dX11_solve_27 : decode cX11_solve 27 = .ok (.getfield 26, 3) := by decide +kernel
theorem dX11_solve_30 : decode cX11_solve 30 = .ok (.invokestatic 113, 3) := by decide +kernel
theorem dX11_solve_33 : decode cX11_solve 33 = .ok (.iadd, 1) := by decide +kernel
theorem dX11_solve_34 : decode cX11_solve 34 = .ok (.bipush 42, 2) := by decide +kernel
theorem dX11_solve_36 : decode cX11_solve 36 = .ok (.iload_n 2, 1) := by decide +kernel
theorem dX11_solve_37 : decode cX11_solve 37 = .ok (.iload_n 1, 1) := by decide +kernel
theorem dX11_solve_38 : decode cX11_solve 38 = .ok (.invokestatic 113, 3) := by decide +kernel
theorem dX11_solve_41 : decode cX11_solve 41 = .ok (.iadd, 1) := by decide +kernel
theorem dX11_solve_42 : decode cX11_solve 42 = .ok (.invokevirtual 126, 3) := by decide +kernel
theorem dX11_solve_45 : decode cX11_solve 45 = .ok (.return_, 1) := by decide +kernel
theorem dX11_noWhich_0 : decode cX11_noWhich 0 = .ok (.iload_n 0, 1) := by decide +kernel
theorem dX11_noWhich_1 : decode cX11_noWhich 1 = .ok (.ifCond .lt 8, 3) := by decide +kernel
theorem dX11_noWhich_4 : decode cX11_noWhich 4 = .ok (.iload_n 0, 1) := by decide +kernel
theorem dX11_noWhich_5 : decode cX11_noWhich 5 = .ok (.iconst 2, 1) := by decide +kernel
theorem dX11_noWhich_6 : decode cX11_noWhich 6 = .ok (.if_icmp .le 7, 3) := by decide +kernel
theorem dX11_noWhich_9 : decode cX11_noWhich 9 = .ok (.iconst 1, 1) := by decide +kernel
theorem dX11_noWhich_10 : decode cX11_noWhich 10 = .ok (.goto 4, 3) := by decide +kernel
theorem dX11_noWhich_13 : decode cX11_noWhich 13 = .ok (.iconst 0, 1) := by decide +kernel
theorem dX11_noWhich_14 : decode cX11_noWhich 14 = .ok (.ireturn, 1) := by decide +kernel
theorem dX11_solution_0 : decode cX11_solution 0 = .ok (.aload_n 0, 1) := by decide +kernel
theorem dX11_solution_1 : decode cX11_solution 1 = .ok (.aload_n 0, 1) := by decide +kernel
theorem dX11_solution_2 : decode cX11_solution 2 = .ok (.iload_n 1, 1) := by decide +kernel
theorem dX11_solution_3 : decode cX11_solution 3 = .ok (.invokevirtual 154, 3) := by decide +kernel
theorem dX11_solution_6 : decode cX11_solution 6 = .ok (.ifCond .ne 10, 3) := by decide +kernel
theorem dX11_solution_9 : decode cX11_solution 9 = .ok (.iload_n 2, 1) := by decide +kernel
theorem dX11_solution_10 : decode cX11_solution 10 = .ok (.invokestatic 157, 3) := by decide +kernel
theorem dX11_solution_13 : decode cX11_solution 13 = .ok (.ifCond .eq 7, 3) := by decide +kernel
theorem dX11_solution_16 : decode cX11_solution 16 = .ok (.iconst 1, 1) := by decide +kernel
theorem dX11_solution_17 : decode cX11_solution 17 = .ok (.goto 22, 3) := by decide +kernel
theorem dX11_solution_20 : decode cX11_solution 20 = .ok (.aload_n 0, 1) := by decide +kernel
theorem dX11_solution_21 : decode cX11_solution 21 = .ok (.getfield 109, 3) := by decide +kernel
theorem dX11_solution_24 : decode cX11_solution 24 = .ok (.ifCond .eq 10, 3) := by decide +kernel
theorem dX11_solution_27 : decode cX11_solution 27 = .ok (.aload_n 0, 1) := by decide +kernel
theorem dX11_solution_28 : decode cX11_solution 28 = .ok (.getfield 151, 3) := by decide +kernel
theorem dX11_solution_31 : decode cX11_solution 31 = .ok (.ifCond .ne 7, 3) := by decide +kernel
theorem dX11_solution_34 : decode cX11_solution 34 = .ok (.iconst 2, 1) := by decide +kernel
theorem dX11_solution_35 : decode cX11_solution 35 = .ok (.goto 4, 3) := by decide +kernel
theorem dX11_solution_38 : decode cX11_solution 38 = .ok (.iconst 0, 1) := by decide +kernel
theorem dX11_solution_39 : decode cX11_solution 39 = .ok (.putfield 40, 3) := by decide +kernel
theorem dX11_solution_42 : decode cX11_solution 42 = .ok (.aload_n 0, 1) := by decide +kernel
theorem dX11_solution_43 : decode cX11_solution 43 = .ok (.getfield 40, 3) := by decide +kernel
theorem dX11_solution_46 : decode cX11_solution 46 = .ok (.ifCond .le 5, 3) := by decide +kernel
theorem dX11_solution_49 : decode cX11_solution 49 = .ok (.iconst 0, 1) := by decide +kernel
theorem dX11_solution_50 : decode cX11_solution 50 = .ok (.ireturn, 1) := by decide +kernel
theorem dX11_solution_51 : decode cX11_solution 51 = .ok (.aload_n 0, 1) := by decide +kernel
theorem dX11_solution_52 : decode cX11_solution 52 = .ok (.iload_n 1, 1) := by decide +kernel
theorem dX11_solution_53 : decode cX11_solution 53 = .ok (.invokevirtual 160, 3) := by decide +kernel
theorem dX11_solution_56 : decode cX11_solution 56 = .ok (.aload_n 0, 1) := by decide +kernel
theorem dX11_solution_57 : decode cX11_solution 57 = .ok (.bipush 85, 2) := by decide +kernel
theorem dX11_solution_59 : decode cX11_solution 59 = .ok (.iload_n 2, 1) := by decide +kernel
theorem dX11_solution_60 : decode cX11_solution 60 = .ok (.iload_n 3, 1) := by decide +kernel
theorem dX11_solution_61 : decode cX11_solution 61 = .ok (.invokevirtual 163, 3) := by decide +kernel
theorem dX11_solution_64 : decode cX11_solution 64 = .ok (.ireturn, 1) := by decide +kernel
theorem dX11_determinant_0 : decode cX11_determinant 0 = .ok (.aload_n 0, 1) := by decide +kernel
theorem dX11_determinant_1 : decode cX11_determinant 1 = .ok (.iload_n 1, 1) := by decide +kernel
theorem dX11_determinant_2 : decode cX11_determinant 2 = .ok (.invokestatic 157, 3) := by decide +kernel
theorem dX11_determinant_5 : decode cX11_determinant 5 = .ok (.ifCond .eq 7, 3) := by decide +kernel
theorem dX11_determinant_8 : decode cX11_determinant 8 = .ok (.iconst 1, 1) := by decide +kernel
theorem dX11_determinant_9 : decode cX11_determinant 9 = .ok (.goto 15, 3) := by decide +kernel
theorem dX11_determinant_12 : decode cX11_determinant 12 = .ok (.aload_n 0, 1) := by decide +kernel
theorem dX11_determinant_13 : decode cX11_determinant 13 = .ok (.getfield 109, 3) := by decide +kernel
theorem dX11_determinant_16 : decode cX11_determinant 16 = .ok (.ifCond .ne 7, 3) := by decide +kernel
theorem dX11_determinant_19 : decode cX11_determinant 19 = .ok (.iconst 2, 1) := by decide +kernel
theorem dX11_determinant_20 : decode cX11_determinant 20 = .ok (.goto 4, 3) := by decide +kernel
theorem dX11_determinant_23 : decode cX11_determinant 23 = .ok (.iconst 0, 1) := by decide +kernel
theorem dX11_determinant_24 : decode cX11_determinant 24 = .ok (.putfield 40, 3) := by decide +kernel
theorem dX11_determinant_27 : decode cX11_determinant 27 = .ok (.aload_n 0, 1) := by decide +kernel
theorem dX11_determinant_28 : decode cX11_determinant 28 = .ok (.getfield 40, 3) := by decide +kernel
theorem dX11_determinant_31 : decode cX11_determinant 31 = .ok (.ifCond .le 7, 3) := by decide +kernel
theorem dX11_determinant_34 : decode cX11_determinant 34 = .ok (.iconst 0, 1) := by decide +kernel
theorem dX11_determinant_35 : decode cX11_determinant 35 = .ok (.goto 11, 3) := by decide +kernel
theorem dX11_determinant_38 : decode cX11_determinant 38 = .ok (.aload_n 0, 1) := by decide +kernel
theorem dX11_determinant_39 : decode cX11_determinant 39 = .ok (.bipush 84, 2) := by decide +kernel
theorem dX11_determinant_41 : decode cX11_determinant 41 = .ok (.iload_n 1, 1) := by decide +kernel
theorem dX11_determinant_42 : decode cX11_determinant 42 = .ok (.iload_n 2, 1) := by decide +kernel
theorem dX11_determinant_43 : decode cX11_determinant 43 = .ok (.invokevirtual 163, 3) := by decide +kernel
theorem dX11_determinant_46 : decode cX11_determinant 46 = .ok (.ireturn, 1) := by decide +kernel
theorem dX11_noCell_0 : decode cX11_noCell 0 = .ok (.iload_n 1, 1) := by decide +kernel
theorem dX11_noCell_1 : decode cX11_noCell 1 = .ok (.ifCond .lt 23, 3) := by decide +kernel
theorem dX11_noCell_4 : decode cX11_noCell 4 = .ok (.iload_n 1, 1) := by decide +kernel
theorem dX11_noCell_5 : decode cX11_noCell 5 = .ok (.aload_n 0, 1) := by decide +kernel
theorem dX11_noCell_6 : decode cX11_noCell 6 = .ok (.getfield 26, 3) := by decide +kernel
theorem dX11_noCell_9 : decode cX11_noCell 9 = .ok (.if_icmp .ge 15, 3) := by decide +kernel
theorem dX11_noCell_12 : decode cX11_noCell 12 = .ok (.iload_n 2, 1) := by decide +kernel
theorem dX11_noCell_13 : decode cX11_noCell 13 = .ok (.ifCond .lt 11, 3) := by decide +kernel
theorem dX11_noCell_16 : decode cX11_noCell 16 = .ok (.iload_n 2, 1) := by decide +kernel
theorem dX11_noCell_17 : decode cX11_noCell 17 = .ok (.aload_n 0, 1) := by decide +kernel
theorem dX11_noCell_18 : decode cX11_noCell 18 = .ok (.getfield 26, 3) := by decide +kernel
theorem dX11_noCell_21 : decode cX11_noCell 21 = .ok (.if_icmp .le 7, 3) := by decide +kernel
theorem dX11_noCell_24 : decode cX11_noCell 24 = .ok (.iconst 1, 1) := by decide +kernel
theorem dX11_noCell_25 : decode cX11_noCell 25 = .ok (.goto 4, 3) := by decide +kernel
theorem dX11_noCell_28 : decode cX11_noCell 28 = .ok (.iconst 0, 1) := by decide +kernel
theorem dX11_noCell_29 : decode cX11_noCell 29 = .ok (.ireturn, 1) := by decide +kernel
theorem dX11_cell_0 : decode cX11_cell 0 = .ok (.aload_n 0, 1) := by decide +kernel
theorem dX11_cell_1 : decode cX11_cell 1 = .ok (.aload_n 0, 1) := by decide +kernel
theorem dX11_cell_2 : decode cX11_cell 2 = .ok (.iload_n 1, 1) := by decide +kernel
theorem dX11_cell_3 : decode cX11_cell 3 = .ok (.iload_n 2, 1) := by decide +kernel
theorem dX11_cell_4 : decode cX11_cell 4 = .ok (.invokevirtual 166, 3) := by decide +kernel
theorem dX11_cell_7 : decode cX11_cell 7 = .ok (.ifCond .ne 10, 3) := by decide +kernel
theorem dX11_cell_10 : decode cX11_cell 10 = .ok (.iload_n 3, 1) := by decide +kernel
theorem dX11_cell_11 : decode cX11_cell 11 = .ok (.invokestatic 157, 3) := by decide +kernel
theorem dX11_cell_14 : decode cX11_cell 14 = .ok (.ifCond .eq 7, 3) := by decide +kernel
theorem dX11_cell_17 : decode cX11_cell 17 = .ok (.iconst 1, 1) := by decide +kernel
theorem dX11_cell_18 : decode cX11_cell 18 = .ok (.goto 15, 3) := by decide +kernel
theorem dX11_cell_21 : decode cX11_cell 21 = .ok (.aload_n 0, 1) := by decide +kernel
theorem dX11_cell_22 : decode cX11_cell 22 = .ok (.getfield 109, 3) := by decide +kernel
theorem dX11_cell_25 : decode cX11_cell 25 = .ok (.ifCond .ne 7, 3) := by decide +kernel
theorem dX11_cell_28 : decode cX11_cell 28 = .ok (.iconst 2, 1) := by decide +kernel
theorem dX11_cell_29 : decode cX11_cell 29 = .ok (.goto 4, 3) := by decide +kernel
theorem dX11_cell_32 : decode cX11_cell 32 = .ok (.iconst 0, 1) := by decide +kernel
theorem dX11_cell_33 : decode cX11_cell 33 = .ok (.putfield 40, 3) := by decide +kernel
theorem dX11_cell_36 : decode cX11_cell 36 = .ok (.aload_n 0, 1) := by decide +kernel
theorem dX11_cell_37 : decode cX11_cell 37 = .ok (.getfield 40, 3) := by decide +kernel
theorem dX11_cell_40 : decode cX11_cell 40 = .ok (.ifCond .le 7, 3) := by decide +kernel
theorem dX11_cell_43 : decode cX11_cell 43 = .ok (.iconst 0, 1) := by decide +kernel
theorem dX11_cell_44 : decode cX11_cell 44 = .ok (.goto 18, 3) := by decide +kernel
theorem dX11_cell_47 : decode cX11_cell 47 = .ok (.aload_n 0, 1) := by decide +kernel
theorem dX11_cell_48 : decode cX11_cell 48 = .ok (.bipush 42, 2) := by decide +kernel
theorem dX11_cell_50 : decode cX11_cell 50 = .ok (.iload_n 1, 1) := by decide +kernel
theorem dX11_cell_51 : decode cX11_cell 51 = .ok (.iload_n 2, 1) := by decide +kernel
theorem dX11_cell_52 : decode cX11_cell 52 = .ok (.invokestatic 113, 3) := by decide +kernel
theorem dX11_cell_55 : decode cX11_cell 55 = .ok (.iadd, 1) := by decide +kernel
theorem dX11_cell_56 : decode cX11_cell 56 = .ok (.iload_n 3, 1) := by decide +kernel
theorem dX11_cell_57 : decode cX11_cell 57 = .ok (.iload 4, 2) := by decide +kernel
theorem dX11_cell_59 : decode cX11_cell 59 = .ok (.invokevirtual 163, 3) := by decide +kernel
theorem dX11_cell_62 : decode cX11_cell 62 = .ok (.ireturn, 1) := by decide +kernel
theorem dX11_told_0 : decode cX11_told 0 = .ok (.aload_n 0, 1) := by decide +kernel
theorem dX11_told_1 : decode cX11_told 1 = .ok (.aload_n 0, 1) := by decide +kernel
theorem dX11_told_2 : decode cX11_told 2 = .ok (.iload_n 1, 1) := by decide +kernel
theorem dX11_told_3 : decode cX11_told 3 = .ok (.iload_n 2, 1) := by decide +kernel
theorem dX11_told_4 : decode cX11_told 4 = .ok (.invokevirtual 166, 3) := by decide +kernel
theorem dX11_told_7 : decode cX11_told 7 = .ok (.ifCond .ne 10, 3) := by decide +kernel
theorem dX11_told_10 : decode cX11_told 10 = .ok (.iload_n 3, 1) := by decide +kernel
theorem dX11_told_11 : decode cX11_told 11 = .ok (.invokestatic 157, 3) := by decide +kernel
theorem dX11_told_14 : decode cX11_told 14 = .ok (.ifCond .eq 7, 3) := by decide +kernel
theorem dX11_told_17 : decode cX11_told 17 = .ok (.iconst 1, 1) := by decide +kernel
theorem dX11_told_18 : decode cX11_told 18 = .ok (.goto 4, 3) := by decide +kernel
theorem dX11_told_21 : decode cX11_told 21 = .ok (.iconst 0, 1) := by decide +kernel
theorem dX11_told_22 : decode cX11_told 22 = .ok (.putfield 40, 3) := by decide +kernel
theorem dX11_told_25 : decode cX11_told 25 = .ok (.aload_n 0, 1) := by decide +kernel
theorem dX11_told_26 : decode cX11_told 26 = .ok (.getfield 40, 3) := by decide +kernel
theorem dX11_told_29 : decode cX11_told 29 = .ok (.ifCond .le 7, 3) := by decide +kernel
theorem dX11_told_32 : decode cX11_told 32 = .ok (.iconst 0, 1) := by decide +kernel
theorem dX11_told_33 : decode cX11_told 33 = .ok (.goto 15, 3) := by decide +kernel
theorem dX11_told_36 : decode cX11_told 36 = .ok (.aload_n 0, 1) := by decide +kernel
theorem dX11_told_37 : decode cX11_told 37 = .ok (.iload_n 1, 1) := by decide +kernel
theorem dX11_told_38 : decode cX11_told 38 = .ok (.iload_n 2, 1) := by decide +kernel
theorem dX11_told_39 : decode cX11_told 39 = .ok (.invokestatic 113, 3) := by decide +kernel
theorem dX11_told_42 : decode cX11_told 42 = .ok (.iload_n 3, 1) := by decide +kernel
theorem dX11_told_43 : decode cX11_told 43 = .ok (.iload 4, 2) := by decide +kernel
theorem dX11_told_45 : decode cX11_told 45 = .ok (.invokevirtual 163, 3) := by decide +kernel
theorem dX11_told_48 : decode cX11_told 48 = .ok (.ireturn, 1) := by decide +kernel
theorem dX11_meter_0 : decode cX11_meter 0 = .ok (.aload_n 0, 1) := by decide +kernel
theorem dX11_meter_1 : decode cX11_meter 1 = .ok (.iconst 0, 1) := by decide +kernel
theorem dX11_meter_2 : decode cX11_meter 2 = .ok (.putfield 40, 3) := by decide +kernel
theorem dX11_meter_5 : decode cX11_meter 5 = .ok (.aload_n 0, 1) := by decide +kernel
theorem dX11_meter_6 : decode cX11_meter 6 = .ok (.iconst 0, 1) := by decide +kernel
theorem dX11_meter_7 : decode cX11_meter 7 = .ok (.invokevirtual 116, 3) := by decide +kernel
theorem dX11_meter_10 : decode cX11_meter 10 = .ok (.ireturn, 1) := by decide +kernel
theorem dX11_isRight_0 : decode cX11_isRight 0 = .ok (.aload_n 0, 1) := by decide +kernel
theorem dX11_isRight_1 : decode cX11_isRight 1 = .ok (.iload_n 1, 1) := by decide +kernel
theorem dX11_isRight_2 : decode cX11_isRight 2 = .ok (.ifCond .lt 11, 3) := by decide +kernel
theorem dX11_isRight_5 : decode cX11_isRight 5 = .ok (.iload_n 1, 1) := by decide +kernel
theorem dX11_isRight_6 : decode cX11_isRight 6 = .ok (.aload_n 0, 1) := by decide +kernel
theorem dX11_isRight_7 : decode cX11_isRight 7 = .ok (.getfield 26, 3) := by decide +kernel
theorem dX11_isRight_10 : decode cX11_isRight 10 = .ok (.if_icmp .lt 7, 3) := by decide +kernel
theorem dX11_isRight_13 : decode cX11_isRight 13 = .ok (.iconst 1, 1) := by decide +kernel
theorem dX11_isRight_14 : decode cX11_isRight 14 = .ok (.goto 22, 3) := by decide +kernel
theorem dX11_isRight_17 : decode cX11_isRight 17 = .ok (.aload_n 0, 1) := by decide +kernel
theorem dX11_isRight_18 : decode cX11_isRight 18 = .ok (.getfield 109, 3) := by decide +kernel
theorem dX11_isRight_21 : decode cX11_isRight 21 = .ok (.ifCond .eq 10, 3) := by decide +kernel
theorem dX11_isRight_24 : decode cX11_isRight 24 = .ok (.aload_n 0, 1) := by decide +kernel
theorem dX11_isRight_25 : decode cX11_isRight 25 = .ok (.getfield 151, 3) := by decide +kernel
theorem dX11_isRight_28 : decode cX11_isRight 28 = .ok (.ifCond .ne 7, 3) := by decide +kernel
theorem dX11_isRight_31 : decode cX11_isRight 31 = .ok (.iconst 2, 1) := by decide +kernel
theorem dX11_isRight_32 : decode cX11_isRight 32 = .ok (.goto 4, 3) := by decide +kernel
theorem dX11_isRight_35 : decode cX11_isRight 35 = .ok (.iconst 0, 1) := by decide +kernel
theorem dX11_isRight_36 : decode cX11_isRight 36 = .ok (.putfield 40, 3) := by decide +kernel
theorem dX11_isRight_39 : decode cX11_isRight 39 = .ok (.aload_n 0, 1) := by decide +kernel
theorem dX11_isRight_40 : decode cX11_isRight 40 = .ok (.getfield 40, 3) := by decide +kernel
theorem dX11_isRight_43 : decode cX11_isRight 43 = .ok (.ifCond .le 5, 3) := by decide +kernel
theorem dX11_isRight_46 : decode cX11_isRight 46 = .ok (.iconst 0, 1) := by decide +kernel
theorem dX11_isRight_47 : decode cX11_isRight 47 = .ok (.ireturn, 1) := by decide +kernel
theorem dX11_isRight_48 : decode cX11_isRight 48 = .ok (.aload_n 0, 1) := by decide +kernel
theorem dX11_isRight_49 : decode cX11_isRight 49 = .ok (.bipush 86, 2) := by decide +kernel
theorem dX11_isRight_51 : decode cX11_isRight 51 = .ok (.invokevirtual 85, 3) := by decide +kernel
theorem dX11_isRight_54 : decode cX11_isRight 54 = .ok (.iconst 0, 1) := by decide +kernel
theorem dX11_isRight_55 : decode cX11_isRight 55 = .ok (.istore_n 2, 1) := by decide +kernel
theorem dX11_isRight_56 : decode cX11_isRight 56 = .ok (.iload_n 2, 1) := by decide +kernel
theorem dX11_isRight_57 : decode cX11_isRight 57 = .ok (.aload_n 0, 1) := by decide +kernel
theorem dX11_isRight_58 : decode cX11_isRight 58 = .ok (.getfield 26, 3) := by decide +kernel
theorem dX11_isRight_61 : decode cX11_isRight 61 = .ok (.if_icmp .ge 46, 3) := by decide +kernel
theorem dX11_isRight_64 : decode cX11_isRight 64 = .ok (.aload_n 0, 1) := by decide +kernel
theorem dX11_isRight_65 : decode cX11_isRight 65 = .ok (.iload_n 2, 1) := by decide +kernel
theorem dX11_isRight_66 : decode cX11_isRight 66 = .ok (.invokevirtual 160, 3) := by decide +kernel
theorem dX11_isRight_69 : decode cX11_isRight 69 = .ok (.aload_n 0, 1) := by decide +kernel
theorem dX11_isRight_70 : decode cX11_isRight 70 = .ok (.bipush 87, 2) := by decide +kernel
theorem dX11_isRight_72 : decode cX11_isRight 72 = .ok (.bipush 85, 2) := by decide +kernel
theorem dX11_isRight_74 : decode cX11_isRight 74 = .ok (.iload_n 1, 1) := by decide +kernel
theorem dX11_isRight_75 : decode cX11_isRight 75 = .ok (.iload_n 2, 1) := by decide +kernel
theorem dX11_isRight_76 : decode cX11_isRight 76 = .ok (.invokestatic 113, 3) := by decide +kernel
theorem dX11_isRight_79 : decode cX11_isRight 79 = .ok (.invokevirtual 129, 3) := by decide +kernel
theorem dX11_isRight_82 : decode cX11_isRight 82 = .ok (.aload_n 0, 1) := by decide +kernel
theorem dX11_isRight_83 : decode cX11_isRight 83 = .ok (.bipush 88, 2) := by decide +kernel
theorem dX11_isRight_85 : decode cX11_isRight 85 = .ok (.bipush 86, 2) := by decide +kernel
theorem dX11_isRight_87 : decode cX11_isRight 87 = .ok (.bipush 87, 2) := by decide +kernel
theorem dX11_isRight_89 : decode cX11_isRight 89 = .ok (.iconst 1, 1) := by decide +kernel
theorem dX11_isRight_90 : decode cX11_isRight 90 = .ok (.invokevirtual 132, 3) := by decide +kernel
theorem dX11_isRight_93 : decode cX11_isRight 93 = .ok (.aload_n 0, 1) := by decide +kernel
theorem dX11_isRight_94 : decode cX11_isRight 94 = .ok (.bipush 86, 2) := by decide +kernel
theorem dX11_isRight_96 : decode cX11_isRight 96 = .ok (.bipush 88, 2) := by decide +kernel
theorem dX11_isRight_98 : decode cX11_isRight 98 = .ok (.invokevirtual 123, 3) := by decide +kernel
theorem dX11_isRight_101 : decode cX11_isRight 101 = .ok (.iinc 2 1, 3) := by decide +kernel
theorem dX11_isRight_104 : decode cX11_isRight 104 = .ok (.goto (-48), 3) := by decide +kernel
theorem dX11_isRight_107 : decode cX11_isRight 107 = .ok (.aload_n 0, 1) := by decide +kernel
theorem dX11_isRight_108 : decode cX11_isRight 108 = .ok (.bipush 86, 2) := by decide +kernel
theorem dX11_isRight_110 : decode cX11_isRight 110 = .ok (.iload_n 1, 1) := by decide +kernel
theorem dX11_isRight_111 : decode cX11_isRight 111 = .ok (.aload_n 0, 1) := by decide +kernel
theorem dX11_isRight_112 : decode cX11_isRight 112 = .ok (.getfield 26, 3) := by decide +kernel
theorem dX11_isRight_115 : decode cX11_isRight 115 = .ok (.invokestatic 113, 3) := by decide +kernel
theorem dX11_isRight_118 : decode cX11_isRight 118 = .ok (.invokevirtual 170, 3) := by decide +kernel
theorem dX11_isRight_121 : decode cX11_isRight 121 = .ok (.ireturn, 1) := by decide +kernel
theorem dX11_isPrime_0 : decode cX11_isPrime 0 = .ok (.iload_n 0, 1) := by decide +kernel
theorem dX11_isPrime_1 : decode cX11_isPrime 1 = .ok (.iconst 2, 1) := by decide +kernel
theorem dX11_isPrime_2 : decode cX11_isPrime 2 = .ok (.if_icmp .lt 13, 3) := by decide +kernel
theorem dX11_isPrime_5 : decode cX11_isPrime 5 = .ok (.iload_n 0, 1) := by decide +kernel
theorem dX11_isPrime_6 : decode cX11_isPrime 6 = .ok (.ldc 173, 2) := by decide +kernel
theorem dX11_isPrime_8 : decode cX11_isPrime 8 = .ok (.if_icmp .gt 7, 3) := by decide +kernel
theorem dX11_isPrime_11 : decode cX11_isPrime 11 = .ok (.iconst 1, 1) := by decide +kernel
theorem dX11_isPrime_12 : decode cX11_isPrime 12 = .ok (.goto 4, 3) := by decide +kernel
theorem dX11_isPrime_15 : decode cX11_isPrime 15 = .ok (.iconst 0, 1) := by decide +kernel
theorem dX11_isPrime_16 : decode cX11_isPrime 16 = .ok (.istore_n 1, 1) := by decide +kernel
theorem dX11_isPrime_17 : decode cX11_isPrime 17 = .ok (.iconst 2, 1) := by decide +kernel
theorem dX11_isPrime_18 : decode cX11_isPrime 18 = .ok (.istore_n 2, 1) := by decide +kernel
theorem dX11_isPrime_19 : decode cX11_isPrime 19 = .ok (.iload_n 2, 1) := by decide +kernel
theorem dX11_isPrime_20 : decode cX11_isPrime 20 = .ok (.iload_n 2, 1) := by decide +kernel
theorem dX11_isPrime_21 : decode cX11_isPrime 21 = .ok (.imul, 1) := by decide +kernel
theorem dX11_isPrime_22 : decode cX11_isPrime 22 = .ok (.iload_n 0, 1) := by decide +kernel
theorem dX11_isPrime_23 : decode cX11_isPrime 23 = .ok (.if_icmp .gt 25, 3) := by decide +kernel
theorem dX11_isPrime_26 : decode cX11_isPrime 26 = .ok (.iload_n 1, 1) := by decide +kernel
theorem dX11_isPrime_27 : decode cX11_isPrime 27 = .ok (.ifCond .eq 21, 3) := by decide +kernel
theorem dX11_isPrime_30 : decode cX11_isPrime 30 = .ok (.iload_n 0, 1) := by decide +kernel
theorem dX11_isPrime_31 : decode cX11_isPrime 31 = .ok (.iload_n 2, 1) := by decide +kernel
theorem dX11_isPrime_32 : decode cX11_isPrime 32 = .ok (.irem, 1) := by decide +kernel
theorem dX11_isPrime_33 : decode cX11_isPrime 33 = .ok (.ifCond .eq 7, 3) := by decide +kernel
theorem dX11_isPrime_36 : decode cX11_isPrime 36 = .ok (.iconst 1, 1) := by decide +kernel
theorem dX11_isPrime_37 : decode cX11_isPrime 37 = .ok (.goto 4, 3) := by decide +kernel
theorem dX11_isPrime_40 : decode cX11_isPrime 40 = .ok (.iconst 0, 1) := by decide +kernel
theorem dX11_isPrime_41 : decode cX11_isPrime 41 = .ok (.istore_n 1, 1) := by decide +kernel
theorem dX11_isPrime_42 : decode cX11_isPrime 42 = .ok (.iinc 2 1, 3) := by decide +kernel
theorem dX11_isPrime_45 : decode cX11_isPrime 45 = .ok (.goto (-26), 3) := by decide +kernel
theorem dX11_isPrime_48 : decode cX11_isPrime 48 = .ok (.iload_n 1, 1) := by decide +kernel
theorem dX11_isPrime_49 : decode cX11_isPrime 49 = .ok (.ireturn, 1) := by decide +kernel
theorem dX11_power_0 : decode cX11_power 0 = .ok (.lconst 1, 1) := by decide +kernel
theorem dX11_power_1 : decode cX11_power 1 = .ok (.lstore 4, 2) := by decide +kernel
theorem dX11_power_3 : decode cX11_power 3 = .ok (.bipush 30, 2) := by decide +kernel
theorem dX11_power_5 : decode cX11_power 5 = .ok (.istore 6, 2) := by decide +kernel
theorem dX11_power_7 : decode cX11_power 7 = .ok (.iload 6, 2) := by decide +kernel
theorem dX11_power_9 : decode cX11_power 9 = .ok (.ifCond .lt 38, 3) := by decide +kernel
theorem dX11_power_12 : decode cX11_power 12 = .ok (.lload 4, 2) := by decide +kernel
theorem dX11_power_14 : decode cX11_power 14 = .ok (.lload 4, 2) := by decide +kernel
theorem dX11_power_16 : decode cX11_power 16 = .ok (.lmul, 1) := by decide +kernel
theorem dX11_power_17 : decode cX11_power 17 = .ok (.iload_n 3, 1) := by decide +kernel
theorem dX11_power_18 : decode cX11_power 18 = .ok (.i2l, 1) := by decide +kernel
theorem dX11_power_19 : decode cX11_power 19 = .ok (.lrem, 1) := by decide +kernel
theorem dX11_power_20 : decode cX11_power 20 = .ok (.lstore 4, 2) := by decide +kernel
theorem dX11_power_22 : decode cX11_power 22 = .ok (.iload_n 2, 1) := by decide +kernel
theorem dX11_power_23 : decode cX11_power 23 = .ok (.iload 6, 2) := by decide +kernel
theorem dX11_power_25 : decode cX11_power 25 = .ok (.ishr, 1) := by decide +kernel
theorem dX11_power_26 : decode cX11_power 26 = .ok (.iconst 1, 1) := by decide +kernel
theorem dX11_power_27 : decode cX11_power 27 = .ok (.iand, 1) := by decide +kernel
theorem dX11_power_28 : decode cX11_power 28 = .ok (.iconst 1, 1) := by decide +kernel
theorem dX11_power_29 : decode cX11_power 29 = .ok (.if_icmp .ne 12, 3) := by decide +kernel
theorem dX11_power_32 : decode cX11_power 32 = .ok (.lload 4, 2) := by decide +kernel
theorem dX11_power_34 : decode cX11_power 34 = .ok (.lload_n 0, 1) := by decide +kernel
theorem dX11_power_35 : decode cX11_power 35 = .ok (.lmul, 1) := by decide +kernel
theorem dX11_power_36 : decode cX11_power 36 = .ok (.iload_n 3, 1) := by decide +kernel
theorem dX11_power_37 : decode cX11_power 37 = .ok (.i2l, 1) := by decide +kernel
theorem dX11_power_38 : decode cX11_power 38 = .ok (.lrem, 1) := by decide +kernel
theorem dX11_power_39 : decode cX11_power 39 = .ok (.lstore 4, 2) := by decide +kernel
theorem dX11_power_41 : decode cX11_power 41 = .ok (.iinc 6 (-1), 3) := by decide +kernel
theorem dX11_power_44 : decode cX11_power 44 = .ok (.goto (-37), 3) := by decide +kernel
theorem dX11_power_47 : decode cX11_power 47 = .ok (.lload 4, 2) := by decide +kernel
theorem dX11_power_49 : decode cX11_power 49 = .ok (.lreturn, 1) := by decide +kernel
theorem dX11_rest_0 : decode cX11_rest 0 = .ok (.lconst 0, 1) := by decide +kernel
theorem dX11_rest_1 : decode cX11_rest 1 = .ok (.lstore_n 3, 1) := by decide +kernel
theorem dX11_rest_2 : decode cX11_rest 2 = .ok (.aload_n 0, 1) := by decide +kernel
theorem dX11_rest_3 : decode cX11_rest 3 = .ok (.getfield 14, 3) := by decide +kernel
theorem dX11_rest_6 : decode cX11_rest 6 = .ok (.iload_n 1, 1) := by decide +kernel
theorem dX11_rest_7 : decode cX11_rest 7 = .ok (.iaload, 1) := by decide +kernel
theorem dX11_rest_8 : decode cX11_rest 8 = .ok (.iconst 1, 1) := by decide +kernel
theorem dX11_rest_9 : decode cX11_rest 9 = .ok (.isub, 1) := by decide +kernel
theorem dX11_rest_10 : decode cX11_rest 10 = .ok (.istore 5, 2) := by decide +kernel
theorem dX11_rest_12 : decode cX11_rest 12 = .ok (.iload 5, 2) := by decide +kernel
theorem dX11_rest_14 : decode cX11_rest 14 = .ok (.ifCond .lt 32, 3) := by decide +kernel
theorem dX11_rest_17 : decode cX11_rest 17 = .ok (.lload_n 3, 1) := by decide +kernel
theorem dX11_rest_18 : decode cX11_rest 18 = .ok (.ldc2_w 47, 3) := by decide +kernel
theorem dX11_rest_21 : decode cX11_rest 21 = .ok (.lmul, 1) := by decide +kernel
theorem dX11_rest_22 : decode cX11_rest 22 = .ok (.aload_n 0, 1) := by decide +kernel
theorem dX11_rest_23 : decode cX11_rest 23 = .ok (.getfield 8, 3) := by decide +kernel
theorem dX11_rest_26 : decode cX11_rest 26 = .ok (.iload_n 1, 1) := by decide +kernel
theorem dX11_rest_27 : decode cX11_rest 27 = .ok (.invokestatic 43, 3) := by decide +kernel
theorem dX11_rest_30 : decode cX11_rest 30 = .ok (.iload 5, 2) := by decide +kernel
theorem dX11_rest_32 : decode cX11_rest 32 = .ok (.iadd, 1) := by decide +kernel
theorem dX11_rest_33 : decode cX11_rest 33 = .ok (.iaload, 1) := by decide +kernel
theorem dX11_rest_34 : decode cX11_rest 34 = .ok (.i2l, 1) := by decide +kernel
theorem dX11_rest_35 : decode cX11_rest 35 = .ok (.ladd, 1) := by decide +kernel
theorem dX11_rest_36 : decode cX11_rest 36 = .ok (.iload_n 2, 1) := by decide +kernel
theorem dX11_rest_37 : decode cX11_rest 37 = .ok (.i2l, 1) := by decide +kernel
theorem dX11_rest_38 : decode cX11_rest 38 = .ok (.lrem, 1) := by decide +kernel
theorem dX11_rest_39 : decode cX11_rest 39 = .ok (.lstore_n 3, 1) := by decide +kernel
theorem dX11_rest_40 : decode cX11_rest 40 = .ok (.iinc 5 (-1), 3) := by decide +kernel
theorem dX11_rest_43 : decode cX11_rest 43 = .ok (.goto (-31), 3) := by decide +kernel
theorem dX11_rest_46 : decode cX11_rest 46 = .ok (.lload_n 3, 1) := by decide +kernel
theorem dX11_rest_47 : decode cX11_rest 47 = .ok (.lreturn, 1) := by decide +kernel
theorem dX11_modulo_0 : decode cX11_modulo 0 = .ok (.aload_n 0, 1) := by decide +kernel
theorem dX11_modulo_1 : decode cX11_modulo 1 = .ok (.iconst 0, 1) := by decide +kernel
theorem dX11_modulo_2 : decode cX11_modulo 2 = .ok (.putfield 40, 3) := by decide +kernel
theorem dX11_modulo_5 : decode cX11_modulo 5 = .ok (.iload_n 1, 1) := by decide +kernel
theorem dX11_modulo_6 : decode cX11_modulo 6 = .ok (.invokestatic 174, 3) := by decide +kernel
theorem dX11_modulo_9 : decode cX11_modulo 9 = .ok (.ifCond .ne 5, 3) := by decide +kernel
theorem dX11_modulo_12 : decode cX11_modulo 12 = .ok (.iconst (-1), 1) := by decide +kernel
theorem dX11_modulo_13 : decode cX11_modulo 13 = .ok (.ireturn, 1) := by decide +kernel
theorem dX11_modulo_14 : decode cX11_modulo 14 = .ok (.iconst 0, 1) := by decide +kernel
theorem dX11_modulo_15 : decode cX11_modulo 15 = .ok (.istore_n 2, 1) := by decide +kernel
theorem dX11_modulo_16 : decode cX11_modulo 16 = .ok (.iload_n 2, 1) := by decide +kernel
theorem dX11_modulo_17 : decode cX11_modulo 17 = .ok (.aload_n 0, 1) := by decide +kernel
theorem dX11_modulo_18 : decode cX11_modulo 18 = .ok (.getfield 26, 3) := by decide +kernel
theorem dX11_modulo_21 : decode cX11_modulo 21 = .ok (.if_icmp .ge 112, 3) := by decide +kernel
theorem dX11_modulo_24 : decode cX11_modulo 24 = .ok (.iconst 0, 1) := by decide +kernel
theorem dX11_modulo_25 : decode cX11_modulo 25 = .ok (.istore_n 3, 1) := by decide +kernel
theorem dX11_modulo_26 : decode cX11_modulo 26 = .ok (.iload_n 3, 1) := by decide +kernel
theorem dX11_modulo_27 : decode cX11_modulo 27 = .ok (.aload_n 0, 1) := by decide +kernel
theorem dX11_modulo_28 : decode cX11_modulo 28 = .ok (.getfield 26, 3) := by decide +kernel
theorem dX11_modulo_31 : decode cX11_modulo 31 = .ok (.if_icmp .ge 96, 3) := by decide +kernel
theorem dX11_modulo_34 : decode cX11_modulo 34 = .ok (.iload_n 2, 1) := by decide +kernel
theorem dX11_modulo_35 : decode cX11_modulo 35 = .ok (.iload_n 3, 1) := by decide +kernel
theorem dX11_modulo_36 : decode cX11_modulo 36 = .ok (.invokestatic 113, 3) := by decide +kernel
theorem dX11_modulo_39 : decode cX11_modulo 39 = .ok (.istore 4, 2) := by decide +kernel
theorem dX11_modulo_41 : decode cX11_modulo 41 = .ok (.aload_n 0, 1) := by decide +kernel
theorem dX11_modulo_42 : decode cX11_modulo 42 = .ok (.iconst 2, 1) := by decide +kernel
theorem dX11_modulo_43 : decode cX11_modulo 43 = .ok (.iload 4, 2) := by decide +kernel
theorem dX11_modulo_45 : decode cX11_modulo 45 = .ok (.imul, 1) := by decide +kernel
theorem dX11_modulo_46 : decode cX11_modulo 46 = .ok (.iconst 1, 1) := by decide +kernel
theorem dX11_modulo_47 : decode cX11_modulo 47 = .ok (.iadd, 1) := by decide +kernel
theorem dX11_modulo_48 : decode cX11_modulo 48 = .ok (.iload_n 1, 1) := by decide +kernel
theorem dX11_modulo_49 : decode cX11_modulo 49 = .ok (.invokevirtual 177, 3) := by decide +kernel
theorem dX11_modulo_52 : decode cX11_modulo 52 = .ok (.lstore 5, 2) := by decide +kernel
theorem dX11_modulo_54 : decode cX11_modulo 54 = .ok (.lload 5, 2) := by decide +kernel
theorem dX11_modulo_56 : decode cX11_modulo 56 = .ok (.lconst 0, 1) := by decide +kernel
theorem dX11_modulo_57 : decode cX11_modulo 57 = .ok (.lcmp, 1) := by decide +kernel
theorem dX11_modulo_58 : decode cX11_modulo 58 = .ok (.ifCond .ne 5, 3) := by decide +kernel
theorem dX11_modulo_61 : decode cX11_modulo 61 = .ok (.iconst (-1), 1) := by decide +kernel
theorem dX11_modulo_62 : decode cX11_modulo 62 = .ok (.ireturn, 1) := by decide +kernel
theorem dX11_modulo_63 : decode cX11_modulo 63 = .ok (.aload_n 0, 1) := by decide +kernel
theorem dX11_modulo_64 : decode cX11_modulo 64 = .ok (.iconst 2, 1) := by decide +kernel
theorem dX11_modulo_65 : decode cX11_modulo 65 = .ok (.iload 4, 2) := by decide +kernel
theorem dX11_modulo_67 : decode cX11_modulo 67 = .ok (.imul, 1) := by decide +kernel
theorem dX11_modulo_68 : decode cX11_modulo 68 = .ok (.iload_n 1, 1) := by decide +kernel
theorem dX11_modulo_69 : decode cX11_modulo 69 = .ok (.invokevirtual 177, 3) := by decide +kernel
theorem dX11_modulo_72 : decode cX11_modulo 72 = .ok (.lload 5, 2) := by decide +kernel
theorem dX11_modulo_74 : decode cX11_modulo 74 = .ok (.iload_n 1, 1) := by decide +kernel
theorem dX11_modulo_75 : decode cX11_modulo 75 = .ok (.iconst 2, 1) := by decide +kernel
theorem dX11_modulo_76 : decode cX11_modulo 76 = .ok (.isub, 1) := by decide +kernel
theorem dX11_modulo_77 : decode cX11_modulo 77 = .ok (.iload_n 1, 1) := by decide +kernel
theorem dX11_modulo_78 : decode cX11_modulo 78 = .ok (.invokestatic 181, 3) := by decide +kernel
theorem dX11_modulo_81 : decode cX11_modulo 81 = .ok (.lmul, 1) := by decide +kernel
theorem dX11_modulo_82 : decode cX11_modulo 82 = .ok (.iload_n 1, 1) := by decide +kernel
theorem dX11_modulo_83 : decode cX11_modulo 83 = .ok (.i2l, 1) := by decide +kernel
theorem dX11_modulo_84 : decode cX11_modulo 84 = .ok (.lrem, 1) := by decide +kernel
theorem dX11_modulo_85 : decode cX11_modulo 85 = .ok (.lstore 7, 2) := by decide +kernel
theorem dX11_modulo_87 : decode cX11_modulo 87 = .ok (.aload_n 0, 1) := by decide +kernel
theorem dX11_modulo_88 : decode cX11_modulo 88 = .ok (.getfield 33, 3) := by decide +kernel
theorem dX11_modulo_91 : decode cX11_modulo 91 = .ok (.bipush 6, 2) := by decide +kernel
theorem dX11_modulo_93 : decode cX11_modulo 93 = .ok (.iload_n 2, 1) := by decide +kernel
theorem dX11_modulo_94 : decode cX11_modulo 94 = .ok (.imul, 1) := by decide +kernel
theorem dX11_modulo_95 : decode cX11_modulo 95 = .ok (.iload_n 3, 1) := by decide +kernel
theorem dX11_modulo_96 : decode cX11_modulo 96 = .ok (.iadd, 1) := by decide +kernel
theorem dX11_modulo_97 : decode cX11_modulo 97 = .ok (.aload_n 0, 1) := by decide +kernel
theorem dX11_modulo_98 : decode cX11_modulo 98 = .ok (.getfield 17, 3) := by decide +kernel
theorem dX11_modulo_101 : decode cX11_modulo 101 = .ok (.iload 4, 2) := by decide +kernel
theorem dX11_modulo_103 : decode cX11_modulo 103 = .ok (.iaload, 1) := by decide +kernel
theorem dX11_modulo_104 : decode cX11_modulo 104 = .ok (.ifCond .ge 14, 3) := by decide +kernel
theorem dX11_modulo_107 : decode cX11_modulo 107 = .ok (.iload_n 1, 1) := by decide +kernel
theorem dX11_modulo_108 : decode cX11_modulo 108 = .ok (.i2l, 1) := by decide +kernel
theorem dX11_modulo_109 : decode cX11_modulo 109 = .ok (.lload 7, 2) := by decide +kernel
theorem dX11_modulo_111 : decode cX11_modulo 111 = .ok (.lsub, 1) := by decide +kernel
theorem dX11_modulo_112 : decode cX11_modulo 112 = .ok (.iload_n 1, 1) := by decide +kernel
theorem dX11_modulo_113 : decode cX11_modulo 113 = .ok (.i2l, 1) := by decide +kernel
theorem dX11_modulo_114 : decode cX11_modulo 114 = .ok (.lrem, 1) := by decide +kernel
theorem dX11_modulo_115 : decode cX11_modulo 115 = .ok (.goto 5, 3) := by decide +kernel
theorem dX11_modulo_118 : decode cX11_modulo 118 = .ok (.lload 7, 2) := by decide +kernel
theorem dX11_modulo_120 : decode cX11_modulo 120 = .ok (.lastore, 1) := by decide +kernel
theorem dX11_modulo_121 : decode cX11_modulo 121 = .ok (.iinc 3 1, 3) := by decide +kernel
theorem dX11_modulo_124 : decode cX11_modulo 124 = .ok (.goto (-98), 3) := by decide +kernel
theorem dX11_modulo_127 : decode cX11_modulo 127 = .ok (.iinc 2 1, 3) := by decide +kernel
theorem dX11_modulo_130 : decode cX11_modulo 130 = .ok (.goto (-114), 3) := by decide +kernel
theorem dX11_modulo_133 : decode cX11_modulo 133 = .ok (.lconst 1, 1) := by decide +kernel
theorem dX11_modulo_134 : decode cX11_modulo 134 = .ok (.lstore_n 2, 1) := by decide +kernel
theorem dX11_modulo_135 : decode cX11_modulo 135 = .ok (.iconst 0, 1) := by decide +kernel
theorem dX11_modulo_136 : decode cX11_modulo 136 = .ok (.istore 4, 2) := by decide +kernel
theorem dX11_modulo_138 : decode cX11_modulo 138 = .ok (.iload 4, 2) := by decide +kernel
theorem dX11_modulo_140 : decode cX11_modulo 140 = .ok (.aload_n 0, 1) := by decide +kernel
theorem dX11_modulo_141 : decode cX11_modulo 141 = .ok (.getfield 26, 3) := by decide +kernel
theorem dX11_modulo_144 : decode cX11_modulo 144 = .ok (.if_icmp .ge 287, 3) := by decide +kernel
theorem dX11_modulo_147 : decode cX11_modulo 147 = .ok (.iload 4, 2) := by decide +kernel
theorem dX11_modulo_149 : decode cX11_modulo 149 = .ok (.istore 5, 2) := by decide +kernel
theorem dX11_modulo_151 : decode cX11_modulo 151 = .ok (.iload 5, 2) := by decide +kernel
theorem dX11_modulo_153 : decode cX11_modulo 153 = .ok (.aload_n 0, 1) := by decide +kernel
theorem dX11_modulo_154 : decode cX11_modulo 154 = .ok (.getfield 26, 3) := by decide +kernel
theorem dX11_modulo_157 : decode cX11_modulo 157 = .ok (.if_icmp .ge 27, 3) := by decide +kernel
theorem dX11_modulo_160 : decode cX11_modulo 160 = .ok (.aload_n 0, 1) := by decide +kernel
theorem dX11_modulo_161 : decode cX11_modulo 161 = .ok (.getfield 33, 3) := by decide +kernel
theorem dX11_modulo_164 : decode cX11_modulo 164 = .ok (.bipush 6, 2) := by decide +kernel
theorem dX11_modulo_166 : decode cX11_modulo 166 = .ok (.iload 5, 2) := by decide +kernel
theorem dX11_modulo_168 : decode cX11_modulo 168 = .ok (.imul, 1) := by decide +kernel
theorem dX11_modulo_169 : decode cX11_modulo 169 = .ok (.iload 4, 2) := by decide +kernel
theorem dX11_modulo_171 : decode cX11_modulo 171 = .ok (.iadd, 1) := by decide +kernel
theorem dX11_modulo_172 : decode cX11_modulo 172 = .ok (.laload, 1) := by decide +kernel
theorem dX11_modulo_173 : decode cX11_modulo 173 = .ok (.lconst 0, 1) := by decide +kernel
theorem dX11_modulo_174 : decode cX11_modulo 174 = .ok (.lcmp, 1) := by decide +kernel
theorem dX11_modulo_175 : decode cX11_modulo 175 = .ok (.ifCond .ne 9, 3) := by decide +kernel
theorem dX11_modulo_178 : decode cX11_modulo 178 = .ok (.iinc 5 1, 3) := by decide +kernel
theorem dX11_modulo_181 : decode cX11_modulo 181 = .ok (.goto (-30), 3) := by decide +kernel
theorem dX11_modulo_184 : decode cX11_modulo 184 = .ok (.iload 5, 2) := by decide +kernel
theorem dX11_modulo_186 : decode cX11_modulo 186 = .ok (.aload_n 0, 1) := by decide +kernel
theorem dX11_modulo_187 : decode cX11_modulo 187 = .ok (.getfield 26, 3) := by decide +kernel
theorem dX11_modulo_190 : decode cX11_modulo 190 = .ok (.if_icmp .ne 5, 3) := by decide +kernel
theorem dX11_modulo_193 : decode cX11_modulo 193 = .ok (.iconst 0, 1) := by decide +kernel
theorem dX11_modulo_194 : decode cX11_modulo 194 = .ok (.ireturn, 1) := by decide +kernel
theorem dX11_modulo_195 : decode cX11_modulo 195 = .ok (.iload 5, 2) := by decide +kernel
theorem dX11_modulo_197 : decode cX11_modulo 197 = .ok (.iload 4, 2) := by decide +kernel
theorem dX11_modulo_199 : decode cX11_modulo 199 = .ok (.if_icmp .eq 82, 3) := by decide +kernel
theorem dX11_modulo_202 : decode cX11_modulo 202 = .ok (.iload_n 1, 1) := by decide +kernel
theorem dX11_modulo_203 : decode cX11_modulo 203 = .ok (.i2l, 1) := by decide +kernel
theorem dX11_modulo_204 : decode cX11_modulo 204 = .ok (.lload_n 2, 1) := by decide +kernel
theorem dX11_modulo_205 : decode cX11_modulo 205 = .ok (.lsub, 1) := by decide +kernel
theorem dX11_modulo_206 : decode cX11_modulo 206 = .ok (.lstore_n 2, 1) := by decide +kernel
theorem dX11_modulo_207 : decode cX11_modulo 207 = .ok (.iconst 0, 1) := by decide +kernel
theorem dX11_modulo_208 : decode cX11_modulo 208 = .ok (.istore 6, 2) := by decide +kernel
theorem dX11_modulo_210 : decode cX11_modulo 210 = .ok (.iload 6, 2) := by decide +kernel
theorem dX11_modulo_212 : decode cX11_modulo 212 = .ok (.aload_n 0, 1) := by decide +kernel
theorem dX11_modulo_213 : decode cX11_modulo 213 = .ok (.getfield 26, 3) := by decide +kernel
theorem dX11_modulo_216 : decode cX11_modulo 216 = .ok (.if_icmp .ge 65, 3) := by decide +kernel
theorem dX11_modulo_219 : decode cX11_modulo 219 = .ok (.aload_n 0, 1) := by decide +kernel
theorem dX11_modulo_220 : decode cX11_modulo 220 = .ok (.getfield 33, 3) := by decide +kernel
theorem dX11_modulo_223 : decode cX11_modulo 223 = .ok (.bipush 6, 2) := by decide +kernel
theorem dX11_modulo_225 : decode cX11_modulo 225 = .ok (.iload 5, 2) := by decide +kernel
theorem dX11_modulo_227 : decode cX11_modulo 227 = .ok (.imul, 1) := by decide +kernel
theorem dX11_modulo_228 : decode cX11_modulo 228 = .ok (.iload 6, 2) := by decide +kernel
theorem dX11_modulo_230 : decode cX11_modulo 230 = .ok (.iadd, 1) := by decide +kernel
theorem dX11_modulo_231 : decode cX11_modulo 231 = .ok (.laload, 1) := by decide +kernel
theorem dX11_modulo_232 : decode cX11_modulo 232 = .ok (.lstore 7, 2) := by decide +kernel
theorem dX11_modulo_234 : decode cX11_modulo 234 = .ok (.aload_n 0, 1) := by decide +kernel
theorem dX11_modulo_235 : decode cX11_modulo 235 = .ok (.getfield 33, 3) := by decide +kernel
theorem dX11_modulo_238 : decode cX11_modulo 238 = .ok (.bipush 6, 2) := by decide +kernel
theorem dX11_modulo_240 : decode cX11_modulo 240 = .ok (.iload 5, 2) := by decide +kernel
theorem dX11_modulo_242 : decode cX11_modulo 242 = .ok (.imul, 1) := by decide +kernel
theorem dX11_modulo_243 : decode cX11_modulo 243 = .ok (.iload 6, 2) := by decide +kernel
theorem dX11_modulo_245 : decode cX11_modulo 245 = .ok (.iadd, 1) := by decide +kernel
theorem dX11_modulo_246 : decode cX11_modulo 246 = .ok (.aload_n 0, 1) := by decide +kernel
theorem dX11_modulo_247 : decode cX11_modulo 247 = .ok (.getfield 33, 3) := by decide +kernel
theorem dX11_modulo_250 : decode cX11_modulo 250 = .ok (.bipush 6, 2) := by decide +kernel
theorem dX11_modulo_252 : decode cX11_modulo 252 = .ok (.iload 4, 2) := by decide +kernel
theorem dX11_modulo_254 : decode cX11_modulo 254 = .ok (.imul, 1) := by decide +kernel
theorem dX11_modulo_255 : decode cX11_modulo 255 = .ok (.iload 6, 2) := by decide +kernel
theorem dX11_modulo_257 : decode cX11_modulo 257 = .ok (.iadd, 1) := by decide +kernel
theorem dX11_modulo_258 : decode cX11_modulo 258 = .ok (.laload, 1) := by decide +kernel
theorem dX11_modulo_259 : decode cX11_modulo 259 = .ok (.lastore, 1) := by decide +kernel
theorem dX11_modulo_260 : decode cX11_modulo 260 = .ok (.aload_n 0, 1) := by decide +kernel
theorem dX11_modulo_261 : decode cX11_modulo 261 = .ok (.getfield 33, 3) := by decide +kernel
theorem dX11_modulo_264 : decode cX11_modulo 264 = .ok (.bipush 6, 2) := by decide +kernel
theorem dX11_modulo_266 : decode cX11_modulo 266 = .ok (.iload 4, 2) := by decide +kernel
theorem dX11_modulo_268 : decode cX11_modulo 268 = .ok (.imul, 1) := by decide +kernel
theorem dX11_modulo_269 : decode cX11_modulo 269 = .ok (.iload 6, 2) := by decide +kernel
theorem dX11_modulo_271 : decode cX11_modulo 271 = .ok (.iadd, 1) := by decide +kernel
theorem dX11_modulo_272 : decode cX11_modulo 272 = .ok (.lload 7, 2) := by decide +kernel
theorem dX11_modulo_274 : decode cX11_modulo 274 = .ok (.lastore, 1) := by decide +kernel
theorem dX11_modulo_275 : decode cX11_modulo 275 = .ok (.iinc 6 1, 3) := by decide +kernel
theorem dX11_modulo_278 : decode cX11_modulo 278 = .ok (.goto (-68), 3) := by decide +kernel
theorem dX11_modulo_281 : decode cX11_modulo 281 = .ok (.aload_n 0, 1) := by decide +kernel
theorem dX11_modulo_282 : decode cX11_modulo 282 = .ok (.getfield 33, 3) := by decide +kernel
theorem dX11_modulo_285 : decode cX11_modulo 285 = .ok (.bipush 6, 2) := by decide +kernel
theorem dX11_modulo_287 : decode cX11_modulo 287 = .ok (.iload 4, 2) := by decide +kernel
theorem dX11_modulo_289 : decode cX11_modulo 289 = .ok (.imul, 1) := by decide +kernel
theorem dX11_modulo_290 : decode cX11_modulo 290 = .ok (.iload 4, 2) := by decide +kernel
theorem dX11_modulo_292 : decode cX11_modulo 292 = .ok (.iadd, 1) := by decide +kernel
theorem dX11_modulo_293 : decode cX11_modulo 293 = .ok (.laload, 1) := by decide +kernel
theorem dX11_modulo_294 : decode cX11_modulo 294 = .ok (.lstore 6, 2) := by decide +kernel
theorem dX11_modulo_296 : decode cX11_modulo 296 = .ok (.lload_n 2, 1) := by decide +kernel
theorem dX11_modulo_297 : decode cX11_modulo 297 = .ok (.lload 6, 2) := by decide +kernel
theorem dX11_modulo_299 : decode cX11_modulo 299 = .ok (.lmul, 1) := by decide +kernel
theorem dX11_modulo_300 : decode cX11_modulo 300 = .ok (.iload_n 1, 1) := by decide +kernel
theorem dX11_modulo_301 : decode cX11_modulo 301 = .ok (.i2l, 1) := by decide +kernel
theorem dX11_modulo_302 : decode cX11_modulo 302 = .ok (.lrem, 1) := by decide +kernel
theorem dX11_modulo_303 : decode cX11_modulo 303 = .ok (.lstore_n 2, 1) := by decide +kernel
theorem dX11_modulo_304 : decode cX11_modulo 304 = .ok (.lload 6, 2) := by decide +kernel
theorem dX11_modulo_306 : decode cX11_modulo 306 = .ok (.iload_n 1, 1) := by decide +kernel
theorem dX11_modulo_307 : decode cX11_modulo 307 = .ok (.iconst 2, 1) := by decide +kernel
theorem dX11_modulo_308 : decode cX11_modulo 308 = .ok (.isub, 1) := by decide +kernel
theorem dX11_modulo_309 : decode cX11_modulo 309 = .ok (.iload_n 1, 1) := by decide +kernel
theorem dX11_modulo_310 : decode cX11_modulo 310 = .ok (.invokestatic 181, 3) := by decide +kernel
theorem dX11_modulo_313 : decode cX11_modulo 313 = .ok (.lstore 8, 2) := by decide +kernel
theorem dX11_modulo_315 : decode cX11_modulo 315 = .ok (.iload 4, 2) := by decide +kernel
theorem dX11_modulo_317 : decode cX11_modulo 317 = .ok (.iconst 1, 1) := by decide +kernel
theorem dX11_modulo_318 : decode cX11_modulo 318 = .ok (.iadd, 1) := by decide +kernel
theorem dX11_modulo_319 : decode cX11_modulo 319 = .ok (.istore 10, 2) := by decide +kernel
theorem dX11_modulo_321 : decode cX11_modulo 321 = .ok (.iload 10, 2) := by decide +kernel
theorem dX11_modulo_323 : decode cX11_modulo 323 = .ok (.aload_n 0, 1) := by decide +kernel
theorem dX11_modulo_324 : decode cX11_modulo 324 = .ok (.getfield 26, 3) := by decide +kernel
theorem dX11_modulo_327 : decode cX11_modulo 327 = .ok (.if_icmp .ge 98, 3) := by decide +kernel
theorem dX11_modulo_330 : decode cX11_modulo 330 = .ok (.aload_n 0, 1) := by decide +kernel
theorem dX11_modulo_331 : decode cX11_modulo 331 = .ok (.getfield 33, 3) := by decide +kernel
theorem dX11_modulo_334 : decode cX11_modulo 334 = .ok (.bipush 6, 2) := by decide +kernel
theorem dX11_modulo_336 : decode cX11_modulo 336 = .ok (.iload 10, 2) := by decide +kernel
theorem dX11_modulo_338 : decode cX11_modulo 338 = .ok (.imul, 1) := by decide +kernel
theorem dX11_modulo_339 : decode cX11_modulo 339 = .ok (.iload 4, 2) := by decide +kernel
theorem dX11_modulo_341 : decode cX11_modulo 341 = .ok (.iadd, 1) := by decide +kernel
theorem dX11_modulo_342 : decode cX11_modulo 342 = .ok (.laload, 1) := by decide +kernel
theorem dX11_modulo_343 : decode cX11_modulo 343 = .ok (.lload 8, 2) := by decide +kernel
theorem dX11_modulo_345 : decode cX11_modulo 345 = .ok (.lmul, 1) := by decide +kernel
theorem dX11_modulo_346 : decode cX11_modulo 346 = .ok (.iload_n 1, 1) := by decide +kernel
theorem dX11_modulo_347 : decode cX11_modulo 347 = .ok (.i2l, 1) := by decide +kernel
theorem dX11_modulo_348 : decode cX11_modulo 348 = .ok (.lrem, 1) := by decide +kernel
theorem dX11_modulo_349 : decode cX11_modulo 349 = .ok (.lstore 11, 2) := by decide +kernel
theorem dX11_modulo_351 : decode cX11_modulo 351 = .ok (.iload 4, 2) := by decide +kernel
theorem dX11_modulo_353 : decode cX11_modulo 353 = .ok (.istore 13, 2) := by decide +kernel
theorem dX11_modulo_355 : decode cX11_modulo 355 = .ok (.iload 13, 2) := by decide +kernel
theorem dX11_modulo_357 : decode cX11_modulo 357 = .ok (.aload_n 0, 1) := by decide +kernel
theorem dX11_modulo_358 : decode cX11_modulo 358 = .ok (.getfield 26, 3) := by decide +kernel
theorem dX11_modulo_361 : decode cX11_modulo 361 = .ok (.if_icmp .ge 58, 3) := by decide +kernel
theorem dX11_modulo_364 : decode cX11_modulo 364 = .ok (.aload_n 0, 1) := by decide +kernel
theorem dX11_modulo_365 : decode cX11_modulo 365 = .ok (.getfield 33, 3) := by decide +kernel
theorem dX11_modulo_368 : decode cX11_modulo 368 = .ok (.bipush 6, 2) := by decide +kernel
theorem dX11_modulo_370 : decode cX11_modulo 370 = .ok (.iload 10, 2) := by decide +kernel
theorem dX11_modulo_372 : decode cX11_modulo 372 = .ok (.imul, 1) := by decide +kernel
theorem dX11_modulo_373 : decode cX11_modulo 373 = .ok (.iload 13, 2) := by decide +kernel
theorem dX11_modulo_375 : decode cX11_modulo 375 = .ok (.iadd, 1) := by decide +kernel
theorem dX11_modulo_376 : decode cX11_modulo 376 = .ok (.aload_n 0, 1) := by decide +kernel
theorem dX11_modulo_377 : decode cX11_modulo 377 = .ok (.getfield 33, 3) := by decide +kernel
theorem dX11_modulo_380 : decode cX11_modulo 380 = .ok (.bipush 6, 2) := by decide +kernel
theorem dX11_modulo_382 : decode cX11_modulo 382 = .ok (.iload 10, 2) := by decide +kernel
theorem dX11_modulo_384 : decode cX11_modulo 384 = .ok (.imul, 1) := by decide +kernel
theorem dX11_modulo_385 : decode cX11_modulo 385 = .ok (.iload 13, 2) := by decide +kernel
theorem dX11_modulo_387 : decode cX11_modulo 387 = .ok (.iadd, 1) := by decide +kernel
theorem dX11_modulo_388 : decode cX11_modulo 388 = .ok (.laload, 1) := by decide +kernel
theorem dX11_modulo_389 : decode cX11_modulo 389 = .ok (.iload_n 1, 1) := by decide +kernel
theorem dX11_modulo_390 : decode cX11_modulo 390 = .ok (.i2l, 1) := by decide +kernel
theorem dX11_modulo_391 : decode cX11_modulo 391 = .ok (.lload 11, 2) := by decide +kernel
theorem dX11_modulo_393 : decode cX11_modulo 393 = .ok (.lsub, 1) := by decide +kernel
theorem dX11_modulo_394 : decode cX11_modulo 394 = .ok (.aload_n 0, 1) := by decide +kernel
theorem dX11_modulo_395 : decode cX11_modulo 395 = .ok (.getfield 33, 3) := by decide +kernel
theorem dX11_modulo_398 : decode cX11_modulo 398 = .ok (.bipush 6, 2) := by decide +kernel
theorem dX11_modulo_400 : decode cX11_modulo 400 = .ok (.iload 4, 2) := by decide +kernel
theorem dX11_modulo_402 : decode cX11_modulo 402 = .ok (.imul, 1) := by decide +kernel
theorem dX11_modulo_403 : decode cX11_modulo 403 = .ok (.iload 13, 2) := by decide +kernel
theorem dX11_modulo_405 : decode cX11_modulo 405 = .ok (.iadd, 1) := by decide +kernel
theorem dX11_modulo_406 : decode cX11_modulo 406 = .ok (.laload, 1) := by decide +kernel
theorem dX11_modulo_407 : decode cX11_modulo 407 = .ok (.lmul, 1) := by decide +kernel
theorem dX11_modulo_408 : decode cX11_modulo 408 = .ok (.ladd, 1) := by decide +kernel
theorem dX11_modulo_409 : decode cX11_modulo 409 = .ok (.iload_n 1, 1) := by decide +kernel
theorem dX11_modulo_410 : decode cX11_modulo 410 = .ok (.i2l, 1) := by decide +kernel
theorem dX11_modulo_411 : decode cX11_modulo 411 = .ok (.lrem, 1) := by decide +kernel
theorem dX11_modulo_412 : decode cX11_modulo 412 = .ok (.lastore, 1) := by decide +kernel
theorem dX11_modulo_413 : decode cX11_modulo 413 = .ok (.iinc 13 1, 3) := by decide +kernel
theorem dX11_modulo_416 : decode cX11_modulo 416 = .ok (.goto (-61), 3) := by decide +kernel
theorem dX11_modulo_419 : decode cX11_modulo 419 = .ok (.iinc 10 1, 3) := by decide +kernel
theorem dX11_modulo_422 : decode cX11_modulo 422 = .ok (.goto (-101), 3) := by decide +kernel
theorem dX11_modulo_425 : decode cX11_modulo 425 = .ok (.iinc 4 1, 3) := by decide +kernel
theorem dX11_modulo_428 : decode cX11_modulo 428 = .ok (.goto (-290), 3) := by decide +kernel
theorem dX11_modulo_431 : decode cX11_modulo 431 = .ok (.lload_n 2, 1) := by decide +kernel
theorem dX11_modulo_432 : decode cX11_modulo 432 = .ok (.iload_n 1, 1) := by decide +kernel
theorem dX11_modulo_433 : decode cX11_modulo 433 = .ok (.i2l, 1) := by decide +kernel
theorem dX11_modulo_434 : decode cX11_modulo 434 = .ok (.lrem, 1) := by decide +kernel
theorem dX11_modulo_435 : decode cX11_modulo 435 = .ok (.l2i, 1) := by decide +kernel
theorem dX11_modulo_436 : decode cX11_modulo 436 = .ok (.ireturn, 1) := by decide +kernel
