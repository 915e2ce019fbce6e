theorem dX9_init_0 : decode cX9_init 0 = .ok (.aload_n 0, 1) := by decide +kernel
theorem dX9_init_1 : decode cX9_init 1 = .ok (.invokespecial 3, 3) := by decide +kernel
theorem dX9_init_4 : decode cX9_init 4 = .ok (.aload_n 0, 1) := by decide +kernel
theorem dX9_init_5 : decode cX9_init 5 = .ok (.iload_n 1, 1) := by decide +kernel
theorem dX9_init_6 : decode cX9_init 6 = .ok (.iconst 1, 1) := by decide +kernel
theorem dX9_init_7 : decode cX9_init 7 = .ok (.if_icmp .ge 7, 3) := by decide +kernel
theorem dX9_init_10 : decode cX9_init 10 = .ok (.iconst 1, 1) := by decide +kernel
theorem dX9_init_11 : decode cX9_init 11 = .ok (.goto 4, 3) := by decide +kernel
theorem dX9_init_14 : decode cX9_init 14 = .ok (.iload_n 1, 1) := by decide +kernel
theorem dX9_init_15 : decode cX9_init 15 = .ok (.newarray .int, 2) := by decide +kernel
theorem dX9_init_17 : decode cX9_init 17 = .ok (.putfield 9, 3) := by decide +kernel
theorem dX9_init_20 : decode cX9_init 20 = .ok (.aload_n 0, 1) := by decide +kernel
theorem dX9_init_21 : decode cX9_init 21 = .ok (.iconst 0, 1) := by decide +kernel
theorem dX9_init_22 : decode cX9_init 22 = .ok (.putfield 15, 3) := by decide +kernel
theorem dX9_init_25 : decode cX9_init 25 = .ok (.return_, 1) := by decide +kernel
theorem dX9_clear_0 : decode cX9_clear 0 = .ok (.aload_n 0, 1) := by decide +kernel
theorem dX9_clear_1 : decode cX9_clear 1 = .ok (.iconst 0, 1) := by decide +kernel
theorem dX9_clear_2 : decode cX9_clear 2 = .ok (.putfield 15, 3) := by decide +kernel
theorem dX9_clear_5 : decode cX9_clear 5 = .ok (.return_, 1) := by decide +kernel
theorem dX9_assign_0 : decode cX9_assign 0 = .ok (.aload_n 0, 1) := by decide +kernel
theorem dX9_assign_1 : decode cX9_assign 1 = .ok (.iconst 0, 1) := by decide +kernel
theorem dX9_assign_2 : decode cX9_assign 2 = .ok (.putfield 15, 3) := by decide +kernel
theorem dX9_assign_5 : decode cX9_assign 5 = .ok (.lload_n 1, 1) := by decide +kernel
theorem dX9_assign_6 : decode cX9_assign 6 = .ok (.lstore_n 3, 1) := by decide +kernel
theorem dX9_assign_7 : decode cX9_assign 7 = .ok (.lload_n 3, 1) := by decide +kernel
theorem dX9_assign_8 : decode cX9_assign 8 = .ok (.lconst 0, 1) := by decide +kernel
theorem dX9_assign_9 : decode cX9_assign 9 = .ok (.lcmp, 1) := by decide +kernel
theorem dX9_assign_10 : decode cX9_assign 10 = .ok (.ifCond .le 48, 3) := by decide +kernel
theorem dX9_assign_13 : decode cX9_assign 13 = .ok (.aload_n 0, 1) := by decide +kernel
theorem dX9_assign_14 : decode cX9_assign 14 = .ok (.getfield 15, 3) := by decide +kernel
theorem dX9_assign_17 : decode cX9_assign 17 = .ok (.aload_n 0, 1) := by decide +kernel
theorem dX9_assign_18 : decode cX9_assign 18 = .ok (.getfield 9, 3) := by decide +kernel
theorem dX9_assign_21 : decode cX9_assign 21 = .ok (.arraylength, 1) := by decide +kernel
theorem dX9_assign_22 : decode cX9_assign 22 = .ok (.if_icmp .ge 36, 3) := by decide +kernel
theorem dX9_assign_25 : decode cX9_assign 25 = .ok (.aload_n 0, 1) := by decide +kernel
theorem dX9_assign_26 : decode cX9_assign 26 = .ok (.getfield 9, 3) := by decide +kernel
theorem dX9_assign_29 : decode cX9_assign 29 = .ok (.aload_n 0, 1) := by decide +kernel
theorem dX9_assign_30 : decode cX9_assign 30 = .ok (.getfield 15, 3) := by decide +kernel
theorem dX9_assign_33 : decode cX9_assign 33 = .ok (.lload_n 3, 1) := by decide +kernel
theorem dX9_assign_34 : decode cX9_assign 34 = .ok (.ldc2_w 19, 3) := by decide +kernel
theorem dX9_assign_37 : decode cX9_assign 37 = .ok (.land, 1) := by decide +kernel
theorem dX9_assign_38 : decode cX9_assign 38 = .ok (.l2i, 1) := by decide +kernel
theorem dX9_assign_39 : decode cX9_assign 39 = .ok (.iastore, 1) := by decide +kernel
theorem dX9_assign_40 : decode cX9_assign 40 = .ok (.aload_n 0, 1) := by decide +kernel
theorem dX9_assign_41 : decode cX9_assign 41 = .ok (.dup, 1) := by decide +kernel
theorem dX9_assign_42 : decode cX9_assign 42 = .ok (.getfield 15, 3) := by decide +kernel
theorem dX9_assign_45 : decode cX9_assign 45 = .ok (.iconst 1, 1) := by decide +kernel
theorem dX9_assign_46 : decode cX9_assign 46 = .ok (.iadd, 1) := by decide +kernel
theorem dX9_assign_47 : decode cX9_assign 47 = .ok (.putfield 15, 3) := by decide +kernel
theorem dX9_assign_50 : decode cX9_assign 50 = .ok (.lload_n 3, 1) := by decide +kernel
theorem dX9_assign_51 : decode cX9_assign 51 = .ok (.bipush 31, 2) := by decide +kernel
theorem dX9_assign_53 : decode cX9_assign 53 = .ok (.lshr, 1) := by decide +kernel
theorem dX9_assign_54 : decode cX9_assign 54 = .ok (.lstore_n 3, 1) := by decide +kernel
theorem dX9_assign_55 : decode cX9_assign 55 = .ok (.goto (-48), 3) := by decide +kernel
theorem dX9_assign_58 : decode cX9_assign 58 = .ok (.return_, 1) := by decide +kernel
theorem dX9_copyFrom_0 : decode cX9_copyFrom 0 = .ok (.aload_n 1, 1) := by decide +kernel
theorem dX9_copyFrom_1 : decode cX9_copyFrom 1 = .ok (.getfield 15, 3) := by decide +kernel
theorem dX9_copyFrom_4 : decode cX9_copyFrom 4 = .ok (.aload_n 0, 1) := by decide +kernel
theorem dX9_copyFrom_5 : decode cX9_copyFrom 5 = .ok (.getfield 9, 3) := by decide +kernel
theorem dX9_copyFrom_8 : decode cX9_copyFrom 8 = .ok (.arraylength, 1) := by decide +kernel
theorem dX9_copyFrom_9 : decode cX9_copyFrom 9 = .ok (.if_icmp .le 4, 3) := by decide +kernel
theorem dX9_copyFrom_12 : decode cX9_copyFrom 12 = .ok (.return_, 1) := by decide +kernel
theorem dX9_copyFrom_13 : decode cX9_copyFrom 13 = .ok (.aload_n 1, 1) := by decide +kernel
theorem dX9_copyFrom_14 : decode cX9_copyFrom 14 = .ok (.getfield 9, 3) := by decide +kernel
theorem dX9_copyFrom_17 : decode cX9_copyFrom 17 = .ok (.iconst 0, 1) := by decide +kernel
theorem dX9_copyFrom_18 : decode cX9_copyFrom 18 = .ok (.aload_n 0, 1) := by decide +kernel
theorem dX9_copyFrom_19 : decode cX9_copyFrom 19 = .ok (.getfield 9, 3) := by decide +kernel
theorem dX9_copyFrom_22 : decode cX9_copyFrom 22 = .ok (.iconst 0, 1) := by decide +kernel
theorem dX9_copyFrom_23 : decode cX9_copyFrom 23 = .ok (.aload_n 1, 1) := by decide +kernel
theorem dX9_copyFrom_24 : decode cX9_copyFrom 24 = .ok (.getfield 15, 3) := by decide +kernel
theorem dX9_copyFrom_27 : decode cX9_copyFrom 27 = .ok (.invokestatic 21, 3) := by decide +kernel
theorem dX9_copyFrom_30 : decode cX9_copyFrom 30 = .ok (.aload_n 0, 1) := by decide +kernel
theorem dX9_copyFrom_31 : decode cX9_copyFrom 31 = .ok (.aload_n 1, 1) := by decide +kernel
theorem dX9_copyFrom_32 : decode cX9_copyFrom 32 = .ok (.getfield 15, 3) := by decide +kernel
theorem dX9_copyFrom_35 : decode cX9_copyFrom 35 = .ok (.putfield 15, 3) := by decide +kernel
theorem dX9_copyFrom_38 : decode cX9_copyFrom 38 = .ok (.return_, 1) := by decide +kernel
theorem dX9_wordAt_0 : decode cX9_wordAt 0 = .ok (.iload_n 1, 1) := by decide +kernel
theorem dX9_wordAt_1 : decode cX9_wordAt 1 = .ok (.ifCond .lt 20, 3) := by decide +kernel
theorem dX9_wordAt_4 : decode cX9_wordAt 4 = .ok (.iload_n 1, 1) := by decide +kernel
theorem dX9_wordAt_5 : decode cX9_wordAt 5 = .ok (.aload_n 0, 1) := by decide +kernel
theorem dX9_wordAt_6 : decode cX9_wordAt 6 = .ok (.getfield 15, 3) := by decide +kernel
theorem dX9_wordAt_9 : decode cX9_wordAt 9 = .ok (.if_icmp .ge 12, 3) := by decide +kernel
theorem dX9_wordAt_12 : decode cX9_wordAt 12 = .ok (.aload_n 0, 1) := by decide +kernel
theorem dX9_wordAt_13 : decode cX9_wordAt 13 = .ok (.getfield 9, 3) := by decide +kernel
theorem dX9_wordAt_16 : decode cX9_wordAt 16 = .ok (.iload_n 1, 1) := by decide +kernel
theorem dX9_wordAt_17 : decode cX9_wordAt 17 = .ok (.iaload, 1) := by decide +kernel
theorem dX9_wordAt_18 : decode cX9_wordAt 18 = .ok (.goto 4, 3) := by decide +kernel
theorem dX9_wordAt_21 : decode cX9_wordAt 21 = .ok (.iconst 0, 1) := by decide +kernel
theorem dX9_wordAt_22 : decode cX9_wordAt 22 = .ok (.ireturn, 1) := by decide +kernel
theorem dX9_asLong_0 : decode cX9_asLong 0 = .ok (.aload_n 0, 1) := by decide +kernel
theorem dX9_asLong_1 : decode cX9_asLong 1 = .ok (.iconst 1, 1) := by decide +kernel
theorem dX9_asLong_2 : decode cX9_asLong 2 = .ok (.invokevirtual 27, 3) := by decide +kernel
theorem dX9_asLong_5 : decode cX9_asLong 5 = .ok (.i2l, 1) := by decide +kernel
theorem dX9_asLong_6 : decode cX9_asLong 6 = .ok (.bipush 31, 2) := by decide +kernel
theorem dX9_asLong_8 : decode cX9_asLong 8 = .ok (.lshl, 1) := by decide +kernel
theorem dX9_asLong_9 : decode cX9_asLong 9 = .ok (.aload_n 0, 1) := by decide +kernel
theorem dX9_asLong_10 : decode cX9_asLong 10 = .ok (.iconst 0, 1) := by decide +kernel
theorem dX9_asLong_11 : decode cX9_asLong 11 = .ok (.invokevirtual 27, 3) := by decide +kernel
theorem dX9_asLong_14 : decode cX9_asLong 14 = .ok (.i2l, 1) := by decide +kernel
theorem dX9_asLong_15 : decode cX9_asLong 15 = .ok (.lor, 1) := by decide +kernel
theorem dX9_asLong_16 : decode cX9_asLong 16 = .ok (.lreturn, 1) := by decide +kernel
theorem dX9_isOne_0 : decode cX9_isOne 0 = .ok (.aload_n 0, 1) := by decide +kernel
theorem dX9_isOne_1 : decode cX9_isOne 1 = .ok (.getfield 15, 3) := by decide +kernel
theorem dX9_isOne_4 : decode cX9_isOne 4 = .ok (.iconst 1, 1) := by decide +kernel
theorem dX9_isOne_5 : decode cX9_isOne 5 = .ok (.if_icmp .ne 17, 3) := by decide +kernel
theorem dX9_isOne_8 : decode cX9_isOne 8 = .ok (.aload_n 0, 1) := by decide +kernel
theorem dX9_isOne_9 : decode cX9_isOne 9 = .ok (.getfield 9, 3) := by decide +kernel
theorem dX9_isOne_12 : decode cX9_isOne 12 = .ok (.iconst 0, 1) := by decide +kernel
theorem dX9_isOne_13 : decode cX9_isOne 13 = .ok (.iaload, 1) := by decide +kernel
theorem dX9_isOne_14 : decode cX9_isOne 14 = .ok (.iconst 1, 1) := by decide +kernel
theorem dX9_isOne_15 : decode cX9_isOne 15 = .ok (.if_icmp .ne 7, 3) := by decide +kernel
theorem dX9_isOne_18 : decode cX9_isOne 18 = .ok (.iconst 1, 1) := by decide +kernel
theorem dX9_isOne_19 : decode cX9_isOne 19 = .ok (.goto 4, 3) := by decide +kernel
theorem dX9_isOne_22 : decode cX9_isOne 22 = .ok (.iconst 0, 1) := by decide +kernel
theorem dX9_isOne_23 : decode cX9_isOne 23 = .ok (.ireturn, 1) := by decide +kernel
theorem dX9_trim_0 : decode cX9_trim 0 = .ok (.iload_n 1, 1) := by decide +kernel
theorem dX9_trim_1 : decode cX9_trim 1 = .ok (.aload_n 0, 1) := by decide +kernel
theorem dX9_trim_2 : decode cX9_trim 2 = .ok (.getfield 9, 3) := by decide +kernel
theorem dX9_trim_5 : decode cX9_trim 5 = .ok (.arraylength, 1) := by decide +kernel
theorem dX9_trim_6 : decode cX9_trim 6 = .ok (.if_icmp .ge 7, 3) := by decide +kernel
theorem dX9_trim_9 : decode cX9_trim 9 = .ok (.iload_n 1, 1) := by decide +kernel
theorem dX9_trim_10 : decode cX9_trim 10 = .ok (.goto 8, 3) := by decide +kernel
theorem dX9_trim_13 : decode cX9_trim 13 = .ok (.aload_n 0, 1) := by decide +kernel
theorem dX9_trim_14 : decode cX9_trim 14 = .ok (.getfield 9, 3) := by decide +kernel
theorem dX9_trim_17 : decode cX9_trim 17 = .ok (.arraylength, 1) := by decide +kernel
theorem dX9_trim_18 : decode cX9_trim 18 = .ok (.istore_n 2, 1) := by decide +kernel
theorem dX9_trim_19 : decode cX9_trim 19 = .ok (.iload_n 2, 1) := by decide +kernel
theorem dX9_trim_20 : decode cX9_trim 20 = .ok (.ifCond .le 20, 3) := by decide +kernel
theorem dX9_trim_23 : decode cX9_trim 23 = .ok (.aload_n 0, 1) := by decide +kernel
theorem dX9_trim_24 : decode cX9_trim 24 = .ok (.getfield 9, 3) := by decide +kernel
theorem dX9_trim_27 : decode cX9_trim 27 = .ok (.iload_n 2, 1) := by decide +kernel
theorem dX9_trim_28 : decode cX9_trim 28 = .ok (.iconst 1, 1) := by decide +kernel
theorem dX9_trim_29 : decode cX9_trim 29 = .ok (.isub, 1) := by decide +kernel
theorem dX9_trim_30 : decode cX9_trim 30 = .ok (.iaload, 1) := by decide +kernel
theorem dX9_trim_31 : decode cX9_trim 31 = .ok (.ifCond .ne 9, 3) := by decide +kernel
theorem dX9_trim_34 : decode cX9_trim 34 = .ok (.iinc 2 (-1), 3) := by decide +kernel
theorem dX9_trim_37 : decode cX9_trim 37 = .ok (.goto (-18), 3) := by decide +kernel
theorem dX9_trim_40 : decode cX9_trim 40 = .ok (.aload_n 0, 1) := by decide +kernel
theorem dX9_trim_41 : decode cX9_trim 41 = .ok (.iload_n 2, 1) := by decide +kernel
theorem dX9_trim_42 : decode cX9_trim 42 = .ok (.putfield 15, 3) := by decide +kernel
theorem dX9_trim_45 : decode cX9_trim 45 = .ok (.return_, 1) := by decide +kernel
theorem dX9_limbCount_0 : decode cX9_limbCount 0 = .ok (.aload_n 0, 1) := by decide +kernel
theorem dX9_limbCount_1 : decode cX9_limbCount 1 = .ok (.getfield 15, 3) := by decide +kernel
theorem dX9_limbCount_4 : decode cX9_limbCount 4 = .ok (.ifCond .ne 5, 3) := by decide +kernel
theorem dX9_limbCount_7 : decode cX9_limbCount 7 = .ok (.iconst 0, 1) := by decide +kernel
theorem dX9_limbCount_8 : decode cX9_limbCount 8 = .ok (.ireturn, 1) := by decide +kernel
theorem dX9_limbCount_9 : decode cX9_limbCount 9 = .ok (.aload_n 0, 1) := by decide +kernel
theorem dX9_limbCount_10 : decode cX9_limbCount 10 = .ok (.getfield 15, 3) := by decide +kernel
theorem dX9_limbCount_13 : decode cX9_limbCount 13 = .ok (.bipush 31, 2) := by decide +kernel
theorem dX9_limbCount_15 : decode cX9_limbCount 15 = .ok (.imul, 1) := by decide +kernel
theorem dX9_limbCount_16 : decode cX9_limbCount 16 = .ok (.aload_n 0, 1) := by decide +kernel
theorem dX9_limbCount_17 : decode cX9_limbCount 17 = .ok (.getfield 9, 3) := by decide +kernel
theorem dX9_limbCount_20 : decode cX9_limbCount 20 = .ok (.aload_n 0, 1) := by decide +kernel
theorem dX9_limbCount_21 : decode cX9_limbCount 21 = .ok (.getfield 15, 3) := by decide +kernel
theorem dX9_limbCount_24 : decode cX9_limbCount 24 = .ok (.iconst 1, 1) := by decide +kernel
theorem dX9_limbCount_25 : decode cX9_limbCount 25 = .ok (.isub, 1) := by decide +kernel
theorem dX9_limbCount_26 : decode cX9_limbCount 26 = .ok (.iaload, 1) := by decide +kernel
theorem dX9_limbCount_27 : decode cX9_limbCount 27 = .ok (.invokestatic 31, 3) := by decide +kernel
theorem dX9_limbCount_30 : decode cX9_limbCount 30 = .ok (.isub, 1) := by decide +kernel
theorem dX9_limbCount_31 : decode cX9_limbCount 31 = .ok (.istore_n 1, 1) := by decide +kernel
theorem dX9_limbCount_32 : decode cX9_limbCount 32 = .ok (.iload_n 1, 1) := by decide +kernel
theorem dX9_limbCount_33 : decode cX9_limbCount 33 = .ok (.bipush 16, 2) := by decide +kernel
theorem dX9_limbCount_35 : decode cX9_limbCount 35 = .ok (.iadd, 1) := by decide +kernel
theorem dX9_limbCount_36 : decode cX9_limbCount 36 = .ok (.iconst 1, 1) := by decide +kernel
theorem dX9_limbCount_37 : decode cX9_limbCount 37 = .ok (.isub, 1) := by decide +kernel
theorem dX9_limbCount_38 : decode cX9_limbCount 38 = .ok (.bipush 16, 2) := by decide +kernel
theorem dX9_limbCount_40 : decode cX9_limbCount 40 = .ok (.idiv, 1) := by decide +kernel
theorem dX9_limbCount_41 : decode cX9_limbCount 41 = .ok (.ireturn, 1) := by decide +kernel
theorem dX9_limb_0 : decode cX9_limb 0 = .ok (.iload_n 1, 1) := by decide +kernel
theorem dX9_limb_1 : decode cX9_limb 1 = .ok (.ifCond .lt 11, 3) := by decide +kernel
theorem dX9_limb_4 : decode cX9_limb 4 = .ok (.iload_n 1, 1) := by decide +kernel
theorem dX9_limb_5 : decode cX9_limb 5 = .ok (.aload_n 0, 1) := by decide +kernel
theorem dX9_limb_6 : decode cX9_limb 6 = .ok (.invokevirtual 34, 3) := by decide +kernel
theorem dX9_limb_9 : decode cX9_limb 9 = .ok (.if_icmp .lt 5, 3) := by decide +kernel
theorem dX9_limb_12 : decode cX9_limb 12 = .ok (.iconst (-1), 1) := by decide +kernel
theorem dX9_limb_13 : decode cX9_limb 13 = .ok (.ireturn, 1) := by decide +kernel
theorem dX9_limb_14 : decode cX9_limb 14 = .ok (.iload_n 1, 1) := by decide +kernel
theorem dX9_limb_15 : decode cX9_limb 15 = .ok (.bipush 16, 2) := by decide +kernel
theorem dX9_limb_17 : decode cX9_limb 17 = .ok (.imul, 1) := by decide +kernel
theorem dX9_limb_18 : decode cX9_limb 18 = .ok (.istore_n 2, 1) := by decide +kernel
theorem dX9_limb_19 : decode cX9_limb 19 = .ok (.iload_n 2, 1) := by decide +kernel
theorem dX9_limb_20 : decode cX9_limb 20 = .ok (.bipush 31, 2) := by decide +kernel
theorem dX9_limb_22 : decode cX9_limb 22 = .ok (.idiv, 1) := by decide +kernel
theorem dX9_limb_23 : decode cX9_limb 23 = .ok (.istore_n 3, 1) := by decide +kernel
theorem dX9_limb_24 : decode cX9_limb 24 = .ok (.aload_n 0, 1) := by decide +kernel
theorem dX9_limb_25 : decode cX9_limb 25 = .ok (.iload_n 3, 1) := by decide +kernel
theorem dX9_limb_26 : decode cX9_limb 26 = .ok (.iconst 1, 1) := by decide +kernel
theorem dX9_limb_27 : decode cX9_limb 27 = .ok (.iadd, 1) := by decide +kernel
theorem dX9_limb_28 : decode cX9_limb 28 = .ok (.invokevirtual 27, 3) := by decide +kernel
theorem dX9_limb_31 : decode cX9_limb 31 = .ok (.i2l, 1) := by decide +kernel
theorem dX9_limb_32 : decode cX9_limb 32 = .ok (.bipush 31, 2) := by decide +kernel
theorem dX9_limb_34 : decode cX9_limb 34 = .ok (.lshl, 1) := by decide +kernel
theorem dX9_limb_35 : decode cX9_limb 35 = .ok (.aload_n 0, 1) := by decide +kernel
theorem dX9_limb_36 : decode cX9_limb 36 = .ok (.iload_n 3, 1) := by decide +kernel
theorem dX9_limb_37 : decode cX9_limb 37 = .ok (.invokevirtual 27, 3) := by decide +kernel
theorem dX9_limb_40 : decode cX9_limb 40 = .ok (.i2l, 1) := by decide +kernel
theorem dX9_limb_41 : decode cX9_limb 41 = .ok (.lor, 1) := by decide +kernel
theorem dX9_limb_42 : decode cX9_limb 42 = .ok (.lstore 4, 2) := by decide +kernel
theorem dX9_limb_44 : decode cX9_limb 44 = .ok (.lload 4, 2) := by decide +kernel
theorem dX9_limb_46 : decode cX9_limb 46 = .ok (.iload_n 2, 1) := by decide +kernel
theorem dX9_limb_47 : decode cX9_limb 47 = .ok (.bipush 31, 2) := by decide +kernel
theorem dX9_limb_49 : decode cX9_limb 49 = .ok (.irem, 1) := by decide +kernel
theorem dX9_limb_50 : decode cX9_limb 50 = .ok (.lushr, 1) := by decide +kernel
theorem dX9_limb_51 : decode cX9_limb 51 = .ok (.l2i, 1) := by decide +kernel
theorem dX9_limb_52 : decode cX9_limb 52 = .ok (.ldc 38, 2) := by decide +kernel
theorem dX9_limb_54 : decode cX9_limb 54 = .ok (.iand, 1) := by decide +kernel
theorem dX9_limb_55 : decode cX9_limb 55 = .ok (.ireturn, 1) := by decide +kernel
theorem dX9_against_0 : decode cX9_against 0 = .ok (.aload_n 0, 1) := by decide +kernel
theorem dX9_against_1 : decode cX9_against 1 = .ok (.getfield 15, 3) := by decide +kernel
theorem dX9_against_4 : decode cX9_against 4 = .ok (.aload_n 1, 1) := by decide +kernel
theorem dX9_against_5 : decode cX9_against 5 = .ok (.getfield 15, 3) := by decide +kernel
theorem dX9_against_8 : decode cX9_against 8 = .ok (.if_icmp .eq 13, 3) := by decide +kernel
theorem dX9_against_11 : decode cX9_against 11 = .ok (.aload_n 0, 1) := by decide +kernel
theorem dX9_against_12 : decode cX9_against 12 = .ok (.getfield 15, 3) := by decide +kernel
theorem dX9_against_15 : decode cX9_against 15 = .ok (.aload_n 1, 1) := by decide +kernel
theorem dX9_against_16 : decode cX9_against 16 = .ok (.getfield 15, 3) := by decide +kernel
theorem dX9_against_19 : decode cX9_against 19 = .ok (.isub, 1) := by decide +kernel
theorem dX9_against_20 : decode cX9_against 20 = .ok (.ireturn, 1) := by decide +kernel
theorem dX9_against_21 : decode cX9_against 21 = .ok (.aload_n 0, 1) := by decide +kernel
theorem dX9_against_22 : decode cX9_against 22 = .ok (.getfield 15, 3) := by decide +kernel
theorem dX9_against_25 : decode cX9_against 25 = .ok (.iconst 1, 1) := by decide +kernel
theorem dX9_against_26 : decode cX9_against 26 = .ok (.isub, 1) := by decide +kernel
theorem dX9_against_27 : decode cX9_against 27 = .ok (.istore_n 2, 1) := by decide +kernel
theorem dX9_against_28 : decode cX9_against 28 = .ok (.iload_n 2, 1) := by decide +kernel
theorem dX9_against_29 : decode cX9_against 29 = .ok (.ifCond .lt 45, 3) := by decide +kernel
theorem dX9_against_32 : decode cX9_against 32 = .ok (.aload_n 0, 1) := by decide +kernel
theorem dX9_against_33 : decode cX9_against 33 = .ok (.getfield 9, 3) := by decide +kernel
theorem dX9_against_36 : decode cX9_against 36 = .ok (.iload_n 2, 1) := by decide +kernel
theorem dX9_against_37 : decode cX9_against 37 = .ok (.iaload, 1) := by decide +kernel
theorem dX9_against_38 : decode cX9_against 38 = .ok (.aload_n 1, 1) := by decide +kernel
theorem dX9_against_39 : decode cX9_against 39 = .ok (.getfield 9, 3) := by decide +kernel
theorem dX9_against_42 : decode cX9_against 42 = .ok (.iload_n 2, 1) := by decide +kernel
theorem dX9_against_43 : decode cX9_against 43 = .ok (.iaload, 1) := by decide +kernel
theorem dX9_against_44 : decode cX9_against 44 = .ok (.if_icmp .eq 24, 3) := by decide +kernel
theorem dX9_against_47 : decode cX9_against 47 = .ok (.aload_n 0, 1) := by decide +kernel
theorem dX9_against_48 : decode cX9_against 48 = .ok (.getfield 9, 3) := by decide +kernel
theorem dX9_against_51 : decode cX9_against 51 = .ok (.iload_n 2, 1) := by decide +kernel
theorem dX9_against_52 : decode cX9_against 52 = .ok (.iaload, 1) := by decide +kernel
theorem dX9_against_53 : decode cX9_against 53 = .ok (.aload_n 1, 1) := by decide +kernel
theorem dX9_against_54 : decode cX9_against 54 = .ok (.getfield 9, 3) := by decide +kernel
theorem dX9_against_57 : decode cX9_against 57 = .ok (.iload_n 2, 1) := by decide +kernel
theorem dX9_against_58 : decode cX9_against 58 = .ok (.iaload, 1) := by decide +kernel
theorem dX9_against_59 : decode cX9_against 59 = .ok (.if_icmp .ge 7, 3) := by decide +kernel
theorem dX9_against_62 : decode cX9_against 62 = .ok (.iconst (-1), 1) := by decide +kernel
theorem dX9_against_63 : decode cX9_against 63 = .ok (.goto 4, 3) := by decide +kernel
theorem dX9_against_66 : decode cX9_against 66 = .ok (.iconst 1, 1) := by decide +kernel
theorem dX9_against_67 : decode cX9_against 67 = .ok (.ireturn, 1) := by decide +kernel
theorem dX9_against_68 : decode cX9_against 68 = .ok (.iinc 2 (-1), 3) := by decide +kernel
theorem dX9_against_71 : decode cX9_against 71 = .ok (.goto (-43), 3) := by decide +kernel
theorem dX9_against_74 : decode cX9_against 74 = .ok (.iconst 0, 1) := by decide +kernel
theorem dX9_against_75 : decode cX9_against 75 = .ok (.ireturn, 1) := by decide +kernel
theorem dX9_add_0 : decode cX9_add 0 = .ok (.iconst 1, 1) := by decide +kernel
theorem dX9_add_1 : decode cX9_add 1 = .ok (.aload_n 0, 1) := by decide +kernel
theorem dX9_add_2 : decode cX9_add 2 = .ok (.getfield 15, 3) := by decide +kernel
theorem dX9_add_5 : decode cX9_add 5 = .ok (.aload_n 1, 1) := by decide +kernel
theorem dX9_add_6 : decode cX9_add 6 = .ok (.getfield 15, 3) := by decide +kernel
theorem dX9_add_9 : decode cX9_add 9 = .ok (.if_icmp .le 10, 3) := by decide +kernel
theorem dX9_add_12 : decode cX9_add 12 = .ok (.aload_n 0, 1) := by decide +kernel
theorem dX9_add_13 : decode cX9_add 13 = .ok (.getfield 15, 3) := by decide +kernel
theorem dX9_add_16 : decode cX9_add 16 = .ok (.goto 7, 3) := by decide +kernel
theorem dX9_add_19 : decode cX9_add 19 = .ok (.aload_n 1, 1) := by decide +kernel
theorem dX9_add_20 : decode cX9_add 20 = .ok (.getfield 15, 3) := by decide +kernel
theorem dX9_add_23 : decode cX9_add 23 = .ok (.iadd, 1) := by decide +kernel
theorem dX9_add_24 : decode cX9_add 24 = .ok (.istore_n 2, 1) := by decide +kernel
theorem dX9_add_25 : decode cX9_add 25 = .ok (.iload_n 2, 1) := by decide +kernel
theorem dX9_add_26 : decode cX9_add 26 = .ok (.aload_n 0, 1) := by decide +kernel
theorem dX9_add_27 : decode cX9_add 27 = .ok (.getfield 9, 3) := by decide +kernel
theorem dX9_add_30 : decode cX9_add 30 = .ok (.arraylength, 1) := by decide +kernel
theorem dX9_add_31 : decode cX9_add 31 = .ok (.if_icmp .le 4, 3) := by decide +kernel
theorem dX9_add_34 : decode cX9_add 34 = .ok (.return_, 1) := by decide +kernel
theorem dX9_add_35 : decode cX9_add 35 = .ok (.lconst 0, 1) := by decide +kernel
theorem dX9_add_36 : decode cX9_add 36 = .ok (.lstore_n 3, 1) := by decide +kernel
theorem dX9_add_37 : decode cX9_add 37 = .ok (.iconst 0, 1) := by decide +kernel
theorem dX9_add_38 : decode cX9_add 38 = .ok (.istore 5, 2) := by decide +kernel
theorem dX9_add_40 : decode cX9_add 40 = .ok (.iload 5, 2) := by decide +kernel
theorem dX9_add_42 : decode cX9_add 42 = .ok (.iload_n 2, 1) := by decide +kernel
theorem dX9_add_43 : decode cX9_add 43 = .ok (.if_icmp .ge 45, 3) := by decide +kernel
theorem dX9_add_46 : decode cX9_add 46 = .ok (.lload_n 3, 1) := by decide +kernel
theorem dX9_add_47 : decode cX9_add 47 = .ok (.aload_n 0, 1) := by decide +kernel
theorem dX9_add_48 : decode cX9_add 48 = .ok (.iload 5, 2) := by decide +kernel
theorem dX9_add_50 : decode cX9_add 50 = .ok (.invokevirtual 27, 3) := by decide +kernel
theorem dX9_add_53 : decode cX9_add 53 = .ok (.i2l, 1) := by decide +kernel
theorem dX9_add_54 : decode cX9_add 54 = .ok (.aload_n 1, 1) := by decide +kernel
theorem dX9_add_55 : decode cX9_add 55 = .ok (.iload 5, 2) := by decide +kernel
theorem dX9_add_57 : decode cX9_add 57 = .ok (.invokevirtual 27, 3) := by decide +kernel
theorem dX9_add_60 : decode cX9_add 60 = .ok (.i2l, 1) := by decide +kernel
theorem dX9_add_61 : decode cX9_add 61 = .ok (.ladd, 1) := by decide +kernel
theorem dX9_add_62 : decode cX9_add 62 = .ok (.ladd, 1) := by decide +kernel
theorem dX9_add_63 : decode cX9_add 63 = .ok (.lstore_n 3, 1) := by decide +kernel
theorem dX9_add_64 : decode cX9_add 64 = .ok (.aload_n 0, 1) := by decide +kernel
theorem dX9_add_65 : decode cX9_add 65 = .ok (.getfield 9, 3) := by decide +kernel
theorem dX9_add_68 : decode cX9_add 68 = .ok (.iload 5, 2) := by decide +kernel
theorem dX9_add_70 : decode cX9_add 70 = .ok (.lload_n 3, 1) := by decide +kernel
theorem dX9_add_71 : decode cX9_add 71 = .ok (.ldc2_w 19, 3) := by decide +kernel
theorem dX9_add_74 : decode cX9_add 74 = .ok (.land, 1) := by decide +kernel
theorem dX9_add_75 : decode cX9_add 75 = .ok (.l2i, 1) := by decide +kernel
theorem dX9_add_76 : decode cX9_add 76 = .ok (.iastore, 1) := by decide +kernel
theorem dX9_add_77 : decode cX9_add 77 = .ok (.lload_n 3, 1) := by decide +kernel
theorem dX9_add_78 : decode cX9_add 78 = .ok (.bipush 31, 2) := by decide +kernel
theorem dX9_add_80 : decode cX9_add 80 = .ok (.lshr, 1) := by decide +kernel
theorem dX9_add_81 : decode cX9_add 81 = .ok (.lstore_n 3, 1) := by decide +kernel
theorem dX9_add_82 : decode cX9_add 82 = .ok (.iinc 5 1, 3) := by decide +kernel
theorem dX9_add_85 : decode cX9_add 85 = .ok (.goto (-45), 3) := by decide +kernel
theorem dX9_add_88 : decode cX9_add 88 = .ok (.aload_n 0, 1) := by decide +kernel
theorem dX9_add_89 : decode cX9_add 89 = .ok (.iload_n 2, 1) := by decide +kernel
theorem dX9_add_90 : decode cX9_add 90 = .ok (.invokevirtual 39, 3) := by decide +kernel
theorem dX9_add_93 : decode cX9_add 93 = .ok (.return_, 1) := by decide +kernel
theorem dX9_subtract_0 : decode cX9_subtract 0 = .ok (.lconst 0, 1) := by decide +kernel
theorem dX9_subtract_1 : decode cX9_subtract 1 = .ok (.lstore_n 2, 1) := by decide +kernel
theorem dX9_subtract_2 : decode cX9_subtract 2 = .ok (.iconst 0, 1) := by decide +kernel
theorem dX9_subtract_3 : decode cX9_subtract 3 = .ok (.istore 4, 2) := by decide +kernel
theorem dX9_subtract_5 : decode cX9_subtract 5 = .ok (.iload 4, 2) := by decide +kernel
theorem dX9_subtract_7 : decode cX9_subtract 7 = .ok (.aload_n 0, 1) := by decide +kernel
theorem dX9_subtract_8 : decode cX9_subtract 8 = .ok (.getfield 15, 3) := by decide +kernel
theorem dX9_subtract_11 : decode cX9_subtract 11 = .ok (.if_icmp .ge 46, 3) := by decide +kernel
theorem dX9_subtract_14 : decode cX9_subtract 14 = .ok (.lload_n 2, 1) := by decide +kernel
theorem dX9_subtract_15 : decode cX9_subtract 15 = .ok (.aload_n 0, 1) := by decide +kernel
theorem dX9_subtract_16 : decode cX9_subtract 16 = .ok (.getfield 9, 3) := by decide +kernel
theorem dX9_subtract_19 : decode cX9_subtract 19 = .ok (.iload 4, 2) := by decide +kernel
theorem dX9_subtract_21 : decode cX9_subtract 21 = .ok (.iaload, 1) := by decide +kernel
theorem dX9_subtract_22 : decode cX9_subtract 22 = .ok (.i2l, 1) := by decide +kernel
theorem dX9_subtract_23 : decode cX9_subtract 23 = .ok (.aload_n 1, 1) := by decide +kernel
theorem dX9_subtract_24 : decode cX9_subtract 24 = .ok (.iload 4, 2) := by decide +kernel
theorem dX9_subtract_26 : decode cX9_subtract 26 = .ok (.invokevirtual 27, 3) := by decide +kernel
theorem dX9_subtract_29 : decode cX9_subtract 29 = .ok (.i2l, 1) := by decide +kernel
theorem dX9_subtract_30 : decode cX9_subtract 30 = .ok (.lsub, 1) := by decide +kernel
theorem dX9_subtract_31 : decode cX9_subtract 31 = .ok (.ladd, 1) := by decide +kernel
theorem dX9_subtract_32 : decode cX9_subtract 32 = .ok (.lstore_n 2, 1) := by decide +kernel
theorem dX9_subtract_33 : decode cX9_subtract 33 = .ok (.aload_n 0, 1) := by decide +kernel
theorem dX9_subtract_34 : decode cX9_subtract 34 = .ok (.getfield 9, 3) := by decide +kernel
theorem dX9_subtract_37 : decode cX9_subtract 37 = .ok (.iload 4, 2) := by decide +kernel
theorem dX9_subtract_39 : decode cX9_subtract 39 = .ok (.lload_n 2, 1) := by decide +kernel
theorem dX9_subtract_40 : decode cX9_subtract 40 = .ok (.ldc2_w 19, 3) := by decide +kernel
theorem dX9_subtract_43 : decode cX9_subtract 43 = .ok (.land, 1) := by decide +kernel
theorem dX9_subtract_44 : decode cX9_subtract 44 = .ok (.l2i, 1) := by decide +kernel
theorem dX9_subtract_45 : decode cX9_subtract 45 = .ok (.iastore, 1) := by decide +kernel
theorem dX9_subtract_46 : decode cX9_subtract 46 = .ok (.lload_n 2, 1) := by decide +kernel
theorem dX9_subtract_47 : decode cX9_subtract 47 = .ok (.bipush 31, 2) := by decide +kernel
theorem dX9_subtract_49 : decode cX9_subtract 49 = .ok (.lshr, 1) := by decide +kernel
theorem dX9_subtract_50 : decode cX9_subtract 50 = .ok (.lstore_n 2, 1) := by decide +kernel
theorem dX9_subtract_51 : decode cX9_subtract 51 = .ok (.iinc 4 1, 3) := by decide +kernel
theorem dX9_subtract_54 : decode cX9_subtract 54 = .ok (.goto (-49), 3) := by decide +kernel
theorem dX9_subtract_57 : decode cX9_subtract 57 = .ok (.aload_n 0, 1) := by decide +kernel
theorem dX9_subtract_58 : decode cX9_subtract 58 = .ok (.aload_n 0, 1) := by decide +kernel
theorem dX9_subtract_59 : decode cX9_subtract 59 = .ok (.getfield 15, 3) := by decide +kernel
theorem dX9_subtract_62 : decode cX9_subtract 62 = .ok (.invokevirtual 39, 3) := by decide +kernel
theorem dX9_subtract_65 : decode cX9_subtract 65 = .ok (.return_, 1) := by decide +kernel
theorem dX9_multiply_0 : decode cX9_multiply 0 = .ok (.aload_n 1, 1) := by decide +kernel
theorem dX9_multiply_1 : decode cX9_multiply 1 = .ok (.getfield 15, 3) := by decide +kernel
theorem dX9_multiply_4 : decode cX9_multiply 4 = .ok (.aload_n 2, 1) := by decide +kernel
theorem dX9_multiply_5 : decode cX9_multiply 5 = .ok (.getfield 15, 3) := by decide +kernel
theorem dX9_multiply_8 : decode cX9_multiply 8 = .ok (.iadd, 1) := by decide +kernel
theorem dX9_multiply_9 : decode cX9_multiply 9 = .ok (.istore_n 3, 1) := by decide +kernel
theorem dX9_multiply_10 : decode cX9_multiply 10 = .ok (.iload_n 3, 1) := by decide +kernel
theorem dX9_multiply_11 : decode cX9_multiply 11 = .ok (.aload_n 0, 1) := by decide +kernel
theorem dX9_multiply_12 : decode cX9_multiply 12 = .ok (.getfield 9, 3) := by decide +kernel
theorem dX9_multiply_15 : decode cX9_multiply 15 = .ok (.arraylength, 1) := by decide +kernel
theorem dX9_multiply_16 : decode cX9_multiply 16 = .ok (.if_icmp .le 4, 3) := by decide +kernel
theorem dX9_multiply_19 : decode cX9_multiply 19 = .ok (.return_, 1) := by decide +kernel
theorem dX9_multiply_20 : decode cX9_multiply 20 = .ok (.iconst 0, 1) := by decide +kernel
theorem dX9_multiply_21 : decode cX9_multiply 21 = .ok (.istore 4, 2) := by decide +kernel
theorem dX9_multiply_23 : decode cX9_multiply 23 = .ok (.iload 4, 2) := by decide +kernel
theorem dX9_multiply_25 : decode cX9_multiply 25 = .ok (.iload_n 3, 1) := by decide +kernel
theorem dX9_multiply_26 : decode cX9_multiply 26 = .ok (.if_icmp .ge 17, 3) := by decide +kernel
theorem dX9_multiply_29 : decode cX9_multiply 29 = .ok (.aload_n 0, 1) := by decide +kernel
theorem dX9_multiply_30 : decode cX9_multiply 30 = .ok (.getfield 9, 3) := by decide +kernel
theorem dX9_multiply_33 : decode cX9_multiply 33 = .ok (.iload 4, 2) := by decide +kernel
theorem dX9_multiply_35 : decode cX9_multiply 35 = .ok (.iconst 0, 1) := by decide +kernel
theorem dX9_multiply_36 : decode cX9_multiply 36 = .ok (.iastore, 1) := by decide +kernel
theorem dX9_multiply_37 : decode cX9_multiply 37 = .ok (.iinc 4 1, 3) := by decide +kernel
theorem dX9_multiply_40 : decode cX9_multiply 40 = .ok (.goto (-17), 3) := by decide +kernel
theorem dX9_multiply_43 : decode cX9_multiply 43 = .ok (.iconst 0, 1) := by decide +kernel
theorem dX9_multiply_44 : decode cX9_multiply 44 = .ok (.istore 4, 2) := by decide +kernel
theorem dX9_multiply_46 : decode cX9_multiply 46 = .ok (.iload 4, 2) := by decide +kernel
theorem dX9_multiply_48 : decode cX9_multiply 48 = .ok (.aload_n 1, 1) := by decide +kernel
theorem dX9_multiply_49 : decode cX9_multiply 49 = .ok (.getfield 15, 3) := by decide +kernel
theorem dX9_multiply_52 : decode cX9_multiply 52 = .ok (.if_icmp .ge 107, 3) := by decide +kernel
theorem dX9_multiply_55 : decode cX9_multiply 55 = .ok (.aload_n 1, 1) := by decide +kernel
theorem dX9_multiply_56 : decode cX9_multiply 56 = .ok (.getfield 9, 3) := by decide +kernel
theorem dX9_multiply_59 : decode cX9_multiply 59 = .ok (.iload 4, 2) := by decide +kernel
theorem dX9_multiply_61 : decode cX9_multiply 61 = .ok (.iaload, 1) := by decide +kernel
theorem dX9_multiply_62 : decode cX9_multiply 62 = .ok (.i2l, 1) := by decide +kernel
theorem dX9_multiply_63 : decode cX9_multiply 63 = .ok (.lstore 5, 2) := by decide +kernel
theorem dX9_multiply_65 : decode cX9_multiply 65 = .ok (.lconst 0, 1) := by decide +kernel
theorem dX9_multiply_66 : decode cX9_multiply 66 = .ok (.lstore 7, 2) := by decide +kernel
theorem dX9_multiply_68 : decode cX9_multiply 68 = .ok (.iconst 0, 1) := by decide +kernel
theorem dX9_multiply_69 : decode cX9_multiply 69 = .ok (.istore 9, 2) := by decide +kernel
theorem dX9_multiply_71 : decode cX9_multiply 71 = .ok (.iload 9, 2) := by decide +kernel
theorem dX9_multiply_73 : decode cX9_multiply 73 = .ok (.aload_n 2, 1) := by decide +kernel
theorem dX9_multiply_74 : decode cX9_multiply 74 = .ok (.getfield 15, 3) := by decide +kernel
theorem dX9_multiply_77 : decode cX9_multiply 77 = .ok (.if_icmp .ge 61, 3) := by decide +kernel
theorem dX9_multiply_80 : decode cX9_multiply 80 = .ok (.lload 7, 2) := by decide +kernel
theorem dX9_multiply_82 : decode cX9_multiply 82 = .ok (.lload 5, 2) := by decide +kernel
theorem dX9_multiply_84 : decode cX9_multiply 84 = .ok (.aload_n 2, 1) := by decide +kernel
theorem dX9_multiply_85 : decode cX9_multiply 85 = .ok (.getfield 9, 3) := by decide +kernel
theorem dX9_multiply_88 : decode cX9_multiply 88 = .ok (.iload 9, 2) := by decide +kernel
theorem dX9_multiply_90 : decode cX9_multiply 90 = .ok (.iaload, 1) := by decide +kernel
theorem dX9_multiply_91 : decode cX9_multiply 91 = .ok (.i2l, 1) := by decide +kernel
theorem dX9_multiply_92 : decode cX9_multiply 92 = .ok (.lmul, 1) := by decide +kernel
theorem dX9_multiply_93 : decode cX9_multiply 93 = .ok (.aload_n 0, 1) := by decide +kernel
theorem dX9_multiply_94 : decode cX9_multiply 94 = .ok (.getfield 9, 3) := by decide +kernel
theorem dX9_multiply_97 : decode cX9_multiply 97 = .ok (.iload 4, 2) := by decide +kernel
theorem dX9_multiply_99 : decode cX9_multiply 99 = .ok (.iload 9, 2) := by decide +kernel
theorem dX9_multiply_101 : decode cX9_multiply 101 = .ok (.iadd, 1) := by decide +kernel
theorem dX9_multiply_102 : decode cX9_multiply 102 = .ok (.iaload, 1) := by decide +kernel
theorem dX9_multiply_103 : decode cX9_multiply 103 = .ok (.i2l, 1) := by decide +kernel
theorem dX9_multiply_104 : decode cX9_multiply 104 = .ok (.ladd, 1) := by decide +kernel
theorem dX9_multiply_105 : decode cX9_multiply 105 = .ok (.ladd, 1) := by decide +kernel
theorem dX9_multiply_106 : decode cX9_multiply 106 = .ok (.lstore 7, 2) := by decide +kernel
theorem dX9_multiply_108 : decode cX9_multiply 108 = .ok (.aload_n 0, 1) := by decide +kernel
theorem dX9_multiply_109 : decode cX9_multiply 109 = .ok (.getfield 9, 3) := by decide +kernel
theorem dX9_multiply_112 : decode cX9_multiply 112 = .ok (.iload 4, 2) := by decide +kernel
theorem dX9_multiply_114 : decode cX9_multiply 114 = .ok (.iload 9, 2) := by decide +kernel
theorem dX9_multiply_116 : decode cX9_multiply 116 = .ok (.iadd, 1) := by decide +kernel
theorem dX9_multiply_117 : decode cX9_multiply 117 = .ok (.lload 7, 2) := by decide +kernel
theorem dX9_multiply_119 : decode cX9_multiply 119 = .ok (.ldc2_w 19, 3) := by decide +kernel
theorem dX9_multiply_122 : decode cX9_multiply 122 = .ok (.land, 1) := by decide +kernel
theorem dX9_multiply_123 : decode cX9_multiply 123 = .ok (.l2i, 1) := by decide +kernel
theorem dX9_multiply_124 : decode cX9_multiply 124 = .ok (.iastore, 1) := by decide +kernel
theorem dX9_multiply_125 : decode cX9_multiply 125 = .ok (.lload 7, 2) := by decide +kernel
theorem dX9_multiply_127 : decode cX9_multiply 127 = .ok (.bipush 31, 2) := by decide +kernel
theorem dX9_multiply_129 : decode cX9_multiply 129 = .ok (.lshr, 1) := by decide +kernel
theorem dX9_multiply_130 : decode cX9_multiply 130 = .ok (.lstore 7, 2) := by decide +kernel
theorem dX9_multiply_132 : decode cX9_multiply 132 = .ok (.iinc 9 1, 3) := by decide +kernel
theorem dX9_multiply_135 : decode cX9_multiply 135 = .ok (.goto (-64), 3) := by decide +kernel
theorem dX9_multiply_138 : decode cX9_multiply 138 = .ok (.aload_n 0, 1) := by decide +kernel
theorem dX9_multiply_139 : decode cX9_multiply 139 = .ok (.getfield 9, 3) := by decide +kernel
theorem dX9_multiply_142 : decode cX9_multiply 142 = .ok (.iload 4, 2) := by decide +kernel
theorem dX9_multiply_144 : decode cX9_multiply 144 = .ok (.aload_n 2, 1) := by decide +kernel
theorem dX9_multiply_145 : decode cX9_multiply 145 = .ok (.getfield 15, 3) := by decide +kernel
theorem dX9_multiply_148 : decode cX9_multiply 148 = .ok (.iadd, 1) := by decide +kernel
theorem dX9_multiply_149 : decode cX9_multiply 149 = .ok (.lload 7, 2) := by decide +kernel
theorem dX9_multiply_151 : decode cX9_multiply 151 = .ok (.l2i, 1) := by decide +kernel
theorem dX9_multiply_152 : decode cX9_multiply 152 = .ok (.iastore, 1) := by decide +kernel
theorem dX9_multiply_153 : decode cX9_multiply 153 = .ok (.iinc 4 1, 3) := by decide +kernel
theorem dX9_multiply_156 : decode cX9_multiply 156 = .ok (.goto (-110), 3) := by decide +kernel
theorem dX9_multiply_159 : decode cX9_multiply 159 = .ok (.aload_n 0, 1) := by decide +kernel
theorem dX9_multiply_160 : decode cX9_multiply 160 = .ok (.iload_n 3, 1) := by decide +kernel
theorem dX9_multiply_161 : decode cX9_multiply 161 = .ok (.invokevirtual 39, 3) := by decide +kernel
theorem dX9_multiply_164 : decode cX9_multiply 164 = .ok (.return_, 1) := by decide +kernel
theorem dX10_init_0 : decode cX10_init 0 = .ok (.aload_n 0, 1) := by decide +kernel
theorem dX10_init_1 : decode cX10_init 1 = .ok (.invokespecial 3, 3) := by decide +kernel
theorem dX10_init_4 : decode cX10_init 4 = .ok (.aload_n 0, 1) := by decide +kernel
theorem dX10_init_5 : decode cX10_init 5 = .ok (.new 9, 3) := by decide +kernel
theorem dX10_init_8 : decode cX10_init 8 = .ok (.dup, 1) := by decide +kernel
theorem dX10_init_9 : decode cX10_init 9 = .ok (.invokespecial 11, 3) := by decide +kernel
theorem dX10_init_12 : decode cX10_init 12 = .ok (.putfield 12, 3) := by decide +kernel
theorem dX10_init_15 : decode cX10_init 15 = .ok (.aload_n 0, 1) := by decide +kernel
theorem dX10_init_16 : decode cX10_init 16 = .ok (.new 16, 3) := by decide +kernel
theorem dX10_init_19 : decode cX10_init 19 = .ok (.dup, 1) := by decide +kernel
theorem dX10_init_20 : decode cX10_init 20 = .ok (.invokespecial 18, 3) := by decide +kernel
theorem dX10_init_23 : decode cX10_init 23 = .ok (.putfield 19, 3) := by decide +kernel
theorem dX10_init_26 : decode cX10_init 26 = .ok (.aload_n 0, 1) := by decide +kernel
theorem dX10_init_27 : decode cX10_init 27 = .ok (.new 23, 3) := by decide +kernel
theorem dX10_init_30 : decode cX10_init 30 = .ok (.dup, 1) := by decide +kernel
theorem dX10_init_31 : decode cX10_init 31 = .ok (.invokespecial 25, 3) := by decide +kernel
theorem dX10_init_34 : decode cX10_init 34 = .ok (.putfield 26, 3) := by decide +kernel
theorem dX10_init_37 : decode cX10_init 37 = .ok (.aload_n 0, 1) := by decide +kernel
theorem dX10_init_38 : decode cX10_init 38 = .ok (.new 30, 3) := by decide +kernel
theorem dX10_init_41 : decode cX10_init 41 = .ok (.dup, 1) := by decide +kernel
theorem dX10_init_42 : decode cX10_init 42 = .ok (.iconst 2, 1) := by decide +kernel
theorem dX10_init_43 : decode cX10_init 43 = .ok (.iconst 2, 1) := by decide +kernel
theorem dX10_init_44 : decode cX10_init 44 = .ok (.invokespecial 32, 3) := by decide +kernel
theorem dX10_init_47 : decode cX10_init 47 = .ok (.putfield 35, 3) := by decide +kernel
theorem dX10_init_50 : decode cX10_init 50 = .ok (.aload_n 0, 1) := by decide +kernel
theorem dX10_init_51 : decode cX10_init 51 = .ok (.iconst 0, 1) := by decide +kernel
theorem dX10_init_52 : decode cX10_init 52 = .ok (.putfield 39, 3) := by decide +kernel
theorem dX10_init_55 : decode cX10_init 55 = .ok (.aload_n 0, 1) := by decide +kernel
theorem dX10_init_56 : decode cX10_init 56 = .ok (.iconst 0, 1) := by decide +kernel
theorem dX10_init_57 : decode cX10_init 57 = .ok (.putfield 43, 3) := by decide +kernel
theorem dX10_init_60 : decode cX10_init 60 = .ok (.return_, 1) := by decide +kernel
theorem dX10_size_0 : decode cX10_size 0 = .ok (.iload_n 1, 1) := by decide +kernel
theorem dX10_size_1 : decode cX10_size 1 = .ok (.iconst 1, 1) := by decide +kernel
theorem dX10_size_2 : decode cX10_size 2 = .ok (.if_icmp .lt 9, 3) := by decide +kernel
theorem dX10_size_5 : decode cX10_size 5 = .ok (.iload_n 1, 1) := by decide +kernel
theorem dX10_size_6 : decode cX10_size 6 = .ok (.bipush 6, 2) := by decide +kernel
theorem dX10_size_8 : decode cX10_size 8 = .ok (.if_icmp .le 13, 3) := by decide +kernel
theorem dX10_size_11 : decode cX10_size 11 = .ok (.new 46, 3) := by decide +kernel
theorem dX10_size_14 : decode cX10_size 14 = .ok (.dup, 1) := by decide +kernel
theorem dX10_size_15 : decode cX10_size 15 = .ok (.ldc 48, 2) := by decide +kernel
theorem dX10_size_17 : decode cX10_size 17 = .ok (.invokespecial 50, 3) := by decide +kernel
theorem dX10_size_20 : decode cX10_size 20 = .ok (.athrow, 1) := by decide +kernel
theorem dX10_size_21 : decode cX10_size 21 = .ok (.aload_n 0, 1) := by decide +kernel
theorem dX10_size_22 : decode cX10_size 22 = .ok (.getfield 12, 3) := by decide +kernel
theorem dX10_size_25 : decode cX10_size 25 = .ok (.iload_n 1, 1) := by decide +kernel
theorem dX10_size_26 : decode cX10_size 26 = .ok (.invokevirtual 53, 3) := by decide +kernel
theorem dX10_size_29 : decode cX10_size 29 = .ok (.aload_n 0, 1) := by decide +kernel
theorem dX10_size_30 : decode cX10_size 30 = .ok (.invokevirtual 57, 3) := by decide +kernel
theorem dX10_size_33 : decode cX10_size 33 = .ok (.return_, 1) := by decide +kernel
theorem dX10_set_0 : decode cX10_set 0 = .ok (.aload_n 0, 1) := by decide +kernel
theorem dX10_set_1 : decode cX10_set 1 = .ok (.getfield 12, 3) := by decide +kernel
theorem dX10_set_4 : decode cX10_set 4 = .ok (.iload_n 1, 1) := by decide +kernel
theorem dX10_set_5 : decode cX10_set 5 = .ok (.invokevirtual 60, 3) := by decide +kernel
theorem dX10_set_8 : decode cX10_set 8 = .ok (.ifCond .eq 14, 3) := by decide +kernel
theorem dX10_set_11 : decode cX10_set 11 = .ok (.aload_n 0, 1) := by decide +kernel
theorem dX10_set_12 : decode cX10_set 12 = .ok (.getfield 12, 3) := by decide +kernel
theorem dX10_set_15 : decode cX10_set 15 = .ok (.iload_n 2, 1) := by decide +kernel
theorem dX10_set_16 : decode cX10_set 16 = .ok (.invokevirtual 60, 3) := by decide +kernel
theorem dX10_set_19 : decode cX10_set 19 = .ok (.ifCond .ne 13, 3) := by decide +kernel
theorem dX10_set_22 : decode cX10_set 22 = .ok (.new 64, 3) := by decide +kernel
theorem dX10_set_25 : decode cX10_set 25 = .ok (.dup, 1) := by decide +kernel
theorem dX10_set_26 : decode cX10_set 26 = .ok (.ldc 66, 2) := by decide +kernel
theorem dX10_set_28 : decode cX10_set 28 = .ok (.invokespecial 68, 3) := by decide +kernel
theorem dX10_set_31 : decode cX10_set 31 = .ok (.athrow, 1) := by decide +kernel
theorem dX10_set_32 : decode cX10_set 32 = .ok (.iload 4, 2) := by decide +kernel
theorem dX10_set_34 : decode cX10_set 34 = .ok (.ifCond .ne 13, 3) := by decide +kernel
theorem dX10_set_37 : decode cX10_set 37 = .ok (.new 46, 3) := by decide +kernel
theorem dX10_set_40 : decode cX10_set 40 = .ok (.dup, 1) := by decide +kernel
theorem dX10_set_41 : decode cX10_set 41 = .ok (.ldc 69, 2) := by decide +kernel
theorem dX10_set_43 : decode cX10_set 43 = .ok (.invokespecial 50, 3) := by decide +kernel
theorem dX10_set_46 : decode cX10_set 46 = .ok (.athrow, 1) := by decide +kernel
theorem dX10_set_47 : decode cX10_set 47 = .ok (.aload_n 0, 1) := by decide +kernel
theorem dX10_set_48 : decode cX10_set 48 = .ok (.getfield 12, 3) := by decide +kernel
theorem dX10_set_51 : decode cX10_set 51 = .ok (.iload_n 1, 1) := by decide +kernel
theorem dX10_set_52 : decode cX10_set 52 = .ok (.iload_n 2, 1) := by decide +kernel
theorem dX10_set_53 : decode cX10_set 53 = .ok (.iload_n 3, 1) := by decide +kernel
theorem dX10_set_54 : decode cX10_set 54 = .ok (.i2l, 1) := by decide +kernel
theorem dX10_set_55 : decode cX10_set 55 = .ok (.iload 4, 2) := by decide +kernel
theorem dX10_set_57 : decode cX10_set 57 = .ok (.i2l, 1) := by decide +kernel
theorem dX10_set_58 : decode cX10_set 58 = .ok (.invokevirtual 71, 3) := by decide +kernel
theorem dX10_set_61 : decode cX10_set 61 = .ok (.aload_n 0, 1) := by decide +kernel
theorem dX10_set_62 : decode cX10_set 62 = .ok (.invokevirtual 57, 3) := by decide +kernel
theorem dX10_set_65 : decode cX10_set 65 = .ok (.aload_n 0, 1) := by decide +kernel
theorem dX10_set_66 : decode cX10_set 66 = .ok (.getfield 12, 3) := by decide +kernel
theorem dX10_set_69 : decode cX10_set 69 = .ok (.invokevirtual 75, 3) := by decide +kernel
theorem dX10_set_72 : decode cX10_set 72 = .ok (.ireturn, 1) := by decide +kernel
theorem dX10_right_0 : decode cX10_right 0 = .ok (.aload_n 0, 1) := by decide +kernel
theorem dX10_right_1 : decode cX10_right 1 = .ok (.getfield 12, 3) := by decide +kernel
theorem dX10_right_4 : decode cX10_right 4 = .ok (.iload_n 1, 1) := by decide +kernel
theorem dX10_right_5 : decode cX10_right 5 = .ok (.invokevirtual 60, 3) := by decide +kernel
theorem dX10_right_8 : decode cX10_right 8 = .ok (.ifCond .ne 13, 3) := by decide +kernel
theorem dX10_right_11 : decode cX10_right 11 = .ok (.new 64, 3) := by decide +kernel
theorem dX10_right_14 : decode cX10_right 14 = .ok (.dup, 1) := by decide +kernel
theorem dX10_right_15 : decode cX10_right 15 = .ok (.ldc 79, 2) := by decide +kernel
theorem dX10_right_17 : decode cX10_right 17 = .ok (.invokespecial 68, 3) := by decide +kernel
theorem dX10_right_20 : decode cX10_right 20 = .ok (.athrow, 1) := by decide +kernel
theorem dX10_right_21 : decode cX10_right 21 = .ok (.iload_n 3, 1) := by decide +kernel
theorem dX10_right_22 : decode cX10_right 22 = .ok (.ifCond .ne 13, 3) := by decide +kernel
theorem dX10_right_25 : decode cX10_right 25 = .ok (.new 46, 3) := by decide +kernel
theorem dX10_right_28 : decode cX10_right 28 = .ok (.dup, 1) := by decide +kernel
theorem dX10_right_29 : decode cX10_right 29 = .ok (.ldc 69, 2) := by decide +kernel
theorem dX10_right_31 : decode cX10_right 31 = .ok (.invokespecial 50, 3) := by decide +kernel
theorem dX10_right_34 : decode cX10_right 34 = .ok (.athrow, 1) := by decide +kernel
theorem dX10_right_35 : decode cX10_right 35 = .ok (.aload_n 0, 1) := by decide +kernel
theorem dX10_right_36 : decode cX10_right 36 = .ok (.getfield 12, 3) := by decide +kernel
theorem dX10_right_39 : decode cX10_right 39 = .ok (.iload_n 1, 1) := by decide +kernel
theorem dX10_right_40 : decode cX10_right 40 = .ok (.aload_n 0, 1) := by decide +kernel
theorem dX10_right_41 : decode cX10_right 41 = .ok (.getfield 12, 3) := by decide +kernel
theorem dX10_right_44 : decode cX10_right 44 = .ok (.getfield 81, 3) := by decide +kernel
theorem dX10_right_47 : decode cX10_right 47 = .ok (.iload_n 2, 1) := by decide +kernel
theorem dX10_right_48 : decode cX10_right 48 = .ok (.i2l, 1) := by decide +kernel
theorem dX10_right_49 : decode cX10_right 49 = .ok (.iload_n 3, 1) := by decide +kernel
theorem dX10_right_50 : decode cX10_right 50 = .ok (.i2l, 1) := by decide +kernel
theorem dX10_right_51 : decode cX10_right 51 = .ok (.invokevirtual 71, 3) := by decide +kernel
theorem dX10_right_54 : decode cX10_right 54 = .ok (.aload_n 0, 1) := by decide +kernel
theorem dX10_right_55 : decode cX10_right 55 = .ok (.invokevirtual 57, 3) := by decide +kernel
theorem dX10_right_58 : decode cX10_right 58 = .ok (.aload_n 0, 1) := by decide +kernel
theorem dX10_right_59 : decode cX10_right 59 = .ok (.getfield 12, 3) := by decide +kernel
theorem dX10_right_62 : decode cX10_right 62 = .ok (.invokevirtual 75, 3) := by decide +kernel
theorem dX10_right_65 : decode cX10_right 65 = .ok (.ireturn, 1) := by decide +kernel
theorem dX10_eliminate_0 : decode cX10_eliminate 0 = .ok (.iload_n 1, 1) := by decide +kernel
theorem dX10_eliminate_1 : decode cX10_eliminate 1 = .ok (.ifCond .lt 9, 3) := by decide +kernel
theorem dX10_eliminate_4 : decode cX10_eliminate 4 = .ok (.iload_n 1, 1) := by decide +kernel
theorem dX10_eliminate_5 : decode cX10_eliminate 5 = .ok (.ldc 85, 2) := by decide +kernel
theorem dX10_eliminate_7 : decode cX10_eliminate 7 = .ok (.if_icmp .le 13, 3) := by decide +kernel
theorem dX10_eliminate_10 : decode cX10_eliminate 10 = .ok (.new 46, 3) := by decide +kernel
theorem dX10_eliminate_13 : decode cX10_eliminate 13 = .ok (.dup, 1) := by decide +kernel
theorem dX10_eliminate_14 : decode cX10_eliminate 14 = .ok (.ldc 86, 2) := by decide +kernel
theorem dX10_eliminate_16 : decode cX10_eliminate 16 = .ok (.invokespecial 50, 3) := by decide +kernel
theorem dX10_eliminate_19 : decode cX10_eliminate 19 = .ok (.athrow, 1) := by decide +kernel
theorem dX10_eliminate_20 : decode cX10_eliminate 20 = .ok (.aload_n 0, 1) := by decide +kernel
theorem dX10_eliminate_21 : decode cX10_eliminate 21 = .ok (.iconst 0, 1) := by decide +kernel
theorem dX10_eliminate_22 : decode cX10_eliminate 22 = .ok (.putfield 43, 3) := by decide +kernel
theorem dX10_eliminate_25 : decode cX10_eliminate 25 = .ok (.aload_n 0, 1) := by decide +kernel
theorem dX10_eliminate_26 : decode cX10_eliminate 26 = .ok (.getfield 12, 3) := by decide +kernel
theorem dX10_eliminate_29 : decode cX10_eliminate 29 = .ok (.invokevirtual 75, 3) := by decide +kernel
theorem dX10_eliminate_32 : decode cX10_eliminate 32 = .ok (.iload_n 1, 1) := by decide +kernel
theorem dX10_eliminate_33 : decode cX10_eliminate 33 = .ok (.if_icmp .le 5, 3) := by decide +kernel
theorem dX10_eliminate_36 : decode cX10_eliminate 36 = .ok (.iconst (-1), 1) := by decide +kernel
theorem dX10_eliminate_37 : decode cX10_eliminate 37 = .ok (.ireturn, 1) := by decide +kernel
theorem dX10_eliminate_38 : decode cX10_eliminate 38 = .ok (.aload_n 0, 1) := by decide +kernel
theorem dX10_eliminate_39 : decode cX10_eliminate 39 = .ok (.getfield 39, 3) := by decide +kernel
theorem dX10_eliminate_42 : decode cX10_eliminate 42 = .ok (.ifCond .ne 19, 3) := by decide +kernel
theorem dX10_eliminate_45 : decode cX10_eliminate 45 = .ok (.aload_n 0, 1) := by decide +kernel
theorem dX10_eliminate_46 : decode cX10_eliminate 46 = .ok (.getfield 19, 3) := by decide +kernel
theorem dX10_eliminate_49 : decode cX10_eliminate 49 = .ok (.aload_n 0, 1) := by decide +kernel
theorem dX10_eliminate_50 : decode cX10_eliminate 50 = .ok (.getfield 12, 3) := by decide +kernel
theorem dX10_eliminate_53 : decode cX10_eliminate 53 = .ok (.invokevirtual 88, 3) := by decide +kernel
theorem dX10_eliminate_56 : decode cX10_eliminate 56 = .ok (.aload_n 0, 1) := by decide +kernel
theorem dX10_eliminate_57 : decode cX10_eliminate 57 = .ok (.iconst 1, 1) := by decide +kernel
theorem dX10_eliminate_58 : decode cX10_eliminate 58 = .ok (.putfield 39, 3) := by decide +kernel
theorem dX10_eliminate_61 : decode cX10_eliminate 61 = .ok (.aload_n 0, 1) := by decide +kernel
theorem dX10_eliminate_62 : decode cX10_eliminate 62 = .ok (.getfield 19, 3) := by decide +kernel
theorem dX10_eliminate_65 : decode cX10_eliminate 65 = .ok (.getfield 92, 3) := by decide +kernel
theorem dX10_eliminate_68 : decode cX10_eliminate 68 = .ok (.iload_n 1, 1) := by decide +kernel
theorem dX10_eliminate_69 : decode cX10_eliminate 69 = .ok (.if_icmp .le 5, 3) := by decide +kernel
theorem dX10_eliminate_72 : decode cX10_eliminate 72 = .ok (.iconst (-1), 1) := by decide +kernel
theorem dX10_eliminate_73 : decode cX10_eliminate 73 = .ok (.ireturn, 1) := by decide +kernel
theorem dX10_eliminate_74 : decode cX10_eliminate 74 = .ok (.aload_n 0, 1) := by decide +kernel
theorem dX10_eliminate_75 : decode cX10_eliminate 75 = .ok (.iconst 1, 1) := by decide +kernel
theorem dX10_eliminate_76 : decode cX10_eliminate 76 = .ok (.putfield 43, 3) := by decide +kernel
theorem dX10_eliminate_79 : decode cX10_eliminate 79 = .ok (.aload_n 0, 1) := by decide +kernel
theorem dX10_eliminate_80 : decode cX10_eliminate 80 = .ok (.getfield 19, 3) := by decide +kernel
theorem dX10_eliminate_83 : decode cX10_eliminate 83 = .ok (.getfield 95, 3) := by decide +kernel
theorem dX10_eliminate_86 : decode cX10_eliminate 86 = .ok (.ireturn, 1) := by decide +kernel
theorem dX10_rank_0 : decode cX10_rank 0 = .ok (.aload_n 0, 1) := by decide +kernel
theorem dX10_rank_1 : decode cX10_rank 1 = .ok (.getfield 43, 3) := by decide +kernel
theorem dX10_rank_4 : decode cX10_rank 4 = .ok (.ifCond .eq 13, 3) := by decide +kernel
theorem dX10_rank_7 : decode cX10_rank 7 = .ok (.aload_n 0, 1) := by decide +kernel
theorem dX10_rank_8 : decode cX10_rank 8 = .ok (.getfield 19, 3) := by decide +kernel
theorem dX10_rank_11 : decode cX10_rank 11 = .ok (.getfield 95, 3) := by decide +kernel
theorem dX10_rank_14 : decode cX10_rank 14 = .ok (.goto 4, 3) := by decide +kernel
theorem dX10_rank_17 : decode cX10_rank 17 = .ok (.iconst (-1), 1) := by decide +kernel
theorem dX10_rank_18 : decode cX10_rank 18 = .ok (.ireturn, 1) := by decide +kernel
theorem dX10_isSolvable_0 : decode cX10_isSolvable 0 = .ok (.aload_n 0, 1) := by decide +kernel
theorem dX10_isSolvable_1 : decode cX10_isSolvable 1 = .ok (.getfield 43, 3) := by decide +kernel
theorem dX10_isSolvable_4 : decode cX10_isSolvable 4 = .ok (.ifCond .ne 13, 3) := by decide +kernel
theorem dX10_isSolvable_7 : decode cX10_isSolvable 7 = .ok (.new 98, 3) := by decide +kernel
theorem dX10_isSolvable_10 : decode cX10_isSolvable 10 = .ok (.dup, 1) := by decide +kernel
theorem dX10_isSolvable_11 : decode cX10_isSolvable 11 = .ok (.ldc 100, 2) := by decide +kernel
theorem dX10_isSolvable_13 : decode cX10_isSolvable 13 = .ok (.invokespecial 102, 3) := by decide +kernel
theorem dX10_isSolvable_16 : decode cX10_isSolvable 16 = .ok (.athrow, 1) := by decide +kernel
theorem dX10_isSolvable_17 : decode cX10_isSolvable 17 = .ok (.aload_n 0, 1) := by decide +kernel
theorem dX10_isSolvable_18 : decode cX10_isSolvable 18 = .ok (.getfield 19, 3) := by decide +kernel
theorem dX10_isSolvable_21 : decode cX10_isSolvable 21 = .ok (.getfield 103, 3) := by decide +kernel
theorem dX10_isSolvable_24 : decode cX10_isSolvable 24 = .ok (.ireturn, 1) := by decide +kernel
theorem dX10_most_0 : decode cX10_most 0 = .ok (.aload_n 0, 1) := by decide +kernel
theorem dX10_most_1 : decode cX10_most 1 = .ok (.getfield 43, 3) := by decide +kernel
theorem dX10_most_4 : decode cX10_most 4 = .ok (.ifCond .ne 13, 3) := by decide +kernel
theorem dX10_most_7 : decode cX10_most 7 = .ok (.new 98, 3) := by decide +kernel
theorem dX10_most_10 : decode cX10_most 10 = .ok (.dup, 1) := by decide +kernel
theorem dX10_most_11 : decode cX10_most 11 = .ok (.ldc 100, 2) := by decide +kernel
theorem dX10_most_13 : decode cX10_most 13 = .ok (.invokespecial 102, 3) := by decide +kernel
theorem dX10_most_16 : decode cX10_most 16 = .ok (.athrow, 1) := by decide +kernel
theorem dX10_most_17 : decode cX10_most 17 = .ok (.aload_n 0, 1) := by decide +kernel
theorem dX10_most_18 : decode cX10_most 18 = .ok (.getfield 19, 3) := by decide +kernel
theorem dX10_most_21 : decode cX10_most 21 = .ok (.getfield 92, 3) := by decide +kernel
theorem dX10_most_24 : decode cX10_most 24 = .ok (.ireturn, 1) := by decide +kernel
theorem dX10_pivot_0 : decode cX10_pivot 0 = .ok (.aload_n 0, 1) := by decide +kernel
theorem dX10_pivot_1 : decode cX10_pivot 1 = .ok (.getfield 12, 3) := by decide +kernel
theorem dX10_pivot_4 : decode cX10_pivot 4 = .ok (.iload_n 1, 1) := by decide +kernel
theorem dX10_pivot_5 : decode cX10_pivot 5 = .ok (.invokevirtual 60, 3) := by decide +kernel
theorem dX10_pivot_8 : decode cX10_pivot 8 = .ok (.ifCond .ne 13, 3) := by decide +kernel
theorem dX10_pivot_11 : decode cX10_pivot 11 = .ok (.new 64, 3) := by decide +kernel
theorem dX10_pivot_14 : decode cX10_pivot 14 = .ok (.dup, 1) := by decide +kernel
theorem dX10_pivot_15 : decode cX10_pivot 15 = .ok (.ldc 106, 2) := by decide +kernel
theorem dX10_pivot_17 : decode cX10_pivot 17 = .ok (.invokespecial 68, 3) := by decide +kernel
theorem dX10_pivot_20 : decode cX10_pivot 20 = .ok (.athrow, 1) := by decide +kernel
theorem dX10_pivot_21 : decode cX10_pivot 21 = .ok (.aload_n 0, 1) := by decide +kernel
theorem dX10_pivot_22 : decode cX10_pivot 22 = .ok (.getfield 43, 3) := by decide +kernel
theorem dX10_pivot_25 : decode cX10_pivot 25 = .ok (.ifCond .ne 13, 3) := by decide +kernel
theorem dX10_pivot_28 : decode cX10_pivot 28 = .ok (.new 98, 3) := by decide +kernel
theorem dX10_pivot_31 : decode cX10_pivot 31 = .ok (.dup, 1) := by decide +kernel
theorem dX10_pivot_32 : decode cX10_pivot 32 = .ok (.ldc 100, 2) := by decide +kernel
theorem dX10_pivot_34 : decode cX10_pivot 34 = .ok (.invokespecial 102, 3) := by decide +kernel
theorem dX10_pivot_37 : decode cX10_pivot 37 = .ok (.athrow, 1) := by decide +kernel
theorem dX10_pivot_38 : decode cX10_pivot 38 = .ok (.aload_n 0, 1) := by decide +kernel
theorem dX10_pivot_39 : decode cX10_pivot 39 = .ok (.getfield 19, 3) := by decide +kernel
theorem dX10_pivot_42 : decode cX10_pivot 42 = .ok (.getfield 108, 3) := by decide +kernel
theorem dX10_pivot_45 : decode cX10_pivot 45 = .ok (.iload_n 1, 1) := by decide +kernel
theorem dX10_pivot_46 : decode cX10_pivot 46 = .ok (.iaload, 1) := by decide +kernel
theorem dX10_pivot_47 : decode cX10_pivot 47 = .ok (.ireturn, 1) := by decide +kernel
theorem dX10_solution_0 : decode cX10_solution 0 = .ok (.aload_n 0, 1) := by decide +kernel
theorem dX10_solution_1 : decode cX10_solution 1 = .ok (.getfield 12, 3) := by decide +kernel
theorem dX10_solution_4 : decode cX10_solution 4 = .ok (.iload_n 1, 1) := by decide +kernel
theorem dX10_solution_5 : decode cX10_solution 5 = .ok (.invokevirtual 60, 3) := by decide +kernel
theorem dX10_solution_8 : decode cX10_solution 8 = .ok (.ifCond .eq 10, 3) := by decide +kernel
theorem dX10_solution_11 : decode cX10_solution 11 = .ok (.iload_n 2, 1) := by decide +kernel
theorem dX10_solution_12 : decode cX10_solution 12 = .ok (.invokestatic 112, 3) := by decide +kernel
theorem dX10_solution_15 : decode cX10_solution 15 = .ok (.ifCond .ne 13, 3) := by decide +kernel
theorem dX10_solution_18 : decode cX10_solution 18 = .ok (.new 64, 3) := by decide +kernel
theorem dX10_solution_21 : decode cX10_solution 21 = .ok (.dup, 1) := by decide +kernel
theorem dX10_solution_22 : decode cX10_solution 22 = .ok (.ldc 115, 2) := by decide +kernel
theorem dX10_solution_24 : decode cX10_solution 24 = .ok (.invokespecial 68, 3) := by decide +kernel
theorem dX10_solution_27 : decode cX10_solution 27 = .ok (.athrow, 1) := by decide +kernel
theorem dX10_solution_28 : decode cX10_solution 28 = .ok (.aload_n 0, 1) := by decide +kernel
theorem dX10_solution_29 : decode cX10_solution 29 = .ok (.getfield 43, 3) := by decide +kernel
theorem dX10_solution_32 : decode cX10_solution 32 = .ok (.ifCond .eq 13, 3) := by decide +kernel
theorem dX10_solution_35 : decode cX10_solution 35 = .ok (.aload_n 0, 1) := by decide +kernel
theorem dX10_solution_36 : decode cX10_solution 36 = .ok (.getfield 19, 3) := by decide +kernel
theorem dX10_solution_39 : decode cX10_solution 39 = .ok (.getfield 103, 3) := by decide +kernel
theorem dX10_solution_42 : decode cX10_solution 42 = .ok (.ifCond .ne 13, 3) := by decide +kernel
theorem dX10_solution_45 : decode cX10_solution 45 = .ok (.new 98, 3) := by decide +kernel
theorem dX10_solution_48 : decode cX10_solution 48 = .ok (.dup, 1) := by decide +kernel
theorem dX10_solution_49 : decode cX10_solution 49 = .ok (.ldc 117, 2) := by decide +kernel
theorem dX10_solution_51 : decode cX10_solution 51 = .ok (.invokespecial 102, 3) := by decide +kernel
theorem dX10_solution_54 : decode cX10_solution 54 = .ok (.athrow, 1) := by decide +kernel
theorem dX10_solution_55 : decode cX10_solution 55 = .ok (.aload_n 0, 1) := by decide +kernel
theorem dX10_solution_56 : decode cX10_solution 56 = .ok (.getfield 19, 3) := by decide +kernel
theorem dX10_solution_59 : decode cX10_solution 59 = .ok (.getfield 119, 3) := by decide +kernel
theorem dX10_solution_62 : decode cX10_solution 62 = .ok (.iload_n 1, 1) := by decide +kernel
theorem dX10_solution_63 : decode cX10_solution 63 = .ok (.aaload, 1) := by decide +kernel
theorem dX10_solution_64 : decode cX10_solution 64 = .ok (.iload_n 2, 1) := by decide +kernel
theorem dX10_solution_65 : decode cX10_solution 65 = .ok (.iload_n 3, 1) := by decide +kernel
theorem dX10_solution_66 : decode cX10_solution 66 = .ok (.invokevirtual 123, 3) := by decide +kernel
theorem dX10_solution_69 : decode cX10_solution 69 = .ok (.ireturn, 1) := by decide +kernel
theorem dX10_determinant_0 : decode cX10_determinant 0 = .ok (.iload_n 1, 1) := by decide +kernel
theorem dX10_determinant_1 : decode cX10_determinant 1 = .ok (.invokestatic 112, 3) := by decide +kernel
theorem dX10_determinant_4 : decode cX10_determinant 4 = .ok (.ifCond .ne 13, 3) := by decide +kernel
theorem dX10_determinant_7 : decode cX10_determinant 7 = .ok (.new 64, 3) := by decide +kernel
theorem dX10_determinant_10 : decode cX10_determinant 10 = .ok (.dup, 1) := by decide +kernel
theorem dX10_determinant_11 : decode cX10_determinant 11 = .ok (.ldc 127, 2) := by decide +kernel
theorem dX10_determinant_13 : decode cX10_determinant 13 = .ok (.invokespecial 68, 3) := by decide +kernel
theorem dX10_determinant_16 : decode cX10_determinant 16 = .ok (.athrow, 1) := by decide +kernel
theorem dX10_determinant_17 : decode cX10_determinant 17 = .ok (.aload_n 0, 1) := by decide +kernel
theorem dX10_determinant_18 : decode cX10_determinant 18 = .ok (.getfield 43, 3) := by decide +kernel
theorem dX10_determinant_21 : decode cX10_determinant 21 = .ok (.ifCond .ne 13, 3) := by decide +kernel
theorem dX10_determinant_24 : decode cX10_determinant 24 = .ok (.new 98, 3) := by decide +kernel
theorem dX10_determinant_27 : decode cX10_determinant 27 = .ok (.dup, 1) := by decide +kernel
theorem dX10_determinant_28 : decode cX10_determinant 28 = .ok (.ldc 100, 2) := by decide +kernel
theorem dX10_determinant_30 : decode cX10_determinant 30 = .ok (.invokespecial 102, 3) := by decide +kernel
theorem dX10_determinant_33 : decode cX10_determinant 33 = .ok (.athrow, 1) := by decide +kernel
theorem dX10_determinant_34 : decode cX10_determinant 34 = .ok (.aload_n 0, 1) := by decide +kernel
theorem dX10_determinant_35 : decode cX10_determinant 35 = .ok (.getfield 19, 3) := by decide +kernel
theorem dX10_determinant_38 : decode cX10_determinant 38 = .ok (.getfield 129, 3) := by decide +kernel
theorem dX10_determinant_41 : decode cX10_determinant 41 = .ok (.iload_n 1, 1) := by decide +kernel
theorem dX10_determinant_42 : decode cX10_determinant 42 = .ok (.iload_n 2, 1) := by decide +kernel
theorem dX10_determinant_43 : decode cX10_determinant 43 = .ok (.invokevirtual 123, 3) := by decide +kernel
theorem dX10_determinant_46 : decode cX10_determinant 46 = .ok (.ireturn, 1) := by decide +kernel
theorem dX10_cell_0 : decode cX10_cell 0 = .ok (.aload_n 0, 1) := by decide +kernel
theorem dX10_cell_1 : decode cX10_cell 1 = .ok (.getfield 12, 3) := by decide +kernel
theorem dX10_cell_4 : decode cX10_cell 4 = .ok (.iload_n 1, 1) := by decide +kernel
theorem dX10_cell_5 : decode cX10_cell 5 = .ok (.iload_n 2, 1) := by decide +kernel
theorem dX10_cell_6 : decode cX10_cell 6 = .ok (.invokevirtual 132, 3) := by decide +kernel
theorem dX10_cell_9 : decode cX10_cell 9 = .ok (.ifCond .eq 10, 3) := by decide +kernel
theorem dX10_cell_12 : decode cX10_cell 12 = .ok (.iload_n 3, 1) := by decide +kernel
theorem dX10_cell_13 : decode cX10_cell 13 = .ok (.invokestatic 112, 3) := by decide +kernel
theorem dX10_cell_16 : decode cX10_cell 16 = .ok (.ifCond .ne 13, 3) := by decide +kernel
theorem dX10_cell_19 : decode cX10_cell 19 = .ok (.new 64, 3) := by decide +kernel
theorem dX10_cell_22 : decode cX10_cell 22 = .ok (.dup, 1) := by decide +kernel
theorem dX10_cell_23 : decode cX10_cell 23 = .ok (.ldc 136, 2) := by decide +kernel
theorem dX10_cell_25 : decode cX10_cell 25 = .ok (.invokespecial 68, 3) := by decide +kernel
theorem dX10_cell_28 : decode cX10_cell 28 = .ok (.athrow, 1) := by decide +kernel
theorem dX10_cell_29 : decode cX10_cell 29 = .ok (.aload_n 0, 1) := by decide +kernel
theorem dX10_cell_30 : decode cX10_cell 30 = .ok (.getfield 43, 3) := by decide +kernel
theorem dX10_cell_33 : decode cX10_cell 33 = .ok (.ifCond .ne 13, 3) := by decide +kernel
theorem dX10_cell_36 : decode cX10_cell 36 = .ok (.new 98, 3) := by decide +kernel
theorem dX10_cell_39 : decode cX10_cell 39 = .ok (.dup, 1) := by decide +kernel
theorem dX10_cell_40 : decode cX10_cell 40 = .ok (.ldc 100, 2) := by decide +kernel
theorem dX10_cell_42 : decode cX10_cell 42 = .ok (.invokespecial 102, 3) := by decide +kernel
theorem dX10_cell_45 : decode cX10_cell 45 = .ok (.athrow, 1) := by decide +kernel
theorem dX10_cell_46 : decode cX10_cell 46 = .ok (.aload_n 0, 1) := by decide +kernel
theorem dX10_cell_47 : decode cX10_cell 47 = .ok (.getfield 19, 3) := by decide +kernel
theorem dX10_cell_50 : decode cX10_cell 50 = .ok (.getfield 138, 3) := by decide +kernel
theorem dX10_cell_53 : decode cX10_cell 53 = .ok (.iload_n 1, 1) := by decide +kernel
theorem dX10_cell_54 : decode cX10_cell 54 = .ok (.aaload, 1) := by decide +kernel
theorem dX10_cell_55 : decode cX10_cell 55 = .ok (.getfield 142, 3) := by decide +kernel
theorem dX10_cell_58 : decode cX10_cell 58 = .ok (.iload_n 2, 1) := by decide +kernel
theorem dX10_cell_59 : decode cX10_cell 59 = .ok (.aaload, 1) := by decide +kernel
theorem dX10_cell_60 : decode cX10_cell 60 = .ok (.iload_n 3, 1) := by decide +kernel
theorem dX10_cell_61 : decode cX10_cell 61 = .ok (.iload 4, 2) := by decide +kernel
theorem dX10_cell_63 : decode cX10_cell 63 = .ok (.invokevirtual 123, 3) := by decide +kernel
theorem dX10_cell_66 : decode cX10_cell 66 = .ok (.ireturn, 1) := by decide +kernel
theorem dX10_told_0 : decode cX10_told 0 = .ok (.aload_n 0, 1) := by decide +kernel
theorem dX10_told_1 : decode cX10_told 1 = .ok (.getfield 12, 3) := by decide +kernel
theorem dX10_told_4 : decode cX10_told 4 = .ok (.iload_n 1, 1) := by decide +kernel
theorem dX10_told_5 : decode cX10_told 5 = .ok (.iload_n 2, 1) := by decide +kernel
theorem dX10_told_6 : decode cX10_told 6 = .ok (.invokevirtual 132, 3) := by decide +kernel
theorem dX10_told_9 : decode cX10_told 9 = .ok (.ifCond .eq 10, 3) := by decide +kernel
theorem dX10_told_12 : decode cX10_told 12 = .ok (.iload_n 3, 1) := by decide +kernel
theorem dX10_told_13 : decode cX10_told 13 = .ok (.invokestatic 112, 3) := by decide +kernel
theorem dX10_told_16 : decode cX10_told 16 = .ok (.ifCond .ne 13, 3) := by decide +kernel
theorem dX10_told_19 : decode cX10_told 19 = .ok (.new 64, 3) := by decide +kernel
theorem dX10_told_22 : decode cX10_told 22 = .ok (.dup, 1) := by decide +kernel
theorem dX10_told_23 : decode cX10_told 23 = .ok (.ldc 136, 2) := by decide +kernel
theorem dX10_told_25 : decode cX10_told 25 = .ok (.invokespecial 68, 3) := by decide +kernel
theorem dX10_told_28 : decode cX10_told 28 = .ok (.athrow, 1) := by decide +kernel
theorem dX10_told_29 : decode cX10_told 29 = .ok (.aload_n 0, 1) := by decide +kernel
theorem dX10_told_30 : decode cX10_told 30 = .ok (.getfield 12, 3) := by decide +kernel
theorem dX10_told_33 : decode cX10_told 33 = .ok (.iload_n 1, 1) := by decide +kernel
theorem dX10_told_34 : decode cX10_told 34 = .ok (.iload_n 2, 1) := by decide +kernel
theorem dX10_told_35 : decode cX10_told 35 = .ok (.aload_n 0, 1) := by decide +kernel
theorem dX10_told_36 : decode cX10_told 36 = .ok (.getfield 35, 3) := by decide +kernel
theorem dX10_told_39 : decode cX10_told 39 = .ok (.invokevirtual 147, 3) := by decide +kernel
theorem dX10_told_42 : decode cX10_told 42 = .ok (.aload_n 0, 1) := by decide +kernel
theorem dX10_told_43 : decode cX10_told 43 = .ok (.getfield 35, 3) := by decide +kernel
theorem dX10_told_46 : decode cX10_told 46 = .ok (.iload_n 3, 1) := by decide +kernel
theorem dX10_told_47 : decode cX10_told 47 = .ok (.iload 4, 2) := by decide +kernel
theorem dX10_told_49 : decode cX10_told 49 = .ok (.invokevirtual 123, 3) := by decide +kernel
theorem dX10_told_52 : decode cX10_told 52 = .ok (.ireturn, 1) := by decide +kernel
theorem dX10_modulo_0 : decode cX10_modulo 0 = .ok (.aload_n 0, 1) := by decide +kernel
theorem dX10_modulo_1 : decode cX10_modulo 1 = .ok (.getfield 26, 3) := by decide +kernel
theorem dX10_modulo_4 : decode cX10_modulo 4 = .ok (.aload_n 0, 1) := by decide +kernel
theorem dX10_modulo_5 : decode cX10_modulo 5 = .ok (.getfield 12, 3) := by decide +kernel
theorem dX10_modulo_8 : decode cX10_modulo 8 = .ok (.iload_n 1, 1) := by decide +kernel
theorem dX10_modulo_9 : decode cX10_modulo 9 = .ok (.invokevirtual 151, 3) := by decide +kernel
theorem dX10_modulo_12 : decode cX10_modulo 12 = .ok (.ireturn, 1) := by decide +kernel
theorem dX10_meter_0 : decode cX10_meter 0 = .ok (.aload_n 0, 1) := by decide +kernel
theorem dX10_meter_1 : decode cX10_meter 1 = .ok (.getfield 12, 3) := by decide +kernel
theorem dX10_meter_4 : decode cX10_meter 4 = .ok (.invokevirtual 75, 3) := by decide +kernel
theorem dX10_meter_7 : decode cX10_meter 7 = .ok (.ireturn, 1) := by decide +kernel
theorem dX10_isRight_0 : decode cX10_isRight 0 = .ok (.aload_n 0, 1) := by decide +kernel
theorem dX10_isRight_1 : decode cX10_isRight 1 = .ok (.getfield 12, 3) := by decide +kernel
theorem dX10_isRight_4 : decode cX10_isRight 4 = .ok (.iload_n 1, 1) := by decide +kernel
theorem dX10_isRight_5 : decode cX10_isRight 5 = .ok (.invokevirtual 60, 3) := by decide +kernel
theorem dX10_isRight_8 : decode cX10_isRight 8 = .ok (.ifCond .ne 13, 3) := by decide +kernel
theorem dX10_isRight_11 : decode cX10_isRight 11 = .ok (.new 64, 3) := by decide +kernel
theorem dX10_isRight_14 : decode cX10_isRight 14 = .ok (.dup, 1) := by decide +kernel
theorem dX10_isRight_15 : decode cX10_isRight 15 = .ok (.ldc 79, 2) := by decide +kernel
theorem dX10_isRight_17 : decode cX10_isRight 17 = .ok (.invokespecial 68, 3) := by decide +kernel
theorem dX10_isRight_20 : decode cX10_isRight 20 = .ok (.athrow, 1) := by decide +kernel
theorem dX10_isRight_21 : decode cX10_isRight 21 = .ok (.aload_n 0, 1) := by decide +kernel
theorem dX10_isRight_22 : decode cX10_isRight 22 = .ok (.getfield 43, 3) := by decide +kernel
theorem dX10_isRight_25 : decode cX10_isRight 25 = .ok (.ifCond .eq 13, 3) := by decide +kernel
theorem dX10_isRight_28 : decode cX10_isRight 28 = .ok (.aload_n 0, 1) := by decide +kernel
theorem dX10_isRight_29 : decode cX10_isRight 29 = .ok (.getfield 19, 3) := by decide +kernel
theorem dX10_isRight_32 : decode cX10_isRight 32 = .ok (.getfield 103, 3) := by decide +kernel
theorem dX10_isRight_35 : decode cX10_isRight 35 = .ok (.ifCond .ne 13, 3) := by decide +kernel
theorem dX10_isRight_38 : decode cX10_isRight 38 = .ok (.new 98, 3) := by decide +kernel
theorem dX10_isRight_41 : decode cX10_isRight 41 = .ok (.dup, 1) := by decide +kernel
theorem dX10_isRight_42 : decode cX10_isRight 42 = .ok (.ldc 117, 2) := by decide +kernel
theorem dX10_isRight_44 : decode cX10_isRight 44 = .ok (.invokespecial 102, 3) := by decide +kernel
theorem dX10_isRight_47 : decode cX10_isRight 47 = .ok (.athrow, 1) := by decide +kernel
theorem dX10_isRight_48 : decode cX10_isRight 48 = .ok (.aload_n 0, 1) := by decide +kernel
theorem dX10_isRight_49 : decode cX10_isRight 49 = .ok (.getfield 19, 3) := by decide +kernel
theorem dX10_isRight_52 : decode cX10_isRight 52 = .ok (.aload_n 0, 1) := by decide +kernel
theorem dX10_isRight_53 : decode cX10_isRight 53 = .ok (.getfield 12, 3) := by decide +kernel
theorem dX10_isRight_56 : decode cX10_isRight 56 = .ok (.iload_n 1, 1) := by decide +kernel
theorem dX10_isRight_57 : decode cX10_isRight 57 = .ok (.invokevirtual 155, 3) := by decide +kernel
theorem dX10_isRight_60 : decode cX10_isRight 60 = .ok (.ireturn, 1) := by decide +kernel
theorem dX10_forget_0 : decode cX10_forget 0 = .ok (.aload_n 0, 1) := by decide +kernel
theorem dX10_forget_1 : decode cX10_forget 1 = .ok (.iconst 0, 1) := by decide +kernel
theorem dX10_forget_2 : decode cX10_forget 2 = .ok (.putfield 39, 3) := by decide +kernel
theorem dX10_forget_5 : decode cX10_forget 5 = .ok (.aload_n 0, 1) := by decide +kernel
theorem dX10_forget_6 : decode cX10_forget 6 = .ok (.iconst 0, 1) := by decide +kernel
theorem dX10_forget_7 : decode cX10_forget 7 = .ok (.putfield 43, 3) := by decide +kernel
theorem dX10_forget_10 : decode cX10_forget 10 = .ok (.return_, 1) := by decide +kernel
theorem dX10_isPart_0 : decode cX10_isPart 0 = .ok (.iload_n 0, 1) := by decide +kernel
theorem dX10_isPart_1 : decode cX10_isPart 1 = .ok (.ifCond .lt 12, 3) := by decide +kernel
theorem dX10_isPart_4 : decode cX10_isPart 4 = .ok (.iload_n 0, 1) := by decide +kernel
theorem dX10_isPart_5 : decode cX10_isPart 5 = .ok (.iconst 2, 1) := by decide +kernel
theorem dX10_isPart_6 : decode cX10_isPart 6 = .ok (.if_icmp .gt 7, 3) := by decide +kernel
theorem dX10_isPart_9 : decode cX10_isPart 9 = .ok (.iconst 1, 1) := by decide +kernel
theorem dX10_isPart_10 : decode cX10_isPart 10 = .ok (.goto 4, 3) := by decide +kernel
theorem dX10_isPart_13 : decode cX10_isPart 13 = .ok (.iconst 0, 1) := by decide +kernel
theorem dX10_isPart_14 : decode cX10_isPart 14 = .ok (.ireturn, 1) := by decide +kernel
theorem dX10_signOf_0 : decode cX10_signOf 0 = .ok (.lload_n 0, 1) := by decide +kernel
theorem dX10_signOf_1 : decode cX10_signOf 1 = .ok (.lconst 0, 1) := by decide +kernel
theorem dX10_signOf_2 : decode cX10_signOf 2 = .ok (.lcmp, 1) := by decide +kernel
theorem dX10_signOf_3 : decode cX10_signOf 3 = .ok (.ifCond .ne 5, 3) := by decide +kernel
theorem dX10_signOf_6 : decode cX10_signOf 6 = .ok (.iconst 0, 1) := by decide +kernel
theorem dX10_signOf_7 : decode cX10_signOf 7 = .ok (.ireturn, 1) := by decide +kernel
theorem dX10_signOf_8 : decode cX10_signOf 8 = .ok (.lload_n 0, 1) := by decide +kernel
theorem dX10_signOf_9 : decode cX10_signOf 9 = .ok (.lconst 0, 1) := by decide +kernel
theorem dX10_signOf_10 : decode cX10_signOf 10 = .ok (.lcmp, 1) := by decide +kernel
theorem dX10_signOf_11 : decode cX10_signOf 11 = .ok (.ifCond .ge 7, 3) := by decide +kernel
theorem dX10_signOf_14 : decode cX10_signOf 14 = .ok (.iconst (-1), 1) := by decide +kernel
theorem dX10_signOf_15 : decode cX10_signOf 15 = .ok (.goto 4, 3) := by decide +kernel
theorem dX10_signOf_18 : decode cX10_signOf 18 = .ok (.iconst 1, 1) := by decide +kernel
theorem dX10_signOf_19 : decode cX10_signOf 19 = .ok (.ireturn, 1) := by decide +kernel
theorem dX10_spareBits_0 : decode cX10_spareBits 0 = .ok (.iload_n 0, 1) := by decide +kernel
theorem dX10_spareBits_1 : decode cX10_spareBits 1 = .ok (.ifCond .gt 6, 3) := by decide +kernel
theorem dX10_spareBits_4 : decode cX10_spareBits 4 = .ok (.bipush 31, 2) := by decide +kernel
theorem dX10_spareBits_6 : decode cX10_spareBits 6 = .ok (.ireturn, 1) := by decide +kernel
theorem dX10_spareBits_7 : decode cX10_spareBits 7 = .ok (.iload_n 0, 1) := by decide +kernel
theorem dX10_spareBits_8 : decode cX10_spareBits 8 = .ok (.istore_n 1, 1) := by decide +kernel
theorem dX10_spareBits_9 : decode cX10_spareBits 9 = .ok (.iconst 0, 1) := by decide +kernel
theorem dX10_spareBits_10 : decode cX10_spareBits 10 = .ok (.istore_n 2, 1) := by decide +kernel
theorem dX10_spareBits_11 : decode cX10_spareBits 11 = .ok (.bipush 16, 2) := by decide +kernel
theorem dX10_spareBits_13 : decode cX10_spareBits 13 = .ok (.istore_n 3, 1) := by decide +kernel
theorem dX10_spareBits_14 : decode cX10_spareBits 14 = .ok (.iload_n 3, 1) := by decide +kernel
theorem dX10_spareBits_15 : decode cX10_spareBits 15 = .ok (.ifCond .le 27, 3) := by decide +kernel
theorem dX10_spareBits_18 : decode cX10_spareBits 18 = .ok (.iload_n 1, 1) := by decide +kernel
theorem dX10_spareBits_19 : decode cX10_spareBits 19 = .ok (.bipush 31, 2) := by decide +kernel
theorem dX10_spareBits_21 : decode cX10_spareBits 21 = .ok (.iload_n 3, 1) := by decide +kernel
theorem dX10_spareBits_22 : decode cX10_spareBits 22 = .ok (.isub, 1) := by decide +kernel
theorem dX10_spareBits_23 : decode cX10_spareBits 23 = .ok (.iushr, 1) := by decide +kernel
theorem dX10_spareBits_24 : decode cX10_spareBits 24 = .ok (.ifCond .ne 11, 3) := by decide +kernel
theorem dX10_spareBits_27 : decode cX10_spareBits 27 = .ok (.iload_n 1, 1) := by decide +kernel
theorem dX10_spareBits_28 : decode cX10_spareBits 28 = .ok (.iload_n 3, 1) := by decide +kernel
theorem dX10_spareBits_29 : decode cX10_spareBits 29 = .ok (.ishl, 1) := by decide +kernel
theorem dX10_spareBits_30 : decode cX10_spareBits 30 = .ok (.istore_n 1, 1) := by decide +kernel
theorem dX10_spareBits_31 : decode cX10_spareBits 31 = .ok (.iload_n 2, 1) := by decide +kernel
theorem dX10_spareBits_32 : decode cX10_spareBits 32 = .ok (.iload_n 3, 1) := by decide +kernel
theorem dX10_spareBits_33 : decode cX10_spareBits 33 = .ok (.iadd, 1) := by decide +kernel
theorem dX10_spareBits_34 : decode cX10_spareBits 34 = .ok (.istore_n 2, 1) := by decide +kernel
theorem dX10_spareBits_35 : decode cX10_spareBits 35 = .ok (.iload_n 3, 1) := by decide +kernel
theorem dX10_spareBits_36 : decode cX10_spareBits 36 = .ok (.iconst 1, 1) := by decide +kernel
theorem dX10_spareBits_37 : decode cX10_spareBits 37 = .ok (.ishr, 1) := by decide +kernel
theorem dX10_spareBits_38 : decode cX10_spareBits 38 = .ok (.istore_n 3, 1) := by decide +kernel
theorem dX10_spareBits_39 : decode cX10_spareBits 39 = .ok (.goto (-25), 3) := by decide +kernel
theorem dX10_spareBits_42 : decode cX10_spareBits 42 = .ok (.iload_n 2, 1) := by decide +kernel
theorem dX10_spareBits_43 : decode cX10_spareBits 43 = .ok (.ireturn, 1) := by decide +kernel
theorem dX10_commonDivisor_0 : decode cX10_commonDivisor 0 = .ok (.lload_n 0, 1) := by decide +kernel
theorem dX10_commonDivisor_1 : decode cX10_commonDivisor 1 = .ok (.lstore 4, 2) := by decide +kernel
theorem dX10_commonDivisor_3 : decode cX10_commonDivisor 3 = .ok (.lload_n 2, 1) := by decide +kernel
theorem dX10_commonDivisor_4 : decode cX10_commonDivisor 4 = .ok (.lstore 6, 2) := by decide +kernel
theorem dX10_commonDivisor_6 : decode cX10_commonDivisor 6 = .ok (.iconst 0, 1) := by decide +kernel
theorem dX10_commonDivisor_7 : decode cX10_commonDivisor 7 = .ok (.istore 8, 2) := by decide +kernel
theorem dX10_commonDivisor_9 : decode cX10_commonDivisor 9 = .ok (.iload 8, 2) := by decide +kernel
theorem dX10_commonDivisor_11 : decode cX10_commonDivisor 11 = .ok (.ldc 159, 2) := by decide +kernel
theorem dX10_commonDivisor_13 : decode cX10_commonDivisor 13 = .ok (.if_icmp .ge 31, 3) := by decide +kernel
theorem dX10_commonDivisor_16 : decode cX10_commonDivisor 16 = .ok (.lload 6, 2) := by decide +kernel
theorem dX10_commonDivisor_18 : decode cX10_commonDivisor 18 = .ok (.lconst 0, 1) := by decide +kernel
theorem dX10_commonDivisor_19 : decode cX10_commonDivisor 19 = .ok (.lcmp, 1) := by decide +kernel
theorem dX10_commonDivisor_20 : decode cX10_commonDivisor 20 = .ok (.ifCond .eq 24, 3) := by decide +kernel
theorem dX10_commonDivisor_23 : decode cX10_commonDivisor 23 = .ok (.lload 4, 2) := by decide +kernel
theorem dX10_commonDivisor_25 : decode cX10_commonDivisor 25 = .ok (.lload 6, 2) := by decide +kernel
theorem dX10_commonDivisor_27 : decode cX10_commonDivisor 27 = .ok (.lrem, 1) := by decide +kernel
theorem dX10_commonDivisor_28 : decode cX10_commonDivisor 28 = .ok (.lstore 9, 2) := by decide +kernel
theorem dX10_commonDivisor_30 : decode cX10_commonDivisor 30 = .ok (.lload 6, 2) := by decide +kernel
theorem dX10_commonDivisor_32 : decode cX10_commonDivisor 32 = .ok (.lstore 4, 2) := by decide +kernel
theorem dX10_commonDivisor_34 : decode cX10_commonDivisor 34 = .ok (.lload 9, 2) := by decide +kernel
theorem dX10_commonDivisor_36 : decode cX10_commonDivisor 36 = .ok (.lstore 6, 2) := by decide +kernel
theorem dX10_commonDivisor_38 : decode cX10_commonDivisor 38 = .ok (.iinc 8 1, 3) := by decide +kernel
theorem dX10_commonDivisor_41 : decode cX10_commonDivisor 41 = .ok (.goto (-32), 3) := by decide +kernel
theorem dX10_commonDivisor_44 : decode cX10_commonDivisor 44 = .ok (.lload 4, 2) := by decide +kernel
theorem dX10_commonDivisor_46 : decode cX10_commonDivisor 46 = .ok (.lreturn, 1) := by decide +kernel
