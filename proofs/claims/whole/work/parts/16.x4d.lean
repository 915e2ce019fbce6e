theorem dX4_init_0 : decode cX4_init 0 = .ok (.aload_n 0, 1) := by decide +kernel
theorem dX4_init_1 : decode cX4_init 1 = .ok (.invokespecial 3, 3) := by decide +kernel
theorem dX4_init_4 : decode cX4_init 4 = .ok (.aload_n 0, 1) := by decide +kernel
theorem dX4_init_5 : decode cX4_init 5 = .ok (.bipush 42, 2) := by decide +kernel
theorem dX4_init_7 : decode cX4_init 7 = .ok (.newarray .long, 2) := by decide +kernel
theorem dX4_init_9 : decode cX4_init 9 = .ok (.putfield 9, 3) := by decide +kernel
theorem dX4_init_12 : decode cX4_init 12 = .ok (.aload_n 0, 1) := by decide +kernel
theorem dX4_init_13 : decode cX4_init 13 = .ok (.bipush 42, 2) := by decide +kernel
theorem dX4_init_15 : decode cX4_init 15 = .ok (.newarray .long, 2) := by decide +kernel
theorem dX4_init_17 : decode cX4_init 17 = .ok (.putfield 15, 3) := by decide +kernel
theorem dX4_init_20 : decode cX4_init 20 = .ok (.aload_n 0, 1) := by decide +kernel
theorem dX4_init_21 : decode cX4_init 21 = .ok (.iconst 1, 1) := by decide +kernel
theorem dX4_init_22 : decode cX4_init 22 = .ok (.invokevirtual 18, 3) := by decide +kernel
theorem dX4_init_25 : decode cX4_init 25 = .ok (.return_, 1) := by decide +kernel
theorem dX4_restart_0 : decode cX4_restart 0 = .ok (.aload_n 0, 1) := by decide +kernel
theorem dX4_restart_1 : decode cX4_restart 1 = .ok (.iload_n 1, 1) := by decide +kernel
theorem dX4_restart_2 : decode cX4_restart 2 = .ok (.putfield 22, 3) := by decide +kernel
theorem dX4_restart_5 : decode cX4_restart 5 = .ok (.iconst 0, 1) := by decide +kernel
theorem dX4_restart_6 : decode cX4_restart 6 = .ok (.istore_n 2, 1) := by decide +kernel
theorem dX4_restart_7 : decode cX4_restart 7 = .ok (.iload_n 2, 1) := by decide +kernel
theorem dX4_restart_8 : decode cX4_restart 8 = .ok (.aload_n 0, 1) := by decide +kernel
theorem dX4_restart_9 : decode cX4_restart 9 = .ok (.getfield 9, 3) := by decide +kernel
theorem dX4_restart_12 : decode cX4_restart 12 = .ok (.arraylength, 1) := by decide +kernel
theorem dX4_restart_13 : decode cX4_restart 13 = .ok (.if_icmp .ge 32, 3) := by decide +kernel
theorem dX4_restart_16 : decode cX4_restart 16 = .ok (.iload_n 2, 1) := by decide +kernel
theorem dX4_restart_17 : decode cX4_restart 17 = .ok (.aload_n 0, 1) := by decide +kernel
theorem dX4_restart_18 : decode cX4_restart 18 = .ok (.getfield 15, 3) := by decide +kernel
theorem dX4_restart_21 : decode cX4_restart 21 = .ok (.arraylength, 1) := by decide +kernel
theorem dX4_restart_22 : decode cX4_restart 22 = .ok (.if_icmp .ge 23, 3) := by decide +kernel
theorem dX4_restart_25 : decode cX4_restart 25 = .ok (.aload_n 0, 1) := by decide +kernel
theorem dX4_restart_26 : decode cX4_restart 26 = .ok (.getfield 9, 3) := by decide +kernel
theorem dX4_restart_29 : decode cX4_restart 29 = .ok (.iload_n 2, 1) := by decide +kernel
theorem dX4_restart_30 : decode cX4_restart 30 = .ok (.lconst 0, 1) := by decide +kernel
theorem dX4_restart_31 : decode cX4_restart 31 = .ok (.lastore, 1) := by decide +kernel
theorem dX4_restart_32 : decode cX4_restart 32 = .ok (.aload_n 0, 1) := by decide +kernel
theorem dX4_restart_33 : decode cX4_restart 33 = .ok (.getfield 15, 3) := by decide +kernel
theorem dX4_restart_36 : decode cX4_restart 36 = .ok (.iload_n 2, 1) := by decide +kernel
theorem dX4_restart_37 : decode cX4_restart 37 = .ok (.lconst 1, 1) := by decide +kernel
theorem dX4_restart_38 : decode cX4_restart 38 = .ok (.lastore, 1) := by decide +kernel
theorem dX4_restart_39 : decode cX4_restart 39 = .ok (.iinc 2 1, 3) := by decide +kernel
theorem dX4_restart_42 : decode cX4_restart 42 = .ok (.goto (-35), 3) := by decide +kernel
theorem dX4_restart_45 : decode cX4_restart 45 = .ok (.return_, 1) := by decide +kernel
theorem dX4_hasRow_0 : decode cX4_hasRow 0 = .ok (.iload_n 1, 1) := by decide +kernel
theorem dX4_hasRow_1 : decode cX4_hasRow 1 = .ok (.ifCond .lt 15, 3) := by decide +kernel
theorem dX4_hasRow_4 : decode cX4_hasRow 4 = .ok (.iload_n 1, 1) := by decide +kernel
theorem dX4_hasRow_5 : decode cX4_hasRow 5 = .ok (.aload_n 0, 1) := by decide +kernel
theorem dX4_hasRow_6 : decode cX4_hasRow 6 = .ok (.getfield 22, 3) := by decide +kernel
theorem dX4_hasRow_9 : decode cX4_hasRow 9 = .ok (.if_icmp .ge 7, 3) := by decide +kernel
theorem dX4_hasRow_12 : decode cX4_hasRow 12 = .ok (.iconst 1, 1) := by decide +kernel
theorem dX4_hasRow_13 : decode cX4_hasRow 13 = .ok (.goto 4, 3) := by decide +kernel
theorem dX4_hasRow_16 : decode cX4_hasRow 16 = .ok (.iconst 0, 1) := by decide +kernel
theorem dX4_hasRow_17 : decode cX4_hasRow 17 = .ok (.ireturn, 1) := by decide +kernel
theorem dX4_hasPlace_0 : decode cX4_hasPlace 0 = .ok (.aload_n 0, 1) := by decide +kernel
theorem dX4_hasPlace_1 : decode cX4_hasPlace 1 = .ok (.iload_n 1, 1) := by decide +kernel
theorem dX4_hasPlace_2 : decode cX4_hasPlace 2 = .ok (.invokevirtual 26, 3) := by decide +kernel
theorem dX4_hasPlace_5 : decode cX4_hasPlace 5 = .ok (.ifCond .eq 19, 3) := by decide +kernel
theorem dX4_hasPlace_8 : decode cX4_hasPlace 8 = .ok (.iload_n 2, 1) := by decide +kernel
theorem dX4_hasPlace_9 : decode cX4_hasPlace 9 = .ok (.ifCond .lt 15, 3) := by decide +kernel
theorem dX4_hasPlace_12 : decode cX4_hasPlace 12 = .ok (.iload_n 2, 1) := by decide +kernel
theorem dX4_hasPlace_13 : decode cX4_hasPlace 13 = .ok (.aload_n 0, 1) := by decide +kernel
theorem dX4_hasPlace_14 : decode cX4_hasPlace 14 = .ok (.getfield 22, 3) := by decide +kernel
theorem dX4_hasPlace_17 : decode cX4_hasPlace 17 = .ok (.if_icmp .gt 7, 3) := by decide +kernel
theorem dX4_hasPlace_20 : decode cX4_hasPlace 20 = .ok (.iconst 1, 1) := by decide +kernel
theorem dX4_hasPlace_21 : decode cX4_hasPlace 21 = .ok (.goto 4, 3) := by decide +kernel
theorem dX4_hasPlace_24 : decode cX4_hasPlace 24 = .ok (.iconst 0, 1) := by decide +kernel
theorem dX4_hasPlace_25 : decode cX4_hasPlace 25 = .ok (.ireturn, 1) := by decide +kernel
theorem dX4_numAt_0 : decode cX4_numAt 0 = .ok (.aload_n 0, 1) := by decide +kernel
theorem dX4_numAt_1 : decode cX4_numAt 1 = .ok (.iload_n 1, 1) := by decide +kernel
theorem dX4_numAt_2 : decode cX4_numAt 2 = .ok (.iload_n 2, 1) := by decide +kernel
theorem dX4_numAt_3 : decode cX4_numAt 3 = .ok (.invokevirtual 30, 3) := by decide +kernel
theorem dX4_numAt_6 : decode cX4_numAt 6 = .ok (.ifCond .eq 17, 3) := by decide +kernel
theorem dX4_numAt_9 : decode cX4_numAt 9 = .ok (.aload_n 0, 1) := by decide +kernel
theorem dX4_numAt_10 : decode cX4_numAt 10 = .ok (.getfield 9, 3) := by decide +kernel
theorem dX4_numAt_13 : decode cX4_numAt 13 = .ok (.iload_n 1, 1) := by decide +kernel
theorem dX4_numAt_14 : decode cX4_numAt 14 = .ok (.bipush 7, 2) := by decide +kernel
theorem dX4_numAt_16 : decode cX4_numAt 16 = .ok (.imul, 1) := by decide +kernel
theorem dX4_numAt_17 : decode cX4_numAt 17 = .ok (.iload_n 2, 1) := by decide +kernel
theorem dX4_numAt_18 : decode cX4_numAt 18 = .ok (.iadd, 1) := by decide +kernel
theorem dX4_numAt_19 : decode cX4_numAt 19 = .ok (.laload, 1) := by decide +kernel
theorem dX4_numAt_20 : decode cX4_numAt 20 = .ok (.goto 4, 3) := by decide +kernel
theorem dX4_numAt_23 : decode cX4_numAt 23 = .ok (.lconst 0, 1) := by decide +kernel
theorem dX4_numAt_24 : decode cX4_numAt 24 = .ok (.lreturn, 1) := by decide +kernel
theorem dX4_denAt_0 : decode cX4_denAt 0 = .ok (.aload_n 0, 1) := by decide +kernel
theorem dX4_denAt_1 : decode cX4_denAt 1 = .ok (.iload_n 1, 1) := by decide +kernel
theorem dX4_denAt_2 : decode cX4_denAt 2 = .ok (.iload_n 2, 1) := by decide +kernel
theorem dX4_denAt_3 : decode cX4_denAt 3 = .ok (.invokevirtual 30, 3) := by decide +kernel
theorem dX4_denAt_6 : decode cX4_denAt 6 = .ok (.ifCond .eq 17, 3) := by decide +kernel
theorem dX4_denAt_9 : decode cX4_denAt 9 = .ok (.aload_n 0, 1) := by decide +kernel
theorem dX4_denAt_10 : decode cX4_denAt 10 = .ok (.getfield 15, 3) := by decide +kernel
theorem dX4_denAt_13 : decode cX4_denAt 13 = .ok (.iload_n 1, 1) := by decide +kernel
theorem dX4_denAt_14 : decode cX4_denAt 14 = .ok (.bipush 7, 2) := by decide +kernel
theorem dX4_denAt_16 : decode cX4_denAt 16 = .ok (.imul, 1) := by decide +kernel
theorem dX4_denAt_17 : decode cX4_denAt 17 = .ok (.iload_n 2, 1) := by decide +kernel
theorem dX4_denAt_18 : decode cX4_denAt 18 = .ok (.iadd, 1) := by decide +kernel
theorem dX4_denAt_19 : decode cX4_denAt 19 = .ok (.laload, 1) := by decide +kernel
theorem dX4_denAt_20 : decode cX4_denAt 20 = .ok (.goto 4, 3) := by decide +kernel
theorem dX4_denAt_23 : decode cX4_denAt 23 = .ok (.lconst 1, 1) := by decide +kernel
theorem dX4_denAt_24 : decode cX4_denAt 24 = .ok (.lreturn, 1) := by decide +kernel
theorem dX4_put_0 : decode cX4_put 0 = .ok (.lload_n 3, 1) := by decide +kernel
theorem dX4_put_1 : decode cX4_put 1 = .ok (.invokestatic 34, 3) := by decide +kernel
theorem dX4_put_4 : decode cX4_put 4 = .ok (.lload 5, 2) := by decide +kernel
theorem dX4_put_6 : decode cX4_put 6 = .ok (.invokestatic 34, 3) := by decide +kernel
theorem dX4_put_9 : decode cX4_put 9 = .ok (.invokestatic 40, 3) := by decide +kernel
theorem dX4_put_12 : decode cX4_put 12 = .ok (.lstore 7, 2) := by decide +kernel
theorem dX4_put_14 : decode cX4_put 14 = .ok (.aload_n 0, 1) := by decide +kernel
theorem dX4_put_15 : decode cX4_put 15 = .ok (.iload_n 1, 1) := by decide +kernel
theorem dX4_put_16 : decode cX4_put 16 = .ok (.iload_n 2, 1) := by decide +kernel
theorem dX4_put_17 : decode cX4_put 17 = .ok (.invokevirtual 30, 3) := by decide +kernel
theorem dX4_put_20 : decode cX4_put 20 = .ok (.ifCond .eq 10, 3) := by decide +kernel
theorem dX4_put_23 : decode cX4_put 23 = .ok (.lload 7, 2) := by decide +kernel
theorem dX4_put_25 : decode cX4_put 25 = .ok (.lconst 0, 1) := by decide +kernel
theorem dX4_put_26 : decode cX4_put 26 = .ok (.lcmp, 1) := by decide +kernel
theorem dX4_put_27 : decode cX4_put 27 = .ok (.ifCond .ne 4, 3) := by decide +kernel
theorem dX4_put_30 : decode cX4_put 30 = .ok (.return_, 1) := by decide +kernel
theorem dX4_put_31 : decode cX4_put 31 = .ok (.iload_n 1, 1) := by decide +kernel
theorem dX4_put_32 : decode cX4_put 32 = .ok (.bipush 7, 2) := by decide +kernel
theorem dX4_put_34 : decode cX4_put 34 = .ok (.imul, 1) := by decide +kernel
theorem dX4_put_35 : decode cX4_put 35 = .ok (.iload_n 2, 1) := by decide +kernel
theorem dX4_put_36 : decode cX4_put 36 = .ok (.iadd, 1) := by decide +kernel
theorem dX4_put_37 : decode cX4_put 37 = .ok (.istore 9, 2) := by decide +kernel
theorem dX4_put_39 : decode cX4_put 39 = .ok (.aload_n 0, 1) := by decide +kernel
theorem dX4_put_40 : decode cX4_put 40 = .ok (.getfield 9, 3) := by decide +kernel
theorem dX4_put_43 : decode cX4_put 43 = .ok (.iload 9, 2) := by decide +kernel
theorem dX4_put_45 : decode cX4_put 45 = .ok (.lload 5, 2) := by decide +kernel
theorem dX4_put_47 : decode cX4_put 47 = .ok (.lconst 0, 1) := by decide +kernel
theorem dX4_put_48 : decode cX4_put 48 = .ok (.lcmp, 1) := by decide +kernel
theorem dX4_put_49 : decode cX4_put 49 = .ok (.ifCond .ge 8, 3) := by decide +kernel
theorem dX4_put_52 : decode cX4_put 52 = .ok (.lload_n 3, 1) := by decide +kernel
theorem dX4_put_53 : decode cX4_put 53 = .ok (.lneg, 1) := by decide +kernel
theorem dX4_put_54 : decode cX4_put 54 = .ok (.goto 4, 3) := by decide +kernel
theorem dX4_put_57 : decode cX4_put 57 = .ok (.lload_n 3, 1) := by decide +kernel
theorem dX4_put_58 : decode cX4_put 58 = .ok (.lload 7, 2) := by decide +kernel
theorem dX4_put_60 : decode cX4_put 60 = .ok (.ldiv, 1) := by decide +kernel
theorem dX4_put_61 : decode cX4_put 61 = .ok (.lastore, 1) := by decide +kernel
theorem dX4_put_62 : decode cX4_put 62 = .ok (.aload_n 0, 1) := by decide +kernel
theorem dX4_put_63 : decode cX4_put 63 = .ok (.getfield 15, 3) := by decide +kernel
theorem dX4_put_66 : decode cX4_put 66 = .ok (.iload 9, 2) := by decide +kernel
theorem dX4_put_68 : decode cX4_put 68 = .ok (.lload 5, 2) := by decide +kernel
theorem dX4_put_70 : decode cX4_put 70 = .ok (.invokestatic 34, 3) := by decide +kernel
theorem dX4_put_73 : decode cX4_put 73 = .ok (.lload 7, 2) := by decide +kernel
theorem dX4_put_75 : decode cX4_put 75 = .ok (.ldiv, 1) := by decide +kernel
theorem dX4_put_76 : decode cX4_put 76 = .ok (.lastore, 1) := by decide +kernel
theorem dX4_put_77 : decode cX4_put 77 = .ok (.return_, 1) := by decide +kernel
theorem dX4_show_0 : decode cX4_show 0 = .ok (.aload_n 3, 1) := by decide +kernel
theorem dX4_show_1 : decode cX4_show 1 = .ok (.aload_n 0, 1) := by decide +kernel
theorem dX4_show_2 : decode cX4_show 2 = .ok (.iload_n 1, 1) := by decide +kernel
theorem dX4_show_3 : decode cX4_show 3 = .ok (.iload_n 2, 1) := by decide +kernel
theorem dX4_show_4 : decode cX4_show 4 = .ok (.invokevirtual 44, 3) := by decide +kernel
theorem dX4_show_7 : decode cX4_show 7 = .ok (.aload_n 0, 1) := by decide +kernel
theorem dX4_show_8 : decode cX4_show 8 = .ok (.iload_n 1, 1) := by decide +kernel
theorem dX4_show_9 : decode cX4_show 9 = .ok (.iload_n 2, 1) := by decide +kernel
theorem dX4_show_10 : decode cX4_show 10 = .ok (.invokevirtual 48, 3) := by decide +kernel
theorem dX4_show_13 : decode cX4_show 13 = .ok (.invokevirtual 51, 3) := by decide +kernel
theorem dX4_show_16 : decode cX4_show 16 = .ok (.return_, 1) := by decide +kernel
theorem dX4_limbCount_0 : decode cX4_limbCount 0 = .ok (.iconst 0, 1) := by decide +kernel
theorem dX4_limbCount_1 : decode cX4_limbCount 1 = .ok (.istore_n 1, 1) := by decide +kernel
theorem dX4_limbCount_2 : decode cX4_limbCount 2 = .ok (.iconst 0, 1) := by decide +kernel
theorem dX4_limbCount_3 : decode cX4_limbCount 3 = .ok (.istore_n 2, 1) := by decide +kernel
theorem dX4_limbCount_4 : decode cX4_limbCount 4 = .ok (.iload_n 2, 1) := by decide +kernel
theorem dX4_limbCount_5 : decode cX4_limbCount 5 = .ok (.aload_n 0, 1) := by decide +kernel
theorem dX4_limbCount_6 : decode cX4_limbCount 6 = .ok (.getfield 22, 3) := by decide +kernel
theorem dX4_limbCount_9 : decode cX4_limbCount 9 = .ok (.if_icmp .ge 50, 3) := by decide +kernel
theorem dX4_limbCount_12 : decode cX4_limbCount 12 = .ok (.iconst 0, 1) := by decide +kernel
theorem dX4_limbCount_13 : decode cX4_limbCount 13 = .ok (.istore_n 3, 1) := by decide +kernel
theorem dX4_limbCount_14 : decode cX4_limbCount 14 = .ok (.iload_n 3, 1) := by decide +kernel
theorem dX4_limbCount_15 : decode cX4_limbCount 15 = .ok (.aload_n 0, 1) := by decide +kernel
theorem dX4_limbCount_16 : decode cX4_limbCount 16 = .ok (.getfield 22, 3) := by decide +kernel
theorem dX4_limbCount_19 : decode cX4_limbCount 19 = .ok (.if_icmp .gt 34, 3) := by decide +kernel
theorem dX4_limbCount_22 : decode cX4_limbCount 22 = .ok (.iload_n 1, 1) := by decide +kernel
theorem dX4_limbCount_23 : decode cX4_limbCount 23 = .ok (.aload_n 0, 1) := by decide +kernel
theorem dX4_limbCount_24 : decode cX4_limbCount 24 = .ok (.iload_n 2, 1) := by decide +kernel
theorem dX4_limbCount_25 : decode cX4_limbCount 25 = .ok (.iload_n 3, 1) := by decide +kernel
theorem dX4_limbCount_26 : decode cX4_limbCount 26 = .ok (.invokevirtual 44, 3) := by decide +kernel
theorem dX4_limbCount_29 : decode cX4_limbCount 29 = .ok (.invokestatic 34, 3) := by decide +kernel
theorem dX4_limbCount_32 : decode cX4_limbCount 32 = .ok (.invokestatic 57, 3) := by decide +kernel
theorem dX4_limbCount_35 : decode cX4_limbCount 35 = .ok (.aload_n 0, 1) := by decide +kernel
theorem dX4_limbCount_36 : decode cX4_limbCount 36 = .ok (.iload_n 2, 1) := by decide +kernel
theorem dX4_limbCount_37 : decode cX4_limbCount 37 = .ok (.iload_n 3, 1) := by decide +kernel
theorem dX4_limbCount_38 : decode cX4_limbCount 38 = .ok (.invokevirtual 48, 3) := by decide +kernel
theorem dX4_limbCount_41 : decode cX4_limbCount 41 = .ok (.invokestatic 57, 3) := by decide +kernel
theorem dX4_limbCount_44 : decode cX4_limbCount 44 = .ok (.iadd, 1) := by decide +kernel
theorem dX4_limbCount_45 : decode cX4_limbCount 45 = .ok (.iadd, 1) := by decide +kernel
theorem dX4_limbCount_46 : decode cX4_limbCount 46 = .ok (.istore_n 1, 1) := by decide +kernel
theorem dX4_limbCount_47 : decode cX4_limbCount 47 = .ok (.iinc 3 1, 3) := by decide +kernel
theorem dX4_limbCount_50 : decode cX4_limbCount 50 = .ok (.goto (-36), 3) := by decide +kernel
theorem dX4_limbCount_53 : decode cX4_limbCount 53 = .ok (.iinc 2 1, 3) := by decide +kernel
theorem dX4_limbCount_56 : decode cX4_limbCount 56 = .ok (.goto (-52), 3) := by decide +kernel
theorem dX4_limbCount_59 : decode cX4_limbCount 59 = .ok (.iload_n 1, 1) := by decide +kernel
theorem dX4_limbCount_60 : decode cX4_limbCount 60 = .ok (.ireturn, 1) := by decide +kernel
theorem dX4_limbsOf_0 : decode cX4_limbsOf 0 = .ok (.iconst 0, 1) := by decide +kernel
theorem dX4_limbsOf_1 : decode cX4_limbsOf 1 = .ok (.istore_n 2, 1) := by decide +kernel
theorem dX4_limbsOf_2 : decode cX4_limbsOf 2 = .ok (.lload_n 0, 1) := by decide +kernel
theorem dX4_limbsOf_3 : decode cX4_limbsOf 3 = .ok (.lstore_n 3, 1) := by decide +kernel
theorem dX4_limbsOf_4 : decode cX4_limbsOf 4 = .ok (.lload_n 3, 1) := by decide +kernel
theorem dX4_limbsOf_5 : decode cX4_limbsOf 5 = .ok (.lconst 0, 1) := by decide +kernel
theorem dX4_limbsOf_6 : decode cX4_limbsOf 6 = .ok (.lcmp, 1) := by decide +kernel
theorem dX4_limbsOf_7 : decode cX4_limbsOf 7 = .ok (.ifCond .le 14, 3) := by decide +kernel
theorem dX4_limbsOf_10 : decode cX4_limbsOf 10 = .ok (.iinc 2 1, 3) := by decide +kernel
theorem dX4_limbsOf_13 : decode cX4_limbsOf 13 = .ok (.lload_n 3, 1) := by decide +kernel
theorem dX4_limbsOf_14 : decode cX4_limbsOf 14 = .ok (.bipush 16, 2) := by decide +kernel
theorem dX4_limbsOf_16 : decode cX4_limbsOf 16 = .ok (.lshr, 1) := by decide +kernel
theorem dX4_limbsOf_17 : decode cX4_limbsOf 17 = .ok (.lstore_n 3, 1) := by decide +kernel
theorem dX4_limbsOf_18 : decode cX4_limbsOf 18 = .ok (.goto (-14), 3) := by decide +kernel
theorem dX4_limbsOf_21 : decode cX4_limbsOf 21 = .ok (.iload_n 2, 1) := by decide +kernel
theorem dX4_limbsOf_22 : decode cX4_limbsOf 22 = .ok (.ireturn, 1) := by decide +kernel
