theorem dX6_init_0 : decode cX6_init 0 = .ok (.aload_n 0, 1) := by decide +kernel
theorem dX6_init_1 : decode cX6_init 1 = .ok (.invokespecial 1, 3) := by decide +kernel
theorem dX6_init_4 : decode cX6_init 4 = .ok (.aload_n 0, 1) := by decide +kernel
theorem dX6_init_5 : decode cX6_init 5 = .ok (.new 7, 3) := by decide +kernel
theorem dX6_init_8 : decode cX6_init 8 = .ok (.dup, 1) := by decide +kernel
theorem dX6_init_9 : decode cX6_init 9 = .ok (.iload_n 1, 1) := by decide +kernel
theorem dX6_init_10 : decode cX6_init 10 = .ok (.invokespecial 9, 3) := by decide +kernel
theorem dX6_init_13 : decode cX6_init 13 = .ok (.putfield 12, 3) := by decide +kernel
theorem dX6_init_16 : decode cX6_init 16 = .ok (.aload_n 0, 1) := by decide +kernel
theorem dX6_init_17 : decode cX6_init 17 = .ok (.new 7, 3) := by decide +kernel
theorem dX6_init_20 : decode cX6_init 20 = .ok (.dup, 1) := by decide +kernel
theorem dX6_init_21 : decode cX6_init 21 = .ok (.iload_n 2, 1) := by decide +kernel
theorem dX6_init_22 : decode cX6_init 22 = .ok (.invokespecial 9, 3) := by decide +kernel
theorem dX6_init_25 : decode cX6_init 25 = .ok (.putfield 18, 3) := by decide +kernel
theorem dX6_init_28 : decode cX6_init 28 = .ok (.aload_n 0, 1) := by decide +kernel
theorem dX6_init_29 : decode cX6_init 29 = .ok (.invokevirtual 21, 3) := by decide +kernel
theorem dX6_init_32 : decode cX6_init 32 = .ok (.return_, 1) := by decide +kernel
theorem dX6_clear_0 : decode cX6_clear 0 = .ok (.aload_n 0, 1) := by decide +kernel
theorem dX6_clear_1 : decode cX6_clear 1 = .ok (.iconst 0, 1) := by decide +kernel
theorem dX6_clear_2 : decode cX6_clear 2 = .ok (.putfield 24, 3) := by decide +kernel
theorem dX6_clear_5 : decode cX6_clear 5 = .ok (.aload_n 0, 1) := by decide +kernel
theorem dX6_clear_6 : decode cX6_clear 6 = .ok (.getfield 12, 3) := by decide +kernel
theorem dX6_clear_9 : decode cX6_clear 9 = .ok (.invokevirtual 28, 3) := by decide +kernel
theorem dX6_clear_12 : decode cX6_clear 12 = .ok (.aload_n 0, 1) := by decide +kernel
theorem dX6_clear_13 : decode cX6_clear 13 = .ok (.getfield 18, 3) := by decide +kernel
theorem dX6_clear_16 : decode cX6_clear 16 = .ok (.lconst 1, 1) := by decide +kernel
theorem dX6_clear_17 : decode cX6_clear 17 = .ok (.invokevirtual 29, 3) := by decide +kernel
theorem dX6_clear_20 : decode cX6_clear 20 = .ok (.return_, 1) := by decide +kernel
theorem dX6_assign_0 : decode cX6_assign 0 = .ok (.aload_n 0, 1) := by decide +kernel
theorem dX6_assign_1 : decode cX6_assign 1 = .ok (.lload_n 1, 1) := by decide +kernel
theorem dX6_assign_2 : decode cX6_assign 2 = .ok (.invokestatic 33, 3) := by decide +kernel
theorem dX6_assign_5 : decode cX6_assign 5 = .ok (.putfield 24, 3) := by decide +kernel
theorem dX6_assign_8 : decode cX6_assign 8 = .ok (.aload_n 0, 1) := by decide +kernel
theorem dX6_assign_9 : decode cX6_assign 9 = .ok (.getfield 12, 3) := by decide +kernel
theorem dX6_assign_12 : decode cX6_assign 12 = .ok (.lload_n 1, 1) := by decide +kernel
theorem dX6_assign_13 : decode cX6_assign 13 = .ok (.invokestatic 39, 3) := by decide +kernel
theorem dX6_assign_16 : decode cX6_assign 16 = .ok (.invokevirtual 29, 3) := by decide +kernel
theorem dX6_assign_19 : decode cX6_assign 19 = .ok (.aload_n 0, 1) := by decide +kernel
theorem dX6_assign_20 : decode cX6_assign 20 = .ok (.getfield 18, 3) := by decide +kernel
theorem dX6_assign_23 : decode cX6_assign 23 = .ok (.lload_n 3, 1) := by decide +kernel
theorem dX6_assign_24 : decode cX6_assign 24 = .ok (.invokevirtual 29, 3) := by decide +kernel
theorem dX6_assign_27 : decode cX6_assign 27 = .ok (.return_, 1) := by decide +kernel
theorem dX6_limbCount_0 : decode cX6_limbCount 0 = .ok (.aload_n 0, 1) := by decide +kernel
theorem dX6_limbCount_1 : decode cX6_limbCount 1 = .ok (.getfield 12, 3) := by decide +kernel
theorem dX6_limbCount_4 : decode cX6_limbCount 4 = .ok (.invokevirtual 45, 3) := by decide +kernel
theorem dX6_limbCount_7 : decode cX6_limbCount 7 = .ok (.aload_n 0, 1) := by decide +kernel
theorem dX6_limbCount_8 : decode cX6_limbCount 8 = .ok (.getfield 18, 3) := by decide +kernel
theorem dX6_limbCount_11 : decode cX6_limbCount 11 = .ok (.invokevirtual 45, 3) := by decide +kernel
theorem dX6_limbCount_14 : decode cX6_limbCount 14 = .ok (.iadd, 1) := by decide +kernel
theorem dX6_limbCount_15 : decode cX6_limbCount 15 = .ok (.ireturn, 1) := by decide +kernel
theorem dX6_tell_0 : decode cX6_tell 0 = .ok (.iload_n 1, 1) := by decide +kernel
theorem dX6_tell_1 : decode cX6_tell 1 = .ok (.ifCond .ne 8, 3) := by decide +kernel
theorem dX6_tell_4 : decode cX6_tell 4 = .ok (.aload_n 0, 1) := by decide +kernel
theorem dX6_tell_5 : decode cX6_tell 5 = .ok (.getfield 24, 3) := by decide +kernel
theorem dX6_tell_8 : decode cX6_tell 8 = .ok (.ireturn, 1) := by decide +kernel
theorem dX6_tell_9 : decode cX6_tell 9 = .ok (.iload_n 1, 1) := by decide +kernel
theorem dX6_tell_10 : decode cX6_tell 10 = .ok (.iconst 1, 1) := by decide +kernel
theorem dX6_tell_11 : decode cX6_tell 11 = .ok (.if_icmp .ne 10, 3) := by decide +kernel
theorem dX6_tell_14 : decode cX6_tell 14 = .ok (.aload_n 0, 1) := by decide +kernel
theorem dX6_tell_15 : decode cX6_tell 15 = .ok (.getfield 12, 3) := by decide +kernel
theorem dX6_tell_18 : decode cX6_tell 18 = .ok (.goto 7, 3) := by decide +kernel
theorem dX6_tell_21 : decode cX6_tell 21 = .ok (.aload_n 0, 1) := by decide +kernel
theorem dX6_tell_22 : decode cX6_tell 22 = .ok (.getfield 18, 3) := by decide +kernel
theorem dX6_tell_25 : decode cX6_tell 25 = .ok (.astore_n 3, 1) := by decide +kernel
theorem dX6_tell_26 : decode cX6_tell 26 = .ok (.iload_n 2, 1) := by decide +kernel
theorem dX6_tell_27 : decode cX6_tell 27 = .ok (.iconst (-1), 1) := by decide +kernel
theorem dX6_tell_28 : decode cX6_tell 28 = .ok (.if_icmp .ne 10, 3) := by decide +kernel
theorem dX6_tell_31 : decode cX6_tell 31 = .ok (.aload_n 3, 1) := by decide +kernel
theorem dX6_tell_32 : decode cX6_tell 32 = .ok (.invokevirtual 45, 3) := by decide +kernel
theorem dX6_tell_35 : decode cX6_tell 35 = .ok (.goto 8, 3) := by decide +kernel
theorem dX6_tell_38 : decode cX6_tell 38 = .ok (.aload_n 3, 1) := by decide +kernel
theorem dX6_tell_39 : decode cX6_tell 39 = .ok (.iload_n 2, 1) := by decide +kernel
theorem dX6_tell_40 : decode cX6_tell 40 = .ok (.invokevirtual 49, 3) := by decide +kernel
theorem dX6_tell_43 : decode cX6_tell 43 = .ok (.ireturn, 1) := by decide +kernel
