theorem dX1_tip_23 : decode cX1_tip 23 = .ok (.iaload, 1) := by decide +kernel
theorem dX1_tip_24 : decode cX1_tip 24 = .ok (.iload_n 1, 1) := by decide +kernel
theorem dX1_tip_25 : decode cX1_tip 25 = .ok (.invokestatic 80, 3) := by decide +kernel
theorem dX1_tip_28 : decode cX1_tip 28 = .ok (.ior, 1) := by decide +kernel
theorem dX1_tip_29 : decode cX1_tip 29 = .ok (.goto 16, 3) := by decide +kernel
theorem dX1_tip_32 : decode cX1_tip 32 = .ok (.aload_n 0, 1) := by decide +kernel
theorem dX1_tip_33 : decode cX1_tip 33 = .ok (.getfield 29, 3) := by decide +kernel
theorem dX1_tip_36 : decode cX1_tip 36 = .ok (.iload_n 2, 1) := by decide +kernel
theorem dX1_tip_37 : decode cX1_tip 37 = .ok (.iaload, 1) := by decide +kernel
theorem dX1_tip_38 : decode cX1_tip 38 = .ok (.iload_n 1, 1) := by decide +kernel
theorem dX1_tip_39 : decode cX1_tip 39 = .ok (.invokestatic 80, 3) := by decide +kernel
theorem dX1_tip_42 : decode cX1_tip 42 = .ok (.iconst (-1), 1) := by decide +kernel
theorem dX1_tip_43 : decode cX1_tip 43 = .ok (.ixor, 1) := by decide +kernel
theorem dX1_tip_44 : decode cX1_tip 44 = .ok (.iand, 1) := by decide +kernel
theorem dX1_tip_45 : decode cX1_tip 45 = .ok (.iastore, 1) := by decide +kernel
theorem dX1_tip_46 : decode cX1_tip 46 = .ok (.return_, 1) := by decide +kernel
theorem dX1_checkHolder_0 : decode cX1_checkHolder 0 = .ok (.iload_n 0, 1) := by decide +kernel
theorem dX1_checkHolder_1 : decode cX1_checkHolder 1 = .ok (.ifCond .lt 8, 3) := by decide +kernel
theorem dX1_checkHolder_4 : decode cX1_checkHolder 4 = .ok (.iload_n 0, 1) := by decide +kernel
theorem dX1_checkHolder_5 : decode cX1_checkHolder 5 = .ok (.iconst 2, 1) := by decide +kernel
theorem dX1_checkHolder_6 : decode cX1_checkHolder 6 = .ok (.if_icmp .lt 13, 3) := by decide +kernel
theorem dX1_checkHolder_9 : decode cX1_checkHolder 9 = .ok (.new 67, 3) := by decide +kernel
theorem dX1_checkHolder_12 : decode cX1_checkHolder 12 = .ok (.dup, 1) := by decide +kernel
theorem dX1_checkHolder_13 : decode cX1_checkHolder 13 = .ok (.ldc 154, 2) := by decide +kernel
theorem dX1_checkHolder_15 : decode cX1_checkHolder 15 = .ok (.invokespecial 71, 3) := by decide +kernel
theorem dX1_checkHolder_18 : decode cX1_checkHolder 18 = .ok (.athrow, 1) := by decide +kernel
theorem dX1_checkHolder_19 : decode cX1_checkHolder 19 = .ok (.return_, 1) := by decide +kernel
theorem dX1_reaches_0 : decode cX1_reaches 0 = .ok (.aload_n 0, 1) := by decide +kernel
theorem dX1_reaches_1 : decode cX1_reaches 1 = .ok (.iload_n 1, 1) := by decide +kernel
theorem dX1_reaches_2 : decode cX1_reaches 2 = .ok (.invokevirtual 64, 3) := by decide +kernel
theorem dX1_reaches_5 : decode cX1_reaches 5 = .ok (.aload_n 0, 1) := by decide +kernel
theorem dX1_reaches_6 : decode cX1_reaches 6 = .ok (.iload_n 2, 1) := by decide +kernel
theorem dX1_reaches_7 : decode cX1_reaches 7 = .ok (.invokevirtual 64, 3) := by decide +kernel
theorem dX1_reaches_10 : decode cX1_reaches 10 = .ok (.aload_n 0, 1) := by decide +kernel
theorem dX1_reaches_11 : decode cX1_reaches 11 = .ok (.iload_n 1, 1) := by decide +kernel
theorem dX1_reaches_12 : decode cX1_reaches 12 = .ok (.invokevirtual 84, 3) := by decide +kernel
theorem dX1_reaches_15 : decode cX1_reaches 15 = .ok (.aload_n 0, 1) := by decide +kernel
theorem dX1_reaches_16 : decode cX1_reaches 16 = .ok (.getfield 32, 3) := by decide +kernel
theorem dX1_reaches_19 : decode cX1_reaches 19 = .ok (.iload_n 2, 1) := by decide +kernel
theorem dX1_reaches_20 : decode cX1_reaches 20 = .ok (.iaload, 1) := by decide +kernel
theorem dX1_reaches_21 : decode cX1_reaches 21 = .ok (.ifCond .eq 7, 3) := by decide +kernel
theorem dX1_reaches_24 : decode cX1_reaches 24 = .ok (.iconst 1, 1) := by decide +kernel
theorem dX1_reaches_25 : decode cX1_reaches 25 = .ok (.goto 4, 3) := by decide +kernel
theorem dX1_reaches_28 : decode cX1_reaches 28 = .ok (.iconst 0, 1) := by decide +kernel
theorem dX1_reaches_29 : decode cX1_reaches 29 = .ok (.ireturn, 1) := by decide +kernel
theorem dX1_markReachable_0 : decode cX1_markReachable 0 = .ok (.aload_n 0, 1) := by decide +kernel
theorem dX1_markReachable_1 : decode cX1_markReachable 1 = .ok (.invokevirtual 87, 3) := by decide +kernel
theorem dX1_markReachable_4 : decode cX1_markReachable 4 = .ok (.aload_n 0, 1) := by decide +kernel
theorem dX1_markReachable_5 : decode cX1_markReachable 5 = .ok (.getfield 32, 3) := by decide +kernel
theorem dX1_markReachable_8 : decode cX1_markReachable 8 = .ok (.iload_n 1, 1) := by decide +kernel
theorem dX1_markReachable_9 : decode cX1_markReachable 9 = .ok (.iconst 1, 1) := by decide +kernel
theorem dX1_markReachable_10 : decode cX1_markReachable 10 = .ok (.iastore, 1) := by decide +kernel
theorem dX1_markReachable_11 : decode cX1_markReachable 11 = .ok (.aload_n 0, 1) := by decide +kernel
theorem dX1_markReachable_12 : decode cX1_markReachable 12 = .ok (.invokevirtual 90, 3) := by decide +kernel
theorem dX1_markReachable_15 : decode cX1_markReachable 15 = .ok (.return_, 1) := by decide +kernel
theorem dX1_clearMarks_0 : decode cX1_clearMarks 0 = .ok (.iconst 0, 1) := by decide +kernel
theorem dX1_clearMarks_1 : decode cX1_clearMarks 1 = .ok (.istore_n 1, 1) := by decide +kernel
theorem dX1_clearMarks_2 : decode cX1_clearMarks 2 = .ok (.iload_n 1, 1) := by decide +kernel
theorem dX1_clearMarks_3 : decode cX1_clearMarks 3 = .ok (.aload_n 0, 1) := by decide +kernel
theorem dX1_clearMarks_4 : decode cX1_clearMarks 4 = .ok (.getfield 49, 3) := by decide +kernel
theorem dX1_clearMarks_7 : decode cX1_clearMarks 7 = .ok (.if_icmp .ge 16, 3) := by decide +kernel
theorem dX1_clearMarks_10 : decode cX1_clearMarks 10 = .ok (.aload_n 0, 1) := by decide +kernel
theorem dX1_clearMarks_11 : decode cX1_clearMarks 11 = .ok (.getfield 32, 3) := by decide +kernel
theorem dX1_clearMarks_14 : decode cX1_clearMarks 14 = .ok (.iload_n 1, 1) := by decide +kernel
theorem dX1_clearMarks_15 : decode cX1_clearMarks 15 = .ok (.iconst 0, 1) := by decide +kernel
theorem dX1_clearMarks_16 : decode cX1_clearMarks 16 = .ok (.iastore, 1) := by decide +kernel
theorem dX1_clearMarks_17 : decode cX1_clearMarks 17 = .ok (.iinc 1 1, 3) := by decide +kernel
theorem dX1_clearMarks_20 : decode cX1_clearMarks 20 = .ok (.goto (-18), 3) := by decide +kernel
theorem dX1_clearMarks_23 : decode cX1_clearMarks 23 = .ok (.return_, 1) := by decide +kernel
theorem dX1_base_0 : decode cX1_base 0 = .ok (.aload_n 0, 1) := by decide +kernel
theorem dX1_base_1 : decode cX1_base 1 = .ok (.iload_n 1, 1) := by decide +kernel
theorem dX1_base_2 : decode cX1_base 2 = .ok (.invokevirtual 64, 3) := by decide +kernel
theorem dX1_base_5 : decode cX1_base 5 = .ok (.aload_n 0, 1) := by decide +kernel
theorem dX1_base_6 : decode cX1_base 6 = .ok (.iload_n 2, 1) := by decide +kernel
theorem dX1_base_7 : decode cX1_base 7 = .ok (.invokevirtual 64, 3) := by decide +kernel
theorem dX1_base_10 : decode cX1_base 10 = .ok (.aload_n 0, 1) := by decide +kernel
theorem dX1_base_11 : decode cX1_base 11 = .ok (.invokevirtual 87, 3) := by decide +kernel
theorem dX1_base_14 : decode cX1_base 14 = .ok (.aload_n 0, 1) := by decide +kernel
theorem dX1_base_15 : decode cX1_base 15 = .ok (.getfield 32, 3) := by decide +kernel
theorem dX1_base_18 : decode cX1_base 18 = .ok (.iload_n 1, 1) := by decide +kernel
theorem dX1_base_19 : decode cX1_base 19 = .ok (.dup2, 1) := by decide +kernel
theorem dX1_base_20 : decode cX1_base 20 = .ok (.iaload, 1) := by decide +kernel
theorem dX1_base_21 : decode cX1_base 21 = .ok (.iconst 1, 1) := by decide +kernel
theorem dX1_base_22 : decode cX1_base 22 = .ok (.ior, 1) := by decide +kernel
theorem dX1_base_23 : decode cX1_base 23 = .ok (.iastore, 1) := by decide +kernel
theorem dX1_base_24 : decode cX1_base 24 = .ok (.aload_n 0, 1) := by decide +kernel
theorem dX1_base_25 : decode cX1_base 25 = .ok (.getfield 32, 3) := by decide +kernel
theorem dX1_base_28 : decode cX1_base 28 = .ok (.iload_n 2, 1) := by decide +kernel
theorem dX1_base_29 : decode cX1_base 29 = .ok (.dup2, 1) := by decide +kernel
theorem dX1_base_30 : decode cX1_base 30 = .ok (.iaload, 1) := by decide +kernel
theorem dX1_base_31 : decode cX1_base 31 = .ok (.iconst 2, 1) := by decide +kernel
theorem dX1_base_32 : decode cX1_base 32 = .ok (.ior, 1) := by decide +kernel
theorem dX1_base_33 : decode cX1_base 33 = .ok (.iastore, 1) := by decide +kernel
theorem dX1_base_34 : decode cX1_base 34 = .ok (.aload_n 0, 1) := by decide +kernel
theorem dX1_base_35 : decode cX1_base 35 = .ok (.invokevirtual 90, 3) := by decide +kernel
theorem dX1_base_38 : decode cX1_base 38 = .ok (.aload_n 0, 1) := by decide +kernel
theorem dX1_base_39 : decode cX1_base 39 = .ok (.getfield 41, 3) := by decide +kernel
theorem dX1_base_42 : decode cX1_base 42 = .ok (.invokevirtual 93, 3) := by decide +kernel
theorem dX1_base_45 : decode cX1_base 45 = .ok (.iconst 0, 1) := by decide +kernel
theorem dX1_base_46 : decode cX1_base 46 = .ok (.istore 4, 2) := by decide +kernel
theorem dX1_base_48 : decode cX1_base 48 = .ok (.iload 4, 2) := by decide +kernel
theorem dX1_base_50 : decode cX1_base 50 = .ok (.aload_n 0, 1) := by decide +kernel
theorem dX1_base_51 : decode cX1_base 51 = .ok (.getfield 49, 3) := by decide +kernel
theorem dX1_base_54 : decode cX1_base 54 = .ok (.if_icmp .ge 26, 3) := by decide +kernel
theorem dX1_base_57 : decode cX1_base 57 = .ok (.aload_n 0, 1) := by decide +kernel
theorem dX1_base_58 : decode cX1_base 58 = .ok (.getfield 32, 3) := by decide +kernel
theorem dX1_base_61 : decode cX1_base 61 = .ok (.iload 4, 2) := by decide +kernel
theorem dX1_base_63 : decode cX1_base 63 = .ok (.iaload, 1) := by decide +kernel
theorem dX1_base_64 : decode cX1_base 64 = .ok (.iconst 3, 1) := by decide +kernel
theorem dX1_base_65 : decode cX1_base 65 = .ok (.if_icmp .ne 9, 3) := by decide +kernel
theorem dX1_base_68 : decode cX1_base 68 = .ok (.aload_n 0, 1) := by decide +kernel
theorem dX1_base_69 : decode cX1_base 69 = .ok (.iload 4, 2) := by decide +kernel
theorem dX1_base_71 : decode cX1_base 71 = .ok (.invokevirtual 96, 3) := by decide +kernel
theorem dX1_base_74 : decode cX1_base 74 = .ok (.iinc 4 1, 3) := by decide +kernel
theorem dX1_base_77 : decode cX1_base 77 = .ok (.goto (-29), 3) := by decide +kernel
theorem dX1_base_80 : decode cX1_base 80 = .ok (.aload_n 0, 1) := by decide +kernel
theorem dX1_base_81 : decode cX1_base 81 = .ok (.iload_n 3, 1) := by decide +kernel
theorem dX1_base_82 : decode cX1_base 82 = .ok (.invokevirtual 99, 3) := by decide +kernel
theorem dX1_base_85 : decode cX1_base 85 = .ok (.ireturn, 1) := by decide +kernel
theorem dX1_queueInTheOrder_0 : decode cX1_queueInTheOrder 0 = .ok (.aload_n 0, 1) := by decide +kernel
theorem dX1_queueInTheOrder_1 : decode cX1_queueInTheOrder 1 = .ok (.getfield 41, 3) := by decide +kernel
theorem dX1_queueInTheOrder_4 : decode cX1_queueInTheOrder 4 = .ok (.aload_n 0, 1) := by decide +kernel
theorem dX1_queueInTheOrder_5 : decode cX1_queueInTheOrder 5 = .ok (.getfield 9, 3) := by decide +kernel
theorem dX1_queueInTheOrder_8 : decode cX1_queueInTheOrder 8 = .ok (.iload_n 1, 1) := by decide +kernel
theorem dX1_queueInTheOrder_9 : decode cX1_queueInTheOrder 9 = .ok (.iaload, 1) := by decide +kernel
theorem dX1_queueInTheOrder_10 : decode cX1_queueInTheOrder 10 = .ok (.iconst (-1), 1) := by decide +kernel
theorem dX1_queueInTheOrder_11 : decode cX1_queueInTheOrder 11 = .ok (.ixor, 1) := by decide +kernel
theorem dX1_queueInTheOrder_12 : decode cX1_queueInTheOrder 12 = .ok (.aload_n 0, 1) := by decide +kernel
theorem dX1_queueInTheOrder_13 : decode cX1_queueInTheOrder 13 = .ok (.getfield 13, 3) := by decide +kernel
theorem dX1_queueInTheOrder_16 : decode cX1_queueInTheOrder 16 = .ok (.iload_n 1, 1) := by decide +kernel
theorem dX1_queueInTheOrder_17 : decode cX1_queueInTheOrder 17 = .ok (.iaload, 1) := by decide +kernel
theorem dX1_queueInTheOrder_18 : decode cX1_queueInTheOrder 18 = .ok (.iload_n 1, 1) := by decide +kernel
theorem dX1_queueInTheOrder_19 : decode cX1_queueInTheOrder 19 = .ok (.invokevirtual 126, 3) := by decide +kernel
theorem dX1_queueInTheOrder_22 : decode cX1_queueInTheOrder 22 = .ok (.return_, 1) := by decide +kernel
theorem dX1_queuedAt_0 : decode cX1_queuedAt 0 = .ok (.iload_n 1, 1) := by decide +kernel
theorem dX1_queuedAt_1 : decode cX1_queuedAt 1 = .ok (.iconst (-1), 1) := by decide +kernel
theorem dX1_queuedAt_2 : decode cX1_queuedAt 2 = .ok (.if_icmp .ne 11, 3) := by decide +kernel
theorem dX1_queuedAt_5 : decode cX1_queuedAt 5 = .ok (.aload_n 0, 1) := by decide +kernel
theorem dX1_queuedAt_6 : decode cX1_queuedAt 6 = .ok (.getfield 41, 3) := by decide +kernel
theorem dX1_queuedAt_9 : decode cX1_queuedAt 9 = .ok (.invokevirtual 167, 3) := by decide +kernel
theorem dX1_queuedAt_12 : decode cX1_queuedAt 12 = .ok (.ireturn, 1) := by decide +kernel
theorem dX1_queuedAt_13 : decode cX1_queuedAt 13 = .ok (.iload_n 1, 1) := by decide +kernel
theorem dX1_queuedAt_14 : decode cX1_queuedAt 14 = .ok (.aload_n 0, 1) := by decide +kernel
theorem dX1_queuedAt_15 : decode cX1_queuedAt 15 = .ok (.getfield 41, 3) := by decide +kernel
theorem dX1_queuedAt_18 : decode cX1_queuedAt 18 = .ok (.invokevirtual 167, 3) := by decide +kernel
theorem dX1_queuedAt_21 : decode cX1_queuedAt 21 = .ok (.invokestatic 106, 3) := by decide +kernel
theorem dX1_queuedAt_24 : decode cX1_queuedAt 24 = .ok (.iconst 0, 1) := by decide +kernel
theorem dX1_queuedAt_25 : decode cX1_queuedAt 25 = .ok (.istore_n 2, 1) := by decide +kernel
theorem dX1_queuedAt_26 : decode cX1_queuedAt 26 = .ok (.iload_n 2, 1) := by decide +kernel
theorem dX1_queuedAt_27 : decode cX1_queuedAt 27 = .ok (.iload_n 1, 1) := by decide +kernel
