theorem dX2_join_31 : decode cX2_join 31 = .ok (.return_, 1) := by decide +kernel
theorem dX2_under_0 : decode cX2_under 0 = .ok (.aload_n 0, 1) := by decide +kernel
theorem dX2_under_1 : decode cX2_under 1 = .ok (.iconst 0, 1) := by decide +kernel
theorem dX2_under_2 : decode cX2_under 2 = .ok (.putfield 38, 3) := by decide +kernel
theorem dX2_under_5 : decode cX2_under 5 = .ok (.aload_n 0, 1) := by decide +kernel
theorem dX2_under_6 : decode cX2_under 6 = .ok (.iload_n 1, 1) := by decide +kernel
theorem dX2_under_7 : decode cX2_under 7 = .ok (.invokevirtual 57, 3) := by decide +kernel
theorem dX2_under_10 : decode cX2_under 10 = .ok (.ifCond .eq 12, 3) := by decide +kernel
theorem dX2_under_13 : decode cX2_under 13 = .ok (.iload_n 2, 1) := by decide +kernel
theorem dX2_under_14 : decode cX2_under 14 = .ok (.ifCond .lt 8, 3) := by decide +kernel
theorem dX2_under_17 : decode cX2_under 17 = .ok (.iload_n 2, 1) := by decide +kernel
theorem dX2_under_18 : decode cX2_under 18 = .ok (.iload_n 1, 1) := by decide +kernel
theorem dX2_under_19 : decode cX2_under 19 = .ok (.if_icmp .lt 9, 3) := by decide +kernel
theorem dX2_under_22 : decode cX2_under 22 = .ok (.aload_n 0, 1) := by decide +kernel
theorem dX2_under_23 : decode cX2_under 23 = .ok (.iconst 1, 1) := by decide +kernel
theorem dX2_under_24 : decode cX2_under 24 = .ok (.invokevirtual 45, 3) := by decide +kernel
theorem dX2_under_27 : decode cX2_under 27 = .ok (.ireturn, 1) := by decide +kernel
theorem dX2_under_28 : decode cX2_under 28 = .ok (.aload_n 0, 1) := by decide +kernel
theorem dX2_under_29 : decode cX2_under 29 = .ok (.iload_n 1, 1) := by decide +kernel
theorem dX2_under_30 : decode cX2_under 30 = .ok (.invokevirtual 61, 3) := by decide +kernel
theorem dX2_under_33 : decode cX2_under 33 = .ok (.ifCond .ne 13, 3) := by decide +kernel
theorem dX2_under_36 : decode cX2_under 36 = .ok (.aload_n 0, 1) := by decide +kernel
theorem dX2_under_37 : decode cX2_under 37 = .ok (.getfield 16, 3) := by decide +kernel
theorem dX2_under_40 : decode cX2_under 40 = .ok (.iload_n 1, 1) := by decide +kernel
theorem dX2_under_41 : decode cX2_under 41 = .ok (.iaload, 1) := by decide +kernel
theorem dX2_under_42 : decode cX2_under 42 = .ok (.iconst 4, 1) := by decide +kernel
theorem dX2_under_43 : decode cX2_under 43 = .ok (.if_icmp .ne 9, 3) := by decide +kernel
theorem dX2_under_46 : decode cX2_under 46 = .ok (.aload_n 0, 1) := by decide +kernel
theorem dX2_under_47 : decode cX2_under 47 = .ok (.iconst 2, 1) := by decide +kernel
theorem dX2_under_48 : decode cX2_under 48 = .ok (.invokevirtual 45, 3) := by decide +kernel
theorem dX2_under_51 : decode cX2_under 51 = .ok (.ireturn, 1) := by decide +kernel
theorem dX2_under_52 : decode cX2_under 52 = .ok (.aload_n 0, 1) := by decide +kernel
theorem dX2_under_53 : decode cX2_under 53 = .ok (.iload_n 1, 1) := by decide +kernel
theorem dX2_under_54 : decode cX2_under 54 = .ok (.iload_n 2, 1) := by decide +kernel
theorem dX2_under_55 : decode cX2_under 55 = .ok (.invokevirtual 49, 3) := by decide +kernel
theorem dX2_under_58 : decode cX2_under 58 = .ok (.aload_n 0, 1) := by decide +kernel
theorem dX2_under_59 : decode cX2_under 59 = .ok (.getfield 16, 3) := by decide +kernel
theorem dX2_under_62 : decode cX2_under 62 = .ok (.iload_n 1, 1) := by decide +kernel
theorem dX2_under_63 : decode cX2_under 63 = .ok (.iaload, 1) := by decide +kernel
theorem dX2_under_64 : decode cX2_under 64 = .ok (.ireturn, 1) := by decide +kernel
theorem dX2_there_0 : decode cX2_there 0 = .ok (.iload_n 1, 1) := by decide +kernel
theorem dX2_there_1 : decode cX2_there 1 = .ok (.ifCond .lt 15, 3) := by decide +kernel
theorem dX2_there_4 : decode cX2_there 4 = .ok (.iload_n 1, 1) := by decide +kernel
theorem dX2_there_5 : decode cX2_there 5 = .ok (.aload_n 0, 1) := by decide +kernel
theorem dX2_there_6 : decode cX2_there 6 = .ok (.getfield 42, 3) := by decide +kernel
theorem dX2_there_9 : decode cX2_there 9 = .ok (.if_icmp .ge 7, 3) := by decide +kernel
theorem dX2_there_12 : decode cX2_there 12 = .ok (.iconst 1, 1) := by decide +kernel
theorem dX2_there_13 : decode cX2_there 13 = .ok (.goto 4, 3) := by decide +kernel
theorem dX2_there_16 : decode cX2_there 16 = .ok (.iconst 0, 1) := by decide +kernel
theorem dX2_there_17 : decode cX2_there 17 = .ok (.ireturn, 1) := by decide +kernel
theorem dX2_isAnyParent_0 : decode cX2_isAnyParent 0 = .ok (.iconst 0, 1) := by decide +kernel
theorem dX2_isAnyParent_1 : decode cX2_isAnyParent 1 = .ok (.istore_n 2, 1) := by decide +kernel
theorem dX2_isAnyParent_2 : decode cX2_isAnyParent 2 = .ok (.iload_n 2, 1) := by decide +kernel
theorem dX2_isAnyParent_3 : decode cX2_isAnyParent 3 = .ok (.aload_n 0, 1) := by decide +kernel
theorem dX2_isAnyParent_4 : decode cX2_isAnyParent 4 = .ok (.getfield 42, 3) := by decide +kernel
theorem dX2_isAnyParent_7 : decode cX2_isAnyParent 7 = .ok (.if_icmp .ge 20, 3) := by decide +kernel
theorem dX2_isAnyParent_10 : decode cX2_isAnyParent 10 = .ok (.aload_n 0, 1) := by decide +kernel
theorem dX2_isAnyParent_11 : decode cX2_isAnyParent 11 = .ok (.iload_n 1, 1) := by decide +kernel
theorem dX2_isAnyParent_12 : decode cX2_isAnyParent 12 = .ok (.iload_n 2, 1) := by decide +kernel
theorem dX2_isAnyParent_13 : decode cX2_isAnyParent 13 = .ok (.invokevirtual 53, 3) := by decide +kernel
theorem dX2_isAnyParent_16 : decode cX2_isAnyParent 16 = .ok (.ifCond .eq 5, 3) := by decide +kernel
theorem dX2_isAnyParent_19 : decode cX2_isAnyParent 19 = .ok (.iconst 1, 1) := by decide +kernel
theorem dX2_isAnyParent_20 : decode cX2_isAnyParent 20 = .ok (.ireturn, 1) := by decide +kernel
theorem dX2_isAnyParent_21 : decode cX2_isAnyParent 21 = .ok (.iinc 2 1, 3) := by decide +kernel
theorem dX2_isAnyParent_24 : decode cX2_isAnyParent 24 = .ok (.goto (-22), 3) := by decide +kernel
theorem dX2_isAnyParent_27 : decode cX2_isAnyParent 27 = .ok (.iconst 0, 1) := by decide +kernel
theorem dX2_isAnyParent_28 : decode cX2_isAnyParent 28 = .ok (.ireturn, 1) := by decide +kernel
theorem dX2_isParent_0 : decode cX2_isParent 0 = .ok (.iconst 0, 1) := by decide +kernel
theorem dX2_isParent_1 : decode cX2_isParent 1 = .ok (.istore_n 3, 1) := by decide +kernel
theorem dX2_isParent_2 : decode cX2_isParent 2 = .ok (.iload_n 3, 1) := by decide +kernel
theorem dX2_isParent_3 : decode cX2_isParent 3 = .ok (.aload_n 0, 1) := by decide +kernel
theorem dX2_isParent_4 : decode cX2_isParent 4 = .ok (.getfield 16, 3) := by decide +kernel
theorem dX2_isParent_7 : decode cX2_isParent 7 = .ok (.iload_n 2, 1) := by decide +kernel
theorem dX2_isParent_8 : decode cX2_isParent 8 = .ok (.iaload, 1) := by decide +kernel
theorem dX2_isParent_9 : decode cX2_isParent 9 = .ok (.if_icmp .ge 25, 3) := by decide +kernel
theorem dX2_isParent_12 : decode cX2_isParent 12 = .ok (.aload_n 0, 1) := by decide +kernel
theorem dX2_isParent_13 : decode cX2_isParent 13 = .ok (.getfield 19, 3) := by decide +kernel
theorem dX2_isParent_16 : decode cX2_isParent 16 = .ok (.iload_n 2, 1) := by decide +kernel
theorem dX2_isParent_17 : decode cX2_isParent 17 = .ok (.iconst 4, 1) := by decide +kernel
theorem dX2_isParent_18 : decode cX2_isParent 18 = .ok (.imul, 1) := by decide +kernel
theorem dX2_isParent_19 : decode cX2_isParent 19 = .ok (.iload_n 3, 1) := by decide +kernel
theorem dX2_isParent_20 : decode cX2_isParent 20 = .ok (.iadd, 1) := by decide +kernel
theorem dX2_isParent_21 : decode cX2_isParent 21 = .ok (.iaload, 1) := by decide +kernel
theorem dX2_isParent_22 : decode cX2_isParent 22 = .ok (.iload_n 1, 1) := by decide +kernel
theorem dX2_isParent_23 : decode cX2_isParent 23 = .ok (.if_icmp .ne 5, 3) := by decide +kernel
theorem dX2_isParent_26 : decode cX2_isParent 26 = .ok (.iconst 1, 1) := by decide +kernel
theorem dX2_isParent_27 : decode cX2_isParent 27 = .ok (.ireturn, 1) := by decide +kernel
theorem dX2_isParent_28 : decode cX2_isParent 28 = .ok (.iinc 3 1, 3) := by decide +kernel
theorem dX2_isParent_31 : decode cX2_isParent 31 = .ok (.goto (-29), 3) := by decide +kernel
theorem dX2_isParent_34 : decode cX2_isParent 34 = .ok (.iconst 0, 1) := by decide +kernel
theorem dX2_isParent_35 : decode cX2_isParent 35 = .ok (.ireturn, 1) := by decide +kernel
theorem dX2_tip_0 : decode cX2_tip 0 = .ok (.aload_n 0, 1) := by decide +kernel
theorem dX2_tip_1 : decode cX2_tip 1 = .ok (.iconst 0, 1) := by decide +kernel
theorem dX2_tip_2 : decode cX2_tip 2 = .ok (.putfield 38, 3) := by decide +kernel
theorem dX2_tip_5 : decode cX2_tip 5 = .ok (.iload_n 1, 1) := by decide +kernel
theorem dX2_tip_6 : decode cX2_tip 6 = .ok (.ifCond .lt 16, 3) := by decide +kernel
theorem dX2_tip_9 : decode cX2_tip 9 = .ok (.iload_n 1, 1) := by decide +kernel
theorem dX2_tip_10 : decode cX2_tip 10 = .ok (.iconst 1, 1) := by decide +kernel
theorem dX2_tip_11 : decode cX2_tip 11 = .ok (.if_icmp .gt 11, 3) := by decide +kernel
theorem dX2_tip_14 : decode cX2_tip 14 = .ok (.aload_n 0, 1) := by decide +kernel
theorem dX2_tip_15 : decode cX2_tip 15 = .ok (.iload_n 2, 1) := by decide +kernel
theorem dX2_tip_16 : decode cX2_tip 16 = .ok (.invokevirtual 57, 3) := by decide +kernel
theorem dX2_tip_19 : decode cX2_tip 19 = .ok (.ifCond .ne 11, 3) := by decide +kernel
theorem dX2_tip_22 : decode cX2_tip 22 = .ok (.aload_n 0, 1) := by decide +kernel
theorem dX2_tip_23 : decode cX2_tip 23 = .ok (.iconst 1, 1) := by decide +kernel
theorem dX2_tip_24 : decode cX2_tip 24 = .ok (.putfield 38, 3) := by decide +kernel
theorem dX2_tip_27 : decode cX2_tip 27 = .ok (.goto 16, 3) := by decide +kernel
theorem dX2_tip_30 : decode cX2_tip 30 = .ok (.aload_n 0, 1) := by decide +kernel
theorem dX2_tip_31 : decode cX2_tip 31 = .ok (.getfield 25, 3) := by decide +kernel
theorem dX2_tip_34 : decode cX2_tip 34 = .ok (.iload_n 1, 1) := by decide +kernel
theorem dX2_tip_35 : decode cX2_tip 35 = .ok (.sipush 2000, 3) := by decide +kernel
theorem dX2_tip_38 : decode cX2_tip 38 = .ok (.imul, 1) := by decide +kernel
theorem dX2_tip_39 : decode cX2_tip 39 = .ok (.iload_n 2, 1) := by decide +kernel
theorem dX2_tip_40 : decode cX2_tip 40 = .ok (.iadd, 1) := by decide +kernel
theorem dX2_tip_41 : decode cX2_tip 41 = .ok (.iload_n 3, 1) := by decide +kernel
theorem dX2_tip_42 : decode cX2_tip 42 = .ok (.bastore, 1) := by decide +kernel
theorem dX2_tip_43 : decode cX2_tip 43 = .ok (.return_, 1) := by decide +kernel
theorem dX2_reaches_0 : decode cX2_reaches 0 = .ok (.aload_n 0, 1) := by decide +kernel
theorem dX2_reaches_1 : decode cX2_reaches 1 = .ok (.iconst 0, 1) := by decide +kernel
theorem dX2_reaches_2 : decode cX2_reaches 2 = .ok (.putfield 38, 3) := by decide +kernel
theorem dX2_reaches_5 : decode cX2_reaches 5 = .ok (.aload_n 0, 1) := by decide +kernel
theorem dX2_reaches_6 : decode cX2_reaches 6 = .ok (.iload_n 1, 1) := by decide +kernel
theorem dX2_reaches_7 : decode cX2_reaches 7 = .ok (.invokevirtual 57, 3) := by decide +kernel
theorem dX2_reaches_10 : decode cX2_reaches 10 = .ok (.ifCond .eq 11, 3) := by decide +kernel
theorem dX2_reaches_13 : decode cX2_reaches 13 = .ok (.aload_n 0, 1) := by decide +kernel
theorem dX2_reaches_14 : decode cX2_reaches 14 = .ok (.iload_n 2, 1) := by decide +kernel
theorem dX2_reaches_15 : decode cX2_reaches 15 = .ok (.invokevirtual 57, 3) := by decide +kernel
theorem dX2_reaches_18 : decode cX2_reaches 18 = .ok (.ifCond .ne 10, 3) := by decide +kernel
theorem dX2_reaches_21 : decode cX2_reaches 21 = .ok (.aload_n 0, 1) := by decide +kernel
theorem dX2_reaches_22 : decode cX2_reaches 22 = .ok (.iconst 1, 1) := by decide +kernel
theorem dX2_reaches_23 : decode cX2_reaches 23 = .ok (.putfield 38, 3) := by decide +kernel
theorem dX2_reaches_26 : decode cX2_reaches 26 = .ok (.iconst 0, 1) := by decide +kernel
theorem dX2_reaches_27 : decode cX2_reaches 27 = .ok (.ireturn, 1) := by decide +kernel
theorem dX2_reaches_28 : decode cX2_reaches 28 = .ok (.aload_n 0, 1) := by decide +kernel
theorem dX2_reaches_29 : decode cX2_reaches 29 = .ok (.iload_n 1, 1) := by decide +kernel
theorem dX2_reaches_30 : decode cX2_reaches 30 = .ok (.aload_n 0, 1) := by decide +kernel
theorem dX2_reaches_31 : decode cX2_reaches 31 = .ok (.getfield 29, 3) := by decide +kernel
theorem dX2_reaches_34 : decode cX2_reaches 34 = .ok (.invokevirtual 68, 3) := by decide +kernel
theorem dX2_reaches_37 : decode cX2_reaches 37 = .ok (.aload_n 0, 1) := by decide +kernel
theorem dX2_reaches_38 : decode cX2_reaches 38 = .ok (.getfield 29, 3) := by decide +kernel
theorem dX2_reaches_41 : decode cX2_reaches 41 = .ok (.iload_n 2, 1) := by decide +kernel
theorem dX2_reaches_42 : decode cX2_reaches 42 = .ok (.baload, 1) := by decide +kernel
theorem dX2_reaches_43 : decode cX2_reaches 43 = .ok (.ireturn, 1) := by decide +kernel
theorem dX2_from_0 : decode cX2_from 0 = .ok (.iconst 0, 1) := by decide +kernel
theorem dX2_from_1 : decode cX2_from 1 = .ok (.istore_n 3, 1) := by decide +kernel
theorem dX2_from_2 : decode cX2_from 2 = .ok (.iload_n 3, 1) := by decide +kernel
theorem dX2_from_3 : decode cX2_from 3 = .ok (.sipush 2000, 3) := by decide +kernel
theorem dX2_from_6 : decode cX2_from 6 = .ok (.if_icmp .ge 22, 3) := by decide +kernel
theorem dX2_from_9 : decode cX2_from 9 = .ok (.aload_n 2, 1) := by decide +kernel
theorem dX2_from_10 : decode cX2_from 10 = .ok (.iload_n 3, 1) := by decide +kernel
