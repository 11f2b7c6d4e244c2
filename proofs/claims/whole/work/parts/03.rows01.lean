theorem dX0_swap_39 : decode cX0_swap 39 = .ok (.aload_n 0, 1) := by decide +kernel
theorem dX0_swap_40 : decode cX0_swap 40 = .ok (.getfield 15, 3) := by decide +kernel
theorem dX0_swap_43 : decode cX0_swap 43 = .ok (.iload_n 2, 1) := by decide +kernel
theorem dX0_swap_44 : decode cX0_swap 44 = .ok (.iaload, 1) := by decide +kernel
theorem dX0_swap_45 : decode cX0_swap 45 = .ok (.iastore, 1) := by decide +kernel
theorem dX0_swap_46 : decode cX0_swap 46 = .ok (.aload_n 0, 1) := by decide +kernel
theorem dX0_swap_47 : decode cX0_swap 47 = .ok (.getfield 15, 3) := by decide +kernel
theorem dX0_swap_50 : decode cX0_swap 50 = .ok (.iload_n 2, 1) := by decide +kernel
theorem dX0_swap_51 : decode cX0_swap 51 = .ok (.iload 4, 2) := by decide +kernel
theorem dX0_swap_53 : decode cX0_swap 53 = .ok (.iastore, 1) := by decide +kernel
theorem dX0_swap_54 : decode cX0_swap 54 = .ok (.aload_n 0, 1) := by decide +kernel
theorem dX0_swap_55 : decode cX0_swap 55 = .ok (.getfield 18, 3) := by decide +kernel
theorem dX0_swap_58 : decode cX0_swap 58 = .ok (.iload_n 1, 1) := by decide +kernel
theorem dX0_swap_59 : decode cX0_swap 59 = .ok (.iaload, 1) := by decide +kernel
theorem dX0_swap_60 : decode cX0_swap 60 = .ok (.istore 5, 2) := by decide +kernel
theorem dX0_swap_62 : decode cX0_swap 62 = .ok (.aload_n 0, 1) := by decide +kernel
theorem dX0_swap_63 : decode cX0_swap 63 = .ok (.getfield 18, 3) := by decide +kernel
theorem dX0_swap_66 : decode cX0_swap 66 = .ok (.iload_n 1, 1) := by decide +kernel
theorem dX0_swap_67 : decode cX0_swap 67 = .ok (.aload_n 0, 1) := by decide +kernel
theorem dX0_swap_68 : decode cX0_swap 68 = .ok (.getfield 18, 3) := by decide +kernel
theorem dX0_swap_71 : decode cX0_swap 71 = .ok (.iload_n 2, 1) := by decide +kernel
theorem dX0_swap_72 : decode cX0_swap 72 = .ok (.iaload, 1) := by decide +kernel
theorem dX0_swap_73 : decode cX0_swap 73 = .ok (.iastore, 1) := by decide +kernel
theorem dX0_swap_74 : decode cX0_swap 74 = .ok (.aload_n 0, 1) := by decide +kernel
theorem dX0_swap_75 : decode cX0_swap 75 = .ok (.getfield 18, 3) := by decide +kernel
theorem dX0_swap_78 : decode cX0_swap 78 = .ok (.iload_n 2, 1) := by decide +kernel
theorem dX0_swap_79 : decode cX0_swap 79 = .ok (.iload 5, 2) := by decide +kernel
theorem dX0_swap_81 : decode cX0_swap 81 = .ok (.iastore, 1) := by decide +kernel
theorem dX0_swap_82 : decode cX0_swap 82 = .ok (.return_, 1) := by decide +kernel
theorem dX0_size_0 : decode cX0_size 0 = .ok (.aload_n 0, 1) := by decide +kernel
theorem dX0_size_1 : decode cX0_size 1 = .ok (.getfield 21, 3) := by decide +kernel
theorem dX0_size_4 : decode cX0_size 4 = .ok (.ireturn, 1) := by decide +kernel
theorem dX0_take_0 : decode cX0_take 0 = .ok (.aload_n 0, 1) := by decide +kernel
theorem dX0_take_1 : decode cX0_take 1 = .ok (.getfield 21, 3) := by decide +kernel
theorem dX0_take_4 : decode cX0_take 4 = .ok (.ifCond .gt 5, 3) := by decide +kernel
theorem dX0_take_7 : decode cX0_take 7 = .ok (.iconst (-1), 1) := by decide +kernel
theorem dX0_take_8 : decode cX0_take 8 = .ok (.ireturn, 1) := by decide +kernel
theorem dX0_take_9 : decode cX0_take 9 = .ok (.aload_n 0, 1) := by decide +kernel
theorem dX0_take_10 : decode cX0_take 10 = .ok (.getfield 18, 3) := by decide +kernel
theorem dX0_take_13 : decode cX0_take 13 = .ok (.iconst 0, 1) := by decide +kernel
theorem dX0_take_14 : decode cX0_take 14 = .ok (.iaload, 1) := by decide +kernel
theorem dX0_take_15 : decode cX0_take 15 = .ok (.istore_n 1, 1) := by decide +kernel
theorem dX0_take_16 : decode cX0_take 16 = .ok (.aload_n 0, 1) := by decide +kernel
theorem dX0_take_17 : decode cX0_take 17 = .ok (.dup, 1) := by decide +kernel
theorem dX0_take_18 : decode cX0_take 18 = .ok (.getfield 21, 3) := by decide +kernel
theorem dX0_take_21 : decode cX0_take 21 = .ok (.iconst 1, 1) := by decide +kernel
theorem dX0_take_22 : decode cX0_take 22 = .ok (.isub, 1) := by decide +kernel
theorem dX0_take_23 : decode cX0_take 23 = .ok (.putfield 21, 3) := by decide +kernel
theorem dX0_take_26 : decode cX0_take 26 = .ok (.aload_n 0, 1) := by decide +kernel
theorem dX0_take_27 : decode cX0_take 27 = .ok (.iconst 0, 1) := by decide +kernel
theorem dX0_take_28 : decode cX0_take 28 = .ok (.aload_n 0, 1) := by decide +kernel
theorem dX0_take_29 : decode cX0_take 29 = .ok (.getfield 21, 3) := by decide +kernel
theorem dX0_take_32 : decode cX0_take 32 = .ok (.invokevirtual 28, 3) := by decide +kernel
theorem dX0_take_35 : decode cX0_take 35 = .ok (.aload_n 0, 1) := by decide +kernel
theorem dX0_take_36 : decode cX0_take 36 = .ok (.invokevirtual 32, 3) := by decide +kernel
theorem dX0_take_39 : decode cX0_take 39 = .ok (.iload_n 1, 1) := by decide +kernel
theorem dX0_take_40 : decode cX0_take 40 = .ok (.ireturn, 1) := by decide +kernel
theorem dX0_sink_0 : decode cX0_sink 0 = .ok (.iconst 0, 1) := by decide +kernel
theorem dX0_sink_1 : decode cX0_sink 1 = .ok (.istore_n 1, 1) := by decide +kernel
theorem dX0_sink_2 : decode cX0_sink 2 = .ok (.iconst 1, 1) := by decide +kernel
theorem dX0_sink_3 : decode cX0_sink 3 = .ok (.istore_n 2, 1) := by decide +kernel
theorem dX0_sink_4 : decode cX0_sink 4 = .ok (.iload_n 2, 1) := by decide +kernel
theorem dX0_sink_5 : decode cX0_sink 5 = .ok (.aload_n 0, 1) := by decide +kernel
theorem dX0_sink_6 : decode cX0_sink 6 = .ok (.getfield 21, 3) := by decide +kernel
theorem dX0_sink_9 : decode cX0_sink 9 = .ok (.if_icmp .ge 54, 3) := by decide +kernel
theorem dX0_sink_12 : decode cX0_sink 12 = .ok (.iload_n 2, 1) := by decide +kernel
theorem dX0_sink_13 : decode cX0_sink 13 = .ok (.iconst 1, 1) := by decide +kernel
theorem dX0_sink_14 : decode cX0_sink 14 = .ok (.iadd, 1) := by decide +kernel
theorem dX0_sink_15 : decode cX0_sink 15 = .ok (.aload_n 0, 1) := by decide +kernel
theorem dX0_sink_16 : decode cX0_sink 16 = .ok (.getfield 21, 3) := by decide +kernel
theorem dX0_sink_19 : decode cX0_sink 19 = .ok (.if_icmp .ge 17, 3) := by decide +kernel
theorem dX0_sink_22 : decode cX0_sink 22 = .ok (.aload_n 0, 1) := by decide +kernel
theorem dX0_sink_23 : decode cX0_sink 23 = .ok (.iload_n 2, 1) := by decide +kernel
theorem dX0_sink_24 : decode cX0_sink 24 = .ok (.iconst 1, 1) := by decide +kernel
theorem dX0_sink_25 : decode cX0_sink 25 = .ok (.iadd, 1) := by decide +kernel
theorem dX0_sink_26 : decode cX0_sink 26 = .ok (.iload_n 2, 1) := by decide +kernel
theorem dX0_sink_27 : decode cX0_sink 27 = .ok (.invokevirtual 35, 3) := by decide +kernel
theorem dX0_sink_30 : decode cX0_sink 30 = .ok (.ifCond .eq 6, 3) := by decide +kernel
theorem dX0_sink_33 : decode cX0_sink 33 = .ok (.iinc 2 1, 3) := by decide +kernel
theorem dX0_sink_36 : decode cX0_sink 36 = .ok (.aload_n 0, 1) := by decide +kernel
theorem dX0_sink_37 : decode cX0_sink 37 = .ok (.iload_n 1, 1) := by decide +kernel
theorem dX0_sink_38 : decode cX0_sink 38 = .ok (.iload_n 2, 1) := by decide +kernel
theorem dX0_sink_39 : decode cX0_sink 39 = .ok (.invokevirtual 35, 3) := by decide +kernel
theorem dX0_sink_42 : decode cX0_sink 42 = .ok (.ifCond .eq 4, 3) := by decide +kernel
theorem dX0_sink_45 : decode cX0_sink 45 = .ok (.return_, 1) := by decide +kernel
theorem dX0_sink_46 : decode cX0_sink 46 = .ok (.aload_n 0, 1) := by decide +kernel
theorem dX0_sink_47 : decode cX0_sink 47 = .ok (.iload_n 1, 1) := by decide +kernel
theorem dX0_sink_48 : decode cX0_sink 48 = .ok (.iload_n 2, 1) := by decide +kernel
theorem dX0_sink_49 : decode cX0_sink 49 = .ok (.invokevirtual 28, 3) := by decide +kernel
theorem dX0_sink_52 : decode cX0_sink 52 = .ok (.iload_n 2, 1) := by decide +kernel
theorem dX0_sink_53 : decode cX0_sink 53 = .ok (.istore_n 1, 1) := by decide +kernel
theorem dX0_sink_54 : decode cX0_sink 54 = .ok (.iconst 2, 1) := by decide +kernel
theorem dX0_sink_55 : decode cX0_sink 55 = .ok (.iload_n 1, 1) := by decide +kernel
theorem dX0_sink_56 : decode cX0_sink 56 = .ok (.imul, 1) := by decide +kernel
theorem dX0_sink_57 : decode cX0_sink 57 = .ok (.iconst 1, 1) := by decide +kernel
theorem dX0_sink_58 : decode cX0_sink 58 = .ok (.iadd, 1) := by decide +kernel
theorem dX0_sink_59 : decode cX0_sink 59 = .ok (.istore_n 2, 1) := by decide +kernel
theorem dX0_sink_60 : decode cX0_sink 60 = .ok (.goto (-56), 3) := by decide +kernel
theorem dX0_sink_63 : decode cX0_sink 63 = .ok (.return_, 1) := by decide +kernel
theorem dX1_under_0 : decode cX1_under 0 = .ok (.aload_n 0, 1) := by decide +kernel
theorem dX1_under_1 : decode cX1_under 1 = .ok (.iload_n 1, 1) := by decide +kernel
theorem dX1_under_2 : decode cX1_under 2 = .ok (.invokevirtual 64, 3) := by decide +kernel
theorem dX1_under_5 : decode cX1_under 5 = .ok (.iload_n 2, 1) := by decide +kernel
theorem dX1_under_6 : decode cX1_under 6 = .ok (.ifCond .lt 8, 3) := by decide +kernel
theorem dX1_under_9 : decode cX1_under 9 = .ok (.iload_n 2, 1) := by decide +kernel
theorem dX1_under_10 : decode cX1_under 10 = .ok (.iload_n 1, 1) := by decide +kernel
theorem dX1_under_11 : decode cX1_under 11 = .ok (.if_icmp .lt 13, 3) := by decide +kernel
theorem dX1_under_14 : decode cX1_under 14 = .ok (.new 67, 3) := by decide +kernel
theorem dX1_under_17 : decode cX1_under 17 = .ok (.dup, 1) := by decide +kernel
theorem dX1_under_18 : decode cX1_under 18 = .ok (.ldc 69, 2) := by decide +kernel
theorem dX1_under_20 : decode cX1_under 20 = .ok (.invokespecial 71, 3) := by decide +kernel
theorem dX1_under_23 : decode cX1_under 23 = .ok (.athrow, 1) := by decide +kernel
theorem dX1_under_24 : decode cX1_under 24 = .ok (.aload_n 0, 1) := by decide +kernel
theorem dX1_under_25 : decode cX1_under 25 = .ok (.getfield 25, 3) := by decide +kernel
theorem dX1_under_28 : decode cX1_under 28 = .ok (.iload_n 1, 1) := by decide +kernel
theorem dX1_under_29 : decode cX1_under 29 = .ok (.baload, 1) := by decide +kernel
theorem dX1_under_30 : decode cX1_under 30 = .ok (.ifCond .ne 13, 3) := by decide +kernel
theorem dX1_under_33 : decode cX1_under 33 = .ok (.aload_n 0, 1) := by decide +kernel
theorem dX1_under_34 : decode cX1_under 34 = .ok (.getfield 19, 3) := by decide +kernel
theorem dX1_under_37 : decode cX1_under 37 = .ok (.iload_n 1, 1) := by decide +kernel
theorem dX1_under_38 : decode cX1_under 38 = .ok (.iaload, 1) := by decide +kernel
theorem dX1_under_39 : decode cX1_under 39 = .ok (.iconst 4, 1) := by decide +kernel
theorem dX1_under_40 : decode cX1_under 40 = .ok (.if_icmp .lt 13, 3) := by decide +kernel
theorem dX1_under_43 : decode cX1_under 43 = .ok (.new 53, 3) := by decide +kernel
theorem dX1_under_46 : decode cX1_under 46 = .ok (.dup, 1) := by decide +kernel
theorem dX1_under_47 : decode cX1_under 47 = .ok (.ldc 72, 2) := by decide +kernel
theorem dX1_under_49 : decode cX1_under 49 = .ok (.invokespecial 57, 3) := by decide +kernel
theorem dX1_under_52 : decode cX1_under 52 = .ok (.athrow, 1) := by decide +kernel
theorem dX1_under_53 : decode cX1_under 53 = .ok (.aload_n 0, 1) := by decide +kernel
theorem dX1_under_54 : decode cX1_under 54 = .ok (.iload_n 1, 1) := by decide +kernel
theorem dX1_under_55 : decode cX1_under 55 = .ok (.iload_n 2, 1) := by decide +kernel
theorem dX1_under_56 : decode cX1_under 56 = .ok (.invokevirtual 74, 3) := by decide +kernel
theorem dX1_under_59 : decode cX1_under 59 = .ok (.aload_n 0, 1) := by decide +kernel
theorem dX1_under_60 : decode cX1_under 60 = .ok (.getfield 19, 3) := by decide +kernel
theorem dX1_under_63 : decode cX1_under 63 = .ok (.iload_n 1, 1) := by decide +kernel
theorem dX1_under_64 : decode cX1_under 64 = .ok (.iaload, 1) := by decide +kernel
theorem dX1_under_65 : decode cX1_under 65 = .ok (.ireturn, 1) := by decide +kernel
theorem dX1_tip_0 : decode cX1_tip 0 = .ok (.iload_n 1, 1) := by decide +kernel
theorem dX1_tip_1 : decode cX1_tip 1 = .ok (.invokestatic 77, 3) := by decide +kernel
theorem dX1_tip_4 : decode cX1_tip 4 = .ok (.aload_n 0, 1) := by decide +kernel
theorem dX1_tip_5 : decode cX1_tip 5 = .ok (.iload_n 2, 1) := by decide +kernel
theorem dX1_tip_6 : decode cX1_tip 6 = .ok (.invokevirtual 64, 3) := by decide +kernel
theorem dX1_tip_9 : decode cX1_tip 9 = .ok (.aload_n 0, 1) := by decide +kernel
theorem dX1_tip_10 : decode cX1_tip 10 = .ok (.getfield 29, 3) := by decide +kernel
theorem dX1_tip_13 : decode cX1_tip 13 = .ok (.iload_n 2, 1) := by decide +kernel
theorem dX1_tip_14 : decode cX1_tip 14 = .ok (.iload_n 3, 1) := by decide +kernel
theorem dX1_tip_15 : decode cX1_tip 15 = .ok (.ifCond .eq 17, 3) := by decide +kernel
theorem dX1_tip_18 : decode cX1_tip 18 = .ok (.aload_n 0, 1) := by decide +kernel
theorem dX1_tip_19 : decode cX1_tip 19 = .ok (.getfield 29, 3) := by decide +kernel
theorem dX1_tip_22 : decode cX1_tip 22 = .ok (.iload_n 2, 1) := by decide +kernel
