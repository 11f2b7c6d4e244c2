theorem dX0_clear_0 : decode cX0_clear 0 = .ok (.aload_n 0, 1) := by decide +kernel
theorem dX0_clear_1 : decode cX0_clear 1 = .ok (.iconst 0, 1) := by decide +kernel
theorem dX0_clear_2 : decode cX0_clear 2 = .ok (.putfield 21, 3) := by decide +kernel
theorem dX0_clear_5 : decode cX0_clear 5 = .ok (.return_, 1) := by decide +kernel
theorem dX0_put_0 : decode cX0_put 0 = .ok (.aload_n 0, 1) := by decide +kernel
theorem dX0_put_1 : decode cX0_put 1 = .ok (.getfield 21, 3) := by decide +kernel
theorem dX0_put_4 : decode cX0_put 4 = .ok (.sipush 2000, 3) := by decide +kernel
theorem dX0_put_7 : decode cX0_put 7 = .ok (.if_icmp .lt 4, 3) := by decide +kernel
theorem dX0_put_10 : decode cX0_put 10 = .ok (.return_, 1) := by decide +kernel
theorem dX0_put_11 : decode cX0_put 11 = .ok (.aload_n 0, 1) := by decide +kernel
theorem dX0_put_12 : decode cX0_put 12 = .ok (.getfield 9, 3) := by decide +kernel
theorem dX0_put_15 : decode cX0_put 15 = .ok (.aload_n 0, 1) := by decide +kernel
theorem dX0_put_16 : decode cX0_put 16 = .ok (.getfield 21, 3) := by decide +kernel
theorem dX0_put_19 : decode cX0_put 19 = .ok (.iload_n 1, 1) := by decide +kernel
theorem dX0_put_20 : decode cX0_put 20 = .ok (.iastore, 1) := by decide +kernel
theorem dX0_put_21 : decode cX0_put 21 = .ok (.aload_n 0, 1) := by decide +kernel
theorem dX0_put_22 : decode cX0_put 22 = .ok (.getfield 15, 3) := by decide +kernel
theorem dX0_put_25 : decode cX0_put 25 = .ok (.aload_n 0, 1) := by decide +kernel
theorem dX0_put_26 : decode cX0_put 26 = .ok (.getfield 21, 3) := by decide +kernel
theorem dX0_put_29 : decode cX0_put 29 = .ok (.iload_n 2, 1) := by decide +kernel
theorem dX0_put_30 : decode cX0_put 30 = .ok (.iastore, 1) := by decide +kernel
theorem dX0_put_31 : decode cX0_put 31 = .ok (.aload_n 0, 1) := by decide +kernel
theorem dX0_put_32 : decode cX0_put 32 = .ok (.getfield 18, 3) := by decide +kernel
theorem dX0_put_35 : decode cX0_put 35 = .ok (.aload_n 0, 1) := by decide +kernel
theorem dX0_put_36 : decode cX0_put 36 = .ok (.getfield 21, 3) := by decide +kernel
theorem dX0_put_39 : decode cX0_put 39 = .ok (.iload_n 3, 1) := by decide +kernel
theorem dX0_put_40 : decode cX0_put 40 = .ok (.iastore, 1) := by decide +kernel
theorem dX0_put_41 : decode cX0_put 41 = .ok (.aload_n 0, 1) := by decide +kernel
theorem dX0_put_42 : decode cX0_put 42 = .ok (.dup, 1) := by decide +kernel
theorem dX0_put_43 : decode cX0_put 43 = .ok (.getfield 21, 3) := by decide +kernel
theorem dX0_put_46 : decode cX0_put 46 = .ok (.iconst 1, 1) := by decide +kernel
theorem dX0_put_47 : decode cX0_put 47 = .ok (.iadd, 1) := by decide +kernel
theorem dX0_put_48 : decode cX0_put 48 = .ok (.putfield 21, 3) := by decide +kernel
theorem dX0_put_51 : decode cX0_put 51 = .ok (.aload_n 0, 1) := by decide +kernel
theorem dX0_put_52 : decode cX0_put 52 = .ok (.invokevirtual 25, 3) := by decide +kernel
theorem dX0_put_55 : decode cX0_put 55 = .ok (.return_, 1) := by decide +kernel
theorem dX0_rise_0 : decode cX0_rise 0 = .ok (.aload_n 0, 1) := by decide +kernel
theorem dX0_rise_1 : decode cX0_rise 1 = .ok (.getfield 21, 3) := by decide +kernel
theorem dX0_rise_4 : decode cX0_rise 4 = .ok (.iconst 1, 1) := by decide +kernel
theorem dX0_rise_5 : decode cX0_rise 5 = .ok (.isub, 1) := by decide +kernel
theorem dX0_rise_6 : decode cX0_rise 6 = .ok (.istore_n 1, 1) := by decide +kernel
theorem dX0_rise_7 : decode cX0_rise 7 = .ok (.iload_n 1, 1) := by decide +kernel
theorem dX0_rise_8 : decode cX0_rise 8 = .ok (.ifCond .le 34, 3) := by decide +kernel
theorem dX0_rise_11 : decode cX0_rise 11 = .ok (.iload_n 1, 1) := by decide +kernel
theorem dX0_rise_12 : decode cX0_rise 12 = .ok (.iconst 1, 1) := by decide +kernel
theorem dX0_rise_13 : decode cX0_rise 13 = .ok (.isub, 1) := by decide +kernel
theorem dX0_rise_14 : decode cX0_rise 14 = .ok (.iconst 2, 1) := by decide +kernel
theorem dX0_rise_15 : decode cX0_rise 15 = .ok (.idiv, 1) := by decide +kernel
theorem dX0_rise_16 : decode cX0_rise 16 = .ok (.istore_n 2, 1) := by decide +kernel
theorem dX0_rise_17 : decode cX0_rise 17 = .ok (.aload_n 0, 1) := by decide +kernel
theorem dX0_rise_18 : decode cX0_rise 18 = .ok (.iload_n 2, 1) := by decide +kernel
theorem dX0_rise_19 : decode cX0_rise 19 = .ok (.iload_n 1, 1) := by decide +kernel
theorem dX0_rise_20 : decode cX0_rise 20 = .ok (.invokevirtual 35, 3) := by decide +kernel
theorem dX0_rise_23 : decode cX0_rise 23 = .ok (.ifCond .eq 4, 3) := by decide +kernel
theorem dX0_rise_26 : decode cX0_rise 26 = .ok (.return_, 1) := by decide +kernel
theorem dX0_rise_27 : decode cX0_rise 27 = .ok (.aload_n 0, 1) := by decide +kernel
theorem dX0_rise_28 : decode cX0_rise 28 = .ok (.iload_n 2, 1) := by decide +kernel
theorem dX0_rise_29 : decode cX0_rise 29 = .ok (.iload_n 1, 1) := by decide +kernel
theorem dX0_rise_30 : decode cX0_rise 30 = .ok (.invokevirtual 28, 3) := by decide +kernel
theorem dX0_rise_33 : decode cX0_rise 33 = .ok (.iload_n 1, 1) := by decide +kernel
theorem dX0_rise_34 : decode cX0_rise 34 = .ok (.iconst 1, 1) := by decide +kernel
theorem dX0_rise_35 : decode cX0_rise 35 = .ok (.isub, 1) := by decide +kernel
theorem dX0_rise_36 : decode cX0_rise 36 = .ok (.iconst 2, 1) := by decide +kernel
theorem dX0_rise_37 : decode cX0_rise 37 = .ok (.idiv, 1) := by decide +kernel
theorem dX0_rise_38 : decode cX0_rise 38 = .ok (.istore_n 1, 1) := by decide +kernel
theorem dX0_rise_39 : decode cX0_rise 39 = .ok (.goto (-32), 3) := by decide +kernel
theorem dX0_rise_42 : decode cX0_rise 42 = .ok (.return_, 1) := by decide +kernel
theorem dX0_comesBefore_0 : decode cX0_comesBefore 0 = .ok (.aload_n 0, 1) := by decide +kernel
theorem dX0_comesBefore_1 : decode cX0_comesBefore 1 = .ok (.getfield 9, 3) := by decide +kernel
theorem dX0_comesBefore_4 : decode cX0_comesBefore 4 = .ok (.iload_n 1, 1) := by decide +kernel
theorem dX0_comesBefore_5 : decode cX0_comesBefore 5 = .ok (.iaload, 1) := by decide +kernel
theorem dX0_comesBefore_6 : decode cX0_comesBefore 6 = .ok (.aload_n 0, 1) := by decide +kernel
theorem dX0_comesBefore_7 : decode cX0_comesBefore 7 = .ok (.getfield 9, 3) := by decide +kernel
theorem dX0_comesBefore_10 : decode cX0_comesBefore 10 = .ok (.iload_n 2, 1) := by decide +kernel
theorem dX0_comesBefore_11 : decode cX0_comesBefore 11 = .ok (.iaload, 1) := by decide +kernel
theorem dX0_comesBefore_12 : decode cX0_comesBefore 12 = .ok (.if_icmp .eq 24, 3) := by decide +kernel
theorem dX0_comesBefore_15 : decode cX0_comesBefore 15 = .ok (.aload_n 0, 1) := by decide +kernel
theorem dX0_comesBefore_16 : decode cX0_comesBefore 16 = .ok (.getfield 9, 3) := by decide +kernel
theorem dX0_comesBefore_19 : decode cX0_comesBefore 19 = .ok (.iload_n 1, 1) := by decide +kernel
theorem dX0_comesBefore_20 : decode cX0_comesBefore 20 = .ok (.iaload, 1) := by decide +kernel
theorem dX0_comesBefore_21 : decode cX0_comesBefore 21 = .ok (.aload_n 0, 1) := by decide +kernel
theorem dX0_comesBefore_22 : decode cX0_comesBefore 22 = .ok (.getfield 9, 3) := by decide +kernel
theorem dX0_comesBefore_25 : decode cX0_comesBefore 25 = .ok (.iload_n 2, 1) := by decide +kernel
theorem dX0_comesBefore_26 : decode cX0_comesBefore 26 = .ok (.iaload, 1) := by decide +kernel
theorem dX0_comesBefore_27 : decode cX0_comesBefore 27 = .ok (.if_icmp .ge 7, 3) := by decide +kernel
theorem dX0_comesBefore_30 : decode cX0_comesBefore 30 = .ok (.iconst 1, 1) := by decide +kernel
theorem dX0_comesBefore_31 : decode cX0_comesBefore 31 = .ok (.goto 4, 3) := by decide +kernel
theorem dX0_comesBefore_34 : decode cX0_comesBefore 34 = .ok (.iconst 0, 1) := by decide +kernel
theorem dX0_comesBefore_35 : decode cX0_comesBefore 35 = .ok (.ireturn, 1) := by decide +kernel
theorem dX0_comesBefore_36 : decode cX0_comesBefore 36 = .ok (.aload_n 0, 1) := by decide +kernel
theorem dX0_comesBefore_37 : decode cX0_comesBefore 37 = .ok (.getfield 15, 3) := by decide +kernel
theorem dX0_comesBefore_40 : decode cX0_comesBefore 40 = .ok (.iload_n 1, 1) := by decide +kernel
theorem dX0_comesBefore_41 : decode cX0_comesBefore 41 = .ok (.iaload, 1) := by decide +kernel
theorem dX0_comesBefore_42 : decode cX0_comesBefore 42 = .ok (.aload_n 0, 1) := by decide +kernel
theorem dX0_comesBefore_43 : decode cX0_comesBefore 43 = .ok (.getfield 15, 3) := by decide +kernel
theorem dX0_comesBefore_46 : decode cX0_comesBefore 46 = .ok (.iload_n 2, 1) := by decide +kernel
theorem dX0_comesBefore_47 : decode cX0_comesBefore 47 = .ok (.iaload, 1) := by decide +kernel
theorem dX0_comesBefore_48 : decode cX0_comesBefore 48 = .ok (.if_icmp .eq 24, 3) := by decide +kernel
theorem dX0_comesBefore_51 : decode cX0_comesBefore 51 = .ok (.aload_n 0, 1) := by decide +kernel
theorem dX0_comesBefore_52 : decode cX0_comesBefore 52 = .ok (.getfield 15, 3) := by decide +kernel
theorem dX0_comesBefore_55 : decode cX0_comesBefore 55 = .ok (.iload_n 1, 1) := by decide +kernel
theorem dX0_comesBefore_56 : decode cX0_comesBefore 56 = .ok (.iaload, 1) := by decide +kernel
theorem dX0_comesBefore_57 : decode cX0_comesBefore 57 = .ok (.aload_n 0, 1) := by decide +kernel
theorem dX0_comesBefore_58 : decode cX0_comesBefore 58 = .ok (.getfield 15, 3) := by decide +kernel
theorem dX0_comesBefore_61 : decode cX0_comesBefore 61 = .ok (.iload_n 2, 1) := by decide +kernel
theorem dX0_comesBefore_62 : decode cX0_comesBefore 62 = .ok (.iaload, 1) := by decide +kernel
theorem dX0_comesBefore_63 : decode cX0_comesBefore 63 = .ok (.if_icmp .ge 7, 3) := by decide +kernel
theorem dX0_comesBefore_66 : decode cX0_comesBefore 66 = .ok (.iconst 1, 1) := by decide +kernel
theorem dX0_comesBefore_67 : decode cX0_comesBefore 67 = .ok (.goto 4, 3) := by decide +kernel
theorem dX0_comesBefore_70 : decode cX0_comesBefore 70 = .ok (.iconst 0, 1) := by decide +kernel
theorem dX0_comesBefore_71 : decode cX0_comesBefore 71 = .ok (.ireturn, 1) := by decide +kernel
theorem dX0_comesBefore_72 : decode cX0_comesBefore 72 = .ok (.aload_n 0, 1) := by decide +kernel
theorem dX0_comesBefore_73 : decode cX0_comesBefore 73 = .ok (.getfield 18, 3) := by decide +kernel
theorem dX0_comesBefore_76 : decode cX0_comesBefore 76 = .ok (.iload_n 1, 1) := by decide +kernel
theorem dX0_comesBefore_77 : decode cX0_comesBefore 77 = .ok (.iaload, 1) := by decide +kernel
theorem dX0_comesBefore_78 : decode cX0_comesBefore 78 = .ok (.aload_n 0, 1) := by decide +kernel
theorem dX0_comesBefore_79 : decode cX0_comesBefore 79 = .ok (.getfield 18, 3) := by decide +kernel
theorem dX0_comesBefore_82 : decode cX0_comesBefore 82 = .ok (.iload_n 2, 1) := by decide +kernel
theorem dX0_comesBefore_83 : decode cX0_comesBefore 83 = .ok (.iaload, 1) := by decide +kernel
theorem dX0_comesBefore_84 : decode cX0_comesBefore 84 = .ok (.if_icmp .ge 7, 3) := by decide +kernel
theorem dX0_comesBefore_87 : decode cX0_comesBefore 87 = .ok (.iconst 1, 1) := by decide +kernel
theorem dX0_comesBefore_88 : decode cX0_comesBefore 88 = .ok (.goto 4, 3) := by decide +kernel
theorem dX0_comesBefore_91 : decode cX0_comesBefore 91 = .ok (.iconst 0, 1) := by decide +kernel
theorem dX0_comesBefore_92 : decode cX0_comesBefore 92 = .ok (.ireturn, 1) := by decide +kernel
theorem dX0_swap_0 : decode cX0_swap 0 = .ok (.aload_n 0, 1) := by decide +kernel
theorem dX0_swap_1 : decode cX0_swap 1 = .ok (.getfield 9, 3) := by decide +kernel
theorem dX0_swap_4 : decode cX0_swap 4 = .ok (.iload_n 1, 1) := by decide +kernel
theorem dX0_swap_5 : decode cX0_swap 5 = .ok (.iaload, 1) := by decide +kernel
theorem dX0_swap_6 : decode cX0_swap 6 = .ok (.istore_n 3, 1) := by decide +kernel
theorem dX0_swap_7 : decode cX0_swap 7 = .ok (.aload_n 0, 1) := by decide +kernel
theorem dX0_swap_8 : decode cX0_swap 8 = .ok (.getfield 9, 3) := by decide +kernel
theorem dX0_swap_11 : decode cX0_swap 11 = .ok (.iload_n 1, 1) := by decide +kernel
theorem dX0_swap_12 : decode cX0_swap 12 = .ok (.aload_n 0, 1) := by decide +kernel
theorem dX0_swap_13 : decode cX0_swap 13 = .ok (.getfield 9, 3) := by decide +kernel
theorem dX0_swap_16 : decode cX0_swap 16 = .ok (.iload_n 2, 1) := by decide +kernel
theorem dX0_swap_17 : decode cX0_swap 17 = .ok (.iaload, 1) := by decide +kernel
theorem dX0_swap_18 : decode cX0_swap 18 = .ok (.iastore, 1) := by decide +kernel
theorem dX0_swap_19 : decode cX0_swap 19 = .ok (.aload_n 0, 1) := by decide +kernel
theorem dX0_swap_20 : decode cX0_swap 20 = .ok (.getfield 9, 3) := by decide +kernel
theorem dX0_swap_23 : decode cX0_swap 23 = .ok (.iload_n 2, 1) := by decide +kernel
theorem dX0_swap_24 : decode cX0_swap 24 = .ok (.iload_n 3, 1) := by decide +kernel
theorem dX0_swap_25 : decode cX0_swap 25 = .ok (.iastore, 1) := by decide +kernel
theorem dX0_swap_26 : decode cX0_swap 26 = .ok (.aload_n 0, 1) := by decide +kernel
theorem dX0_swap_27 : decode cX0_swap 27 = .ok (.getfield 15, 3) := by decide +kernel
theorem dX0_swap_30 : decode cX0_swap 30 = .ok (.iload_n 1, 1) := by decide +kernel
theorem dX0_swap_31 : decode cX0_swap 31 = .ok (.iaload, 1) := by decide +kernel
theorem dX0_swap_32 : decode cX0_swap 32 = .ok (.istore 4, 2) := by decide +kernel
theorem dX0_swap_34 : decode cX0_swap 34 = .ok (.aload_n 0, 1) := by decide +kernel
theorem dX0_swap_35 : decode cX0_swap 35 = .ok (.getfield 15, 3) := by decide +kernel
theorem dX0_swap_38 : decode cX0_swap 38 = .ok (.iload_n 1, 1) := by decide +kernel
