theorem dX2_base_192 : decode cX2_base 192 = .ok (.iconst 0, 1) := by decide +kernel
theorem dX2_base_193 : decode cX2_base 193 = .ok (.istore 4, 2) := by decide +kernel
theorem dX2_base_195 : decode cX2_base 195 = .ok (.iload 4, 2) := by decide +kernel
theorem dX2_base_197 : decode cX2_base 197 = .ok (.aload_n 0, 1) := by decide +kernel
theorem dX2_base_198 : decode cX2_base 198 = .ok (.getfield 42, 3) := by decide +kernel
theorem dX2_base_201 : decode cX2_base 201 = .ok (.if_icmp .ge 27, 3) := by decide +kernel
theorem dX2_base_204 : decode cX2_base 204 = .ok (.aload_n 0, 1) := by decide +kernel
theorem dX2_base_205 : decode cX2_base 205 = .ok (.getfield 32, 3) := by decide +kernel
theorem dX2_base_208 : decode cX2_base 208 = .ok (.iload 4, 2) := by decide +kernel
theorem dX2_base_210 : decode cX2_base 210 = .ok (.baload, 1) := by decide +kernel
theorem dX2_base_211 : decode cX2_base 211 = .ok (.ifCond .eq 11, 3) := by decide +kernel
theorem dX2_base_214 : decode cX2_base 214 = .ok (.aload_n 0, 1) := by decide +kernel
theorem dX2_base_215 : decode cX2_base 215 = .ok (.getfield 35, 3) := by decide +kernel
theorem dX2_base_218 : decode cX2_base 218 = .ok (.iload 4, 2) := by decide +kernel
theorem dX2_base_220 : decode cX2_base 220 = .ok (.iconst 0, 1) := by decide +kernel
theorem dX2_base_221 : decode cX2_base 221 = .ok (.bastore, 1) := by decide +kernel
theorem dX2_base_222 : decode cX2_base 222 = .ok (.iinc 4 1, 3) := by decide +kernel
theorem dX2_base_225 : decode cX2_base 225 = .ok (.goto (-30), 3) := by decide +kernel
theorem dX2_base_228 : decode cX2_base 228 = .ok (.aload_n 0, 1) := by decide +kernel
theorem dX2_base_229 : decode cX2_base 229 = .ok (.invokevirtual 78, 3) := by decide +kernel
theorem dX2_base_232 : decode cX2_base 232 = .ok (.aload_n 0, 1) := by decide +kernel
theorem dX2_base_233 : decode cX2_base 233 = .ok (.iload_n 3, 1) := by decide +kernel
theorem dX2_base_234 : decode cX2_base 234 = .ok (.invokevirtual 81, 3) := by decide +kernel
theorem dX2_base_237 : decode cX2_base 237 = .ok (.ireturn, 1) := by decide +kernel
theorem dX2_order_0 : decode cX2_order 0 = .ok (.aload_n 0, 1) := by decide +kernel
theorem dX2_order_1 : decode cX2_order 1 = .ok (.iconst 0, 1) := by decide +kernel
theorem dX2_order_2 : decode cX2_order 2 = .ok (.putfield 72, 3) := by decide +kernel
theorem dX2_order_5 : decode cX2_order 5 = .ok (.iconst 0, 1) := by decide +kernel
theorem dX2_order_6 : decode cX2_order 6 = .ok (.istore_n 1, 1) := by decide +kernel
theorem dX2_order_7 : decode cX2_order 7 = .ok (.iload_n 1, 1) := by decide +kernel
theorem dX2_order_8 : decode cX2_order 8 = .ok (.aload_n 0, 1) := by decide +kernel
theorem dX2_order_9 : decode cX2_order 9 = .ok (.getfield 42, 3) := by decide +kernel
theorem dX2_order_12 : decode cX2_order 12 = .ok (.if_icmp .ge 83, 3) := by decide +kernel
theorem dX2_order_15 : decode cX2_order 15 = .ok (.iconst (-1), 1) := by decide +kernel
theorem dX2_order_16 : decode cX2_order 16 = .ok (.istore_n 2, 1) := by decide +kernel
theorem dX2_order_17 : decode cX2_order 17 = .ok (.iconst 0, 1) := by decide +kernel
theorem dX2_order_18 : decode cX2_order 18 = .ok (.istore_n 3, 1) := by decide +kernel
theorem dX2_order_19 : decode cX2_order 19 = .ok (.iload_n 3, 1) := by decide +kernel
theorem dX2_order_20 : decode cX2_order 20 = .ok (.aload_n 0, 1) := by decide +kernel
theorem dX2_order_21 : decode cX2_order 21 = .ok (.getfield 42, 3) := by decide +kernel
theorem dX2_order_24 : decode cX2_order 24 = .ok (.if_icmp .ge 33, 3) := by decide +kernel
theorem dX2_order_27 : decode cX2_order 27 = .ok (.aload_n 0, 1) := by decide +kernel
theorem dX2_order_28 : decode cX2_order 28 = .ok (.getfield 35, 3) := by decide +kernel
theorem dX2_order_31 : decode cX2_order 31 = .ok (.iload_n 3, 1) := by decide +kernel
theorem dX2_order_32 : decode cX2_order 32 = .ok (.baload, 1) := by decide +kernel
theorem dX2_order_33 : decode cX2_order 33 = .ok (.ifCond .eq 18, 3) := by decide +kernel
theorem dX2_order_36 : decode cX2_order 36 = .ok (.iload_n 2, 1) := by decide +kernel
theorem dX2_order_37 : decode cX2_order 37 = .ok (.ifCond .lt 12, 3) := by decide +kernel
theorem dX2_order_40 : decode cX2_order 40 = .ok (.aload_n 0, 1) := by decide +kernel
theorem dX2_order_41 : decode cX2_order 41 = .ok (.iload_n 3, 1) := by decide +kernel
theorem dX2_order_42 : decode cX2_order 42 = .ok (.iload_n 2, 1) := by decide +kernel
theorem dX2_order_43 : decode cX2_order 43 = .ok (.invokevirtual 75, 3) := by decide +kernel
theorem dX2_order_46 : decode cX2_order 46 = .ok (.ifCond .eq 5, 3) := by decide +kernel
theorem dX2_order_49 : decode cX2_order 49 = .ok (.iload_n 3, 1) := by decide +kernel
theorem dX2_order_50 : decode cX2_order 50 = .ok (.istore_n 2, 1) := by decide +kernel
theorem dX2_order_51 : decode cX2_order 51 = .ok (.iinc 3 1, 3) := by decide +kernel
theorem dX2_order_54 : decode cX2_order 54 = .ok (.goto (-35), 3) := by decide +kernel
theorem dX2_order_57 : decode cX2_order 57 = .ok (.iload_n 2, 1) := by decide +kernel
theorem dX2_order_58 : decode cX2_order 58 = .ok (.ifCond .ge 4, 3) := by decide +kernel
theorem dX2_order_61 : decode cX2_order 61 = .ok (.return_, 1) := by decide +kernel
theorem dX2_order_62 : decode cX2_order 62 = .ok (.aload_n 0, 1) := by decide +kernel
theorem dX2_order_63 : decode cX2_order 63 = .ok (.getfield 35, 3) := by decide +kernel
theorem dX2_order_66 : decode cX2_order 66 = .ok (.iload_n 2, 1) := by decide +kernel
theorem dX2_order_67 : decode cX2_order 67 = .ok (.iconst 0, 1) := by decide +kernel
theorem dX2_order_68 : decode cX2_order 68 = .ok (.bastore, 1) := by decide +kernel
theorem dX2_order_69 : decode cX2_order 69 = .ok (.aload_n 0, 1) := by decide +kernel
theorem dX2_order_70 : decode cX2_order 70 = .ok (.getfield 22, 3) := by decide +kernel
theorem dX2_order_73 : decode cX2_order 73 = .ok (.aload_n 0, 1) := by decide +kernel
theorem dX2_order_74 : decode cX2_order 74 = .ok (.getfield 72, 3) := by decide +kernel
theorem dX2_order_77 : decode cX2_order 77 = .ok (.iload_n 2, 1) := by decide +kernel
theorem dX2_order_78 : decode cX2_order 78 = .ok (.iastore, 1) := by decide +kernel
theorem dX2_order_79 : decode cX2_order 79 = .ok (.aload_n 0, 1) := by decide +kernel
theorem dX2_order_80 : decode cX2_order 80 = .ok (.dup, 1) := by decide +kernel
theorem dX2_order_81 : decode cX2_order 81 = .ok (.getfield 72, 3) := by decide +kernel
theorem dX2_order_84 : decode cX2_order 84 = .ok (.iconst 1, 1) := by decide +kernel
theorem dX2_order_85 : decode cX2_order 85 = .ok (.iadd, 1) := by decide +kernel
theorem dX2_order_86 : decode cX2_order 86 = .ok (.putfield 72, 3) := by decide +kernel
theorem dX2_order_89 : decode cX2_order 89 = .ok (.iinc 1 1, 3) := by decide +kernel
theorem dX2_order_92 : decode cX2_order 92 = .ok (.goto (-85), 3) := by decide +kernel
theorem dX2_order_95 : decode cX2_order 95 = .ok (.return_, 1) := by decide +kernel
theorem dX2_before_0 : decode cX2_before 0 = .ok (.aload_n 0, 1) := by decide +kernel
theorem dX2_before_1 : decode cX2_before 1 = .ok (.getfield 7, 3) := by decide +kernel
theorem dX2_before_4 : decode cX2_before 4 = .ok (.iload_n 1, 1) := by decide +kernel
theorem dX2_before_5 : decode cX2_before 5 = .ok (.iaload, 1) := by decide +kernel
theorem dX2_before_6 : decode cX2_before 6 = .ok (.aload_n 0, 1) := by decide +kernel
theorem dX2_before_7 : decode cX2_before 7 = .ok (.getfield 7, 3) := by decide +kernel
theorem dX2_before_10 : decode cX2_before 10 = .ok (.iload_n 2, 1) := by decide +kernel
theorem dX2_before_11 : decode cX2_before 11 = .ok (.iaload, 1) := by decide +kernel
theorem dX2_before_12 : decode cX2_before 12 = .ok (.if_icmp .eq 24, 3) := by decide +kernel
theorem dX2_before_15 : decode cX2_before 15 = .ok (.aload_n 0, 1) := by decide +kernel
theorem dX2_before_16 : decode cX2_before 16 = .ok (.getfield 7, 3) := by decide +kernel
theorem dX2_before_19 : decode cX2_before 19 = .ok (.iload_n 1, 1) := by decide +kernel
theorem dX2_before_20 : decode cX2_before 20 = .ok (.iaload, 1) := by decide +kernel
theorem dX2_before_21 : decode cX2_before 21 = .ok (.aload_n 0, 1) := by decide +kernel
theorem dX2_before_22 : decode cX2_before 22 = .ok (.getfield 7, 3) := by decide +kernel
theorem dX2_before_25 : decode cX2_before 25 = .ok (.iload_n 2, 1) := by decide +kernel
theorem dX2_before_26 : decode cX2_before 26 = .ok (.iaload, 1) := by decide +kernel
theorem dX2_before_27 : decode cX2_before 27 = .ok (.if_icmp .le 7, 3) := by decide +kernel
theorem dX2_before_30 : decode cX2_before 30 = .ok (.iconst 1, 1) := by decide +kernel
theorem dX2_before_31 : decode cX2_before 31 = .ok (.goto 4, 3) := by decide +kernel
theorem dX2_before_34 : decode cX2_before 34 = .ok (.iconst 0, 1) := by decide +kernel
theorem dX2_before_35 : decode cX2_before 35 = .ok (.ireturn, 1) := by decide +kernel
theorem dX2_before_36 : decode cX2_before 36 = .ok (.aload_n 0, 1) := by decide +kernel
theorem dX2_before_37 : decode cX2_before 37 = .ok (.getfield 13, 3) := by decide +kernel
theorem dX2_before_40 : decode cX2_before 40 = .ok (.iload_n 1, 1) := by decide +kernel
theorem dX2_before_41 : decode cX2_before 41 = .ok (.iaload, 1) := by decide +kernel
theorem dX2_before_42 : decode cX2_before 42 = .ok (.aload_n 0, 1) := by decide +kernel
theorem dX2_before_43 : decode cX2_before 43 = .ok (.getfield 13, 3) := by decide +kernel
theorem dX2_before_46 : decode cX2_before 46 = .ok (.iload_n 2, 1) := by decide +kernel
theorem dX2_before_47 : decode cX2_before 47 = .ok (.iaload, 1) := by decide +kernel
theorem dX2_before_48 : decode cX2_before 48 = .ok (.if_icmp .eq 26, 3) := by decide +kernel
theorem dX2_before_51 : decode cX2_before 51 = .ok (.aload_n 0, 1) := by decide +kernel
theorem dX2_before_52 : decode cX2_before 52 = .ok (.getfield 13, 3) := by decide +kernel
theorem dX2_before_55 : decode cX2_before 55 = .ok (.iload_n 1, 1) := by decide +kernel
theorem dX2_before_56 : decode cX2_before 56 = .ok (.iaload, 1) := by decide +kernel
theorem dX2_before_57 : decode cX2_before 57 = .ok (.aload_n 0, 1) := by decide +kernel
theorem dX2_before_58 : decode cX2_before 58 = .ok (.getfield 13, 3) := by decide +kernel
theorem dX2_before_61 : decode cX2_before 61 = .ok (.iload_n 2, 1) := by decide +kernel
theorem dX2_before_62 : decode cX2_before 62 = .ok (.iaload, 1) := by decide +kernel
theorem dX2_before_63 : decode cX2_before 63 = .ok (.if_icmp .ge 7, 3) := by decide +kernel
theorem dX2_before_66 : decode cX2_before 66 = .ok (.iconst 1, 1) := by decide +kernel
theorem dX2_before_67 : decode cX2_before 67 = .ok (.goto 17, 3) := by decide +kernel
theorem dX2_before_70 : decode cX2_before 70 = .ok (.iconst 0, 1) := by decide +kernel
theorem dX2_before_71 : decode cX2_before 71 = .ok (.goto 13, 3) := by decide +kernel
theorem dX2_before_74 : decode cX2_before 74 = .ok (.iload_n 1, 1) := by decide +kernel
theorem dX2_before_75 : decode cX2_before 75 = .ok (.iload_n 2, 1) := by decide +kernel
theorem dX2_before_76 : decode cX2_before 76 = .ok (.if_icmp .ge 7, 3) := by decide +kernel
theorem dX2_before_79 : decode cX2_before 79 = .ok (.iconst 1, 1) := by decide +kernel
theorem dX2_before_80 : decode cX2_before 80 = .ok (.goto 4, 3) := by decide +kernel
theorem dX2_before_83 : decode cX2_before 83 = .ok (.iconst 0, 1) := by decide +kernel
theorem dX2_before_84 : decode cX2_before 84 = .ok (.ireturn, 1) := by decide +kernel
theorem dX2_pick_0 : decode cX2_pick 0 = .ok (.iload_n 1, 1) := by decide +kernel
theorem dX2_pick_1 : decode cX2_pick 1 = .ok (.iconst (-1), 1) := by decide +kernel
theorem dX2_pick_2 : decode cX2_pick 2 = .ok (.if_icmp .ne 8, 3) := by decide +kernel
theorem dX2_pick_5 : decode cX2_pick 5 = .ok (.aload_n 0, 1) := by decide +kernel
theorem dX2_pick_6 : decode cX2_pick 6 = .ok (.getfield 72, 3) := by decide +kernel
theorem dX2_pick_9 : decode cX2_pick 9 = .ok (.ireturn, 1) := by decide +kernel
theorem dX2_pick_10 : decode cX2_pick 10 = .ok (.iload_n 1, 1) := by decide +kernel
theorem dX2_pick_11 : decode cX2_pick 11 = .ok (.ifCond .lt 11, 3) := by decide +kernel
theorem dX2_pick_14 : decode cX2_pick 14 = .ok (.iload_n 1, 1) := by decide +kernel
theorem dX2_pick_15 : decode cX2_pick 15 = .ok (.aload_n 0, 1) := by decide +kernel
theorem dX2_pick_16 : decode cX2_pick 16 = .ok (.getfield 72, 3) := by decide +kernel
theorem dX2_pick_19 : decode cX2_pick 19 = .ok (.if_icmp .lt 11, 3) := by decide +kernel
theorem dX2_pick_22 : decode cX2_pick 22 = .ok (.aload_n 0, 1) := by decide +kernel
theorem dX2_pick_23 : decode cX2_pick 23 = .ok (.iconst 2, 1) := by decide +kernel
theorem dX2_pick_24 : decode cX2_pick 24 = .ok (.invokevirtual 45, 3) := by decide +kernel
theorem dX2_pick_27 : decode cX2_pick 27 = .ok (.goto 9, 3) := by decide +kernel
theorem dX2_pick_30 : decode cX2_pick 30 = .ok (.aload_n 0, 1) := by decide +kernel
theorem dX2_pick_31 : decode cX2_pick 31 = .ok (.getfield 22, 3) := by decide +kernel
theorem dX2_pick_34 : decode cX2_pick 34 = .ok (.iload_n 1, 1) := by decide +kernel
