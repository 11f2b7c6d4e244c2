theorem dX2_generation_2 : decode cX2_generation 2 = .ok (.iload_n 2, 1) := by decide +kernel
theorem dX2_generation_3 : decode cX2_generation 3 = .ok (.iload_n 1, 1) := by decide +kernel
theorem dX2_generation_4 : decode cX2_generation 4 = .ok (.if_icmp .gt 81, 3) := by decide +kernel
theorem dX2_generation_7 : decode cX2_generation 7 = .ok (.aload_n 0, 1) := by decide +kernel
theorem dX2_generation_8 : decode cX2_generation 8 = .ok (.getfield 22, 3) := by decide +kernel
theorem dX2_generation_11 : decode cX2_generation 11 = .ok (.iload_n 2, 1) := by decide +kernel
theorem dX2_generation_12 : decode cX2_generation 12 = .ok (.iconst 1, 1) := by decide +kernel
theorem dX2_generation_13 : decode cX2_generation 13 = .ok (.iastore, 1) := by decide +kernel
theorem dX2_generation_14 : decode cX2_generation 14 = .ok (.iconst 0, 1) := by decide +kernel
theorem dX2_generation_15 : decode cX2_generation 15 = .ok (.istore_n 3, 1) := by decide +kernel
theorem dX2_generation_16 : decode cX2_generation 16 = .ok (.iload_n 3, 1) := by decide +kernel
theorem dX2_generation_17 : decode cX2_generation 17 = .ok (.aload_n 0, 1) := by decide +kernel
theorem dX2_generation_18 : decode cX2_generation 18 = .ok (.getfield 16, 3) := by decide +kernel
theorem dX2_generation_21 : decode cX2_generation 21 = .ok (.iload_n 2, 1) := by decide +kernel
theorem dX2_generation_22 : decode cX2_generation 22 = .ok (.iaload, 1) := by decide +kernel
theorem dX2_generation_23 : decode cX2_generation 23 = .ok (.if_icmp .ge 56, 3) := by decide +kernel
theorem dX2_generation_26 : decode cX2_generation 26 = .ok (.aload_n 0, 1) := by decide +kernel
theorem dX2_generation_27 : decode cX2_generation 27 = .ok (.getfield 22, 3) := by decide +kernel
theorem dX2_generation_30 : decode cX2_generation 30 = .ok (.aload_n 0, 1) := by decide +kernel
theorem dX2_generation_31 : decode cX2_generation 31 = .ok (.getfield 19, 3) := by decide +kernel
theorem dX2_generation_34 : decode cX2_generation 34 = .ok (.iload_n 2, 1) := by decide +kernel
theorem dX2_generation_35 : decode cX2_generation 35 = .ok (.iconst 4, 1) := by decide +kernel
theorem dX2_generation_36 : decode cX2_generation 36 = .ok (.imul, 1) := by decide +kernel
theorem dX2_generation_37 : decode cX2_generation 37 = .ok (.iload_n 3, 1) := by decide +kernel
theorem dX2_generation_38 : decode cX2_generation 38 = .ok (.iadd, 1) := by decide +kernel
theorem dX2_generation_39 : decode cX2_generation 39 = .ok (.iaload, 1) := by decide +kernel
theorem dX2_generation_40 : decode cX2_generation 40 = .ok (.iaload, 1) := by decide +kernel
theorem dX2_generation_41 : decode cX2_generation 41 = .ok (.aload_n 0, 1) := by decide +kernel
theorem dX2_generation_42 : decode cX2_generation 42 = .ok (.getfield 22, 3) := by decide +kernel
theorem dX2_generation_45 : decode cX2_generation 45 = .ok (.iload_n 2, 1) := by decide +kernel
theorem dX2_generation_46 : decode cX2_generation 46 = .ok (.iaload, 1) := by decide +kernel
theorem dX2_generation_47 : decode cX2_generation 47 = .ok (.if_icmp .lt 26, 3) := by decide +kernel
theorem dX2_generation_50 : decode cX2_generation 50 = .ok (.aload_n 0, 1) := by decide +kernel
theorem dX2_generation_51 : decode cX2_generation 51 = .ok (.getfield 22, 3) := by decide +kernel
theorem dX2_generation_54 : decode cX2_generation 54 = .ok (.iload_n 2, 1) := by decide +kernel
theorem dX2_generation_55 : decode cX2_generation 55 = .ok (.aload_n 0, 1) := by decide +kernel
theorem dX2_generation_56 : decode cX2_generation 56 = .ok (.getfield 22, 3) := by decide +kernel
theorem dX2_generation_59 : decode cX2_generation 59 = .ok (.aload_n 0, 1) := by decide +kernel
theorem dX2_generation_60 : decode cX2_generation 60 = .ok (.getfield 19, 3) := by decide +kernel
theorem dX2_generation_63 : decode cX2_generation 63 = .ok (.iload_n 2, 1) := by decide +kernel
theorem dX2_generation_64 : decode cX2_generation 64 = .ok (.iconst 4, 1) := by decide +kernel
theorem dX2_generation_65 : decode cX2_generation 65 = .ok (.imul, 1) := by decide +kernel
theorem dX2_generation_66 : decode cX2_generation 66 = .ok (.iload_n 3, 1) := by decide +kernel
theorem dX2_generation_67 : decode cX2_generation 67 = .ok (.iadd, 1) := by decide +kernel
theorem dX2_generation_68 : decode cX2_generation 68 = .ok (.iaload, 1) := by decide +kernel
theorem dX2_generation_69 : decode cX2_generation 69 = .ok (.iaload, 1) := by decide +kernel
theorem dX2_generation_70 : decode cX2_generation 70 = .ok (.iconst 1, 1) := by decide +kernel
theorem dX2_generation_71 : decode cX2_generation 71 = .ok (.iadd, 1) := by decide +kernel
theorem dX2_generation_72 : decode cX2_generation 72 = .ok (.iastore, 1) := by decide +kernel
theorem dX2_generation_73 : decode cX2_generation 73 = .ok (.iinc 3 1, 3) := by decide +kernel
theorem dX2_generation_76 : decode cX2_generation 76 = .ok (.goto (-60), 3) := by decide +kernel
theorem dX2_generation_79 : decode cX2_generation 79 = .ok (.iinc 2 1, 3) := by decide +kernel
theorem dX2_generation_82 : decode cX2_generation 82 = .ok (.goto (-80), 3) := by decide +kernel
theorem dX2_generation_85 : decode cX2_generation 85 = .ok (.aload_n 0, 1) := by decide +kernel
theorem dX2_generation_86 : decode cX2_generation 86 = .ok (.getfield 22, 3) := by decide +kernel
theorem dX2_generation_89 : decode cX2_generation 89 = .ok (.iload_n 1, 1) := by decide +kernel
theorem dX2_generation_90 : decode cX2_generation 90 = .ok (.iaload, 1) := by decide +kernel
theorem dX2_generation_91 : decode cX2_generation 91 = .ok (.ireturn, 1) := by decide +kernel
theorem dX2_told_0 : decode cX2_told 0 = .ok (.aload_n 0, 1) := by decide +kernel
theorem dX2_told_1 : decode cX2_told 1 = .ok (.iconst 0, 1) := by decide +kernel
theorem dX2_told_2 : decode cX2_told 2 = .ok (.putfield 38, 3) := by decide +kernel
theorem dX2_told_5 : decode cX2_told 5 = .ok (.aload_n 0, 1) := by decide +kernel
theorem dX2_told_6 : decode cX2_told 6 = .ok (.iload_n 1, 1) := by decide +kernel
theorem dX2_told_7 : decode cX2_told 7 = .ok (.invokevirtual 57, 3) := by decide +kernel
theorem dX2_told_10 : decode cX2_told 10 = .ok (.ifCond .eq 12, 3) := by decide +kernel
theorem dX2_told_13 : decode cX2_told 13 = .ok (.iload_n 2, 1) := by decide +kernel
theorem dX2_told_14 : decode cX2_told 14 = .ok (.ifCond .lt 8, 3) := by decide +kernel
theorem dX2_told_17 : decode cX2_told 17 = .ok (.iload_n 2, 1) := by decide +kernel
theorem dX2_told_18 : decode cX2_told 18 = .ok (.iconst 4, 1) := by decide +kernel
theorem dX2_told_19 : decode cX2_told 19 = .ok (.if_icmp .le 9, 3) := by decide +kernel
theorem dX2_told_22 : decode cX2_told 22 = .ok (.aload_n 0, 1) := by decide +kernel
theorem dX2_told_23 : decode cX2_told 23 = .ok (.iconst 1, 1) := by decide +kernel
theorem dX2_told_24 : decode cX2_told 24 = .ok (.invokevirtual 45, 3) := by decide +kernel
theorem dX2_told_27 : decode cX2_told 27 = .ok (.ireturn, 1) := by decide +kernel
theorem dX2_told_28 : decode cX2_told 28 = .ok (.iload_n 2, 1) := by decide +kernel
theorem dX2_told_29 : decode cX2_told 29 = .ok (.tableswitch 58 0 3 #[31, 38, 45, 52], 31) := by decide +kernel
theorem dX2_told_60 : decode cX2_told 60 = .ok (.aload_n 0, 1) := by decide +kernel
theorem dX2_told_61 : decode cX2_told 61 = .ok (.getfield 7, 3) := by decide +kernel
theorem dX2_told_64 : decode cX2_told 64 = .ok (.iload_n 1, 1) := by decide +kernel
theorem dX2_told_65 : decode cX2_told 65 = .ok (.iaload, 1) := by decide +kernel
theorem dX2_told_66 : decode cX2_told 66 = .ok (.ireturn, 1) := by decide +kernel
theorem dX2_told_67 : decode cX2_told 67 = .ok (.aload_n 0, 1) := by decide +kernel
theorem dX2_told_68 : decode cX2_told 68 = .ok (.getfield 13, 3) := by decide +kernel
theorem dX2_told_71 : decode cX2_told 71 = .ok (.iload_n 1, 1) := by decide +kernel
theorem dX2_told_72 : decode cX2_told 72 = .ok (.iaload, 1) := by decide +kernel
theorem dX2_told_73 : decode cX2_told 73 = .ok (.ireturn, 1) := by decide +kernel
theorem dX2_told_74 : decode cX2_told 74 = .ok (.aload_n 0, 1) := by decide +kernel
theorem dX2_told_75 : decode cX2_told 75 = .ok (.getfield 16, 3) := by decide +kernel
theorem dX2_told_78 : decode cX2_told 78 = .ok (.iload_n 1, 1) := by decide +kernel
theorem dX2_told_79 : decode cX2_told 79 = .ok (.iaload, 1) := by decide +kernel
theorem dX2_told_80 : decode cX2_told 80 = .ok (.ireturn, 1) := by decide +kernel
theorem dX2_told_81 : decode cX2_told 81 = .ok (.aload_n 0, 1) := by decide +kernel
theorem dX2_told_82 : decode cX2_told 82 = .ok (.iload_n 1, 1) := by decide +kernel
theorem dX2_told_83 : decode cX2_told 83 = .ok (.invokevirtual 90, 3) := by decide +kernel
theorem dX2_told_86 : decode cX2_told 86 = .ok (.ireturn, 1) := by decide +kernel
theorem dX2_told_87 : decode cX2_told 87 = .ok (.aload_n 0, 1) := by decide +kernel
theorem dX2_told_88 : decode cX2_told 88 = .ok (.getfield 25, 3) := by decide +kernel
theorem dX2_told_91 : decode cX2_told 91 = .ok (.iload_n 1, 1) := by decide +kernel
theorem dX2_told_92 : decode cX2_told 92 = .ok (.baload, 1) := by decide +kernel
theorem dX2_told_93 : decode cX2_told 93 = .ok (.ifCond .eq 7, 3) := by decide +kernel
theorem dX2_told_96 : decode cX2_told 96 = .ok (.iconst 1, 1) := by decide +kernel
theorem dX2_told_97 : decode cX2_told 97 = .ok (.goto 4, 3) := by decide +kernel
theorem dX2_told_100 : decode cX2_told 100 = .ok (.iconst 0, 1) := by decide +kernel
theorem dX2_told_101 : decode cX2_told 101 = .ok (.aload_n 0, 1) := by decide +kernel
theorem dX2_told_102 : decode cX2_told 102 = .ok (.getfield 25, 3) := by decide +kernel
theorem dX2_told_105 : decode cX2_told 105 = .ok (.sipush 2000, 3) := by decide +kernel
theorem dX2_told_108 : decode cX2_told 108 = .ok (.iload_n 1, 1) := by decide +kernel
theorem dX2_told_109 : decode cX2_told 109 = .ok (.iadd, 1) := by decide +kernel
theorem dX2_told_110 : decode cX2_told 110 = .ok (.baload, 1) := by decide +kernel
theorem dX2_told_111 : decode cX2_told 111 = .ok (.ifCond .eq 7, 3) := by decide +kernel
theorem dX2_told_114 : decode cX2_told 114 = .ok (.iconst 1, 1) := by decide +kernel
theorem dX2_told_115 : decode cX2_told 115 = .ok (.goto 4, 3) := by decide +kernel
theorem dX2_told_118 : decode cX2_told 118 = .ok (.iconst 0, 1) := by decide +kernel
theorem dX2_told_119 : decode cX2_told 119 = .ok (.iadd, 1) := by decide +kernel
theorem dX2_told_120 : decode cX2_told 120 = .ok (.ireturn, 1) := by decide +kernel
theorem dX2_count_0 : decode cX2_count 0 = .ok (.aload_n 0, 1) := by decide +kernel
theorem dX2_count_1 : decode cX2_count 1 = .ok (.iconst 0, 1) := by decide +kernel
theorem dX2_count_2 : decode cX2_count 2 = .ok (.putfield 38, 3) := by decide +kernel
theorem dX2_count_5 : decode cX2_count 5 = .ok (.aload_n 0, 1) := by decide +kernel
theorem dX2_count_6 : decode cX2_count 6 = .ok (.iconst 0, 1) := by decide +kernel
theorem dX2_count_7 : decode cX2_count 7 = .ok (.aload_n 0, 1) := by decide +kernel
theorem dX2_count_8 : decode cX2_count 8 = .ok (.getfield 29, 3) := by decide +kernel
theorem dX2_count_11 : decode cX2_count 11 = .ok (.invokevirtual 87, 3) := by decide +kernel
theorem dX2_count_14 : decode cX2_count 14 = .ok (.aload_n 0, 1) := by decide +kernel
theorem dX2_count_15 : decode cX2_count 15 = .ok (.iconst 1, 1) := by decide +kernel
theorem dX2_count_16 : decode cX2_count 16 = .ok (.aload_n 0, 1) := by decide +kernel
theorem dX2_count_17 : decode cX2_count 17 = .ok (.getfield 32, 3) := by decide +kernel
theorem dX2_count_20 : decode cX2_count 20 = .ok (.invokevirtual 87, 3) := by decide +kernel
theorem dX2_count_23 : decode cX2_count 23 = .ok (.iconst 0, 1) := by decide +kernel
theorem dX2_count_24 : decode cX2_count 24 = .ok (.istore_n 2, 1) := by decide +kernel
theorem dX2_count_25 : decode cX2_count 25 = .ok (.iconst 0, 1) := by decide +kernel
theorem dX2_count_26 : decode cX2_count 26 = .ok (.istore_n 3, 1) := by decide +kernel
theorem dX2_count_27 : decode cX2_count 27 = .ok (.iconst 0, 1) := by decide +kernel
theorem dX2_count_28 : decode cX2_count 28 = .ok (.istore 4, 2) := by decide +kernel
theorem dX2_count_30 : decode cX2_count 30 = .ok (.iload 4, 2) := by decide +kernel
theorem dX2_count_32 : decode cX2_count 32 = .ok (.aload_n 0, 1) := by decide +kernel
theorem dX2_count_33 : decode cX2_count 33 = .ok (.getfield 42, 3) := by decide +kernel
theorem dX2_count_36 : decode cX2_count 36 = .ok (.if_icmp .ge 165, 3) := by decide +kernel
theorem dX2_count_39 : decode cX2_count 39 = .ok (.iload_n 1, 1) := by decide +kernel
theorem dX2_count_40 : decode cX2_count 40 = .ok (.iconst 1, 1) := by decide +kernel
theorem dX2_count_41 : decode cX2_count 41 = .ok (.if_icmp .ne 13, 3) := by decide +kernel
theorem dX2_count_44 : decode cX2_count 44 = .ok (.aload_n 0, 1) := by decide +kernel
theorem dX2_count_45 : decode cX2_count 45 = .ok (.getfield 25, 3) := by decide +kernel
theorem dX2_count_48 : decode cX2_count 48 = .ok (.iload 4, 2) := by decide +kernel
theorem dX2_count_50 : decode cX2_count 50 = .ok (.baload, 1) := by decide +kernel
theorem dX2_count_51 : decode cX2_count 51 = .ok (.ifCond .ne 61, 3) := by decide +kernel
theorem dX2_count_54 : decode cX2_count 54 = .ok (.iload_n 1, 1) := by decide +kernel
theorem dX2_count_55 : decode cX2_count 55 = .ok (.iconst 2, 1) := by decide +kernel
theorem dX2_count_56 : decode cX2_count 56 = .ok (.if_icmp .ne 17, 3) := by decide +kernel
theorem dX2_count_59 : decode cX2_count 59 = .ok (.aload_n 0, 1) := by decide +kernel
