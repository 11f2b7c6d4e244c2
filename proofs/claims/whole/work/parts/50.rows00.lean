theorem dX2_init_0 : decode cX2_init 0 = .ok (.aload_n 0, 1) := by decide +kernel
theorem dX2_init_1 : decode cX2_init 1 = .ok (.invokespecial 1, 3) := by decide +kernel
theorem dX2_init_4 : decode cX2_init 4 = .ok (.aload_n 0, 1) := by decide +kernel
theorem dX2_init_5 : decode cX2_init 5 = .ok (.sipush 2000, 3) := by decide +kernel
theorem dX2_init_8 : decode cX2_init 8 = .ok (.newarray .int, 2) := by decide +kernel
theorem dX2_init_10 : decode cX2_init 10 = .ok (.putfield 7, 3) := by decide +kernel
theorem dX2_init_13 : decode cX2_init 13 = .ok (.aload_n 0, 1) := by decide +kernel
theorem dX2_init_14 : decode cX2_init 14 = .ok (.sipush 2000, 3) := by decide +kernel
theorem dX2_init_17 : decode cX2_init 17 = .ok (.newarray .int, 2) := by decide +kernel
theorem dX2_init_19 : decode cX2_init 19 = .ok (.putfield 13, 3) := by decide +kernel
theorem dX2_init_22 : decode cX2_init 22 = .ok (.aload_n 0, 1) := by decide +kernel
theorem dX2_init_23 : decode cX2_init 23 = .ok (.sipush 2000, 3) := by decide +kernel
theorem dX2_init_26 : decode cX2_init 26 = .ok (.newarray .int, 2) := by decide +kernel
theorem dX2_init_28 : decode cX2_init 28 = .ok (.putfield 16, 3) := by decide +kernel
theorem dX2_init_31 : decode cX2_init 31 = .ok (.aload_n 0, 1) := by decide +kernel
theorem dX2_init_32 : decode cX2_init 32 = .ok (.sipush 8000, 3) := by decide +kernel
theorem dX2_init_35 : decode cX2_init 35 = .ok (.newarray .int, 2) := by decide +kernel
theorem dX2_init_37 : decode cX2_init 37 = .ok (.putfield 19, 3) := by decide +kernel
theorem dX2_init_40 : decode cX2_init 40 = .ok (.aload_n 0, 1) := by decide +kernel
theorem dX2_init_41 : decode cX2_init 41 = .ok (.sipush 2000, 3) := by decide +kernel
theorem dX2_init_44 : decode cX2_init 44 = .ok (.newarray .int, 2) := by decide +kernel
theorem dX2_init_46 : decode cX2_init 46 = .ok (.putfield 22, 3) := by decide +kernel
theorem dX2_init_49 : decode cX2_init 49 = .ok (.aload_n 0, 1) := by decide +kernel
theorem dX2_init_50 : decode cX2_init 50 = .ok (.sipush 4000, 3) := by decide +kernel
theorem dX2_init_53 : decode cX2_init 53 = .ok (.newarray .boolean, 2) := by decide +kernel
theorem dX2_init_55 : decode cX2_init 55 = .ok (.putfield 25, 3) := by decide +kernel
theorem dX2_init_58 : decode cX2_init 58 = .ok (.aload_n 0, 1) := by decide +kernel
theorem dX2_init_59 : decode cX2_init 59 = .ok (.sipush 2000, 3) := by decide +kernel
theorem dX2_init_62 : decode cX2_init 62 = .ok (.newarray .boolean, 2) := by decide +kernel
theorem dX2_init_64 : decode cX2_init 64 = .ok (.putfield 29, 3) := by decide +kernel
theorem dX2_init_67 : decode cX2_init 67 = .ok (.aload_n 0, 1) := by decide +kernel
theorem dX2_init_68 : decode cX2_init 68 = .ok (.sipush 2000, 3) := by decide +kernel
theorem dX2_init_71 : decode cX2_init 71 = .ok (.newarray .boolean, 2) := by decide +kernel
theorem dX2_init_73 : decode cX2_init 73 = .ok (.putfield 32, 3) := by decide +kernel
theorem dX2_init_76 : decode cX2_init 76 = .ok (.aload_n 0, 1) := by decide +kernel
theorem dX2_init_77 : decode cX2_init 77 = .ok (.sipush 2000, 3) := by decide +kernel
theorem dX2_init_80 : decode cX2_init 80 = .ok (.newarray .boolean, 2) := by decide +kernel
theorem dX2_init_82 : decode cX2_init 82 = .ok (.putfield 35, 3) := by decide +kernel
theorem dX2_init_85 : decode cX2_init 85 = .ok (.return_, 1) := by decide +kernel
theorem dX2_thrown_0 : decode cX2_thrown 0 = .ok (.aload_n 0, 1) := by decide +kernel
theorem dX2_thrown_1 : decode cX2_thrown 1 = .ok (.getfield 38, 3) := by decide +kernel
theorem dX2_thrown_4 : decode cX2_thrown 4 = .ok (.ireturn, 1) := by decide +kernel
theorem dX2_add_0 : decode cX2_add 0 = .ok (.aload_n 0, 1) := by decide +kernel
theorem dX2_add_1 : decode cX2_add 1 = .ok (.iconst 0, 1) := by decide +kernel
theorem dX2_add_2 : decode cX2_add 2 = .ok (.putfield 38, 3) := by decide +kernel
theorem dX2_add_5 : decode cX2_add 5 = .ok (.iload_n 3, 1) := by decide +kernel
theorem dX2_add_6 : decode cX2_add 6 = .ok (.iconst (-1), 1) := by decide +kernel
theorem dX2_add_7 : decode cX2_add 7 = .ok (.if_icmp .lt 41, 3) := by decide +kernel
theorem dX2_add_10 : decode cX2_add 10 = .ok (.iload_n 3, 1) := by decide +kernel
theorem dX2_add_11 : decode cX2_add 11 = .ok (.aload_n 0, 1) := by decide +kernel
theorem dX2_add_12 : decode cX2_add 12 = .ok (.getfield 42, 3) := by decide +kernel
theorem dX2_add_15 : decode cX2_add 15 = .ok (.if_icmp .ge 33, 3) := by decide +kernel
theorem dX2_add_18 : decode cX2_add 18 = .ok (.iload 4, 2) := by decide +kernel
theorem dX2_add_20 : decode cX2_add 20 = .ok (.iconst (-1), 1) := by decide +kernel
theorem dX2_add_21 : decode cX2_add 21 = .ok (.if_icmp .lt 27, 3) := by decide +kernel
theorem dX2_add_24 : decode cX2_add 24 = .ok (.iload 4, 2) := by decide +kernel
theorem dX2_add_26 : decode cX2_add 26 = .ok (.aload_n 0, 1) := by decide +kernel
theorem dX2_add_27 : decode cX2_add 27 = .ok (.getfield 42, 3) := by decide +kernel
theorem dX2_add_30 : decode cX2_add 30 = .ok (.if_icmp .ge 18, 3) := by decide +kernel
theorem dX2_add_33 : decode cX2_add 33 = .ok (.iload 5, 2) := by decide +kernel
theorem dX2_add_35 : decode cX2_add 35 = .ok (.iconst (-1), 1) := by decide +kernel
theorem dX2_add_36 : decode cX2_add 36 = .ok (.if_icmp .lt 12, 3) := by decide +kernel
theorem dX2_add_39 : decode cX2_add 39 = .ok (.iload 5, 2) := by decide +kernel
theorem dX2_add_41 : decode cX2_add 41 = .ok (.aload_n 0, 1) := by decide +kernel
theorem dX2_add_42 : decode cX2_add 42 = .ok (.getfield 42, 3) := by decide +kernel
theorem dX2_add_45 : decode cX2_add 45 = .ok (.if_icmp .lt 9, 3) := by decide +kernel
theorem dX2_add_48 : decode cX2_add 48 = .ok (.aload_n 0, 1) := by decide +kernel
theorem dX2_add_49 : decode cX2_add 49 = .ok (.iconst 1, 1) := by decide +kernel
theorem dX2_add_50 : decode cX2_add 50 = .ok (.invokevirtual 45, 3) := by decide +kernel
theorem dX2_add_53 : decode cX2_add 53 = .ok (.ireturn, 1) := by decide +kernel
theorem dX2_add_54 : decode cX2_add 54 = .ok (.aload_n 0, 1) := by decide +kernel
theorem dX2_add_55 : decode cX2_add 55 = .ok (.getfield 42, 3) := by decide +kernel
theorem dX2_add_58 : decode cX2_add 58 = .ok (.sipush 2000, 3) := by decide +kernel
theorem dX2_add_61 : decode cX2_add 61 = .ok (.if_icmp .ne 9, 3) := by decide +kernel
theorem dX2_add_64 : decode cX2_add 64 = .ok (.aload_n 0, 1) := by decide +kernel
theorem dX2_add_65 : decode cX2_add 65 = .ok (.iconst 2, 1) := by decide +kernel
theorem dX2_add_66 : decode cX2_add 66 = .ok (.invokevirtual 45, 3) := by decide +kernel
theorem dX2_add_69 : decode cX2_add 69 = .ok (.ireturn, 1) := by decide +kernel
theorem dX2_add_70 : decode cX2_add 70 = .ok (.aload_n 0, 1) := by decide +kernel
theorem dX2_add_71 : decode cX2_add 71 = .ok (.getfield 7, 3) := by decide +kernel
theorem dX2_add_74 : decode cX2_add 74 = .ok (.aload_n 0, 1) := by decide +kernel
theorem dX2_add_75 : decode cX2_add 75 = .ok (.getfield 42, 3) := by decide +kernel
theorem dX2_add_78 : decode cX2_add 78 = .ok (.iload_n 1, 1) := by decide +kernel
theorem dX2_add_79 : decode cX2_add 79 = .ok (.iastore, 1) := by decide +kernel
theorem dX2_add_80 : decode cX2_add 80 = .ok (.aload_n 0, 1) := by decide +kernel
theorem dX2_add_81 : decode cX2_add 81 = .ok (.getfield 13, 3) := by decide +kernel
theorem dX2_add_84 : decode cX2_add 84 = .ok (.aload_n 0, 1) := by decide +kernel
theorem dX2_add_85 : decode cX2_add 85 = .ok (.getfield 42, 3) := by decide +kernel
theorem dX2_add_88 : decode cX2_add 88 = .ok (.iload_n 2, 1) := by decide +kernel
theorem dX2_add_89 : decode cX2_add 89 = .ok (.iastore, 1) := by decide +kernel
theorem dX2_add_90 : decode cX2_add 90 = .ok (.aload_n 0, 1) := by decide +kernel
theorem dX2_add_91 : decode cX2_add 91 = .ok (.getfield 16, 3) := by decide +kernel
theorem dX2_add_94 : decode cX2_add 94 = .ok (.aload_n 0, 1) := by decide +kernel
theorem dX2_add_95 : decode cX2_add 95 = .ok (.getfield 42, 3) := by decide +kernel
theorem dX2_add_98 : decode cX2_add 98 = .ok (.iconst 0, 1) := by decide +kernel
theorem dX2_add_99 : decode cX2_add 99 = .ok (.iastore, 1) := by decide +kernel
theorem dX2_add_100 : decode cX2_add 100 = .ok (.aload_n 0, 1) := by decide +kernel
theorem dX2_add_101 : decode cX2_add 101 = .ok (.aload_n 0, 1) := by decide +kernel
theorem dX2_add_102 : decode cX2_add 102 = .ok (.getfield 42, 3) := by decide +kernel
theorem dX2_add_105 : decode cX2_add 105 = .ok (.iload_n 3, 1) := by decide +kernel
theorem dX2_add_106 : decode cX2_add 106 = .ok (.invokevirtual 49, 3) := by decide +kernel
theorem dX2_add_109 : decode cX2_add 109 = .ok (.aload_n 0, 1) := by decide +kernel
theorem dX2_add_110 : decode cX2_add 110 = .ok (.aload_n 0, 1) := by decide +kernel
theorem dX2_add_111 : decode cX2_add 111 = .ok (.getfield 42, 3) := by decide +kernel
theorem dX2_add_114 : decode cX2_add 114 = .ok (.iload 4, 2) := by decide +kernel
theorem dX2_add_116 : decode cX2_add 116 = .ok (.invokevirtual 49, 3) := by decide +kernel
theorem dX2_add_119 : decode cX2_add 119 = .ok (.aload_n 0, 1) := by decide +kernel
theorem dX2_add_120 : decode cX2_add 120 = .ok (.aload_n 0, 1) := by decide +kernel
theorem dX2_add_121 : decode cX2_add 121 = .ok (.getfield 42, 3) := by decide +kernel
theorem dX2_add_124 : decode cX2_add 124 = .ok (.iload 5, 2) := by decide +kernel
theorem dX2_add_126 : decode cX2_add 126 = .ok (.invokevirtual 49, 3) := by decide +kernel
theorem dX2_add_129 : decode cX2_add 129 = .ok (.aload_n 0, 1) := by decide +kernel
theorem dX2_add_130 : decode cX2_add 130 = .ok (.dup, 1) := by decide +kernel
theorem dX2_add_131 : decode cX2_add 131 = .ok (.getfield 42, 3) := by decide +kernel
theorem dX2_add_134 : decode cX2_add 134 = .ok (.iconst 1, 1) := by decide +kernel
theorem dX2_add_135 : decode cX2_add 135 = .ok (.iadd, 1) := by decide +kernel
theorem dX2_add_136 : decode cX2_add 136 = .ok (.putfield 42, 3) := by decide +kernel
theorem dX2_add_139 : decode cX2_add 139 = .ok (.aload_n 0, 1) := by decide +kernel
theorem dX2_add_140 : decode cX2_add 140 = .ok (.getfield 42, 3) := by decide +kernel
theorem dX2_add_143 : decode cX2_add 143 = .ok (.iconst 1, 1) := by decide +kernel
theorem dX2_add_144 : decode cX2_add 144 = .ok (.isub, 1) := by decide +kernel
theorem dX2_add_145 : decode cX2_add 145 = .ok (.ireturn, 1) := by decide +kernel
theorem dX2_refuse_0 : decode cX2_refuse 0 = .ok (.aload_n 0, 1) := by decide +kernel
theorem dX2_refuse_1 : decode cX2_refuse 1 = .ok (.iload_n 1, 1) := by decide +kernel
theorem dX2_refuse_2 : decode cX2_refuse 2 = .ok (.putfield 38, 3) := by decide +kernel
theorem dX2_refuse_5 : decode cX2_refuse 5 = .ok (.iconst 0, 1) := by decide +kernel
theorem dX2_refuse_6 : decode cX2_refuse 6 = .ok (.ireturn, 1) := by decide +kernel
theorem dX2_join_0 : decode cX2_join 0 = .ok (.iload_n 2, 1) := by decide +kernel
theorem dX2_join_1 : decode cX2_join 1 = .ok (.ifCond .ge 4, 3) := by decide +kernel
theorem dX2_join_4 : decode cX2_join 4 = .ok (.return_, 1) := by decide +kernel
theorem dX2_join_5 : decode cX2_join 5 = .ok (.aload_n 0, 1) := by decide +kernel
theorem dX2_join_6 : decode cX2_join 6 = .ok (.getfield 19, 3) := by decide +kernel
theorem dX2_join_9 : decode cX2_join 9 = .ok (.iload_n 1, 1) := by decide +kernel
theorem dX2_join_10 : decode cX2_join 10 = .ok (.iconst 4, 1) := by decide +kernel
theorem dX2_join_11 : decode cX2_join 11 = .ok (.imul, 1) := by decide +kernel
theorem dX2_join_12 : decode cX2_join 12 = .ok (.aload_n 0, 1) := by decide +kernel
theorem dX2_join_13 : decode cX2_join 13 = .ok (.getfield 16, 3) := by decide +kernel
theorem dX2_join_16 : decode cX2_join 16 = .ok (.iload_n 1, 1) := by decide +kernel
theorem dX2_join_17 : decode cX2_join 17 = .ok (.iaload, 1) := by decide +kernel
theorem dX2_join_18 : decode cX2_join 18 = .ok (.iadd, 1) := by decide +kernel
theorem dX2_join_19 : decode cX2_join 19 = .ok (.iload_n 2, 1) := by decide +kernel
theorem dX2_join_20 : decode cX2_join 20 = .ok (.iastore, 1) := by decide +kernel
theorem dX2_join_21 : decode cX2_join 21 = .ok (.aload_n 0, 1) := by decide +kernel
theorem dX2_join_22 : decode cX2_join 22 = .ok (.getfield 16, 3) := by decide +kernel
theorem dX2_join_25 : decode cX2_join 25 = .ok (.iload_n 1, 1) := by decide +kernel
theorem dX2_join_26 : decode cX2_join 26 = .ok (.dup2, 1) := by decide +kernel
theorem dX2_join_27 : decode cX2_join 27 = .ok (.iaload, 1) := by decide +kernel
theorem dX2_join_28 : decode cX2_join 28 = .ok (.iconst 1, 1) := by decide +kernel
theorem dX2_join_29 : decode cX2_join 29 = .ok (.iadd, 1) := by decide +kernel
theorem dX2_join_30 : decode cX2_join 30 = .ok (.iastore, 1) := by decide +kernel
