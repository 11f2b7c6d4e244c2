theorem dX2_from_11 : decode cX2_from 11 = .ok (.iload_n 3, 1) := by decide +kernel
theorem dX2_from_12 : decode cX2_from 12 = .ok (.iload_n 1, 1) := by decide +kernel
theorem dX2_from_13 : decode cX2_from 13 = .ok (.if_icmp .ne 7, 3) := by decide +kernel
theorem dX2_from_16 : decode cX2_from 16 = .ok (.iconst 1, 1) := by decide +kernel
theorem dX2_from_17 : decode cX2_from 17 = .ok (.goto 4, 3) := by decide +kernel
theorem dX2_from_20 : decode cX2_from 20 = .ok (.iconst 0, 1) := by decide +kernel
theorem dX2_from_21 : decode cX2_from 21 = .ok (.bastore, 1) := by decide +kernel
theorem dX2_from_22 : decode cX2_from 22 = .ok (.iinc 3 1, 3) := by decide +kernel
theorem dX2_from_25 : decode cX2_from 25 = .ok (.goto (-23), 3) := by decide +kernel
theorem dX2_from_28 : decode cX2_from 28 = .ok (.aload_n 0, 1) := by decide +kernel
theorem dX2_from_29 : decode cX2_from 29 = .ok (.aload_n 2, 1) := by decide +kernel
theorem dX2_from_30 : decode cX2_from 30 = .ok (.invokevirtual 64, 3) := by decide +kernel
theorem dX2_from_33 : decode cX2_from 33 = .ok (.return_, 1) := by decide +kernel
theorem dX2_close_0 : decode cX2_close 0 = .ok (.aload_n 0, 1) := by decide +kernel
theorem dX2_close_1 : decode cX2_close 1 = .ok (.getfield 42, 3) := by decide +kernel
theorem dX2_close_4 : decode cX2_close 4 = .ok (.iconst 1, 1) := by decide +kernel
theorem dX2_close_5 : decode cX2_close 5 = .ok (.isub, 1) := by decide +kernel
theorem dX2_close_6 : decode cX2_close 6 = .ok (.istore_n 2, 1) := by decide +kernel
theorem dX2_close_7 : decode cX2_close 7 = .ok (.iload_n 2, 1) := by decide +kernel
theorem dX2_close_8 : decode cX2_close 8 = .ok (.ifCond .lt 46, 3) := by decide +kernel
theorem dX2_close_11 : decode cX2_close 11 = .ok (.iconst 0, 1) := by decide +kernel
theorem dX2_close_12 : decode cX2_close 12 = .ok (.istore_n 3, 1) := by decide +kernel
theorem dX2_close_13 : decode cX2_close 13 = .ok (.iload_n 3, 1) := by decide +kernel
theorem dX2_close_14 : decode cX2_close 14 = .ok (.aload_n 0, 1) := by decide +kernel
theorem dX2_close_15 : decode cX2_close 15 = .ok (.getfield 16, 3) := by decide +kernel
theorem dX2_close_18 : decode cX2_close 18 = .ok (.iload_n 2, 1) := by decide +kernel
theorem dX2_close_19 : decode cX2_close 19 = .ok (.iaload, 1) := by decide +kernel
theorem dX2_close_20 : decode cX2_close 20 = .ok (.if_icmp .ge 28, 3) := by decide +kernel
theorem dX2_close_23 : decode cX2_close 23 = .ok (.aload_n 1, 1) := by decide +kernel
theorem dX2_close_24 : decode cX2_close 24 = .ok (.iload_n 2, 1) := by decide +kernel
theorem dX2_close_25 : decode cX2_close 25 = .ok (.baload, 1) := by decide +kernel
theorem dX2_close_26 : decode cX2_close 26 = .ok (.ifCond .eq 22, 3) := by decide +kernel
theorem dX2_close_29 : decode cX2_close 29 = .ok (.aload_n 1, 1) := by decide +kernel
theorem dX2_close_30 : decode cX2_close 30 = .ok (.aload_n 0, 1) := by decide +kernel
theorem dX2_close_31 : decode cX2_close 31 = .ok (.getfield 19, 3) := by decide +kernel
theorem dX2_close_34 : decode cX2_close 34 = .ok (.iload_n 2, 1) := by decide +kernel
theorem dX2_close_35 : decode cX2_close 35 = .ok (.iconst 4, 1) := by decide +kernel
theorem dX2_close_36 : decode cX2_close 36 = .ok (.imul, 1) := by decide +kernel
theorem dX2_close_37 : decode cX2_close 37 = .ok (.iload_n 3, 1) := by decide +kernel
theorem dX2_close_38 : decode cX2_close 38 = .ok (.iadd, 1) := by decide +kernel
theorem dX2_close_39 : decode cX2_close 39 = .ok (.iaload, 1) := by decide +kernel
theorem dX2_close_40 : decode cX2_close 40 = .ok (.iconst 1, 1) := by decide +kernel
theorem dX2_close_41 : decode cX2_close 41 = .ok (.bastore, 1) := by decide +kernel
theorem dX2_close_42 : decode cX2_close 42 = .ok (.iinc 3 1, 3) := by decide +kernel
theorem dX2_close_45 : decode cX2_close 45 = .ok (.goto (-32), 3) := by decide +kernel
theorem dX2_close_48 : decode cX2_close 48 = .ok (.iinc 2 (-1), 3) := by decide +kernel
theorem dX2_close_51 : decode cX2_close 51 = .ok (.goto (-44), 3) := by decide +kernel
theorem dX2_close_54 : decode cX2_close 54 = .ok (.return_, 1) := by decide +kernel
theorem dX2_base_0 : decode cX2_base 0 = .ok (.aload_n 0, 1) := by decide +kernel
theorem dX2_base_1 : decode cX2_base 1 = .ok (.iconst 0, 1) := by decide +kernel
theorem dX2_base_2 : decode cX2_base 2 = .ok (.putfield 38, 3) := by decide +kernel
theorem dX2_base_5 : decode cX2_base 5 = .ok (.aload_n 0, 1) := by decide +kernel
theorem dX2_base_6 : decode cX2_base 6 = .ok (.iload_n 1, 1) := by decide +kernel
theorem dX2_base_7 : decode cX2_base 7 = .ok (.invokevirtual 57, 3) := by decide +kernel
theorem dX2_base_10 : decode cX2_base 10 = .ok (.ifCond .eq 11, 3) := by decide +kernel
theorem dX2_base_13 : decode cX2_base 13 = .ok (.aload_n 0, 1) := by decide +kernel
theorem dX2_base_14 : decode cX2_base 14 = .ok (.iload_n 2, 1) := by decide +kernel
theorem dX2_base_15 : decode cX2_base 15 = .ok (.invokevirtual 57, 3) := by decide +kernel
theorem dX2_base_18 : decode cX2_base 18 = .ok (.ifCond .ne 9, 3) := by decide +kernel
theorem dX2_base_21 : decode cX2_base 21 = .ok (.aload_n 0, 1) := by decide +kernel
theorem dX2_base_22 : decode cX2_base 22 = .ok (.iconst 1, 1) := by decide +kernel
theorem dX2_base_23 : decode cX2_base 23 = .ok (.invokevirtual 45, 3) := by decide +kernel
theorem dX2_base_26 : decode cX2_base 26 = .ok (.ireturn, 1) := by decide +kernel
theorem dX2_base_27 : decode cX2_base 27 = .ok (.aload_n 0, 1) := by decide +kernel
theorem dX2_base_28 : decode cX2_base 28 = .ok (.iload_n 1, 1) := by decide +kernel
theorem dX2_base_29 : decode cX2_base 29 = .ok (.aload_n 0, 1) := by decide +kernel
theorem dX2_base_30 : decode cX2_base 30 = .ok (.getfield 29, 3) := by decide +kernel
theorem dX2_base_33 : decode cX2_base 33 = .ok (.invokevirtual 68, 3) := by decide +kernel
theorem dX2_base_36 : decode cX2_base 36 = .ok (.aload_n 0, 1) := by decide +kernel
theorem dX2_base_37 : decode cX2_base 37 = .ok (.iload_n 2, 1) := by decide +kernel
theorem dX2_base_38 : decode cX2_base 38 = .ok (.aload_n 0, 1) := by decide +kernel
theorem dX2_base_39 : decode cX2_base 39 = .ok (.getfield 32, 3) := by decide +kernel
theorem dX2_base_42 : decode cX2_base 42 = .ok (.invokevirtual 68, 3) := by decide +kernel
theorem dX2_base_45 : decode cX2_base 45 = .ok (.iconst 0, 1) := by decide +kernel
theorem dX2_base_46 : decode cX2_base 46 = .ok (.istore 4, 2) := by decide +kernel
theorem dX2_base_48 : decode cX2_base 48 = .ok (.iload 4, 2) := by decide +kernel
theorem dX2_base_50 : decode cX2_base 50 = .ok (.aload_n 0, 1) := by decide +kernel
theorem dX2_base_51 : decode cX2_base 51 = .ok (.getfield 42, 3) := by decide +kernel
theorem dX2_base_54 : decode cX2_base 54 = .ok (.if_icmp .ge 63, 3) := by decide +kernel
theorem dX2_base_57 : decode cX2_base 57 = .ok (.aload_n 0, 1) := by decide +kernel
theorem dX2_base_58 : decode cX2_base 58 = .ok (.getfield 29, 3) := by decide +kernel
theorem dX2_base_61 : decode cX2_base 61 = .ok (.iload 4, 2) := by decide +kernel
theorem dX2_base_63 : decode cX2_base 63 = .ok (.aload_n 0, 1) := by decide +kernel
theorem dX2_base_64 : decode cX2_base 64 = .ok (.getfield 29, 3) := by decide +kernel
theorem dX2_base_67 : decode cX2_base 67 = .ok (.iload 4, 2) := by decide +kernel
theorem dX2_base_69 : decode cX2_base 69 = .ok (.baload, 1) := by decide +kernel
theorem dX2_base_70 : decode cX2_base 70 = .ok (.ifCond .eq 17, 3) := by decide +kernel
theorem dX2_base_73 : decode cX2_base 73 = .ok (.aload_n 0, 1) := by decide +kernel
theorem dX2_base_74 : decode cX2_base 74 = .ok (.getfield 32, 3) := by decide +kernel
theorem dX2_base_77 : decode cX2_base 77 = .ok (.iload 4, 2) := by decide +kernel
theorem dX2_base_79 : decode cX2_base 79 = .ok (.baload, 1) := by decide +kernel
theorem dX2_base_80 : decode cX2_base 80 = .ok (.ifCond .eq 7, 3) := by decide +kernel
theorem dX2_base_83 : decode cX2_base 83 = .ok (.iconst 1, 1) := by decide +kernel
theorem dX2_base_84 : decode cX2_base 84 = .ok (.goto 4, 3) := by decide +kernel
theorem dX2_base_87 : decode cX2_base 87 = .ok (.iconst 0, 1) := by decide +kernel
theorem dX2_base_88 : decode cX2_base 88 = .ok (.bastore, 1) := by decide +kernel
theorem dX2_base_89 : decode cX2_base 89 = .ok (.aload_n 0, 1) := by decide +kernel
theorem dX2_base_90 : decode cX2_base 90 = .ok (.getfield 35, 3) := by decide +kernel
theorem dX2_base_93 : decode cX2_base 93 = .ok (.iload 4, 2) := by decide +kernel
theorem dX2_base_95 : decode cX2_base 95 = .ok (.aload_n 0, 1) := by decide +kernel
theorem dX2_base_96 : decode cX2_base 96 = .ok (.getfield 29, 3) := by decide +kernel
theorem dX2_base_99 : decode cX2_base 99 = .ok (.iload 4, 2) := by decide +kernel
theorem dX2_base_101 : decode cX2_base 101 = .ok (.baload, 1) := by decide +kernel
theorem dX2_base_102 : decode cX2_base 102 = .ok (.bastore, 1) := by decide +kernel
theorem dX2_base_103 : decode cX2_base 103 = .ok (.aload_n 0, 1) := by decide +kernel
theorem dX2_base_104 : decode cX2_base 104 = .ok (.getfield 32, 3) := by decide +kernel
theorem dX2_base_107 : decode cX2_base 107 = .ok (.iload 4, 2) := by decide +kernel
theorem dX2_base_109 : decode cX2_base 109 = .ok (.iconst 0, 1) := by decide +kernel
theorem dX2_base_110 : decode cX2_base 110 = .ok (.bastore, 1) := by decide +kernel
theorem dX2_base_111 : decode cX2_base 111 = .ok (.iinc 4 1, 3) := by decide +kernel
theorem dX2_base_114 : decode cX2_base 114 = .ok (.goto (-66), 3) := by decide +kernel
theorem dX2_base_117 : decode cX2_base 117 = .ok (.iconst 0, 1) := by decide +kernel
theorem dX2_base_118 : decode cX2_base 118 = .ok (.istore 4, 2) := by decide +kernel
theorem dX2_base_120 : decode cX2_base 120 = .ok (.iload 4, 2) := by decide +kernel
theorem dX2_base_122 : decode cX2_base 122 = .ok (.aload_n 0, 1) := by decide +kernel
theorem dX2_base_123 : decode cX2_base 123 = .ok (.getfield 42, 3) := by decide +kernel
theorem dX2_base_126 : decode cX2_base 126 = .ok (.if_icmp .ge 58, 3) := by decide +kernel
theorem dX2_base_129 : decode cX2_base 129 = .ok (.iconst 0, 1) := by decide +kernel
theorem dX2_base_130 : decode cX2_base 130 = .ok (.istore 5, 2) := by decide +kernel
theorem dX2_base_132 : decode cX2_base 132 = .ok (.iload 5, 2) := by decide +kernel
theorem dX2_base_134 : decode cX2_base 134 = .ok (.aload_n 0, 1) := by decide +kernel
theorem dX2_base_135 : decode cX2_base 135 = .ok (.getfield 16, 3) := by decide +kernel
theorem dX2_base_138 : decode cX2_base 138 = .ok (.iload 4, 2) := by decide +kernel
theorem dX2_base_140 : decode cX2_base 140 = .ok (.iaload, 1) := by decide +kernel
theorem dX2_base_141 : decode cX2_base 141 = .ok (.if_icmp .ge 37, 3) := by decide +kernel
theorem dX2_base_144 : decode cX2_base 144 = .ok (.aload_n 0, 1) := by decide +kernel
theorem dX2_base_145 : decode cX2_base 145 = .ok (.getfield 29, 3) := by decide +kernel
theorem dX2_base_148 : decode cX2_base 148 = .ok (.iload 4, 2) := by decide +kernel
theorem dX2_base_150 : decode cX2_base 150 = .ok (.baload, 1) := by decide +kernel
theorem dX2_base_151 : decode cX2_base 151 = .ok (.ifCond .eq 27, 3) := by decide +kernel
theorem dX2_base_154 : decode cX2_base 154 = .ok (.aload_n 0, 1) := by decide +kernel
theorem dX2_base_155 : decode cX2_base 155 = .ok (.getfield 32, 3) := by decide +kernel
theorem dX2_base_158 : decode cX2_base 158 = .ok (.aload_n 0, 1) := by decide +kernel
theorem dX2_base_159 : decode cX2_base 159 = .ok (.getfield 19, 3) := by decide +kernel
theorem dX2_base_162 : decode cX2_base 162 = .ok (.iload 4, 2) := by decide +kernel
theorem dX2_base_164 : decode cX2_base 164 = .ok (.iconst 4, 1) := by decide +kernel
theorem dX2_base_165 : decode cX2_base 165 = .ok (.imul, 1) := by decide +kernel
theorem dX2_base_166 : decode cX2_base 166 = .ok (.iload 5, 2) := by decide +kernel
theorem dX2_base_168 : decode cX2_base 168 = .ok (.iadd, 1) := by decide +kernel
theorem dX2_base_169 : decode cX2_base 169 = .ok (.iaload, 1) := by decide +kernel
theorem dX2_base_170 : decode cX2_base 170 = .ok (.iconst 1, 1) := by decide +kernel
theorem dX2_base_171 : decode cX2_base 171 = .ok (.bastore, 1) := by decide +kernel
theorem dX2_base_172 : decode cX2_base 172 = .ok (.iinc 5 1, 3) := by decide +kernel
theorem dX2_base_175 : decode cX2_base 175 = .ok (.goto (-43), 3) := by decide +kernel
theorem dX2_base_178 : decode cX2_base 178 = .ok (.iinc 4 1, 3) := by decide +kernel
theorem dX2_base_181 : decode cX2_base 181 = .ok (.goto (-61), 3) := by decide +kernel
theorem dX2_base_184 : decode cX2_base 184 = .ok (.aload_n 0, 1) := by decide +kernel
theorem dX2_base_185 : decode cX2_base 185 = .ok (.aload_n 0, 1) := by decide +kernel
theorem dX2_base_186 : decode cX2_base 186 = .ok (.getfield 32, 3) := by decide +kernel
theorem dX2_base_189 : decode cX2_base 189 = .ok (.invokevirtual 64, 3) := by decide +kernel
