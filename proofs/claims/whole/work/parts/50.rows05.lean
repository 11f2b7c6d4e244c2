theorem dX2_sent_20 : decode cX2_sent 20 = .ok (.aload_n 0, 1) := by decide +kernel
theorem dX2_sent_21 : decode cX2_sent 21 = .ok (.iload_n 1, 1) := by decide +kernel
theorem dX2_sent_22 : decode cX2_sent 22 = .ok (.aload_n 0, 1) := by decide +kernel
theorem dX2_sent_23 : decode cX2_sent 23 = .ok (.getfield 29, 3) := by decide +kernel
theorem dX2_sent_26 : decode cX2_sent 26 = .ok (.invokevirtual 87, 3) := by decide +kernel
theorem dX2_sent_29 : decode cX2_sent 29 = .ok (.aload_n 0, 1) := by decide +kernel
theorem dX2_sent_30 : decode cX2_sent 30 = .ok (.iconst 1, 1) := by decide +kernel
theorem dX2_sent_31 : decode cX2_sent 31 = .ok (.iload_n 1, 1) := by decide +kernel
theorem dX2_sent_32 : decode cX2_sent 32 = .ok (.isub, 1) := by decide +kernel
theorem dX2_sent_33 : decode cX2_sent 33 = .ok (.aload_n 0, 1) := by decide +kernel
theorem dX2_sent_34 : decode cX2_sent 34 = .ok (.getfield 32, 3) := by decide +kernel
theorem dX2_sent_37 : decode cX2_sent 37 = .ok (.invokevirtual 87, 3) := by decide +kernel
theorem dX2_sent_40 : decode cX2_sent 40 = .ok (.iconst 0, 1) := by decide +kernel
theorem dX2_sent_41 : decode cX2_sent 41 = .ok (.istore_n 3, 1) := by decide +kernel
theorem dX2_sent_42 : decode cX2_sent 42 = .ok (.iconst 0, 1) := by decide +kernel
theorem dX2_sent_43 : decode cX2_sent 43 = .ok (.istore 4, 2) := by decide +kernel
theorem dX2_sent_45 : decode cX2_sent 45 = .ok (.iload 4, 2) := by decide +kernel
theorem dX2_sent_47 : decode cX2_sent 47 = .ok (.aload_n 0, 1) := by decide +kernel
theorem dX2_sent_48 : decode cX2_sent 48 = .ok (.getfield 42, 3) := by decide +kernel
theorem dX2_sent_51 : decode cX2_sent 51 = .ok (.if_icmp .ge 54, 3) := by decide +kernel
theorem dX2_sent_54 : decode cX2_sent 54 = .ok (.aload_n 0, 1) := by decide +kernel
theorem dX2_sent_55 : decode cX2_sent 55 = .ok (.getfield 35, 3) := by decide +kernel
theorem dX2_sent_58 : decode cX2_sent 58 = .ok (.iload 4, 2) := by decide +kernel
theorem dX2_sent_60 : decode cX2_sent 60 = .ok (.aload_n 0, 1) := by decide +kernel
theorem dX2_sent_61 : decode cX2_sent 61 = .ok (.getfield 29, 3) := by decide +kernel
theorem dX2_sent_64 : decode cX2_sent 64 = .ok (.iload 4, 2) := by decide +kernel
theorem dX2_sent_66 : decode cX2_sent 66 = .ok (.baload, 1) := by decide +kernel
theorem dX2_sent_67 : decode cX2_sent 67 = .ok (.ifCond .eq 17, 3) := by decide +kernel
theorem dX2_sent_70 : decode cX2_sent 70 = .ok (.aload_n 0, 1) := by decide +kernel
theorem dX2_sent_71 : decode cX2_sent 71 = .ok (.getfield 32, 3) := by decide +kernel
theorem dX2_sent_74 : decode cX2_sent 74 = .ok (.iload 4, 2) := by decide +kernel
theorem dX2_sent_76 : decode cX2_sent 76 = .ok (.baload, 1) := by decide +kernel
theorem dX2_sent_77 : decode cX2_sent 77 = .ok (.ifCond .ne 7, 3) := by decide +kernel
theorem dX2_sent_80 : decode cX2_sent 80 = .ok (.iconst 1, 1) := by decide +kernel
theorem dX2_sent_81 : decode cX2_sent 81 = .ok (.goto 4, 3) := by decide +kernel
theorem dX2_sent_84 : decode cX2_sent 84 = .ok (.iconst 0, 1) := by decide +kernel
theorem dX2_sent_85 : decode cX2_sent 85 = .ok (.bastore, 1) := by decide +kernel
theorem dX2_sent_86 : decode cX2_sent 86 = .ok (.aload_n 0, 1) := by decide +kernel
theorem dX2_sent_87 : decode cX2_sent 87 = .ok (.getfield 35, 3) := by decide +kernel
theorem dX2_sent_90 : decode cX2_sent 90 = .ok (.iload 4, 2) := by decide +kernel
theorem dX2_sent_92 : decode cX2_sent 92 = .ok (.baload, 1) := by decide +kernel
theorem dX2_sent_93 : decode cX2_sent 93 = .ok (.ifCond .eq 6, 3) := by decide +kernel
theorem dX2_sent_96 : decode cX2_sent 96 = .ok (.iinc 3 1, 3) := by decide +kernel
theorem dX2_sent_99 : decode cX2_sent 99 = .ok (.iinc 4 1, 3) := by decide +kernel
theorem dX2_sent_102 : decode cX2_sent 102 = .ok (.goto (-57), 3) := by decide +kernel
theorem dX2_sent_105 : decode cX2_sent 105 = .ok (.iload_n 2, 1) := by decide +kernel
theorem dX2_sent_106 : decode cX2_sent 106 = .ok (.iconst (-1), 1) := by decide +kernel
theorem dX2_sent_107 : decode cX2_sent 107 = .ok (.if_icmp .ne 5, 3) := by decide +kernel
theorem dX2_sent_110 : decode cX2_sent 110 = .ok (.iload_n 3, 1) := by decide +kernel
theorem dX2_sent_111 : decode cX2_sent 111 = .ok (.ireturn, 1) := by decide +kernel
theorem dX2_sent_112 : decode cX2_sent 112 = .ok (.iload_n 2, 1) := by decide +kernel
theorem dX2_sent_113 : decode cX2_sent 113 = .ok (.ifCond .lt 8, 3) := by decide +kernel
theorem dX2_sent_116 : decode cX2_sent 116 = .ok (.iload_n 2, 1) := by decide +kernel
theorem dX2_sent_117 : decode cX2_sent 117 = .ok (.iload_n 3, 1) := by decide +kernel
theorem dX2_sent_118 : decode cX2_sent 118 = .ok (.if_icmp .lt 9, 3) := by decide +kernel
theorem dX2_sent_121 : decode cX2_sent 121 = .ok (.aload_n 0, 1) := by decide +kernel
theorem dX2_sent_122 : decode cX2_sent 122 = .ok (.iconst 2, 1) := by decide +kernel
theorem dX2_sent_123 : decode cX2_sent 123 = .ok (.invokevirtual 45, 3) := by decide +kernel
theorem dX2_sent_126 : decode cX2_sent 126 = .ok (.ireturn, 1) := by decide +kernel
theorem dX2_sent_127 : decode cX2_sent 127 = .ok (.aload_n 0, 1) := by decide +kernel
theorem dX2_sent_128 : decode cX2_sent 128 = .ok (.aload_n 0, 1) := by decide +kernel
theorem dX2_sent_129 : decode cX2_sent 129 = .ok (.getfield 42, 3) := by decide +kernel
theorem dX2_sent_132 : decode cX2_sent 132 = .ok (.iconst 1, 1) := by decide +kernel
theorem dX2_sent_133 : decode cX2_sent 133 = .ok (.isub, 1) := by decide +kernel
theorem dX2_sent_134 : decode cX2_sent 134 = .ok (.invokevirtual 90, 3) := by decide +kernel
theorem dX2_sent_137 : decode cX2_sent 137 = .ok (.istore 4, 2) := by decide +kernel
theorem dX2_sent_139 : decode cX2_sent 139 = .ok (.iconst 0, 1) := by decide +kernel
theorem dX2_sent_140 : decode cX2_sent 140 = .ok (.istore 5, 2) := by decide +kernel
theorem dX2_sent_142 : decode cX2_sent 142 = .ok (.iload 5, 2) := by decide +kernel
theorem dX2_sent_144 : decode cX2_sent 144 = .ok (.iload_n 2, 1) := by decide +kernel
theorem dX2_sent_145 : decode cX2_sent 145 = .ok (.if_icmp .gt 108, 3) := by decide +kernel
theorem dX2_sent_148 : decode cX2_sent 148 = .ok (.iconst (-1), 1) := by decide +kernel
theorem dX2_sent_149 : decode cX2_sent 149 = .ok (.istore 4, 2) := by decide +kernel
theorem dX2_sent_151 : decode cX2_sent 151 = .ok (.iconst 0, 1) := by decide +kernel
theorem dX2_sent_152 : decode cX2_sent 152 = .ok (.istore 6, 2) := by decide +kernel
theorem dX2_sent_154 : decode cX2_sent 154 = .ok (.iload 6, 2) := by decide +kernel
theorem dX2_sent_156 : decode cX2_sent 156 = .ok (.aload_n 0, 1) := by decide +kernel
theorem dX2_sent_157 : decode cX2_sent 157 = .ok (.getfield 42, 3) := by decide +kernel
theorem dX2_sent_160 : decode cX2_sent 160 = .ok (.if_icmp .ge 79, 3) := by decide +kernel
theorem dX2_sent_163 : decode cX2_sent 163 = .ok (.aload_n 0, 1) := by decide +kernel
theorem dX2_sent_164 : decode cX2_sent 164 = .ok (.getfield 35, 3) := by decide +kernel
theorem dX2_sent_167 : decode cX2_sent 167 = .ok (.iload 6, 2) := by decide +kernel
theorem dX2_sent_169 : decode cX2_sent 169 = .ok (.baload, 1) := by decide +kernel
theorem dX2_sent_170 : decode cX2_sent 170 = .ok (.ifCond .eq 63, 3) := by decide +kernel
theorem dX2_sent_173 : decode cX2_sent 173 = .ok (.iload 4, 2) := by decide +kernel
theorem dX2_sent_175 : decode cX2_sent 175 = .ok (.ifCond .lt 54, 3) := by decide +kernel
theorem dX2_sent_178 : decode cX2_sent 178 = .ok (.aload_n 0, 1) := by decide +kernel
theorem dX2_sent_179 : decode cX2_sent 179 = .ok (.getfield 22, 3) := by decide +kernel
theorem dX2_sent_182 : decode cX2_sent 182 = .ok (.iload 6, 2) := by decide +kernel
theorem dX2_sent_184 : decode cX2_sent 184 = .ok (.iaload, 1) := by decide +kernel
theorem dX2_sent_185 : decode cX2_sent 185 = .ok (.aload_n 0, 1) := by decide +kernel
theorem dX2_sent_186 : decode cX2_sent 186 = .ok (.getfield 22, 3) := by decide +kernel
theorem dX2_sent_189 : decode cX2_sent 189 = .ok (.iload 4, 2) := by decide +kernel
theorem dX2_sent_191 : decode cX2_sent 191 = .ok (.iaload, 1) := by decide +kernel
theorem dX2_sent_192 : decode cX2_sent 192 = .ok (.if_icmp .lt 37, 3) := by decide +kernel
theorem dX2_sent_195 : decode cX2_sent 195 = .ok (.aload_n 0, 1) := by decide +kernel
theorem dX2_sent_196 : decode cX2_sent 196 = .ok (.getfield 22, 3) := by decide +kernel
theorem dX2_sent_199 : decode cX2_sent 199 = .ok (.iload 6, 2) := by decide +kernel
theorem dX2_sent_201 : decode cX2_sent 201 = .ok (.iaload, 1) := by decide +kernel
theorem dX2_sent_202 : decode cX2_sent 202 = .ok (.aload_n 0, 1) := by decide +kernel
theorem dX2_sent_203 : decode cX2_sent 203 = .ok (.getfield 22, 3) := by decide +kernel
theorem dX2_sent_206 : decode cX2_sent 206 = .ok (.iload 4, 2) := by decide +kernel
theorem dX2_sent_208 : decode cX2_sent 208 = .ok (.iaload, 1) := by decide +kernel
theorem dX2_sent_209 : decode cX2_sent 209 = .ok (.if_icmp .ne 24, 3) := by decide +kernel
theorem dX2_sent_212 : decode cX2_sent 212 = .ok (.aload_n 0, 1) := by decide +kernel
theorem dX2_sent_213 : decode cX2_sent 213 = .ok (.getfield 13, 3) := by decide +kernel
theorem dX2_sent_216 : decode cX2_sent 216 = .ok (.iload 6, 2) := by decide +kernel
theorem dX2_sent_218 : decode cX2_sent 218 = .ok (.iaload, 1) := by decide +kernel
theorem dX2_sent_219 : decode cX2_sent 219 = .ok (.aload_n 0, 1) := by decide +kernel
theorem dX2_sent_220 : decode cX2_sent 220 = .ok (.getfield 13, 3) := by decide +kernel
theorem dX2_sent_223 : decode cX2_sent 223 = .ok (.iload 4, 2) := by decide +kernel
theorem dX2_sent_225 : decode cX2_sent 225 = .ok (.iaload, 1) := by decide +kernel
theorem dX2_sent_226 : decode cX2_sent 226 = .ok (.if_icmp .ge 7, 3) := by decide +kernel
theorem dX2_sent_229 : decode cX2_sent 229 = .ok (.iload 6, 2) := by decide +kernel
theorem dX2_sent_231 : decode cX2_sent 231 = .ok (.istore 4, 2) := by decide +kernel
theorem dX2_sent_233 : decode cX2_sent 233 = .ok (.iinc 6 1, 3) := by decide +kernel
theorem dX2_sent_236 : decode cX2_sent 236 = .ok (.goto (-82), 3) := by decide +kernel
theorem dX2_sent_239 : decode cX2_sent 239 = .ok (.aload_n 0, 1) := by decide +kernel
theorem dX2_sent_240 : decode cX2_sent 240 = .ok (.getfield 35, 3) := by decide +kernel
theorem dX2_sent_243 : decode cX2_sent 243 = .ok (.iload 4, 2) := by decide +kernel
theorem dX2_sent_245 : decode cX2_sent 245 = .ok (.iconst 0, 1) := by decide +kernel
theorem dX2_sent_246 : decode cX2_sent 246 = .ok (.bastore, 1) := by decide +kernel
theorem dX2_sent_247 : decode cX2_sent 247 = .ok (.iinc 5 1, 3) := by decide +kernel
theorem dX2_sent_250 : decode cX2_sent 250 = .ok (.goto (-108), 3) := by decide +kernel
theorem dX2_sent_253 : decode cX2_sent 253 = .ok (.iload 4, 2) := by decide +kernel
theorem dX2_sent_255 : decode cX2_sent 255 = .ok (.ireturn, 1) := by decide +kernel
theorem dX2_held_0 : decode cX2_held 0 = .ok (.iconst 0, 1) := by decide +kernel
theorem dX2_held_1 : decode cX2_held 1 = .ok (.istore_n 3, 1) := by decide +kernel
theorem dX2_held_2 : decode cX2_held 2 = .ok (.iload_n 3, 1) := by decide +kernel
theorem dX2_held_3 : decode cX2_held 3 = .ok (.sipush 2000, 3) := by decide +kernel
theorem dX2_held_6 : decode cX2_held 6 = .ok (.if_icmp .ge 24, 3) := by decide +kernel
theorem dX2_held_9 : decode cX2_held 9 = .ok (.aload_n 2, 1) := by decide +kernel
theorem dX2_held_10 : decode cX2_held 10 = .ok (.iload_n 3, 1) := by decide +kernel
theorem dX2_held_11 : decode cX2_held 11 = .ok (.aload_n 0, 1) := by decide +kernel
theorem dX2_held_12 : decode cX2_held 12 = .ok (.getfield 25, 3) := by decide +kernel
theorem dX2_held_15 : decode cX2_held 15 = .ok (.iload_n 1, 1) := by decide +kernel
theorem dX2_held_16 : decode cX2_held 16 = .ok (.sipush 2000, 3) := by decide +kernel
theorem dX2_held_19 : decode cX2_held 19 = .ok (.imul, 1) := by decide +kernel
theorem dX2_held_20 : decode cX2_held 20 = .ok (.iload_n 3, 1) := by decide +kernel
theorem dX2_held_21 : decode cX2_held 21 = .ok (.iadd, 1) := by decide +kernel
theorem dX2_held_22 : decode cX2_held 22 = .ok (.baload, 1) := by decide +kernel
theorem dX2_held_23 : decode cX2_held 23 = .ok (.bastore, 1) := by decide +kernel
theorem dX2_held_24 : decode cX2_held 24 = .ok (.iinc 3 1, 3) := by decide +kernel
theorem dX2_held_27 : decode cX2_held 27 = .ok (.goto (-25), 3) := by decide +kernel
theorem dX2_held_30 : decode cX2_held 30 = .ok (.aload_n 0, 1) := by decide +kernel
theorem dX2_held_31 : decode cX2_held 31 = .ok (.aload_n 2, 1) := by decide +kernel
theorem dX2_held_32 : decode cX2_held 32 = .ok (.invokevirtual 64, 3) := by decide +kernel
theorem dX2_held_35 : decode cX2_held 35 = .ok (.return_, 1) := by decide +kernel
theorem dX2_generation_0 : decode cX2_generation 0 = .ok (.iconst 0, 1) := by decide +kernel
theorem dX2_generation_1 : decode cX2_generation 1 = .ok (.istore_n 2, 1) := by decide +kernel
