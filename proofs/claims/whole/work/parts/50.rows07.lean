theorem dX2_count_60 : decode cX2_count 60 = .ok (.getfield 25, 3) := by decide +kernel
theorem dX2_count_63 : decode cX2_count 63 = .ok (.sipush 2000, 3) := by decide +kernel
theorem dX2_count_66 : decode cX2_count 66 = .ok (.iload 4, 2) := by decide +kernel
theorem dX2_count_68 : decode cX2_count 68 = .ok (.iadd, 1) := by decide +kernel
theorem dX2_count_69 : decode cX2_count 69 = .ok (.baload, 1) := by decide +kernel
theorem dX2_count_70 : decode cX2_count 70 = .ok (.ifCond .ne 42, 3) := by decide +kernel
theorem dX2_count_73 : decode cX2_count 73 = .ok (.iload_n 1, 1) := by decide +kernel
theorem dX2_count_74 : decode cX2_count 74 = .ok (.iconst 4, 1) := by decide +kernel
theorem dX2_count_75 : decode cX2_count 75 = .ok (.if_icmp .ne 12, 3) := by decide +kernel
theorem dX2_count_78 : decode cX2_count 78 = .ok (.aload_n 0, 1) := by decide +kernel
theorem dX2_count_79 : decode cX2_count 79 = .ok (.iload 4, 2) := by decide +kernel
theorem dX2_count_81 : decode cX2_count 81 = .ok (.invokevirtual 61, 3) := by decide +kernel
theorem dX2_count_84 : decode cX2_count 84 = .ok (.ifCond .eq 28, 3) := by decide +kernel
theorem dX2_count_87 : decode cX2_count 87 = .ok (.iload_n 1, 1) := by decide +kernel
theorem dX2_count_88 : decode cX2_count 88 = .ok (.iconst 5, 1) := by decide +kernel
theorem dX2_count_89 : decode cX2_count 89 = .ok (.if_icmp .ne 26, 3) := by decide +kernel
theorem dX2_count_92 : decode cX2_count 92 = .ok (.aload_n 0, 1) := by decide +kernel
theorem dX2_count_93 : decode cX2_count 93 = .ok (.getfield 29, 3) := by decide +kernel
theorem dX2_count_96 : decode cX2_count 96 = .ok (.iload 4, 2) := by decide +kernel
theorem dX2_count_98 : decode cX2_count 98 = .ok (.baload, 1) := by decide +kernel
theorem dX2_count_99 : decode cX2_count 99 = .ok (.ifCond .eq 16, 3) := by decide +kernel
theorem dX2_count_102 : decode cX2_count 102 = .ok (.aload_n 0, 1) := by decide +kernel
theorem dX2_count_103 : decode cX2_count 103 = .ok (.getfield 32, 3) := by decide +kernel
theorem dX2_count_106 : decode cX2_count 106 = .ok (.iload 4, 2) := by decide +kernel
theorem dX2_count_108 : decode cX2_count 108 = .ok (.baload, 1) := by decide +kernel
theorem dX2_count_109 : decode cX2_count 109 = .ok (.ifCond .eq 6, 3) := by decide +kernel
theorem dX2_count_112 : decode cX2_count 112 = .ok (.iinc 2 1, 3) := by decide +kernel
theorem dX2_count_115 : decode cX2_count 115 = .ok (.iload_n 1, 1) := by decide +kernel
theorem dX2_count_116 : decode cX2_count 116 = .ok (.iconst 3, 1) := by decide +kernel
theorem dX2_count_117 : decode cX2_count 117 = .ok (.if_icmp .ne 20, 3) := by decide +kernel
theorem dX2_count_120 : decode cX2_count 120 = .ok (.aload_n 0, 1) := by decide +kernel
theorem dX2_count_121 : decode cX2_count 121 = .ok (.iload 4, 2) := by decide +kernel
theorem dX2_count_123 : decode cX2_count 123 = .ok (.invokevirtual 90, 3) := by decide +kernel
theorem dX2_count_126 : decode cX2_count 126 = .ok (.iload_n 3, 1) := by decide +kernel
theorem dX2_count_127 : decode cX2_count 127 = .ok (.if_icmp .le 10, 3) := by decide +kernel
theorem dX2_count_130 : decode cX2_count 130 = .ok (.aload_n 0, 1) := by decide +kernel
theorem dX2_count_131 : decode cX2_count 131 = .ok (.iload 4, 2) := by decide +kernel
theorem dX2_count_133 : decode cX2_count 133 = .ok (.invokevirtual 90, 3) := by decide +kernel
theorem dX2_count_136 : decode cX2_count 136 = .ok (.istore_n 3, 1) := by decide +kernel
theorem dX2_count_137 : decode cX2_count 137 = .ok (.iconst 0, 1) := by decide +kernel
theorem dX2_count_138 : decode cX2_count 138 = .ok (.istore 5, 2) := by decide +kernel
theorem dX2_count_140 : decode cX2_count 140 = .ok (.iconst 0, 1) := by decide +kernel
theorem dX2_count_141 : decode cX2_count 141 = .ok (.istore 6, 2) := by decide +kernel
theorem dX2_count_143 : decode cX2_count 143 = .ok (.iload 6, 2) := by decide +kernel
theorem dX2_count_145 : decode cX2_count 145 = .ok (.aload_n 0, 1) := by decide +kernel
theorem dX2_count_146 : decode cX2_count 146 = .ok (.getfield 16, 3) := by decide +kernel
theorem dX2_count_149 : decode cX2_count 149 = .ok (.iload 4, 2) := by decide +kernel
theorem dX2_count_151 : decode cX2_count 151 = .ok (.iaload, 1) := by decide +kernel
theorem dX2_count_152 : decode cX2_count 152 = .ok (.if_icmp .ge 29, 3) := by decide +kernel
theorem dX2_count_155 : decode cX2_count 155 = .ok (.aload_n 0, 1) := by decide +kernel
theorem dX2_count_156 : decode cX2_count 156 = .ok (.getfield 19, 3) := by decide +kernel
theorem dX2_count_159 : decode cX2_count 159 = .ok (.iload 4, 2) := by decide +kernel
theorem dX2_count_161 : decode cX2_count 161 = .ok (.iconst 4, 1) := by decide +kernel
theorem dX2_count_162 : decode cX2_count 162 = .ok (.imul, 1) := by decide +kernel
theorem dX2_count_163 : decode cX2_count 163 = .ok (.iload 6, 2) := by decide +kernel
theorem dX2_count_165 : decode cX2_count 165 = .ok (.iadd, 1) := by decide +kernel
theorem dX2_count_166 : decode cX2_count 166 = .ok (.iaload, 1) := by decide +kernel
theorem dX2_count_167 : decode cX2_count 167 = .ok (.iload 4, 2) := by decide +kernel
theorem dX2_count_169 : decode cX2_count 169 = .ok (.if_icmp .lt 6, 3) := by decide +kernel
theorem dX2_count_172 : decode cX2_count 172 = .ok (.iconst 1, 1) := by decide +kernel
theorem dX2_count_173 : decode cX2_count 173 = .ok (.istore 5, 2) := by decide +kernel
theorem dX2_count_175 : decode cX2_count 175 = .ok (.iinc 6 1, 3) := by decide +kernel
theorem dX2_count_178 : decode cX2_count 178 = .ok (.goto (-35), 3) := by decide +kernel
theorem dX2_count_181 : decode cX2_count 181 = .ok (.iload_n 1, 1) := by decide +kernel
theorem dX2_count_182 : decode cX2_count 182 = .ok (.bipush 6, 2) := by decide +kernel
theorem dX2_count_184 : decode cX2_count 184 = .ok (.if_icmp .ne 11, 3) := by decide +kernel
theorem dX2_count_187 : decode cX2_count 187 = .ok (.iload 5, 2) := by decide +kernel
theorem dX2_count_189 : decode cX2_count 189 = .ok (.ifCond .eq 6, 3) := by decide +kernel
theorem dX2_count_192 : decode cX2_count 192 = .ok (.iinc 2 1, 3) := by decide +kernel
theorem dX2_count_195 : decode cX2_count 195 = .ok (.iinc 4 1, 3) := by decide +kernel
theorem dX2_count_198 : decode cX2_count 198 = .ok (.goto (-168), 3) := by decide +kernel
theorem dX2_count_201 : decode cX2_count 201 = .ok (.iload_n 1, 1) := by decide +kernel
theorem dX2_count_202 : decode cX2_count 202 = .ok (.ifCond .ne 8, 3) := by decide +kernel
theorem dX2_count_205 : decode cX2_count 205 = .ok (.aload_n 0, 1) := by decide +kernel
theorem dX2_count_206 : decode cX2_count 206 = .ok (.getfield 42, 3) := by decide +kernel
theorem dX2_count_209 : decode cX2_count 209 = .ok (.ireturn, 1) := by decide +kernel
theorem dX2_count_210 : decode cX2_count 210 = .ok (.iload_n 1, 1) := by decide +kernel
theorem dX2_count_211 : decode cX2_count 211 = .ok (.iconst 3, 1) := by decide +kernel
theorem dX2_count_212 : decode cX2_count 212 = .ok (.if_icmp .ne 7, 3) := by decide +kernel
theorem dX2_count_215 : decode cX2_count 215 = .ok (.iload_n 3, 1) := by decide +kernel
theorem dX2_count_216 : decode cX2_count 216 = .ok (.goto 18, 3) := by decide +kernel
theorem dX2_count_219 : decode cX2_count 219 = .ok (.iload_n 1, 1) := by decide +kernel
theorem dX2_count_220 : decode cX2_count 220 = .ok (.ifCond .le 13, 3) := by decide +kernel
theorem dX2_count_223 : decode cX2_count 223 = .ok (.iload_n 1, 1) := by decide +kernel
theorem dX2_count_224 : decode cX2_count 224 = .ok (.bipush 7, 2) := by decide +kernel
theorem dX2_count_226 : decode cX2_count 226 = .ok (.if_icmp .ge 7, 3) := by decide +kernel
theorem dX2_count_229 : decode cX2_count 229 = .ok (.iload_n 2, 1) := by decide +kernel
theorem dX2_count_230 : decode cX2_count 230 = .ok (.goto 4, 3) := by decide +kernel
theorem dX2_count_233 : decode cX2_count 233 = .ok (.iconst (-1), 1) := by decide +kernel
theorem dX2_count_234 : decode cX2_count 234 = .ok (.ireturn, 1) := by decide +kernel
