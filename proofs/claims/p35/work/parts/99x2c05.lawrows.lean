/-! ===== rows of the law's methods, 5 ===== -/
theorem dL_now_107 : decode cL_now 107 = .ok (.bipush 50, 2) := by decide +kernel
theorem dL_now_109 : decode cL_now 109 = .ok (.if_icmp .ge 28, 3) := by decide +kernel
theorem dL_now_112 : decode cL_now 112 = .ok (.ldc2_w 123, 3) := by decide +kernel
theorem dL_now_115 : decode cL_now 115 = .ok (.lload_n 1, 1) := by decide +kernel
theorem dL_now_116 : decode cL_now 116 = .ok (.lmul, 1) := by decide +kernel
theorem dL_now_117 : decode cL_now 117 = .ok (.aload_n 0, 1) := by decide +kernel
theorem dL_now_118 : decode cL_now 118 = .ok (.iload 4, 2) := by decide +kernel
theorem dL_now_120 : decode cL_now 120 = .ok (.iconst 5, 1) := by decide +kernel
theorem dL_now_121 : decode cL_now 121 = .ok (.idiv, 1) := by decide +kernel
theorem dL_now_122 : decode cL_now 122 = .ok (.iload 4, 2) := by decide +kernel
theorem dL_now_124 : decode cL_now 124 = .ok (.iconst 5, 1) := by decide +kernel
theorem dL_now_125 : decode cL_now 125 = .ok (.irem, 1) := by decide +kernel
theorem dL_now_126 : decode cL_now 126 = .ok (.invokestatic 135, 3) := by decide +kernel
theorem dL_now_129 : decode cL_now 129 = .ok (.ladd, 1) := by decide +kernel
theorem dL_now_130 : decode cL_now 130 = .ok (.lstore_n 1, 1) := by decide +kernel
theorem dL_now_131 : decode cL_now 131 = .ok (.iinc 4 1, 3) := by decide +kernel
theorem dL_now_134 : decode cL_now 134 = .ok (.goto (-29), 3) := by decide +kernel
theorem dL_now_137 : decode cL_now 137 = .ok (.aload_n 0, 1) := by decide +kernel
theorem dL_now_138 : decode cL_now 138 = .ok (.iconst 2, 1) := by decide +kernel
theorem dL_now_139 : decode cL_now 139 = .ok (.invokestatic 125, 3) := by decide +kernel
theorem dL_now_142 : decode cL_now 142 = .ok (.l2i, 1) := by decide +kernel
theorem dL_now_143 : decode cL_now 143 = .ok (.istore 4, 2) := by decide +kernel
theorem dL_now_145 : decode cL_now 145 = .ok (.iconst 0, 1) := by decide +kernel
theorem dL_now_146 : decode cL_now 146 = .ok (.istore 5, 2) := by decide +kernel
theorem dL_now_148 : decode cL_now 148 = .ok (.iload 5, 2) := by decide +kernel
theorem dL_now_150 : decode cL_now 150 = .ok (.bipush 6, 2) := by decide +kernel
theorem dL_now_152 : decode cL_now 152 = .ok (.iload 4, 2) := by decide +kernel
theorem dL_now_154 : decode cL_now 154 = .ok (.imul, 1) := by decide +kernel
theorem dL_now_155 : decode cL_now 155 = .ok (.if_icmp .ge 30, 3) := by decide +kernel
theorem dL_now_158 : decode cL_now 158 = .ok (.ldc2_w 123, 3) := by decide +kernel
theorem dL_now_161 : decode cL_now 161 = .ok (.lload_n 1, 1) := by decide +kernel
theorem dL_now_162 : decode cL_now 162 = .ok (.lmul, 1) := by decide +kernel
theorem dL_now_163 : decode cL_now 163 = .ok (.aload_n 0, 1) := by decide +kernel
theorem dL_now_164 : decode cL_now 164 = .ok (.iload 5, 2) := by decide +kernel
theorem dL_now_166 : decode cL_now 166 = .ok (.bipush 6, 2) := by decide +kernel
theorem dL_now_168 : decode cL_now 168 = .ok (.idiv, 1) := by decide +kernel
theorem dL_now_169 : decode cL_now 169 = .ok (.iload 5, 2) := by decide +kernel
theorem dL_now_171 : decode cL_now 171 = .ok (.bipush 6, 2) := by decide +kernel
theorem dL_now_173 : decode cL_now 173 = .ok (.irem, 1) := by decide +kernel
theorem dL_now_174 : decode cL_now 174 = .ok (.invokestatic 137, 3) := by decide +kernel
theorem dL_now_177 : decode cL_now 177 = .ok (.ladd, 1) := by decide +kernel
theorem dL_now_178 : decode cL_now 178 = .ok (.lstore_n 1, 1) := by decide +kernel
theorem dL_now_179 : decode cL_now 179 = .ok (.iinc 5 1, 3) := by decide +kernel
theorem dL_now_182 : decode cL_now 182 = .ok (.goto (-34), 3) := by decide +kernel
theorem dL_now_185 : decode cL_now 185 = .ok (.iconst 0, 1) := by decide +kernel
theorem dL_now_186 : decode cL_now 186 = .ok (.istore 5, 2) := by decide +kernel
theorem dL_now_188 : decode cL_now 188 = .ok (.iload 5, 2) := by decide +kernel
theorem dL_now_190 : decode cL_now 190 = .ok (.bipush 10, 2) := by decide +kernel
theorem dL_now_192 : decode cL_now 192 = .ok (.if_icmp .ge 22, 3) := by decide +kernel
theorem dL_now_195 : decode cL_now 195 = .ok (.ldc2_w 123, 3) := by decide +kernel
theorem dL_now_198 : decode cL_now 198 = .ok (.lload_n 1, 1) := by decide +kernel
theorem dL_now_199 : decode cL_now 199 = .ok (.lmul, 1) := by decide +kernel
theorem dL_now_200 : decode cL_now 200 = .ok (.aload_n 0, 1) := by decide +kernel
theorem dL_now_201 : decode cL_now 201 = .ok (.iload 5, 2) := by decide +kernel
theorem dL_now_203 : decode cL_now 203 = .ok (.invokestatic 139, 3) := by decide +kernel
theorem dL_now_206 : decode cL_now 206 = .ok (.ladd, 1) := by decide +kernel
theorem dL_now_207 : decode cL_now 207 = .ok (.lstore_n 1, 1) := by decide +kernel
theorem dL_now_208 : decode cL_now 208 = .ok (.iinc 5 1, 3) := by decide +kernel
theorem dL_now_211 : decode cL_now 211 = .ok (.goto (-23), 3) := by decide +kernel
theorem dL_now_214 : decode cL_now 214 = .ok (.lload_n 1, 1) := by decide +kernel
theorem dL_now_215 : decode cL_now 215 = .ok (.lreturn, 1) := by decide +kernel
theorem dL_errors_0 : decode cL_errors 0 = .ok (.aload_n 0, 1) := by decide +kernel
theorem dL_errors_1 : decode cL_errors 1 = .ok (.invokestatic 141, 3) := by decide +kernel
theorem dL_errors_4 : decode cL_errors 4 = .ok (.lstore_n 1, 1) := by decide +kernel
theorem dL_errors_5 : decode cL_errors 5 = .ok (.aload_n 0, 1) := by decide +kernel
theorem dL_errors_6 : decode cL_errors 6 = .ok (.iconst 0, 1) := by decide +kernel
theorem dL_errors_7 : decode cL_errors 7 = .ok (.invokestatic 125, 3) := by decide +kernel
theorem dL_errors_10 : decode cL_errors 10 = .ok (.l2i, 1) := by decide +kernel
theorem dL_errors_11 : decode cL_errors 11 = .ok (.istore_n 3, 1) := by decide +kernel
theorem dL_errors_12 : decode cL_errors 12 = .ok (.aload_n 0, 1) := by decide +kernel
theorem dL_errors_13 : decode cL_errors 13 = .ok (.iconst 2, 1) := by decide +kernel
theorem dL_errors_14 : decode cL_errors 14 = .ok (.invokestatic 125, 3) := by decide +kernel
theorem dL_errors_17 : decode cL_errors 17 = .ok (.l2i, 1) := by decide +kernel
theorem dL_errors_18 : decode cL_errors 18 = .ok (.istore 4, 2) := by decide +kernel
theorem dL_errors_20 : decode cL_errors 20 = .ok (.aload_n 0, 1) := by decide +kernel
theorem dL_errors_21 : decode cL_errors 21 = .ok (.iconst 1, 1) := by decide +kernel
theorem dL_errors_22 : decode cL_errors 22 = .ok (.invokestatic 125, 3) := by decide +kernel
theorem dL_errors_25 : decode cL_errors 25 = .ok (.l2i, 1) := by decide +kernel
theorem dL_errors_26 : decode cL_errors 26 = .ok (.istore 5, 2) := by decide +kernel
theorem dL_errors_28 : decode cL_errors 28 = .ok (.aload_n 0, 1) := by decide +kernel
