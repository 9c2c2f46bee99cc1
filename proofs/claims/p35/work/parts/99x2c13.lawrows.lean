/-! ===== rows of the law's methods, 13 ===== -/
theorem dL_kept_101 : decode cL_kept 101 = .ok (.iload 14, 2) := by decide +kernel
theorem dL_kept_103 : decode cL_kept 103 = .ok (.iload_n 1, 1) := by decide +kernel
theorem dL_kept_104 : decode cL_kept 104 = .ok (.if_icmp .ge 257, 3) := by decide +kernel
theorem dL_kept_107 : decode cL_kept 107 = .ok (.iload 5, 2) := by decide +kernel
theorem dL_kept_109 : decode cL_kept 109 = .ok (.ifCond .eq 252, 3) := by decide +kernel
theorem dL_kept_112 : decode cL_kept 112 = .ok (.lload 6, 2) := by decide +kernel
theorem dL_kept_114 : decode cL_kept 114 = .ok (.aload_n 0, 1) := by decide +kernel
theorem dL_kept_115 : decode cL_kept 115 = .ok (.iload 14, 2) := by decide +kernel
theorem dL_kept_117 : decode cL_kept 117 = .ok (.iconst 3, 1) := by decide +kernel
theorem dL_kept_118 : decode cL_kept 118 = .ok (.invokestatic 132, 3) := by decide +kernel
theorem dL_kept_121 : decode cL_kept 121 = .ok (.ladd, 1) := by decide +kernel
theorem dL_kept_122 : decode cL_kept 122 = .ok (.lstore 6, 2) := by decide +kernel
theorem dL_kept_124 : decode cL_kept 124 = .ok (.lload 8, 2) := by decide +kernel
theorem dL_kept_126 : decode cL_kept 126 = .ok (.aload_n 0, 1) := by decide +kernel
theorem dL_kept_127 : decode cL_kept 127 = .ok (.iload 14, 2) := by decide +kernel
theorem dL_kept_129 : decode cL_kept 129 = .ok (.iconst 5, 1) := by decide +kernel
theorem dL_kept_130 : decode cL_kept 130 = .ok (.invokestatic 132, 3) := by decide +kernel
theorem dL_kept_133 : decode cL_kept 133 = .ok (.ladd, 1) := by decide +kernel
theorem dL_kept_134 : decode cL_kept 134 = .ok (.lstore 8, 2) := by decide +kernel
theorem dL_kept_136 : decode cL_kept 136 = .ok (.lload 10, 2) := by decide +kernel
theorem dL_kept_138 : decode cL_kept 138 = .ok (.aload_n 0, 1) := by decide +kernel
theorem dL_kept_139 : decode cL_kept 139 = .ok (.iload 14, 2) := by decide +kernel
theorem dL_kept_141 : decode cL_kept 141 = .ok (.bipush 6, 2) := by decide +kernel
theorem dL_kept_143 : decode cL_kept 143 = .ok (.invokestatic 132, 3) := by decide +kernel
theorem dL_kept_146 : decode cL_kept 146 = .ok (.ladd, 1) := by decide +kernel
theorem dL_kept_147 : decode cL_kept 147 = .ok (.lstore 10, 2) := by decide +kernel
theorem dL_kept_149 : decode cL_kept 149 = .ok (.lload 12, 2) := by decide +kernel
theorem dL_kept_151 : decode cL_kept 151 = .ok (.lload_n 3, 1) := by decide +kernel
theorem dL_kept_152 : decode cL_kept 152 = .ok (.aload_n 0, 1) := by decide +kernel
theorem dL_kept_153 : decode cL_kept 153 = .ok (.iload 14, 2) := by decide +kernel
theorem dL_kept_155 : decode cL_kept 155 = .ok (.iconst 2, 1) := by decide +kernel
theorem dL_kept_156 : decode cL_kept 156 = .ok (.invokestatic 132, 3) := by decide +kernel
theorem dL_kept_159 : decode cL_kept 159 = .ok (.lcmp, 1) := by decide +kernel
theorem dL_kept_160 : decode cL_kept 160 = .ok (.ifCond .ge 7, 3) := by decide +kernel
theorem dL_kept_163 : decode cL_kept 163 = .ok (.lconst 1, 1) := by decide +kernel
theorem dL_kept_164 : decode cL_kept 164 = .ok (.goto 4, 3) := by decide +kernel
theorem dL_kept_167 : decode cL_kept 167 = .ok (.lconst 0, 1) := by decide +kernel
theorem dL_kept_168 : decode cL_kept 168 = .ok (.ladd, 1) := by decide +kernel
theorem dL_kept_169 : decode cL_kept 169 = .ok (.lstore 12, 2) := by decide +kernel
theorem dL_kept_171 : decode cL_kept 171 = .ok (.aload_n 0, 1) := by decide +kernel
theorem dL_kept_172 : decode cL_kept 172 = .ok (.iload 14, 2) := by decide +kernel
theorem dL_kept_174 : decode cL_kept 174 = .ok (.iconst 0, 1) := by decide +kernel
theorem dL_kept_175 : decode cL_kept 175 = .ok (.invokestatic 132, 3) := by decide +kernel
theorem dL_kept_178 : decode cL_kept 178 = .ok (.lconst 0, 1) := by decide +kernel
theorem dL_kept_179 : decode cL_kept 179 = .ok (.ldc2_w 210, 3) := by decide +kernel
theorem dL_kept_182 : decode cL_kept 182 = .ok (.invokestatic 204, 3) := by decide +kernel
theorem dL_kept_185 : decode cL_kept 185 = .ok (.ifCond .eq 54, 3) := by decide +kernel
theorem dL_kept_188 : decode cL_kept 188 = .ok (.aload_n 0, 1) := by decide +kernel
theorem dL_kept_189 : decode cL_kept 189 = .ok (.iload 14, 2) := by decide +kernel
theorem dL_kept_191 : decode cL_kept 191 = .ok (.iconst 1, 1) := by decide +kernel
theorem dL_kept_192 : decode cL_kept 192 = .ok (.invokestatic 132, 3) := by decide +kernel
theorem dL_kept_195 : decode cL_kept 195 = .ok (.lconst 0, 1) := by decide +kernel
theorem dL_kept_196 : decode cL_kept 196 = .ok (.ldc2_w 212, 3) := by decide +kernel
theorem dL_kept_199 : decode cL_kept 199 = .ok (.invokestatic 204, 3) := by decide +kernel
theorem dL_kept_202 : decode cL_kept 202 = .ok (.ifCond .eq 37, 3) := by decide +kernel
theorem dL_kept_205 : decode cL_kept 205 = .ok (.aload_n 0, 1) := by decide +kernel
theorem dL_kept_206 : decode cL_kept 206 = .ok (.iload 14, 2) := by decide +kernel
theorem dL_kept_208 : decode cL_kept 208 = .ok (.bipush 7, 2) := by decide +kernel
theorem dL_kept_210 : decode cL_kept 210 = .ok (.invokestatic 132, 3) := by decide +kernel
theorem dL_kept_213 : decode cL_kept 213 = .ok (.iload 14, 2) := by decide +kernel
theorem dL_kept_215 : decode cL_kept 215 = .ok (.lshr, 1) := by decide +kernel
theorem dL_kept_216 : decode cL_kept 216 = .ok (.lconst 1, 1) := by decide +kernel
theorem dL_kept_217 : decode cL_kept 217 = .ok (.land, 1) := by decide +kernel
theorem dL_kept_218 : decode cL_kept 218 = .ok (.lconst 0, 1) := by decide +kernel
theorem dL_kept_219 : decode cL_kept 219 = .ok (.lcmp, 1) := by decide +kernel
theorem dL_kept_220 : decode cL_kept 220 = .ok (.ifCond .ne 19, 3) := by decide +kernel
theorem dL_kept_223 : decode cL_kept 223 = .ok (.aload_n 0, 1) := by decide +kernel
theorem dL_kept_224 : decode cL_kept 224 = .ok (.iload 14, 2) := by decide +kernel
theorem dL_kept_226 : decode cL_kept 226 = .ok (.iconst 4, 1) := by decide +kernel
theorem dL_kept_227 : decode cL_kept 227 = .ok (.invokestatic 132, 3) := by decide +kernel
theorem dL_kept_230 : decode cL_kept 230 = .ok (.lconst 0, 1) := by decide +kernel
theorem dL_kept_231 : decode cL_kept 231 = .ok (.lcmp, 1) := by decide +kernel
theorem dL_kept_232 : decode cL_kept 232 = .ok (.ifCond .lt 7, 3) := by decide +kernel
theorem dL_kept_235 : decode cL_kept 235 = .ok (.iconst 1, 1) := by decide +kernel
theorem dL_kept_236 : decode cL_kept 236 = .ok (.goto 4, 3) := by decide +kernel
theorem dL_kept_239 : decode cL_kept 239 = .ok (.iconst 0, 1) := by decide +kernel
theorem dL_kept_240 : decode cL_kept 240 = .ok (.istore 5, 2) := by decide +kernel
theorem dL_kept_242 : decode cL_kept 242 = .ok (.iconst 0, 1) := by decide +kernel
theorem dL_kept_243 : decode cL_kept 243 = .ok (.istore 15, 2) := by decide +kernel
theorem dL_kept_245 : decode cL_kept 245 = .ok (.iload 15, 2) := by decide +kernel
