/-! ===== rows of the law's methods, 33 ===== -/
theorem dL_act_32 : decode cL_act 32 = .ok (.iload_n 3, 1) := by decide +kernel
theorem dL_act_33 : decode cL_act 33 = .ok (.bipush 8, 2) := by decide +kernel
theorem dL_act_35 : decode cL_act 35 = .ok (.irem, 1) := by decide +kernel
theorem dL_act_36 : decode cL_act 36 = .ok (.goto 7, 3) := by decide +kernel
theorem dL_act_39 : decode cL_act 39 = .ok (.iload_n 3, 1) := by decide +kernel
theorem dL_act_40 : decode cL_act 40 = .ok (.iload 4, 2) := by decide +kernel
theorem dL_act_42 : decode cL_act 42 = .ok (.irem, 1) := by decide +kernel
theorem dL_act_43 : decode cL_act 43 = .ok (.istore 6, 2) := by decide +kernel
theorem dL_act_45 : decode cL_act 45 = .ok (.iload_n 3, 1) := by decide +kernel
theorem dL_act_46 : decode cL_act 46 = .ok (.bipush 8, 2) := by decide +kernel
theorem dL_act_48 : decode cL_act 48 = .ok (.idiv, 1) := by decide +kernel
theorem dL_act_49 : decode cL_act 49 = .ok (.bipush 10, 2) := by decide +kernel
theorem dL_act_51 : decode cL_act 51 = .ok (.irem, 1) := by decide +kernel
theorem dL_act_52 : decode cL_act 52 = .ok (.istore 7, 2) := by decide +kernel
theorem dL_act_54 : decode cL_act 54 = .ok (.iload_n 1, 1) := by decide +kernel
theorem dL_act_55 : decode cL_act 55 = .ok (.bipush 24, 2) := by decide +kernel
theorem dL_act_57 : decode cL_act 57 = .ok (.irem, 1) := by decide +kernel
theorem dL_act_58 : decode cL_act 58 = .ok (.tableswitch 366 0 18 #[90, 98, 111, 111, 111, 134, 162, 162, 162, 162, 193, 211, 236, 254, 268, 268, 277, 333, 338], 90) := by decide +kernel
theorem dL_act_148 : decode cL_act 148 = .ok (.aload_n 0, 1) := by decide +kernel
theorem dL_act_149 : decode cL_act 149 = .ok (.iload_n 3, 1) := by decide +kernel
theorem dL_act_150 : decode cL_act 150 = .ok (.iconst 4, 1) := by decide +kernel
theorem dL_act_151 : decode cL_act 151 = .ok (.irem, 1) := by decide +kernel
theorem dL_act_152 : decode cL_act 152 = .ok (.invokestatic 147, 3) := by decide +kernel
theorem dL_act_155 : decode cL_act 155 = .ok (.lreturn, 1) := by decide +kernel
theorem dL_act_156 : decode cL_act 156 = .ok (.aload_n 0, 1) := by decide +kernel
theorem dL_act_157 : decode cL_act 157 = .ok (.iload 6, 2) := by decide +kernel
theorem dL_act_159 : decode cL_act 159 = .ok (.iload_n 3, 1) := by decide +kernel
theorem dL_act_160 : decode cL_act 160 = .ok (.bipush 8, 2) := by decide +kernel
theorem dL_act_162 : decode cL_act 162 = .ok (.idiv, 1) := by decide +kernel
theorem dL_act_163 : decode cL_act 163 = .ok (.iconst 4, 1) := by decide +kernel
theorem dL_act_164 : decode cL_act 164 = .ok (.irem, 1) := by decide +kernel
theorem dL_act_165 : decode cL_act 165 = .ok (.invokestatic 149, 3) := by decide +kernel
theorem dL_act_168 : decode cL_act 168 = .ok (.lreturn, 1) := by decide +kernel
theorem dL_act_169 : decode cL_act 169 = .ok (.aload_n 0, 1) := by decide +kernel
theorem dL_act_170 : decode cL_act 170 = .ok (.iload 6, 2) := by decide +kernel
theorem dL_act_172 : decode cL_act 172 = .ok (.iload 7, 2) := by decide +kernel
theorem dL_act_174 : decode cL_act 174 = .ok (.iload_n 3, 1) := by decide +kernel
theorem dL_act_175 : decode cL_act 175 = .ok (.bipush 80, 2) := by decide +kernel
theorem dL_act_177 : decode cL_act 177 = .ok (.idiv, 1) := by decide +kernel
theorem dL_act_178 : decode cL_act 178 = .ok (.iconst 4, 1) := by decide +kernel
theorem dL_act_179 : decode cL_act 179 = .ok (.irem, 1) := by decide +kernel
theorem dL_act_180 : decode cL_act 180 = .ok (.ifCond .le 7, 3) := by decide +kernel
theorem dL_act_183 : decode cL_act 183 = .ok (.iconst 1, 1) := by decide +kernel
theorem dL_act_184 : decode cL_act 184 = .ok (.goto 4, 3) := by decide +kernel
theorem dL_act_187 : decode cL_act 187 = .ok (.iconst 0, 1) := by decide +kernel
theorem dL_act_188 : decode cL_act 188 = .ok (.invokestatic 151, 3) := by decide +kernel
theorem dL_act_191 : decode cL_act 191 = .ok (.lreturn, 1) := by decide +kernel
theorem dL_act_192 : decode cL_act 192 = .ok (.aload_n 0, 1) := by decide +kernel
theorem dL_act_193 : decode cL_act 193 = .ok (.iload 6, 2) := by decide +kernel
theorem dL_act_195 : decode cL_act 195 = .ok (.iload_n 3, 1) := by decide +kernel
theorem dL_act_196 : decode cL_act 196 = .ok (.bipush 8, 2) := by decide +kernel
theorem dL_act_198 : decode cL_act 198 = .ok (.idiv, 1) := by decide +kernel
theorem dL_act_199 : decode cL_act 199 = .ok (.bipush 8, 2) := by decide +kernel
theorem dL_act_201 : decode cL_act 201 = .ok (.irem, 1) := by decide +kernel
theorem dL_act_202 : decode cL_act 202 = .ok (.iload_n 3, 1) := by decide +kernel
theorem dL_act_203 : decode cL_act 203 = .ok (.bipush 64, 2) := by decide +kernel
theorem dL_act_205 : decode cL_act 205 = .ok (.idiv, 1) := by decide +kernel
theorem dL_act_206 : decode cL_act 206 = .ok (.iconst 3, 1) := by decide +kernel
theorem dL_act_207 : decode cL_act 207 = .ok (.irem, 1) := by decide +kernel
theorem dL_act_208 : decode cL_act 208 = .ok (.ifCond .le 7, 3) := by decide +kernel
theorem dL_act_211 : decode cL_act 211 = .ok (.iconst 1, 1) := by decide +kernel
theorem dL_act_212 : decode cL_act 212 = .ok (.goto 4, 3) := by decide +kernel
theorem dL_act_215 : decode cL_act 215 = .ok (.iconst 0, 1) := by decide +kernel
theorem dL_act_216 : decode cL_act 216 = .ok (.invokestatic 154, 3) := by decide +kernel
theorem dL_act_219 : decode cL_act 219 = .ok (.lreturn, 1) := by decide +kernel
theorem dL_act_220 : decode cL_act 220 = .ok (.aload_n 0, 1) := by decide +kernel
theorem dL_act_221 : decode cL_act 221 = .ok (.iload 6, 2) := by decide +kernel
theorem dL_act_223 : decode cL_act 223 = .ok (.iload 7, 2) := by decide +kernel
theorem dL_act_225 : decode cL_act 225 = .ok (.aload_n 0, 1) := by decide +kernel
theorem dL_act_226 : decode cL_act 226 = .ok (.iconst 1, 1) := by decide +kernel
theorem dL_act_227 : decode cL_act 227 = .ok (.invokestatic 125, 3) := by decide +kernel
theorem dL_act_230 : decode cL_act 230 = .ok (.l2i, 1) := by decide +kernel
theorem dL_act_231 : decode cL_act 231 = .ok (.iload_n 3, 1) := by decide +kernel
theorem dL_act_232 : decode cL_act 232 = .ok (.bipush 80, 2) := by decide +kernel
theorem dL_act_234 : decode cL_act 234 = .ok (.idiv, 1) := by decide +kernel
theorem dL_act_235 : decode cL_act 235 = .ok (.bipush 10, 2) := by decide +kernel
theorem dL_act_237 : decode cL_act 237 = .ok (.irem, 1) := by decide +kernel
theorem dL_act_238 : decode cL_act 238 = .ok (.iadd, 1) := by decide +kernel
theorem dL_act_239 : decode cL_act 239 = .ok (.iload_n 3, 1) := by decide +kernel
theorem dL_act_240 : decode cL_act 240 = .ok (.sipush 800, 3) := by decide +kernel
