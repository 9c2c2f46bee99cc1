/-! ===== rows of the law's methods, 31 ===== -/
theorem dL_tells_166 : decode cL_tells 166 = .ok (.iconst 2, 1) := by decide +kernel
theorem dL_tells_167 : decode cL_tells 167 = .ok (.irem, 1) := by decide +kernel
theorem dL_tells_168 : decode cL_tells 168 = .ok (.iconst 1, 1) := by decide +kernel
theorem dL_tells_169 : decode cL_tells 169 = .ok (.if_icmp .eq 98, 3) := by decide +kernel
theorem dL_tells_172 : decode cL_tells 172 = .ok (.aload_n 0, 1) := by decide +kernel
theorem dL_tells_173 : decode cL_tells 173 = .ok (.bipush 98, 2) := by decide +kernel
theorem dL_tells_175 : decode cL_tells 175 = .ok (.invokestatic 249, 3) := by decide +kernel
theorem dL_tells_178 : decode cL_tells 178 = .ok (.ifCond .eq 93, 3) := by decide +kernel
theorem dL_tells_181 : decode cL_tells 181 = .ok (.aload_n 0, 1) := by decide +kernel
theorem dL_tells_182 : decode cL_tells 182 = .ok (.bipush 111, 2) := by decide +kernel
theorem dL_tells_184 : decode cL_tells 184 = .ok (.invokestatic 249, 3) := by decide +kernel
theorem dL_tells_187 : decode cL_tells 187 = .ok (.ifCond .eq 84, 3) := by decide +kernel
theorem dL_tells_190 : decode cL_tells 190 = .ok (.aload_n 0, 1) := by decide +kernel
theorem dL_tells_191 : decode cL_tells 191 = .ok (.bipush 111, 2) := by decide +kernel
theorem dL_tells_193 : decode cL_tells 193 = .ok (.invokestatic 249, 3) := by decide +kernel
theorem dL_tells_196 : decode cL_tells 196 = .ok (.ifCond .eq 75, 3) := by decide +kernel
theorem dL_tells_199 : decode cL_tells 199 = .ok (.aload_n 0, 1) := by decide +kernel
theorem dL_tells_200 : decode cL_tells 200 = .ok (.bipush 107, 2) := by decide +kernel
theorem dL_tells_202 : decode cL_tells 202 = .ok (.invokestatic 249, 3) := by decide +kernel
theorem dL_tells_205 : decode cL_tells 205 = .ok (.ifCond .eq 66, 3) := by decide +kernel
theorem dL_tells_208 : decode cL_tells 208 = .ok (.aload_n 0, 1) := by decide +kernel
theorem dL_tells_209 : decode cL_tells 209 = .ok (.iload 4, 2) := by decide +kernel
theorem dL_tells_211 : decode cL_tells 211 = .ok (.invokestatic 257, 3) := by decide +kernel
theorem dL_tells_214 : decode cL_tells 214 = .ok (.ifCond .eq 57, 3) := by decide +kernel
theorem dL_tells_217 : decode cL_tells 217 = .ok (.aload_n 0, 1) := by decide +kernel
theorem dL_tells_218 : decode cL_tells 218 = .ok (.iload 6, 2) := by decide +kernel
theorem dL_tells_220 : decode cL_tells 220 = .ok (.bipush 10, 2) := by decide +kernel
theorem dL_tells_222 : decode cL_tells 222 = .ok (.irem, 1) := by decide +kernel
theorem dL_tells_223 : decode cL_tells 223 = .ok (.invokestatic 257, 3) := by decide +kernel
theorem dL_tells_226 : decode cL_tells 226 = .ok (.ifCond .eq 45, 3) := by decide +kernel
theorem dL_tells_229 : decode cL_tells 229 = .ok (.aload_n 0, 1) := by decide +kernel
theorem dL_tells_230 : decode cL_tells 230 = .ok (.iload 5, 2) := by decide +kernel
theorem dL_tells_232 : decode cL_tells 232 = .ok (.iconst 4, 1) := by decide +kernel
theorem dL_tells_233 : decode cL_tells 233 = .ok (.idiv, 1) := by decide +kernel
theorem dL_tells_234 : decode cL_tells 234 = .ok (.bipush 9, 2) := by decide +kernel
theorem dL_tells_236 : decode cL_tells 236 = .ok (.irem, 1) := by decide +kernel
theorem dL_tells_237 : decode cL_tells 237 = .ok (.invokestatic 257, 3) := by decide +kernel
theorem dL_tells_240 : decode cL_tells 240 = .ok (.ifCond .eq 31, 3) := by decide +kernel
theorem dL_tells_243 : decode cL_tells 243 = .ok (.aload_n 0, 1) := by decide +kernel
theorem dL_tells_244 : decode cL_tells 244 = .ok (.iload 6, 2) := by decide +kernel
theorem dL_tells_246 : decode cL_tells 246 = .ok (.bipush 10, 2) := by decide +kernel
theorem dL_tells_248 : decode cL_tells 248 = .ok (.idiv, 1) := by decide +kernel
theorem dL_tells_249 : decode cL_tells 249 = .ok (.bipush 8, 2) := by decide +kernel
theorem dL_tells_251 : decode cL_tells 251 = .ok (.irem, 1) := by decide +kernel
theorem dL_tells_252 : decode cL_tells 252 = .ok (.invokestatic 257, 3) := by decide +kernel
theorem dL_tells_255 : decode cL_tells 255 = .ok (.ifCond .eq 16, 3) := by decide +kernel
theorem dL_tells_258 : decode cL_tells 258 = .ok (.aload_n 0, 1) := by decide +kernel
theorem dL_tells_259 : decode cL_tells 259 = .ok (.bipush 59, 2) := by decide +kernel
theorem dL_tells_261 : decode cL_tells 261 = .ok (.invokestatic 249, 3) := by decide +kernel
theorem dL_tells_264 : decode cL_tells 264 = .ok (.ifCond .eq 7, 3) := by decide +kernel
theorem dL_tells_267 : decode cL_tells 267 = .ok (.iconst 1, 1) := by decide +kernel
theorem dL_tells_268 : decode cL_tells 268 = .ok (.goto 4, 3) := by decide +kernel
theorem dL_tells_271 : decode cL_tells 271 = .ok (.iconst 0, 1) := by decide +kernel
theorem dL_tells_272 : decode cL_tells 272 = .ok (.istore_n 3, 1) := by decide +kernel
theorem dL_tells_273 : decode cL_tells 273 = .ok (.iinc 4 1, 3) := by decide +kernel
theorem dL_tells_276 : decode cL_tells 276 = .ok (.goto (-260), 3) := by decide +kernel
theorem dL_tells_279 : decode cL_tells 279 = .ok (.iload_n 3, 1) := by decide +kernel
theorem dL_tells_280 : decode cL_tells 280 = .ok (.ifCond .eq 167, 3) := by decide +kernel
theorem dL_tells_283 : decode cL_tells 283 = .ok (.aload_n 0, 1) := by decide +kernel
theorem dL_tells_284 : decode cL_tells 284 = .ok (.bipush 104, 2) := by decide +kernel
theorem dL_tells_286 : decode cL_tells 286 = .ok (.invokestatic 249, 3) := by decide +kernel
theorem dL_tells_289 : decode cL_tells 289 = .ok (.ifCond .eq 158, 3) := by decide +kernel
theorem dL_tells_292 : decode cL_tells 292 = .ok (.aload_n 0, 1) := by decide +kernel
theorem dL_tells_293 : decode cL_tells 293 = .ok (.bipush 97, 2) := by decide +kernel
theorem dL_tells_295 : decode cL_tells 295 = .ok (.invokestatic 249, 3) := by decide +kernel
theorem dL_tells_298 : decode cL_tells 298 = .ok (.ifCond .eq 149, 3) := by decide +kernel
theorem dL_tells_301 : decode cL_tells 301 = .ok (.aload_n 0, 1) := by decide +kernel
theorem dL_tells_302 : decode cL_tells 302 = .ok (.bipush 115, 2) := by decide +kernel
theorem dL_tells_304 : decode cL_tells 304 = .ok (.invokestatic 249, 3) := by decide +kernel
theorem dL_tells_307 : decode cL_tells 307 = .ok (.ifCond .eq 140, 3) := by decide +kernel
theorem dL_tells_310 : decode cL_tells 310 = .ok (.aload_n 0, 1) := by decide +kernel
theorem dL_tells_311 : decode cL_tells 311 = .ok (.iload_n 1, 1) := by decide +kernel
theorem dL_tells_312 : decode cL_tells 312 = .ok (.bipush 10, 2) := by decide +kernel
theorem dL_tells_314 : decode cL_tells 314 = .ok (.irem, 1) := by decide +kernel
theorem dL_tells_315 : decode cL_tells 315 = .ok (.invokestatic 257, 3) := by decide +kernel
theorem dL_tells_318 : decode cL_tells 318 = .ok (.ifCond .eq 129, 3) := by decide +kernel
theorem dL_tells_321 : decode cL_tells 321 = .ok (.aload_n 0, 1) := by decide +kernel
theorem dL_tells_322 : decode cL_tells 322 = .ok (.bipush 59, 2) := by decide +kernel
theorem dL_tells_324 : decode cL_tells 324 = .ok (.invokestatic 249, 3) := by decide +kernel
theorem dL_tells_327 : decode cL_tells 327 = .ok (.ifCond .eq 120, 3) := by decide +kernel
