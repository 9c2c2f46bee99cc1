/-! ===== rows of the law's methods, 7 ===== -/
theorem dL_errors_192 : decode cL_errors 192 = .ok (.iload_n 3, 1) := by decide +kernel
theorem dL_errors_193 : decode cL_errors 193 = .ok (.bipush 9, 2) := by decide +kernel
theorem dL_errors_195 : decode cL_errors 195 = .ok (.invokestatic 149, 3) := by decide +kernel
theorem dL_errors_198 : decode cL_errors 198 = .ok (.ldc2_w 36, 3) := by decide +kernel
theorem dL_errors_201 : decode cL_errors 201 = .ok (.lcmp, 1) := by decide +kernel
theorem dL_errors_202 : decode cL_errors 202 = .ok (.ifCond .ne 340, 3) := by decide +kernel
theorem dL_errors_205 : decode cL_errors 205 = .ok (.aload_n 0, 1) := by decide +kernel
theorem dL_errors_206 : decode cL_errors 206 = .ok (.iload_n 3, 1) := by decide +kernel
theorem dL_errors_207 : decode cL_errors 207 = .ok (.iconst 0, 1) := by decide +kernel
theorem dL_errors_208 : decode cL_errors 208 = .ok (.iconst 1, 1) := by decide +kernel
theorem dL_errors_209 : decode cL_errors 209 = .ok (.invokestatic 151, 3) := by decide +kernel
theorem dL_errors_212 : decode cL_errors 212 = .ok (.ldc2_w 36, 3) := by decide +kernel
theorem dL_errors_215 : decode cL_errors 215 = .ok (.lcmp, 1) := by decide +kernel
theorem dL_errors_216 : decode cL_errors 216 = .ok (.ifCond .ne 326, 3) := by decide +kernel
theorem dL_errors_219 : decode cL_errors 219 = .ok (.aload_n 0, 1) := by decide +kernel
theorem dL_errors_220 : decode cL_errors 220 = .ok (.iconst 0, 1) := by decide +kernel
theorem dL_errors_221 : decode cL_errors 221 = .ok (.bipush 10, 2) := by decide +kernel
theorem dL_errors_223 : decode cL_errors 223 = .ok (.iconst 1, 1) := by decide +kernel
theorem dL_errors_224 : decode cL_errors 224 = .ok (.invokestatic 151, 3) := by decide +kernel
theorem dL_errors_227 : decode cL_errors 227 = .ok (.ldc2_w 36, 3) := by decide +kernel
theorem dL_errors_230 : decode cL_errors 230 = .ok (.lcmp, 1) := by decide +kernel
theorem dL_errors_231 : decode cL_errors 231 = .ok (.ifCond .ne 311, 3) := by decide +kernel
theorem dL_errors_234 : decode cL_errors 234 = .ok (.aload_n 0, 1) := by decide +kernel
theorem dL_errors_235 : decode cL_errors 235 = .ok (.iload_n 3, 1) := by decide +kernel
theorem dL_errors_236 : decode cL_errors 236 = .ok (.iconst 0, 1) := by decide +kernel
theorem dL_errors_237 : decode cL_errors 237 = .ok (.iconst 1, 1) := by decide +kernel
theorem dL_errors_238 : decode cL_errors 238 = .ok (.invokestatic 154, 3) := by decide +kernel
theorem dL_errors_241 : decode cL_errors 241 = .ok (.ldc2_w 36, 3) := by decide +kernel
theorem dL_errors_244 : decode cL_errors 244 = .ok (.lcmp, 1) := by decide +kernel
theorem dL_errors_245 : decode cL_errors 245 = .ok (.ifCond .ne 297, 3) := by decide +kernel
theorem dL_errors_248 : decode cL_errors 248 = .ok (.aload_n 0, 1) := by decide +kernel
theorem dL_errors_249 : decode cL_errors 249 = .ok (.iconst 0, 1) := by decide +kernel
theorem dL_errors_250 : decode cL_errors 250 = .ok (.iload_n 3, 1) := by decide +kernel
theorem dL_errors_251 : decode cL_errors 251 = .ok (.iconst 0, 1) := by decide +kernel
theorem dL_errors_252 : decode cL_errors 252 = .ok (.invokestatic 154, 3) := by decide +kernel
theorem dL_errors_255 : decode cL_errors 255 = .ok (.ldc2_w 36, 3) := by decide +kernel
theorem dL_errors_258 : decode cL_errors 258 = .ok (.lcmp, 1) := by decide +kernel
theorem dL_errors_259 : decode cL_errors 259 = .ok (.ifCond .ne 283, 3) := by decide +kernel
theorem dL_errors_262 : decode cL_errors 262 = .ok (.aload_n 0, 1) := by decide +kernel
theorem dL_errors_263 : decode cL_errors 263 = .ok (.iload_n 3, 1) := by decide +kernel
theorem dL_errors_264 : decode cL_errors 264 = .ok (.iconst 0, 1) := by decide +kernel
theorem dL_errors_265 : decode cL_errors 265 = .ok (.iconst 0, 1) := by decide +kernel
theorem dL_errors_266 : decode cL_errors 266 = .ok (.bipush 9, 2) := by decide +kernel
theorem dL_errors_268 : decode cL_errors 268 = .ok (.invokestatic 156, 3) := by decide +kernel
theorem dL_errors_271 : decode cL_errors 271 = .ok (.ldc2_w 36, 3) := by decide +kernel
theorem dL_errors_274 : decode cL_errors 274 = .ok (.lcmp, 1) := by decide +kernel
theorem dL_errors_275 : decode cL_errors 275 = .ok (.ifCond .ne 267, 3) := by decide +kernel
theorem dL_errors_278 : decode cL_errors 278 = .ok (.aload_n 0, 1) := by decide +kernel
theorem dL_errors_279 : decode cL_errors 279 = .ok (.iconst 0, 1) := by decide +kernel
theorem dL_errors_280 : decode cL_errors 280 = .ok (.bipush 10, 2) := by decide +kernel
theorem dL_errors_282 : decode cL_errors 282 = .ok (.iconst 0, 1) := by decide +kernel
theorem dL_errors_283 : decode cL_errors 283 = .ok (.bipush 9, 2) := by decide +kernel
theorem dL_errors_285 : decode cL_errors 285 = .ok (.invokestatic 156, 3) := by decide +kernel
theorem dL_errors_288 : decode cL_errors 288 = .ok (.ldc2_w 36, 3) := by decide +kernel
theorem dL_errors_291 : decode cL_errors 291 = .ok (.lcmp, 1) := by decide +kernel
theorem dL_errors_292 : decode cL_errors 292 = .ok (.ifCond .ne 250, 3) := by decide +kernel
theorem dL_errors_295 : decode cL_errors 295 = .ok (.aload_n 0, 1) := by decide +kernel
theorem dL_errors_296 : decode cL_errors 296 = .ok (.iload 4, 2) := by decide +kernel
theorem dL_errors_298 : decode cL_errors 298 = .ok (.invokestatic 159, 3) := by decide +kernel
theorem dL_errors_301 : decode cL_errors 301 = .ok (.ldc2_w 36, 3) := by decide +kernel
theorem dL_errors_304 : decode cL_errors 304 = .ok (.lcmp, 1) := by decide +kernel
theorem dL_errors_305 : decode cL_errors 305 = .ok (.ifCond .ne 237, 3) := by decide +kernel
theorem dL_errors_308 : decode cL_errors 308 = .ok (.aload_n 0, 1) := by decide +kernel
theorem dL_errors_309 : decode cL_errors 309 = .ok (.iconst (-1), 1) := by decide +kernel
theorem dL_errors_310 : decode cL_errors 310 = .ok (.invokestatic 159, 3) := by decide +kernel
theorem dL_errors_313 : decode cL_errors 313 = .ok (.ldc2_w 36, 3) := by decide +kernel
theorem dL_errors_316 : decode cL_errors 316 = .ok (.lcmp, 1) := by decide +kernel
theorem dL_errors_317 : decode cL_errors 317 = .ok (.ifCond .ne 225, 3) := by decide +kernel
theorem dL_errors_320 : decode cL_errors 320 = .ok (.aload_n 0, 1) := by decide +kernel
theorem dL_errors_321 : decode cL_errors 321 = .ok (.iload 4, 2) := by decide +kernel
theorem dL_errors_323 : decode cL_errors 323 = .ok (.bipush 60, 2) := by decide +kernel
theorem dL_errors_325 : decode cL_errors 325 = .ok (.invokestatic 161, 3) := by decide +kernel
theorem dL_errors_328 : decode cL_errors 328 = .ok (.ldc2_w 36, 3) := by decide +kernel
theorem dL_errors_331 : decode cL_errors 331 = .ok (.lcmp, 1) := by decide +kernel
theorem dL_errors_332 : decode cL_errors 332 = .ok (.ifCond .ne 210, 3) := by decide +kernel
theorem dL_errors_335 : decode cL_errors 335 = .ok (.aload_n 0, 1) := by decide +kernel
theorem dL_errors_336 : decode cL_errors 336 = .ok (.bipush 10, 2) := by decide +kernel
theorem dL_errors_338 : decode cL_errors 338 = .ok (.iconst 1, 1) := by decide +kernel
theorem dL_errors_339 : decode cL_errors 339 = .ok (.invokestatic 163, 3) := by decide +kernel
theorem dL_errors_342 : decode cL_errors 342 = .ok (.ldc2_w 36, 3) := by decide +kernel
