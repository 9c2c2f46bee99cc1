/-! ===== rows of the law's methods, 23 ===== -/
theorem dL_follows_211 : decode cL_follows 211 = .ok (.ladd, 1) := by decide +kernel
theorem dL_follows_212 : decode cL_follows 212 = .ok (.lcmp, 1) := by decide +kernel
theorem dL_follows_213 : decode cL_follows 213 = .ok (.ifCond .ne 66, 3) := by decide +kernel
theorem dL_follows_216 : decode cL_follows 216 = .ok (.aload_n 0, 1) := by decide +kernel
theorem dL_follows_217 : decode cL_follows 217 = .ok (.bipush 6, 2) := by decide +kernel
theorem dL_follows_219 : decode cL_follows 219 = .ok (.invokestatic 125, 3) := by decide +kernel
theorem dL_follows_222 : decode cL_follows 222 = .ok (.lload 13, 2) := by decide +kernel
theorem dL_follows_224 : decode cL_follows 224 = .ok (.lload 22, 2) := by decide +kernel
theorem dL_follows_226 : decode cL_follows 226 = .ok (.ladd, 1) := by decide +kernel
theorem dL_follows_227 : decode cL_follows 227 = .ok (.lcmp, 1) := by decide +kernel
theorem dL_follows_228 : decode cL_follows 228 = .ok (.ifCond .ne 51, 3) := by decide +kernel
theorem dL_follows_231 : decode cL_follows 231 = .ok (.aload_n 0, 1) := by decide +kernel
theorem dL_follows_232 : decode cL_follows 232 = .ok (.bipush 7, 2) := by decide +kernel
theorem dL_follows_234 : decode cL_follows 234 = .ok (.invokestatic 125, 3) := by decide +kernel
theorem dL_follows_237 : decode cL_follows 237 = .ok (.lload 15, 2) := by decide +kernel
theorem dL_follows_239 : decode cL_follows 239 = .ok (.lload 24, 2) := by decide +kernel
theorem dL_follows_241 : decode cL_follows 241 = .ok (.ladd, 1) := by decide +kernel
theorem dL_follows_242 : decode cL_follows 242 = .ok (.lcmp, 1) := by decide +kernel
theorem dL_follows_243 : decode cL_follows 243 = .ok (.ifCond .ne 36, 3) := by decide +kernel
theorem dL_follows_246 : decode cL_follows 246 = .ok (.aload_n 0, 1) := by decide +kernel
theorem dL_follows_247 : decode cL_follows 247 = .ok (.iconst 3, 1) := by decide +kernel
theorem dL_follows_248 : decode cL_follows 248 = .ok (.invokestatic 125, 3) := by decide +kernel
theorem dL_follows_251 : decode cL_follows 251 = .ok (.lload 26, 2) := by decide +kernel
theorem dL_follows_253 : decode cL_follows 253 = .ok (.lcmp, 1) := by decide +kernel
theorem dL_follows_254 : decode cL_follows 254 = .ok (.ifCond .ne 25, 3) := by decide +kernel
theorem dL_follows_257 : decode cL_follows 257 = .ok (.aload_n 0, 1) := by decide +kernel
theorem dL_follows_258 : decode cL_follows 258 = .ok (.invokestatic 240, 3) := by decide +kernel
theorem dL_follows_261 : decode cL_follows 261 = .ok (.lconst 0, 1) := by decide +kernel
theorem dL_follows_262 : decode cL_follows 262 = .ok (.lcmp, 1) := by decide +kernel
theorem dL_follows_263 : decode cL_follows 263 = .ok (.ifCond .lt 16, 3) := by decide +kernel
theorem dL_follows_266 : decode cL_follows 266 = .ok (.aload_n 0, 1) := by decide +kernel
theorem dL_follows_267 : decode cL_follows 267 = .ok (.invokestatic 141, 3) := by decide +kernel
theorem dL_follows_270 : decode cL_follows 270 = .ok (.lload_n 2, 1) := by decide +kernel
theorem dL_follows_271 : decode cL_follows 271 = .ok (.lcmp, 1) := by decide +kernel
theorem dL_follows_272 : decode cL_follows 272 = .ok (.ifCond .ne 7, 3) := by decide +kernel
theorem dL_follows_275 : decode cL_follows 275 = .ok (.iconst 1, 1) := by decide +kernel
theorem dL_follows_276 : decode cL_follows 276 = .ok (.goto 4, 3) := by decide +kernel
theorem dL_follows_279 : decode cL_follows 279 = .ok (.iconst 0, 1) := by decide +kernel
theorem dL_follows_280 : decode cL_follows 280 = .ok (.istore 17, 2) := by decide +kernel
theorem dL_follows_282 : decode cL_follows 282 = .ok (.iload 17, 2) := by decide +kernel
theorem dL_follows_284 : decode cL_follows 284 = .ok (.ifCond .eq 105, 3) := by decide +kernel
theorem dL_follows_287 : decode cL_follows 287 = .ok (.aload_n 0, 1) := by decide +kernel
theorem dL_follows_288 : decode cL_follows 288 = .ok (.iconst 3, 1) := by decide +kernel
theorem dL_follows_289 : decode cL_follows 289 = .ok (.invokestatic 125, 3) := by decide +kernel
theorem dL_follows_292 : decode cL_follows 292 = .ok (.lconst 0, 1) := by decide +kernel
theorem dL_follows_293 : decode cL_follows 293 = .ok (.lcmp, 1) := by decide +kernel
theorem dL_follows_294 : decode cL_follows 294 = .ok (.ifCond .ne 95, 3) := by decide +kernel
theorem dL_follows_297 : decode cL_follows 297 = .ok (.iconst 4, 1) := by decide +kernel
theorem dL_follows_298 : decode cL_follows 298 = .ok (.newarray .int, 2) := by decide +kernel
theorem dL_follows_300 : decode cL_follows 300 = .ok (.astore 28, 2) := by decide +kernel
theorem dL_follows_302 : decode cL_follows 302 = .ok (.iconst 0, 1) := by decide +kernel
theorem dL_follows_303 : decode cL_follows 303 = .ok (.istore 29, 2) := by decide +kernel
theorem dL_follows_305 : decode cL_follows 305 = .ok (.iload 29, 2) := by decide +kernel
theorem dL_follows_307 : decode cL_follows 307 = .ok (.iload 7, 2) := by decide +kernel
theorem dL_follows_309 : decode cL_follows 309 = .ok (.if_icmp .ge 36, 3) := by decide +kernel
theorem dL_follows_312 : decode cL_follows 312 = .ok (.aload_n 0, 1) := by decide +kernel
theorem dL_follows_313 : decode cL_follows 313 = .ok (.iload 29, 2) := by decide +kernel
theorem dL_follows_315 : decode cL_follows 315 = .ok (.iconst 0, 1) := by decide +kernel
theorem dL_follows_316 : decode cL_follows 316 = .ok (.invokestatic 137, 3) := by decide +kernel
theorem dL_follows_319 : decode cL_follows 319 = .ok (.lload 4, 2) := by decide +kernel
theorem dL_follows_321 : decode cL_follows 321 = .ok (.lcmp, 1) := by decide +kernel
theorem dL_follows_322 : decode cL_follows 322 = .ok (.ifCond .ne 17, 3) := by decide +kernel
theorem dL_follows_325 : decode cL_follows 325 = .ok (.aload 28, 2) := by decide +kernel
theorem dL_follows_327 : decode cL_follows 327 = .ok (.aload_n 0, 1) := by decide +kernel
theorem dL_follows_328 : decode cL_follows 328 = .ok (.iload 29, 2) := by decide +kernel
theorem dL_follows_330 : decode cL_follows 330 = .ok (.invokestatic 181, 3) := by decide +kernel
theorem dL_follows_333 : decode cL_follows 333 = .ok (.l2i, 1) := by decide +kernel
theorem dL_follows_334 : decode cL_follows 334 = .ok (.dup2, 1) := by decide +kernel
theorem dL_follows_335 : decode cL_follows 335 = .ok (.iaload, 1) := by decide +kernel
theorem dL_follows_336 : decode cL_follows 336 = .ok (.iconst 1, 1) := by decide +kernel
theorem dL_follows_337 : decode cL_follows 337 = .ok (.iadd, 1) := by decide +kernel
theorem dL_follows_338 : decode cL_follows 338 = .ok (.iastore, 1) := by decide +kernel
theorem dL_follows_339 : decode cL_follows 339 = .ok (.iinc 29 1, 3) := by decide +kernel
theorem dL_follows_342 : decode cL_follows 342 = .ok (.goto (-37), 3) := by decide +kernel
theorem dL_follows_345 : decode cL_follows 345 = .ok (.iconst 0, 1) := by decide +kernel
theorem dL_follows_346 : decode cL_follows 346 = .ok (.istore 29, 2) := by decide +kernel
theorem dL_follows_348 : decode cL_follows 348 = .ok (.iload 29, 2) := by decide +kernel
theorem dL_follows_350 : decode cL_follows 350 = .ok (.iconst 4, 1) := by decide +kernel
theorem dL_follows_351 : decode cL_follows 351 = .ok (.if_icmp .ge 38, 3) := by decide +kernel
theorem dL_follows_354 : decode cL_follows 354 = .ok (.iload 17, 2) := by decide +kernel
