/-! ===== rows of the law's methods, 34 ===== -/
theorem dL_act_243 : decode cL_act 243 = .ok (.idiv, 1) := by decide +kernel
theorem dL_act_244 : decode cL_act 244 = .ok (.bipush 8, 2) := by decide +kernel
theorem dL_act_246 : decode cL_act 246 = .ok (.irem, 1) := by decide +kernel
theorem dL_act_247 : decode cL_act 247 = .ok (.invokestatic 156, 3) := by decide +kernel
theorem dL_act_250 : decode cL_act 250 = .ok (.lreturn, 1) := by decide +kernel
theorem dL_act_251 : decode cL_act 251 = .ok (.aload_n 0, 1) := by decide +kernel
theorem dL_act_252 : decode cL_act 252 = .ok (.iload 5, 2) := by decide +kernel
theorem dL_act_254 : decode cL_act 254 = .ok (.ifCond .ne 7, 3) := by decide +kernel
theorem dL_act_257 : decode cL_act 257 = .ok (.iconst 0, 1) := by decide +kernel
theorem dL_act_258 : decode cL_act 258 = .ok (.goto 7, 3) := by decide +kernel
theorem dL_act_261 : decode cL_act 261 = .ok (.iload_n 3, 1) := by decide +kernel
theorem dL_act_262 : decode cL_act 262 = .ok (.iload 5, 2) := by decide +kernel
theorem dL_act_264 : decode cL_act 264 = .ok (.irem, 1) := by decide +kernel
theorem dL_act_265 : decode cL_act 265 = .ok (.invokestatic 159, 3) := by decide +kernel
theorem dL_act_268 : decode cL_act 268 = .ok (.lreturn, 1) := by decide +kernel
theorem dL_act_269 : decode cL_act 269 = .ok (.aload_n 0, 1) := by decide +kernel
theorem dL_act_270 : decode cL_act 270 = .ok (.iload 5, 2) := by decide +kernel
theorem dL_act_272 : decode cL_act 272 = .ok (.ifCond .ne 7, 3) := by decide +kernel
theorem dL_act_275 : decode cL_act 275 = .ok (.iconst 0, 1) := by decide +kernel
theorem dL_act_276 : decode cL_act 276 = .ok (.goto 7, 3) := by decide +kernel
theorem dL_act_279 : decode cL_act 279 = .ok (.iload_n 3, 1) := by decide +kernel
theorem dL_act_280 : decode cL_act 280 = .ok (.iload 5, 2) := by decide +kernel
theorem dL_act_282 : decode cL_act 282 = .ok (.irem, 1) := by decide +kernel
theorem dL_act_283 : decode cL_act 283 = .ok (.iload_n 3, 1) := by decide +kernel
theorem dL_act_284 : decode cL_act 284 = .ok (.bipush 24, 2) := by decide +kernel
theorem dL_act_286 : decode cL_act 286 = .ok (.idiv, 1) := by decide +kernel
theorem dL_act_287 : decode cL_act 287 = .ok (.bipush 60, 2) := by decide +kernel
theorem dL_act_289 : decode cL_act 289 = .ok (.irem, 1) := by decide +kernel
theorem dL_act_290 : decode cL_act 290 = .ok (.invokestatic 161, 3) := by decide +kernel
theorem dL_act_293 : decode cL_act 293 = .ok (.lreturn, 1) := by decide +kernel
theorem dL_act_294 : decode cL_act 294 = .ok (.aload_n 0, 1) := by decide +kernel
theorem dL_act_295 : decode cL_act 295 = .ok (.iload 7, 2) := by decide +kernel
theorem dL_act_297 : decode cL_act 297 = .ok (.iload_n 3, 1) := by decide +kernel
theorem dL_act_298 : decode cL_act 298 = .ok (.iconst 3, 1) := by decide +kernel
theorem dL_act_299 : decode cL_act 299 = .ok (.irem, 1) := by decide +kernel
theorem dL_act_300 : decode cL_act 300 = .ok (.ifCond .le 7, 3) := by decide +kernel
theorem dL_act_303 : decode cL_act 303 = .ok (.iconst 1, 1) := by decide +kernel
theorem dL_act_304 : decode cL_act 304 = .ok (.goto 4, 3) := by decide +kernel
theorem dL_act_307 : decode cL_act 307 = .ok (.iconst 0, 1) := by decide +kernel
theorem dL_act_308 : decode cL_act 308 = .ok (.invokestatic 163, 3) := by decide +kernel
theorem dL_act_311 : decode cL_act 311 = .ok (.lreturn, 1) := by decide +kernel
theorem dL_act_312 : decode cL_act 312 = .ok (.aload_n 0, 1) := by decide +kernel
theorem dL_act_313 : decode cL_act 313 = .ok (.iload 6, 2) := by decide +kernel
theorem dL_act_315 : decode cL_act 315 = .ok (.iload_n 3, 1) := by decide +kernel
theorem dL_act_316 : decode cL_act 316 = .ok (.bipush 8, 2) := by decide +kernel
theorem dL_act_318 : decode cL_act 318 = .ok (.idiv, 1) := by decide +kernel
theorem dL_act_319 : decode cL_act 319 = .ok (.bipush 12, 2) := by decide +kernel
theorem dL_act_321 : decode cL_act 321 = .ok (.irem, 1) := by decide +kernel
theorem dL_act_322 : decode cL_act 322 = .ok (.invokestatic 167, 3) := by decide +kernel
theorem dL_act_325 : decode cL_act 325 = .ok (.lreturn, 1) := by decide +kernel
theorem dL_act_326 : decode cL_act 326 = .ok (.aload_n 0, 1) := by decide +kernel
theorem dL_act_327 : decode cL_act 327 = .ok (.iload 6, 2) := by decide +kernel
theorem dL_act_329 : decode cL_act 329 = .ok (.iload 7, 2) := by decide +kernel
theorem dL_act_331 : decode cL_act 331 = .ok (.invokestatic 169, 3) := by decide +kernel
theorem dL_act_334 : decode cL_act 334 = .ok (.lreturn, 1) := by decide +kernel
theorem dL_act_335 : decode cL_act 335 = .ok (.iload_n 3, 1) := by decide +kernel
theorem dL_act_336 : decode cL_act 336 = .ok (.bipush 6, 2) := by decide +kernel
theorem dL_act_338 : decode cL_act 338 = .ok (.irem, 1) := by decide +kernel
theorem dL_act_339 : decode cL_act 339 = .ok (.istore 8, 2) := by decide +kernel
theorem dL_act_341 : decode cL_act 341 = .ok (.aload_n 0, 1) := by decide +kernel
theorem dL_act_342 : decode cL_act 342 = .ok (.iload 8, 2) := by decide +kernel
theorem dL_act_344 : decode cL_act 344 = .ok (.iload 8, 2) := by decide +kernel
theorem dL_act_346 : decode cL_act 346 = .ok (.ifCond .ne 14, 3) := by decide +kernel
theorem dL_act_349 : decode cL_act 349 = .ok (.iconst 1, 1) := by decide +kernel
theorem dL_act_350 : decode cL_act 350 = .ok (.iload_n 3, 1) := by decide +kernel
theorem dL_act_351 : decode cL_act 351 = .ok (.bipush 6, 2) := by decide +kernel
theorem dL_act_353 : decode cL_act 353 = .ok (.idiv, 1) := by decide +kernel
theorem dL_act_354 : decode cL_act 354 = .ok (.iconst 4, 1) := by decide +kernel
theorem dL_act_355 : decode cL_act 355 = .ok (.irem, 1) := by decide +kernel
theorem dL_act_356 : decode cL_act 356 = .ok (.iadd, 1) := by decide +kernel
theorem dL_act_357 : decode cL_act 357 = .ok (.goto 30, 3) := by decide +kernel
theorem dL_act_360 : decode cL_act 360 = .ok (.iload 8, 2) := by decide +kernel
theorem dL_act_362 : decode cL_act 362 = .ok (.iconst 1, 1) := by decide +kernel
theorem dL_act_363 : decode cL_act 363 = .ok (.if_icmp .ne 15, 3) := by decide +kernel
theorem dL_act_366 : decode cL_act 366 = .ok (.iconst 1, 1) := by decide +kernel
theorem dL_act_367 : decode cL_act 367 = .ok (.iload_n 3, 1) := by decide +kernel
theorem dL_act_368 : decode cL_act 368 = .ok (.bipush 6, 2) := by decide +kernel
theorem dL_act_370 : decode cL_act 370 = .ok (.idiv, 1) := by decide +kernel
theorem dL_act_371 : decode cL_act 371 = .ok (.bipush 9, 2) := by decide +kernel
theorem dL_act_373 : decode cL_act 373 = .ok (.irem, 1) := by decide +kernel
