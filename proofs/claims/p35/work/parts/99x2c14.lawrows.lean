/-! ===== rows of the law's methods, 14 ===== -/
theorem dL_kept_247 : decode cL_kept 247 = .ok (.iload_n 1, 1) := by decide +kernel
theorem dL_kept_248 : decode cL_kept 248 = .ok (.if_icmp .ge 51, 3) := by decide +kernel
theorem dL_kept_251 : decode cL_kept 251 = .ok (.iload 5, 2) := by decide +kernel
theorem dL_kept_253 : decode cL_kept 253 = .ok (.ifCond .eq 46, 3) := by decide +kernel
theorem dL_kept_256 : decode cL_kept 256 = .ok (.aload_n 0, 1) := by decide +kernel
theorem dL_kept_257 : decode cL_kept 257 = .ok (.iload 14, 2) := by decide +kernel
theorem dL_kept_259 : decode cL_kept 259 = .ok (.bipush 7, 2) := by decide +kernel
theorem dL_kept_261 : decode cL_kept 261 = .ok (.invokestatic 132, 3) := by decide +kernel
theorem dL_kept_264 : decode cL_kept 264 = .ok (.iload 15, 2) := by decide +kernel
theorem dL_kept_266 : decode cL_kept 266 = .ok (.lshr, 1) := by decide +kernel
theorem dL_kept_267 : decode cL_kept 267 = .ok (.lconst 1, 1) := by decide +kernel
theorem dL_kept_268 : decode cL_kept 268 = .ok (.land, 1) := by decide +kernel
theorem dL_kept_269 : decode cL_kept 269 = .ok (.aload_n 0, 1) := by decide +kernel
theorem dL_kept_270 : decode cL_kept 270 = .ok (.iload 15, 2) := by decide +kernel
theorem dL_kept_272 : decode cL_kept 272 = .ok (.bipush 7, 2) := by decide +kernel
theorem dL_kept_274 : decode cL_kept 274 = .ok (.invokestatic 132, 3) := by decide +kernel
theorem dL_kept_277 : decode cL_kept 277 = .ok (.iload 14, 2) := by decide +kernel
theorem dL_kept_279 : decode cL_kept 279 = .ok (.lshr, 1) := by decide +kernel
theorem dL_kept_280 : decode cL_kept 280 = .ok (.lconst 1, 1) := by decide +kernel
theorem dL_kept_281 : decode cL_kept 281 = .ok (.land, 1) := by decide +kernel
theorem dL_kept_282 : decode cL_kept 282 = .ok (.lcmp, 1) := by decide +kernel
theorem dL_kept_283 : decode cL_kept 283 = .ok (.ifCond .ne 7, 3) := by decide +kernel
theorem dL_kept_286 : decode cL_kept 286 = .ok (.iconst 1, 1) := by decide +kernel
theorem dL_kept_287 : decode cL_kept 287 = .ok (.goto 4, 3) := by decide +kernel
theorem dL_kept_290 : decode cL_kept 290 = .ok (.iconst 0, 1) := by decide +kernel
theorem dL_kept_291 : decode cL_kept 291 = .ok (.istore 5, 2) := by decide +kernel
theorem dL_kept_293 : decode cL_kept 293 = .ok (.iinc 15 1, 3) := by decide +kernel
theorem dL_kept_296 : decode cL_kept 296 = .ok (.goto (-51), 3) := by decide +kernel
theorem dL_kept_299 : decode cL_kept 299 = .ok (.iconst 0, 1) := by decide +kernel
theorem dL_kept_300 : decode cL_kept 300 = .ok (.istore 15, 2) := by decide +kernel
theorem dL_kept_302 : decode cL_kept 302 = .ok (.iload 15, 2) := by decide +kernel
theorem dL_kept_304 : decode cL_kept 304 = .ok (.bipush 10, 2) := by decide +kernel
theorem dL_kept_306 : decode cL_kept 306 = .ok (.if_icmp .ge 49, 3) := by decide +kernel
theorem dL_kept_309 : decode cL_kept 309 = .ok (.iload 5, 2) := by decide +kernel
theorem dL_kept_311 : decode cL_kept 311 = .ok (.ifCond .eq 44, 3) := by decide +kernel
theorem dL_kept_314 : decode cL_kept 314 = .ok (.aload_n 0, 1) := by decide +kernel
theorem dL_kept_315 : decode cL_kept 315 = .ok (.iload 14, 2) := by decide +kernel
theorem dL_kept_317 : decode cL_kept 317 = .ok (.iconst 1, 1) := by decide +kernel
theorem dL_kept_318 : decode cL_kept 318 = .ok (.invokestatic 132, 3) := by decide +kernel
theorem dL_kept_321 : decode cL_kept 321 = .ok (.iload 15, 2) := by decide +kernel
theorem dL_kept_323 : decode cL_kept 323 = .ok (.lshr, 1) := by decide +kernel
theorem dL_kept_324 : decode cL_kept 324 = .ok (.lconst 1, 1) := by decide +kernel
theorem dL_kept_325 : decode cL_kept 325 = .ok (.land, 1) := by decide +kernel
theorem dL_kept_326 : decode cL_kept 326 = .ok (.aload_n 0, 1) := by decide +kernel
theorem dL_kept_327 : decode cL_kept 327 = .ok (.iload 15, 2) := by decide +kernel
theorem dL_kept_329 : decode cL_kept 329 = .ok (.iconst 4, 1) := by decide +kernel
theorem dL_kept_330 : decode cL_kept 330 = .ok (.invokestatic 135, 3) := by decide +kernel
theorem dL_kept_333 : decode cL_kept 333 = .ok (.iload 14, 2) := by decide +kernel
theorem dL_kept_335 : decode cL_kept 335 = .ok (.lshr, 1) := by decide +kernel
theorem dL_kept_336 : decode cL_kept 336 = .ok (.lconst 1, 1) := by decide +kernel
theorem dL_kept_337 : decode cL_kept 337 = .ok (.land, 1) := by decide +kernel
theorem dL_kept_338 : decode cL_kept 338 = .ok (.lcmp, 1) := by decide +kernel
theorem dL_kept_339 : decode cL_kept 339 = .ok (.ifCond .ne 7, 3) := by decide +kernel
theorem dL_kept_342 : decode cL_kept 342 = .ok (.iconst 1, 1) := by decide +kernel
theorem dL_kept_343 : decode cL_kept 343 = .ok (.goto 4, 3) := by decide +kernel
theorem dL_kept_346 : decode cL_kept 346 = .ok (.iconst 0, 1) := by decide +kernel
theorem dL_kept_347 : decode cL_kept 347 = .ok (.istore 5, 2) := by decide +kernel
theorem dL_kept_349 : decode cL_kept 349 = .ok (.iinc 15 1, 3) := by decide +kernel
theorem dL_kept_352 : decode cL_kept 352 = .ok (.goto (-50), 3) := by decide +kernel
theorem dL_kept_355 : decode cL_kept 355 = .ok (.iinc 14 1, 3) := by decide +kernel
theorem dL_kept_358 : decode cL_kept 358 = .ok (.goto (-257), 3) := by decide +kernel
theorem dL_kept_361 : decode cL_kept 361 = .ok (.lconst 0, 1) := by decide +kernel
theorem dL_kept_362 : decode cL_kept 362 = .ok (.lstore 14, 2) := by decide +kernel
theorem dL_kept_364 : decode cL_kept 364 = .ok (.lconst 0, 1) := by decide +kernel
theorem dL_kept_365 : decode cL_kept 365 = .ok (.lstore 16, 2) := by decide +kernel
theorem dL_kept_367 : decode cL_kept 367 = .ok (.iconst 0, 1) := by decide +kernel
theorem dL_kept_368 : decode cL_kept 368 = .ok (.istore 18, 2) := by decide +kernel
theorem dL_kept_370 : decode cL_kept 370 = .ok (.iload 18, 2) := by decide +kernel
theorem dL_kept_372 : decode cL_kept 372 = .ok (.bipush 10, 2) := by decide +kernel
theorem dL_kept_374 : decode cL_kept 374 = .ok (.if_icmp .ge 87, 3) := by decide +kernel
theorem dL_kept_377 : decode cL_kept 377 = .ok (.iload 5, 2) := by decide +kernel
theorem dL_kept_379 : decode cL_kept 379 = .ok (.ifCond .eq 82, 3) := by decide +kernel
theorem dL_kept_382 : decode cL_kept 382 = .ok (.lload 14, 2) := by decide +kernel
theorem dL_kept_384 : decode cL_kept 384 = .ok (.aload_n 0, 1) := by decide +kernel
theorem dL_kept_385 : decode cL_kept 385 = .ok (.iload 18, 2) := by decide +kernel
theorem dL_kept_387 : decode cL_kept 387 = .ok (.iconst 3, 1) := by decide +kernel
theorem dL_kept_388 : decode cL_kept 388 = .ok (.invokestatic 135, 3) := by decide +kernel
theorem dL_kept_391 : decode cL_kept 391 = .ok (.ladd, 1) := by decide +kernel
theorem dL_kept_392 : decode cL_kept 392 = .ok (.lstore 14, 2) := by decide +kernel
theorem dL_kept_394 : decode cL_kept 394 = .ok (.lload 16, 2) := by decide +kernel
