/-! scaffold -/
theorem dL_law_0 : decode cL_law 0 = .ok (.new 8, 3) := sorry
theorem dL_law_3 : decode cL_law 3 = .ok (.dup, 1) := sorry
theorem dL_law_4 : decode cL_law 4 = .ok (.invokespecial 113, 3) := sorry
theorem dL_law_7 : decode cL_law 7 = .ok (.astore_n 1, 1) := sorry
theorem dL_law_8 : decode cL_law 8 = .ok (.new 114, 3) := sorry
theorem dL_law_11 : decode cL_law 11 = .ok (.dup, 1) := sorry
theorem dL_law_12 : decode cL_law 12 = .ok (.invokespecial 116, 3) := sorry
theorem dL_law_15 : decode cL_law 15 = .ok (.astore_n 2, 1) := sorry
theorem dL_law_16 : decode cL_law 16 = .ok (.iconst 1, 1) := sorry
theorem dL_law_17 : decode cL_law 17 = .ok (.newarray .long, 2) := sorry
theorem dL_law_19 : decode cL_law 19 = .ok (.astore_n 3, 1) := sorry
theorem dL_law_20 : decode cL_law 20 = .ok (.iconst 0, 1) := sorry
theorem dL_law_21 : decode cL_law 21 = .ok (.istore 4, 2) := sorry
theorem dL_law_23 : decode cL_law 23 = .ok (.iload 4, 2) := sorry
theorem dL_law_25 : decode cL_law 25 = .ok (.aload_n 0, 1) := sorry
theorem dL_law_26 : decode cL_law 26 = .ok (.arraylength, 1) := sorry
theorem dL_law_27 : decode cL_law 27 = .ok (.iconst 5, 1) := sorry
theorem dL_law_28 : decode cL_law 28 = .ok (.isub, 1) := sorry
theorem dL_law_29 : decode cL_law 29 = .ok (.if_icmp .gt 2239, 3) := sorry
theorem dL_law_32 : decode cL_law 32 = .ok (.aload_n 0, 1) := sorry
theorem dL_law_33 : decode cL_law 33 = .ok (.iload 4, 2) := sorry
theorem dL_law_35 : decode cL_law 35 = .ok (.iaload, 1) := sorry
theorem dL_law_36 : decode cL_law 36 = .ok (.bipush 31, 2) := sorry
theorem dL_law_38 : decode cL_law 38 = .ok (.iand, 1) := sorry
theorem dL_law_39 : decode cL_law 39 = .ok (.tableswitch 2223 0 31 #[141, 197, 210, 223, 267, 323, 391, 459, 527, 595, 651, 707, 763, 831, 927, 1023, 1115, 1171, 1239, 1323, 1391, 1459, 1515, 1583, 1627, 1719, 1787, 1855, 1911, 2011, 2111, 2167], 141) := sorry
theorem dL_law_180 : decode cL_law 180 = .ok (.aload_n 1, 1) := sorry
theorem dL_law_181 : decode cL_law 181 = .ok (.aload_n 0, 1) := sorry
theorem dL_law_182 : decode cL_law 182 = .ok (.iload 4, 2) := sorry
theorem dL_law_184 : decode cL_law 184 = .ok (.iconst 1, 1) := sorry
theorem dL_law_185 : decode cL_law 185 = .ok (.iadd, 1) := sorry
theorem dL_law_186 : decode cL_law 186 = .ok (.iaload, 1) := sorry
theorem dL_law_187 : decode cL_law 187 = .ok (.aload_n 3, 1) := sorry
theorem dL_law_188 : decode cL_law 188 = .ok (.invokestatic 117, 3) := sorry
theorem dL_law_191 : decode cL_law 191 = .ok (.istore 5, 2) := sorry
theorem dL_law_193 : decode cL_law 193 = .ok (.aload_n 2, 1) := sorry
theorem dL_law_194 : decode cL_law 194 = .ok (.aload_n 0, 1) := sorry
theorem dL_law_195 : decode cL_law 195 = .ok (.iload 4, 2) := sorry
theorem dL_law_197 : decode cL_law 197 = .ok (.iconst 1, 1) := sorry
theorem dL_law_198 : decode cL_law 198 = .ok (.iadd, 1) := sorry
theorem dL_law_199 : decode cL_law 199 = .ok (.iaload, 1) := sorry
theorem dL_law_200 : decode cL_law 200 = .ok (.invokevirtual 122, 3) := sorry
theorem dL_law_203 : decode cL_law 203 = .ok (.istore 6, 2) := sorry
theorem dL_law_205 : decode cL_law 205 = .ok (.aload_n 2, 1) := sorry
theorem dL_law_206 : decode cL_law 206 = .ok (.invokevirtual 123, 3) := sorry
theorem dL_law_209 : decode cL_law 209 = .ok (.iload 5, 2) := sorry
theorem dL_law_211 : decode cL_law 211 = .ok (.if_icmp .eq 5, 3) := sorry
theorem dL_law_214 : decode cL_law 214 = .ok (.iconst 0, 1) := sorry
theorem dL_law_215 : decode cL_law 215 = .ok (.ireturn, 1) := sorry
theorem dL_law_216 : decode cL_law 216 = .ok (.iload 5, 2) := sorry
theorem dL_law_218 : decode cL_law 218 = .ok (.ifCond .ne 15, 3) := sorry
theorem dL_law_221 : decode cL_law 221 = .ok (.aload_n 3, 1) := sorry
theorem dL_law_222 : decode cL_law 222 = .ok (.iconst 0, 1) := sorry
theorem dL_law_223 : decode cL_law 223 = .ok (.laload, 1) := sorry
theorem dL_law_224 : decode cL_law 224 = .ok (.iload 6, 2) := sorry
theorem dL_law_226 : decode cL_law 226 = .ok (.i2l, 1) := sorry
theorem dL_law_227 : decode cL_law 227 = .ok (.lcmp, 1) := sorry
theorem dL_law_228 : decode cL_law 228 = .ok (.ifCond .eq 5, 3) := sorry
theorem dL_law_231 : decode cL_law 231 = .ok (.iconst 0, 1) := sorry
theorem dL_law_232 : decode cL_law 232 = .ok (.ireturn, 1) := sorry
theorem dL_law_233 : decode cL_law 233 = .ok (.goto 2029, 3) := sorry
theorem dL_law_236 : decode cL_law 236 = .ok (.aload_n 1, 1) := sorry
theorem dL_law_237 : decode cL_law 237 = .ok (.invokevirtual 126, 3) := sorry
theorem dL_law_240 : decode cL_law 240 = .ok (.aload_n 2, 1) := sorry
theorem dL_law_241 : decode cL_law 241 = .ok (.invokevirtual 129, 3) := sorry
theorem dL_law_244 : decode cL_law 244 = .ok (.if_icmp .eq 2018, 3) := sorry
theorem dL_law_247 : decode cL_law 247 = .ok (.iconst 0, 1) := sorry
theorem dL_law_248 : decode cL_law 248 = .ok (.ireturn, 1) := sorry
theorem dL_law_249 : decode cL_law 249 = .ok (.aload_n 1, 1) := sorry
theorem dL_law_250 : decode cL_law 250 = .ok (.invokevirtual 130, 3) := sorry
theorem dL_law_253 : decode cL_law 253 = .ok (.aload_n 2, 1) := sorry
theorem dL_law_254 : decode cL_law 254 = .ok (.invokevirtual 133, 3) := sorry
theorem dL_law_257 : decode cL_law 257 = .ok (.if_icmp .eq 2005, 3) := sorry
theorem dL_law_260 : decode cL_law 260 = .ok (.iconst 0, 1) := sorry
theorem dL_law_261 : decode cL_law 261 = .ok (.ireturn, 1) := sorry
theorem dL_law_262 : decode cL_law 262 = .ok (.aload_n 1, 1) := sorry
theorem dL_law_263 : decode cL_law 263 = .ok (.aload_n 3, 1) := sorry
theorem dL_law_264 : decode cL_law 264 = .ok (.invokestatic 134, 3) := sorry
theorem dL_law_267 : decode cL_law 267 = .ok (.istore 5, 2) := sorry
theorem dL_law_269 : decode cL_law 269 = .ok (.aload_n 2, 1) := sorry
theorem dL_law_270 : decode cL_law 270 = .ok (.invokevirtual 137, 3) := sorry
theorem dL_law_273 : decode cL_law 273 = .ok (.istore 6, 2) := sorry
theorem dL_law_275 : decode cL_law 275 = .ok (.aload_n 2, 1) := sorry
theorem dL_law_276 : decode cL_law 276 = .ok (.invokevirtual 123, 3) := sorry
theorem dL_law_279 : decode cL_law 279 = .ok (.iload 5, 2) := sorry
theorem dL_law_281 : decode cL_law 281 = .ok (.if_icmp .eq 5, 3) := sorry
theorem dL_law_284 : decode cL_law 284 = .ok (.iconst 0, 1) := sorry
theorem dL_law_285 : decode cL_law 285 = .ok (.ireturn, 1) := sorry
theorem dL_law_286 : decode cL_law 286 = .ok (.iload 5, 2) := sorry
theorem dL_law_288 : decode cL_law 288 = .ok (.ifCond .ne 15, 3) := sorry
theorem dL_law_291 : decode cL_law 291 = .ok (.aload_n 3, 1) := sorry
theorem dL_law_292 : decode cL_law 292 = .ok (.iconst 0, 1) := sorry
theorem dL_law_293 : decode cL_law 293 = .ok (.laload, 1) := sorry
theorem dL_law_294 : decode cL_law 294 = .ok (.iload 6, 2) := sorry
theorem dL_law_296 : decode cL_law 296 = .ok (.i2l, 1) := sorry
theorem dL_law_297 : decode cL_law 297 = .ok (.lcmp, 1) := sorry
theorem dL_law_298 : decode cL_law 298 = .ok (.ifCond .eq 5, 3) := sorry
theorem dL_law_301 : decode cL_law 301 = .ok (.iconst 0, 1) := sorry
theorem dL_law_302 : decode cL_law 302 = .ok (.ireturn, 1) := sorry
theorem dL_law_303 : decode cL_law 303 = .ok (.goto 1959, 3) := sorry
theorem dL_law_306 : decode cL_law 306 = .ok (.aload_n 1, 1) := sorry
theorem dL_law_307 : decode cL_law 307 = .ok (.aload_n 0, 1) := sorry
theorem dL_law_308 : decode cL_law 308 = .ok (.iload 4, 2) := sorry
theorem dL_law_310 : decode cL_law 310 = .ok (.iconst 1, 1) := sorry
theorem dL_law_311 : decode cL_law 311 = .ok (.iadd, 1) := sorry
theorem dL_law_312 : decode cL_law 312 = .ok (.iaload, 1) := sorry
theorem dL_law_313 : decode cL_law 313 = .ok (.aload_n 3, 1) := sorry
theorem dL_law_314 : decode cL_law 314 = .ok (.invokestatic 138, 3) := sorry
theorem dL_law_317 : decode cL_law 317 = .ok (.istore 5, 2) := sorry
theorem dL_law_319 : decode cL_law 319 = .ok (.aload_n 2, 1) := sorry
theorem dL_law_320 : decode cL_law 320 = .ok (.aload_n 0, 1) := sorry
theorem dL_law_321 : decode cL_law 321 = .ok (.iload 4, 2) := sorry
theorem dL_law_323 : decode cL_law 323 = .ok (.iconst 1, 1) := sorry
theorem dL_law_324 : decode cL_law 324 = .ok (.iadd, 1) := sorry
theorem dL_law_325 : decode cL_law 325 = .ok (.iaload, 1) := sorry
theorem dL_law_326 : decode cL_law 326 = .ok (.invokevirtual 140, 3) := sorry
theorem dL_law_329 : decode cL_law 329 = .ok (.istore 6, 2) := sorry
theorem dL_law_331 : decode cL_law 331 = .ok (.aload_n 2, 1) := sorry
theorem dL_law_332 : decode cL_law 332 = .ok (.invokevirtual 123, 3) := sorry
theorem dL_law_335 : decode cL_law 335 = .ok (.iload 5, 2) := sorry
theorem dL_law_337 : decode cL_law 337 = .ok (.if_icmp .eq 5, 3) := sorry
theorem dL_law_340 : decode cL_law 340 = .ok (.iconst 0, 1) := sorry
theorem dL_law_341 : decode cL_law 341 = .ok (.ireturn, 1) := sorry
theorem dL_law_342 : decode cL_law 342 = .ok (.iload 5, 2) := sorry
theorem dL_law_344 : decode cL_law 344 = .ok (.ifCond .ne 15, 3) := sorry
theorem dL_law_347 : decode cL_law 347 = .ok (.aload_n 3, 1) := sorry
theorem dL_law_348 : decode cL_law 348 = .ok (.iconst 0, 1) := sorry
theorem dL_law_349 : decode cL_law 349 = .ok (.laload, 1) := sorry
theorem dL_law_350 : decode cL_law 350 = .ok (.iload 6, 2) := sorry
theorem dL_law_352 : decode cL_law 352 = .ok (.i2l, 1) := sorry
theorem dL_law_353 : decode cL_law 353 = .ok (.lcmp, 1) := sorry
theorem dL_law_354 : decode cL_law 354 = .ok (.ifCond .eq 5, 3) := sorry
theorem dL_law_357 : decode cL_law 357 = .ok (.iconst 0, 1) := sorry
theorem dL_law_358 : decode cL_law 358 = .ok (.ireturn, 1) := sorry
theorem dL_law_359 : decode cL_law 359 = .ok (.goto 1903, 3) := sorry
theorem dL_law_362 : decode cL_law 362 = .ok (.aload_n 1, 1) := sorry
theorem dL_law_363 : decode cL_law 363 = .ok (.aload_n 0, 1) := sorry
theorem dL_law_364 : decode cL_law 364 = .ok (.iload 4, 2) := sorry
theorem dL_law_366 : decode cL_law 366 = .ok (.iconst 1, 1) := sorry
theorem dL_law_367 : decode cL_law 367 = .ok (.iadd, 1) := sorry
theorem dL_law_368 : decode cL_law 368 = .ok (.iaload, 1) := sorry
theorem dL_law_369 : decode cL_law 369 = .ok (.aload_n 0, 1) := sorry
theorem dL_law_370 : decode cL_law 370 = .ok (.iload 4, 2) := sorry
theorem dL_law_372 : decode cL_law 372 = .ok (.iconst 2, 1) := sorry
theorem dL_law_373 : decode cL_law 373 = .ok (.iadd, 1) := sorry
theorem dL_law_374 : decode cL_law 374 = .ok (.iaload, 1) := sorry
theorem dL_law_375 : decode cL_law 375 = .ok (.aload_n 3, 1) := sorry
theorem dL_law_376 : decode cL_law 376 = .ok (.invokestatic 141, 3) := sorry
theorem dL_law_379 : decode cL_law 379 = .ok (.istore 5, 2) := sorry
theorem dL_law_381 : decode cL_law 381 = .ok (.aload_n 2, 1) := sorry
theorem dL_law_382 : decode cL_law 382 = .ok (.aload_n 0, 1) := sorry
theorem dL_law_383 : decode cL_law 383 = .ok (.iload 4, 2) := sorry
theorem dL_law_385 : decode cL_law 385 = .ok (.iconst 1, 1) := sorry
theorem dL_law_386 : decode cL_law 386 = .ok (.iadd, 1) := sorry
theorem dL_law_387 : decode cL_law 387 = .ok (.iaload, 1) := sorry
theorem dL_law_388 : decode cL_law 388 = .ok (.aload_n 0, 1) := sorry
theorem dL_law_389 : decode cL_law 389 = .ok (.iload 4, 2) := sorry
theorem dL_law_391 : decode cL_law 391 = .ok (.iconst 2, 1) := sorry
theorem dL_law_392 : decode cL_law 392 = .ok (.iadd, 1) := sorry
theorem dL_law_393 : decode cL_law 393 = .ok (.iaload, 1) := sorry
theorem dL_law_394 : decode cL_law 394 = .ok (.invokevirtual 144, 3) := sorry
theorem dL_law_397 : decode cL_law 397 = .ok (.istore 6, 2) := sorry
theorem dL_law_399 : decode cL_law 399 = .ok (.aload_n 2, 1) := sorry
theorem dL_law_400 : decode cL_law 400 = .ok (.invokevirtual 123, 3) := sorry
theorem dL_law_403 : decode cL_law 403 = .ok (.iload 5, 2) := sorry
theorem dL_law_405 : decode cL_law 405 = .ok (.if_icmp .eq 5, 3) := sorry
theorem dL_law_408 : decode cL_law 408 = .ok (.iconst 0, 1) := sorry
theorem dL_law_409 : decode cL_law 409 = .ok (.ireturn, 1) := sorry
theorem dL_law_410 : decode cL_law 410 = .ok (.iload 5, 2) := sorry
theorem dL_law_412 : decode cL_law 412 = .ok (.ifCond .ne 15, 3) := sorry
theorem dL_law_415 : decode cL_law 415 = .ok (.aload_n 3, 1) := sorry
theorem dL_law_416 : decode cL_law 416 = .ok (.iconst 0, 1) := sorry
theorem dL_law_417 : decode cL_law 417 = .ok (.laload, 1) := sorry
theorem dL_law_418 : decode cL_law 418 = .ok (.iload 6, 2) := sorry
theorem dL_law_420 : decode cL_law 420 = .ok (.i2l, 1) := sorry
theorem dL_law_421 : decode cL_law 421 = .ok (.lcmp, 1) := sorry
theorem dL_law_422 : decode cL_law 422 = .ok (.ifCond .eq 5, 3) := sorry
theorem dL_law_425 : decode cL_law 425 = .ok (.iconst 0, 1) := sorry
theorem dL_law_426 : decode cL_law 426 = .ok (.ireturn, 1) := sorry
theorem dL_law_427 : decode cL_law 427 = .ok (.goto 1835, 3) := sorry
theorem dL_law_430 : decode cL_law 430 = .ok (.aload_n 1, 1) := sorry
theorem dL_law_431 : decode cL_law 431 = .ok (.aload_n 0, 1) := sorry
theorem dL_law_432 : decode cL_law 432 = .ok (.iload 4, 2) := sorry
theorem dL_law_434 : decode cL_law 434 = .ok (.iconst 1, 1) := sorry
theorem dL_law_435 : decode cL_law 435 = .ok (.iadd, 1) := sorry
theorem dL_law_436 : decode cL_law 436 = .ok (.iaload, 1) := sorry
theorem dL_law_437 : decode cL_law 437 = .ok (.aload_n 0, 1) := sorry
theorem dL_law_438 : decode cL_law 438 = .ok (.iload 4, 2) := sorry
theorem dL_law_440 : decode cL_law 440 = .ok (.iconst 2, 1) := sorry
theorem dL_law_441 : decode cL_law 441 = .ok (.iadd, 1) := sorry
theorem dL_law_442 : decode cL_law 442 = .ok (.iaload, 1) := sorry
theorem dL_law_443 : decode cL_law 443 = .ok (.aload_n 3, 1) := sorry
theorem dL_law_444 : decode cL_law 444 = .ok (.invokestatic 145, 3) := sorry
theorem dL_law_447 : decode cL_law 447 = .ok (.istore 5, 2) := sorry
theorem dL_law_449 : decode cL_law 449 = .ok (.aload_n 2, 1) := sorry
theorem dL_law_450 : decode cL_law 450 = .ok (.aload_n 0, 1) := sorry
theorem dL_law_451 : decode cL_law 451 = .ok (.iload 4, 2) := sorry
theorem dL_law_453 : decode cL_law 453 = .ok (.iconst 1, 1) := sorry
theorem dL_law_454 : decode cL_law 454 = .ok (.iadd, 1) := sorry
theorem dL_law_455 : decode cL_law 455 = .ok (.iaload, 1) := sorry
theorem dL_law_456 : decode cL_law 456 = .ok (.aload_n 0, 1) := sorry
theorem dL_law_457 : decode cL_law 457 = .ok (.iload 4, 2) := sorry
theorem dL_law_459 : decode cL_law 459 = .ok (.iconst 2, 1) := sorry
theorem dL_law_460 : decode cL_law 460 = .ok (.iadd, 1) := sorry
theorem dL_law_461 : decode cL_law 461 = .ok (.iaload, 1) := sorry
theorem dL_law_462 : decode cL_law 462 = .ok (.invokevirtual 147, 3) := sorry
theorem dL_law_465 : decode cL_law 465 = .ok (.istore 6, 2) := sorry
theorem dL_law_467 : decode cL_law 467 = .ok (.aload_n 2, 1) := sorry
theorem dL_law_468 : decode cL_law 468 = .ok (.invokevirtual 123, 3) := sorry
theorem dL_law_471 : decode cL_law 471 = .ok (.iload 5, 2) := sorry
theorem dL_law_473 : decode cL_law 473 = .ok (.if_icmp .eq 5, 3) := sorry
theorem dL_law_476 : decode cL_law 476 = .ok (.iconst 0, 1) := sorry
theorem dL_law_477 : decode cL_law 477 = .ok (.ireturn, 1) := sorry
theorem dL_law_478 : decode cL_law 478 = .ok (.iload 5, 2) := sorry
theorem dL_law_480 : decode cL_law 480 = .ok (.ifCond .ne 15, 3) := sorry
theorem dL_law_483 : decode cL_law 483 = .ok (.aload_n 3, 1) := sorry
theorem dL_law_484 : decode cL_law 484 = .ok (.iconst 0, 1) := sorry
theorem dL_law_485 : decode cL_law 485 = .ok (.laload, 1) := sorry
theorem dL_law_486 : decode cL_law 486 = .ok (.iload 6, 2) := sorry
theorem dL_law_488 : decode cL_law 488 = .ok (.i2l, 1) := sorry
theorem dL_law_489 : decode cL_law 489 = .ok (.lcmp, 1) := sorry
theorem dL_law_490 : decode cL_law 490 = .ok (.ifCond .eq 5, 3) := sorry
theorem dL_law_493 : decode cL_law 493 = .ok (.iconst 0, 1) := sorry
theorem dL_law_494 : decode cL_law 494 = .ok (.ireturn, 1) := sorry
theorem dL_law_495 : decode cL_law 495 = .ok (.goto 1767, 3) := sorry
theorem dL_law_498 : decode cL_law 498 = .ok (.aload_n 1, 1) := sorry
theorem dL_law_499 : decode cL_law 499 = .ok (.aload_n 0, 1) := sorry
theorem dL_law_500 : decode cL_law 500 = .ok (.iload 4, 2) := sorry
theorem dL_law_502 : decode cL_law 502 = .ok (.iconst 1, 1) := sorry
theorem dL_law_503 : decode cL_law 503 = .ok (.iadd, 1) := sorry
theorem dL_law_504 : decode cL_law 504 = .ok (.iaload, 1) := sorry
theorem dL_law_505 : decode cL_law 505 = .ok (.aload_n 0, 1) := sorry
theorem dL_law_506 : decode cL_law 506 = .ok (.iload 4, 2) := sorry
theorem dL_law_508 : decode cL_law 508 = .ok (.iconst 2, 1) := sorry
theorem dL_law_509 : decode cL_law 509 = .ok (.iadd, 1) := sorry
theorem dL_law_510 : decode cL_law 510 = .ok (.iaload, 1) := sorry
theorem dL_law_511 : decode cL_law 511 = .ok (.aload_n 3, 1) := sorry
theorem dL_law_512 : decode cL_law 512 = .ok (.invokestatic 148, 3) := sorry
theorem dL_law_515 : decode cL_law 515 = .ok (.istore 5, 2) := sorry
theorem dL_law_517 : decode cL_law 517 = .ok (.aload_n 2, 1) := sorry
theorem dL_law_518 : decode cL_law 518 = .ok (.aload_n 0, 1) := sorry
theorem dL_law_519 : decode cL_law 519 = .ok (.iload 4, 2) := sorry
theorem dL_law_521 : decode cL_law 521 = .ok (.iconst 1, 1) := sorry
theorem dL_law_522 : decode cL_law 522 = .ok (.iadd, 1) := sorry
theorem dL_law_523 : decode cL_law 523 = .ok (.iaload, 1) := sorry
theorem dL_law_524 : decode cL_law 524 = .ok (.aload_n 0, 1) := sorry
theorem dL_law_525 : decode cL_law 525 = .ok (.iload 4, 2) := sorry
theorem dL_law_527 : decode cL_law 527 = .ok (.iconst 2, 1) := sorry
theorem dL_law_528 : decode cL_law 528 = .ok (.iadd, 1) := sorry
theorem dL_law_529 : decode cL_law 529 = .ok (.iaload, 1) := sorry
theorem dL_law_530 : decode cL_law 530 = .ok (.invokevirtual 150, 3) := sorry
theorem dL_law_533 : decode cL_law 533 = .ok (.istore 6, 2) := sorry
theorem dL_law_535 : decode cL_law 535 = .ok (.aload_n 2, 1) := sorry
theorem dL_law_536 : decode cL_law 536 = .ok (.invokevirtual 123, 3) := sorry
theorem dL_law_539 : decode cL_law 539 = .ok (.iload 5, 2) := sorry
theorem dL_law_541 : decode cL_law 541 = .ok (.if_icmp .eq 5, 3) := sorry
theorem dL_law_544 : decode cL_law 544 = .ok (.iconst 0, 1) := sorry
theorem dL_law_545 : decode cL_law 545 = .ok (.ireturn, 1) := sorry
theorem dL_law_546 : decode cL_law 546 = .ok (.iload 5, 2) := sorry
theorem dL_law_548 : decode cL_law 548 = .ok (.ifCond .ne 15, 3) := sorry
theorem dL_law_551 : decode cL_law 551 = .ok (.aload_n 3, 1) := sorry
theorem dL_law_552 : decode cL_law 552 = .ok (.iconst 0, 1) := sorry
theorem dL_law_553 : decode cL_law 553 = .ok (.laload, 1) := sorry
theorem dL_law_554 : decode cL_law 554 = .ok (.iload 6, 2) := sorry
theorem dL_law_556 : decode cL_law 556 = .ok (.i2l, 1) := sorry
theorem dL_law_557 : decode cL_law 557 = .ok (.lcmp, 1) := sorry
theorem dL_law_558 : decode cL_law 558 = .ok (.ifCond .eq 5, 3) := sorry
theorem dL_law_561 : decode cL_law 561 = .ok (.iconst 0, 1) := sorry
theorem dL_law_562 : decode cL_law 562 = .ok (.ireturn, 1) := sorry
theorem dL_law_563 : decode cL_law 563 = .ok (.goto 1699, 3) := sorry
theorem dL_law_566 : decode cL_law 566 = .ok (.aload_n 1, 1) := sorry
theorem dL_law_567 : decode cL_law 567 = .ok (.aload_n 0, 1) := sorry
theorem dL_law_568 : decode cL_law 568 = .ok (.iload 4, 2) := sorry
theorem dL_law_570 : decode cL_law 570 = .ok (.iconst 1, 1) := sorry
theorem dL_law_571 : decode cL_law 571 = .ok (.iadd, 1) := sorry
theorem dL_law_572 : decode cL_law 572 = .ok (.iaload, 1) := sorry
theorem dL_law_573 : decode cL_law 573 = .ok (.aload_n 0, 1) := sorry
theorem dL_law_574 : decode cL_law 574 = .ok (.iload 4, 2) := sorry
theorem dL_law_576 : decode cL_law 576 = .ok (.iconst 2, 1) := sorry
theorem dL_law_577 : decode cL_law 577 = .ok (.iadd, 1) := sorry
theorem dL_law_578 : decode cL_law 578 = .ok (.iaload, 1) := sorry
theorem dL_law_579 : decode cL_law 579 = .ok (.aload_n 3, 1) := sorry
theorem dL_law_580 : decode cL_law 580 = .ok (.invokestatic 151, 3) := sorry
theorem dL_law_583 : decode cL_law 583 = .ok (.istore 5, 2) := sorry
theorem dL_law_585 : decode cL_law 585 = .ok (.aload_n 2, 1) := sorry
theorem dL_law_586 : decode cL_law 586 = .ok (.aload_n 0, 1) := sorry
theorem dL_law_587 : decode cL_law 587 = .ok (.iload 4, 2) := sorry
theorem dL_law_589 : decode cL_law 589 = .ok (.iconst 1, 1) := sorry
theorem dL_law_590 : decode cL_law 590 = .ok (.iadd, 1) := sorry
theorem dL_law_591 : decode cL_law 591 = .ok (.iaload, 1) := sorry
theorem dL_law_592 : decode cL_law 592 = .ok (.aload_n 0, 1) := sorry
theorem dL_law_593 : decode cL_law 593 = .ok (.iload 4, 2) := sorry
theorem dL_law_595 : decode cL_law 595 = .ok (.iconst 2, 1) := sorry
theorem dL_law_596 : decode cL_law 596 = .ok (.iadd, 1) := sorry
theorem dL_law_597 : decode cL_law 597 = .ok (.iaload, 1) := sorry
theorem dL_law_598 : decode cL_law 598 = .ok (.invokevirtual 153, 3) := sorry
theorem dL_law_601 : decode cL_law 601 = .ok (.istore 6, 2) := sorry
theorem dL_law_603 : decode cL_law 603 = .ok (.aload_n 2, 1) := sorry
theorem dL_law_604 : decode cL_law 604 = .ok (.invokevirtual 123, 3) := sorry
theorem dL_law_607 : decode cL_law 607 = .ok (.iload 5, 2) := sorry
theorem dL_law_609 : decode cL_law 609 = .ok (.if_icmp .eq 5, 3) := sorry
theorem dL_law_612 : decode cL_law 612 = .ok (.iconst 0, 1) := sorry
theorem dL_law_613 : decode cL_law 613 = .ok (.ireturn, 1) := sorry
theorem dL_law_614 : decode cL_law 614 = .ok (.iload 5, 2) := sorry
theorem dL_law_616 : decode cL_law 616 = .ok (.ifCond .ne 15, 3) := sorry
theorem dL_law_619 : decode cL_law 619 = .ok (.aload_n 3, 1) := sorry
theorem dL_law_620 : decode cL_law 620 = .ok (.iconst 0, 1) := sorry
theorem dL_law_621 : decode cL_law 621 = .ok (.laload, 1) := sorry
theorem dL_law_622 : decode cL_law 622 = .ok (.iload 6, 2) := sorry
theorem dL_law_624 : decode cL_law 624 = .ok (.i2l, 1) := sorry
theorem dL_law_625 : decode cL_law 625 = .ok (.lcmp, 1) := sorry
theorem dL_law_626 : decode cL_law 626 = .ok (.ifCond .eq 5, 3) := sorry
theorem dL_law_629 : decode cL_law 629 = .ok (.iconst 0, 1) := sorry
theorem dL_law_630 : decode cL_law 630 = .ok (.ireturn, 1) := sorry
theorem dL_law_631 : decode cL_law 631 = .ok (.goto 1631, 3) := sorry
theorem dL_law_634 : decode cL_law 634 = .ok (.aload_n 1, 1) := sorry
theorem dL_law_635 : decode cL_law 635 = .ok (.aload_n 0, 1) := sorry
theorem dL_law_636 : decode cL_law 636 = .ok (.iload 4, 2) := sorry
theorem dL_law_638 : decode cL_law 638 = .ok (.iconst 1, 1) := sorry
theorem dL_law_639 : decode cL_law 639 = .ok (.iadd, 1) := sorry
theorem dL_law_640 : decode cL_law 640 = .ok (.iaload, 1) := sorry
theorem dL_law_641 : decode cL_law 641 = .ok (.aload_n 3, 1) := sorry
theorem dL_law_642 : decode cL_law 642 = .ok (.invokestatic 154, 3) := sorry
theorem dL_law_645 : decode cL_law 645 = .ok (.istore 5, 2) := sorry
theorem dL_law_647 : decode cL_law 647 = .ok (.aload_n 2, 1) := sorry
theorem dL_law_648 : decode cL_law 648 = .ok (.aload_n 0, 1) := sorry
theorem dL_law_649 : decode cL_law 649 = .ok (.iload 4, 2) := sorry
theorem dL_law_651 : decode cL_law 651 = .ok (.iconst 1, 1) := sorry
theorem dL_law_652 : decode cL_law 652 = .ok (.iadd, 1) := sorry
theorem dL_law_653 : decode cL_law 653 = .ok (.iaload, 1) := sorry
theorem dL_law_654 : decode cL_law 654 = .ok (.invokevirtual 156, 3) := sorry
theorem dL_law_657 : decode cL_law 657 = .ok (.istore 6, 2) := sorry
theorem dL_law_659 : decode cL_law 659 = .ok (.aload_n 2, 1) := sorry
theorem dL_law_660 : decode cL_law 660 = .ok (.invokevirtual 123, 3) := sorry
theorem dL_law_663 : decode cL_law 663 = .ok (.iload 5, 2) := sorry
theorem dL_law_665 : decode cL_law 665 = .ok (.if_icmp .eq 5, 3) := sorry
theorem dL_law_668 : decode cL_law 668 = .ok (.iconst 0, 1) := sorry
theorem dL_law_669 : decode cL_law 669 = .ok (.ireturn, 1) := sorry
theorem dL_law_670 : decode cL_law 670 = .ok (.iload 5, 2) := sorry
theorem dL_law_672 : decode cL_law 672 = .ok (.ifCond .ne 15, 3) := sorry
theorem dL_law_675 : decode cL_law 675 = .ok (.aload_n 3, 1) := sorry
theorem dL_law_676 : decode cL_law 676 = .ok (.iconst 0, 1) := sorry
theorem dL_law_677 : decode cL_law 677 = .ok (.laload, 1) := sorry
theorem dL_law_678 : decode cL_law 678 = .ok (.iload 6, 2) := sorry
theorem dL_law_680 : decode cL_law 680 = .ok (.i2l, 1) := sorry
theorem dL_law_681 : decode cL_law 681 = .ok (.lcmp, 1) := sorry
theorem dL_law_682 : decode cL_law 682 = .ok (.ifCond .eq 5, 3) := sorry
theorem dL_law_685 : decode cL_law 685 = .ok (.iconst 0, 1) := sorry
theorem dL_law_686 : decode cL_law 686 = .ok (.ireturn, 1) := sorry
theorem dL_law_687 : decode cL_law 687 = .ok (.goto 1575, 3) := sorry
theorem dL_law_690 : decode cL_law 690 = .ok (.aload_n 1, 1) := sorry
theorem dL_law_691 : decode cL_law 691 = .ok (.aload_n 0, 1) := sorry
theorem dL_law_692 : decode cL_law 692 = .ok (.iload 4, 2) := sorry
theorem dL_law_694 : decode cL_law 694 = .ok (.iconst 1, 1) := sorry
theorem dL_law_695 : decode cL_law 695 = .ok (.iadd, 1) := sorry
theorem dL_law_696 : decode cL_law 696 = .ok (.iaload, 1) := sorry
theorem dL_law_697 : decode cL_law 697 = .ok (.aload_n 3, 1) := sorry
theorem dL_law_698 : decode cL_law 698 = .ok (.invokestatic 157, 3) := sorry
theorem dL_law_701 : decode cL_law 701 = .ok (.istore 5, 2) := sorry
theorem dL_law_703 : decode cL_law 703 = .ok (.aload_n 2, 1) := sorry
theorem dL_law_704 : decode cL_law 704 = .ok (.aload_n 0, 1) := sorry
theorem dL_law_705 : decode cL_law 705 = .ok (.iload 4, 2) := sorry
theorem dL_law_707 : decode cL_law 707 = .ok (.iconst 1, 1) := sorry
theorem dL_law_708 : decode cL_law 708 = .ok (.iadd, 1) := sorry
theorem dL_law_709 : decode cL_law 709 = .ok (.iaload, 1) := sorry
theorem dL_law_710 : decode cL_law 710 = .ok (.invokevirtual 159, 3) := sorry
theorem dL_law_713 : decode cL_law 713 = .ok (.istore 6, 2) := sorry
theorem dL_law_715 : decode cL_law 715 = .ok (.aload_n 2, 1) := sorry
theorem dL_law_716 : decode cL_law 716 = .ok (.invokevirtual 123, 3) := sorry
theorem dL_law_719 : decode cL_law 719 = .ok (.iload 5, 2) := sorry
theorem dL_law_721 : decode cL_law 721 = .ok (.if_icmp .eq 5, 3) := sorry
theorem dL_law_724 : decode cL_law 724 = .ok (.iconst 0, 1) := sorry
theorem dL_law_725 : decode cL_law 725 = .ok (.ireturn, 1) := sorry
theorem dL_law_726 : decode cL_law 726 = .ok (.iload 5, 2) := sorry
theorem dL_law_728 : decode cL_law 728 = .ok (.ifCond .ne 15, 3) := sorry
theorem dL_law_731 : decode cL_law 731 = .ok (.aload_n 3, 1) := sorry
theorem dL_law_732 : decode cL_law 732 = .ok (.iconst 0, 1) := sorry
theorem dL_law_733 : decode cL_law 733 = .ok (.laload, 1) := sorry
theorem dL_law_734 : decode cL_law 734 = .ok (.iload 6, 2) := sorry
theorem dL_law_736 : decode cL_law 736 = .ok (.i2l, 1) := sorry
theorem dL_law_737 : decode cL_law 737 = .ok (.lcmp, 1) := sorry
theorem dL_law_738 : decode cL_law 738 = .ok (.ifCond .eq 5, 3) := sorry
theorem dL_law_741 : decode cL_law 741 = .ok (.iconst 0, 1) := sorry
theorem dL_law_742 : decode cL_law 742 = .ok (.ireturn, 1) := sorry
theorem dL_law_743 : decode cL_law 743 = .ok (.goto 1519, 3) := sorry
theorem dL_law_746 : decode cL_law 746 = .ok (.aload_n 1, 1) := sorry
theorem dL_law_747 : decode cL_law 747 = .ok (.aload_n 0, 1) := sorry
theorem dL_law_748 : decode cL_law 748 = .ok (.iload 4, 2) := sorry
theorem dL_law_750 : decode cL_law 750 = .ok (.iconst 1, 1) := sorry
theorem dL_law_751 : decode cL_law 751 = .ok (.iadd, 1) := sorry
theorem dL_law_752 : decode cL_law 752 = .ok (.iaload, 1) := sorry
theorem dL_law_753 : decode cL_law 753 = .ok (.aload_n 3, 1) := sorry
theorem dL_law_754 : decode cL_law 754 = .ok (.invokestatic 160, 3) := sorry
theorem dL_law_757 : decode cL_law 757 = .ok (.istore 5, 2) := sorry
theorem dL_law_759 : decode cL_law 759 = .ok (.aload_n 2, 1) := sorry
theorem dL_law_760 : decode cL_law 760 = .ok (.aload_n 0, 1) := sorry
theorem dL_law_761 : decode cL_law 761 = .ok (.iload 4, 2) := sorry
theorem dL_law_763 : decode cL_law 763 = .ok (.iconst 1, 1) := sorry
theorem dL_law_764 : decode cL_law 764 = .ok (.iadd, 1) := sorry
theorem dL_law_765 : decode cL_law 765 = .ok (.iaload, 1) := sorry
theorem dL_law_766 : decode cL_law 766 = .ok (.invokevirtual 162, 3) := sorry
theorem dL_law_769 : decode cL_law 769 = .ok (.istore 6, 2) := sorry
theorem dL_law_771 : decode cL_law 771 = .ok (.aload_n 2, 1) := sorry
theorem dL_law_772 : decode cL_law 772 = .ok (.invokevirtual 123, 3) := sorry
theorem dL_law_775 : decode cL_law 775 = .ok (.iload 5, 2) := sorry
theorem dL_law_777 : decode cL_law 777 = .ok (.if_icmp .eq 5, 3) := sorry
theorem dL_law_780 : decode cL_law 780 = .ok (.iconst 0, 1) := sorry
theorem dL_law_781 : decode cL_law 781 = .ok (.ireturn, 1) := sorry
theorem dL_law_782 : decode cL_law 782 = .ok (.iload 5, 2) := sorry
theorem dL_law_784 : decode cL_law 784 = .ok (.ifCond .ne 15, 3) := sorry
theorem dL_law_787 : decode cL_law 787 = .ok (.aload_n 3, 1) := sorry
theorem dL_law_788 : decode cL_law 788 = .ok (.iconst 0, 1) := sorry
theorem dL_law_789 : decode cL_law 789 = .ok (.laload, 1) := sorry
theorem dL_law_790 : decode cL_law 790 = .ok (.iload 6, 2) := sorry
theorem dL_law_792 : decode cL_law 792 = .ok (.i2l, 1) := sorry
theorem dL_law_793 : decode cL_law 793 = .ok (.lcmp, 1) := sorry
theorem dL_law_794 : decode cL_law 794 = .ok (.ifCond .eq 5, 3) := sorry
theorem dL_law_797 : decode cL_law 797 = .ok (.iconst 0, 1) := sorry
theorem dL_law_798 : decode cL_law 798 = .ok (.ireturn, 1) := sorry
theorem dL_law_799 : decode cL_law 799 = .ok (.goto 1463, 3) := sorry
theorem dL_law_802 : decode cL_law 802 = .ok (.aload_n 1, 1) := sorry
theorem dL_law_803 : decode cL_law 803 = .ok (.aload_n 0, 1) := sorry
theorem dL_law_804 : decode cL_law 804 = .ok (.iload 4, 2) := sorry
theorem dL_law_806 : decode cL_law 806 = .ok (.iconst 1, 1) := sorry
theorem dL_law_807 : decode cL_law 807 = .ok (.iadd, 1) := sorry
theorem dL_law_808 : decode cL_law 808 = .ok (.iaload, 1) := sorry
theorem dL_law_809 : decode cL_law 809 = .ok (.aload_n 0, 1) := sorry
theorem dL_law_810 : decode cL_law 810 = .ok (.iload 4, 2) := sorry
theorem dL_law_812 : decode cL_law 812 = .ok (.iconst 2, 1) := sorry
theorem dL_law_813 : decode cL_law 813 = .ok (.iadd, 1) := sorry
theorem dL_law_814 : decode cL_law 814 = .ok (.iaload, 1) := sorry
theorem dL_law_815 : decode cL_law 815 = .ok (.aload_n 3, 1) := sorry
theorem dL_law_816 : decode cL_law 816 = .ok (.invokestatic 163, 3) := sorry
theorem dL_law_819 : decode cL_law 819 = .ok (.istore 5, 2) := sorry
theorem dL_law_821 : decode cL_law 821 = .ok (.aload_n 2, 1) := sorry
theorem dL_law_822 : decode cL_law 822 = .ok (.aload_n 0, 1) := sorry
theorem dL_law_823 : decode cL_law 823 = .ok (.iload 4, 2) := sorry
theorem dL_law_825 : decode cL_law 825 = .ok (.iconst 1, 1) := sorry
theorem dL_law_826 : decode cL_law 826 = .ok (.iadd, 1) := sorry
theorem dL_law_827 : decode cL_law 827 = .ok (.iaload, 1) := sorry
theorem dL_law_828 : decode cL_law 828 = .ok (.aload_n 0, 1) := sorry
theorem dL_law_829 : decode cL_law 829 = .ok (.iload 4, 2) := sorry
theorem dL_law_831 : decode cL_law 831 = .ok (.iconst 2, 1) := sorry
theorem dL_law_832 : decode cL_law 832 = .ok (.iadd, 1) := sorry
theorem dL_law_833 : decode cL_law 833 = .ok (.iaload, 1) := sorry
theorem dL_law_834 : decode cL_law 834 = .ok (.invokevirtual 165, 3) := sorry
theorem dL_law_837 : decode cL_law 837 = .ok (.istore 6, 2) := sorry
theorem dL_law_839 : decode cL_law 839 = .ok (.aload_n 2, 1) := sorry
theorem dL_law_840 : decode cL_law 840 = .ok (.invokevirtual 123, 3) := sorry
theorem dL_law_843 : decode cL_law 843 = .ok (.iload 5, 2) := sorry
theorem dL_law_845 : decode cL_law 845 = .ok (.if_icmp .eq 5, 3) := sorry
theorem dL_law_848 : decode cL_law 848 = .ok (.iconst 0, 1) := sorry
theorem dL_law_849 : decode cL_law 849 = .ok (.ireturn, 1) := sorry
theorem dL_law_850 : decode cL_law 850 = .ok (.iload 5, 2) := sorry
theorem dL_law_852 : decode cL_law 852 = .ok (.ifCond .ne 15, 3) := sorry
theorem dL_law_855 : decode cL_law 855 = .ok (.aload_n 3, 1) := sorry
theorem dL_law_856 : decode cL_law 856 = .ok (.iconst 0, 1) := sorry
theorem dL_law_857 : decode cL_law 857 = .ok (.laload, 1) := sorry
theorem dL_law_858 : decode cL_law 858 = .ok (.iload 6, 2) := sorry
theorem dL_law_860 : decode cL_law 860 = .ok (.i2l, 1) := sorry
theorem dL_law_861 : decode cL_law 861 = .ok (.lcmp, 1) := sorry
theorem dL_law_862 : decode cL_law 862 = .ok (.ifCond .eq 5, 3) := sorry
theorem dL_law_865 : decode cL_law 865 = .ok (.iconst 0, 1) := sorry
theorem dL_law_866 : decode cL_law 866 = .ok (.ireturn, 1) := sorry
theorem dL_law_867 : decode cL_law 867 = .ok (.goto 1395, 3) := sorry
theorem dL_law_870 : decode cL_law 870 = .ok (.aload_n 1, 1) := sorry
theorem dL_law_871 : decode cL_law 871 = .ok (.aload_n 0, 1) := sorry
theorem dL_law_872 : decode cL_law 872 = .ok (.iload 4, 2) := sorry
theorem dL_law_874 : decode cL_law 874 = .ok (.iconst 1, 1) := sorry
theorem dL_law_875 : decode cL_law 875 = .ok (.iadd, 1) := sorry
theorem dL_law_876 : decode cL_law 876 = .ok (.iaload, 1) := sorry
theorem dL_law_877 : decode cL_law 877 = .ok (.aload_n 0, 1) := sorry
theorem dL_law_878 : decode cL_law 878 = .ok (.iload 4, 2) := sorry
theorem dL_law_880 : decode cL_law 880 = .ok (.iconst 2, 1) := sorry
theorem dL_law_881 : decode cL_law 881 = .ok (.iadd, 1) := sorry
theorem dL_law_882 : decode cL_law 882 = .ok (.iaload, 1) := sorry
theorem dL_law_883 : decode cL_law 883 = .ok (.aload_n 0, 1) := sorry
theorem dL_law_884 : decode cL_law 884 = .ok (.iload 4, 2) := sorry
theorem dL_law_886 : decode cL_law 886 = .ok (.iconst 3, 1) := sorry
theorem dL_law_887 : decode cL_law 887 = .ok (.iadd, 1) := sorry
theorem dL_law_888 : decode cL_law 888 = .ok (.iaload, 1) := sorry
theorem dL_law_889 : decode cL_law 889 = .ok (.ifCond .eq 7, 3) := sorry
theorem dL_law_892 : decode cL_law 892 = .ok (.iconst 1, 1) := sorry
theorem dL_law_893 : decode cL_law 893 = .ok (.goto 4, 3) := sorry
theorem dL_law_896 : decode cL_law 896 = .ok (.iconst 0, 1) := sorry
theorem dL_law_897 : decode cL_law 897 = .ok (.aload_n 3, 1) := sorry
theorem dL_law_898 : decode cL_law 898 = .ok (.invokestatic 166, 3) := sorry
theorem dL_law_901 : decode cL_law 901 = .ok (.istore 5, 2) := sorry
theorem dL_law_903 : decode cL_law 903 = .ok (.aload_n 2, 1) := sorry
theorem dL_law_904 : decode cL_law 904 = .ok (.aload_n 0, 1) := sorry
theorem dL_law_905 : decode cL_law 905 = .ok (.iload 4, 2) := sorry
theorem dL_law_907 : decode cL_law 907 = .ok (.iconst 1, 1) := sorry
theorem dL_law_908 : decode cL_law 908 = .ok (.iadd, 1) := sorry
theorem dL_law_909 : decode cL_law 909 = .ok (.iaload, 1) := sorry
theorem dL_law_910 : decode cL_law 910 = .ok (.aload_n 0, 1) := sorry
theorem dL_law_911 : decode cL_law 911 = .ok (.iload 4, 2) := sorry
theorem dL_law_913 : decode cL_law 913 = .ok (.iconst 2, 1) := sorry
theorem dL_law_914 : decode cL_law 914 = .ok (.iadd, 1) := sorry
theorem dL_law_915 : decode cL_law 915 = .ok (.iaload, 1) := sorry
theorem dL_law_916 : decode cL_law 916 = .ok (.aload_n 0, 1) := sorry
theorem dL_law_917 : decode cL_law 917 = .ok (.iload 4, 2) := sorry
theorem dL_law_919 : decode cL_law 919 = .ok (.iconst 3, 1) := sorry
theorem dL_law_920 : decode cL_law 920 = .ok (.iadd, 1) := sorry
theorem dL_law_921 : decode cL_law 921 = .ok (.iaload, 1) := sorry
theorem dL_law_922 : decode cL_law 922 = .ok (.ifCond .eq 7, 3) := sorry
theorem dL_law_925 : decode cL_law 925 = .ok (.iconst 1, 1) := sorry
theorem dL_law_926 : decode cL_law 926 = .ok (.goto 4, 3) := sorry
theorem dL_law_929 : decode cL_law 929 = .ok (.iconst 0, 1) := sorry
theorem dL_law_930 : decode cL_law 930 = .ok (.invokevirtual 169, 3) := sorry
theorem dL_law_933 : decode cL_law 933 = .ok (.istore 6, 2) := sorry
theorem dL_law_935 : decode cL_law 935 = .ok (.aload_n 2, 1) := sorry
theorem dL_law_936 : decode cL_law 936 = .ok (.invokevirtual 123, 3) := sorry
theorem dL_law_939 : decode cL_law 939 = .ok (.iload 5, 2) := sorry
theorem dL_law_941 : decode cL_law 941 = .ok (.if_icmp .eq 5, 3) := sorry
theorem dL_law_944 : decode cL_law 944 = .ok (.iconst 0, 1) := sorry
theorem dL_law_945 : decode cL_law 945 = .ok (.ireturn, 1) := sorry
theorem dL_law_946 : decode cL_law 946 = .ok (.iload 5, 2) := sorry
theorem dL_law_948 : decode cL_law 948 = .ok (.ifCond .ne 15, 3) := sorry
theorem dL_law_951 : decode cL_law 951 = .ok (.aload_n 3, 1) := sorry
theorem dL_law_952 : decode cL_law 952 = .ok (.iconst 0, 1) := sorry
theorem dL_law_953 : decode cL_law 953 = .ok (.laload, 1) := sorry
theorem dL_law_954 : decode cL_law 954 = .ok (.iload 6, 2) := sorry
theorem dL_law_956 : decode cL_law 956 = .ok (.i2l, 1) := sorry
theorem dL_law_957 : decode cL_law 957 = .ok (.lcmp, 1) := sorry
theorem dL_law_958 : decode cL_law 958 = .ok (.ifCond .eq 5, 3) := sorry
theorem dL_law_961 : decode cL_law 961 = .ok (.iconst 0, 1) := sorry
theorem dL_law_962 : decode cL_law 962 = .ok (.ireturn, 1) := sorry
theorem dL_law_963 : decode cL_law 963 = .ok (.goto 1299, 3) := sorry
theorem dL_law_966 : decode cL_law 966 = .ok (.aload_n 1, 1) := sorry
theorem dL_law_967 : decode cL_law 967 = .ok (.aload_n 0, 1) := sorry
theorem dL_law_968 : decode cL_law 968 = .ok (.iload 4, 2) := sorry
theorem dL_law_970 : decode cL_law 970 = .ok (.iconst 1, 1) := sorry
theorem dL_law_971 : decode cL_law 971 = .ok (.iadd, 1) := sorry
theorem dL_law_972 : decode cL_law 972 = .ok (.iaload, 1) := sorry
theorem dL_law_973 : decode cL_law 973 = .ok (.aload_n 0, 1) := sorry
theorem dL_law_974 : decode cL_law 974 = .ok (.iload 4, 2) := sorry
theorem dL_law_976 : decode cL_law 976 = .ok (.iconst 2, 1) := sorry
theorem dL_law_977 : decode cL_law 977 = .ok (.iadd, 1) := sorry
theorem dL_law_978 : decode cL_law 978 = .ok (.iaload, 1) := sorry
theorem dL_law_979 : decode cL_law 979 = .ok (.aload_n 0, 1) := sorry
theorem dL_law_980 : decode cL_law 980 = .ok (.iload 4, 2) := sorry
theorem dL_law_982 : decode cL_law 982 = .ok (.iconst 3, 1) := sorry
theorem dL_law_983 : decode cL_law 983 = .ok (.iadd, 1) := sorry
theorem dL_law_984 : decode cL_law 984 = .ok (.iaload, 1) := sorry
theorem dL_law_985 : decode cL_law 985 = .ok (.ifCond .eq 7, 3) := sorry
theorem dL_law_988 : decode cL_law 988 = .ok (.iconst 1, 1) := sorry
theorem dL_law_989 : decode cL_law 989 = .ok (.goto 4, 3) := sorry
theorem dL_law_992 : decode cL_law 992 = .ok (.iconst 0, 1) := sorry
theorem dL_law_993 : decode cL_law 993 = .ok (.aload_n 3, 1) := sorry
theorem dL_law_994 : decode cL_law 994 = .ok (.invokestatic 170, 3) := sorry
theorem dL_law_997 : decode cL_law 997 = .ok (.istore 5, 2) := sorry
theorem dL_law_999 : decode cL_law 999 = .ok (.aload_n 2, 1) := sorry
theorem dL_law_1000 : decode cL_law 1000 = .ok (.aload_n 0, 1) := sorry
theorem dL_law_1001 : decode cL_law 1001 = .ok (.iload 4, 2) := sorry
theorem dL_law_1003 : decode cL_law 1003 = .ok (.iconst 1, 1) := sorry
theorem dL_law_1004 : decode cL_law 1004 = .ok (.iadd, 1) := sorry
theorem dL_law_1005 : decode cL_law 1005 = .ok (.iaload, 1) := sorry
theorem dL_law_1006 : decode cL_law 1006 = .ok (.aload_n 0, 1) := sorry
theorem dL_law_1007 : decode cL_law 1007 = .ok (.iload 4, 2) := sorry
theorem dL_law_1009 : decode cL_law 1009 = .ok (.iconst 2, 1) := sorry
theorem dL_law_1010 : decode cL_law 1010 = .ok (.iadd, 1) := sorry
theorem dL_law_1011 : decode cL_law 1011 = .ok (.iaload, 1) := sorry
theorem dL_law_1012 : decode cL_law 1012 = .ok (.aload_n 0, 1) := sorry
theorem dL_law_1013 : decode cL_law 1013 = .ok (.iload 4, 2) := sorry
theorem dL_law_1015 : decode cL_law 1015 = .ok (.iconst 3, 1) := sorry
theorem dL_law_1016 : decode cL_law 1016 = .ok (.iadd, 1) := sorry
theorem dL_law_1017 : decode cL_law 1017 = .ok (.iaload, 1) := sorry
theorem dL_law_1018 : decode cL_law 1018 = .ok (.ifCond .eq 7, 3) := sorry
theorem dL_law_1021 : decode cL_law 1021 = .ok (.iconst 1, 1) := sorry
theorem dL_law_1022 : decode cL_law 1022 = .ok (.goto 4, 3) := sorry
theorem dL_law_1025 : decode cL_law 1025 = .ok (.iconst 0, 1) := sorry
theorem dL_law_1026 : decode cL_law 1026 = .ok (.invokevirtual 172, 3) := sorry
theorem dL_law_1029 : decode cL_law 1029 = .ok (.istore 6, 2) := sorry
theorem dL_law_1031 : decode cL_law 1031 = .ok (.aload_n 2, 1) := sorry
theorem dL_law_1032 : decode cL_law 1032 = .ok (.invokevirtual 123, 3) := sorry
theorem dL_law_1035 : decode cL_law 1035 = .ok (.iload 5, 2) := sorry
theorem dL_law_1037 : decode cL_law 1037 = .ok (.if_icmp .eq 5, 3) := sorry
theorem dL_law_1040 : decode cL_law 1040 = .ok (.iconst 0, 1) := sorry
theorem dL_law_1041 : decode cL_law 1041 = .ok (.ireturn, 1) := sorry
theorem dL_law_1042 : decode cL_law 1042 = .ok (.iload 5, 2) := sorry
theorem dL_law_1044 : decode cL_law 1044 = .ok (.ifCond .ne 15, 3) := sorry
theorem dL_law_1047 : decode cL_law 1047 = .ok (.aload_n 3, 1) := sorry
theorem dL_law_1048 : decode cL_law 1048 = .ok (.iconst 0, 1) := sorry
theorem dL_law_1049 : decode cL_law 1049 = .ok (.laload, 1) := sorry
theorem dL_law_1050 : decode cL_law 1050 = .ok (.iload 6, 2) := sorry
theorem dL_law_1052 : decode cL_law 1052 = .ok (.i2l, 1) := sorry
theorem dL_law_1053 : decode cL_law 1053 = .ok (.lcmp, 1) := sorry
theorem dL_law_1054 : decode cL_law 1054 = .ok (.ifCond .eq 5, 3) := sorry
theorem dL_law_1057 : decode cL_law 1057 = .ok (.iconst 0, 1) := sorry
theorem dL_law_1058 : decode cL_law 1058 = .ok (.ireturn, 1) := sorry
theorem dL_law_1059 : decode cL_law 1059 = .ok (.goto 1203, 3) := sorry
theorem dL_law_1062 : decode cL_law 1062 = .ok (.aload_n 1, 1) := sorry
theorem dL_law_1063 : decode cL_law 1063 = .ok (.aload_n 0, 1) := sorry
theorem dL_law_1064 : decode cL_law 1064 = .ok (.iload 4, 2) := sorry
theorem dL_law_1066 : decode cL_law 1066 = .ok (.iconst 1, 1) := sorry
theorem dL_law_1067 : decode cL_law 1067 = .ok (.iadd, 1) := sorry
theorem dL_law_1068 : decode cL_law 1068 = .ok (.iaload, 1) := sorry
theorem dL_law_1069 : decode cL_law 1069 = .ok (.aload_n 0, 1) := sorry
theorem dL_law_1070 : decode cL_law 1070 = .ok (.iload 4, 2) := sorry
theorem dL_law_1072 : decode cL_law 1072 = .ok (.iconst 2, 1) := sorry
theorem dL_law_1073 : decode cL_law 1073 = .ok (.iadd, 1) := sorry
theorem dL_law_1074 : decode cL_law 1074 = .ok (.iaload, 1) := sorry
theorem dL_law_1075 : decode cL_law 1075 = .ok (.aload_n 0, 1) := sorry
theorem dL_law_1076 : decode cL_law 1076 = .ok (.iload 4, 2) := sorry
theorem dL_law_1078 : decode cL_law 1078 = .ok (.iconst 3, 1) := sorry
theorem dL_law_1079 : decode cL_law 1079 = .ok (.iadd, 1) := sorry
theorem dL_law_1080 : decode cL_law 1080 = .ok (.iaload, 1) := sorry
theorem dL_law_1081 : decode cL_law 1081 = .ok (.aload_n 0, 1) := sorry
theorem dL_law_1082 : decode cL_law 1082 = .ok (.iload 4, 2) := sorry
theorem dL_law_1084 : decode cL_law 1084 = .ok (.iconst 4, 1) := sorry
theorem dL_law_1085 : decode cL_law 1085 = .ok (.iadd, 1) := sorry
theorem dL_law_1086 : decode cL_law 1086 = .ok (.iaload, 1) := sorry
theorem dL_law_1087 : decode cL_law 1087 = .ok (.aload_n 3, 1) := sorry
theorem dL_law_1088 : decode cL_law 1088 = .ok (.invokestatic 173, 3) := sorry
theorem dL_law_1091 : decode cL_law 1091 = .ok (.istore 5, 2) := sorry
theorem dL_law_1093 : decode cL_law 1093 = .ok (.aload_n 2, 1) := sorry
theorem dL_law_1094 : decode cL_law 1094 = .ok (.aload_n 0, 1) := sorry
theorem dL_law_1095 : decode cL_law 1095 = .ok (.iload 4, 2) := sorry
theorem dL_law_1097 : decode cL_law 1097 = .ok (.iconst 1, 1) := sorry
theorem dL_law_1098 : decode cL_law 1098 = .ok (.iadd, 1) := sorry
theorem dL_law_1099 : decode cL_law 1099 = .ok (.iaload, 1) := sorry
theorem dL_law_1100 : decode cL_law 1100 = .ok (.aload_n 0, 1) := sorry
theorem dL_law_1101 : decode cL_law 1101 = .ok (.iload 4, 2) := sorry
theorem dL_law_1103 : decode cL_law 1103 = .ok (.iconst 2, 1) := sorry
theorem dL_law_1104 : decode cL_law 1104 = .ok (.iadd, 1) := sorry
theorem dL_law_1105 : decode cL_law 1105 = .ok (.iaload, 1) := sorry
theorem dL_law_1106 : decode cL_law 1106 = .ok (.aload_n 0, 1) := sorry
theorem dL_law_1107 : decode cL_law 1107 = .ok (.iload 4, 2) := sorry
theorem dL_law_1109 : decode cL_law 1109 = .ok (.iconst 3, 1) := sorry
theorem dL_law_1110 : decode cL_law 1110 = .ok (.iadd, 1) := sorry
theorem dL_law_1111 : decode cL_law 1111 = .ok (.iaload, 1) := sorry
theorem dL_law_1112 : decode cL_law 1112 = .ok (.aload_n 0, 1) := sorry
theorem dL_law_1113 : decode cL_law 1113 = .ok (.iload 4, 2) := sorry
theorem dL_law_1115 : decode cL_law 1115 = .ok (.iconst 4, 1) := sorry
theorem dL_law_1116 : decode cL_law 1116 = .ok (.iadd, 1) := sorry
theorem dL_law_1117 : decode cL_law 1117 = .ok (.iaload, 1) := sorry
theorem dL_law_1118 : decode cL_law 1118 = .ok (.invokevirtual 176, 3) := sorry
theorem dL_law_1121 : decode cL_law 1121 = .ok (.istore 6, 2) := sorry
theorem dL_law_1123 : decode cL_law 1123 = .ok (.aload_n 2, 1) := sorry
theorem dL_law_1124 : decode cL_law 1124 = .ok (.invokevirtual 123, 3) := sorry
theorem dL_law_1127 : decode cL_law 1127 = .ok (.iload 5, 2) := sorry
theorem dL_law_1129 : decode cL_law 1129 = .ok (.if_icmp .eq 5, 3) := sorry
theorem dL_law_1132 : decode cL_law 1132 = .ok (.iconst 0, 1) := sorry
theorem dL_law_1133 : decode cL_law 1133 = .ok (.ireturn, 1) := sorry
theorem dL_law_1134 : decode cL_law 1134 = .ok (.iload 5, 2) := sorry
theorem dL_law_1136 : decode cL_law 1136 = .ok (.ifCond .ne 15, 3) := sorry
theorem dL_law_1139 : decode cL_law 1139 = .ok (.aload_n 3, 1) := sorry
theorem dL_law_1140 : decode cL_law 1140 = .ok (.iconst 0, 1) := sorry
theorem dL_law_1141 : decode cL_law 1141 = .ok (.laload, 1) := sorry
theorem dL_law_1142 : decode cL_law 1142 = .ok (.iload 6, 2) := sorry
theorem dL_law_1144 : decode cL_law 1144 = .ok (.i2l, 1) := sorry
theorem dL_law_1145 : decode cL_law 1145 = .ok (.lcmp, 1) := sorry
theorem dL_law_1146 : decode cL_law 1146 = .ok (.ifCond .eq 5, 3) := sorry
theorem dL_law_1149 : decode cL_law 1149 = .ok (.iconst 0, 1) := sorry
theorem dL_law_1150 : decode cL_law 1150 = .ok (.ireturn, 1) := sorry
theorem dL_law_1151 : decode cL_law 1151 = .ok (.goto 1111, 3) := sorry
theorem dL_law_1154 : decode cL_law 1154 = .ok (.aload_n 1, 1) := sorry
theorem dL_law_1155 : decode cL_law 1155 = .ok (.aload_n 0, 1) := sorry
theorem dL_law_1156 : decode cL_law 1156 = .ok (.iload 4, 2) := sorry
theorem dL_law_1158 : decode cL_law 1158 = .ok (.iconst 1, 1) := sorry
theorem dL_law_1159 : decode cL_law 1159 = .ok (.iadd, 1) := sorry
theorem dL_law_1160 : decode cL_law 1160 = .ok (.iaload, 1) := sorry
theorem dL_law_1161 : decode cL_law 1161 = .ok (.aload_n 3, 1) := sorry
theorem dL_law_1162 : decode cL_law 1162 = .ok (.invokestatic 177, 3) := sorry
theorem dL_law_1165 : decode cL_law 1165 = .ok (.istore 5, 2) := sorry
theorem dL_law_1167 : decode cL_law 1167 = .ok (.aload_n 2, 1) := sorry
theorem dL_law_1168 : decode cL_law 1168 = .ok (.aload_n 0, 1) := sorry
theorem dL_law_1169 : decode cL_law 1169 = .ok (.iload 4, 2) := sorry
theorem dL_law_1171 : decode cL_law 1171 = .ok (.iconst 1, 1) := sorry
theorem dL_law_1172 : decode cL_law 1172 = .ok (.iadd, 1) := sorry
theorem dL_law_1173 : decode cL_law 1173 = .ok (.iaload, 1) := sorry
theorem dL_law_1174 : decode cL_law 1174 = .ok (.invokevirtual 179, 3) := sorry
theorem dL_law_1177 : decode cL_law 1177 = .ok (.istore 6, 2) := sorry
theorem dL_law_1179 : decode cL_law 1179 = .ok (.aload_n 2, 1) := sorry
theorem dL_law_1180 : decode cL_law 1180 = .ok (.invokevirtual 123, 3) := sorry
theorem dL_law_1183 : decode cL_law 1183 = .ok (.iload 5, 2) := sorry
theorem dL_law_1185 : decode cL_law 1185 = .ok (.if_icmp .eq 5, 3) := sorry
theorem dL_law_1188 : decode cL_law 1188 = .ok (.iconst 0, 1) := sorry
theorem dL_law_1189 : decode cL_law 1189 = .ok (.ireturn, 1) := sorry
theorem dL_law_1190 : decode cL_law 1190 = .ok (.iload 5, 2) := sorry
theorem dL_law_1192 : decode cL_law 1192 = .ok (.ifCond .ne 15, 3) := sorry
theorem dL_law_1195 : decode cL_law 1195 = .ok (.aload_n 3, 1) := sorry
theorem dL_law_1196 : decode cL_law 1196 = .ok (.iconst 0, 1) := sorry
theorem dL_law_1197 : decode cL_law 1197 = .ok (.laload, 1) := sorry
theorem dL_law_1198 : decode cL_law 1198 = .ok (.iload 6, 2) := sorry
theorem dL_law_1200 : decode cL_law 1200 = .ok (.i2l, 1) := sorry
theorem dL_law_1201 : decode cL_law 1201 = .ok (.lcmp, 1) := sorry
theorem dL_law_1202 : decode cL_law 1202 = .ok (.ifCond .eq 5, 3) := sorry
theorem dL_law_1205 : decode cL_law 1205 = .ok (.iconst 0, 1) := sorry
theorem dL_law_1206 : decode cL_law 1206 = .ok (.ireturn, 1) := sorry
theorem dL_law_1207 : decode cL_law 1207 = .ok (.goto 1055, 3) := sorry
theorem dL_law_1210 : decode cL_law 1210 = .ok (.aload_n 1, 1) := sorry
theorem dL_law_1211 : decode cL_law 1211 = .ok (.aload_n 0, 1) := sorry
theorem dL_law_1212 : decode cL_law 1212 = .ok (.iload 4, 2) := sorry
theorem dL_law_1214 : decode cL_law 1214 = .ok (.iconst 1, 1) := sorry
theorem dL_law_1215 : decode cL_law 1215 = .ok (.iadd, 1) := sorry
theorem dL_law_1216 : decode cL_law 1216 = .ok (.iaload, 1) := sorry
theorem dL_law_1217 : decode cL_law 1217 = .ok (.aload_n 0, 1) := sorry
theorem dL_law_1218 : decode cL_law 1218 = .ok (.iload 4, 2) := sorry
theorem dL_law_1220 : decode cL_law 1220 = .ok (.iconst 2, 1) := sorry
theorem dL_law_1221 : decode cL_law 1221 = .ok (.iadd, 1) := sorry
theorem dL_law_1222 : decode cL_law 1222 = .ok (.iaload, 1) := sorry
theorem dL_law_1223 : decode cL_law 1223 = .ok (.aload_n 3, 1) := sorry
theorem dL_law_1224 : decode cL_law 1224 = .ok (.invokestatic 180, 3) := sorry
theorem dL_law_1227 : decode cL_law 1227 = .ok (.istore 5, 2) := sorry
theorem dL_law_1229 : decode cL_law 1229 = .ok (.aload_n 2, 1) := sorry
theorem dL_law_1230 : decode cL_law 1230 = .ok (.aload_n 0, 1) := sorry
theorem dL_law_1231 : decode cL_law 1231 = .ok (.iload 4, 2) := sorry
theorem dL_law_1233 : decode cL_law 1233 = .ok (.iconst 1, 1) := sorry
theorem dL_law_1234 : decode cL_law 1234 = .ok (.iadd, 1) := sorry
theorem dL_law_1235 : decode cL_law 1235 = .ok (.iaload, 1) := sorry
theorem dL_law_1236 : decode cL_law 1236 = .ok (.aload_n 0, 1) := sorry
theorem dL_law_1237 : decode cL_law 1237 = .ok (.iload 4, 2) := sorry
theorem dL_law_1239 : decode cL_law 1239 = .ok (.iconst 2, 1) := sorry
theorem dL_law_1240 : decode cL_law 1240 = .ok (.iadd, 1) := sorry
theorem dL_law_1241 : decode cL_law 1241 = .ok (.iaload, 1) := sorry
theorem dL_law_1242 : decode cL_law 1242 = .ok (.invokevirtual 182, 3) := sorry
theorem dL_law_1245 : decode cL_law 1245 = .ok (.istore 6, 2) := sorry
theorem dL_law_1247 : decode cL_law 1247 = .ok (.aload_n 2, 1) := sorry
theorem dL_law_1248 : decode cL_law 1248 = .ok (.invokevirtual 123, 3) := sorry
theorem dL_law_1251 : decode cL_law 1251 = .ok (.iload 5, 2) := sorry
theorem dL_law_1253 : decode cL_law 1253 = .ok (.if_icmp .eq 5, 3) := sorry
theorem dL_law_1256 : decode cL_law 1256 = .ok (.iconst 0, 1) := sorry
theorem dL_law_1257 : decode cL_law 1257 = .ok (.ireturn, 1) := sorry
theorem dL_law_1258 : decode cL_law 1258 = .ok (.iload 5, 2) := sorry
theorem dL_law_1260 : decode cL_law 1260 = .ok (.ifCond .ne 15, 3) := sorry
theorem dL_law_1263 : decode cL_law 1263 = .ok (.aload_n 3, 1) := sorry
theorem dL_law_1264 : decode cL_law 1264 = .ok (.iconst 0, 1) := sorry
theorem dL_law_1265 : decode cL_law 1265 = .ok (.laload, 1) := sorry
theorem dL_law_1266 : decode cL_law 1266 = .ok (.iload 6, 2) := sorry
theorem dL_law_1268 : decode cL_law 1268 = .ok (.i2l, 1) := sorry
theorem dL_law_1269 : decode cL_law 1269 = .ok (.lcmp, 1) := sorry
theorem dL_law_1270 : decode cL_law 1270 = .ok (.ifCond .eq 5, 3) := sorry
theorem dL_law_1273 : decode cL_law 1273 = .ok (.iconst 0, 1) := sorry
theorem dL_law_1274 : decode cL_law 1274 = .ok (.ireturn, 1) := sorry
theorem dL_law_1275 : decode cL_law 1275 = .ok (.goto 987, 3) := sorry
theorem dL_law_1278 : decode cL_law 1278 = .ok (.aload_n 1, 1) := sorry
theorem dL_law_1279 : decode cL_law 1279 = .ok (.aload_n 0, 1) := sorry
theorem dL_law_1280 : decode cL_law 1280 = .ok (.iload 4, 2) := sorry
theorem dL_law_1282 : decode cL_law 1282 = .ok (.iconst 1, 1) := sorry
theorem dL_law_1283 : decode cL_law 1283 = .ok (.iadd, 1) := sorry
theorem dL_law_1284 : decode cL_law 1284 = .ok (.iaload, 1) := sorry
theorem dL_law_1285 : decode cL_law 1285 = .ok (.aload_n 0, 1) := sorry
theorem dL_law_1286 : decode cL_law 1286 = .ok (.iload 4, 2) := sorry
theorem dL_law_1288 : decode cL_law 1288 = .ok (.iconst 2, 1) := sorry
theorem dL_law_1289 : decode cL_law 1289 = .ok (.iadd, 1) := sorry
theorem dL_law_1290 : decode cL_law 1290 = .ok (.iaload, 1) := sorry
theorem dL_law_1291 : decode cL_law 1291 = .ok (.ifCond .eq 7, 3) := sorry
theorem dL_law_1294 : decode cL_law 1294 = .ok (.iconst 1, 1) := sorry
theorem dL_law_1295 : decode cL_law 1295 = .ok (.goto 4, 3) := sorry
theorem dL_law_1298 : decode cL_law 1298 = .ok (.iconst 0, 1) := sorry
theorem dL_law_1299 : decode cL_law 1299 = .ok (.aload_n 3, 1) := sorry
theorem dL_law_1300 : decode cL_law 1300 = .ok (.invokestatic 183, 3) := sorry
theorem dL_law_1303 : decode cL_law 1303 = .ok (.istore 5, 2) := sorry
theorem dL_law_1305 : decode cL_law 1305 = .ok (.aload_n 2, 1) := sorry
theorem dL_law_1306 : decode cL_law 1306 = .ok (.aload_n 0, 1) := sorry
theorem dL_law_1307 : decode cL_law 1307 = .ok (.iload 4, 2) := sorry
theorem dL_law_1309 : decode cL_law 1309 = .ok (.iconst 1, 1) := sorry
theorem dL_law_1310 : decode cL_law 1310 = .ok (.iadd, 1) := sorry
theorem dL_law_1311 : decode cL_law 1311 = .ok (.iaload, 1) := sorry
theorem dL_law_1312 : decode cL_law 1312 = .ok (.aload_n 0, 1) := sorry
theorem dL_law_1313 : decode cL_law 1313 = .ok (.iload 4, 2) := sorry
theorem dL_law_1315 : decode cL_law 1315 = .ok (.iconst 2, 1) := sorry
theorem dL_law_1316 : decode cL_law 1316 = .ok (.iadd, 1) := sorry
theorem dL_law_1317 : decode cL_law 1317 = .ok (.iaload, 1) := sorry
theorem dL_law_1318 : decode cL_law 1318 = .ok (.ifCond .eq 7, 3) := sorry
theorem dL_law_1321 : decode cL_law 1321 = .ok (.iconst 1, 1) := sorry
theorem dL_law_1322 : decode cL_law 1322 = .ok (.goto 4, 3) := sorry
theorem dL_law_1325 : decode cL_law 1325 = .ok (.iconst 0, 1) := sorry
theorem dL_law_1326 : decode cL_law 1326 = .ok (.invokevirtual 186, 3) := sorry
theorem dL_law_1329 : decode cL_law 1329 = .ok (.istore 6, 2) := sorry
theorem dL_law_1331 : decode cL_law 1331 = .ok (.aload_n 2, 1) := sorry
theorem dL_law_1332 : decode cL_law 1332 = .ok (.invokevirtual 123, 3) := sorry
theorem dL_law_1335 : decode cL_law 1335 = .ok (.iload 5, 2) := sorry
theorem dL_law_1337 : decode cL_law 1337 = .ok (.if_icmp .eq 5, 3) := sorry
theorem dL_law_1340 : decode cL_law 1340 = .ok (.iconst 0, 1) := sorry
theorem dL_law_1341 : decode cL_law 1341 = .ok (.ireturn, 1) := sorry
theorem dL_law_1342 : decode cL_law 1342 = .ok (.iload 5, 2) := sorry
theorem dL_law_1344 : decode cL_law 1344 = .ok (.ifCond .ne 15, 3) := sorry
theorem dL_law_1347 : decode cL_law 1347 = .ok (.aload_n 3, 1) := sorry
theorem dL_law_1348 : decode cL_law 1348 = .ok (.iconst 0, 1) := sorry
theorem dL_law_1349 : decode cL_law 1349 = .ok (.laload, 1) := sorry
theorem dL_law_1350 : decode cL_law 1350 = .ok (.iload 6, 2) := sorry
theorem dL_law_1352 : decode cL_law 1352 = .ok (.i2l, 1) := sorry
theorem dL_law_1353 : decode cL_law 1353 = .ok (.lcmp, 1) := sorry
theorem dL_law_1354 : decode cL_law 1354 = .ok (.ifCond .eq 5, 3) := sorry
theorem dL_law_1357 : decode cL_law 1357 = .ok (.iconst 0, 1) := sorry
theorem dL_law_1358 : decode cL_law 1358 = .ok (.ireturn, 1) := sorry
theorem dL_law_1359 : decode cL_law 1359 = .ok (.goto 903, 3) := sorry
theorem dL_law_1362 : decode cL_law 1362 = .ok (.aload_n 1, 1) := sorry
theorem dL_law_1363 : decode cL_law 1363 = .ok (.aload_n 0, 1) := sorry
theorem dL_law_1364 : decode cL_law 1364 = .ok (.iload 4, 2) := sorry
theorem dL_law_1366 : decode cL_law 1366 = .ok (.iconst 1, 1) := sorry
theorem dL_law_1367 : decode cL_law 1367 = .ok (.iadd, 1) := sorry
theorem dL_law_1368 : decode cL_law 1368 = .ok (.iaload, 1) := sorry
theorem dL_law_1369 : decode cL_law 1369 = .ok (.aload_n 0, 1) := sorry
theorem dL_law_1370 : decode cL_law 1370 = .ok (.iload 4, 2) := sorry
theorem dL_law_1372 : decode cL_law 1372 = .ok (.iconst 2, 1) := sorry
theorem dL_law_1373 : decode cL_law 1373 = .ok (.iadd, 1) := sorry
theorem dL_law_1374 : decode cL_law 1374 = .ok (.iaload, 1) := sorry
theorem dL_law_1375 : decode cL_law 1375 = .ok (.aload_n 3, 1) := sorry
theorem dL_law_1376 : decode cL_law 1376 = .ok (.invokestatic 187, 3) := sorry
theorem dL_law_1379 : decode cL_law 1379 = .ok (.istore 5, 2) := sorry
theorem dL_law_1381 : decode cL_law 1381 = .ok (.aload_n 2, 1) := sorry
theorem dL_law_1382 : decode cL_law 1382 = .ok (.aload_n 0, 1) := sorry
theorem dL_law_1383 : decode cL_law 1383 = .ok (.iload 4, 2) := sorry
theorem dL_law_1385 : decode cL_law 1385 = .ok (.iconst 1, 1) := sorry
theorem dL_law_1386 : decode cL_law 1386 = .ok (.iadd, 1) := sorry
theorem dL_law_1387 : decode cL_law 1387 = .ok (.iaload, 1) := sorry
theorem dL_law_1388 : decode cL_law 1388 = .ok (.aload_n 0, 1) := sorry
theorem dL_law_1389 : decode cL_law 1389 = .ok (.iload 4, 2) := sorry
theorem dL_law_1391 : decode cL_law 1391 = .ok (.iconst 2, 1) := sorry
theorem dL_law_1392 : decode cL_law 1392 = .ok (.iadd, 1) := sorry
theorem dL_law_1393 : decode cL_law 1393 = .ok (.iaload, 1) := sorry
theorem dL_law_1394 : decode cL_law 1394 = .ok (.invokevirtual 189, 3) := sorry
theorem dL_law_1397 : decode cL_law 1397 = .ok (.istore 6, 2) := sorry
theorem dL_law_1399 : decode cL_law 1399 = .ok (.aload_n 2, 1) := sorry
theorem dL_law_1400 : decode cL_law 1400 = .ok (.invokevirtual 123, 3) := sorry
theorem dL_law_1403 : decode cL_law 1403 = .ok (.iload 5, 2) := sorry
theorem dL_law_1405 : decode cL_law 1405 = .ok (.if_icmp .eq 5, 3) := sorry
theorem dL_law_1408 : decode cL_law 1408 = .ok (.iconst 0, 1) := sorry
theorem dL_law_1409 : decode cL_law 1409 = .ok (.ireturn, 1) := sorry
theorem dL_law_1410 : decode cL_law 1410 = .ok (.iload 5, 2) := sorry
theorem dL_law_1412 : decode cL_law 1412 = .ok (.ifCond .ne 15, 3) := sorry
theorem dL_law_1415 : decode cL_law 1415 = .ok (.aload_n 3, 1) := sorry
theorem dL_law_1416 : decode cL_law 1416 = .ok (.iconst 0, 1) := sorry
theorem dL_law_1417 : decode cL_law 1417 = .ok (.laload, 1) := sorry
theorem dL_law_1418 : decode cL_law 1418 = .ok (.iload 6, 2) := sorry
theorem dL_law_1420 : decode cL_law 1420 = .ok (.i2l, 1) := sorry
theorem dL_law_1421 : decode cL_law 1421 = .ok (.lcmp, 1) := sorry
theorem dL_law_1422 : decode cL_law 1422 = .ok (.ifCond .eq 5, 3) := sorry
theorem dL_law_1425 : decode cL_law 1425 = .ok (.iconst 0, 1) := sorry
theorem dL_law_1426 : decode cL_law 1426 = .ok (.ireturn, 1) := sorry
theorem dL_law_1427 : decode cL_law 1427 = .ok (.goto 835, 3) := sorry
theorem dL_law_1430 : decode cL_law 1430 = .ok (.aload_n 1, 1) := sorry
theorem dL_law_1431 : decode cL_law 1431 = .ok (.aload_n 0, 1) := sorry
theorem dL_law_1432 : decode cL_law 1432 = .ok (.iload 4, 2) := sorry
theorem dL_law_1434 : decode cL_law 1434 = .ok (.iconst 1, 1) := sorry
theorem dL_law_1435 : decode cL_law 1435 = .ok (.iadd, 1) := sorry
theorem dL_law_1436 : decode cL_law 1436 = .ok (.iaload, 1) := sorry
theorem dL_law_1437 : decode cL_law 1437 = .ok (.aload_n 0, 1) := sorry
theorem dL_law_1438 : decode cL_law 1438 = .ok (.iload 4, 2) := sorry
theorem dL_law_1440 : decode cL_law 1440 = .ok (.iconst 2, 1) := sorry
theorem dL_law_1441 : decode cL_law 1441 = .ok (.iadd, 1) := sorry
theorem dL_law_1442 : decode cL_law 1442 = .ok (.iaload, 1) := sorry
theorem dL_law_1443 : decode cL_law 1443 = .ok (.aload_n 3, 1) := sorry
theorem dL_law_1444 : decode cL_law 1444 = .ok (.invokestatic 190, 3) := sorry
theorem dL_law_1447 : decode cL_law 1447 = .ok (.istore 5, 2) := sorry
theorem dL_law_1449 : decode cL_law 1449 = .ok (.aload_n 2, 1) := sorry
theorem dL_law_1450 : decode cL_law 1450 = .ok (.aload_n 0, 1) := sorry
theorem dL_law_1451 : decode cL_law 1451 = .ok (.iload 4, 2) := sorry
theorem dL_law_1453 : decode cL_law 1453 = .ok (.iconst 1, 1) := sorry
theorem dL_law_1454 : decode cL_law 1454 = .ok (.iadd, 1) := sorry
theorem dL_law_1455 : decode cL_law 1455 = .ok (.iaload, 1) := sorry
theorem dL_law_1456 : decode cL_law 1456 = .ok (.aload_n 0, 1) := sorry
theorem dL_law_1457 : decode cL_law 1457 = .ok (.iload 4, 2) := sorry
theorem dL_law_1459 : decode cL_law 1459 = .ok (.iconst 2, 1) := sorry
theorem dL_law_1460 : decode cL_law 1460 = .ok (.iadd, 1) := sorry
theorem dL_law_1461 : decode cL_law 1461 = .ok (.iaload, 1) := sorry
theorem dL_law_1462 : decode cL_law 1462 = .ok (.invokevirtual 192, 3) := sorry
theorem dL_law_1465 : decode cL_law 1465 = .ok (.istore 6, 2) := sorry
theorem dL_law_1467 : decode cL_law 1467 = .ok (.aload_n 2, 1) := sorry
theorem dL_law_1468 : decode cL_law 1468 = .ok (.invokevirtual 123, 3) := sorry
theorem dL_law_1471 : decode cL_law 1471 = .ok (.iload 5, 2) := sorry
theorem dL_law_1473 : decode cL_law 1473 = .ok (.if_icmp .eq 5, 3) := sorry
theorem dL_law_1476 : decode cL_law 1476 = .ok (.iconst 0, 1) := sorry
theorem dL_law_1477 : decode cL_law 1477 = .ok (.ireturn, 1) := sorry
theorem dL_law_1478 : decode cL_law 1478 = .ok (.iload 5, 2) := sorry
theorem dL_law_1480 : decode cL_law 1480 = .ok (.ifCond .ne 15, 3) := sorry
theorem dL_law_1483 : decode cL_law 1483 = .ok (.aload_n 3, 1) := sorry
theorem dL_law_1484 : decode cL_law 1484 = .ok (.iconst 0, 1) := sorry
theorem dL_law_1485 : decode cL_law 1485 = .ok (.laload, 1) := sorry
theorem dL_law_1486 : decode cL_law 1486 = .ok (.iload 6, 2) := sorry
theorem dL_law_1488 : decode cL_law 1488 = .ok (.i2l, 1) := sorry
theorem dL_law_1489 : decode cL_law 1489 = .ok (.lcmp, 1) := sorry
theorem dL_law_1490 : decode cL_law 1490 = .ok (.ifCond .eq 5, 3) := sorry
theorem dL_law_1493 : decode cL_law 1493 = .ok (.iconst 0, 1) := sorry
theorem dL_law_1494 : decode cL_law 1494 = .ok (.ireturn, 1) := sorry
theorem dL_law_1495 : decode cL_law 1495 = .ok (.goto 767, 3) := sorry
theorem dL_law_1498 : decode cL_law 1498 = .ok (.aload_n 1, 1) := sorry
theorem dL_law_1499 : decode cL_law 1499 = .ok (.aload_n 0, 1) := sorry
theorem dL_law_1500 : decode cL_law 1500 = .ok (.iload 4, 2) := sorry
theorem dL_law_1502 : decode cL_law 1502 = .ok (.iconst 1, 1) := sorry
theorem dL_law_1503 : decode cL_law 1503 = .ok (.iadd, 1) := sorry
theorem dL_law_1504 : decode cL_law 1504 = .ok (.iaload, 1) := sorry
theorem dL_law_1505 : decode cL_law 1505 = .ok (.aload_n 3, 1) := sorry
theorem dL_law_1506 : decode cL_law 1506 = .ok (.invokestatic 193, 3) := sorry
theorem dL_law_1509 : decode cL_law 1509 = .ok (.istore 5, 2) := sorry
theorem dL_law_1511 : decode cL_law 1511 = .ok (.aload_n 2, 1) := sorry
theorem dL_law_1512 : decode cL_law 1512 = .ok (.aload_n 0, 1) := sorry
theorem dL_law_1513 : decode cL_law 1513 = .ok (.iload 4, 2) := sorry
theorem dL_law_1515 : decode cL_law 1515 = .ok (.iconst 1, 1) := sorry
theorem dL_law_1516 : decode cL_law 1516 = .ok (.iadd, 1) := sorry
theorem dL_law_1517 : decode cL_law 1517 = .ok (.iaload, 1) := sorry
theorem dL_law_1518 : decode cL_law 1518 = .ok (.invokevirtual 195, 3) := sorry
theorem dL_law_1521 : decode cL_law 1521 = .ok (.istore 6, 2) := sorry
theorem dL_law_1523 : decode cL_law 1523 = .ok (.aload_n 2, 1) := sorry
theorem dL_law_1524 : decode cL_law 1524 = .ok (.invokevirtual 123, 3) := sorry
theorem dL_law_1527 : decode cL_law 1527 = .ok (.iload 5, 2) := sorry
theorem dL_law_1529 : decode cL_law 1529 = .ok (.if_icmp .eq 5, 3) := sorry
theorem dL_law_1532 : decode cL_law 1532 = .ok (.iconst 0, 1) := sorry
theorem dL_law_1533 : decode cL_law 1533 = .ok (.ireturn, 1) := sorry
theorem dL_law_1534 : decode cL_law 1534 = .ok (.iload 5, 2) := sorry
theorem dL_law_1536 : decode cL_law 1536 = .ok (.ifCond .ne 15, 3) := sorry
theorem dL_law_1539 : decode cL_law 1539 = .ok (.aload_n 3, 1) := sorry
theorem dL_law_1540 : decode cL_law 1540 = .ok (.iconst 0, 1) := sorry
theorem dL_law_1541 : decode cL_law 1541 = .ok (.laload, 1) := sorry
theorem dL_law_1542 : decode cL_law 1542 = .ok (.iload 6, 2) := sorry
theorem dL_law_1544 : decode cL_law 1544 = .ok (.i2l, 1) := sorry
theorem dL_law_1545 : decode cL_law 1545 = .ok (.lcmp, 1) := sorry
theorem dL_law_1546 : decode cL_law 1546 = .ok (.ifCond .eq 5, 3) := sorry
theorem dL_law_1549 : decode cL_law 1549 = .ok (.iconst 0, 1) := sorry
theorem dL_law_1550 : decode cL_law 1550 = .ok (.ireturn, 1) := sorry
theorem dL_law_1551 : decode cL_law 1551 = .ok (.goto 711, 3) := sorry
theorem dL_law_1554 : decode cL_law 1554 = .ok (.aload_n 1, 1) := sorry
theorem dL_law_1555 : decode cL_law 1555 = .ok (.aload_n 0, 1) := sorry
theorem dL_law_1556 : decode cL_law 1556 = .ok (.iload 4, 2) := sorry
theorem dL_law_1558 : decode cL_law 1558 = .ok (.iconst 1, 1) := sorry
theorem dL_law_1559 : decode cL_law 1559 = .ok (.iadd, 1) := sorry
theorem dL_law_1560 : decode cL_law 1560 = .ok (.iaload, 1) := sorry
theorem dL_law_1561 : decode cL_law 1561 = .ok (.aload_n 0, 1) := sorry
theorem dL_law_1562 : decode cL_law 1562 = .ok (.iload 4, 2) := sorry
theorem dL_law_1564 : decode cL_law 1564 = .ok (.iconst 2, 1) := sorry
theorem dL_law_1565 : decode cL_law 1565 = .ok (.iadd, 1) := sorry
theorem dL_law_1566 : decode cL_law 1566 = .ok (.iaload, 1) := sorry
theorem dL_law_1567 : decode cL_law 1567 = .ok (.aload_n 3, 1) := sorry
theorem dL_law_1568 : decode cL_law 1568 = .ok (.invokestatic 196, 3) := sorry
theorem dL_law_1571 : decode cL_law 1571 = .ok (.istore 5, 2) := sorry
theorem dL_law_1573 : decode cL_law 1573 = .ok (.aload_n 2, 1) := sorry
theorem dL_law_1574 : decode cL_law 1574 = .ok (.aload_n 0, 1) := sorry
theorem dL_law_1575 : decode cL_law 1575 = .ok (.iload 4, 2) := sorry
theorem dL_law_1577 : decode cL_law 1577 = .ok (.iconst 1, 1) := sorry
theorem dL_law_1578 : decode cL_law 1578 = .ok (.iadd, 1) := sorry
theorem dL_law_1579 : decode cL_law 1579 = .ok (.iaload, 1) := sorry
theorem dL_law_1580 : decode cL_law 1580 = .ok (.aload_n 0, 1) := sorry
theorem dL_law_1581 : decode cL_law 1581 = .ok (.iload 4, 2) := sorry
theorem dL_law_1583 : decode cL_law 1583 = .ok (.iconst 2, 1) := sorry
theorem dL_law_1584 : decode cL_law 1584 = .ok (.iadd, 1) := sorry
theorem dL_law_1585 : decode cL_law 1585 = .ok (.iaload, 1) := sorry
theorem dL_law_1586 : decode cL_law 1586 = .ok (.invokevirtual 198, 3) := sorry
theorem dL_law_1589 : decode cL_law 1589 = .ok (.istore 6, 2) := sorry
theorem dL_law_1591 : decode cL_law 1591 = .ok (.aload_n 2, 1) := sorry
theorem dL_law_1592 : decode cL_law 1592 = .ok (.invokevirtual 123, 3) := sorry
theorem dL_law_1595 : decode cL_law 1595 = .ok (.iload 5, 2) := sorry
theorem dL_law_1597 : decode cL_law 1597 = .ok (.if_icmp .eq 5, 3) := sorry
theorem dL_law_1600 : decode cL_law 1600 = .ok (.iconst 0, 1) := sorry
theorem dL_law_1601 : decode cL_law 1601 = .ok (.ireturn, 1) := sorry
theorem dL_law_1602 : decode cL_law 1602 = .ok (.iload 5, 2) := sorry
theorem dL_law_1604 : decode cL_law 1604 = .ok (.ifCond .ne 15, 3) := sorry
theorem dL_law_1607 : decode cL_law 1607 = .ok (.aload_n 3, 1) := sorry
theorem dL_law_1608 : decode cL_law 1608 = .ok (.iconst 0, 1) := sorry
theorem dL_law_1609 : decode cL_law 1609 = .ok (.laload, 1) := sorry
theorem dL_law_1610 : decode cL_law 1610 = .ok (.iload 6, 2) := sorry
theorem dL_law_1612 : decode cL_law 1612 = .ok (.i2l, 1) := sorry
theorem dL_law_1613 : decode cL_law 1613 = .ok (.lcmp, 1) := sorry
theorem dL_law_1614 : decode cL_law 1614 = .ok (.ifCond .eq 5, 3) := sorry
theorem dL_law_1617 : decode cL_law 1617 = .ok (.iconst 0, 1) := sorry
theorem dL_law_1618 : decode cL_law 1618 = .ok (.ireturn, 1) := sorry
theorem dL_law_1619 : decode cL_law 1619 = .ok (.goto 643, 3) := sorry
theorem dL_law_1622 : decode cL_law 1622 = .ok (.aload_n 1, 1) := sorry
theorem dL_law_1623 : decode cL_law 1623 = .ok (.aload_n 3, 1) := sorry
theorem dL_law_1624 : decode cL_law 1624 = .ok (.invokestatic 199, 3) := sorry
theorem dL_law_1627 : decode cL_law 1627 = .ok (.istore 5, 2) := sorry
theorem dL_law_1629 : decode cL_law 1629 = .ok (.aload_n 2, 1) := sorry
theorem dL_law_1630 : decode cL_law 1630 = .ok (.invokevirtual 201, 3) := sorry
theorem dL_law_1633 : decode cL_law 1633 = .ok (.istore 6, 2) := sorry
theorem dL_law_1635 : decode cL_law 1635 = .ok (.aload_n 2, 1) := sorry
theorem dL_law_1636 : decode cL_law 1636 = .ok (.invokevirtual 123, 3) := sorry
theorem dL_law_1639 : decode cL_law 1639 = .ok (.iload 5, 2) := sorry
theorem dL_law_1641 : decode cL_law 1641 = .ok (.if_icmp .eq 5, 3) := sorry
theorem dL_law_1644 : decode cL_law 1644 = .ok (.iconst 0, 1) := sorry
theorem dL_law_1645 : decode cL_law 1645 = .ok (.ireturn, 1) := sorry
theorem dL_law_1646 : decode cL_law 1646 = .ok (.iload 5, 2) := sorry
theorem dL_law_1648 : decode cL_law 1648 = .ok (.ifCond .ne 15, 3) := sorry
theorem dL_law_1651 : decode cL_law 1651 = .ok (.aload_n 3, 1) := sorry
theorem dL_law_1652 : decode cL_law 1652 = .ok (.iconst 0, 1) := sorry
theorem dL_law_1653 : decode cL_law 1653 = .ok (.laload, 1) := sorry
theorem dL_law_1654 : decode cL_law 1654 = .ok (.iload 6, 2) := sorry
theorem dL_law_1656 : decode cL_law 1656 = .ok (.i2l, 1) := sorry
theorem dL_law_1657 : decode cL_law 1657 = .ok (.lcmp, 1) := sorry
theorem dL_law_1658 : decode cL_law 1658 = .ok (.ifCond .eq 5, 3) := sorry
theorem dL_law_1661 : decode cL_law 1661 = .ok (.iconst 0, 1) := sorry
theorem dL_law_1662 : decode cL_law 1662 = .ok (.ireturn, 1) := sorry
theorem dL_law_1663 : decode cL_law 1663 = .ok (.goto 599, 3) := sorry
theorem dL_law_1666 : decode cL_law 1666 = .ok (.aload_n 1, 1) := sorry
theorem dL_law_1667 : decode cL_law 1667 = .ok (.aload_n 0, 1) := sorry
theorem dL_law_1668 : decode cL_law 1668 = .ok (.iload 4, 2) := sorry
theorem dL_law_1670 : decode cL_law 1670 = .ok (.iconst 1, 1) := sorry
theorem dL_law_1671 : decode cL_law 1671 = .ok (.iadd, 1) := sorry
theorem dL_law_1672 : decode cL_law 1672 = .ok (.iaload, 1) := sorry
theorem dL_law_1673 : decode cL_law 1673 = .ok (.aload_n 0, 1) := sorry
theorem dL_law_1674 : decode cL_law 1674 = .ok (.iload 4, 2) := sorry
theorem dL_law_1676 : decode cL_law 1676 = .ok (.iconst 2, 1) := sorry
theorem dL_law_1677 : decode cL_law 1677 = .ok (.iadd, 1) := sorry
theorem dL_law_1678 : decode cL_law 1678 = .ok (.iaload, 1) := sorry
theorem dL_law_1679 : decode cL_law 1679 = .ok (.aload_n 0, 1) := sorry
theorem dL_law_1680 : decode cL_law 1680 = .ok (.iload 4, 2) := sorry
theorem dL_law_1682 : decode cL_law 1682 = .ok (.iconst 3, 1) := sorry
theorem dL_law_1683 : decode cL_law 1683 = .ok (.iadd, 1) := sorry
theorem dL_law_1684 : decode cL_law 1684 = .ok (.iaload, 1) := sorry
theorem dL_law_1685 : decode cL_law 1685 = .ok (.aload_n 0, 1) := sorry
theorem dL_law_1686 : decode cL_law 1686 = .ok (.iload 4, 2) := sorry
theorem dL_law_1688 : decode cL_law 1688 = .ok (.iconst 4, 1) := sorry
theorem dL_law_1689 : decode cL_law 1689 = .ok (.iadd, 1) := sorry
theorem dL_law_1690 : decode cL_law 1690 = .ok (.iaload, 1) := sorry
theorem dL_law_1691 : decode cL_law 1691 = .ok (.aload_n 3, 1) := sorry
theorem dL_law_1692 : decode cL_law 1692 = .ok (.invokestatic 202, 3) := sorry
theorem dL_law_1695 : decode cL_law 1695 = .ok (.istore 5, 2) := sorry
theorem dL_law_1697 : decode cL_law 1697 = .ok (.aload_n 2, 1) := sorry
theorem dL_law_1698 : decode cL_law 1698 = .ok (.aload_n 0, 1) := sorry
theorem dL_law_1699 : decode cL_law 1699 = .ok (.iload 4, 2) := sorry
theorem dL_law_1701 : decode cL_law 1701 = .ok (.iconst 1, 1) := sorry
theorem dL_law_1702 : decode cL_law 1702 = .ok (.iadd, 1) := sorry
theorem dL_law_1703 : decode cL_law 1703 = .ok (.iaload, 1) := sorry
theorem dL_law_1704 : decode cL_law 1704 = .ok (.aload_n 0, 1) := sorry
theorem dL_law_1705 : decode cL_law 1705 = .ok (.iload 4, 2) := sorry
theorem dL_law_1707 : decode cL_law 1707 = .ok (.iconst 2, 1) := sorry
theorem dL_law_1708 : decode cL_law 1708 = .ok (.iadd, 1) := sorry
theorem dL_law_1709 : decode cL_law 1709 = .ok (.iaload, 1) := sorry
theorem dL_law_1710 : decode cL_law 1710 = .ok (.aload_n 0, 1) := sorry
theorem dL_law_1711 : decode cL_law 1711 = .ok (.iload 4, 2) := sorry
theorem dL_law_1713 : decode cL_law 1713 = .ok (.iconst 3, 1) := sorry
theorem dL_law_1714 : decode cL_law 1714 = .ok (.iadd, 1) := sorry
theorem dL_law_1715 : decode cL_law 1715 = .ok (.iaload, 1) := sorry
theorem dL_law_1716 : decode cL_law 1716 = .ok (.aload_n 0, 1) := sorry
theorem dL_law_1717 : decode cL_law 1717 = .ok (.iload 4, 2) := sorry
theorem dL_law_1719 : decode cL_law 1719 = .ok (.iconst 4, 1) := sorry
theorem dL_law_1720 : decode cL_law 1720 = .ok (.iadd, 1) := sorry
theorem dL_law_1721 : decode cL_law 1721 = .ok (.iaload, 1) := sorry
theorem dL_law_1722 : decode cL_law 1722 = .ok (.invokevirtual 204, 3) := sorry
theorem dL_law_1725 : decode cL_law 1725 = .ok (.istore 6, 2) := sorry
theorem dL_law_1727 : decode cL_law 1727 = .ok (.aload_n 2, 1) := sorry
theorem dL_law_1728 : decode cL_law 1728 = .ok (.invokevirtual 123, 3) := sorry
theorem dL_law_1731 : decode cL_law 1731 = .ok (.iload 5, 2) := sorry
theorem dL_law_1733 : decode cL_law 1733 = .ok (.if_icmp .eq 5, 3) := sorry
theorem dL_law_1736 : decode cL_law 1736 = .ok (.iconst 0, 1) := sorry
theorem dL_law_1737 : decode cL_law 1737 = .ok (.ireturn, 1) := sorry
theorem dL_law_1738 : decode cL_law 1738 = .ok (.iload 5, 2) := sorry
theorem dL_law_1740 : decode cL_law 1740 = .ok (.ifCond .ne 15, 3) := sorry
theorem dL_law_1743 : decode cL_law 1743 = .ok (.aload_n 3, 1) := sorry
theorem dL_law_1744 : decode cL_law 1744 = .ok (.iconst 0, 1) := sorry
theorem dL_law_1745 : decode cL_law 1745 = .ok (.laload, 1) := sorry
theorem dL_law_1746 : decode cL_law 1746 = .ok (.iload 6, 2) := sorry
theorem dL_law_1748 : decode cL_law 1748 = .ok (.i2l, 1) := sorry
theorem dL_law_1749 : decode cL_law 1749 = .ok (.lcmp, 1) := sorry
theorem dL_law_1750 : decode cL_law 1750 = .ok (.ifCond .eq 5, 3) := sorry
theorem dL_law_1753 : decode cL_law 1753 = .ok (.iconst 0, 1) := sorry
theorem dL_law_1754 : decode cL_law 1754 = .ok (.ireturn, 1) := sorry
theorem dL_law_1755 : decode cL_law 1755 = .ok (.goto 507, 3) := sorry
theorem dL_law_1758 : decode cL_law 1758 = .ok (.aload_n 1, 1) := sorry
theorem dL_law_1759 : decode cL_law 1759 = .ok (.aload_n 0, 1) := sorry
theorem dL_law_1760 : decode cL_law 1760 = .ok (.iload 4, 2) := sorry
theorem dL_law_1762 : decode cL_law 1762 = .ok (.iconst 1, 1) := sorry
theorem dL_law_1763 : decode cL_law 1763 = .ok (.iadd, 1) := sorry
theorem dL_law_1764 : decode cL_law 1764 = .ok (.iaload, 1) := sorry
theorem dL_law_1765 : decode cL_law 1765 = .ok (.aload_n 0, 1) := sorry
theorem dL_law_1766 : decode cL_law 1766 = .ok (.iload 4, 2) := sorry
theorem dL_law_1768 : decode cL_law 1768 = .ok (.iconst 2, 1) := sorry
theorem dL_law_1769 : decode cL_law 1769 = .ok (.iadd, 1) := sorry
theorem dL_law_1770 : decode cL_law 1770 = .ok (.iaload, 1) := sorry
theorem dL_law_1771 : decode cL_law 1771 = .ok (.aload_n 3, 1) := sorry
theorem dL_law_1772 : decode cL_law 1772 = .ok (.invokestatic 205, 3) := sorry
theorem dL_law_1775 : decode cL_law 1775 = .ok (.istore 5, 2) := sorry
theorem dL_law_1777 : decode cL_law 1777 = .ok (.aload_n 2, 1) := sorry
theorem dL_law_1778 : decode cL_law 1778 = .ok (.aload_n 0, 1) := sorry
theorem dL_law_1779 : decode cL_law 1779 = .ok (.iload 4, 2) := sorry
theorem dL_law_1781 : decode cL_law 1781 = .ok (.iconst 1, 1) := sorry
theorem dL_law_1782 : decode cL_law 1782 = .ok (.iadd, 1) := sorry
theorem dL_law_1783 : decode cL_law 1783 = .ok (.iaload, 1) := sorry
theorem dL_law_1784 : decode cL_law 1784 = .ok (.aload_n 0, 1) := sorry
theorem dL_law_1785 : decode cL_law 1785 = .ok (.iload 4, 2) := sorry
theorem dL_law_1787 : decode cL_law 1787 = .ok (.iconst 2, 1) := sorry
theorem dL_law_1788 : decode cL_law 1788 = .ok (.iadd, 1) := sorry
theorem dL_law_1789 : decode cL_law 1789 = .ok (.iaload, 1) := sorry
theorem dL_law_1790 : decode cL_law 1790 = .ok (.invokevirtual 207, 3) := sorry
theorem dL_law_1793 : decode cL_law 1793 = .ok (.istore 6, 2) := sorry
theorem dL_law_1795 : decode cL_law 1795 = .ok (.aload_n 2, 1) := sorry
theorem dL_law_1796 : decode cL_law 1796 = .ok (.invokevirtual 123, 3) := sorry
theorem dL_law_1799 : decode cL_law 1799 = .ok (.iload 5, 2) := sorry
theorem dL_law_1801 : decode cL_law 1801 = .ok (.if_icmp .eq 5, 3) := sorry
theorem dL_law_1804 : decode cL_law 1804 = .ok (.iconst 0, 1) := sorry
theorem dL_law_1805 : decode cL_law 1805 = .ok (.ireturn, 1) := sorry
theorem dL_law_1806 : decode cL_law 1806 = .ok (.iload 5, 2) := sorry
theorem dL_law_1808 : decode cL_law 1808 = .ok (.ifCond .ne 15, 3) := sorry
theorem dL_law_1811 : decode cL_law 1811 = .ok (.aload_n 3, 1) := sorry
theorem dL_law_1812 : decode cL_law 1812 = .ok (.iconst 0, 1) := sorry
theorem dL_law_1813 : decode cL_law 1813 = .ok (.laload, 1) := sorry
theorem dL_law_1814 : decode cL_law 1814 = .ok (.iload 6, 2) := sorry
theorem dL_law_1816 : decode cL_law 1816 = .ok (.i2l, 1) := sorry
theorem dL_law_1817 : decode cL_law 1817 = .ok (.lcmp, 1) := sorry
theorem dL_law_1818 : decode cL_law 1818 = .ok (.ifCond .eq 5, 3) := sorry
theorem dL_law_1821 : decode cL_law 1821 = .ok (.iconst 0, 1) := sorry
theorem dL_law_1822 : decode cL_law 1822 = .ok (.ireturn, 1) := sorry
theorem dL_law_1823 : decode cL_law 1823 = .ok (.goto 439, 3) := sorry
theorem dL_law_1826 : decode cL_law 1826 = .ok (.aload_n 1, 1) := sorry
theorem dL_law_1827 : decode cL_law 1827 = .ok (.aload_n 0, 1) := sorry
theorem dL_law_1828 : decode cL_law 1828 = .ok (.iload 4, 2) := sorry
theorem dL_law_1830 : decode cL_law 1830 = .ok (.iconst 1, 1) := sorry
theorem dL_law_1831 : decode cL_law 1831 = .ok (.iadd, 1) := sorry
theorem dL_law_1832 : decode cL_law 1832 = .ok (.iaload, 1) := sorry
theorem dL_law_1833 : decode cL_law 1833 = .ok (.aload_n 0, 1) := sorry
theorem dL_law_1834 : decode cL_law 1834 = .ok (.iload 4, 2) := sorry
theorem dL_law_1836 : decode cL_law 1836 = .ok (.iconst 2, 1) := sorry
theorem dL_law_1837 : decode cL_law 1837 = .ok (.iadd, 1) := sorry
theorem dL_law_1838 : decode cL_law 1838 = .ok (.iaload, 1) := sorry
theorem dL_law_1839 : decode cL_law 1839 = .ok (.aload_n 3, 1) := sorry
theorem dL_law_1840 : decode cL_law 1840 = .ok (.invokestatic 208, 3) := sorry
theorem dL_law_1843 : decode cL_law 1843 = .ok (.istore 5, 2) := sorry
theorem dL_law_1845 : decode cL_law 1845 = .ok (.aload_n 2, 1) := sorry
theorem dL_law_1846 : decode cL_law 1846 = .ok (.aload_n 0, 1) := sorry
theorem dL_law_1847 : decode cL_law 1847 = .ok (.iload 4, 2) := sorry
theorem dL_law_1849 : decode cL_law 1849 = .ok (.iconst 1, 1) := sorry
theorem dL_law_1850 : decode cL_law 1850 = .ok (.iadd, 1) := sorry
theorem dL_law_1851 : decode cL_law 1851 = .ok (.iaload, 1) := sorry
theorem dL_law_1852 : decode cL_law 1852 = .ok (.aload_n 0, 1) := sorry
theorem dL_law_1853 : decode cL_law 1853 = .ok (.iload 4, 2) := sorry
theorem dL_law_1855 : decode cL_law 1855 = .ok (.iconst 2, 1) := sorry
theorem dL_law_1856 : decode cL_law 1856 = .ok (.iadd, 1) := sorry
theorem dL_law_1857 : decode cL_law 1857 = .ok (.iaload, 1) := sorry
theorem dL_law_1858 : decode cL_law 1858 = .ok (.invokevirtual 210, 3) := sorry
theorem dL_law_1861 : decode cL_law 1861 = .ok (.istore 6, 2) := sorry
theorem dL_law_1863 : decode cL_law 1863 = .ok (.aload_n 2, 1) := sorry
theorem dL_law_1864 : decode cL_law 1864 = .ok (.invokevirtual 123, 3) := sorry
theorem dL_law_1867 : decode cL_law 1867 = .ok (.iload 5, 2) := sorry
theorem dL_law_1869 : decode cL_law 1869 = .ok (.if_icmp .eq 5, 3) := sorry
theorem dL_law_1872 : decode cL_law 1872 = .ok (.iconst 0, 1) := sorry
theorem dL_law_1873 : decode cL_law 1873 = .ok (.ireturn, 1) := sorry
theorem dL_law_1874 : decode cL_law 1874 = .ok (.iload 5, 2) := sorry
theorem dL_law_1876 : decode cL_law 1876 = .ok (.ifCond .ne 15, 3) := sorry
theorem dL_law_1879 : decode cL_law 1879 = .ok (.aload_n 3, 1) := sorry
theorem dL_law_1880 : decode cL_law 1880 = .ok (.iconst 0, 1) := sorry
theorem dL_law_1881 : decode cL_law 1881 = .ok (.laload, 1) := sorry
theorem dL_law_1882 : decode cL_law 1882 = .ok (.iload 6, 2) := sorry
theorem dL_law_1884 : decode cL_law 1884 = .ok (.i2l, 1) := sorry
theorem dL_law_1885 : decode cL_law 1885 = .ok (.lcmp, 1) := sorry
theorem dL_law_1886 : decode cL_law 1886 = .ok (.ifCond .eq 5, 3) := sorry
theorem dL_law_1889 : decode cL_law 1889 = .ok (.iconst 0, 1) := sorry
theorem dL_law_1890 : decode cL_law 1890 = .ok (.ireturn, 1) := sorry
theorem dL_law_1891 : decode cL_law 1891 = .ok (.goto 371, 3) := sorry
theorem dL_law_1894 : decode cL_law 1894 = .ok (.aload_n 1, 1) := sorry
theorem dL_law_1895 : decode cL_law 1895 = .ok (.aload_n 0, 1) := sorry
theorem dL_law_1896 : decode cL_law 1896 = .ok (.iload 4, 2) := sorry
theorem dL_law_1898 : decode cL_law 1898 = .ok (.iconst 1, 1) := sorry
theorem dL_law_1899 : decode cL_law 1899 = .ok (.iadd, 1) := sorry
theorem dL_law_1900 : decode cL_law 1900 = .ok (.iaload, 1) := sorry
theorem dL_law_1901 : decode cL_law 1901 = .ok (.aload_n 3, 1) := sorry
theorem dL_law_1902 : decode cL_law 1902 = .ok (.invokestatic 211, 3) := sorry
theorem dL_law_1905 : decode cL_law 1905 = .ok (.istore 5, 2) := sorry
theorem dL_law_1907 : decode cL_law 1907 = .ok (.aload_n 2, 1) := sorry
theorem dL_law_1908 : decode cL_law 1908 = .ok (.aload_n 0, 1) := sorry
theorem dL_law_1909 : decode cL_law 1909 = .ok (.iload 4, 2) := sorry
theorem dL_law_1911 : decode cL_law 1911 = .ok (.iconst 1, 1) := sorry
theorem dL_law_1912 : decode cL_law 1912 = .ok (.iadd, 1) := sorry
theorem dL_law_1913 : decode cL_law 1913 = .ok (.iaload, 1) := sorry
theorem dL_law_1914 : decode cL_law 1914 = .ok (.invokevirtual 213, 3) := sorry
theorem dL_law_1917 : decode cL_law 1917 = .ok (.istore 6, 2) := sorry
theorem dL_law_1919 : decode cL_law 1919 = .ok (.aload_n 2, 1) := sorry
theorem dL_law_1920 : decode cL_law 1920 = .ok (.invokevirtual 123, 3) := sorry
theorem dL_law_1923 : decode cL_law 1923 = .ok (.iload 5, 2) := sorry
theorem dL_law_1925 : decode cL_law 1925 = .ok (.if_icmp .eq 5, 3) := sorry
theorem dL_law_1928 : decode cL_law 1928 = .ok (.iconst 0, 1) := sorry
theorem dL_law_1929 : decode cL_law 1929 = .ok (.ireturn, 1) := sorry
theorem dL_law_1930 : decode cL_law 1930 = .ok (.iload 5, 2) := sorry
theorem dL_law_1932 : decode cL_law 1932 = .ok (.ifCond .ne 15, 3) := sorry
theorem dL_law_1935 : decode cL_law 1935 = .ok (.aload_n 3, 1) := sorry
theorem dL_law_1936 : decode cL_law 1936 = .ok (.iconst 0, 1) := sorry
theorem dL_law_1937 : decode cL_law 1937 = .ok (.laload, 1) := sorry
theorem dL_law_1938 : decode cL_law 1938 = .ok (.iload 6, 2) := sorry
theorem dL_law_1940 : decode cL_law 1940 = .ok (.i2l, 1) := sorry
theorem dL_law_1941 : decode cL_law 1941 = .ok (.lcmp, 1) := sorry
theorem dL_law_1942 : decode cL_law 1942 = .ok (.ifCond .eq 5, 3) := sorry
theorem dL_law_1945 : decode cL_law 1945 = .ok (.iconst 0, 1) := sorry
theorem dL_law_1946 : decode cL_law 1946 = .ok (.ireturn, 1) := sorry
theorem dL_law_1947 : decode cL_law 1947 = .ok (.goto 315, 3) := sorry
theorem dL_law_1950 : decode cL_law 1950 = .ok (.aload_n 1, 1) := sorry
theorem dL_law_1951 : decode cL_law 1951 = .ok (.aload_n 0, 1) := sorry
theorem dL_law_1952 : decode cL_law 1952 = .ok (.iload 4, 2) := sorry
theorem dL_law_1954 : decode cL_law 1954 = .ok (.iconst 1, 1) := sorry
theorem dL_law_1955 : decode cL_law 1955 = .ok (.iadd, 1) := sorry
theorem dL_law_1956 : decode cL_law 1956 = .ok (.iaload, 1) := sorry
theorem dL_law_1957 : decode cL_law 1957 = .ok (.aload_n 0, 1) := sorry
theorem dL_law_1958 : decode cL_law 1958 = .ok (.iload 4, 2) := sorry
theorem dL_law_1960 : decode cL_law 1960 = .ok (.iconst 2, 1) := sorry
theorem dL_law_1961 : decode cL_law 1961 = .ok (.iadd, 1) := sorry
theorem dL_law_1962 : decode cL_law 1962 = .ok (.iaload, 1) := sorry
theorem dL_law_1963 : decode cL_law 1963 = .ok (.i2l, 1) := sorry
theorem dL_law_1964 : decode cL_law 1964 = .ok (.bipush 32, 2) := sorry
theorem dL_law_1966 : decode cL_law 1966 = .ok (.lshl, 1) := sorry
theorem dL_law_1967 : decode cL_law 1967 = .ok (.aload_n 0, 1) := sorry
theorem dL_law_1968 : decode cL_law 1968 = .ok (.iload 4, 2) := sorry
theorem dL_law_1970 : decode cL_law 1970 = .ok (.iconst 3, 1) := sorry
theorem dL_law_1971 : decode cL_law 1971 = .ok (.iadd, 1) := sorry
theorem dL_law_1972 : decode cL_law 1972 = .ok (.iaload, 1) := sorry
theorem dL_law_1973 : decode cL_law 1973 = .ok (.i2l, 1) := sorry
theorem dL_law_1974 : decode cL_law 1974 = .ok (.ldc2_w 214, 3) := sorry
theorem dL_law_1977 : decode cL_law 1977 = .ok (.land, 1) := sorry
theorem dL_law_1978 : decode cL_law 1978 = .ok (.lor, 1) := sorry
theorem dL_law_1979 : decode cL_law 1979 = .ok (.aload_n 3, 1) := sorry
theorem dL_law_1980 : decode cL_law 1980 = .ok (.invokestatic 216, 3) := sorry
theorem dL_law_1983 : decode cL_law 1983 = .ok (.istore 5, 2) := sorry
theorem dL_law_1985 : decode cL_law 1985 = .ok (.aload_n 2, 1) := sorry
theorem dL_law_1986 : decode cL_law 1986 = .ok (.aload_n 0, 1) := sorry
theorem dL_law_1987 : decode cL_law 1987 = .ok (.iload 4, 2) := sorry
theorem dL_law_1989 : decode cL_law 1989 = .ok (.iconst 1, 1) := sorry
theorem dL_law_1990 : decode cL_law 1990 = .ok (.iadd, 1) := sorry
theorem dL_law_1991 : decode cL_law 1991 = .ok (.iaload, 1) := sorry
theorem dL_law_1992 : decode cL_law 1992 = .ok (.aload_n 0, 1) := sorry
theorem dL_law_1993 : decode cL_law 1993 = .ok (.iload 4, 2) := sorry
theorem dL_law_1995 : decode cL_law 1995 = .ok (.iconst 2, 1) := sorry
theorem dL_law_1996 : decode cL_law 1996 = .ok (.iadd, 1) := sorry
theorem dL_law_1997 : decode cL_law 1997 = .ok (.iaload, 1) := sorry
theorem dL_law_1998 : decode cL_law 1998 = .ok (.i2l, 1) := sorry
theorem dL_law_1999 : decode cL_law 1999 = .ok (.bipush 32, 2) := sorry
theorem dL_law_2001 : decode cL_law 2001 = .ok (.lshl, 1) := sorry
theorem dL_law_2002 : decode cL_law 2002 = .ok (.aload_n 0, 1) := sorry
theorem dL_law_2003 : decode cL_law 2003 = .ok (.iload 4, 2) := sorry
theorem dL_law_2005 : decode cL_law 2005 = .ok (.iconst 3, 1) := sorry
theorem dL_law_2006 : decode cL_law 2006 = .ok (.iadd, 1) := sorry
theorem dL_law_2007 : decode cL_law 2007 = .ok (.iaload, 1) := sorry
theorem dL_law_2008 : decode cL_law 2008 = .ok (.i2l, 1) := sorry
theorem dL_law_2009 : decode cL_law 2009 = .ok (.ldc2_w 214, 3) := sorry
theorem dL_law_2012 : decode cL_law 2012 = .ok (.land, 1) := sorry
theorem dL_law_2013 : decode cL_law 2013 = .ok (.lor, 1) := sorry
theorem dL_law_2014 : decode cL_law 2014 = .ok (.invokevirtual 219, 3) := sorry
theorem dL_law_2017 : decode cL_law 2017 = .ok (.istore 6, 2) := sorry
theorem dL_law_2019 : decode cL_law 2019 = .ok (.aload_n 2, 1) := sorry
theorem dL_law_2020 : decode cL_law 2020 = .ok (.invokevirtual 123, 3) := sorry
theorem dL_law_2023 : decode cL_law 2023 = .ok (.iload 5, 2) := sorry
theorem dL_law_2025 : decode cL_law 2025 = .ok (.if_icmp .eq 5, 3) := sorry
theorem dL_law_2028 : decode cL_law 2028 = .ok (.iconst 0, 1) := sorry
theorem dL_law_2029 : decode cL_law 2029 = .ok (.ireturn, 1) := sorry
theorem dL_law_2030 : decode cL_law 2030 = .ok (.iload 5, 2) := sorry
theorem dL_law_2032 : decode cL_law 2032 = .ok (.ifCond .ne 15, 3) := sorry
theorem dL_law_2035 : decode cL_law 2035 = .ok (.aload_n 3, 1) := sorry
theorem dL_law_2036 : decode cL_law 2036 = .ok (.iconst 0, 1) := sorry
theorem dL_law_2037 : decode cL_law 2037 = .ok (.laload, 1) := sorry
theorem dL_law_2038 : decode cL_law 2038 = .ok (.iload 6, 2) := sorry
theorem dL_law_2040 : decode cL_law 2040 = .ok (.i2l, 1) := sorry
theorem dL_law_2041 : decode cL_law 2041 = .ok (.lcmp, 1) := sorry
theorem dL_law_2042 : decode cL_law 2042 = .ok (.ifCond .eq 5, 3) := sorry
theorem dL_law_2045 : decode cL_law 2045 = .ok (.iconst 0, 1) := sorry
theorem dL_law_2046 : decode cL_law 2046 = .ok (.ireturn, 1) := sorry
theorem dL_law_2047 : decode cL_law 2047 = .ok (.goto 215, 3) := sorry
theorem dL_law_2050 : decode cL_law 2050 = .ok (.aload_n 1, 1) := sorry
theorem dL_law_2051 : decode cL_law 2051 = .ok (.aload_n 0, 1) := sorry
theorem dL_law_2052 : decode cL_law 2052 = .ok (.iload 4, 2) := sorry
theorem dL_law_2054 : decode cL_law 2054 = .ok (.iconst 1, 1) := sorry
theorem dL_law_2055 : decode cL_law 2055 = .ok (.iadd, 1) := sorry
theorem dL_law_2056 : decode cL_law 2056 = .ok (.iaload, 1) := sorry
theorem dL_law_2057 : decode cL_law 2057 = .ok (.i2l, 1) := sorry
theorem dL_law_2058 : decode cL_law 2058 = .ok (.bipush 32, 2) := sorry
theorem dL_law_2060 : decode cL_law 2060 = .ok (.lshl, 1) := sorry
theorem dL_law_2061 : decode cL_law 2061 = .ok (.aload_n 0, 1) := sorry
theorem dL_law_2062 : decode cL_law 2062 = .ok (.iload 4, 2) := sorry
theorem dL_law_2064 : decode cL_law 2064 = .ok (.iconst 2, 1) := sorry
theorem dL_law_2065 : decode cL_law 2065 = .ok (.iadd, 1) := sorry
theorem dL_law_2066 : decode cL_law 2066 = .ok (.iaload, 1) := sorry
theorem dL_law_2067 : decode cL_law 2067 = .ok (.i2l, 1) := sorry
theorem dL_law_2068 : decode cL_law 2068 = .ok (.ldc2_w 214, 3) := sorry
theorem dL_law_2071 : decode cL_law 2071 = .ok (.land, 1) := sorry
theorem dL_law_2072 : decode cL_law 2072 = .ok (.lor, 1) := sorry
theorem dL_law_2073 : decode cL_law 2073 = .ok (.aload_n 0, 1) := sorry
theorem dL_law_2074 : decode cL_law 2074 = .ok (.iload 4, 2) := sorry
theorem dL_law_2076 : decode cL_law 2076 = .ok (.iconst 3, 1) := sorry
theorem dL_law_2077 : decode cL_law 2077 = .ok (.iadd, 1) := sorry
theorem dL_law_2078 : decode cL_law 2078 = .ok (.iaload, 1) := sorry
theorem dL_law_2079 : decode cL_law 2079 = .ok (.aload_n 3, 1) := sorry
theorem dL_law_2080 : decode cL_law 2080 = .ok (.invokestatic 220, 3) := sorry
theorem dL_law_2083 : decode cL_law 2083 = .ok (.istore 5, 2) := sorry
theorem dL_law_2085 : decode cL_law 2085 = .ok (.aload_n 2, 1) := sorry
theorem dL_law_2086 : decode cL_law 2086 = .ok (.aload_n 0, 1) := sorry
theorem dL_law_2087 : decode cL_law 2087 = .ok (.iload 4, 2) := sorry
theorem dL_law_2089 : decode cL_law 2089 = .ok (.iconst 1, 1) := sorry
theorem dL_law_2090 : decode cL_law 2090 = .ok (.iadd, 1) := sorry
theorem dL_law_2091 : decode cL_law 2091 = .ok (.iaload, 1) := sorry
theorem dL_law_2092 : decode cL_law 2092 = .ok (.i2l, 1) := sorry
theorem dL_law_2093 : decode cL_law 2093 = .ok (.bipush 32, 2) := sorry
theorem dL_law_2095 : decode cL_law 2095 = .ok (.lshl, 1) := sorry
theorem dL_law_2096 : decode cL_law 2096 = .ok (.aload_n 0, 1) := sorry
theorem dL_law_2097 : decode cL_law 2097 = .ok (.iload 4, 2) := sorry
theorem dL_law_2099 : decode cL_law 2099 = .ok (.iconst 2, 1) := sorry
theorem dL_law_2100 : decode cL_law 2100 = .ok (.iadd, 1) := sorry
theorem dL_law_2101 : decode cL_law 2101 = .ok (.iaload, 1) := sorry
theorem dL_law_2102 : decode cL_law 2102 = .ok (.i2l, 1) := sorry
theorem dL_law_2103 : decode cL_law 2103 = .ok (.ldc2_w 214, 3) := sorry
theorem dL_law_2106 : decode cL_law 2106 = .ok (.land, 1) := sorry
theorem dL_law_2107 : decode cL_law 2107 = .ok (.lor, 1) := sorry
theorem dL_law_2108 : decode cL_law 2108 = .ok (.aload_n 0, 1) := sorry
theorem dL_law_2109 : decode cL_law 2109 = .ok (.iload 4, 2) := sorry
theorem dL_law_2111 : decode cL_law 2111 = .ok (.iconst 3, 1) := sorry
theorem dL_law_2112 : decode cL_law 2112 = .ok (.iadd, 1) := sorry
theorem dL_law_2113 : decode cL_law 2113 = .ok (.iaload, 1) := sorry
theorem dL_law_2114 : decode cL_law 2114 = .ok (.invokevirtual 223, 3) := sorry
theorem dL_law_2117 : decode cL_law 2117 = .ok (.istore 6, 2) := sorry
theorem dL_law_2119 : decode cL_law 2119 = .ok (.aload_n 2, 1) := sorry
theorem dL_law_2120 : decode cL_law 2120 = .ok (.invokevirtual 123, 3) := sorry
theorem dL_law_2123 : decode cL_law 2123 = .ok (.iload 5, 2) := sorry
theorem dL_law_2125 : decode cL_law 2125 = .ok (.if_icmp .eq 5, 3) := sorry
theorem dL_law_2128 : decode cL_law 2128 = .ok (.iconst 0, 1) := sorry
theorem dL_law_2129 : decode cL_law 2129 = .ok (.ireturn, 1) := sorry
theorem dL_law_2130 : decode cL_law 2130 = .ok (.iload 5, 2) := sorry
theorem dL_law_2132 : decode cL_law 2132 = .ok (.ifCond .ne 15, 3) := sorry
theorem dL_law_2135 : decode cL_law 2135 = .ok (.aload_n 3, 1) := sorry
theorem dL_law_2136 : decode cL_law 2136 = .ok (.iconst 0, 1) := sorry
theorem dL_law_2137 : decode cL_law 2137 = .ok (.laload, 1) := sorry
theorem dL_law_2138 : decode cL_law 2138 = .ok (.iload 6, 2) := sorry
theorem dL_law_2140 : decode cL_law 2140 = .ok (.i2l, 1) := sorry
theorem dL_law_2141 : decode cL_law 2141 = .ok (.lcmp, 1) := sorry
theorem dL_law_2142 : decode cL_law 2142 = .ok (.ifCond .eq 5, 3) := sorry
theorem dL_law_2145 : decode cL_law 2145 = .ok (.iconst 0, 1) := sorry
theorem dL_law_2146 : decode cL_law 2146 = .ok (.ireturn, 1) := sorry
theorem dL_law_2147 : decode cL_law 2147 = .ok (.goto 115, 3) := sorry
theorem dL_law_2150 : decode cL_law 2150 = .ok (.aload_n 1, 1) := sorry
theorem dL_law_2151 : decode cL_law 2151 = .ok (.aload_n 0, 1) := sorry
theorem dL_law_2152 : decode cL_law 2152 = .ok (.iload 4, 2) := sorry
theorem dL_law_2154 : decode cL_law 2154 = .ok (.iconst 1, 1) := sorry
theorem dL_law_2155 : decode cL_law 2155 = .ok (.iadd, 1) := sorry
theorem dL_law_2156 : decode cL_law 2156 = .ok (.iaload, 1) := sorry
theorem dL_law_2157 : decode cL_law 2157 = .ok (.aload_n 3, 1) := sorry
theorem dL_law_2158 : decode cL_law 2158 = .ok (.invokestatic 224, 3) := sorry
theorem dL_law_2161 : decode cL_law 2161 = .ok (.istore 5, 2) := sorry
theorem dL_law_2163 : decode cL_law 2163 = .ok (.aload_n 2, 1) := sorry
theorem dL_law_2164 : decode cL_law 2164 = .ok (.aload_n 0, 1) := sorry
theorem dL_law_2165 : decode cL_law 2165 = .ok (.iload 4, 2) := sorry
theorem dL_law_2167 : decode cL_law 2167 = .ok (.iconst 1, 1) := sorry
theorem dL_law_2168 : decode cL_law 2168 = .ok (.iadd, 1) := sorry
theorem dL_law_2169 : decode cL_law 2169 = .ok (.iaload, 1) := sorry
theorem dL_law_2170 : decode cL_law 2170 = .ok (.invokevirtual 226, 3) := sorry
theorem dL_law_2173 : decode cL_law 2173 = .ok (.istore 6, 2) := sorry
theorem dL_law_2175 : decode cL_law 2175 = .ok (.aload_n 2, 1) := sorry
theorem dL_law_2176 : decode cL_law 2176 = .ok (.invokevirtual 123, 3) := sorry
theorem dL_law_2179 : decode cL_law 2179 = .ok (.iload 5, 2) := sorry
theorem dL_law_2181 : decode cL_law 2181 = .ok (.if_icmp .eq 5, 3) := sorry
theorem dL_law_2184 : decode cL_law 2184 = .ok (.iconst 0, 1) := sorry
theorem dL_law_2185 : decode cL_law 2185 = .ok (.ireturn, 1) := sorry
theorem dL_law_2186 : decode cL_law 2186 = .ok (.iload 5, 2) := sorry
theorem dL_law_2188 : decode cL_law 2188 = .ok (.ifCond .ne 15, 3) := sorry
theorem dL_law_2191 : decode cL_law 2191 = .ok (.aload_n 3, 1) := sorry
theorem dL_law_2192 : decode cL_law 2192 = .ok (.iconst 0, 1) := sorry
theorem dL_law_2193 : decode cL_law 2193 = .ok (.laload, 1) := sorry
theorem dL_law_2194 : decode cL_law 2194 = .ok (.iload 6, 2) := sorry
theorem dL_law_2196 : decode cL_law 2196 = .ok (.i2l, 1) := sorry
theorem dL_law_2197 : decode cL_law 2197 = .ok (.lcmp, 1) := sorry
theorem dL_law_2198 : decode cL_law 2198 = .ok (.ifCond .eq 5, 3) := sorry
theorem dL_law_2201 : decode cL_law 2201 = .ok (.iconst 0, 1) := sorry
theorem dL_law_2202 : decode cL_law 2202 = .ok (.ireturn, 1) := sorry
theorem dL_law_2203 : decode cL_law 2203 = .ok (.goto 59, 3) := sorry
theorem dL_law_2206 : decode cL_law 2206 = .ok (.aload_n 1, 1) := sorry
theorem dL_law_2207 : decode cL_law 2207 = .ok (.aload_n 0, 1) := sorry
theorem dL_law_2208 : decode cL_law 2208 = .ok (.iload 4, 2) := sorry
theorem dL_law_2210 : decode cL_law 2210 = .ok (.iconst 1, 1) := sorry
theorem dL_law_2211 : decode cL_law 2211 = .ok (.iadd, 1) := sorry
theorem dL_law_2212 : decode cL_law 2212 = .ok (.iaload, 1) := sorry
theorem dL_law_2213 : decode cL_law 2213 = .ok (.aload_n 3, 1) := sorry
theorem dL_law_2214 : decode cL_law 2214 = .ok (.invokestatic 227, 3) := sorry
theorem dL_law_2217 : decode cL_law 2217 = .ok (.istore 5, 2) := sorry
theorem dL_law_2219 : decode cL_law 2219 = .ok (.aload_n 2, 1) := sorry
theorem dL_law_2220 : decode cL_law 2220 = .ok (.aload_n 0, 1) := sorry
theorem dL_law_2221 : decode cL_law 2221 = .ok (.iload 4, 2) := sorry
theorem dL_law_2223 : decode cL_law 2223 = .ok (.iconst 1, 1) := sorry
theorem dL_law_2224 : decode cL_law 2224 = .ok (.iadd, 1) := sorry
theorem dL_law_2225 : decode cL_law 2225 = .ok (.iaload, 1) := sorry
theorem dL_law_2226 : decode cL_law 2226 = .ok (.invokevirtual 229, 3) := sorry
theorem dL_law_2229 : decode cL_law 2229 = .ok (.istore 6, 2) := sorry
theorem dL_law_2231 : decode cL_law 2231 = .ok (.aload_n 2, 1) := sorry
theorem dL_law_2232 : decode cL_law 2232 = .ok (.invokevirtual 123, 3) := sorry
theorem dL_law_2235 : decode cL_law 2235 = .ok (.iload 5, 2) := sorry
theorem dL_law_2237 : decode cL_law 2237 = .ok (.if_icmp .eq 5, 3) := sorry
theorem dL_law_2240 : decode cL_law 2240 = .ok (.iconst 0, 1) := sorry
theorem dL_law_2241 : decode cL_law 2241 = .ok (.ireturn, 1) := sorry
theorem dL_law_2242 : decode cL_law 2242 = .ok (.iload 5, 2) := sorry
theorem dL_law_2244 : decode cL_law 2244 = .ok (.ifCond .ne 15, 3) := sorry
theorem dL_law_2247 : decode cL_law 2247 = .ok (.aload_n 3, 1) := sorry
theorem dL_law_2248 : decode cL_law 2248 = .ok (.iconst 0, 1) := sorry
theorem dL_law_2249 : decode cL_law 2249 = .ok (.laload, 1) := sorry
theorem dL_law_2250 : decode cL_law 2250 = .ok (.iload 6, 2) := sorry
theorem dL_law_2252 : decode cL_law 2252 = .ok (.i2l, 1) := sorry
theorem dL_law_2253 : decode cL_law 2253 = .ok (.lcmp, 1) := sorry
theorem dL_law_2254 : decode cL_law 2254 = .ok (.ifCond .eq 5, 3) := sorry
theorem dL_law_2257 : decode cL_law 2257 = .ok (.iconst 0, 1) := sorry
theorem dL_law_2258 : decode cL_law 2258 = .ok (.ireturn, 1) := sorry
theorem dL_law_2259 : decode cL_law 2259 = .ok (.goto 3, 3) := sorry
theorem dL_law_2262 : decode cL_law 2262 = .ok (.iinc 4 5, 3) := sorry
theorem dL_law_2265 : decode cL_law 2265 = .ok (.goto (-2242), 3) := sorry
theorem dL_law_2268 : decode cL_law 2268 = .ok (.iconst 1, 1) := sorry
theorem dL_law_2269 : decode cL_law 2269 = .ok (.ireturn, 1) := sorry
theorem hdL_append : yL_append.cls ≠ "java/lang/invoke/MethodHandle" ∧ yL_append.cls ≠ "java/lang/invoke/VarHandle" ∧ (parseMethodDescriptor yL_append.desc).map (fun d => d.parameters.length) = some 3 := sorry
theorem hdL_load : yL_load.cls ≠ "java/lang/invoke/MethodHandle" ∧ yL_load.cls ≠ "java/lang/invoke/VarHandle" ∧ (parseMethodDescriptor yL_load.desc).map (fun d => d.parameters.length) = some 2 := sorry
theorem hdL_about : yL_about.cls ≠ "java/lang/invoke/MethodHandle" ∧ yL_about.cls ≠ "java/lang/invoke/VarHandle" ∧ (parseMethodDescriptor yL_about.desc).map (fun d => d.parameters.length) = some 3 := sorry
theorem hdL_prisoner : yL_prisoner.cls ≠ "java/lang/invoke/MethodHandle" ∧ yL_prisoner.cls ≠ "java/lang/invoke/VarHandle" ∧ (parseMethodDescriptor yL_prisoner.desc).map (fun d => d.parameters.length) = some 4 := sorry
theorem hdL_visitor : yL_visitor.cls ≠ "java/lang/invoke/MethodHandle" ∧ yL_visitor.cls ≠ "java/lang/invoke/VarHandle" ∧ (parseMethodDescriptor yL_visitor.desc).map (fun d => d.parameters.length) = some 4 := sorry
theorem hdL_booking : yL_booking.cls ≠ "java/lang/invoke/MethodHandle" ∧ yL_booking.cls ≠ "java/lang/invoke/VarHandle" ∧ (parseMethodDescriptor yL_booking.desc).map (fun d => d.parameters.length) = some 4 := sorry
theorem hdL_line : yL_line.cls ≠ "java/lang/invoke/MethodHandle" ∧ yL_line.cls ≠ "java/lang/invoke/VarHandle" ∧ (parseMethodDescriptor yL_line.desc).map (fun d => d.parameters.length) = some 4 := sorry
theorem hdL_wishAt : yL_wishAt.cls ≠ "java/lang/invoke/MethodHandle" ∧ yL_wishAt.cls ≠ "java/lang/invoke/VarHandle" ∧ (parseMethodDescriptor yL_wishAt.desc).map (fun d => d.parameters.length) = some 3 := sorry
theorem hdL_setting : yL_setting.cls ≠ "java/lang/invoke/MethodHandle" ∧ yL_setting.cls ≠ "java/lang/invoke/VarHandle" ∧ (parseMethodDescriptor yL_setting.desc).map (fun d => d.parameters.length) = some 3 := sorry
theorem hdL_addPrisoner : yL_addPrisoner.cls ≠ "java/lang/invoke/MethodHandle" ∧ yL_addPrisoner.cls ≠ "java/lang/invoke/VarHandle" ∧ (parseMethodDescriptor yL_addPrisoner.desc).map (fun d => d.parameters.length) = some 3 := sorry
theorem hdL_promote : yL_promote.cls ≠ "java/lang/invoke/MethodHandle" ∧ yL_promote.cls ≠ "java/lang/invoke/VarHandle" ∧ (parseMethodDescriptor yL_promote.desc).map (fun d => d.parameters.length) = some 4 := sorry
theorem hdL_list : yL_list.cls ≠ "java/lang/invoke/MethodHandle" ∧ yL_list.cls ≠ "java/lang/invoke/VarHandle" ∧ (parseMethodDescriptor yL_list.desc).map (fun d => d.parameters.length) = some 5 := sorry
theorem hdL_keepApart : yL_keepApart.cls ≠ "java/lang/invoke/MethodHandle" ∧ yL_keepApart.cls ≠ "java/lang/invoke/VarHandle" ∧ (parseMethodDescriptor yL_keepApart.desc).map (fun d => d.parameters.length) = some 5 := sorry
theorem hdL_book : yL_book.cls ≠ "java/lang/invoke/MethodHandle" ∧ yL_book.cls ≠ "java/lang/invoke/VarHandle" ∧ (parseMethodDescriptor yL_book.desc).map (fun d => d.parameters.length) = some 6 := sorry
theorem hdL_cancel : yL_cancel.cls ≠ "java/lang/invoke/MethodHandle" ∧ yL_cancel.cls ≠ "java/lang/invoke/VarHandle" ∧ (parseMethodDescriptor yL_cancel.desc).map (fun d => d.parameters.length) = some 3 := sorry
theorem hdL_late : yL_late.cls ≠ "java/lang/invoke/MethodHandle" ∧ yL_late.cls ≠ "java/lang/invoke/VarHandle" ∧ (parseMethodDescriptor yL_late.desc).map (fun d => d.parameters.length) = some 4 := sorry
theorem hdL_carry : yL_carry.cls ≠ "java/lang/invoke/MethodHandle" ∧ yL_carry.cls ≠ "java/lang/invoke/VarHandle" ∧ (parseMethodDescriptor yL_carry.desc).map (fun d => d.parameters.length) = some 4 := sorry
theorem hdL_punish : yL_punish.cls ≠ "java/lang/invoke/MethodHandle" ∧ yL_punish.cls ≠ "java/lang/invoke/VarHandle" ∧ (parseMethodDescriptor yL_punish.desc).map (fun d => d.parameters.length) = some 4 := sorry
theorem hdL_wish : yL_wish.cls ≠ "java/lang/invoke/MethodHandle" ∧ yL_wish.cls ≠ "java/lang/invoke/VarHandle" ∧ (parseMethodDescriptor yL_wish.desc).map (fun d => d.parameters.length) = some 4 := sorry
theorem hdL_run : yL_run.cls ≠ "java/lang/invoke/MethodHandle" ∧ yL_run.cls ≠ "java/lang/invoke/VarHandle" ∧ (parseMethodDescriptor yL_run.desc).map (fun d => d.parameters.length) = some 3 := sorry
theorem hdL_set : yL_set.cls ≠ "java/lang/invoke/MethodHandle" ∧ yL_set.cls ≠ "java/lang/invoke/VarHandle" ∧ (parseMethodDescriptor yL_set.desc).map (fun d => d.parameters.length) = some 4 := sorry
theorem hdL_undo : yL_undo.cls ≠ "java/lang/invoke/MethodHandle" ∧ yL_undo.cls ≠ "java/lang/invoke/VarHandle" ∧ (parseMethodDescriptor yL_undo.desc).map (fun d => d.parameters.length) = some 2 := sorry
theorem hdL_whyNot : yL_whyNot.cls ≠ "java/lang/invoke/MethodHandle" ∧ yL_whyNot.cls ≠ "java/lang/invoke/VarHandle" ∧ (parseMethodDescriptor yL_whyNot.desc).map (fun d => d.parameters.length) = some 6 := sorry
theorem hdL_firstTime : yL_firstTime.cls ≠ "java/lang/invoke/MethodHandle" ∧ yL_firstTime.cls ≠ "java/lang/invoke/VarHandle" ∧ (parseMethodDescriptor yL_firstTime.desc).map (fun d => d.parameters.length) = some 4 := sorry
theorem hdL_coming : yL_coming.cls ≠ "java/lang/invoke/MethodHandle" ∧ yL_coming.cls ≠ "java/lang/invoke/VarHandle" ∧ (parseMethodDescriptor yL_coming.desc).map (fun d => d.parameters.length) = some 4 := sorry
theorem hdL_becomes : yL_becomes.cls ≠ "java/lang/invoke/MethodHandle" ∧ yL_becomes.cls ≠ "java/lang/invoke/VarHandle" ∧ (parseMethodDescriptor yL_becomes.desc).map (fun d => d.parameters.length) = some 3 := sorry
theorem hdL_runScript : yL_runScript.cls ≠ "java/lang/invoke/MethodHandle" ∧ yL_runScript.cls ≠ "java/lang/invoke/VarHandle" ∧ (parseMethodDescriptor yL_runScript.desc).map (fun d => d.parameters.length) = some 4 := sorry
theorem hdL_simulate : yL_simulate.cls ≠ "java/lang/invoke/MethodHandle" ∧ yL_simulate.cls ≠ "java/lang/invoke/VarHandle" ∧ (parseMethodDescriptor yL_simulate.desc).map (fun d => d.parameters.length) = some 4 := sorry
theorem hdL_save : yL_save.cls ≠ "java/lang/invoke/MethodHandle" ∧ yL_save.cls ≠ "java/lang/invoke/VarHandle" ∧ (parseMethodDescriptor yL_save.desc).map (fun d => d.parameters.length) = some 3 := sorry
theorem hdL_restore : yL_restore.cls ≠ "java/lang/invoke/MethodHandle" ∧ yL_restore.cls ≠ "java/lang/invoke/VarHandle" ∧ (parseMethodDescriptor yL_restore.desc).map (fun d => d.parameters.length) = some 3 := sorry
