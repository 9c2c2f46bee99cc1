/-! ===== rows of the law's methods, 32 ===== -/
theorem dL_tells_330 : decode cL_tells 330 = .ok (.aload_n 0, 1) := by decide +kernel
theorem dL_tells_331 : decode cL_tells 331 = .ok (.bipush 119, 2) := by decide +kernel
theorem dL_tells_333 : decode cL_tells 333 = .ok (.invokestatic 249, 3) := by decide +kernel
theorem dL_tells_336 : decode cL_tells 336 = .ok (.ifCond .eq 111, 3) := by decide +kernel
theorem dL_tells_339 : decode cL_tells 339 = .ok (.aload_n 0, 1) := by decide +kernel
theorem dL_tells_340 : decode cL_tells 340 = .ok (.bipush 105, 2) := by decide +kernel
theorem dL_tells_342 : decode cL_tells 342 = .ok (.invokestatic 249, 3) := by decide +kernel
theorem dL_tells_345 : decode cL_tells 345 = .ok (.ifCond .eq 102, 3) := by decide +kernel
theorem dL_tells_348 : decode cL_tells 348 = .ok (.aload_n 0, 1) := by decide +kernel
theorem dL_tells_349 : decode cL_tells 349 = .ok (.bipush 115, 2) := by decide +kernel
theorem dL_tells_351 : decode cL_tells 351 = .ok (.invokestatic 249, 3) := by decide +kernel
theorem dL_tells_354 : decode cL_tells 354 = .ok (.ifCond .eq 93, 3) := by decide +kernel
theorem dL_tells_357 : decode cL_tells 357 = .ok (.aload_n 0, 1) := by decide +kernel
theorem dL_tells_358 : decode cL_tells 358 = .ok (.bipush 104, 2) := by decide +kernel
theorem dL_tells_360 : decode cL_tells 360 = .ok (.invokestatic 249, 3) := by decide +kernel
theorem dL_tells_363 : decode cL_tells 363 = .ok (.ifCond .eq 84, 3) := by decide +kernel
theorem dL_tells_366 : decode cL_tells 366 = .ok (.aload_n 0, 1) := by decide +kernel
theorem dL_tells_367 : decode cL_tells 367 = .ok (.iload_n 1, 1) := by decide +kernel
theorem dL_tells_368 : decode cL_tells 368 = .ok (.iconst 4, 1) := by decide +kernel
theorem dL_tells_369 : decode cL_tells 369 = .ok (.irem, 1) := by decide +kernel
theorem dL_tells_370 : decode cL_tells 370 = .ok (.invokestatic 257, 3) := by decide +kernel
theorem dL_tells_373 : decode cL_tells 373 = .ok (.ifCond .eq 74, 3) := by decide +kernel
theorem dL_tells_376 : decode cL_tells 376 = .ok (.aload_n 0, 1) := by decide +kernel
theorem dL_tells_377 : decode cL_tells 377 = .ok (.iload_n 2, 1) := by decide +kernel
theorem dL_tells_378 : decode cL_tells 378 = .ok (.bipush 10, 2) := by decide +kernel
theorem dL_tells_380 : decode cL_tells 380 = .ok (.irem, 1) := by decide +kernel
theorem dL_tells_381 : decode cL_tells 381 = .ok (.invokestatic 257, 3) := by decide +kernel
theorem dL_tells_384 : decode cL_tells 384 = .ok (.ifCond .eq 63, 3) := by decide +kernel
theorem dL_tells_387 : decode cL_tells 387 = .ok (.aload_n 0, 1) := by decide +kernel
theorem dL_tells_388 : decode cL_tells 388 = .ok (.bipush 59, 2) := by decide +kernel
theorem dL_tells_390 : decode cL_tells 390 = .ok (.invokestatic 249, 3) := by decide +kernel
theorem dL_tells_393 : decode cL_tells 393 = .ok (.ifCond .eq 54, 3) := by decide +kernel
theorem dL_tells_396 : decode cL_tells 396 = .ok (.aload_n 0, 1) := by decide +kernel
theorem dL_tells_397 : decode cL_tells 397 = .ok (.bipush 114, 2) := by decide +kernel
theorem dL_tells_399 : decode cL_tells 399 = .ok (.invokestatic 249, 3) := by decide +kernel
theorem dL_tells_402 : decode cL_tells 402 = .ok (.ifCond .eq 45, 3) := by decide +kernel
theorem dL_tells_405 : decode cL_tells 405 = .ok (.aload_n 0, 1) := by decide +kernel
theorem dL_tells_406 : decode cL_tells 406 = .ok (.bipush 117, 2) := by decide +kernel
theorem dL_tells_408 : decode cL_tells 408 = .ok (.invokestatic 249, 3) := by decide +kernel
theorem dL_tells_411 : decode cL_tells 411 = .ok (.ifCond .eq 36, 3) := by decide +kernel
theorem dL_tells_414 : decode cL_tells 414 = .ok (.aload_n 0, 1) := by decide +kernel
theorem dL_tells_415 : decode cL_tells 415 = .ok (.bipush 110, 2) := by decide +kernel
theorem dL_tells_417 : decode cL_tells 417 = .ok (.invokestatic 249, 3) := by decide +kernel
theorem dL_tells_420 : decode cL_tells 420 = .ok (.ifCond .eq 27, 3) := by decide +kernel
theorem dL_tells_423 : decode cL_tells 423 = .ok (.aload_n 0, 1) := by decide +kernel
theorem dL_tells_424 : decode cL_tells 424 = .ok (.iconst 1, 1) := by decide +kernel
theorem dL_tells_425 : decode cL_tells 425 = .ok (.iload_n 2, 1) := by decide +kernel
theorem dL_tells_426 : decode cL_tells 426 = .ok (.iconst 4, 1) := by decide +kernel
theorem dL_tells_427 : decode cL_tells 427 = .ok (.irem, 1) := by decide +kernel
theorem dL_tells_428 : decode cL_tells 428 = .ok (.iadd, 1) := by decide +kernel
theorem dL_tells_429 : decode cL_tells 429 = .ok (.invokestatic 257, 3) := by decide +kernel
theorem dL_tells_432 : decode cL_tells 432 = .ok (.ifCond .eq 15, 3) := by decide +kernel
theorem dL_tells_435 : decode cL_tells 435 = .ok (.aload_n 0, 1) := by decide +kernel
theorem dL_tells_436 : decode cL_tells 436 = .ok (.invokevirtual 244, 3) := by decide +kernel
theorem dL_tells_439 : decode cL_tells 439 = .ok (.iconst (-1), 1) := by decide +kernel
theorem dL_tells_440 : decode cL_tells 440 = .ok (.if_icmp .ne 7, 3) := by decide +kernel
theorem dL_tells_443 : decode cL_tells 443 = .ok (.iconst 1, 1) := by decide +kernel
theorem dL_tells_444 : decode cL_tells 444 = .ok (.goto 4, 3) := by decide +kernel
theorem dL_tells_447 : decode cL_tells 447 = .ok (.iconst 0, 1) := by decide +kernel
theorem dL_tells_448 : decode cL_tells 448 = .ok (.ireturn, 1) := by decide +kernel
theorem dL_act_0 : decode cL_act 0 = .ok (.iload_n 2, 1) := by decide +kernel
theorem dL_act_1 : decode cL_act 1 = .ok (.iconst 4, 1) := by decide +kernel
theorem dL_act_2 : decode cL_act 2 = .ok (.idiv, 1) := by decide +kernel
theorem dL_act_3 : decode cL_act 3 = .ok (.istore_n 3, 1) := by decide +kernel
theorem dL_act_4 : decode cL_act 4 = .ok (.aload_n 0, 1) := by decide +kernel
theorem dL_act_5 : decode cL_act 5 = .ok (.iconst 0, 1) := by decide +kernel
theorem dL_act_6 : decode cL_act 6 = .ok (.invokestatic 125, 3) := by decide +kernel
theorem dL_act_9 : decode cL_act 9 = .ok (.l2i, 1) := by decide +kernel
theorem dL_act_10 : decode cL_act 10 = .ok (.istore 4, 2) := by decide +kernel
theorem dL_act_12 : decode cL_act 12 = .ok (.aload_n 0, 1) := by decide +kernel
theorem dL_act_13 : decode cL_act 13 = .ok (.iconst 2, 1) := by decide +kernel
theorem dL_act_14 : decode cL_act 14 = .ok (.invokestatic 125, 3) := by decide +kernel
theorem dL_act_17 : decode cL_act 17 = .ok (.l2i, 1) := by decide +kernel
theorem dL_act_18 : decode cL_act 18 = .ok (.istore 5, 2) := by decide +kernel
theorem dL_act_20 : decode cL_act 20 = .ok (.iload 4, 2) := by decide +kernel
theorem dL_act_22 : decode cL_act 22 = .ok (.ifCond .eq 10, 3) := by decide +kernel
theorem dL_act_25 : decode cL_act 25 = .ok (.iload_n 3, 1) := by decide +kernel
theorem dL_act_26 : decode cL_act 26 = .ok (.bipush 19, 2) := by decide +kernel
theorem dL_act_28 : decode cL_act 28 = .ok (.irem, 1) := by decide +kernel
theorem dL_act_29 : decode cL_act 29 = .ok (.ifCond .ne 10, 3) := by decide +kernel
