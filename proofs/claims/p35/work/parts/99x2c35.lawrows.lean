/-! ===== rows of the law's methods, 35 ===== -/
theorem dL_act_374 : decode cL_act 374 = .ok (.iadd, 1) := by decide +kernel
theorem dL_act_375 : decode cL_act 375 = .ok (.goto 12, 3) := by decide +kernel
theorem dL_act_378 : decode cL_act 378 = .ok (.iconst 1, 1) := by decide +kernel
theorem dL_act_379 : decode cL_act 379 = .ok (.iload_n 3, 1) := by decide +kernel
theorem dL_act_380 : decode cL_act 380 = .ok (.bipush 6, 2) := by decide +kernel
theorem dL_act_382 : decode cL_act 382 = .ok (.idiv, 1) := by decide +kernel
theorem dL_act_383 : decode cL_act 383 = .ok (.bipush 30, 2) := by decide +kernel
theorem dL_act_385 : decode cL_act 385 = .ok (.irem, 1) := by decide +kernel
theorem dL_act_386 : decode cL_act 386 = .ok (.iadd, 1) := by decide +kernel
theorem dL_act_387 : decode cL_act 387 = .ok (.invokestatic 173, 3) := by decide +kernel
theorem dL_act_390 : decode cL_act 390 = .ok (.lreturn, 1) := by decide +kernel
theorem dL_act_391 : decode cL_act 391 = .ok (.aload_n 0, 1) := by decide +kernel
theorem dL_act_392 : decode cL_act 392 = .ok (.invokestatic 240, 3) := by decide +kernel
theorem dL_act_395 : decode cL_act 395 = .ok (.lreturn, 1) := by decide +kernel
theorem dL_act_396 : decode cL_act 396 = .ok (.iload_n 3, 1) := by decide +kernel
theorem dL_act_397 : decode cL_act 397 = .ok (.iconst 2, 1) := by decide +kernel
theorem dL_act_398 : decode cL_act 398 = .ok (.irem, 1) := by decide +kernel
theorem dL_act_399 : decode cL_act 399 = .ok (.ifCond .ne 15, 3) := by decide +kernel
theorem dL_act_402 : decode cL_act 402 = .ok (.aload_n 0, 1) := by decide +kernel
theorem dL_act_403 : decode cL_act 403 = .ok (.iload_n 3, 1) := by decide +kernel
theorem dL_act_404 : decode cL_act 404 = .ok (.iconst 2, 1) := by decide +kernel
theorem dL_act_405 : decode cL_act 405 = .ok (.idiv, 1) := by decide +kernel
theorem dL_act_406 : decode cL_act 406 = .ok (.iconst 1, 1) := by decide +kernel
theorem dL_act_407 : decode cL_act 407 = .ok (.iand, 1) := by decide +kernel
theorem dL_act_408 : decode cL_act 408 = .ok (.invokestatic 196, 3) := by decide +kernel
theorem dL_act_411 : decode cL_act 411 = .ok (.goto 12, 3) := by decide +kernel
theorem dL_act_414 : decode cL_act 414 = .ok (.aload_n 0, 1) := by decide +kernel
theorem dL_act_415 : decode cL_act 415 = .ok (.iload_n 3, 1) := by decide +kernel
theorem dL_act_416 : decode cL_act 416 = .ok (.iconst 2, 1) := by decide +kernel
theorem dL_act_417 : decode cL_act 417 = .ok (.idiv, 1) := by decide +kernel
theorem dL_act_418 : decode cL_act 418 = .ok (.iconst 1, 1) := by decide +kernel
theorem dL_act_419 : decode cL_act 419 = .ok (.iand, 1) := by decide +kernel
theorem dL_act_420 : decode cL_act 420 = .ok (.invokestatic 198, 3) := by decide +kernel
theorem dL_act_423 : decode cL_act 423 = .ok (.lreturn, 1) := by decide +kernel
theorem dL_act_424 : decode cL_act 424 = .ok (.aload_n 0, 1) := by decide +kernel
theorem dL_act_425 : decode cL_act 425 = .ok (.iconst 1, 1) := by decide +kernel
theorem dL_act_426 : decode cL_act 426 = .ok (.iload_n 3, 1) := by decide +kernel
theorem dL_act_427 : decode cL_act 427 = .ok (.iload_n 3, 1) := by decide +kernel
theorem dL_act_428 : decode cL_act 428 = .ok (.iconst 5, 1) := by decide +kernel
theorem dL_act_429 : decode cL_act 429 = .ok (.irem, 1) := by decide +kernel
theorem dL_act_430 : decode cL_act 430 = .ok (.ifCond .ne 8, 3) := by decide +kernel
theorem dL_act_433 : decode cL_act 433 = .ok (.bipush 30, 2) := by decide +kernel
theorem dL_act_435 : decode cL_act 435 = .ok (.goto 4, 3) := by decide +kernel
theorem dL_act_438 : decode cL_act 438 = .ok (.iconst 3, 1) := by decide +kernel
theorem dL_act_439 : decode cL_act 439 = .ok (.irem, 1) := by decide +kernel
theorem dL_act_440 : decode cL_act 440 = .ok (.iadd, 1) := by decide +kernel
theorem dL_act_441 : decode cL_act 441 = .ok (.invokestatic 171, 3) := by decide +kernel
theorem dL_act_444 : decode cL_act 444 = .ok (.lreturn, 1) := by decide +kernel
theorem dL_law_0 : decode cL_law 0 = .ok (.new 10, 3) := by decide +kernel
theorem dL_law_3 : decode cL_law 3 = .ok (.dup, 1) := by decide +kernel
theorem dL_law_4 : decode cL_law 4 = .ok (.invokespecial 260, 3) := by decide +kernel
theorem dL_law_7 : decode cL_law 7 = .ok (.astore_n 1, 1) := by decide +kernel
theorem dL_law_8 : decode cL_law 8 = .ok (.new 10, 3) := by decide +kernel
theorem dL_law_11 : decode cL_law 11 = .ok (.dup, 1) := by decide +kernel
theorem dL_law_12 : decode cL_law 12 = .ok (.invokespecial 260, 3) := by decide +kernel
theorem dL_law_15 : decode cL_law 15 = .ok (.astore_n 2, 1) := by decide +kernel
theorem dL_law_16 : decode cL_law 16 = .ok (.aload_n 1, 1) := by decide +kernel
theorem dL_law_17 : decode cL_law 17 = .ok (.aload_n 2, 1) := by decide +kernel
theorem dL_law_18 : decode cL_law 18 = .ok (.aload_n 0, 1) := by decide +kernel
theorem dL_law_19 : decode cL_law 19 = .ok (.iconst 0, 1) := by decide +kernel
theorem dL_law_20 : decode cL_law 20 = .ok (.invokestatic 261, 3) := by decide +kernel
theorem dL_law_23 : decode cL_law 23 = .ok (.invokestatic 265, 3) := by decide +kernel
theorem dL_law_26 : decode cL_law 26 = .ok (.ifCond .eq 21, 3) := by decide +kernel
theorem dL_law_29 : decode cL_law 29 = .ok (.aload_n 1, 1) := by decide +kernel
theorem dL_law_30 : decode cL_law 30 = .ok (.invokestatic 269, 3) := by decide +kernel
theorem dL_law_33 : decode cL_law 33 = .ok (.ifCond .eq 14, 3) := by decide +kernel
theorem dL_law_36 : decode cL_law 36 = .ok (.aload_n 1, 1) := by decide +kernel
theorem dL_law_37 : decode cL_law 37 = .ok (.invokestatic 273, 3) := by decide +kernel
theorem dL_law_40 : decode cL_law 40 = .ok (.ifCond .eq 7, 3) := by decide +kernel
theorem dL_law_43 : decode cL_law 43 = .ok (.iconst 1, 1) := by decide +kernel
theorem dL_law_44 : decode cL_law 44 = .ok (.goto 4, 3) := by decide +kernel
theorem dL_law_47 : decode cL_law 47 = .ok (.iconst 0, 1) := by decide +kernel
theorem dL_law_48 : decode cL_law 48 = .ok (.istore_n 3, 1) := by decide +kernel
theorem dL_law_49 : decode cL_law 49 = .ok (.iconst 0, 1) := by decide +kernel
theorem dL_law_50 : decode cL_law 50 = .ok (.istore 4, 2) := by decide +kernel
theorem dL_law_52 : decode cL_law 52 = .ok (.iload 4, 2) := by decide +kernel
theorem dL_law_54 : decode cL_law 54 = .ok (.bipush 48, 2) := by decide +kernel
theorem dL_law_56 : decode cL_law 56 = .ok (.if_icmp .ge 222, 3) := by decide +kernel
theorem dL_law_59 : decode cL_law 59 = .ok (.iload_n 3, 1) := by decide +kernel
theorem dL_law_60 : decode cL_law 60 = .ok (.ifCond .eq 218, 3) := by decide +kernel
