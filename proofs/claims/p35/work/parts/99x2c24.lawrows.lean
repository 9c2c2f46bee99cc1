/-! ===== rows of the law's methods, 24 ===== -/
theorem dL_follows_356 : decode cL_follows 356 = .ok (.ifCond .eq 33, 3) := by decide +kernel
theorem dL_follows_359 : decode cL_follows 359 = .ok (.aload_n 0, 1) := by decide +kernel
theorem dL_follows_360 : decode cL_follows 360 = .ok (.iconst 1, 1) := by decide +kernel
theorem dL_follows_361 : decode cL_follows 361 = .ok (.iload 29, 2) := by decide +kernel
theorem dL_follows_363 : decode cL_follows 363 = .ok (.invokestatic 179, 3) := by decide +kernel
theorem dL_follows_366 : decode cL_follows 366 = .ok (.aload 28, 2) := by decide +kernel
theorem dL_follows_368 : decode cL_follows 368 = .ok (.iload 29, 2) := by decide +kernel
theorem dL_follows_370 : decode cL_follows 370 = .ok (.iaload, 1) := by decide +kernel
theorem dL_follows_371 : decode cL_follows 371 = .ok (.i2l, 1) := by decide +kernel
theorem dL_follows_372 : decode cL_follows 372 = .ok (.lcmp, 1) := by decide +kernel
theorem dL_follows_373 : decode cL_follows 373 = .ok (.ifCond .ne 7, 3) := by decide +kernel
theorem dL_follows_376 : decode cL_follows 376 = .ok (.iconst 1, 1) := by decide +kernel
theorem dL_follows_377 : decode cL_follows 377 = .ok (.goto 4, 3) := by decide +kernel
theorem dL_follows_380 : decode cL_follows 380 = .ok (.iconst 0, 1) := by decide +kernel
theorem dL_follows_381 : decode cL_follows 381 = .ok (.istore 17, 2) := by decide +kernel
theorem dL_follows_383 : decode cL_follows 383 = .ok (.iinc 29 1, 3) := by decide +kernel
theorem dL_follows_386 : decode cL_follows 386 = .ok (.goto (-38), 3) := by decide +kernel
theorem dL_follows_389 : decode cL_follows 389 = .ok (.iconst 0, 1) := by decide +kernel
theorem dL_follows_390 : decode cL_follows 390 = .ok (.istore 28, 2) := by decide +kernel
theorem dL_follows_392 : decode cL_follows 392 = .ok (.iload 28, 2) := by decide +kernel
theorem dL_follows_394 : decode cL_follows 394 = .ok (.iload 6, 2) := by decide +kernel
theorem dL_follows_396 : decode cL_follows 396 = .ok (.if_icmp .ge 460, 3) := by decide +kernel
theorem dL_follows_399 : decode cL_follows 399 = .ok (.iload 17, 2) := by decide +kernel
theorem dL_follows_401 : decode cL_follows 401 = .ok (.ifCond .eq 455, 3) := by decide +kernel
theorem dL_follows_404 : decode cL_follows 404 = .ok (.iload_n 1, 1) := by decide +kernel
theorem dL_follows_405 : decode cL_follows 405 = .ok (.sipush 1000, 3) := by decide +kernel
theorem dL_follows_408 : decode cL_follows 408 = .ok (.irem, 1) := by decide +kernel
theorem dL_follows_409 : decode cL_follows 409 = .ok (.iload 28, 2) := by decide +kernel
theorem dL_follows_411 : decode cL_follows 411 = .ok (.iadd, 1) := by decide +kernel
theorem dL_follows_412 : decode cL_follows 412 = .ok (.bipush 10, 2) := by decide +kernel
theorem dL_follows_414 : decode cL_follows 414 = .ok (.irem, 1) := by decide +kernel
theorem dL_follows_415 : decode cL_follows 415 = .ok (.istore 29, 2) := by decide +kernel
theorem dL_follows_417 : decode cL_follows 417 = .ok (.aload_n 0, 1) := by decide +kernel
theorem dL_follows_418 : decode cL_follows 418 = .ok (.iload 28, 2) := by decide +kernel
theorem dL_follows_420 : decode cL_follows 420 = .ok (.iload 29, 2) := by decide +kernel
theorem dL_follows_422 : decode cL_follows 422 = .ok (.invokestatic 177, 3) := by decide +kernel
theorem dL_follows_425 : decode cL_follows 425 = .ok (.lstore 30, 2) := by decide +kernel
theorem dL_follows_427 : decode cL_follows 427 = .ok (.iload_n 1, 1) := by decide +kernel
theorem dL_follows_428 : decode cL_follows 428 = .ok (.sipush 1000, 3) := by decide +kernel
theorem dL_follows_431 : decode cL_follows 431 = .ok (.irem, 1) := by decide +kernel
theorem dL_follows_432 : decode cL_follows 432 = .ok (.iconst 3, 1) := by decide +kernel
theorem dL_follows_433 : decode cL_follows 433 = .ok (.iload 28, 2) := by decide +kernel
theorem dL_follows_435 : decode cL_follows 435 = .ok (.imul, 1) := by decide +kernel
theorem dL_follows_436 : decode cL_follows 436 = .ok (.iadd, 1) := by decide +kernel
theorem dL_follows_437 : decode cL_follows 437 = .ok (.bipush 8, 2) := by decide +kernel
theorem dL_follows_439 : decode cL_follows 439 = .ok (.irem, 1) := by decide +kernel
theorem dL_follows_440 : decode cL_follows 440 = .ok (.istore 32, 2) := by decide +kernel
theorem dL_follows_442 : decode cL_follows 442 = .ok (.lload 4, 2) := by decide +kernel
theorem dL_follows_444 : decode cL_follows 444 = .ok (.l2i, 1) := by decide +kernel
theorem dL_follows_445 : decode cL_follows 445 = .ok (.iload_n 1, 1) := by decide +kernel
theorem dL_follows_446 : decode cL_follows 446 = .ok (.sipush 1000, 3) := by decide +kernel
theorem dL_follows_449 : decode cL_follows 449 = .ok (.irem, 1) := by decide +kernel
theorem dL_follows_450 : decode cL_follows 450 = .ok (.iload 28, 2) := by decide +kernel
theorem dL_follows_452 : decode cL_follows 452 = .ok (.iadd, 1) := by decide +kernel
theorem dL_follows_453 : decode cL_follows 453 = .ok (.bipush 6, 2) := by decide +kernel
theorem dL_follows_455 : decode cL_follows 455 = .ok (.irem, 1) := by decide +kernel
theorem dL_follows_456 : decode cL_follows 456 = .ok (.iadd, 1) := by decide +kernel
theorem dL_follows_457 : decode cL_follows 457 = .ok (.istore 33, 2) := by decide +kernel
theorem dL_follows_459 : decode cL_follows 459 = .ok (.iload 33, 2) := by decide +kernel
theorem dL_follows_461 : decode cL_follows 461 = .ok (.sipush 9999, 3) := by decide +kernel
theorem dL_follows_464 : decode cL_follows 464 = .ok (.if_icmp .le 9, 3) := by decide +kernel
theorem dL_follows_467 : decode cL_follows 467 = .ok (.ldc2_w 17, 3) := by decide +kernel
theorem dL_follows_470 : decode cL_follows 470 = .ok (.goto 15, 3) := by decide +kernel
theorem dL_follows_473 : decode cL_follows 473 = .ok (.aload_n 0, 1) := by decide +kernel
theorem dL_follows_474 : decode cL_follows 474 = .ok (.iload 28, 2) := by decide +kernel
theorem dL_follows_476 : decode cL_follows 476 = .ok (.iload 29, 2) := by decide +kernel
theorem dL_follows_478 : decode cL_follows 478 = .ok (.iload 33, 2) := by decide +kernel
theorem dL_follows_480 : decode cL_follows 480 = .ok (.iload 32, 2) := by decide +kernel
theorem dL_follows_482 : decode cL_follows 482 = .ok (.invokestatic 175, 3) := by decide +kernel
theorem dL_follows_485 : decode cL_follows 485 = .ok (.lstore 34, 2) := by decide +kernel
theorem dL_follows_487 : decode cL_follows 487 = .ok (.lload 34, 2) := by decide +kernel
theorem dL_follows_489 : decode cL_follows 489 = .ok (.lconst 0, 1) := by decide +kernel
theorem dL_follows_490 : decode cL_follows 490 = .ok (.lcmp, 1) := by decide +kernel
theorem dL_follows_491 : decode cL_follows 491 = .ok (.ifCond .ne 107, 3) := by decide +kernel
theorem dL_follows_494 : decode cL_follows 494 = .ok (.lload 30, 2) := by decide +kernel
theorem dL_follows_496 : decode cL_follows 496 = .ok (.ldc2_w 183, 3) := by decide +kernel
theorem dL_follows_499 : decode cL_follows 499 = .ok (.lcmp, 1) := by decide +kernel
theorem dL_follows_500 : decode cL_follows 500 = .ok (.ifCond .eq 92, 3) := by decide +kernel
theorem dL_follows_503 : decode cL_follows 503 = .ok (.lload 30, 2) := by decide +kernel
theorem dL_follows_505 : decode cL_follows 505 = .ok (.ldc2_w 202, 3) := by decide +kernel
