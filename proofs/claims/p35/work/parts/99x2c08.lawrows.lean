/-! ===== rows of the law's methods, 8 ===== -/
theorem dL_errors_345 : decode cL_errors 345 = .ok (.lcmp, 1) := by decide +kernel
theorem dL_errors_346 : decode cL_errors 346 = .ok (.ifCond .ne 196, 3) := by decide +kernel
theorem dL_errors_349 : decode cL_errors 349 = .ok (.aload_n 0, 1) := by decide +kernel
theorem dL_errors_350 : decode cL_errors 350 = .ok (.iload_n 3, 1) := by decide +kernel
theorem dL_errors_351 : decode cL_errors 351 = .ok (.bipush 100, 2) := by decide +kernel
theorem dL_errors_353 : decode cL_errors 353 = .ok (.invokestatic 167, 3) := by decide +kernel
theorem dL_errors_356 : decode cL_errors 356 = .ok (.ldc2_w 36, 3) := by decide +kernel
theorem dL_errors_359 : decode cL_errors 359 = .ok (.lcmp, 1) := by decide +kernel
theorem dL_errors_360 : decode cL_errors 360 = .ok (.ifCond .ne 182, 3) := by decide +kernel
theorem dL_errors_363 : decode cL_errors 363 = .ok (.aload_n 0, 1) := by decide +kernel
theorem dL_errors_364 : decode cL_errors 364 = .ok (.iload_n 3, 1) := by decide +kernel
theorem dL_errors_365 : decode cL_errors 365 = .ok (.iconst 0, 1) := by decide +kernel
theorem dL_errors_366 : decode cL_errors 366 = .ok (.invokestatic 169, 3) := by decide +kernel
theorem dL_errors_369 : decode cL_errors 369 = .ok (.ldc2_w 36, 3) := by decide +kernel
theorem dL_errors_372 : decode cL_errors 372 = .ok (.lcmp, 1) := by decide +kernel
theorem dL_errors_373 : decode cL_errors 373 = .ok (.ifCond .ne 169, 3) := by decide +kernel
theorem dL_errors_376 : decode cL_errors 376 = .ok (.aload_n 0, 1) := by decide +kernel
theorem dL_errors_377 : decode cL_errors 377 = .ok (.iconst 0, 1) := by decide +kernel
theorem dL_errors_378 : decode cL_errors 378 = .ok (.invokestatic 171, 3) := by decide +kernel
theorem dL_errors_381 : decode cL_errors 381 = .ok (.ldc2_w 17, 3) := by decide +kernel
theorem dL_errors_384 : decode cL_errors 384 = .ok (.lcmp, 1) := by decide +kernel
theorem dL_errors_385 : decode cL_errors 385 = .ok (.ifCond .ne 157, 3) := by decide +kernel
theorem dL_errors_388 : decode cL_errors 388 = .ok (.aload_n 0, 1) := by decide +kernel
theorem dL_errors_389 : decode cL_errors 389 = .ok (.bipush 31, 2) := by decide +kernel
theorem dL_errors_391 : decode cL_errors 391 = .ok (.invokestatic 171, 3) := by decide +kernel
theorem dL_errors_394 : decode cL_errors 394 = .ok (.ldc2_w 17, 3) := by decide +kernel
theorem dL_errors_397 : decode cL_errors 397 = .ok (.lcmp, 1) := by decide +kernel
theorem dL_errors_398 : decode cL_errors 398 = .ok (.ifCond .ne 144, 3) := by decide +kernel
theorem dL_errors_401 : decode cL_errors 401 = .ok (.aload_n 0, 1) := by decide +kernel
theorem dL_errors_402 : decode cL_errors 402 = .ok (.iconst 0, 1) := by decide +kernel
theorem dL_errors_403 : decode cL_errors 403 = .ok (.iconst 0, 1) := by decide +kernel
theorem dL_errors_404 : decode cL_errors 404 = .ok (.invokestatic 173, 3) := by decide +kernel
theorem dL_errors_407 : decode cL_errors 407 = .ok (.ldc2_w 17, 3) := by decide +kernel
theorem dL_errors_410 : decode cL_errors 410 = .ok (.lcmp, 1) := by decide +kernel
theorem dL_errors_411 : decode cL_errors 411 = .ok (.ifCond .ne 131, 3) := by decide +kernel
theorem dL_errors_414 : decode cL_errors 414 = .ok (.aload_n 0, 1) := by decide +kernel
theorem dL_errors_415 : decode cL_errors 415 = .ok (.iconst 1, 1) := by decide +kernel
theorem dL_errors_416 : decode cL_errors 416 = .ok (.bipush 10, 2) := by decide +kernel
theorem dL_errors_418 : decode cL_errors 418 = .ok (.invokestatic 173, 3) := by decide +kernel
theorem dL_errors_421 : decode cL_errors 421 = .ok (.ldc2_w 17, 3) := by decide +kernel
theorem dL_errors_424 : decode cL_errors 424 = .ok (.lcmp, 1) := by decide +kernel
theorem dL_errors_425 : decode cL_errors 425 = .ok (.ifCond .ne 117, 3) := by decide +kernel
theorem dL_errors_428 : decode cL_errors 428 = .ok (.aload_n 0, 1) := by decide +kernel
theorem dL_errors_429 : decode cL_errors 429 = .ok (.iconst 4, 1) := by decide +kernel
theorem dL_errors_430 : decode cL_errors 430 = .ok (.bipush 60, 2) := by decide +kernel
theorem dL_errors_432 : decode cL_errors 432 = .ok (.invokestatic 173, 3) := by decide +kernel
theorem dL_errors_435 : decode cL_errors 435 = .ok (.ldc2_w 17, 3) := by decide +kernel
theorem dL_errors_438 : decode cL_errors 438 = .ok (.lcmp, 1) := by decide +kernel
theorem dL_errors_439 : decode cL_errors 439 = .ok (.ifCond .ne 103, 3) := by decide +kernel
theorem dL_errors_442 : decode cL_errors 442 = .ok (.aload_n 0, 1) := by decide +kernel
theorem dL_errors_443 : decode cL_errors 443 = .ok (.iconst 5, 1) := by decide +kernel
theorem dL_errors_444 : decode cL_errors 444 = .ok (.bipush 100, 2) := by decide +kernel
theorem dL_errors_446 : decode cL_errors 446 = .ok (.invokestatic 173, 3) := by decide +kernel
theorem dL_errors_449 : decode cL_errors 449 = .ok (.ldc2_w 17, 3) := by decide +kernel
theorem dL_errors_452 : decode cL_errors 452 = .ok (.lcmp, 1) := by decide +kernel
theorem dL_errors_453 : decode cL_errors 453 = .ok (.ifCond .ne 89, 3) := by decide +kernel
theorem dL_errors_456 : decode cL_errors 456 = .ok (.aload_n 0, 1) := by decide +kernel
theorem dL_errors_457 : decode cL_errors 457 = .ok (.bipush 6, 2) := by decide +kernel
theorem dL_errors_459 : decode cL_errors 459 = .ok (.iconst 1, 1) := by decide +kernel
theorem dL_errors_460 : decode cL_errors 460 = .ok (.invokestatic 173, 3) := by decide +kernel
theorem dL_errors_463 : decode cL_errors 463 = .ok (.ldc2_w 17, 3) := by decide +kernel
theorem dL_errors_466 : decode cL_errors 466 = .ok (.lcmp, 1) := by decide +kernel
theorem dL_errors_467 : decode cL_errors 467 = .ok (.ifCond .ne 75, 3) := by decide +kernel
theorem dL_errors_470 : decode cL_errors 470 = .ok (.aload_n 0, 1) := by decide +kernel
theorem dL_errors_471 : decode cL_errors 471 = .ok (.iload_n 3, 1) := by decide +kernel
theorem dL_errors_472 : decode cL_errors 472 = .ok (.iconst 0, 1) := by decide +kernel
theorem dL_errors_473 : decode cL_errors 473 = .ok (.iconst 0, 1) := by decide +kernel
theorem dL_errors_474 : decode cL_errors 474 = .ok (.bipush 9, 2) := by decide +kernel
theorem dL_errors_476 : decode cL_errors 476 = .ok (.invokestatic 175, 3) := by decide +kernel
theorem dL_errors_479 : decode cL_errors 479 = .ok (.ldc2_w 36, 3) := by decide +kernel
theorem dL_errors_482 : decode cL_errors 482 = .ok (.lcmp, 1) := by decide +kernel
theorem dL_errors_483 : decode cL_errors 483 = .ok (.ifCond .ne 59, 3) := by decide +kernel
theorem dL_errors_486 : decode cL_errors 486 = .ok (.aload_n 0, 1) := by decide +kernel
theorem dL_errors_487 : decode cL_errors 487 = .ok (.iload_n 3, 1) := by decide +kernel
theorem dL_errors_488 : decode cL_errors 488 = .ok (.iconst 0, 1) := by decide +kernel
theorem dL_errors_489 : decode cL_errors 489 = .ok (.invokestatic 177, 3) := by decide +kernel
theorem dL_errors_492 : decode cL_errors 492 = .ok (.ldc2_w 36, 3) := by decide +kernel
theorem dL_errors_495 : decode cL_errors 495 = .ok (.lcmp, 1) := by decide +kernel
theorem dL_errors_496 : decode cL_errors 496 = .ok (.ifCond .ne 46, 3) := by decide +kernel
theorem dL_errors_499 : decode cL_errors 499 = .ok (.aload_n 0, 1) := by decide +kernel
