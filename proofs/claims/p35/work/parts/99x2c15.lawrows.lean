/-! ===== rows of the law's methods, 15 ===== -/
theorem dL_kept_396 : decode cL_kept 396 = .ok (.lload_n 3, 1) := by decide +kernel
theorem dL_kept_397 : decode cL_kept 397 = .ok (.aload_n 0, 1) := by decide +kernel
theorem dL_kept_398 : decode cL_kept 398 = .ok (.iload 18, 2) := by decide +kernel
theorem dL_kept_400 : decode cL_kept 400 = .ok (.iconst 1, 1) := by decide +kernel
theorem dL_kept_401 : decode cL_kept 401 = .ok (.invokestatic 135, 3) := by decide +kernel
theorem dL_kept_404 : decode cL_kept 404 = .ok (.lcmp, 1) := by decide +kernel
theorem dL_kept_405 : decode cL_kept 405 = .ok (.ifCond .ge 7, 3) := by decide +kernel
theorem dL_kept_408 : decode cL_kept 408 = .ok (.lconst 1, 1) := by decide +kernel
theorem dL_kept_409 : decode cL_kept 409 = .ok (.goto 4, 3) := by decide +kernel
theorem dL_kept_412 : decode cL_kept 412 = .ok (.lconst 0, 1) := by decide +kernel
theorem dL_kept_413 : decode cL_kept 413 = .ok (.ladd, 1) := by decide +kernel
theorem dL_kept_414 : decode cL_kept 414 = .ok (.lstore 16, 2) := by decide +kernel
theorem dL_kept_416 : decode cL_kept 416 = .ok (.aload_n 0, 1) := by decide +kernel
theorem dL_kept_417 : decode cL_kept 417 = .ok (.iload 18, 2) := by decide +kernel
theorem dL_kept_419 : decode cL_kept 419 = .ok (.iconst 0, 1) := by decide +kernel
theorem dL_kept_420 : decode cL_kept 420 = .ok (.invokestatic 135, 3) := by decide +kernel
theorem dL_kept_423 : decode cL_kept 423 = .ok (.lconst 0, 1) := by decide +kernel
theorem dL_kept_424 : decode cL_kept 424 = .ok (.ldc2_w 214, 3) := by decide +kernel
theorem dL_kept_427 : decode cL_kept 427 = .ok (.invokestatic 204, 3) := by decide +kernel
theorem dL_kept_430 : decode cL_kept 430 = .ok (.ifCond .eq 22, 3) := by decide +kernel
theorem dL_kept_433 : decode cL_kept 433 = .ok (.aload_n 0, 1) := by decide +kernel
theorem dL_kept_434 : decode cL_kept 434 = .ok (.iload 18, 2) := by decide +kernel
theorem dL_kept_436 : decode cL_kept 436 = .ok (.iconst 2, 1) := by decide +kernel
theorem dL_kept_437 : decode cL_kept 437 = .ok (.invokestatic 135, 3) := by decide +kernel
theorem dL_kept_440 : decode cL_kept 440 = .ok (.lconst 0, 1) := by decide +kernel
theorem dL_kept_441 : decode cL_kept 441 = .ok (.lconst 1, 1) := by decide +kernel
theorem dL_kept_442 : decode cL_kept 442 = .ok (.invokestatic 204, 3) := by decide +kernel
theorem dL_kept_445 : decode cL_kept 445 = .ok (.ifCond .eq 7, 3) := by decide +kernel
theorem dL_kept_448 : decode cL_kept 448 = .ok (.iconst 1, 1) := by decide +kernel
theorem dL_kept_449 : decode cL_kept 449 = .ok (.goto 4, 3) := by decide +kernel
theorem dL_kept_452 : decode cL_kept 452 = .ok (.iconst 0, 1) := by decide +kernel
theorem dL_kept_453 : decode cL_kept 453 = .ok (.istore 5, 2) := by decide +kernel
theorem dL_kept_455 : decode cL_kept 455 = .ok (.iinc 18 1, 3) := by decide +kernel
theorem dL_kept_458 : decode cL_kept 458 = .ok (.goto (-88), 3) := by decide +kernel
theorem dL_kept_461 : decode cL_kept 461 = .ok (.iconst 0, 1) := by decide +kernel
theorem dL_kept_462 : decode cL_kept 462 = .ok (.istore 18, 2) := by decide +kernel
theorem dL_kept_464 : decode cL_kept 464 = .ok (.iload 18, 2) := by decide +kernel
theorem dL_kept_466 : decode cL_kept 466 = .ok (.iload_n 2, 1) := by decide +kernel
theorem dL_kept_467 : decode cL_kept 467 = .ok (.if_icmp .ge 764, 3) := by decide +kernel
theorem dL_kept_470 : decode cL_kept 470 = .ok (.iload 5, 2) := by decide +kernel
theorem dL_kept_472 : decode cL_kept 472 = .ok (.ifCond .eq 759, 3) := by decide +kernel
theorem dL_kept_475 : decode cL_kept 475 = .ok (.aload_n 0, 1) := by decide +kernel
theorem dL_kept_476 : decode cL_kept 476 = .ok (.iload 18, 2) := by decide +kernel
theorem dL_kept_478 : decode cL_kept 478 = .ok (.iconst 0, 1) := by decide +kernel
theorem dL_kept_479 : decode cL_kept 479 = .ok (.invokestatic 137, 3) := by decide +kernel
theorem dL_kept_482 : decode cL_kept 482 = .ok (.lstore 19, 2) := by decide +kernel
theorem dL_kept_484 : decode cL_kept 484 = .ok (.aload_n 0, 1) := by decide +kernel
theorem dL_kept_485 : decode cL_kept 485 = .ok (.iload 18, 2) := by decide +kernel
theorem dL_kept_487 : decode cL_kept 487 = .ok (.iconst 3, 1) := by decide +kernel
theorem dL_kept_488 : decode cL_kept 488 = .ok (.invokestatic 137, 3) := by decide +kernel
theorem dL_kept_491 : decode cL_kept 491 = .ok (.l2i, 1) := by decide +kernel
theorem dL_kept_492 : decode cL_kept 492 = .ok (.istore 21, 2) := by decide +kernel
theorem dL_kept_494 : decode cL_kept 494 = .ok (.aload_n 0, 1) := by decide +kernel
theorem dL_kept_495 : decode cL_kept 495 = .ok (.iload 18, 2) := by decide +kernel
theorem dL_kept_497 : decode cL_kept 497 = .ok (.iconst 4, 1) := by decide +kernel
theorem dL_kept_498 : decode cL_kept 498 = .ok (.invokestatic 137, 3) := by decide +kernel
theorem dL_kept_501 : decode cL_kept 501 = .ok (.l2i, 1) := by decide +kernel
theorem dL_kept_502 : decode cL_kept 502 = .ok (.istore 22, 2) := by decide +kernel
theorem dL_kept_504 : decode cL_kept 504 = .ok (.lload 19, 2) := by decide +kernel
theorem dL_kept_506 : decode cL_kept 506 = .ok (.lload_n 3, 1) := by decide +kernel
theorem dL_kept_507 : decode cL_kept 507 = .ok (.lcmp, 1) := by decide +kernel
theorem dL_kept_508 : decode cL_kept 508 = .ok (.ifCond .lt 85, 3) := by decide +kernel
theorem dL_kept_511 : decode cL_kept 511 = .ok (.aload_n 0, 1) := by decide +kernel
theorem dL_kept_512 : decode cL_kept 512 = .ok (.iload 18, 2) := by decide +kernel
theorem dL_kept_514 : decode cL_kept 514 = .ok (.iconst 1, 1) := by decide +kernel
theorem dL_kept_515 : decode cL_kept 515 = .ok (.invokestatic 137, 3) := by decide +kernel
theorem dL_kept_518 : decode cL_kept 518 = .ok (.lconst 0, 1) := by decide +kernel
theorem dL_kept_519 : decode cL_kept 519 = .ok (.ldc2_w 216, 3) := by decide +kernel
theorem dL_kept_522 : decode cL_kept 522 = .ok (.invokestatic 204, 3) := by decide +kernel
theorem dL_kept_525 : decode cL_kept 525 = .ok (.ifCond .eq 68, 3) := by decide +kernel
theorem dL_kept_528 : decode cL_kept 528 = .ok (.aload_n 0, 1) := by decide +kernel
theorem dL_kept_529 : decode cL_kept 529 = .ok (.iload 18, 2) := by decide +kernel
theorem dL_kept_531 : decode cL_kept 531 = .ok (.iconst 2, 1) := by decide +kernel
theorem dL_kept_532 : decode cL_kept 532 = .ok (.invokestatic 137, 3) := by decide +kernel
theorem dL_kept_535 : decode cL_kept 535 = .ok (.lconst 0, 1) := by decide +kernel
theorem dL_kept_536 : decode cL_kept 536 = .ok (.ldc2_w 210, 3) := by decide +kernel
theorem dL_kept_539 : decode cL_kept 539 = .ok (.invokestatic 204, 3) := by decide +kernel
theorem dL_kept_542 : decode cL_kept 542 = .ok (.ifCond .eq 51, 3) := by decide +kernel
theorem dL_kept_545 : decode cL_kept 545 = .ok (.iload 21, 2) := by decide +kernel
theorem dL_kept_547 : decode cL_kept 547 = .ok (.i2l, 1) := by decide +kernel
