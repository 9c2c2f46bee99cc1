/-! ===== rows of the law's methods, 25 ===== -/
theorem dL_follows_508 : decode cL_follows 508 = .ok (.iload 33, 2) := by decide +kernel
theorem dL_follows_510 : decode cL_follows 510 = .ok (.i2l, 1) := by decide +kernel
theorem dL_follows_511 : decode cL_follows 511 = .ok (.lmul, 1) := by decide +kernel
theorem dL_follows_512 : decode cL_follows 512 = .ok (.iload 32, 2) := by decide +kernel
theorem dL_follows_514 : decode cL_follows 514 = .ok (.i2l, 1) := by decide +kernel
theorem dL_follows_515 : decode cL_follows 515 = .ok (.ladd, 1) := by decide +kernel
theorem dL_follows_516 : decode cL_follows 516 = .ok (.lcmp, 1) := by decide +kernel
theorem dL_follows_517 : decode cL_follows 517 = .ok (.ifCond .gt 75, 3) := by decide +kernel
theorem dL_follows_520 : decode cL_follows 520 = .ok (.aload_n 0, 1) := by decide +kernel
theorem dL_follows_521 : decode cL_follows 521 = .ok (.iload 28, 2) := by decide +kernel
theorem dL_follows_523 : decode cL_follows 523 = .ok (.iload 29, 2) := by decide +kernel
theorem dL_follows_525 : decode cL_follows 525 = .ok (.iload 33, 2) := by decide +kernel
theorem dL_follows_527 : decode cL_follows 527 = .ok (.iload 32, 2) := by decide +kernel
theorem dL_follows_529 : decode cL_follows 529 = .ok (.invokestatic 156, 3) := by decide +kernel
theorem dL_follows_532 : decode cL_follows 532 = .ok (.lconst 0, 1) := by decide +kernel
theorem dL_follows_533 : decode cL_follows 533 = .ok (.lcmp, 1) := by decide +kernel
theorem dL_follows_534 : decode cL_follows 534 = .ok (.ifCond .lt 58, 3) := by decide +kernel
theorem dL_follows_537 : decode cL_follows 537 = .ok (.aload_n 0, 1) := by decide +kernel
theorem dL_follows_538 : decode cL_follows 538 = .ok (.iconst 2, 1) := by decide +kernel
theorem dL_follows_539 : decode cL_follows 539 = .ok (.invokestatic 125, 3) := by decide +kernel
theorem dL_follows_542 : decode cL_follows 542 = .ok (.iload 7, 2) := by decide +kernel
theorem dL_follows_544 : decode cL_follows 544 = .ok (.i2l, 1) := by decide +kernel
theorem dL_follows_545 : decode cL_follows 545 = .ok (.lconst 1, 1) := by decide +kernel
theorem dL_follows_546 : decode cL_follows 546 = .ok (.ladd, 1) := by decide +kernel
theorem dL_follows_547 : decode cL_follows 547 = .ok (.lcmp, 1) := by decide +kernel
theorem dL_follows_548 : decode cL_follows 548 = .ok (.ifCond .ne 44, 3) := by decide +kernel
theorem dL_follows_551 : decode cL_follows 551 = .ok (.aload_n 0, 1) := by decide +kernel
theorem dL_follows_552 : decode cL_follows 552 = .ok (.iload 28, 2) := by decide +kernel
theorem dL_follows_554 : decode cL_follows 554 = .ok (.iload 29, 2) := by decide +kernel
theorem dL_follows_556 : decode cL_follows 556 = .ok (.iload 33, 2) := by decide +kernel
theorem dL_follows_558 : decode cL_follows 558 = .ok (.iload 32, 2) := by decide +kernel
theorem dL_follows_560 : decode cL_follows 560 = .ok (.invokestatic 175, 3) := by decide +kernel
theorem dL_follows_563 : decode cL_follows 563 = .ok (.ldc2_w 222, 3) := by decide +kernel
theorem dL_follows_566 : decode cL_follows 566 = .ok (.lcmp, 1) := by decide +kernel
theorem dL_follows_567 : decode cL_follows 567 = .ok (.ifCond .lt 25, 3) := by decide +kernel
theorem dL_follows_570 : decode cL_follows 570 = .ok (.aload_n 0, 1) := by decide +kernel
theorem dL_follows_571 : decode cL_follows 571 = .ok (.invokestatic 240, 3) := by decide +kernel
theorem dL_follows_574 : decode cL_follows 574 = .ok (.lconst 0, 1) := by decide +kernel
theorem dL_follows_575 : decode cL_follows 575 = .ok (.lcmp, 1) := by decide +kernel
theorem dL_follows_576 : decode cL_follows 576 = .ok (.ifCond .lt 16, 3) := by decide +kernel
theorem dL_follows_579 : decode cL_follows 579 = .ok (.aload_n 0, 1) := by decide +kernel
theorem dL_follows_580 : decode cL_follows 580 = .ok (.invokestatic 141, 3) := by decide +kernel
theorem dL_follows_583 : decode cL_follows 583 = .ok (.lload_n 2, 1) := by decide +kernel
theorem dL_follows_584 : decode cL_follows 584 = .ok (.lcmp, 1) := by decide +kernel
theorem dL_follows_585 : decode cL_follows 585 = .ok (.ifCond .ne 7, 3) := by decide +kernel
theorem dL_follows_588 : decode cL_follows 588 = .ok (.iconst 1, 1) := by decide +kernel
theorem dL_follows_589 : decode cL_follows 589 = .ok (.goto 4, 3) := by decide +kernel
theorem dL_follows_592 : decode cL_follows 592 = .ok (.iconst 0, 1) := by decide +kernel
theorem dL_follows_593 : decode cL_follows 593 = .ok (.istore 17, 2) := by decide +kernel
theorem dL_follows_595 : decode cL_follows 595 = .ok (.goto 67, 3) := by decide +kernel
theorem dL_follows_598 : decode cL_follows 598 = .ok (.lload 34, 2) := by decide +kernel
theorem dL_follows_600 : decode cL_follows 600 = .ok (.ldc2_w 17, 3) := by decide +kernel
theorem dL_follows_603 : decode cL_follows 603 = .ok (.lcmp, 1) := by decide +kernel
theorem dL_follows_604 : decode cL_follows 604 = .ok (.ifCond .eq 58, 3) := by decide +kernel
theorem dL_follows_607 : decode cL_follows 607 = .ok (.lload 34, 2) := by decide +kernel
theorem dL_follows_609 : decode cL_follows 609 = .ok (.lconst 1, 1) := by decide +kernel
theorem dL_follows_610 : decode cL_follows 610 = .ok (.ldc2_w 202, 3) := by decide +kernel
theorem dL_follows_613 : decode cL_follows 613 = .ok (.invokestatic 204, 3) := by decide +kernel
theorem dL_follows_616 : decode cL_follows 616 = .ok (.ifCond .eq 43, 3) := by decide +kernel
theorem dL_follows_619 : decode cL_follows 619 = .ok (.aload_n 0, 1) := by decide +kernel
theorem dL_follows_620 : decode cL_follows 620 = .ok (.iload 28, 2) := by decide +kernel
theorem dL_follows_622 : decode cL_follows 622 = .ok (.iload 29, 2) := by decide +kernel
theorem dL_follows_624 : decode cL_follows 624 = .ok (.iload 33, 2) := by decide +kernel
theorem dL_follows_626 : decode cL_follows 626 = .ok (.iload 32, 2) := by decide +kernel
theorem dL_follows_628 : decode cL_follows 628 = .ok (.invokestatic 156, 3) := by decide +kernel
theorem dL_follows_631 : decode cL_follows 631 = .ok (.ldc2_w 21, 3) := by decide +kernel
theorem dL_follows_634 : decode cL_follows 634 = .ok (.lcmp, 1) := by decide +kernel
theorem dL_follows_635 : decode cL_follows 635 = .ok (.ifCond .ne 24, 3) := by decide +kernel
theorem dL_follows_638 : decode cL_follows 638 = .ok (.lload 30, 2) := by decide +kernel
theorem dL_follows_640 : decode cL_follows 640 = .ok (.ldc2_w 202, 3) := by decide +kernel
theorem dL_follows_643 : decode cL_follows 643 = .ok (.iload 33, 2) := by decide +kernel
theorem dL_follows_645 : decode cL_follows 645 = .ok (.i2l, 1) := by decide +kernel
theorem dL_follows_646 : decode cL_follows 646 = .ok (.lmul, 1) := by decide +kernel
theorem dL_follows_647 : decode cL_follows 647 = .ok (.iload 32, 2) := by decide +kernel
theorem dL_follows_649 : decode cL_follows 649 = .ok (.i2l, 1) := by decide +kernel
theorem dL_follows_650 : decode cL_follows 650 = .ok (.ladd, 1) := by decide +kernel
theorem dL_follows_651 : decode cL_follows 651 = .ok (.lcmp, 1) := by decide +kernel
theorem dL_follows_652 : decode cL_follows 652 = .ok (.ifCond .eq 7, 3) := by decide +kernel
theorem dL_follows_655 : decode cL_follows 655 = .ok (.iconst 1, 1) := by decide +kernel
theorem dL_follows_656 : decode cL_follows 656 = .ok (.goto 4, 3) := by decide +kernel
