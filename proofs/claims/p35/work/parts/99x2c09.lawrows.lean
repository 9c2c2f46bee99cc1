/-! ===== rows of the law's methods, 9 ===== -/
theorem dL_errors_500 : decode cL_errors 500 = .ok (.iconst 0, 1) := by decide +kernel
theorem dL_errors_501 : decode cL_errors 501 = .ok (.iconst 0, 1) := by decide +kernel
theorem dL_errors_502 : decode cL_errors 502 = .ok (.invokestatic 179, 3) := by decide +kernel
theorem dL_errors_505 : decode cL_errors 505 = .ok (.ldc2_w 17, 3) := by decide +kernel
theorem dL_errors_508 : decode cL_errors 508 = .ok (.lcmp, 1) := by decide +kernel
theorem dL_errors_509 : decode cL_errors 509 = .ok (.ifCond .ne 33, 3) := by decide +kernel
theorem dL_errors_512 : decode cL_errors 512 = .ok (.aload_n 0, 1) := by decide +kernel
theorem dL_errors_513 : decode cL_errors 513 = .ok (.iconst 5, 1) := by decide +kernel
theorem dL_errors_514 : decode cL_errors 514 = .ok (.iconst 5, 1) := by decide +kernel
theorem dL_errors_515 : decode cL_errors 515 = .ok (.invokestatic 179, 3) := by decide +kernel
theorem dL_errors_518 : decode cL_errors 518 = .ok (.ldc2_w 17, 3) := by decide +kernel
theorem dL_errors_521 : decode cL_errors 521 = .ok (.lcmp, 1) := by decide +kernel
theorem dL_errors_522 : decode cL_errors 522 = .ok (.ifCond .ne 20, 3) := by decide +kernel
theorem dL_errors_525 : decode cL_errors 525 = .ok (.aload_n 0, 1) := by decide +kernel
theorem dL_errors_526 : decode cL_errors 526 = .ok (.iload 4, 2) := by decide +kernel
theorem dL_errors_528 : decode cL_errors 528 = .ok (.invokestatic 181, 3) := by decide +kernel
theorem dL_errors_531 : decode cL_errors 531 = .ok (.ldc2_w 36, 3) := by decide +kernel
theorem dL_errors_534 : decode cL_errors 534 = .ok (.lcmp, 1) := by decide +kernel
theorem dL_errors_535 : decode cL_errors 535 = .ok (.ifCond .ne 7, 3) := by decide +kernel
theorem dL_errors_538 : decode cL_errors 538 = .ok (.iconst 1, 1) := by decide +kernel
theorem dL_errors_539 : decode cL_errors 539 = .ok (.goto 4, 3) := by decide +kernel
theorem dL_errors_542 : decode cL_errors 542 = .ok (.iconst 0, 1) := by decide +kernel
theorem dL_errors_543 : decode cL_errors 543 = .ok (.istore 6, 2) := by decide +kernel
theorem dL_errors_545 : decode cL_errors 545 = .ok (.iconst 0, 1) := by decide +kernel
theorem dL_errors_546 : decode cL_errors 546 = .ok (.istore 7, 2) := by decide +kernel
theorem dL_errors_548 : decode cL_errors 548 = .ok (.iload 7, 2) := by decide +kernel
theorem dL_errors_550 : decode cL_errors 550 = .ok (.iload_n 3, 1) := by decide +kernel
theorem dL_errors_551 : decode cL_errors 551 = .ok (.if_icmp .ge 264, 3) := by decide +kernel
theorem dL_errors_554 : decode cL_errors 554 = .ok (.iload 6, 2) := by decide +kernel
theorem dL_errors_556 : decode cL_errors 556 = .ok (.ifCond .eq 259, 3) := by decide +kernel
theorem dL_errors_559 : decode cL_errors 559 = .ok (.aload_n 0, 1) := by decide +kernel
theorem dL_errors_560 : decode cL_errors 560 = .ok (.iload 7, 2) := by decide +kernel
theorem dL_errors_562 : decode cL_errors 562 = .ok (.bipush 8, 2) := by decide +kernel
theorem dL_errors_564 : decode cL_errors 564 = .ok (.invokestatic 132, 3) := by decide +kernel
theorem dL_errors_567 : decode cL_errors 567 = .ok (.ldc2_w 17, 3) := by decide +kernel
theorem dL_errors_570 : decode cL_errors 570 = .ok (.lcmp, 1) := by decide +kernel
theorem dL_errors_571 : decode cL_errors 571 = .ok (.ifCond .ne 106, 3) := by decide +kernel
theorem dL_errors_574 : decode cL_errors 574 = .ok (.aload_n 0, 1) := by decide +kernel
theorem dL_errors_575 : decode cL_errors 575 = .ok (.iload 7, 2) := by decide +kernel
theorem dL_errors_577 : decode cL_errors 577 = .ok (.iconst 4, 1) := by decide +kernel
theorem dL_errors_578 : decode cL_errors 578 = .ok (.invokestatic 149, 3) := by decide +kernel
theorem dL_errors_581 : decode cL_errors 581 = .ok (.ldc2_w 17, 3) := by decide +kernel
theorem dL_errors_584 : decode cL_errors 584 = .ok (.lcmp, 1) := by decide +kernel
theorem dL_errors_585 : decode cL_errors 585 = .ok (.ifCond .ne 92, 3) := by decide +kernel
theorem dL_errors_588 : decode cL_errors 588 = .ok (.aload_n 0, 1) := by decide +kernel
theorem dL_errors_589 : decode cL_errors 589 = .ok (.iload 7, 2) := by decide +kernel
theorem dL_errors_591 : decode cL_errors 591 = .ok (.iload 7, 2) := by decide +kernel
theorem dL_errors_593 : decode cL_errors 593 = .ok (.iconst 1, 1) := by decide +kernel
theorem dL_errors_594 : decode cL_errors 594 = .ok (.invokestatic 154, 3) := by decide +kernel
theorem dL_errors_597 : decode cL_errors 597 = .ok (.ldc2_w 21, 3) := by decide +kernel
theorem dL_errors_600 : decode cL_errors 600 = .ok (.lcmp, 1) := by decide +kernel
theorem dL_errors_601 : decode cL_errors 601 = .ok (.ifCond .ne 76, 3) := by decide +kernel
theorem dL_errors_604 : decode cL_errors 604 = .ok (.aload_n 0, 1) := by decide +kernel
theorem dL_errors_605 : decode cL_errors 605 = .ok (.iload 7, 2) := by decide +kernel
theorem dL_errors_607 : decode cL_errors 607 = .ok (.iconst 0, 1) := by decide +kernel
theorem dL_errors_608 : decode cL_errors 608 = .ok (.iload 5, 2) := by decide +kernel
theorem dL_errors_610 : decode cL_errors 610 = .ok (.iconst 1, 1) := by decide +kernel
theorem dL_errors_611 : decode cL_errors 611 = .ok (.isub, 1) := by decide +kernel
theorem dL_errors_612 : decode cL_errors 612 = .ok (.iconst 0, 1) := by decide +kernel
theorem dL_errors_613 : decode cL_errors 613 = .ok (.invokestatic 156, 3) := by decide +kernel
theorem dL_errors_616 : decode cL_errors 616 = .ok (.ldc2_w 17, 3) := by decide +kernel
theorem dL_errors_619 : decode cL_errors 619 = .ok (.lcmp, 1) := by decide +kernel
theorem dL_errors_620 : decode cL_errors 620 = .ok (.ifCond .ne 57, 3) := by decide +kernel
theorem dL_errors_623 : decode cL_errors 623 = .ok (.aload_n 0, 1) := by decide +kernel
theorem dL_errors_624 : decode cL_errors 624 = .ok (.iload 7, 2) := by decide +kernel
theorem dL_errors_626 : decode cL_errors 626 = .ok (.iconst 0, 1) := by decide +kernel
theorem dL_errors_627 : decode cL_errors 627 = .ok (.iload 5, 2) := by decide +kernel
theorem dL_errors_629 : decode cL_errors 629 = .ok (.bipush 8, 2) := by decide +kernel
theorem dL_errors_631 : decode cL_errors 631 = .ok (.invokestatic 156, 3) := by decide +kernel
theorem dL_errors_634 : decode cL_errors 634 = .ok (.ldc2_w 17, 3) := by decide +kernel
theorem dL_errors_637 : decode cL_errors 637 = .ok (.lcmp, 1) := by decide +kernel
theorem dL_errors_638 : decode cL_errors 638 = .ok (.ifCond .ne 39, 3) := by decide +kernel
theorem dL_errors_641 : decode cL_errors 641 = .ok (.aload_n 0, 1) := by decide +kernel
theorem dL_errors_642 : decode cL_errors 642 = .ok (.iload 7, 2) := by decide +kernel
theorem dL_errors_644 : decode cL_errors 644 = .ok (.iconst 0, 1) := by decide +kernel
theorem dL_errors_645 : decode cL_errors 645 = .ok (.sipush 10000, 3) := by decide +kernel
theorem dL_errors_648 : decode cL_errors 648 = .ok (.iconst 0, 1) := by decide +kernel
theorem dL_errors_649 : decode cL_errors 649 = .ok (.invokestatic 175, 3) := by decide +kernel
theorem dL_errors_652 : decode cL_errors 652 = .ok (.ldc2_w 17, 3) := by decide +kernel
theorem dL_errors_655 : decode cL_errors 655 = .ok (.lcmp, 1) := by decide +kernel
