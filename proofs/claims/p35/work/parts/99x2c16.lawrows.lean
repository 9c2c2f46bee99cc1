/-! ===== rows of the law's methods, 16 ===== -/
theorem dL_kept_548 : decode cL_kept 548 = .ok (.lconst 0, 1) := by decide +kernel
theorem dL_kept_549 : decode cL_kept 549 = .ok (.iload_n 1, 1) := by decide +kernel
theorem dL_kept_550 : decode cL_kept 550 = .ok (.iconst 1, 1) := by decide +kernel
theorem dL_kept_551 : decode cL_kept 551 = .ok (.isub, 1) := by decide +kernel
theorem dL_kept_552 : decode cL_kept 552 = .ok (.i2l, 1) := by decide +kernel
theorem dL_kept_553 : decode cL_kept 553 = .ok (.invokestatic 204, 3) := by decide +kernel
theorem dL_kept_556 : decode cL_kept 556 = .ok (.ifCond .eq 37, 3) := by decide +kernel
theorem dL_kept_559 : decode cL_kept 559 = .ok (.iload 22, 2) := by decide +kernel
theorem dL_kept_561 : decode cL_kept 561 = .ok (.i2l, 1) := by decide +kernel
theorem dL_kept_562 : decode cL_kept 562 = .ok (.lconst 0, 1) := by decide +kernel
theorem dL_kept_563 : decode cL_kept 563 = .ok (.ldc2_w 218, 3) := by decide +kernel
theorem dL_kept_566 : decode cL_kept 566 = .ok (.invokestatic 204, 3) := by decide +kernel
theorem dL_kept_569 : decode cL_kept 569 = .ok (.ifCond .eq 24, 3) := by decide +kernel
theorem dL_kept_572 : decode cL_kept 572 = .ok (.aload_n 0, 1) := by decide +kernel
theorem dL_kept_573 : decode cL_kept 573 = .ok (.iload 18, 2) := by decide +kernel
theorem dL_kept_575 : decode cL_kept 575 = .ok (.iconst 5, 1) := by decide +kernel
theorem dL_kept_576 : decode cL_kept 576 = .ok (.invokestatic 137, 3) := by decide +kernel
theorem dL_kept_579 : decode cL_kept 579 = .ok (.lconst 0, 1) := by decide +kernel
theorem dL_kept_580 : decode cL_kept 580 = .ok (.ldc2_w 185, 3) := by decide +kernel
theorem dL_kept_583 : decode cL_kept 583 = .ok (.invokestatic 204, 3) := by decide +kernel
theorem dL_kept_586 : decode cL_kept 586 = .ok (.ifCond .eq 7, 3) := by decide +kernel
theorem dL_kept_589 : decode cL_kept 589 = .ok (.iconst 1, 1) := by decide +kernel
theorem dL_kept_590 : decode cL_kept 590 = .ok (.goto 4, 3) := by decide +kernel
theorem dL_kept_593 : decode cL_kept 593 = .ok (.iconst 0, 1) := by decide +kernel
theorem dL_kept_594 : decode cL_kept 594 = .ok (.istore 5, 2) := by decide +kernel
theorem dL_kept_596 : decode cL_kept 596 = .ok (.iconst 0, 1) := by decide +kernel
theorem dL_kept_597 : decode cL_kept 597 = .ok (.istore 23, 2) := by decide +kernel
theorem dL_kept_599 : decode cL_kept 599 = .ok (.iload 23, 2) := by decide +kernel
theorem dL_kept_601 : decode cL_kept 601 = .ok (.iload 18, 2) := by decide +kernel
theorem dL_kept_603 : decode cL_kept 603 = .ok (.if_icmp .ge 157, 3) := by decide +kernel
theorem dL_kept_606 : decode cL_kept 606 = .ok (.iload 5, 2) := by decide +kernel
theorem dL_kept_608 : decode cL_kept 608 = .ok (.ifCond .eq 152, 3) := by decide +kernel
theorem dL_kept_611 : decode cL_kept 611 = .ok (.ldc2_w 220, 3) := by decide +kernel
theorem dL_kept_614 : decode cL_kept 614 = .ok (.aload_n 0, 1) := by decide +kernel
theorem dL_kept_615 : decode cL_kept 615 = .ok (.iload 23, 2) := by decide +kernel
theorem dL_kept_617 : decode cL_kept 617 = .ok (.iconst 0, 1) := by decide +kernel
theorem dL_kept_618 : decode cL_kept 618 = .ok (.invokestatic 137, 3) := by decide +kernel
theorem dL_kept_621 : decode cL_kept 621 = .ok (.lmul, 1) := by decide +kernel
theorem dL_kept_622 : decode cL_kept 622 = .ok (.ldc2_w 222, 3) := by decide +kernel
theorem dL_kept_625 : decode cL_kept 625 = .ok (.aload_n 0, 1) := by decide +kernel
theorem dL_kept_626 : decode cL_kept 626 = .ok (.iload 23, 2) := by decide +kernel
theorem dL_kept_628 : decode cL_kept 628 = .ok (.iconst 1, 1) := by decide +kernel
theorem dL_kept_629 : decode cL_kept 629 = .ok (.invokestatic 137, 3) := by decide +kernel
theorem dL_kept_632 : decode cL_kept 632 = .ok (.lmul, 1) := by decide +kernel
theorem dL_kept_633 : decode cL_kept 633 = .ok (.ladd, 1) := by decide +kernel
theorem dL_kept_634 : decode cL_kept 634 = .ok (.aload_n 0, 1) := by decide +kernel
theorem dL_kept_635 : decode cL_kept 635 = .ok (.iload 23, 2) := by decide +kernel
theorem dL_kept_637 : decode cL_kept 637 = .ok (.iconst 2, 1) := by decide +kernel
theorem dL_kept_638 : decode cL_kept 638 = .ok (.invokestatic 137, 3) := by decide +kernel
theorem dL_kept_641 : decode cL_kept 641 = .ok (.ladd, 1) := by decide +kernel
theorem dL_kept_642 : decode cL_kept 642 = .ok (.lstore 24, 2) := by decide +kernel
theorem dL_kept_644 : decode cL_kept 644 = .ok (.aload_n 0, 1) := by decide +kernel
theorem dL_kept_645 : decode cL_kept 645 = .ok (.iload 23, 2) := by decide +kernel
theorem dL_kept_647 : decode cL_kept 647 = .ok (.iconst 0, 1) := by decide +kernel
theorem dL_kept_648 : decode cL_kept 648 = .ok (.invokestatic 137, 3) := by decide +kernel
theorem dL_kept_651 : decode cL_kept 651 = .ok (.lload 19, 2) := by decide +kernel
theorem dL_kept_653 : decode cL_kept 653 = .ok (.lcmp, 1) := by decide +kernel
theorem dL_kept_654 : decode cL_kept 654 = .ok (.ifCond .ne 25, 3) := by decide +kernel
theorem dL_kept_657 : decode cL_kept 657 = .ok (.aload_n 0, 1) := by decide +kernel
theorem dL_kept_658 : decode cL_kept 658 = .ok (.iload 23, 2) := by decide +kernel
theorem dL_kept_660 : decode cL_kept 660 = .ok (.iconst 1, 1) := by decide +kernel
theorem dL_kept_661 : decode cL_kept 661 = .ok (.invokestatic 137, 3) := by decide +kernel
theorem dL_kept_664 : decode cL_kept 664 = .ok (.aload_n 0, 1) := by decide +kernel
theorem dL_kept_665 : decode cL_kept 665 = .ok (.iload 18, 2) := by decide +kernel
theorem dL_kept_667 : decode cL_kept 667 = .ok (.iconst 1, 1) := by decide +kernel
theorem dL_kept_668 : decode cL_kept 668 = .ok (.invokestatic 137, 3) := by decide +kernel
theorem dL_kept_671 : decode cL_kept 671 = .ok (.lcmp, 1) := by decide +kernel
theorem dL_kept_672 : decode cL_kept 672 = .ok (.ifCond .ne 7, 3) := by decide +kernel
theorem dL_kept_675 : decode cL_kept 675 = .ok (.iconst 1, 1) := by decide +kernel
theorem dL_kept_676 : decode cL_kept 676 = .ok (.goto 4, 3) := by decide +kernel
theorem dL_kept_679 : decode cL_kept 679 = .ok (.iconst 0, 1) := by decide +kernel
theorem dL_kept_680 : decode cL_kept 680 = .ok (.istore 26, 2) := by decide +kernel
theorem dL_kept_682 : decode cL_kept 682 = .ok (.lload 24, 2) := by decide +kernel
theorem dL_kept_684 : decode cL_kept 684 = .ok (.ldc2_w 220, 3) := by decide +kernel
theorem dL_kept_687 : decode cL_kept 687 = .ok (.lload 19, 2) := by decide +kernel
theorem dL_kept_689 : decode cL_kept 689 = .ok (.lmul, 1) := by decide +kernel
theorem dL_kept_690 : decode cL_kept 690 = .ok (.ldc2_w 222, 3) := by decide +kernel
theorem dL_kept_693 : decode cL_kept 693 = .ok (.aload_n 0, 1) := by decide +kernel
theorem dL_kept_694 : decode cL_kept 694 = .ok (.iload 18, 2) := by decide +kernel
theorem dL_kept_696 : decode cL_kept 696 = .ok (.iconst 1, 1) := by decide +kernel
