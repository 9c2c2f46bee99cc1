/-! ===== rows of the law's methods, 26 ===== -/
theorem dL_follows_659 : decode cL_follows 659 = .ok (.iconst 0, 1) := by decide +kernel
theorem dL_follows_660 : decode cL_follows 660 = .ok (.istore 17, 2) := by decide +kernel
theorem dL_follows_662 : decode cL_follows 662 = .ok (.iload 17, 2) := by decide +kernel
theorem dL_follows_664 : decode cL_follows 664 = .ok (.ifCond .eq 99, 3) := by decide +kernel
theorem dL_follows_667 : decode cL_follows 667 = .ok (.lload 30, 2) := by decide +kernel
theorem dL_follows_669 : decode cL_follows 669 = .ok (.ldc2_w 183, 3) := by decide +kernel
theorem dL_follows_672 : decode cL_follows 672 = .ok (.lcmp, 1) := by decide +kernel
theorem dL_follows_673 : decode cL_follows 673 = .ok (.ifCond .eq 90, 3) := by decide +kernel
theorem dL_follows_676 : decode cL_follows 676 = .ok (.lload 30, 2) := by decide +kernel
theorem dL_follows_678 : decode cL_follows 678 = .ok (.ldc2_w 202, 3) := by decide +kernel
theorem dL_follows_681 : decode cL_follows 681 = .ok (.ldiv, 1) := by decide +kernel
theorem dL_follows_682 : decode cL_follows 682 = .ok (.ldc2_w 242, 3) := by decide +kernel
theorem dL_follows_685 : decode cL_follows 685 = .ok (.lcmp, 1) := by decide +kernel
theorem dL_follows_686 : decode cL_follows 686 = .ok (.ifCond .gt 77, 3) := by decide +kernel
theorem dL_follows_689 : decode cL_follows 689 = .ok (.aload_n 0, 1) := by decide +kernel
theorem dL_follows_690 : decode cL_follows 690 = .ok (.iload 28, 2) := by decide +kernel
theorem dL_follows_692 : decode cL_follows 692 = .ok (.iload 29, 2) := by decide +kernel
theorem dL_follows_694 : decode cL_follows 694 = .ok (.lload 30, 2) := by decide +kernel
theorem dL_follows_696 : decode cL_follows 696 = .ok (.ldc2_w 202, 3) := by decide +kernel
theorem dL_follows_699 : decode cL_follows 699 = .ok (.ldiv, 1) := by decide +kernel
theorem dL_follows_700 : decode cL_follows 700 = .ok (.l2i, 1) := by decide +kernel
theorem dL_follows_701 : decode cL_follows 701 = .ok (.lload 30, 2) := by decide +kernel
theorem dL_follows_703 : decode cL_follows 703 = .ok (.ldc2_w 202, 3) := by decide +kernel
theorem dL_follows_706 : decode cL_follows 706 = .ok (.lrem, 1) := by decide +kernel
theorem dL_follows_707 : decode cL_follows 707 = .ok (.l2i, 1) := by decide +kernel
theorem dL_follows_708 : decode cL_follows 708 = .ok (.invokestatic 175, 3) := by decide +kernel
theorem dL_follows_711 : decode cL_follows 711 = .ok (.lconst 0, 1) := by decide +kernel
theorem dL_follows_712 : decode cL_follows 712 = .ok (.lcmp, 1) := by decide +kernel
theorem dL_follows_713 : decode cL_follows 713 = .ok (.ifCond .ne 47, 3) := by decide +kernel
theorem dL_follows_716 : decode cL_follows 716 = .ok (.lload 30, 2) := by decide +kernel
theorem dL_follows_718 : decode cL_follows 718 = .ok (.ldc2_w 202, 3) := by decide +kernel
theorem dL_follows_721 : decode cL_follows 721 = .ok (.lrem, 1) := by decide +kernel
theorem dL_follows_722 : decode cL_follows 722 = .ok (.lconst 0, 1) := by decide +kernel
theorem dL_follows_723 : decode cL_follows 723 = .ok (.lcmp, 1) := by decide +kernel
theorem dL_follows_724 : decode cL_follows 724 = .ok (.ifCond .eq 32, 3) := by decide +kernel
theorem dL_follows_727 : decode cL_follows 727 = .ok (.aload_n 0, 1) := by decide +kernel
theorem dL_follows_728 : decode cL_follows 728 = .ok (.iload 28, 2) := by decide +kernel
theorem dL_follows_730 : decode cL_follows 730 = .ok (.iload 29, 2) := by decide +kernel
theorem dL_follows_732 : decode cL_follows 732 = .ok (.lload 30, 2) := by decide +kernel
theorem dL_follows_734 : decode cL_follows 734 = .ok (.ldc2_w 202, 3) := by decide +kernel
theorem dL_follows_737 : decode cL_follows 737 = .ok (.ldiv, 1) := by decide +kernel
theorem dL_follows_738 : decode cL_follows 738 = .ok (.l2i, 1) := by decide +kernel
theorem dL_follows_739 : decode cL_follows 739 = .ok (.lload 30, 2) := by decide +kernel
theorem dL_follows_741 : decode cL_follows 741 = .ok (.ldc2_w 202, 3) := by decide +kernel
theorem dL_follows_744 : decode cL_follows 744 = .ok (.lrem, 1) := by decide +kernel
theorem dL_follows_745 : decode cL_follows 745 = .ok (.l2i, 1) := by decide +kernel
theorem dL_follows_746 : decode cL_follows 746 = .ok (.iconst 1, 1) := by decide +kernel
theorem dL_follows_747 : decode cL_follows 747 = .ok (.isub, 1) := by decide +kernel
theorem dL_follows_748 : decode cL_follows 748 = .ok (.invokestatic 175, 3) := by decide +kernel
theorem dL_follows_751 : decode cL_follows 751 = .ok (.lconst 0, 1) := by decide +kernel
theorem dL_follows_752 : decode cL_follows 752 = .ok (.lcmp, 1) := by decide +kernel
theorem dL_follows_753 : decode cL_follows 753 = .ok (.ifCond .le 7, 3) := by decide +kernel
theorem dL_follows_756 : decode cL_follows 756 = .ok (.iconst 1, 1) := by decide +kernel
theorem dL_follows_757 : decode cL_follows 757 = .ok (.goto 4, 3) := by decide +kernel
theorem dL_follows_760 : decode cL_follows 760 = .ok (.iconst 0, 1) := by decide +kernel
theorem dL_follows_761 : decode cL_follows 761 = .ok (.istore 17, 2) := by decide +kernel
theorem dL_follows_763 : decode cL_follows 763 = .ok (.iload 17, 2) := by decide +kernel
theorem dL_follows_765 : decode cL_follows 765 = .ok (.ifCond .eq 85, 3) := by decide +kernel
theorem dL_follows_768 : decode cL_follows 768 = .ok (.iload 33, 2) := by decide +kernel
theorem dL_follows_770 : decode cL_follows 770 = .ok (.sipush 9999, 3) := by decide +kernel
theorem dL_follows_773 : decode cL_follows 773 = .ok (.if_icmp .gt 77, 3) := by decide +kernel
theorem dL_follows_776 : decode cL_follows 776 = .ok (.lload 34, 2) := by decide +kernel
theorem dL_follows_778 : decode cL_follows 778 = .ok (.lconst 1, 1) := by decide +kernel
theorem dL_follows_779 : decode cL_follows 779 = .ok (.lcmp, 1) := by decide +kernel
theorem dL_follows_780 : decode cL_follows 780 = .ok (.ifCond .le 70, 3) := by decide +kernel
theorem dL_follows_783 : decode cL_follows 783 = .ok (.aload_n 0, 1) := by decide +kernel
theorem dL_follows_784 : decode cL_follows 784 = .ok (.iload 28, 2) := by decide +kernel
theorem dL_follows_786 : decode cL_follows 786 = .ok (.iconst 2, 1) := by decide +kernel
theorem dL_follows_787 : decode cL_follows 787 = .ok (.invokestatic 132, 3) := by decide +kernel
theorem dL_follows_790 : decode cL_follows 790 = .ok (.lstore 36, 2) := by decide +kernel
theorem dL_follows_792 : decode cL_follows 792 = .ok (.aload_n 0, 1) := by decide +kernel
theorem dL_follows_793 : decode cL_follows 793 = .ok (.iload 28, 2) := by decide +kernel
theorem dL_follows_795 : decode cL_follows 795 = .ok (.bipush 20, 2) := by decide +kernel
theorem dL_follows_797 : decode cL_follows 797 = .ok (.invokestatic 167, 3) := by decide +kernel
theorem dL_follows_800 : decode cL_follows 800 = .ok (.lload 36, 2) := by decide +kernel
theorem dL_follows_802 : decode cL_follows 802 = .ok (.lcmp, 1) := by decide +kernel
theorem dL_follows_803 : decode cL_follows 803 = .ok (.ifCond .ne 44, 3) := by decide +kernel
theorem dL_follows_806 : decode cL_follows 806 = .ok (.aload_n 0, 1) := by decide +kernel
theorem dL_follows_807 : decode cL_follows 807 = .ok (.iload 28, 2) := by decide +kernel
theorem dL_follows_809 : decode cL_follows 809 = .ok (.iload 29, 2) := by decide +kernel
