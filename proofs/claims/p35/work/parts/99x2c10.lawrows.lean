/-! ===== rows of the law's methods, 10 ===== -/
theorem dL_errors_656 : decode cL_errors 656 = .ok (.ifCond .ne 21, 3) := by decide +kernel
theorem dL_errors_659 : decode cL_errors 659 = .ok (.aload_n 0, 1) := by decide +kernel
theorem dL_errors_660 : decode cL_errors 660 = .ok (.iload 7, 2) := by decide +kernel
theorem dL_errors_662 : decode cL_errors 662 = .ok (.iconst (-1), 1) := by decide +kernel
theorem dL_errors_663 : decode cL_errors 663 = .ok (.invokestatic 167, 3) := by decide +kernel
theorem dL_errors_666 : decode cL_errors 666 = .ok (.ldc2_w 17, 3) := by decide +kernel
theorem dL_errors_669 : decode cL_errors 669 = .ok (.lcmp, 1) := by decide +kernel
theorem dL_errors_670 : decode cL_errors 670 = .ok (.ifCond .ne 7, 3) := by decide +kernel
theorem dL_errors_673 : decode cL_errors 673 = .ok (.iconst 1, 1) := by decide +kernel
theorem dL_errors_674 : decode cL_errors 674 = .ok (.goto 4, 3) := by decide +kernel
theorem dL_errors_677 : decode cL_errors 677 = .ok (.iconst 0, 1) := by decide +kernel
theorem dL_errors_678 : decode cL_errors 678 = .ok (.istore 6, 2) := by decide +kernel
theorem dL_errors_680 : decode cL_errors 680 = .ok (.iconst 0, 1) := by decide +kernel
theorem dL_errors_681 : decode cL_errors 681 = .ok (.istore 8, 2) := by decide +kernel
theorem dL_errors_683 : decode cL_errors 683 = .ok (.iload 8, 2) := by decide +kernel
theorem dL_errors_685 : decode cL_errors 685 = .ok (.bipush 10, 2) := by decide +kernel
theorem dL_errors_687 : decode cL_errors 687 = .ok (.if_icmp .ge 122, 3) := by decide +kernel
theorem dL_errors_690 : decode cL_errors 690 = .ok (.iload 6, 2) := by decide +kernel
theorem dL_errors_692 : decode cL_errors 692 = .ok (.ifCond .eq 117, 3) := by decide +kernel
theorem dL_errors_695 : decode cL_errors 695 = .ok (.aload_n 0, 1) := by decide +kernel
theorem dL_errors_696 : decode cL_errors 696 = .ok (.iload 7, 2) := by decide +kernel
theorem dL_errors_698 : decode cL_errors 698 = .ok (.iconst 1, 1) := by decide +kernel
theorem dL_errors_699 : decode cL_errors 699 = .ok (.invokestatic 132, 3) := by decide +kernel
theorem dL_errors_702 : decode cL_errors 702 = .ok (.iload 8, 2) := by decide +kernel
theorem dL_errors_704 : decode cL_errors 704 = .ok (.lshr, 1) := by decide +kernel
theorem dL_errors_705 : decode cL_errors 705 = .ok (.lconst 1, 1) := by decide +kernel
theorem dL_errors_706 : decode cL_errors 706 = .ok (.land, 1) := by decide +kernel
theorem dL_errors_707 : decode cL_errors 707 = .ok (.lconst 1, 1) := by decide +kernel
theorem dL_errors_708 : decode cL_errors 708 = .ok (.lcmp, 1) := by decide +kernel
theorem dL_errors_709 : decode cL_errors 709 = .ok (.ifCond .ne 7, 3) := by decide +kernel
theorem dL_errors_712 : decode cL_errors 712 = .ok (.iconst 1, 1) := by decide +kernel
theorem dL_errors_713 : decode cL_errors 713 = .ok (.goto 4, 3) := by decide +kernel
theorem dL_errors_716 : decode cL_errors 716 = .ok (.iconst 0, 1) := by decide +kernel
theorem dL_errors_717 : decode cL_errors 717 = .ok (.istore 9, 2) := by decide +kernel
theorem dL_errors_719 : decode cL_errors 719 = .ok (.iload 9, 2) := by decide +kernel
theorem dL_errors_721 : decode cL_errors 721 = .ok (.ifCond .ne 75, 3) := by decide +kernel
theorem dL_errors_724 : decode cL_errors 724 = .ok (.aload_n 0, 1) := by decide +kernel
theorem dL_errors_725 : decode cL_errors 725 = .ok (.iload 7, 2) := by decide +kernel
theorem dL_errors_727 : decode cL_errors 727 = .ok (.iload 8, 2) := by decide +kernel
theorem dL_errors_729 : decode cL_errors 729 = .ok (.invokestatic 169, 3) := by decide +kernel
theorem dL_errors_732 : decode cL_errors 732 = .ok (.ldc2_w 21, 3) := by decide +kernel
theorem dL_errors_735 : decode cL_errors 735 = .ok (.lcmp, 1) := by decide +kernel
theorem dL_errors_736 : decode cL_errors 736 = .ok (.ifCond .ne 64, 3) := by decide +kernel
theorem dL_errors_739 : decode cL_errors 739 = .ok (.aload_n 0, 1) := by decide +kernel
theorem dL_errors_740 : decode cL_errors 740 = .ok (.iload 7, 2) := by decide +kernel
theorem dL_errors_742 : decode cL_errors 742 = .ok (.iload 8, 2) := by decide +kernel
theorem dL_errors_744 : decode cL_errors 744 = .ok (.iload 5, 2) := by decide +kernel
theorem dL_errors_746 : decode cL_errors 746 = .ok (.iload 8, 2) := by decide +kernel
theorem dL_errors_748 : decode cL_errors 748 = .ok (.bipush 8, 2) := by decide +kernel
theorem dL_errors_750 : decode cL_errors 750 = .ok (.irem, 1) := by decide +kernel
theorem dL_errors_751 : decode cL_errors 751 = .ok (.invokestatic 175, 3) := by decide +kernel
theorem dL_errors_754 : decode cL_errors 754 = .ok (.lconst 1, 1) := by decide +kernel
theorem dL_errors_755 : decode cL_errors 755 = .ok (.lcmp, 1) := by decide +kernel
theorem dL_errors_756 : decode cL_errors 756 = .ok (.ifCond .ne 44, 3) := by decide +kernel
theorem dL_errors_759 : decode cL_errors 759 = .ok (.aload_n 0, 1) := by decide +kernel
theorem dL_errors_760 : decode cL_errors 760 = .ok (.iload 7, 2) := by decide +kernel
theorem dL_errors_762 : decode cL_errors 762 = .ok (.iload 8, 2) := by decide +kernel
theorem dL_errors_764 : decode cL_errors 764 = .ok (.iload 5, 2) := by decide +kernel
theorem dL_errors_766 : decode cL_errors 766 = .ok (.iload 8, 2) := by decide +kernel
theorem dL_errors_768 : decode cL_errors 768 = .ok (.bipush 8, 2) := by decide +kernel
theorem dL_errors_770 : decode cL_errors 770 = .ok (.irem, 1) := by decide +kernel
theorem dL_errors_771 : decode cL_errors 771 = .ok (.invokestatic 156, 3) := by decide +kernel
theorem dL_errors_774 : decode cL_errors 774 = .ok (.ldc2_w 21, 3) := by decide +kernel
theorem dL_errors_777 : decode cL_errors 777 = .ok (.lcmp, 1) := by decide +kernel
theorem dL_errors_778 : decode cL_errors 778 = .ok (.ifCond .ne 22, 3) := by decide +kernel
theorem dL_errors_781 : decode cL_errors 781 = .ok (.aload_n 0, 1) := by decide +kernel
theorem dL_errors_782 : decode cL_errors 782 = .ok (.iload 7, 2) := by decide +kernel
theorem dL_errors_784 : decode cL_errors 784 = .ok (.iload 8, 2) := by decide +kernel
theorem dL_errors_786 : decode cL_errors 786 = .ok (.invokestatic 177, 3) := by decide +kernel
theorem dL_errors_789 : decode cL_errors 789 = .ok (.ldc2_w 183, 3) := by decide +kernel
theorem dL_errors_792 : decode cL_errors 792 = .ok (.lcmp, 1) := by decide +kernel
theorem dL_errors_793 : decode cL_errors 793 = .ok (.ifCond .ne 7, 3) := by decide +kernel
theorem dL_errors_796 : decode cL_errors 796 = .ok (.iconst 1, 1) := by decide +kernel
theorem dL_errors_797 : decode cL_errors 797 = .ok (.goto 4, 3) := by decide +kernel
theorem dL_errors_800 : decode cL_errors 800 = .ok (.iconst 0, 1) := by decide +kernel
theorem dL_errors_801 : decode cL_errors 801 = .ok (.istore 6, 2) := by decide +kernel
theorem dL_errors_803 : decode cL_errors 803 = .ok (.iinc 8 1, 3) := by decide +kernel
theorem dL_errors_806 : decode cL_errors 806 = .ok (.goto (-123), 3) := by decide +kernel
theorem dL_errors_809 : decode cL_errors 809 = .ok (.iinc 7 1, 3) := by decide +kernel
theorem dL_errors_812 : decode cL_errors 812 = .ok (.goto (-264), 3) := by decide +kernel
