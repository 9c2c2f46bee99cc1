/-! ===== rows of the law's methods, 17 ===== -/
theorem dL_kept_697 : decode cL_kept 697 = .ok (.invokestatic 137, 3) := by decide +kernel
theorem dL_kept_700 : decode cL_kept 700 = .ok (.lmul, 1) := by decide +kernel
theorem dL_kept_701 : decode cL_kept 701 = .ok (.ladd, 1) := by decide +kernel
theorem dL_kept_702 : decode cL_kept 702 = .ok (.aload_n 0, 1) := by decide +kernel
theorem dL_kept_703 : decode cL_kept 703 = .ok (.iload 18, 2) := by decide +kernel
theorem dL_kept_705 : decode cL_kept 705 = .ok (.iconst 2, 1) := by decide +kernel
theorem dL_kept_706 : decode cL_kept 706 = .ok (.invokestatic 137, 3) := by decide +kernel
theorem dL_kept_709 : decode cL_kept 709 = .ok (.ladd, 1) := by decide +kernel
theorem dL_kept_710 : decode cL_kept 710 = .ok (.lcmp, 1) := by decide +kernel
theorem dL_kept_711 : decode cL_kept 711 = .ok (.ifCond .ge 40, 3) := by decide +kernel
theorem dL_kept_714 : decode cL_kept 714 = .ok (.iload 26, 2) := by decide +kernel
theorem dL_kept_716 : decode cL_kept 716 = .ok (.ifCond .eq 31, 3) := by decide +kernel
theorem dL_kept_719 : decode cL_kept 719 = .ok (.aload_n 0, 1) := by decide +kernel
theorem dL_kept_720 : decode cL_kept 720 = .ok (.iload 23, 2) := by decide +kernel
theorem dL_kept_722 : decode cL_kept 722 = .ok (.iconst 3, 1) := by decide +kernel
theorem dL_kept_723 : decode cL_kept 723 = .ok (.invokestatic 137, 3) := by decide +kernel
theorem dL_kept_726 : decode cL_kept 726 = .ok (.iload 21, 2) := by decide +kernel
theorem dL_kept_728 : decode cL_kept 728 = .ok (.i2l, 1) := by decide +kernel
theorem dL_kept_729 : decode cL_kept 729 = .ok (.lcmp, 1) := by decide +kernel
theorem dL_kept_730 : decode cL_kept 730 = .ok (.ifCond .eq 21, 3) := by decide +kernel
theorem dL_kept_733 : decode cL_kept 733 = .ok (.aload_n 0, 1) := by decide +kernel
theorem dL_kept_734 : decode cL_kept 734 = .ok (.iload 23, 2) := by decide +kernel
theorem dL_kept_736 : decode cL_kept 736 = .ok (.iconst 4, 1) := by decide +kernel
theorem dL_kept_737 : decode cL_kept 737 = .ok (.invokestatic 137, 3) := by decide +kernel
theorem dL_kept_740 : decode cL_kept 740 = .ok (.iload 22, 2) := by decide +kernel
theorem dL_kept_742 : decode cL_kept 742 = .ok (.i2l, 1) := by decide +kernel
theorem dL_kept_743 : decode cL_kept 743 = .ok (.lcmp, 1) := by decide +kernel
theorem dL_kept_744 : decode cL_kept 744 = .ok (.ifCond .eq 7, 3) := by decide +kernel
theorem dL_kept_747 : decode cL_kept 747 = .ok (.iconst 1, 1) := by decide +kernel
theorem dL_kept_748 : decode cL_kept 748 = .ok (.goto 4, 3) := by decide +kernel
theorem dL_kept_751 : decode cL_kept 751 = .ok (.iconst 0, 1) := by decide +kernel
theorem dL_kept_752 : decode cL_kept 752 = .ok (.istore 5, 2) := by decide +kernel
theorem dL_kept_754 : decode cL_kept 754 = .ok (.iinc 23 1, 3) := by decide +kernel
theorem dL_kept_757 : decode cL_kept 757 = .ok (.goto (-158), 3) := by decide +kernel
theorem dL_kept_760 : decode cL_kept 760 = .ok (.iconst 0, 1) := by decide +kernel
theorem dL_kept_761 : decode cL_kept 761 = .ok (.istore 23, 2) := by decide +kernel
theorem dL_kept_763 : decode cL_kept 763 = .ok (.lconst 0, 1) := by decide +kernel
theorem dL_kept_764 : decode cL_kept 764 = .ok (.lstore 24, 2) := by decide +kernel
theorem dL_kept_766 : decode cL_kept 766 = .ok (.aload_n 0, 1) := by decide +kernel
theorem dL_kept_767 : decode cL_kept 767 = .ok (.iload 18, 2) := by decide +kernel
theorem dL_kept_769 : decode cL_kept 769 = .ok (.iload 23, 2) := by decide +kernel
theorem dL_kept_771 : decode cL_kept 771 = .ok (.invokestatic 145, 3) := by decide +kernel
theorem dL_kept_774 : decode cL_kept 774 = .ok (.ldc2_w 224, 3) := by decide +kernel
theorem dL_kept_777 : decode cL_kept 777 = .ok (.ldc2_w 226, 3) := by decide +kernel
theorem dL_kept_780 : decode cL_kept 780 = .ok (.invokestatic 204, 3) := by decide +kernel
theorem dL_kept_783 : decode cL_kept 783 = .ok (.ifCond .eq 30, 3) := by decide +kernel
theorem dL_kept_786 : decode cL_kept 786 = .ok (.ldc2_w 228, 3) := by decide +kernel
theorem dL_kept_789 : decode cL_kept 789 = .ok (.lload 24, 2) := by decide +kernel
theorem dL_kept_791 : decode cL_kept 791 = .ok (.lmul, 1) := by decide +kernel
theorem dL_kept_792 : decode cL_kept 792 = .ok (.aload_n 0, 1) := by decide +kernel
theorem dL_kept_793 : decode cL_kept 793 = .ok (.iload 18, 2) := by decide +kernel
theorem dL_kept_795 : decode cL_kept 795 = .ok (.iload 23, 2) := by decide +kernel
theorem dL_kept_797 : decode cL_kept 797 = .ok (.invokestatic 145, 3) := by decide +kernel
theorem dL_kept_800 : decode cL_kept 800 = .ok (.ladd, 1) := by decide +kernel
theorem dL_kept_801 : decode cL_kept 801 = .ok (.ldc2_w 224, 3) := by decide +kernel
theorem dL_kept_804 : decode cL_kept 804 = .ok (.lsub, 1) := by decide +kernel
theorem dL_kept_805 : decode cL_kept 805 = .ok (.lstore 24, 2) := by decide +kernel
theorem dL_kept_807 : decode cL_kept 807 = .ok (.iinc 23 1, 3) := by decide +kernel
theorem dL_kept_810 : decode cL_kept 810 = .ok (.goto (-44), 3) := by decide +kernel
theorem dL_kept_813 : decode cL_kept 813 = .ok (.iload 5, 2) := by decide +kernel
theorem dL_kept_815 : decode cL_kept 815 = .ok (.ifCond .eq 196, 3) := by decide +kernel
theorem dL_kept_818 : decode cL_kept 818 = .ok (.iload 23, 2) := by decide +kernel
theorem dL_kept_820 : decode cL_kept 820 = .ok (.ifCond .le 191, 3) := by decide +kernel
theorem dL_kept_823 : decode cL_kept 823 = .ok (.lload 24, 2) := by decide +kernel
theorem dL_kept_825 : decode cL_kept 825 = .ok (.lload 19, 2) := by decide +kernel
theorem dL_kept_827 : decode cL_kept 827 = .ok (.lcmp, 1) := by decide +kernel
theorem dL_kept_828 : decode cL_kept 828 = .ok (.ifCond .ne 183, 3) := by decide +kernel
theorem dL_kept_831 : decode cL_kept 831 = .ok (.aload_n 0, 1) := by decide +kernel
theorem dL_kept_832 : decode cL_kept 832 = .ok (.iload 18, 2) := by decide +kernel
theorem dL_kept_834 : decode cL_kept 834 = .ok (.iload 23, 2) := by decide +kernel
theorem dL_kept_836 : decode cL_kept 836 = .ok (.invokestatic 145, 3) := by decide +kernel
theorem dL_kept_839 : decode cL_kept 839 = .ok (.ldc2_w 230, 3) := by decide +kernel
theorem dL_kept_842 : decode cL_kept 842 = .ok (.lcmp, 1) := by decide +kernel
theorem dL_kept_843 : decode cL_kept 843 = .ok (.ifCond .ne 168, 3) := by decide +kernel
theorem dL_kept_846 : decode cL_kept 846 = .ok (.aload_n 0, 1) := by decide +kernel
theorem dL_kept_847 : decode cL_kept 847 = .ok (.iload 18, 2) := by decide +kernel
theorem dL_kept_849 : decode cL_kept 849 = .ok (.iload 23, 2) := by decide +kernel
theorem dL_kept_851 : decode cL_kept 851 = .ok (.iconst 1, 1) := by decide +kernel
theorem dL_kept_852 : decode cL_kept 852 = .ok (.iadd, 1) := by decide +kernel
theorem dL_kept_853 : decode cL_kept 853 = .ok (.invokestatic 145, 3) := by decide +kernel
