/-! ===== rows of the law's methods, 11 ===== -/
theorem dL_errors_815 : decode cL_errors 815 = .ok (.iconst 0, 1) := by decide +kernel
theorem dL_errors_816 : decode cL_errors 816 = .ok (.istore 7, 2) := by decide +kernel
theorem dL_errors_818 : decode cL_errors 818 = .ok (.iload 7, 2) := by decide +kernel
theorem dL_errors_820 : decode cL_errors 820 = .ok (.iload 4, 2) := by decide +kernel
theorem dL_errors_822 : decode cL_errors 822 = .ok (.if_icmp .ge 96, 3) := by decide +kernel
theorem dL_errors_825 : decode cL_errors 825 = .ok (.iload 6, 2) := by decide +kernel
theorem dL_errors_827 : decode cL_errors 827 = .ok (.ifCond .eq 91, 3) := by decide +kernel
theorem dL_errors_830 : decode cL_errors 830 = .ok (.aload_n 0, 1) := by decide +kernel
theorem dL_errors_831 : decode cL_errors 831 = .ok (.iload 7, 2) := by decide +kernel
theorem dL_errors_833 : decode cL_errors 833 = .ok (.bipush 6, 2) := by decide +kernel
theorem dL_errors_835 : decode cL_errors 835 = .ok (.invokestatic 137, 3) := by decide +kernel
theorem dL_errors_838 : decode cL_errors 838 = .ok (.ldc2_w 17, 3) := by decide +kernel
theorem dL_errors_841 : decode cL_errors 841 = .ok (.lcmp, 1) := by decide +kernel
theorem dL_errors_842 : decode cL_errors 842 = .ok (.ifCond .ne 67, 3) := by decide +kernel
theorem dL_errors_845 : decode cL_errors 845 = .ok (.aload_n 0, 1) := by decide +kernel
theorem dL_errors_846 : decode cL_errors 846 = .ok (.iload 7, 2) := by decide +kernel
theorem dL_errors_848 : decode cL_errors 848 = .ok (.bipush 60, 2) := by decide +kernel
theorem dL_errors_850 : decode cL_errors 850 = .ok (.invokestatic 161, 3) := by decide +kernel
theorem dL_errors_853 : decode cL_errors 853 = .ok (.ldc2_w 17, 3) := by decide +kernel
theorem dL_errors_856 : decode cL_errors 856 = .ok (.lcmp, 1) := by decide +kernel
theorem dL_errors_857 : decode cL_errors 857 = .ok (.ifCond .ne 52, 3) := by decide +kernel
theorem dL_errors_860 : decode cL_errors 860 = .ok (.aload_n 0, 1) := by decide +kernel
theorem dL_errors_861 : decode cL_errors 861 = .ok (.iload 7, 2) := by decide +kernel
theorem dL_errors_863 : decode cL_errors 863 = .ok (.iconst (-1), 1) := by decide +kernel
theorem dL_errors_864 : decode cL_errors 864 = .ok (.invokestatic 145, 3) := by decide +kernel
theorem dL_errors_867 : decode cL_errors 867 = .ok (.ldc2_w 17, 3) := by decide +kernel
theorem dL_errors_870 : decode cL_errors 870 = .ok (.lcmp, 1) := by decide +kernel
theorem dL_errors_871 : decode cL_errors 871 = .ok (.ifCond .ne 38, 3) := by decide +kernel
theorem dL_errors_874 : decode cL_errors 874 = .ok (.aload_n 0, 1) := by decide +kernel
theorem dL_errors_875 : decode cL_errors 875 = .ok (.iload 7, 2) := by decide +kernel
theorem dL_errors_877 : decode cL_errors 877 = .ok (.iconst 0, 1) := by decide +kernel
theorem dL_errors_878 : decode cL_errors 878 = .ok (.invokestatic 137, 3) := by decide +kernel
theorem dL_errors_881 : decode cL_errors 881 = .ok (.iload 5, 2) := by decide +kernel
theorem dL_errors_883 : decode cL_errors 883 = .ok (.i2l, 1) := by decide +kernel
theorem dL_errors_884 : decode cL_errors 884 = .ok (.ldc2_w 185, 3) := by decide +kernel
theorem dL_errors_887 : decode cL_errors 887 = .ok (.ladd, 1) := by decide +kernel
theorem dL_errors_888 : decode cL_errors 888 = .ok (.lcmp, 1) := by decide +kernel
theorem dL_errors_889 : decode cL_errors 889 = .ok (.ifCond .le 16, 3) := by decide +kernel
theorem dL_errors_892 : decode cL_errors 892 = .ok (.aload_n 0, 1) := by decide +kernel
theorem dL_errors_893 : decode cL_errors 893 = .ok (.iload 7, 2) := by decide +kernel
theorem dL_errors_895 : decode cL_errors 895 = .ok (.invokestatic 181, 3) := by decide +kernel
theorem dL_errors_898 : decode cL_errors 898 = .ok (.ldc2_w 21, 3) := by decide +kernel
theorem dL_errors_901 : decode cL_errors 901 = .ok (.lcmp, 1) := by decide +kernel
theorem dL_errors_902 : decode cL_errors 902 = .ok (.ifCond .ne 7, 3) := by decide +kernel
theorem dL_errors_905 : decode cL_errors 905 = .ok (.iconst 1, 1) := by decide +kernel
theorem dL_errors_906 : decode cL_errors 906 = .ok (.goto 4, 3) := by decide +kernel
theorem dL_errors_909 : decode cL_errors 909 = .ok (.iconst 0, 1) := by decide +kernel
theorem dL_errors_910 : decode cL_errors 910 = .ok (.istore 6, 2) := by decide +kernel
theorem dL_errors_912 : decode cL_errors 912 = .ok (.iinc 7 1, 3) := by decide +kernel
theorem dL_errors_915 : decode cL_errors 915 = .ok (.goto (-97), 3) := by decide +kernel
theorem dL_errors_918 : decode cL_errors 918 = .ok (.iload 6, 2) := by decide +kernel
theorem dL_errors_920 : decode cL_errors 920 = .ok (.ifCond .eq 93, 3) := by decide +kernel
theorem dL_errors_923 : decode cL_errors 923 = .ok (.aload_n 0, 1) := by decide +kernel
theorem dL_errors_924 : decode cL_errors 924 = .ok (.iconst 0, 1) := by decide +kernel
theorem dL_errors_925 : decode cL_errors 925 = .ok (.lconst 0, 1) := by decide +kernel
theorem dL_errors_926 : decode cL_errors 926 = .ok (.invokestatic 187, 3) := by decide +kernel
theorem dL_errors_929 : decode cL_errors 929 = .ok (.ldc2_w 17, 3) := by decide +kernel
theorem dL_errors_932 : decode cL_errors 932 = .ok (.lcmp, 1) := by decide +kernel
theorem dL_errors_933 : decode cL_errors 933 = .ok (.ifCond .ne 80, 3) := by decide +kernel
theorem dL_errors_936 : decode cL_errors 936 = .ok (.aload_n 0, 1) := by decide +kernel
theorem dL_errors_937 : decode cL_errors 937 = .ok (.iconst 3, 1) := by decide +kernel
theorem dL_errors_938 : decode cL_errors 938 = .ok (.ldc2_w 191, 3) := by decide +kernel
theorem dL_errors_941 : decode cL_errors 941 = .ok (.invokestatic 187, 3) := by decide +kernel
theorem dL_errors_944 : decode cL_errors 944 = .ok (.ldc2_w 17, 3) := by decide +kernel
theorem dL_errors_947 : decode cL_errors 947 = .ok (.lcmp, 1) := by decide +kernel
theorem dL_errors_948 : decode cL_errors 948 = .ok (.ifCond .ne 65, 3) := by decide +kernel
theorem dL_errors_951 : decode cL_errors 951 = .ok (.aload_n 0, 1) := by decide +kernel
theorem dL_errors_952 : decode cL_errors 952 = .ok (.lconst 1, 1) := by decide +kernel
theorem dL_errors_953 : decode cL_errors 953 = .ok (.iconst 0, 1) := by decide +kernel
theorem dL_errors_954 : decode cL_errors 954 = .ok (.invokestatic 193, 3) := by decide +kernel
theorem dL_errors_957 : decode cL_errors 957 = .ok (.ldc2_w 17, 3) := by decide +kernel
theorem dL_errors_960 : decode cL_errors 960 = .ok (.lcmp, 1) := by decide +kernel
theorem dL_errors_961 : decode cL_errors 961 = .ok (.ifCond .ne 52, 3) := by decide +kernel
theorem dL_errors_964 : decode cL_errors 964 = .ok (.aload_n 0, 1) := by decide +kernel
theorem dL_errors_965 : decode cL_errors 965 = .ok (.iconst 2, 1) := by decide +kernel
theorem dL_errors_966 : decode cL_errors 966 = .ok (.invokestatic 196, 3) := by decide +kernel
theorem dL_errors_969 : decode cL_errors 969 = .ok (.ldc2_w 36, 3) := by decide +kernel
theorem dL_errors_972 : decode cL_errors 972 = .ok (.lcmp, 1) := by decide +kernel
theorem dL_errors_973 : decode cL_errors 973 = .ok (.ifCond .ne 40, 3) := by decide +kernel
theorem dL_errors_976 : decode cL_errors 976 = .ok (.aload_n 0, 1) := by decide +kernel
