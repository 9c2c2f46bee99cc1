/-! ===== rows of the law's methods, 18 ===== -/
theorem dL_kept_856 : decode cL_kept 856 = .ok (.ldc2_w 224, 3) := by decide +kernel
theorem dL_kept_859 : decode cL_kept 859 = .ok (.aload_n 0, 1) := by decide +kernel
theorem dL_kept_860 : decode cL_kept 860 = .ok (.iload 18, 2) := by decide +kernel
theorem dL_kept_862 : decode cL_kept 862 = .ok (.iconst 1, 1) := by decide +kernel
theorem dL_kept_863 : decode cL_kept 863 = .ok (.invokestatic 137, 3) := by decide +kernel
theorem dL_kept_866 : decode cL_kept 866 = .ok (.ladd, 1) := by decide +kernel
theorem dL_kept_867 : decode cL_kept 867 = .ok (.lcmp, 1) := by decide +kernel
theorem dL_kept_868 : decode cL_kept 868 = .ok (.ifCond .ne 143, 3) := by decide +kernel
theorem dL_kept_871 : decode cL_kept 871 = .ok (.aload_n 0, 1) := by decide +kernel
theorem dL_kept_872 : decode cL_kept 872 = .ok (.iload 18, 2) := by decide +kernel
theorem dL_kept_874 : decode cL_kept 874 = .ok (.iload 23, 2) := by decide +kernel
theorem dL_kept_876 : decode cL_kept 876 = .ok (.iconst 2, 1) := by decide +kernel
theorem dL_kept_877 : decode cL_kept 877 = .ok (.iadd, 1) := by decide +kernel
theorem dL_kept_878 : decode cL_kept 878 = .ok (.invokestatic 145, 3) := by decide +kernel
theorem dL_kept_881 : decode cL_kept 881 = .ok (.ldc2_w 232, 3) := by decide +kernel
theorem dL_kept_884 : decode cL_kept 884 = .ok (.lcmp, 1) := by decide +kernel
theorem dL_kept_885 : decode cL_kept 885 = .ok (.ifCond .ne 126, 3) := by decide +kernel
theorem dL_kept_888 : decode cL_kept 888 = .ok (.aload_n 0, 1) := by decide +kernel
theorem dL_kept_889 : decode cL_kept 889 = .ok (.iload 18, 2) := by decide +kernel
theorem dL_kept_891 : decode cL_kept 891 = .ok (.iload 23, 2) := by decide +kernel
theorem dL_kept_893 : decode cL_kept 893 = .ok (.iconst 3, 1) := by decide +kernel
theorem dL_kept_894 : decode cL_kept 894 = .ok (.iadd, 1) := by decide +kernel
theorem dL_kept_895 : decode cL_kept 895 = .ok (.invokestatic 145, 3) := by decide +kernel
theorem dL_kept_898 : decode cL_kept 898 = .ok (.ldc2_w 224, 3) := by decide +kernel
theorem dL_kept_901 : decode cL_kept 901 = .ok (.aload_n 0, 1) := by decide +kernel
theorem dL_kept_902 : decode cL_kept 902 = .ok (.iload 18, 2) := by decide +kernel
theorem dL_kept_904 : decode cL_kept 904 = .ok (.iconst 2, 1) := by decide +kernel
theorem dL_kept_905 : decode cL_kept 905 = .ok (.invokestatic 137, 3) := by decide +kernel
theorem dL_kept_908 : decode cL_kept 908 = .ok (.ladd, 1) := by decide +kernel
theorem dL_kept_909 : decode cL_kept 909 = .ok (.lcmp, 1) := by decide +kernel
theorem dL_kept_910 : decode cL_kept 910 = .ok (.ifCond .ne 101, 3) := by decide +kernel
theorem dL_kept_913 : decode cL_kept 913 = .ok (.aload_n 0, 1) := by decide +kernel
theorem dL_kept_914 : decode cL_kept 914 = .ok (.iload 18, 2) := by decide +kernel
theorem dL_kept_916 : decode cL_kept 916 = .ok (.iload 23, 2) := by decide +kernel
theorem dL_kept_918 : decode cL_kept 918 = .ok (.iconst 4, 1) := by decide +kernel
theorem dL_kept_919 : decode cL_kept 919 = .ok (.iadd, 1) := by decide +kernel
theorem dL_kept_920 : decode cL_kept 920 = .ok (.invokestatic 145, 3) := by decide +kernel
theorem dL_kept_923 : decode cL_kept 923 = .ok (.ldc2_w 220, 3) := by decide +kernel
theorem dL_kept_926 : decode cL_kept 926 = .ok (.lcmp, 1) := by decide +kernel
theorem dL_kept_927 : decode cL_kept 927 = .ok (.ifCond .ne 84, 3) := by decide +kernel
theorem dL_kept_930 : decode cL_kept 930 = .ok (.aload_n 0, 1) := by decide +kernel
theorem dL_kept_931 : decode cL_kept 931 = .ok (.iload 18, 2) := by decide +kernel
theorem dL_kept_933 : decode cL_kept 933 = .ok (.iload 23, 2) := by decide +kernel
theorem dL_kept_935 : decode cL_kept 935 = .ok (.iconst 5, 1) := by decide +kernel
theorem dL_kept_936 : decode cL_kept 936 = .ok (.iadd, 1) := by decide +kernel
theorem dL_kept_937 : decode cL_kept 937 = .ok (.invokestatic 145, 3) := by decide +kernel
theorem dL_kept_940 : decode cL_kept 940 = .ok (.ldc2_w 234, 3) := by decide +kernel
theorem dL_kept_943 : decode cL_kept 943 = .ok (.lcmp, 1) := by decide +kernel
theorem dL_kept_944 : decode cL_kept 944 = .ok (.ifCond .ne 67, 3) := by decide +kernel
theorem dL_kept_947 : decode cL_kept 947 = .ok (.aload_n 0, 1) := by decide +kernel
theorem dL_kept_948 : decode cL_kept 948 = .ok (.iload 18, 2) := by decide +kernel
theorem dL_kept_950 : decode cL_kept 950 = .ok (.iload 23, 2) := by decide +kernel
theorem dL_kept_952 : decode cL_kept 952 = .ok (.bipush 6, 2) := by decide +kernel
theorem dL_kept_954 : decode cL_kept 954 = .ok (.iadd, 1) := by decide +kernel
theorem dL_kept_955 : decode cL_kept 955 = .ok (.invokestatic 145, 3) := by decide +kernel
theorem dL_kept_958 : decode cL_kept 958 = .ok (.bipush 48, 2) := by decide +kernel
theorem dL_kept_960 : decode cL_kept 960 = .ok (.iload 21, 2) := by decide +kernel
theorem dL_kept_962 : decode cL_kept 962 = .ok (.iadd, 1) := by decide +kernel
theorem dL_kept_963 : decode cL_kept 963 = .ok (.i2l, 1) := by decide +kernel
theorem dL_kept_964 : decode cL_kept 964 = .ok (.lcmp, 1) := by decide +kernel
theorem dL_kept_965 : decode cL_kept 965 = .ok (.ifCond .ne 46, 3) := by decide +kernel
theorem dL_kept_968 : decode cL_kept 968 = .ok (.aload_n 0, 1) := by decide +kernel
theorem dL_kept_969 : decode cL_kept 969 = .ok (.iload 18, 2) := by decide +kernel
theorem dL_kept_971 : decode cL_kept 971 = .ok (.iload 23, 2) := by decide +kernel
theorem dL_kept_973 : decode cL_kept 973 = .ok (.bipush 8, 2) := by decide +kernel
theorem dL_kept_975 : decode cL_kept 975 = .ok (.iadd, 1) := by decide +kernel
theorem dL_kept_976 : decode cL_kept 976 = .ok (.invokestatic 145, 3) := by decide +kernel
theorem dL_kept_979 : decode cL_kept 979 = .ok (.ldc2_w 236, 3) := by decide +kernel
theorem dL_kept_982 : decode cL_kept 982 = .ok (.lcmp, 1) := by decide +kernel
theorem dL_kept_983 : decode cL_kept 983 = .ok (.ifCond .ne 28, 3) := by decide +kernel
theorem dL_kept_986 : decode cL_kept 986 = .ok (.aload_n 0, 1) := by decide +kernel
theorem dL_kept_987 : decode cL_kept 987 = .ok (.iload 18, 2) := by decide +kernel
theorem dL_kept_989 : decode cL_kept 989 = .ok (.iload 23, 2) := by decide +kernel
theorem dL_kept_991 : decode cL_kept 991 = .ok (.bipush 9, 2) := by decide +kernel
theorem dL_kept_993 : decode cL_kept 993 = .ok (.iadd, 1) := by decide +kernel
theorem dL_kept_994 : decode cL_kept 994 = .ok (.invokestatic 145, 3) := by decide +kernel
theorem dL_kept_997 : decode cL_kept 997 = .ok (.bipush 48, 2) := by decide +kernel
theorem dL_kept_999 : decode cL_kept 999 = .ok (.iload 22, 2) := by decide +kernel
theorem dL_kept_1001 : decode cL_kept 1001 = .ok (.iadd, 1) := by decide +kernel
theorem dL_kept_1002 : decode cL_kept 1002 = .ok (.i2l, 1) := by decide +kernel
