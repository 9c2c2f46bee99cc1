/-! ===== rows of the law's methods, 27 ===== -/
theorem dL_follows_811 : decode cL_follows 811 = .ok (.iload 33, 2) := by decide +kernel
theorem dL_follows_813 : decode cL_follows 813 = .ok (.iload 32, 2) := by decide +kernel
theorem dL_follows_815 : decode cL_follows 815 = .ok (.invokestatic 175, 3) := by decide +kernel
theorem dL_follows_818 : decode cL_follows 818 = .ok (.ldc2_w 214, 3) := by decide +kernel
theorem dL_follows_821 : decode cL_follows 821 = .ok (.lcmp, 1) := by decide +kernel
theorem dL_follows_822 : decode cL_follows 822 = .ok (.ifCond .ne 25, 3) := by decide +kernel
theorem dL_follows_825 : decode cL_follows 825 = .ok (.aload_n 0, 1) := by decide +kernel
theorem dL_follows_826 : decode cL_follows 826 = .ok (.invokestatic 240, 3) := by decide +kernel
theorem dL_follows_829 : decode cL_follows 829 = .ok (.lconst 0, 1) := by decide +kernel
theorem dL_follows_830 : decode cL_follows 830 = .ok (.lcmp, 1) := by decide +kernel
theorem dL_follows_831 : decode cL_follows 831 = .ok (.ifCond .lt 16, 3) := by decide +kernel
theorem dL_follows_834 : decode cL_follows 834 = .ok (.aload_n 0, 1) := by decide +kernel
theorem dL_follows_835 : decode cL_follows 835 = .ok (.invokestatic 141, 3) := by decide +kernel
theorem dL_follows_838 : decode cL_follows 838 = .ok (.lload_n 2, 1) := by decide +kernel
theorem dL_follows_839 : decode cL_follows 839 = .ok (.lcmp, 1) := by decide +kernel
theorem dL_follows_840 : decode cL_follows 840 = .ok (.ifCond .ne 7, 3) := by decide +kernel
theorem dL_follows_843 : decode cL_follows 843 = .ok (.iconst 1, 1) := by decide +kernel
theorem dL_follows_844 : decode cL_follows 844 = .ok (.goto 4, 3) := by decide +kernel
theorem dL_follows_847 : decode cL_follows 847 = .ok (.iconst 0, 1) := by decide +kernel
theorem dL_follows_848 : decode cL_follows 848 = .ok (.istore 17, 2) := by decide +kernel
theorem dL_follows_850 : decode cL_follows 850 = .ok (.iinc 28 1, 3) := by decide +kernel
theorem dL_follows_853 : decode cL_follows 853 = .ok (.goto (-461), 3) := by decide +kernel
theorem dL_follows_856 : decode cL_follows 856 = .ok (.iload 7, 2) := by decide +kernel
theorem dL_follows_858 : decode cL_follows 858 = .ok (.ifCond .le 112, 3) := by decide +kernel
theorem dL_follows_861 : decode cL_follows 861 = .ok (.iload 17, 2) := by decide +kernel
theorem dL_follows_863 : decode cL_follows 863 = .ok (.ifCond .eq 107, 3) := by decide +kernel
theorem dL_follows_866 : decode cL_follows 866 = .ok (.iload_n 1, 1) := by decide +kernel
theorem dL_follows_867 : decode cL_follows 867 = .ok (.bipush 7, 2) := by decide +kernel
theorem dL_follows_869 : decode cL_follows 869 = .ok (.idiv, 1) := by decide +kernel
theorem dL_follows_870 : decode cL_follows 870 = .ok (.iload 7, 2) := by decide +kernel
theorem dL_follows_872 : decode cL_follows 872 = .ok (.irem, 1) := by decide +kernel
theorem dL_follows_873 : decode cL_follows 873 = .ok (.istore 28, 2) := by decide +kernel
theorem dL_follows_875 : decode cL_follows 875 = .ok (.aload_n 0, 1) := by decide +kernel
theorem dL_follows_876 : decode cL_follows 876 = .ok (.iload 28, 2) := by decide +kernel
theorem dL_follows_878 : decode cL_follows 878 = .ok (.iconst 5, 1) := by decide +kernel
theorem dL_follows_879 : decode cL_follows 879 = .ok (.invokestatic 137, 3) := by decide +kernel
theorem dL_follows_882 : decode cL_follows 882 = .ok (.lstore 29, 2) := by decide +kernel
theorem dL_follows_884 : decode cL_follows 884 = .ok (.aload_n 0, 1) := by decide +kernel
theorem dL_follows_885 : decode cL_follows 885 = .ok (.iload 28, 2) := by decide +kernel
theorem dL_follows_887 : decode cL_follows 887 = .ok (.invokestatic 159, 3) := by decide +kernel
theorem dL_follows_890 : decode cL_follows 890 = .ok (.iload 7, 2) := by decide +kernel
theorem dL_follows_892 : decode cL_follows 892 = .ok (.i2l, 1) := by decide +kernel
theorem dL_follows_893 : decode cL_follows 893 = .ok (.lconst 1, 1) := by decide +kernel
theorem dL_follows_894 : decode cL_follows 894 = .ok (.lsub, 1) := by decide +kernel
theorem dL_follows_895 : decode cL_follows 895 = .ok (.lcmp, 1) := by decide +kernel
theorem dL_follows_896 : decode cL_follows 896 = .ok (.ifCond .ne 71, 3) := by decide +kernel
theorem dL_follows_899 : decode cL_follows 899 = .ok (.aload_n 0, 1) := by decide +kernel
theorem dL_follows_900 : decode cL_follows 900 = .ok (.invokestatic 240, 3) := by decide +kernel
theorem dL_follows_903 : decode cL_follows 903 = .ok (.lconst 0, 1) := by decide +kernel
theorem dL_follows_904 : decode cL_follows 904 = .ok (.lcmp, 1) := by decide +kernel
theorem dL_follows_905 : decode cL_follows 905 = .ok (.ifCond .lt 62, 3) := by decide +kernel
theorem dL_follows_908 : decode cL_follows 908 = .ok (.aload_n 0, 1) := by decide +kernel
theorem dL_follows_909 : decode cL_follows 909 = .ok (.invokestatic 141, 3) := by decide +kernel
theorem dL_follows_912 : decode cL_follows 912 = .ok (.lload_n 2, 1) := by decide +kernel
theorem dL_follows_913 : decode cL_follows 913 = .ok (.lcmp, 1) := by decide +kernel
theorem dL_follows_914 : decode cL_follows 914 = .ok (.ifCond .ne 53, 3) := by decide +kernel
theorem dL_follows_917 : decode cL_follows 917 = .ok (.aload_n 0, 1) := by decide +kernel
theorem dL_follows_918 : decode cL_follows 918 = .ok (.iload 28, 2) := by decide +kernel
theorem dL_follows_920 : decode cL_follows 920 = .ok (.bipush 59, 2) := by decide +kernel
theorem dL_follows_922 : decode cL_follows 922 = .ok (.invokestatic 161, 3) := by decide +kernel
theorem dL_follows_925 : decode cL_follows 925 = .ok (.lload 29, 2) := by decide +kernel
theorem dL_follows_927 : decode cL_follows 927 = .ok (.lcmp, 1) := by decide +kernel
theorem dL_follows_928 : decode cL_follows 928 = .ok (.ifCond .ne 39, 3) := by decide +kernel
theorem dL_follows_931 : decode cL_follows 931 = .ok (.aload_n 0, 1) := by decide +kernel
theorem dL_follows_932 : decode cL_follows 932 = .ok (.iload 28, 2) := by decide +kernel
theorem dL_follows_934 : decode cL_follows 934 = .ok (.iconst 5, 1) := by decide +kernel
theorem dL_follows_935 : decode cL_follows 935 = .ok (.invokestatic 137, 3) := by decide +kernel
theorem dL_follows_938 : decode cL_follows 938 = .ok (.ldc2_w 185, 3) := by decide +kernel
theorem dL_follows_941 : decode cL_follows 941 = .ok (.lcmp, 1) := by decide +kernel
theorem dL_follows_942 : decode cL_follows 942 = .ok (.ifCond .ne 25, 3) := by decide +kernel
theorem dL_follows_945 : decode cL_follows 945 = .ok (.aload_n 0, 1) := by decide +kernel
theorem dL_follows_946 : decode cL_follows 946 = .ok (.invokestatic 240, 3) := by decide +kernel
theorem dL_follows_949 : decode cL_follows 949 = .ok (.lconst 0, 1) := by decide +kernel
theorem dL_follows_950 : decode cL_follows 950 = .ok (.lcmp, 1) := by decide +kernel
theorem dL_follows_951 : decode cL_follows 951 = .ok (.ifCond .lt 16, 3) := by decide +kernel
theorem dL_follows_954 : decode cL_follows 954 = .ok (.aload_n 0, 1) := by decide +kernel
theorem dL_follows_955 : decode cL_follows 955 = .ok (.invokestatic 141, 3) := by decide +kernel
theorem dL_follows_958 : decode cL_follows 958 = .ok (.lload_n 2, 1) := by decide +kernel
theorem dL_follows_959 : decode cL_follows 959 = .ok (.lcmp, 1) := by decide +kernel
theorem dL_follows_960 : decode cL_follows 960 = .ok (.ifCond .ne 7, 3) := by decide +kernel
