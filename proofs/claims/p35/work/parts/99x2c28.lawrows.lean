/-! ===== rows of the law's methods, 28 ===== -/
theorem dL_follows_963 : decode cL_follows 963 = .ok (.iconst 1, 1) := by decide +kernel
theorem dL_follows_964 : decode cL_follows 964 = .ok (.goto 4, 3) := by decide +kernel
theorem dL_follows_967 : decode cL_follows 967 = .ok (.iconst 0, 1) := by decide +kernel
theorem dL_follows_968 : decode cL_follows 968 = .ok (.istore 17, 2) := by decide +kernel
theorem dL_follows_970 : decode cL_follows 970 = .ok (.iload 17, 2) := by decide +kernel
theorem dL_follows_972 : decode cL_follows 972 = .ok (.ifCond .eq 38, 3) := by decide +kernel
theorem dL_follows_975 : decode cL_follows 975 = .ok (.aload_n 0, 1) := by decide +kernel
theorem dL_follows_976 : decode cL_follows 976 = .ok (.iconst 1, 1) := by decide +kernel
theorem dL_follows_977 : decode cL_follows 977 = .ok (.invokestatic 198, 3) := by decide +kernel
theorem dL_follows_980 : decode cL_follows 980 = .ok (.lload 4, 2) := by decide +kernel
theorem dL_follows_982 : decode cL_follows 982 = .ok (.lcmp, 1) := by decide +kernel
theorem dL_follows_983 : decode cL_follows 983 = .ok (.ifCond .ne 27, 3) := by decide +kernel
theorem dL_follows_986 : decode cL_follows 986 = .ok (.aload_n 0, 1) := by decide +kernel
theorem dL_follows_987 : decode cL_follows 987 = .ok (.invokestatic 141, 3) := by decide +kernel
theorem dL_follows_990 : decode cL_follows 990 = .ok (.lload_n 2, 1) := by decide +kernel
theorem dL_follows_991 : decode cL_follows 991 = .ok (.lcmp, 1) := by decide +kernel
theorem dL_follows_992 : decode cL_follows 992 = .ok (.ifCond .ne 18, 3) := by decide +kernel
theorem dL_follows_995 : decode cL_follows 995 = .ok (.aload_n 0, 1) := by decide +kernel
theorem dL_follows_996 : decode cL_follows 996 = .ok (.invokestatic 240, 3) := by decide +kernel
theorem dL_follows_999 : decode cL_follows 999 = .ok (.ldc2_w 21, 3) := by decide +kernel
theorem dL_follows_1002 : decode cL_follows 1002 = .ok (.lcmp, 1) := by decide +kernel
theorem dL_follows_1003 : decode cL_follows 1003 = .ok (.ifCond .ne 7, 3) := by decide +kernel
theorem dL_follows_1006 : decode cL_follows 1006 = .ok (.iconst 1, 1) := by decide +kernel
theorem dL_follows_1007 : decode cL_follows 1007 = .ok (.goto 4, 3) := by decide +kernel
theorem dL_follows_1010 : decode cL_follows 1010 = .ok (.iconst 0, 1) := by decide +kernel
theorem dL_follows_1011 : decode cL_follows 1011 = .ok (.ireturn, 1) := by decide +kernel
theorem dL_alike_0 : decode cL_alike 0 = .ok (.aload_n 0, 1) := by decide +kernel
theorem dL_alike_1 : decode cL_alike 1 = .ok (.invokestatic 141, 3) := by decide +kernel
theorem dL_alike_4 : decode cL_alike 4 = .ok (.aload_n 1, 1) := by decide +kernel
theorem dL_alike_5 : decode cL_alike 5 = .ok (.invokestatic 141, 3) := by decide +kernel
theorem dL_alike_8 : decode cL_alike 8 = .ok (.lcmp, 1) := by decide +kernel
theorem dL_alike_9 : decode cL_alike 9 = .ok (.ifCond .ne 164, 3) := by decide +kernel
theorem dL_alike_12 : decode cL_alike 12 = .ok (.aload_n 0, 1) := by decide +kernel
theorem dL_alike_13 : decode cL_alike 13 = .ok (.invokevirtual 244, 3) := by decide +kernel
theorem dL_alike_16 : decode cL_alike 16 = .ok (.aload_n 1, 1) := by decide +kernel
theorem dL_alike_17 : decode cL_alike 17 = .ok (.invokevirtual 244, 3) := by decide +kernel
theorem dL_alike_20 : decode cL_alike 20 = .ok (.if_icmp .ne 153, 3) := by decide +kernel
theorem dL_alike_23 : decode cL_alike 23 = .ok (.aload_n 0, 1) := by decide +kernel
theorem dL_alike_24 : decode cL_alike 24 = .ok (.iconst 1, 1) := by decide +kernel
theorem dL_alike_25 : decode cL_alike 25 = .ok (.iload_n 2, 1) := by decide +kernel
theorem dL_alike_26 : decode cL_alike 26 = .ok (.bipush 50, 2) := by decide +kernel
theorem dL_alike_28 : decode cL_alike 28 = .ok (.irem, 1) := by decide +kernel
theorem dL_alike_29 : decode cL_alike 29 = .ok (.iadd, 1) := by decide +kernel
theorem dL_alike_30 : decode cL_alike 30 = .ok (.iload_n 2, 1) := by decide +kernel
theorem dL_alike_31 : decode cL_alike 31 = .ok (.iconst 5, 1) := by decide +kernel
theorem dL_alike_32 : decode cL_alike 32 = .ok (.irem, 1) := by decide +kernel
theorem dL_alike_33 : decode cL_alike 33 = .ok (.invokestatic 179, 3) := by decide +kernel
theorem dL_alike_36 : decode cL_alike 36 = .ok (.aload_n 1, 1) := by decide +kernel
theorem dL_alike_37 : decode cL_alike 37 = .ok (.iconst 1, 1) := by decide +kernel
theorem dL_alike_38 : decode cL_alike 38 = .ok (.iload_n 2, 1) := by decide +kernel
theorem dL_alike_39 : decode cL_alike 39 = .ok (.bipush 50, 2) := by decide +kernel
theorem dL_alike_41 : decode cL_alike 41 = .ok (.irem, 1) := by decide +kernel
theorem dL_alike_42 : decode cL_alike 42 = .ok (.iadd, 1) := by decide +kernel
theorem dL_alike_43 : decode cL_alike 43 = .ok (.iload_n 2, 1) := by decide +kernel
theorem dL_alike_44 : decode cL_alike 44 = .ok (.iconst 5, 1) := by decide +kernel
theorem dL_alike_45 : decode cL_alike 45 = .ok (.irem, 1) := by decide +kernel
theorem dL_alike_46 : decode cL_alike 46 = .ok (.invokestatic 179, 3) := by decide +kernel
theorem dL_alike_49 : decode cL_alike 49 = .ok (.lcmp, 1) := by decide +kernel
theorem dL_alike_50 : decode cL_alike 50 = .ok (.ifCond .ne 123, 3) := by decide +kernel
theorem dL_alike_53 : decode cL_alike 53 = .ok (.aload_n 0, 1) := by decide +kernel
theorem dL_alike_54 : decode cL_alike 54 = .ok (.iload_n 2, 1) := by decide +kernel
theorem dL_alike_55 : decode cL_alike 55 = .ok (.bipush 24, 2) := by decide +kernel
theorem dL_alike_57 : decode cL_alike 57 = .ok (.irem, 1) := by decide +kernel
theorem dL_alike_58 : decode cL_alike 58 = .ok (.invokestatic 181, 3) := by decide +kernel
theorem dL_alike_61 : decode cL_alike 61 = .ok (.aload_n 1, 1) := by decide +kernel
theorem dL_alike_62 : decode cL_alike 62 = .ok (.iload_n 2, 1) := by decide +kernel
theorem dL_alike_63 : decode cL_alike 63 = .ok (.bipush 24, 2) := by decide +kernel
theorem dL_alike_65 : decode cL_alike 65 = .ok (.irem, 1) := by decide +kernel
theorem dL_alike_66 : decode cL_alike 66 = .ok (.invokestatic 181, 3) := by decide +kernel
theorem dL_alike_69 : decode cL_alike 69 = .ok (.lcmp, 1) := by decide +kernel
theorem dL_alike_70 : decode cL_alike 70 = .ok (.ifCond .ne 103, 3) := by decide +kernel
theorem dL_alike_73 : decode cL_alike 73 = .ok (.aload_n 0, 1) := by decide +kernel
theorem dL_alike_74 : decode cL_alike 74 = .ok (.iload_n 2, 1) := by decide +kernel
theorem dL_alike_75 : decode cL_alike 75 = .ok (.bipush 8, 2) := by decide +kernel
theorem dL_alike_77 : decode cL_alike 77 = .ok (.irem, 1) := by decide +kernel
theorem dL_alike_78 : decode cL_alike 78 = .ok (.iload_n 2, 1) := by decide +kernel
theorem dL_alike_79 : decode cL_alike 79 = .ok (.bipush 10, 2) := by decide +kernel
theorem dL_alike_81 : decode cL_alike 81 = .ok (.irem, 1) := by decide +kernel
theorem dL_alike_82 : decode cL_alike 82 = .ok (.invokestatic 177, 3) := by decide +kernel
theorem dL_alike_85 : decode cL_alike 85 = .ok (.aload_n 1, 1) := by decide +kernel
