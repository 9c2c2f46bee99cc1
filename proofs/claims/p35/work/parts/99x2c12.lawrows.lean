/-! ===== rows of the law's methods, 12 ===== -/
theorem dL_errors_977 : decode cL_errors 977 = .ok (.iconst 2, 1) := by decide +kernel
theorem dL_errors_978 : decode cL_errors 978 = .ok (.invokestatic 198, 3) := by decide +kernel
theorem dL_errors_981 : decode cL_errors 981 = .ok (.ldc2_w 36, 3) := by decide +kernel
theorem dL_errors_984 : decode cL_errors 984 = .ok (.lcmp, 1) := by decide +kernel
theorem dL_errors_985 : decode cL_errors 985 = .ok (.ifCond .ne 28, 3) := by decide +kernel
theorem dL_errors_988 : decode cL_errors 988 = .ok (.aload_n 0, 1) := by decide +kernel
theorem dL_errors_989 : decode cL_errors 989 = .ok (.iconst (-1), 1) := by decide +kernel
theorem dL_errors_990 : decode cL_errors 990 = .ok (.invokestatic 200, 3) := by decide +kernel
theorem dL_errors_993 : decode cL_errors 993 = .ok (.ldc2_w 17, 3) := by decide +kernel
theorem dL_errors_996 : decode cL_errors 996 = .ok (.lcmp, 1) := by decide +kernel
theorem dL_errors_997 : decode cL_errors 997 = .ok (.ifCond .ne 16, 3) := by decide +kernel
theorem dL_errors_1000 : decode cL_errors 1000 = .ok (.aload_n 0, 1) := by decide +kernel
theorem dL_errors_1001 : decode cL_errors 1001 = .ok (.invokestatic 141, 3) := by decide +kernel
theorem dL_errors_1004 : decode cL_errors 1004 = .ok (.lload_n 1, 1) := by decide +kernel
theorem dL_errors_1005 : decode cL_errors 1005 = .ok (.lcmp, 1) := by decide +kernel
theorem dL_errors_1006 : decode cL_errors 1006 = .ok (.ifCond .ne 7, 3) := by decide +kernel
theorem dL_errors_1009 : decode cL_errors 1009 = .ok (.iconst 1, 1) := by decide +kernel
theorem dL_errors_1010 : decode cL_errors 1010 = .ok (.goto 4, 3) := by decide +kernel
theorem dL_errors_1013 : decode cL_errors 1013 = .ok (.iconst 0, 1) := by decide +kernel
theorem dL_errors_1014 : decode cL_errors 1014 = .ok (.ireturn, 1) := by decide +kernel
theorem dL_kept_0 : decode cL_kept 0 = .ok (.aload_n 0, 1) := by decide +kernel
theorem dL_kept_1 : decode cL_kept 1 = .ok (.iconst 0, 1) := by decide +kernel
theorem dL_kept_2 : decode cL_kept 2 = .ok (.invokestatic 125, 3) := by decide +kernel
theorem dL_kept_5 : decode cL_kept 5 = .ok (.l2i, 1) := by decide +kernel
theorem dL_kept_6 : decode cL_kept 6 = .ok (.istore_n 1, 1) := by decide +kernel
theorem dL_kept_7 : decode cL_kept 7 = .ok (.aload_n 0, 1) := by decide +kernel
theorem dL_kept_8 : decode cL_kept 8 = .ok (.iconst 2, 1) := by decide +kernel
theorem dL_kept_9 : decode cL_kept 9 = .ok (.invokestatic 125, 3) := by decide +kernel
theorem dL_kept_12 : decode cL_kept 12 = .ok (.l2i, 1) := by decide +kernel
theorem dL_kept_13 : decode cL_kept 13 = .ok (.istore_n 2, 1) := by decide +kernel
theorem dL_kept_14 : decode cL_kept 14 = .ok (.aload_n 0, 1) := by decide +kernel
theorem dL_kept_15 : decode cL_kept 15 = .ok (.iconst 1, 1) := by decide +kernel
theorem dL_kept_16 : decode cL_kept 16 = .ok (.invokestatic 125, 3) := by decide +kernel
theorem dL_kept_19 : decode cL_kept 19 = .ok (.lstore_n 3, 1) := by decide +kernel
theorem dL_kept_20 : decode cL_kept 20 = .ok (.iload_n 1, 1) := by decide +kernel
theorem dL_kept_21 : decode cL_kept 21 = .ok (.i2l, 1) := by decide +kernel
theorem dL_kept_22 : decode cL_kept 22 = .ok (.lconst 0, 1) := by decide +kernel
theorem dL_kept_23 : decode cL_kept 23 = .ok (.ldc2_w 202, 3) := by decide +kernel
theorem dL_kept_26 : decode cL_kept 26 = .ok (.invokestatic 204, 3) := by decide +kernel
theorem dL_kept_29 : decode cL_kept 29 = .ok (.ifCond .eq 54, 3) := by decide +kernel
theorem dL_kept_32 : decode cL_kept 32 = .ok (.iload_n 2, 1) := by decide +kernel
theorem dL_kept_33 : decode cL_kept 33 = .ok (.i2l, 1) := by decide +kernel
theorem dL_kept_34 : decode cL_kept 34 = .ok (.lconst 0, 1) := by decide +kernel
theorem dL_kept_35 : decode cL_kept 35 = .ok (.ldc2_w 208, 3) := by decide +kernel
theorem dL_kept_38 : decode cL_kept 38 = .ok (.invokestatic 204, 3) := by decide +kernel
theorem dL_kept_41 : decode cL_kept 41 = .ok (.ifCond .eq 42, 3) := by decide +kernel
theorem dL_kept_44 : decode cL_kept 44 = .ok (.aload_n 0, 1) := by decide +kernel
theorem dL_kept_45 : decode cL_kept 45 = .ok (.bipush 8, 2) := by decide +kernel
theorem dL_kept_47 : decode cL_kept 47 = .ok (.invokestatic 125, 3) := by decide +kernel
theorem dL_kept_50 : decode cL_kept 50 = .ok (.aload_n 0, 1) := by decide +kernel
theorem dL_kept_51 : decode cL_kept 51 = .ok (.iconst 4, 1) := by decide +kernel
theorem dL_kept_52 : decode cL_kept 52 = .ok (.invokestatic 125, 3) := by decide +kernel
theorem dL_kept_55 : decode cL_kept 55 = .ok (.aload_n 0, 1) := by decide +kernel
theorem dL_kept_56 : decode cL_kept 56 = .ok (.iconst 5, 1) := by decide +kernel
theorem dL_kept_57 : decode cL_kept 57 = .ok (.invokestatic 125, 3) := by decide +kernel
theorem dL_kept_60 : decode cL_kept 60 = .ok (.ladd, 1) := by decide +kernel
theorem dL_kept_61 : decode cL_kept 61 = .ok (.aload_n 0, 1) := by decide +kernel
theorem dL_kept_62 : decode cL_kept 62 = .ok (.bipush 6, 2) := by decide +kernel
theorem dL_kept_64 : decode cL_kept 64 = .ok (.invokestatic 125, 3) := by decide +kernel
theorem dL_kept_67 : decode cL_kept 67 = .ok (.ladd, 1) := by decide +kernel
theorem dL_kept_68 : decode cL_kept 68 = .ok (.aload_n 0, 1) := by decide +kernel
theorem dL_kept_69 : decode cL_kept 69 = .ok (.bipush 7, 2) := by decide +kernel
theorem dL_kept_71 : decode cL_kept 71 = .ok (.invokestatic 125, 3) := by decide +kernel
theorem dL_kept_74 : decode cL_kept 74 = .ok (.ladd, 1) := by decide +kernel
theorem dL_kept_75 : decode cL_kept 75 = .ok (.lcmp, 1) := by decide +kernel
theorem dL_kept_76 : decode cL_kept 76 = .ok (.ifCond .ne 7, 3) := by decide +kernel
theorem dL_kept_79 : decode cL_kept 79 = .ok (.iconst 1, 1) := by decide +kernel
theorem dL_kept_80 : decode cL_kept 80 = .ok (.goto 4, 3) := by decide +kernel
theorem dL_kept_83 : decode cL_kept 83 = .ok (.iconst 0, 1) := by decide +kernel
theorem dL_kept_84 : decode cL_kept 84 = .ok (.istore 5, 2) := by decide +kernel
theorem dL_kept_86 : decode cL_kept 86 = .ok (.lconst 0, 1) := by decide +kernel
theorem dL_kept_87 : decode cL_kept 87 = .ok (.lstore 6, 2) := by decide +kernel
theorem dL_kept_89 : decode cL_kept 89 = .ok (.lconst 0, 1) := by decide +kernel
theorem dL_kept_90 : decode cL_kept 90 = .ok (.lstore 8, 2) := by decide +kernel
theorem dL_kept_92 : decode cL_kept 92 = .ok (.lconst 0, 1) := by decide +kernel
theorem dL_kept_93 : decode cL_kept 93 = .ok (.lstore 10, 2) := by decide +kernel
theorem dL_kept_95 : decode cL_kept 95 = .ok (.lconst 0, 1) := by decide +kernel
theorem dL_kept_96 : decode cL_kept 96 = .ok (.lstore 12, 2) := by decide +kernel
theorem dL_kept_98 : decode cL_kept 98 = .ok (.iconst 0, 1) := by decide +kernel
theorem dL_kept_99 : decode cL_kept 99 = .ok (.istore 14, 2) := by decide +kernel
