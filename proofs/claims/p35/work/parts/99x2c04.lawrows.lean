/-! ===== rows of the law's methods, 4 ===== -/
theorem dL_save_1 : decode cL_save 1 = .ok (.iload_n 1, 1) := by decide +kernel
theorem dL_save_2 : decode cL_save 2 = .ok (.invokevirtual 115, 3) := by decide +kernel
theorem dL_save_5 : decode cL_save 5 = .ok (.i2l, 1) := by decide +kernel
theorem dL_save_6 : decode cL_save 6 = .ok (.lreturn, 1) := by decide +kernel
theorem dL_save_7 : decode cL_save 7 = .ok (.astore_n 2, 1) := by decide +kernel
theorem dL_save_8 : decode cL_save 8 = .ok (.ldc2_w 36, 3) := by decide +kernel
theorem dL_save_11 : decode cL_save 11 = .ok (.lreturn, 1) := by decide +kernel
theorem dL_restore_0 : decode cL_restore 0 = .ok (.aload_n 0, 1) := by decide +kernel
theorem dL_restore_1 : decode cL_restore 1 = .ok (.iload_n 1, 1) := by decide +kernel
theorem dL_restore_2 : decode cL_restore 2 = .ok (.invokevirtual 118, 3) := by decide +kernel
theorem dL_restore_5 : decode cL_restore 5 = .ok (.i2l, 1) := by decide +kernel
theorem dL_restore_6 : decode cL_restore 6 = .ok (.lreturn, 1) := by decide +kernel
theorem dL_restore_7 : decode cL_restore 7 = .ok (.astore_n 2, 1) := by decide +kernel
theorem dL_restore_8 : decode cL_restore 8 = .ok (.ldc2_w 36, 3) := by decide +kernel
theorem dL_restore_11 : decode cL_restore 11 = .ok (.lreturn, 1) := by decide +kernel
theorem dL_restore_12 : decode cL_restore 12 = .ok (.astore_n 2, 1) := by decide +kernel
theorem dL_restore_13 : decode cL_restore 13 = .ok (.ldc2_w 21, 3) := by decide +kernel
theorem dL_restore_16 : decode cL_restore 16 = .ok (.lreturn, 1) := by decide +kernel
theorem dL_now_0 : decode cL_now 0 = .ok (.ldc2_w 121, 3) := by decide +kernel
theorem dL_now_3 : decode cL_now 3 = .ok (.lstore_n 1, 1) := by decide +kernel
theorem dL_now_4 : decode cL_now 4 = .ok (.iconst 0, 1) := by decide +kernel
theorem dL_now_5 : decode cL_now 5 = .ok (.istore_n 3, 1) := by decide +kernel
theorem dL_now_6 : decode cL_now 6 = .ok (.iload_n 3, 1) := by decide +kernel
theorem dL_now_7 : decode cL_now 7 = .ok (.bipush 11, 2) := by decide +kernel
theorem dL_now_9 : decode cL_now 9 = .ok (.if_icmp .ge 21, 3) := by decide +kernel
theorem dL_now_12 : decode cL_now 12 = .ok (.ldc2_w 123, 3) := by decide +kernel
theorem dL_now_15 : decode cL_now 15 = .ok (.lload_n 1, 1) := by decide +kernel
theorem dL_now_16 : decode cL_now 16 = .ok (.lmul, 1) := by decide +kernel
theorem dL_now_17 : decode cL_now 17 = .ok (.aload_n 0, 1) := by decide +kernel
theorem dL_now_18 : decode cL_now 18 = .ok (.iload_n 3, 1) := by decide +kernel
theorem dL_now_19 : decode cL_now 19 = .ok (.invokestatic 125, 3) := by decide +kernel
theorem dL_now_22 : decode cL_now 22 = .ok (.ladd, 1) := by decide +kernel
theorem dL_now_23 : decode cL_now 23 = .ok (.lstore_n 1, 1) := by decide +kernel
theorem dL_now_24 : decode cL_now 24 = .ok (.iinc 3 1, 3) := by decide +kernel
theorem dL_now_27 : decode cL_now 27 = .ok (.goto (-21), 3) := by decide +kernel
theorem dL_now_30 : decode cL_now 30 = .ok (.iconst 0, 1) := by decide +kernel
theorem dL_now_31 : decode cL_now 31 = .ok (.istore_n 3, 1) := by decide +kernel
theorem dL_now_32 : decode cL_now 32 = .ok (.iload_n 3, 1) := by decide +kernel
theorem dL_now_33 : decode cL_now 33 = .ok (.bipush 6, 2) := by decide +kernel
theorem dL_now_35 : decode cL_now 35 = .ok (.if_icmp .ge 21, 3) := by decide +kernel
theorem dL_now_38 : decode cL_now 38 = .ok (.ldc2_w 123, 3) := by decide +kernel
theorem dL_now_41 : decode cL_now 41 = .ok (.lload_n 1, 1) := by decide +kernel
theorem dL_now_42 : decode cL_now 42 = .ok (.lmul, 1) := by decide +kernel
theorem dL_now_43 : decode cL_now 43 = .ok (.aload_n 0, 1) := by decide +kernel
theorem dL_now_44 : decode cL_now 44 = .ok (.iload_n 3, 1) := by decide +kernel
theorem dL_now_45 : decode cL_now 45 = .ok (.invokestatic 130, 3) := by decide +kernel
theorem dL_now_48 : decode cL_now 48 = .ok (.ladd, 1) := by decide +kernel
theorem dL_now_49 : decode cL_now 49 = .ok (.lstore_n 1, 1) := by decide +kernel
theorem dL_now_50 : decode cL_now 50 = .ok (.iinc 3 1, 3) := by decide +kernel
theorem dL_now_53 : decode cL_now 53 = .ok (.goto (-21), 3) := by decide +kernel
theorem dL_now_56 : decode cL_now 56 = .ok (.aload_n 0, 1) := by decide +kernel
theorem dL_now_57 : decode cL_now 57 = .ok (.iconst 0, 1) := by decide +kernel
theorem dL_now_58 : decode cL_now 58 = .ok (.invokestatic 125, 3) := by decide +kernel
theorem dL_now_61 : decode cL_now 61 = .ok (.l2i, 1) := by decide +kernel
theorem dL_now_62 : decode cL_now 62 = .ok (.istore_n 3, 1) := by decide +kernel
theorem dL_now_63 : decode cL_now 63 = .ok (.iconst 0, 1) := by decide +kernel
theorem dL_now_64 : decode cL_now 64 = .ok (.istore 4, 2) := by decide +kernel
theorem dL_now_66 : decode cL_now 66 = .ok (.iload 4, 2) := by decide +kernel
theorem dL_now_68 : decode cL_now 68 = .ok (.bipush 8, 2) := by decide +kernel
theorem dL_now_70 : decode cL_now 70 = .ok (.iload_n 3, 1) := by decide +kernel
theorem dL_now_71 : decode cL_now 71 = .ok (.imul, 1) := by decide +kernel
theorem dL_now_72 : decode cL_now 72 = .ok (.if_icmp .ge 30, 3) := by decide +kernel
theorem dL_now_75 : decode cL_now 75 = .ok (.ldc2_w 123, 3) := by decide +kernel
theorem dL_now_78 : decode cL_now 78 = .ok (.lload_n 1, 1) := by decide +kernel
theorem dL_now_79 : decode cL_now 79 = .ok (.lmul, 1) := by decide +kernel
theorem dL_now_80 : decode cL_now 80 = .ok (.aload_n 0, 1) := by decide +kernel
theorem dL_now_81 : decode cL_now 81 = .ok (.iload 4, 2) := by decide +kernel
theorem dL_now_83 : decode cL_now 83 = .ok (.bipush 8, 2) := by decide +kernel
theorem dL_now_85 : decode cL_now 85 = .ok (.idiv, 1) := by decide +kernel
theorem dL_now_86 : decode cL_now 86 = .ok (.iload 4, 2) := by decide +kernel
theorem dL_now_88 : decode cL_now 88 = .ok (.bipush 8, 2) := by decide +kernel
theorem dL_now_90 : decode cL_now 90 = .ok (.irem, 1) := by decide +kernel
theorem dL_now_91 : decode cL_now 91 = .ok (.invokestatic 132, 3) := by decide +kernel
theorem dL_now_94 : decode cL_now 94 = .ok (.ladd, 1) := by decide +kernel
theorem dL_now_95 : decode cL_now 95 = .ok (.lstore_n 1, 1) := by decide +kernel
theorem dL_now_96 : decode cL_now 96 = .ok (.iinc 4 1, 3) := by decide +kernel
theorem dL_now_99 : decode cL_now 99 = .ok (.goto (-33), 3) := by decide +kernel
theorem dL_now_102 : decode cL_now 102 = .ok (.iconst 0, 1) := by decide +kernel
theorem dL_now_103 : decode cL_now 103 = .ok (.istore 4, 2) := by decide +kernel
theorem dL_now_105 : decode cL_now 105 = .ok (.iload 4, 2) := by decide +kernel
