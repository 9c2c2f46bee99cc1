/-! ===== rows of the law's methods, 2 ===== -/
theorem dL_keepApart_14 : decode cL_keepApart 14 = .ok (.lreturn, 1) := by decide +kernel
theorem dL_keepApart_15 : decode cL_keepApart 15 = .ok (.astore 4, 2) := by decide +kernel
theorem dL_keepApart_17 : decode cL_keepApart 17 = .ok (.ldc2_w 21, 3) := by decide +kernel
theorem dL_keepApart_20 : decode cL_keepApart 20 = .ok (.lreturn, 1) := by decide +kernel
theorem dL_book_0 : decode cL_book 0 = .ok (.aload_n 0, 1) := by decide +kernel
theorem dL_book_1 : decode cL_book 1 = .ok (.iload_n 1, 1) := by decide +kernel
theorem dL_book_2 : decode cL_book 2 = .ok (.iload_n 2, 1) := by decide +kernel
theorem dL_book_3 : decode cL_book 3 = .ok (.iload_n 3, 1) := by decide +kernel
theorem dL_book_4 : decode cL_book 4 = .ok (.iload 4, 2) := by decide +kernel
theorem dL_book_6 : decode cL_book 6 = .ok (.invokevirtual 66, 3) := by decide +kernel
theorem dL_book_9 : decode cL_book 9 = .ok (.i2l, 1) := by decide +kernel
theorem dL_book_10 : decode cL_book 10 = .ok (.lreturn, 1) := by decide +kernel
theorem dL_book_11 : decode cL_book 11 = .ok (.astore 5, 2) := by decide +kernel
theorem dL_book_13 : decode cL_book 13 = .ok (.ldc2_w 36, 3) := by decide +kernel
theorem dL_book_16 : decode cL_book 16 = .ok (.lreturn, 1) := by decide +kernel
theorem dL_book_17 : decode cL_book 17 = .ok (.astore 5, 2) := by decide +kernel
theorem dL_book_19 : decode cL_book 19 = .ok (.ldc2_w 17, 3) := by decide +kernel
theorem dL_book_22 : decode cL_book 22 = .ok (.lreturn, 1) := by decide +kernel
theorem dL_book_23 : decode cL_book 23 = .ok (.astore 5, 2) := by decide +kernel
theorem dL_book_25 : decode cL_book 25 = .ok (.ldc2_w 21, 3) := by decide +kernel
theorem dL_book_28 : decode cL_book 28 = .ok (.lreturn, 1) := by decide +kernel
theorem dL_cancel_0 : decode cL_cancel 0 = .ok (.aload_n 0, 1) := by decide +kernel
theorem dL_cancel_1 : decode cL_cancel 1 = .ok (.iload_n 1, 1) := by decide +kernel
theorem dL_cancel_2 : decode cL_cancel 2 = .ok (.invokevirtual 70, 3) := by decide +kernel
theorem dL_cancel_5 : decode cL_cancel 5 = .ok (.i2l, 1) := by decide +kernel
theorem dL_cancel_6 : decode cL_cancel 6 = .ok (.lreturn, 1) := by decide +kernel
theorem dL_cancel_7 : decode cL_cancel 7 = .ok (.astore_n 2, 1) := by decide +kernel
theorem dL_cancel_8 : decode cL_cancel 8 = .ok (.ldc2_w 36, 3) := by decide +kernel
theorem dL_cancel_11 : decode cL_cancel 11 = .ok (.lreturn, 1) := by decide +kernel
theorem dL_late_0 : decode cL_late 0 = .ok (.aload_n 0, 1) := by decide +kernel
theorem dL_late_1 : decode cL_late 1 = .ok (.iload_n 1, 1) := by decide +kernel
theorem dL_late_2 : decode cL_late 2 = .ok (.iload_n 2, 1) := by decide +kernel
theorem dL_late_3 : decode cL_late 3 = .ok (.invokevirtual 73, 3) := by decide +kernel
theorem dL_late_6 : decode cL_late 6 = .ok (.i2l, 1) := by decide +kernel
theorem dL_late_7 : decode cL_late 7 = .ok (.lreturn, 1) := by decide +kernel
theorem dL_late_8 : decode cL_late 8 = .ok (.astore_n 3, 1) := by decide +kernel
theorem dL_late_9 : decode cL_late 9 = .ok (.ldc2_w 36, 3) := by decide +kernel
theorem dL_late_12 : decode cL_late 12 = .ok (.lreturn, 1) := by decide +kernel
theorem dL_late_13 : decode cL_late 13 = .ok (.astore_n 3, 1) := by decide +kernel
theorem dL_late_14 : decode cL_late 14 = .ok (.ldc2_w 17, 3) := by decide +kernel
theorem dL_late_17 : decode cL_late 17 = .ok (.lreturn, 1) := by decide +kernel
theorem dL_carries_0 : decode cL_carries 0 = .ok (.aload_n 0, 1) := by decide +kernel
theorem dL_carries_1 : decode cL_carries 1 = .ok (.iload_n 1, 1) := by decide +kernel
theorem dL_carries_2 : decode cL_carries 2 = .ok (.iload_n 2, 1) := by decide +kernel
theorem dL_carries_3 : decode cL_carries 3 = .ok (.invokevirtual 76, 3) := by decide +kernel
theorem dL_carries_6 : decode cL_carries 6 = .ok (.i2l, 1) := by decide +kernel
theorem dL_carries_7 : decode cL_carries 7 = .ok (.lreturn, 1) := by decide +kernel
theorem dL_carries_8 : decode cL_carries 8 = .ok (.astore_n 3, 1) := by decide +kernel
theorem dL_carries_9 : decode cL_carries 9 = .ok (.ldc2_w 36, 3) := by decide +kernel
theorem dL_carries_12 : decode cL_carries 12 = .ok (.lreturn, 1) := by decide +kernel
theorem dL_punish_0 : decode cL_punish 0 = .ok (.aload_n 0, 1) := by decide +kernel
theorem dL_punish_1 : decode cL_punish 1 = .ok (.iload_n 1, 1) := by decide +kernel
theorem dL_punish_2 : decode cL_punish 2 = .ok (.iload_n 2, 1) := by decide +kernel
theorem dL_punish_3 : decode cL_punish 3 = .ok (.invokevirtual 80, 3) := by decide +kernel
theorem dL_punish_6 : decode cL_punish 6 = .ok (.i2l, 1) := by decide +kernel
theorem dL_punish_7 : decode cL_punish 7 = .ok (.lreturn, 1) := by decide +kernel
theorem dL_punish_8 : decode cL_punish 8 = .ok (.astore_n 3, 1) := by decide +kernel
theorem dL_punish_9 : decode cL_punish 9 = .ok (.ldc2_w 36, 3) := by decide +kernel
theorem dL_punish_12 : decode cL_punish 12 = .ok (.lreturn, 1) := by decide +kernel
theorem dL_punish_13 : decode cL_punish 13 = .ok (.astore_n 3, 1) := by decide +kernel
theorem dL_punish_14 : decode cL_punish 14 = .ok (.ldc2_w 17, 3) := by decide +kernel
theorem dL_punish_17 : decode cL_punish 17 = .ok (.lreturn, 1) := by decide +kernel
theorem dL_wish_0 : decode cL_wish 0 = .ok (.aload_n 0, 1) := by decide +kernel
theorem dL_wish_1 : decode cL_wish 1 = .ok (.iload_n 1, 1) := by decide +kernel
theorem dL_wish_2 : decode cL_wish 2 = .ok (.iload_n 2, 1) := by decide +kernel
theorem dL_wish_3 : decode cL_wish 3 = .ok (.invokevirtual 83, 3) := by decide +kernel
theorem dL_wish_6 : decode cL_wish 6 = .ok (.i2l, 1) := by decide +kernel
theorem dL_wish_7 : decode cL_wish 7 = .ok (.lreturn, 1) := by decide +kernel
theorem dL_wish_8 : decode cL_wish 8 = .ok (.astore_n 3, 1) := by decide +kernel
theorem dL_wish_9 : decode cL_wish 9 = .ok (.ldc2_w 36, 3) := by decide +kernel
theorem dL_wish_12 : decode cL_wish 12 = .ok (.lreturn, 1) := by decide +kernel
theorem dL_wish_13 : decode cL_wish 13 = .ok (.astore_n 3, 1) := by decide +kernel
theorem dL_wish_14 : decode cL_wish 14 = .ok (.ldc2_w 21, 3) := by decide +kernel
theorem dL_wish_17 : decode cL_wish 17 = .ok (.lreturn, 1) := by decide +kernel
theorem dL_run_0 : decode cL_run 0 = .ok (.aload_n 0, 1) := by decide +kernel
theorem dL_run_1 : decode cL_run 1 = .ok (.iload_n 1, 1) := by decide +kernel
theorem dL_run_2 : decode cL_run 2 = .ok (.invokevirtual 86, 3) := by decide +kernel
theorem dL_run_5 : decode cL_run 5 = .ok (.i2l, 1) := by decide +kernel
theorem dL_run_6 : decode cL_run 6 = .ok (.lreturn, 1) := by decide +kernel
theorem dL_run_7 : decode cL_run 7 = .ok (.astore_n 2, 1) := by decide +kernel
