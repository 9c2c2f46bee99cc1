/-! ===== rows of the law's methods, 1 ===== -/
theorem dL_booking_2 : decode cL_booking 2 = .ok (.iload_n 2, 1) := by decide +kernel
theorem dL_booking_3 : decode cL_booking 3 = .ok (.invokevirtual 41, 3) := by decide +kernel
theorem dL_booking_6 : decode cL_booking 6 = .ok (.i2l, 1) := by decide +kernel
theorem dL_booking_7 : decode cL_booking 7 = .ok (.lreturn, 1) := by decide +kernel
theorem dL_booking_8 : decode cL_booking 8 = .ok (.astore_n 3, 1) := by decide +kernel
theorem dL_booking_9 : decode cL_booking 9 = .ok (.ldc2_w 36, 3) := by decide +kernel
theorem dL_booking_12 : decode cL_booking 12 = .ok (.lreturn, 1) := by decide +kernel
theorem dL_booking_13 : decode cL_booking 13 = .ok (.astore_n 3, 1) := by decide +kernel
theorem dL_booking_14 : decode cL_booking 14 = .ok (.ldc2_w 17, 3) := by decide +kernel
theorem dL_booking_17 : decode cL_booking 17 = .ok (.lreturn, 1) := by decide +kernel
theorem dL_line_0 : decode cL_line 0 = .ok (.aload_n 0, 1) := by decide +kernel
theorem dL_line_1 : decode cL_line 1 = .ok (.iload_n 1, 1) := by decide +kernel
theorem dL_line_2 : decode cL_line 2 = .ok (.iload_n 2, 1) := by decide +kernel
theorem dL_line_3 : decode cL_line 3 = .ok (.invokevirtual 44, 3) := by decide +kernel
theorem dL_line_6 : decode cL_line 6 = .ok (.i2l, 1) := by decide +kernel
theorem dL_line_7 : decode cL_line 7 = .ok (.lreturn, 1) := by decide +kernel
theorem dL_line_8 : decode cL_line 8 = .ok (.astore_n 3, 1) := by decide +kernel
theorem dL_line_9 : decode cL_line 9 = .ok (.ldc2_w 36, 3) := by decide +kernel
theorem dL_line_12 : decode cL_line 12 = .ok (.lreturn, 1) := by decide +kernel
theorem dL_line_13 : decode cL_line 13 = .ok (.astore_n 3, 1) := by decide +kernel
theorem dL_line_14 : decode cL_line 14 = .ok (.ldc2_w 17, 3) := by decide +kernel
theorem dL_line_17 : decode cL_line 17 = .ok (.lreturn, 1) := by decide +kernel
theorem dL_wishAt_0 : decode cL_wishAt 0 = .ok (.aload_n 0, 1) := by decide +kernel
theorem dL_wishAt_1 : decode cL_wishAt 1 = .ok (.iload_n 1, 1) := by decide +kernel
theorem dL_wishAt_2 : decode cL_wishAt 2 = .ok (.invokevirtual 47, 3) := by decide +kernel
theorem dL_wishAt_5 : decode cL_wishAt 5 = .ok (.i2l, 1) := by decide +kernel
theorem dL_wishAt_6 : decode cL_wishAt 6 = .ok (.lreturn, 1) := by decide +kernel
theorem dL_wishAt_7 : decode cL_wishAt 7 = .ok (.astore_n 2, 1) := by decide +kernel
theorem dL_wishAt_8 : decode cL_wishAt 8 = .ok (.ldc2_w 17, 3) := by decide +kernel
theorem dL_wishAt_11 : decode cL_wishAt 11 = .ok (.lreturn, 1) := by decide +kernel
theorem dL_setting_0 : decode cL_setting 0 = .ok (.aload_n 0, 1) := by decide +kernel
theorem dL_setting_1 : decode cL_setting 1 = .ok (.iload_n 1, 1) := by decide +kernel
theorem dL_setting_2 : decode cL_setting 2 = .ok (.invokevirtual 50, 3) := by decide +kernel
theorem dL_setting_5 : decode cL_setting 5 = .ok (.i2l, 1) := by decide +kernel
theorem dL_setting_6 : decode cL_setting 6 = .ok (.lreturn, 1) := by decide +kernel
theorem dL_setting_7 : decode cL_setting 7 = .ok (.astore_n 2, 1) := by decide +kernel
theorem dL_setting_8 : decode cL_setting 8 = .ok (.ldc2_w 17, 3) := by decide +kernel
theorem dL_setting_11 : decode cL_setting 11 = .ok (.lreturn, 1) := by decide +kernel
theorem dL_addPrisoner_0 : decode cL_addPrisoner 0 = .ok (.aload_n 0, 1) := by decide +kernel
theorem dL_addPrisoner_1 : decode cL_addPrisoner 1 = .ok (.iload_n 1, 1) := by decide +kernel
theorem dL_addPrisoner_2 : decode cL_addPrisoner 2 = .ok (.invokevirtual 53, 3) := by decide +kernel
theorem dL_addPrisoner_5 : decode cL_addPrisoner 5 = .ok (.i2l, 1) := by decide +kernel
theorem dL_addPrisoner_6 : decode cL_addPrisoner 6 = .ok (.lreturn, 1) := by decide +kernel
theorem dL_addPrisoner_7 : decode cL_addPrisoner 7 = .ok (.astore_n 2, 1) := by decide +kernel
theorem dL_addPrisoner_8 : decode cL_addPrisoner 8 = .ok (.ldc2_w 17, 3) := by decide +kernel
theorem dL_addPrisoner_11 : decode cL_addPrisoner 11 = .ok (.lreturn, 1) := by decide +kernel
theorem dL_addPrisoner_12 : decode cL_addPrisoner 12 = .ok (.astore_n 2, 1) := by decide +kernel
theorem dL_addPrisoner_13 : decode cL_addPrisoner 13 = .ok (.ldc2_w 21, 3) := by decide +kernel
theorem dL_addPrisoner_16 : decode cL_addPrisoner 16 = .ok (.lreturn, 1) := by decide +kernel
theorem dL_promote_0 : decode cL_promote 0 = .ok (.aload_n 0, 1) := by decide +kernel
theorem dL_promote_1 : decode cL_promote 1 = .ok (.iload_n 1, 1) := by decide +kernel
theorem dL_promote_2 : decode cL_promote 2 = .ok (.iload_n 2, 1) := by decide +kernel
theorem dL_promote_3 : decode cL_promote 3 = .ok (.invokevirtual 56, 3) := by decide +kernel
theorem dL_promote_6 : decode cL_promote 6 = .ok (.i2l, 1) := by decide +kernel
theorem dL_promote_7 : decode cL_promote 7 = .ok (.lreturn, 1) := by decide +kernel
theorem dL_promote_8 : decode cL_promote 8 = .ok (.astore_n 3, 1) := by decide +kernel
theorem dL_promote_9 : decode cL_promote 9 = .ok (.ldc2_w 36, 3) := by decide +kernel
theorem dL_promote_12 : decode cL_promote 12 = .ok (.lreturn, 1) := by decide +kernel
theorem dL_promote_13 : decode cL_promote 13 = .ok (.astore_n 3, 1) := by decide +kernel
theorem dL_promote_14 : decode cL_promote 14 = .ok (.ldc2_w 17, 3) := by decide +kernel
theorem dL_promote_17 : decode cL_promote 17 = .ok (.lreturn, 1) := by decide +kernel
theorem dL_list_0 : decode cL_list 0 = .ok (.aload_n 0, 1) := by decide +kernel
theorem dL_list_1 : decode cL_list 1 = .ok (.iload_n 1, 1) := by decide +kernel
theorem dL_list_2 : decode cL_list 2 = .ok (.iload_n 2, 1) := by decide +kernel
theorem dL_list_3 : decode cL_list 3 = .ok (.iload_n 3, 1) := by decide +kernel
theorem dL_list_4 : decode cL_list 4 = .ok (.invokevirtual 59, 3) := by decide +kernel
theorem dL_list_7 : decode cL_list 7 = .ok (.i2l, 1) := by decide +kernel
theorem dL_list_8 : decode cL_list 8 = .ok (.lreturn, 1) := by decide +kernel
theorem dL_list_9 : decode cL_list 9 = .ok (.astore 4, 2) := by decide +kernel
theorem dL_list_11 : decode cL_list 11 = .ok (.ldc2_w 36, 3) := by decide +kernel
theorem dL_list_14 : decode cL_list 14 = .ok (.lreturn, 1) := by decide +kernel
theorem dL_keepApart_0 : decode cL_keepApart 0 = .ok (.aload_n 0, 1) := by decide +kernel
theorem dL_keepApart_1 : decode cL_keepApart 1 = .ok (.iload_n 1, 1) := by decide +kernel
theorem dL_keepApart_2 : decode cL_keepApart 2 = .ok (.iload_n 2, 1) := by decide +kernel
theorem dL_keepApart_3 : decode cL_keepApart 3 = .ok (.iload_n 3, 1) := by decide +kernel
theorem dL_keepApart_4 : decode cL_keepApart 4 = .ok (.invokevirtual 63, 3) := by decide +kernel
theorem dL_keepApart_7 : decode cL_keepApart 7 = .ok (.i2l, 1) := by decide +kernel
theorem dL_keepApart_8 : decode cL_keepApart 8 = .ok (.lreturn, 1) := by decide +kernel
theorem dL_keepApart_9 : decode cL_keepApart 9 = .ok (.astore 4, 2) := by decide +kernel
theorem dL_keepApart_11 : decode cL_keepApart 11 = .ok (.ldc2_w 36, 3) := by decide +kernel
