/-! scaffold: rows of the law, to be replaced by the true ones -/
theorem dL_draw_0 : decode cL_draw 0 = .ok (.iload_n 1, 1) := sorry
theorem dL_draw_1 : decode cL_draw 1 = .ok (.aload_n 0, 1) := sorry
theorem dL_draw_2 : decode cL_draw 2 = .ok (.arraylength, 1) := sorry
theorem dL_draw_3 : decode cL_draw 3 = .ok (.if_icmp .ge 9, 3) := sorry
theorem dL_draw_6 : decode cL_draw 6 = .ok (.aload_n 0, 1) := sorry
theorem dL_draw_7 : decode cL_draw 7 = .ok (.iload_n 1, 1) := sorry
theorem dL_draw_8 : decode cL_draw 8 = .ok (.iaload, 1) := sorry
theorem dL_draw_9 : decode cL_draw 9 = .ok (.goto 11, 3) := sorry
theorem dL_draw_12 : decode cL_draw 12 = .ok (.ldc 7, 2) := sorry
theorem dL_draw_14 : decode cL_draw 14 = .ok (.iload_n 1, 1) := sorry
theorem dL_draw_15 : decode cL_draw 15 = .ok (.imul, 1) := sorry
theorem dL_draw_16 : decode cL_draw 16 = .ok (.sipush 10651, 3) := sorry
theorem dL_draw_19 : decode cL_draw 19 = .ok (.iadd, 1) := sorry
theorem dL_draw_20 : decode cL_draw 20 = .ok (.ldc 8, 2) := sorry
theorem dL_draw_22 : decode cL_draw 22 = .ok (.iand, 1) := sorry
theorem dL_draw_23 : decode cL_draw 23 = .ok (.ireturn, 1) := sorry
theorem dL_in_0 : decode cL_in 0 = .ok (.lload_n 0, 1) := sorry
theorem dL_in_1 : decode cL_in 1 = .ok (.lload_n 2, 1) := sorry
theorem dL_in_2 : decode cL_in 2 = .ok (.lcmp, 1) := sorry
theorem dL_in_3 : decode cL_in 3 = .ok (.ifCond .lt 14, 3) := sorry
theorem dL_in_6 : decode cL_in 6 = .ok (.lload_n 0, 1) := sorry
theorem dL_in_7 : decode cL_in 7 = .ok (.lload 4, 2) := sorry
theorem dL_in_9 : decode cL_in 9 = .ok (.lcmp, 1) := sorry
theorem dL_in_10 : decode cL_in 10 = .ok (.ifCond .gt 7, 3) := sorry
theorem dL_in_13 : decode cL_in 13 = .ok (.iconst 1, 1) := sorry
theorem dL_in_14 : decode cL_in 14 = .ok (.goto 4, 3) := sorry
theorem dL_in_17 : decode cL_in 17 = .ok (.iconst 0, 1) := sorry
theorem dL_in_18 : decode cL_in 18 = .ok (.ireturn, 1) := sorry
theorem dL_append_0 : decode cL_append 0 = .ok (.aload_n 0, 1) := sorry
theorem dL_append_1 : decode cL_append 1 = .ok (.iload_n 1, 1) := sorry
theorem dL_append_2 : decode cL_append 2 = .ok (.invokevirtual 9, 3) := sorry
theorem dL_append_5 : decode cL_append 5 = .ok (.i2l, 1) := sorry
theorem dL_append_6 : decode cL_append 6 = .ok (.lreturn, 1) := sorry
theorem dL_append_7 : decode cL_append 7 = .ok (.astore_n 2, 1) := sorry
theorem dL_append_8 : decode cL_append 8 = .ok (.ldc2_w 17, 3) := sorry
theorem dL_append_11 : decode cL_append 11 = .ok (.lreturn, 1) := sorry
theorem dL_append_12 : decode cL_append 12 = .ok (.astore_n 2, 1) := sorry
theorem dL_append_13 : decode cL_append 13 = .ok (.ldc2_w 21, 3) := sorry
theorem dL_append_16 : decode cL_append 16 = .ok (.lreturn, 1) := sorry
theorem dL_load_0 : decode cL_load 0 = .ok (.aload_n 0, 1) := sorry
theorem dL_load_1 : decode cL_load 1 = .ok (.invokevirtual 23, 3) := sorry
theorem dL_load_4 : decode cL_load 4 = .ok (.i2l, 1) := sorry
theorem dL_load_5 : decode cL_load 5 = .ok (.lreturn, 1) := sorry
theorem dL_load_6 : decode cL_load 6 = .ok (.astore_n 1, 1) := sorry
theorem dL_load_7 : decode cL_load 7 = .ok (.ldc2_w 21, 3) := sorry
theorem dL_load_10 : decode cL_load 10 = .ok (.lreturn, 1) := sorry
theorem dL_about_0 : decode cL_about 0 = .ok (.aload_n 0, 1) := sorry
theorem dL_about_1 : decode cL_about 1 = .ok (.iload_n 1, 1) := sorry
theorem dL_about_2 : decode cL_about 2 = .ok (.invokevirtual 27, 3) := sorry
theorem dL_about_5 : decode cL_about 5 = .ok (.i2l, 1) := sorry
theorem dL_about_6 : decode cL_about 6 = .ok (.lreturn, 1) := sorry
theorem dL_about_7 : decode cL_about 7 = .ok (.astore_n 2, 1) := sorry
theorem dL_about_8 : decode cL_about 8 = .ok (.ldc2_w 17, 3) := sorry
theorem dL_about_11 : decode cL_about 11 = .ok (.lreturn, 1) := sorry
theorem dL_prisoner_0 : decode cL_prisoner 0 = .ok (.aload_n 0, 1) := sorry
theorem dL_prisoner_1 : decode cL_prisoner 1 = .ok (.iload_n 1, 1) := sorry
theorem dL_prisoner_2 : decode cL_prisoner 2 = .ok (.iload_n 2, 1) := sorry
theorem dL_prisoner_3 : decode cL_prisoner 3 = .ok (.invokevirtual 30, 3) := sorry
theorem dL_prisoner_6 : decode cL_prisoner 6 = .ok (.i2l, 1) := sorry
theorem dL_prisoner_7 : decode cL_prisoner 7 = .ok (.lreturn, 1) := sorry
theorem dL_prisoner_8 : decode cL_prisoner 8 = .ok (.astore_n 3, 1) := sorry
theorem dL_prisoner_9 : decode cL_prisoner 9 = .ok (.ldc2_w 36, 3) := sorry
theorem dL_prisoner_12 : decode cL_prisoner 12 = .ok (.lreturn, 1) := sorry
theorem dL_prisoner_13 : decode cL_prisoner 13 = .ok (.astore_n 3, 1) := sorry
theorem dL_prisoner_14 : decode cL_prisoner 14 = .ok (.ldc2_w 17, 3) := sorry
theorem dL_prisoner_17 : decode cL_prisoner 17 = .ok (.lreturn, 1) := sorry
theorem dL_visitor_0 : decode cL_visitor 0 = .ok (.aload_n 0, 1) := sorry
theorem dL_visitor_1 : decode cL_visitor 1 = .ok (.iload_n 1, 1) := sorry
theorem dL_visitor_2 : decode cL_visitor 2 = .ok (.iload_n 2, 1) := sorry
theorem dL_visitor_3 : decode cL_visitor 3 = .ok (.invokevirtual 38, 3) := sorry
theorem dL_visitor_6 : decode cL_visitor 6 = .ok (.i2l, 1) := sorry
theorem dL_visitor_7 : decode cL_visitor 7 = .ok (.lreturn, 1) := sorry
theorem dL_visitor_8 : decode cL_visitor 8 = .ok (.astore_n 3, 1) := sorry
theorem dL_visitor_9 : decode cL_visitor 9 = .ok (.ldc2_w 36, 3) := sorry
theorem dL_visitor_12 : decode cL_visitor 12 = .ok (.lreturn, 1) := sorry
theorem dL_visitor_13 : decode cL_visitor 13 = .ok (.astore_n 3, 1) := sorry
theorem dL_visitor_14 : decode cL_visitor 14 = .ok (.ldc2_w 17, 3) := sorry
theorem dL_visitor_17 : decode cL_visitor 17 = .ok (.lreturn, 1) := sorry
theorem dL_booking_0 : decode cL_booking 0 = .ok (.aload_n 0, 1) := sorry
theorem dL_booking_1 : decode cL_booking 1 = .ok (.iload_n 1, 1) := sorry
theorem dL_booking_2 : decode cL_booking 2 = .ok (.iload_n 2, 1) := sorry
theorem dL_booking_3 : decode cL_booking 3 = .ok (.invokevirtual 41, 3) := sorry
theorem dL_booking_6 : decode cL_booking 6 = .ok (.i2l, 1) := sorry
theorem dL_booking_7 : decode cL_booking 7 = .ok (.lreturn, 1) := sorry
theorem dL_booking_8 : decode cL_booking 8 = .ok (.astore_n 3, 1) := sorry
theorem dL_booking_9 : decode cL_booking 9 = .ok (.ldc2_w 36, 3) := sorry
theorem dL_booking_12 : decode cL_booking 12 = .ok (.lreturn, 1) := sorry
theorem dL_booking_13 : decode cL_booking 13 = .ok (.astore_n 3, 1) := sorry
theorem dL_booking_14 : decode cL_booking 14 = .ok (.ldc2_w 17, 3) := sorry
theorem dL_booking_17 : decode cL_booking 17 = .ok (.lreturn, 1) := sorry
theorem dL_line_0 : decode cL_line 0 = .ok (.aload_n 0, 1) := sorry
theorem dL_line_1 : decode cL_line 1 = .ok (.iload_n 1, 1) := sorry
theorem dL_line_2 : decode cL_line 2 = .ok (.iload_n 2, 1) := sorry
theorem dL_line_3 : decode cL_line 3 = .ok (.invokevirtual 44, 3) := sorry
theorem dL_line_6 : decode cL_line 6 = .ok (.i2l, 1) := sorry
theorem dL_line_7 : decode cL_line 7 = .ok (.lreturn, 1) := sorry
theorem dL_line_8 : decode cL_line 8 = .ok (.astore_n 3, 1) := sorry
theorem dL_line_9 : decode cL_line 9 = .ok (.ldc2_w 36, 3) := sorry
theorem dL_line_12 : decode cL_line 12 = .ok (.lreturn, 1) := sorry
theorem dL_line_13 : decode cL_line 13 = .ok (.astore_n 3, 1) := sorry
theorem dL_line_14 : decode cL_line 14 = .ok (.ldc2_w 17, 3) := sorry
theorem dL_line_17 : decode cL_line 17 = .ok (.lreturn, 1) := sorry
theorem dL_wishAt_0 : decode cL_wishAt 0 = .ok (.aload_n 0, 1) := sorry
theorem dL_wishAt_1 : decode cL_wishAt 1 = .ok (.iload_n 1, 1) := sorry
theorem dL_wishAt_2 : decode cL_wishAt 2 = .ok (.invokevirtual 47, 3) := sorry
theorem dL_wishAt_5 : decode cL_wishAt 5 = .ok (.i2l, 1) := sorry
theorem dL_wishAt_6 : decode cL_wishAt 6 = .ok (.lreturn, 1) := sorry
theorem dL_wishAt_7 : decode cL_wishAt 7 = .ok (.astore_n 2, 1) := sorry
theorem dL_wishAt_8 : decode cL_wishAt 8 = .ok (.ldc2_w 17, 3) := sorry
theorem dL_wishAt_11 : decode cL_wishAt 11 = .ok (.lreturn, 1) := sorry
theorem dL_setting_0 : decode cL_setting 0 = .ok (.aload_n 0, 1) := sorry
theorem dL_setting_1 : decode cL_setting 1 = .ok (.iload_n 1, 1) := sorry
theorem dL_setting_2 : decode cL_setting 2 = .ok (.invokevirtual 50, 3) := sorry
theorem dL_setting_5 : decode cL_setting 5 = .ok (.i2l, 1) := sorry
theorem dL_setting_6 : decode cL_setting 6 = .ok (.lreturn, 1) := sorry
theorem dL_setting_7 : decode cL_setting 7 = .ok (.astore_n 2, 1) := sorry
theorem dL_setting_8 : decode cL_setting 8 = .ok (.ldc2_w 17, 3) := sorry
theorem dL_setting_11 : decode cL_setting 11 = .ok (.lreturn, 1) := sorry
theorem dL_addPrisoner_0 : decode cL_addPrisoner 0 = .ok (.aload_n 0, 1) := sorry
theorem dL_addPrisoner_1 : decode cL_addPrisoner 1 = .ok (.iload_n 1, 1) := sorry
theorem dL_addPrisoner_2 : decode cL_addPrisoner 2 = .ok (.invokevirtual 53, 3) := sorry
theorem dL_addPrisoner_5 : decode cL_addPrisoner 5 = .ok (.i2l, 1) := sorry
theorem dL_addPrisoner_6 : decode cL_addPrisoner 6 = .ok (.lreturn, 1) := sorry
theorem dL_addPrisoner_7 : decode cL_addPrisoner 7 = .ok (.astore_n 2, 1) := sorry
theorem dL_addPrisoner_8 : decode cL_addPrisoner 8 = .ok (.ldc2_w 17, 3) := sorry
theorem dL_addPrisoner_11 : decode cL_addPrisoner 11 = .ok (.lreturn, 1) := sorry
theorem dL_addPrisoner_12 : decode cL_addPrisoner 12 = .ok (.astore_n 2, 1) := sorry
theorem dL_addPrisoner_13 : decode cL_addPrisoner 13 = .ok (.ldc2_w 21, 3) := sorry
theorem dL_addPrisoner_16 : decode cL_addPrisoner 16 = .ok (.lreturn, 1) := sorry
theorem dL_promote_0 : decode cL_promote 0 = .ok (.aload_n 0, 1) := sorry
theorem dL_promote_1 : decode cL_promote 1 = .ok (.iload_n 1, 1) := sorry
theorem dL_promote_2 : decode cL_promote 2 = .ok (.iload_n 2, 1) := sorry
theorem dL_promote_3 : decode cL_promote 3 = .ok (.invokevirtual 56, 3) := sorry
theorem dL_promote_6 : decode cL_promote 6 = .ok (.i2l, 1) := sorry
theorem dL_promote_7 : decode cL_promote 7 = .ok (.lreturn, 1) := sorry
theorem dL_promote_8 : decode cL_promote 8 = .ok (.astore_n 3, 1) := sorry
theorem dL_promote_9 : decode cL_promote 9 = .ok (.ldc2_w 36, 3) := sorry
theorem dL_promote_12 : decode cL_promote 12 = .ok (.lreturn, 1) := sorry
theorem dL_promote_13 : decode cL_promote 13 = .ok (.astore_n 3, 1) := sorry
theorem dL_promote_14 : decode cL_promote 14 = .ok (.ldc2_w 17, 3) := sorry
theorem dL_promote_17 : decode cL_promote 17 = .ok (.lreturn, 1) := sorry
theorem dL_list_0 : decode cL_list 0 = .ok (.aload_n 0, 1) := sorry
theorem dL_list_1 : decode cL_list 1 = .ok (.iload_n 1, 1) := sorry
theorem dL_list_2 : decode cL_list 2 = .ok (.iload_n 2, 1) := sorry
theorem dL_list_3 : decode cL_list 3 = .ok (.iload_n 3, 1) := sorry
theorem dL_list_4 : decode cL_list 4 = .ok (.invokevirtual 59, 3) := sorry
theorem dL_list_7 : decode cL_list 7 = .ok (.i2l, 1) := sorry
theorem dL_list_8 : decode cL_list 8 = .ok (.lreturn, 1) := sorry
theorem dL_list_9 : decode cL_list 9 = .ok (.astore 4, 2) := sorry
theorem dL_list_11 : decode cL_list 11 = .ok (.ldc2_w 36, 3) := sorry
theorem dL_list_14 : decode cL_list 14 = .ok (.lreturn, 1) := sorry
theorem dL_keepApart_0 : decode cL_keepApart 0 = .ok (.aload_n 0, 1) := sorry
theorem dL_keepApart_1 : decode cL_keepApart 1 = .ok (.iload_n 1, 1) := sorry
theorem dL_keepApart_2 : decode cL_keepApart 2 = .ok (.iload_n 2, 1) := sorry
theorem dL_keepApart_3 : decode cL_keepApart 3 = .ok (.iload_n 3, 1) := sorry
theorem dL_keepApart_4 : decode cL_keepApart 4 = .ok (.invokevirtual 63, 3) := sorry
theorem dL_keepApart_7 : decode cL_keepApart 7 = .ok (.i2l, 1) := sorry
theorem dL_keepApart_8 : decode cL_keepApart 8 = .ok (.lreturn, 1) := sorry
theorem dL_keepApart_9 : decode cL_keepApart 9 = .ok (.astore 4, 2) := sorry
theorem dL_keepApart_11 : decode cL_keepApart 11 = .ok (.ldc2_w 36, 3) := sorry
theorem dL_keepApart_14 : decode cL_keepApart 14 = .ok (.lreturn, 1) := sorry
theorem dL_keepApart_15 : decode cL_keepApart 15 = .ok (.astore 4, 2) := sorry
theorem dL_keepApart_17 : decode cL_keepApart 17 = .ok (.ldc2_w 21, 3) := sorry
theorem dL_keepApart_20 : decode cL_keepApart 20 = .ok (.lreturn, 1) := sorry
theorem dL_book_0 : decode cL_book 0 = .ok (.aload_n 0, 1) := sorry
theorem dL_book_1 : decode cL_book 1 = .ok (.iload_n 1, 1) := sorry
theorem dL_book_2 : decode cL_book 2 = .ok (.iload_n 2, 1) := sorry
theorem dL_book_3 : decode cL_book 3 = .ok (.iload_n 3, 1) := sorry
theorem dL_book_4 : decode cL_book 4 = .ok (.iload 4, 2) := sorry
theorem dL_book_6 : decode cL_book 6 = .ok (.invokevirtual 66, 3) := sorry
theorem dL_book_9 : decode cL_book 9 = .ok (.i2l, 1) := sorry
theorem dL_book_10 : decode cL_book 10 = .ok (.lreturn, 1) := sorry
theorem dL_book_11 : decode cL_book 11 = .ok (.astore 5, 2) := sorry
theorem dL_book_13 : decode cL_book 13 = .ok (.ldc2_w 36, 3) := sorry
theorem dL_book_16 : decode cL_book 16 = .ok (.lreturn, 1) := sorry
theorem dL_book_17 : decode cL_book 17 = .ok (.astore 5, 2) := sorry
theorem dL_book_19 : decode cL_book 19 = .ok (.ldc2_w 17, 3) := sorry
theorem dL_book_22 : decode cL_book 22 = .ok (.lreturn, 1) := sorry
theorem dL_book_23 : decode cL_book 23 = .ok (.astore 5, 2) := sorry
theorem dL_book_25 : decode cL_book 25 = .ok (.ldc2_w 21, 3) := sorry
theorem dL_book_28 : decode cL_book 28 = .ok (.lreturn, 1) := sorry
theorem dL_cancel_0 : decode cL_cancel 0 = .ok (.aload_n 0, 1) := sorry
theorem dL_cancel_1 : decode cL_cancel 1 = .ok (.iload_n 1, 1) := sorry
theorem dL_cancel_2 : decode cL_cancel 2 = .ok (.invokevirtual 70, 3) := sorry
theorem dL_cancel_5 : decode cL_cancel 5 = .ok (.i2l, 1) := sorry
theorem dL_cancel_6 : decode cL_cancel 6 = .ok (.lreturn, 1) := sorry
theorem dL_cancel_7 : decode cL_cancel 7 = .ok (.astore_n 2, 1) := sorry
theorem dL_cancel_8 : decode cL_cancel 8 = .ok (.ldc2_w 36, 3) := sorry
theorem dL_cancel_11 : decode cL_cancel 11 = .ok (.lreturn, 1) := sorry
theorem dL_late_0 : decode cL_late 0 = .ok (.aload_n 0, 1) := sorry
theorem dL_late_1 : decode cL_late 1 = .ok (.iload_n 1, 1) := sorry
theorem dL_late_2 : decode cL_late 2 = .ok (.iload_n 2, 1) := sorry
theorem dL_late_3 : decode cL_late 3 = .ok (.invokevirtual 73, 3) := sorry
theorem dL_late_6 : decode cL_late 6 = .ok (.i2l, 1) := sorry
theorem dL_late_7 : decode cL_late 7 = .ok (.lreturn, 1) := sorry
theorem dL_late_8 : decode cL_late 8 = .ok (.astore_n 3, 1) := sorry
theorem dL_late_9 : decode cL_late 9 = .ok (.ldc2_w 36, 3) := sorry
theorem dL_late_12 : decode cL_late 12 = .ok (.lreturn, 1) := sorry
theorem dL_late_13 : decode cL_late 13 = .ok (.astore_n 3, 1) := sorry
theorem dL_late_14 : decode cL_late 14 = .ok (.ldc2_w 17, 3) := sorry
theorem dL_late_17 : decode cL_late 17 = .ok (.lreturn, 1) := sorry
theorem dL_carries_0 : decode cL_carries 0 = .ok (.aload_n 0, 1) := sorry
theorem dL_carries_1 : decode cL_carries 1 = .ok (.iload_n 1, 1) := sorry
theorem dL_carries_2 : decode cL_carries 2 = .ok (.iload_n 2, 1) := sorry
theorem dL_carries_3 : decode cL_carries 3 = .ok (.invokevirtual 76, 3) := sorry
theorem dL_carries_6 : decode cL_carries 6 = .ok (.i2l, 1) := sorry
theorem dL_carries_7 : decode cL_carries 7 = .ok (.lreturn, 1) := sorry
theorem dL_carries_8 : decode cL_carries 8 = .ok (.astore_n 3, 1) := sorry
theorem dL_carries_9 : decode cL_carries 9 = .ok (.ldc2_w 36, 3) := sorry
theorem dL_carries_12 : decode cL_carries 12 = .ok (.lreturn, 1) := sorry
theorem dL_punish_0 : decode cL_punish 0 = .ok (.aload_n 0, 1) := sorry
theorem dL_punish_1 : decode cL_punish 1 = .ok (.iload_n 1, 1) := sorry
theorem dL_punish_2 : decode cL_punish 2 = .ok (.iload_n 2, 1) := sorry
theorem dL_punish_3 : decode cL_punish 3 = .ok (.invokevirtual 80, 3) := sorry
theorem dL_punish_6 : decode cL_punish 6 = .ok (.i2l, 1) := sorry
theorem dL_punish_7 : decode cL_punish 7 = .ok (.lreturn, 1) := sorry
theorem dL_punish_8 : decode cL_punish 8 = .ok (.astore_n 3, 1) := sorry
theorem dL_punish_9 : decode cL_punish 9 = .ok (.ldc2_w 36, 3) := sorry
theorem dL_punish_12 : decode cL_punish 12 = .ok (.lreturn, 1) := sorry
theorem dL_punish_13 : decode cL_punish 13 = .ok (.astore_n 3, 1) := sorry
theorem dL_punish_14 : decode cL_punish 14 = .ok (.ldc2_w 17, 3) := sorry
theorem dL_punish_17 : decode cL_punish 17 = .ok (.lreturn, 1) := sorry
theorem dL_wish_0 : decode cL_wish 0 = .ok (.aload_n 0, 1) := sorry
theorem dL_wish_1 : decode cL_wish 1 = .ok (.iload_n 1, 1) := sorry
theorem dL_wish_2 : decode cL_wish 2 = .ok (.iload_n 2, 1) := sorry
theorem dL_wish_3 : decode cL_wish 3 = .ok (.invokevirtual 83, 3) := sorry
theorem dL_wish_6 : decode cL_wish 6 = .ok (.i2l, 1) := sorry
theorem dL_wish_7 : decode cL_wish 7 = .ok (.lreturn, 1) := sorry
theorem dL_wish_8 : decode cL_wish 8 = .ok (.astore_n 3, 1) := sorry
theorem dL_wish_9 : decode cL_wish 9 = .ok (.ldc2_w 36, 3) := sorry
theorem dL_wish_12 : decode cL_wish 12 = .ok (.lreturn, 1) := sorry
theorem dL_wish_13 : decode cL_wish 13 = .ok (.astore_n 3, 1) := sorry
theorem dL_wish_14 : decode cL_wish 14 = .ok (.ldc2_w 21, 3) := sorry
theorem dL_wish_17 : decode cL_wish 17 = .ok (.lreturn, 1) := sorry
theorem dL_run_0 : decode cL_run 0 = .ok (.aload_n 0, 1) := sorry
theorem dL_run_1 : decode cL_run 1 = .ok (.iload_n 1, 1) := sorry
theorem dL_run_2 : decode cL_run 2 = .ok (.invokevirtual 86, 3) := sorry
theorem dL_run_5 : decode cL_run 5 = .ok (.i2l, 1) := sorry
theorem dL_run_6 : decode cL_run 6 = .ok (.lreturn, 1) := sorry
theorem dL_run_7 : decode cL_run 7 = .ok (.astore_n 2, 1) := sorry
theorem dL_run_8 : decode cL_run 8 = .ok (.ldc2_w 17, 3) := sorry
theorem dL_run_11 : decode cL_run 11 = .ok (.lreturn, 1) := sorry
theorem dL_set_0 : decode cL_set 0 = .ok (.aload_n 0, 1) := sorry
theorem dL_set_1 : decode cL_set 1 = .ok (.iload_n 1, 1) := sorry
theorem dL_set_2 : decode cL_set 2 = .ok (.iload_n 2, 1) := sorry
theorem dL_set_3 : decode cL_set 3 = .ok (.invokevirtual 89, 3) := sorry
theorem dL_set_6 : decode cL_set 6 = .ok (.i2l, 1) := sorry
theorem dL_set_7 : decode cL_set 7 = .ok (.lreturn, 1) := sorry
theorem dL_set_8 : decode cL_set 8 = .ok (.astore_n 3, 1) := sorry
theorem dL_set_9 : decode cL_set 9 = .ok (.ldc2_w 17, 3) := sorry
theorem dL_set_12 : decode cL_set 12 = .ok (.lreturn, 1) := sorry
theorem dL_undo_0 : decode cL_undo 0 = .ok (.aload_n 0, 1) := sorry
theorem dL_undo_1 : decode cL_undo 1 = .ok (.invokevirtual 92, 3) := sorry
theorem dL_undo_4 : decode cL_undo 4 = .ok (.i2l, 1) := sorry
theorem dL_undo_5 : decode cL_undo 5 = .ok (.lreturn, 1) := sorry
theorem dL_undo_6 : decode cL_undo 6 = .ok (.astore_n 1, 1) := sorry
theorem dL_undo_7 : decode cL_undo 7 = .ok (.ldc2_w 21, 3) := sorry
theorem dL_undo_10 : decode cL_undo 10 = .ok (.lreturn, 1) := sorry
theorem dL_whyNot_0 : decode cL_whyNot 0 = .ok (.aload_n 0, 1) := sorry
theorem dL_whyNot_1 : decode cL_whyNot 1 = .ok (.iload_n 1, 1) := sorry
theorem dL_whyNot_2 : decode cL_whyNot 2 = .ok (.iload_n 2, 1) := sorry
theorem dL_whyNot_3 : decode cL_whyNot 3 = .ok (.iload_n 3, 1) := sorry
theorem dL_whyNot_4 : decode cL_whyNot 4 = .ok (.iload 4, 2) := sorry
theorem dL_whyNot_6 : decode cL_whyNot 6 = .ok (.invokevirtual 95, 3) := sorry
theorem dL_whyNot_9 : decode cL_whyNot 9 = .ok (.i2l, 1) := sorry
theorem dL_whyNot_10 : decode cL_whyNot 10 = .ok (.lreturn, 1) := sorry
theorem dL_whyNot_11 : decode cL_whyNot 11 = .ok (.astore 5, 2) := sorry
theorem dL_whyNot_13 : decode cL_whyNot 13 = .ok (.ldc2_w 36, 3) := sorry
theorem dL_whyNot_16 : decode cL_whyNot 16 = .ok (.lreturn, 1) := sorry
theorem dL_whyNot_17 : decode cL_whyNot 17 = .ok (.astore 5, 2) := sorry
theorem dL_whyNot_19 : decode cL_whyNot 19 = .ok (.ldc2_w 17, 3) := sorry
theorem dL_whyNot_22 : decode cL_whyNot 22 = .ok (.lreturn, 1) := sorry
theorem dL_firstTime_0 : decode cL_firstTime 0 = .ok (.aload_n 0, 1) := sorry
theorem dL_firstTime_1 : decode cL_firstTime 1 = .ok (.iload_n 1, 1) := sorry
theorem dL_firstTime_2 : decode cL_firstTime 2 = .ok (.iload_n 2, 1) := sorry
theorem dL_firstTime_3 : decode cL_firstTime 3 = .ok (.invokevirtual 98, 3) := sorry
theorem dL_firstTime_6 : decode cL_firstTime 6 = .ok (.i2l, 1) := sorry
theorem dL_firstTime_7 : decode cL_firstTime 7 = .ok (.lreturn, 1) := sorry
theorem dL_firstTime_8 : decode cL_firstTime 8 = .ok (.astore_n 3, 1) := sorry
theorem dL_firstTime_9 : decode cL_firstTime 9 = .ok (.ldc2_w 36, 3) := sorry
theorem dL_firstTime_12 : decode cL_firstTime 12 = .ok (.lreturn, 1) := sorry
theorem dL_coming_0 : decode cL_coming 0 = .ok (.aload_n 0, 1) := sorry
theorem dL_coming_1 : decode cL_coming 1 = .ok (.iload_n 1, 1) := sorry
theorem dL_coming_2 : decode cL_coming 2 = .ok (.iload_n 2, 1) := sorry
theorem dL_coming_3 : decode cL_coming 3 = .ok (.invokevirtual 101, 3) := sorry
theorem dL_coming_6 : decode cL_coming 6 = .ok (.i2l, 1) := sorry
theorem dL_coming_7 : decode cL_coming 7 = .ok (.lreturn, 1) := sorry
theorem dL_coming_8 : decode cL_coming 8 = .ok (.astore_n 3, 1) := sorry
theorem dL_coming_9 : decode cL_coming 9 = .ok (.ldc2_w 17, 3) := sorry
theorem dL_coming_12 : decode cL_coming 12 = .ok (.lreturn, 1) := sorry
theorem dL_becomes_0 : decode cL_becomes 0 = .ok (.aload_n 0, 1) := sorry
theorem dL_becomes_1 : decode cL_becomes 1 = .ok (.iload_n 1, 1) := sorry
theorem dL_becomes_2 : decode cL_becomes 2 = .ok (.invokevirtual 104, 3) := sorry
theorem dL_becomes_5 : decode cL_becomes 5 = .ok (.i2l, 1) := sorry
theorem dL_becomes_6 : decode cL_becomes 6 = .ok (.lreturn, 1) := sorry
theorem dL_becomes_7 : decode cL_becomes 7 = .ok (.astore_n 2, 1) := sorry
theorem dL_becomes_8 : decode cL_becomes 8 = .ok (.ldc2_w 36, 3) := sorry
theorem dL_becomes_11 : decode cL_becomes 11 = .ok (.lreturn, 1) := sorry
theorem dL_becomes_12 : decode cL_becomes 12 = .ok (.astore_n 2, 1) := sorry
theorem dL_becomes_13 : decode cL_becomes 13 = .ok (.ldc2_w 21, 3) := sorry
theorem dL_becomes_16 : decode cL_becomes 16 = .ok (.lreturn, 1) := sorry
theorem dL_script_0 : decode cL_script 0 = .ok (.aload_n 0, 1) := sorry
theorem dL_script_1 : decode cL_script 1 = .ok (.iload_n 1, 1) := sorry
theorem dL_script_2 : decode cL_script 2 = .ok (.lload_n 2, 1) := sorry
theorem dL_script_3 : decode cL_script 3 = .ok (.invokevirtual 107, 3) := sorry
theorem dL_script_6 : decode cL_script 6 = .ok (.i2l, 1) := sorry
theorem dL_script_7 : decode cL_script 7 = .ok (.lreturn, 1) := sorry
theorem dL_script_8 : decode cL_script 8 = .ok (.astore 4, 2) := sorry
theorem dL_script_10 : decode cL_script 10 = .ok (.ldc2_w 17, 3) := sorry
theorem dL_script_13 : decode cL_script 13 = .ok (.lreturn, 1) := sorry
theorem dL_simulate_0 : decode cL_simulate 0 = .ok (.aload_n 0, 1) := sorry
theorem dL_simulate_1 : decode cL_simulate 1 = .ok (.lload_n 1, 1) := sorry
theorem dL_simulate_2 : decode cL_simulate 2 = .ok (.iload_n 3, 1) := sorry
theorem dL_simulate_3 : decode cL_simulate 3 = .ok (.invokevirtual 111, 3) := sorry
theorem dL_simulate_6 : decode cL_simulate 6 = .ok (.i2l, 1) := sorry
theorem dL_simulate_7 : decode cL_simulate 7 = .ok (.lreturn, 1) := sorry
theorem dL_simulate_8 : decode cL_simulate 8 = .ok (.astore 4, 2) := sorry
theorem dL_simulate_10 : decode cL_simulate 10 = .ok (.ldc2_w 17, 3) := sorry
theorem dL_simulate_13 : decode cL_simulate 13 = .ok (.lreturn, 1) := sorry
theorem dL_save_0 : decode cL_save 0 = .ok (.aload_n 0, 1) := sorry
theorem dL_save_1 : decode cL_save 1 = .ok (.iload_n 1, 1) := sorry
theorem dL_save_2 : decode cL_save 2 = .ok (.invokevirtual 115, 3) := sorry
theorem dL_save_5 : decode cL_save 5 = .ok (.i2l, 1) := sorry
theorem dL_save_6 : decode cL_save 6 = .ok (.lreturn, 1) := sorry
theorem dL_save_7 : decode cL_save 7 = .ok (.astore_n 2, 1) := sorry
theorem dL_save_8 : decode cL_save 8 = .ok (.ldc2_w 36, 3) := sorry
theorem dL_save_11 : decode cL_save 11 = .ok (.lreturn, 1) := sorry
theorem dL_restore_0 : decode cL_restore 0 = .ok (.aload_n 0, 1) := sorry
theorem dL_restore_1 : decode cL_restore 1 = .ok (.iload_n 1, 1) := sorry
theorem dL_restore_2 : decode cL_restore 2 = .ok (.invokevirtual 118, 3) := sorry
theorem dL_restore_5 : decode cL_restore 5 = .ok (.i2l, 1) := sorry
theorem dL_restore_6 : decode cL_restore 6 = .ok (.lreturn, 1) := sorry
theorem dL_restore_7 : decode cL_restore 7 = .ok (.astore_n 2, 1) := sorry
theorem dL_restore_8 : decode cL_restore 8 = .ok (.ldc2_w 36, 3) := sorry
theorem dL_restore_11 : decode cL_restore 11 = .ok (.lreturn, 1) := sorry
theorem dL_restore_12 : decode cL_restore 12 = .ok (.astore_n 2, 1) := sorry
theorem dL_restore_13 : decode cL_restore 13 = .ok (.ldc2_w 21, 3) := sorry
theorem dL_restore_16 : decode cL_restore 16 = .ok (.lreturn, 1) := sorry
theorem dL_now_0 : decode cL_now 0 = .ok (.ldc2_w 121, 3) := sorry
theorem dL_now_3 : decode cL_now 3 = .ok (.lstore_n 1, 1) := sorry
theorem dL_now_4 : decode cL_now 4 = .ok (.iconst 0, 1) := sorry
theorem dL_now_5 : decode cL_now 5 = .ok (.istore_n 3, 1) := sorry
theorem dL_now_6 : decode cL_now 6 = .ok (.iload_n 3, 1) := sorry
theorem dL_now_7 : decode cL_now 7 = .ok (.bipush 11, 2) := sorry
theorem dL_now_9 : decode cL_now 9 = .ok (.if_icmp .ge 21, 3) := sorry
theorem dL_now_12 : decode cL_now 12 = .ok (.ldc2_w 123, 3) := sorry
theorem dL_now_15 : decode cL_now 15 = .ok (.lload_n 1, 1) := sorry
theorem dL_now_16 : decode cL_now 16 = .ok (.lmul, 1) := sorry
theorem dL_now_17 : decode cL_now 17 = .ok (.aload_n 0, 1) := sorry
theorem dL_now_18 : decode cL_now 18 = .ok (.iload_n 3, 1) := sorry
theorem dL_now_19 : decode cL_now 19 = .ok (.invokestatic 125, 3) := sorry
theorem dL_now_22 : decode cL_now 22 = .ok (.ladd, 1) := sorry
theorem dL_now_23 : decode cL_now 23 = .ok (.lstore_n 1, 1) := sorry
theorem dL_now_24 : decode cL_now 24 = .ok (.iinc 3 1, 3) := sorry
theorem dL_now_27 : decode cL_now 27 = .ok (.goto (-21), 3) := sorry
theorem dL_now_30 : decode cL_now 30 = .ok (.iconst 0, 1) := sorry
theorem dL_now_31 : decode cL_now 31 = .ok (.istore_n 3, 1) := sorry
theorem dL_now_32 : decode cL_now 32 = .ok (.iload_n 3, 1) := sorry
theorem dL_now_33 : decode cL_now 33 = .ok (.bipush 6, 2) := sorry
theorem dL_now_35 : decode cL_now 35 = .ok (.if_icmp .ge 21, 3) := sorry
theorem dL_now_38 : decode cL_now 38 = .ok (.ldc2_w 123, 3) := sorry
theorem dL_now_41 : decode cL_now 41 = .ok (.lload_n 1, 1) := sorry
theorem dL_now_42 : decode cL_now 42 = .ok (.lmul, 1) := sorry
theorem dL_now_43 : decode cL_now 43 = .ok (.aload_n 0, 1) := sorry
theorem dL_now_44 : decode cL_now 44 = .ok (.iload_n 3, 1) := sorry
theorem dL_now_45 : decode cL_now 45 = .ok (.invokestatic 130, 3) := sorry
theorem dL_now_48 : decode cL_now 48 = .ok (.ladd, 1) := sorry
theorem dL_now_49 : decode cL_now 49 = .ok (.lstore_n 1, 1) := sorry
theorem dL_now_50 : decode cL_now 50 = .ok (.iinc 3 1, 3) := sorry
theorem dL_now_53 : decode cL_now 53 = .ok (.goto (-21), 3) := sorry
theorem dL_now_56 : decode cL_now 56 = .ok (.aload_n 0, 1) := sorry
theorem dL_now_57 : decode cL_now 57 = .ok (.iconst 0, 1) := sorry
theorem dL_now_58 : decode cL_now 58 = .ok (.invokestatic 125, 3) := sorry
theorem dL_now_61 : decode cL_now 61 = .ok (.l2i, 1) := sorry
theorem dL_now_62 : decode cL_now 62 = .ok (.istore_n 3, 1) := sorry
theorem dL_now_63 : decode cL_now 63 = .ok (.iconst 0, 1) := sorry
theorem dL_now_64 : decode cL_now 64 = .ok (.istore 4, 2) := sorry
theorem dL_now_66 : decode cL_now 66 = .ok (.iload 4, 2) := sorry
theorem dL_now_68 : decode cL_now 68 = .ok (.bipush 8, 2) := sorry
theorem dL_now_70 : decode cL_now 70 = .ok (.iload_n 3, 1) := sorry
theorem dL_now_71 : decode cL_now 71 = .ok (.imul, 1) := sorry
theorem dL_now_72 : decode cL_now 72 = .ok (.if_icmp .ge 30, 3) := sorry
theorem dL_now_75 : decode cL_now 75 = .ok (.ldc2_w 123, 3) := sorry
theorem dL_now_78 : decode cL_now 78 = .ok (.lload_n 1, 1) := sorry
theorem dL_now_79 : decode cL_now 79 = .ok (.lmul, 1) := sorry
theorem dL_now_80 : decode cL_now 80 = .ok (.aload_n 0, 1) := sorry
theorem dL_now_81 : decode cL_now 81 = .ok (.iload 4, 2) := sorry
theorem dL_now_83 : decode cL_now 83 = .ok (.bipush 8, 2) := sorry
theorem dL_now_85 : decode cL_now 85 = .ok (.idiv, 1) := sorry
theorem dL_now_86 : decode cL_now 86 = .ok (.iload 4, 2) := sorry
theorem dL_now_88 : decode cL_now 88 = .ok (.bipush 8, 2) := sorry
theorem dL_now_90 : decode cL_now 90 = .ok (.irem, 1) := sorry
theorem dL_now_91 : decode cL_now 91 = .ok (.invokestatic 132, 3) := sorry
theorem dL_now_94 : decode cL_now 94 = .ok (.ladd, 1) := sorry
theorem dL_now_95 : decode cL_now 95 = .ok (.lstore_n 1, 1) := sorry
theorem dL_now_96 : decode cL_now 96 = .ok (.iinc 4 1, 3) := sorry
theorem dL_now_99 : decode cL_now 99 = .ok (.goto (-33), 3) := sorry
theorem dL_now_102 : decode cL_now 102 = .ok (.iconst 0, 1) := sorry
theorem dL_now_103 : decode cL_now 103 = .ok (.istore 4, 2) := sorry
theorem dL_now_105 : decode cL_now 105 = .ok (.iload 4, 2) := sorry
theorem dL_now_107 : decode cL_now 107 = .ok (.bipush 50, 2) := sorry
theorem dL_now_109 : decode cL_now 109 = .ok (.if_icmp .ge 28, 3) := sorry
theorem dL_now_112 : decode cL_now 112 = .ok (.ldc2_w 123, 3) := sorry
theorem dL_now_115 : decode cL_now 115 = .ok (.lload_n 1, 1) := sorry
theorem dL_now_116 : decode cL_now 116 = .ok (.lmul, 1) := sorry
theorem dL_now_117 : decode cL_now 117 = .ok (.aload_n 0, 1) := sorry
theorem dL_now_118 : decode cL_now 118 = .ok (.iload 4, 2) := sorry
theorem dL_now_120 : decode cL_now 120 = .ok (.iconst 5, 1) := sorry
theorem dL_now_121 : decode cL_now 121 = .ok (.idiv, 1) := sorry
theorem dL_now_122 : decode cL_now 122 = .ok (.iload 4, 2) := sorry
theorem dL_now_124 : decode cL_now 124 = .ok (.iconst 5, 1) := sorry
theorem dL_now_125 : decode cL_now 125 = .ok (.irem, 1) := sorry
theorem dL_now_126 : decode cL_now 126 = .ok (.invokestatic 135, 3) := sorry
theorem dL_now_129 : decode cL_now 129 = .ok (.ladd, 1) := sorry
theorem dL_now_130 : decode cL_now 130 = .ok (.lstore_n 1, 1) := sorry
theorem dL_now_131 : decode cL_now 131 = .ok (.iinc 4 1, 3) := sorry
theorem dL_now_134 : decode cL_now 134 = .ok (.goto (-29), 3) := sorry
theorem dL_now_137 : decode cL_now 137 = .ok (.aload_n 0, 1) := sorry
theorem dL_now_138 : decode cL_now 138 = .ok (.iconst 2, 1) := sorry
theorem dL_now_139 : decode cL_now 139 = .ok (.invokestatic 125, 3) := sorry
theorem dL_now_142 : decode cL_now 142 = .ok (.l2i, 1) := sorry
theorem dL_now_143 : decode cL_now 143 = .ok (.istore 4, 2) := sorry
theorem dL_now_145 : decode cL_now 145 = .ok (.iconst 0, 1) := sorry
theorem dL_now_146 : decode cL_now 146 = .ok (.istore 5, 2) := sorry
theorem dL_now_148 : decode cL_now 148 = .ok (.iload 5, 2) := sorry
theorem dL_now_150 : decode cL_now 150 = .ok (.bipush 6, 2) := sorry
theorem dL_now_152 : decode cL_now 152 = .ok (.iload 4, 2) := sorry
theorem dL_now_154 : decode cL_now 154 = .ok (.imul, 1) := sorry
theorem dL_now_155 : decode cL_now 155 = .ok (.if_icmp .ge 30, 3) := sorry
theorem dL_now_158 : decode cL_now 158 = .ok (.ldc2_w 123, 3) := sorry
theorem dL_now_161 : decode cL_now 161 = .ok (.lload_n 1, 1) := sorry
theorem dL_now_162 : decode cL_now 162 = .ok (.lmul, 1) := sorry
theorem dL_now_163 : decode cL_now 163 = .ok (.aload_n 0, 1) := sorry
theorem dL_now_164 : decode cL_now 164 = .ok (.iload 5, 2) := sorry
theorem dL_now_166 : decode cL_now 166 = .ok (.bipush 6, 2) := sorry
theorem dL_now_168 : decode cL_now 168 = .ok (.idiv, 1) := sorry
theorem dL_now_169 : decode cL_now 169 = .ok (.iload 5, 2) := sorry
theorem dL_now_171 : decode cL_now 171 = .ok (.bipush 6, 2) := sorry
theorem dL_now_173 : decode cL_now 173 = .ok (.irem, 1) := sorry
theorem dL_now_174 : decode cL_now 174 = .ok (.invokestatic 137, 3) := sorry
theorem dL_now_177 : decode cL_now 177 = .ok (.ladd, 1) := sorry
theorem dL_now_178 : decode cL_now 178 = .ok (.lstore_n 1, 1) := sorry
theorem dL_now_179 : decode cL_now 179 = .ok (.iinc 5 1, 3) := sorry
theorem dL_now_182 : decode cL_now 182 = .ok (.goto (-34), 3) := sorry
theorem dL_now_185 : decode cL_now 185 = .ok (.iconst 0, 1) := sorry
theorem dL_now_186 : decode cL_now 186 = .ok (.istore 5, 2) := sorry
theorem dL_now_188 : decode cL_now 188 = .ok (.iload 5, 2) := sorry
theorem dL_now_190 : decode cL_now 190 = .ok (.bipush 10, 2) := sorry
theorem dL_now_192 : decode cL_now 192 = .ok (.if_icmp .ge 22, 3) := sorry
theorem dL_now_195 : decode cL_now 195 = .ok (.ldc2_w 123, 3) := sorry
theorem dL_now_198 : decode cL_now 198 = .ok (.lload_n 1, 1) := sorry
theorem dL_now_199 : decode cL_now 199 = .ok (.lmul, 1) := sorry
theorem dL_now_200 : decode cL_now 200 = .ok (.aload_n 0, 1) := sorry
theorem dL_now_201 : decode cL_now 201 = .ok (.iload 5, 2) := sorry
theorem dL_now_203 : decode cL_now 203 = .ok (.invokestatic 139, 3) := sorry
theorem dL_now_206 : decode cL_now 206 = .ok (.ladd, 1) := sorry
theorem dL_now_207 : decode cL_now 207 = .ok (.lstore_n 1, 1) := sorry
theorem dL_now_208 : decode cL_now 208 = .ok (.iinc 5 1, 3) := sorry
theorem dL_now_211 : decode cL_now 211 = .ok (.goto (-23), 3) := sorry
theorem dL_now_214 : decode cL_now 214 = .ok (.lload_n 1, 1) := sorry
theorem dL_now_215 : decode cL_now 215 = .ok (.lreturn, 1) := sorry
theorem dL_errors_0 : decode cL_errors 0 = .ok (.aload_n 0, 1) := sorry
theorem dL_errors_1 : decode cL_errors 1 = .ok (.invokestatic 141, 3) := sorry
theorem dL_errors_4 : decode cL_errors 4 = .ok (.lstore_n 1, 1) := sorry
theorem dL_errors_5 : decode cL_errors 5 = .ok (.aload_n 0, 1) := sorry
theorem dL_errors_6 : decode cL_errors 6 = .ok (.iconst 0, 1) := sorry
theorem dL_errors_7 : decode cL_errors 7 = .ok (.invokestatic 125, 3) := sorry
theorem dL_errors_10 : decode cL_errors 10 = .ok (.l2i, 1) := sorry
theorem dL_errors_11 : decode cL_errors 11 = .ok (.istore_n 3, 1) := sorry
theorem dL_errors_12 : decode cL_errors 12 = .ok (.aload_n 0, 1) := sorry
theorem dL_errors_13 : decode cL_errors 13 = .ok (.iconst 2, 1) := sorry
theorem dL_errors_14 : decode cL_errors 14 = .ok (.invokestatic 125, 3) := sorry
theorem dL_errors_17 : decode cL_errors 17 = .ok (.l2i, 1) := sorry
theorem dL_errors_18 : decode cL_errors 18 = .ok (.istore 4, 2) := sorry
theorem dL_errors_20 : decode cL_errors 20 = .ok (.aload_n 0, 1) := sorry
theorem dL_errors_21 : decode cL_errors 21 = .ok (.iconst 1, 1) := sorry
theorem dL_errors_22 : decode cL_errors 22 = .ok (.invokestatic 125, 3) := sorry
theorem dL_errors_25 : decode cL_errors 25 = .ok (.l2i, 1) := sorry
theorem dL_errors_26 : decode cL_errors 26 = .ok (.istore 5, 2) := sorry
theorem dL_errors_28 : decode cL_errors 28 = .ok (.aload_n 0, 1) := sorry
theorem dL_errors_29 : decode cL_errors 29 = .ok (.iconst (-1), 1) := sorry
theorem dL_errors_30 : decode cL_errors 30 = .ok (.invokestatic 125, 3) := sorry
theorem dL_errors_33 : decode cL_errors 33 = .ok (.ldc2_w 17, 3) := sorry
theorem dL_errors_36 : decode cL_errors 36 = .ok (.lcmp, 1) := sorry
theorem dL_errors_37 : decode cL_errors 37 = .ok (.ifCond .ne 505, 3) := sorry
theorem dL_errors_40 : decode cL_errors 40 = .ok (.aload_n 0, 1) := sorry
theorem dL_errors_41 : decode cL_errors 41 = .ok (.bipush 11, 2) := sorry
theorem dL_errors_43 : decode cL_errors 43 = .ok (.invokestatic 125, 3) := sorry
theorem dL_errors_46 : decode cL_errors 46 = .ok (.ldc2_w 17, 3) := sorry
theorem dL_errors_49 : decode cL_errors 49 = .ok (.lcmp, 1) := sorry
theorem dL_errors_50 : decode cL_errors 50 = .ok (.ifCond .ne 492, 3) := sorry
theorem dL_errors_53 : decode cL_errors 53 = .ok (.aload_n 0, 1) := sorry
theorem dL_errors_54 : decode cL_errors 54 = .ok (.iload_n 3, 1) := sorry
theorem dL_errors_55 : decode cL_errors 55 = .ok (.bipush 9, 2) := sorry
theorem dL_errors_57 : decode cL_errors 57 = .ok (.invokestatic 132, 3) := sorry
theorem dL_errors_60 : decode cL_errors 60 = .ok (.ldc2_w 36, 3) := sorry
theorem dL_errors_63 : decode cL_errors 63 = .ok (.lcmp, 1) := sorry
theorem dL_errors_64 : decode cL_errors 64 = .ok (.ifCond .ne 478, 3) := sorry
theorem dL_errors_67 : decode cL_errors 67 = .ok (.aload_n 0, 1) := sorry
theorem dL_errors_68 : decode cL_errors 68 = .ok (.bipush 10, 2) := sorry
theorem dL_errors_70 : decode cL_errors 70 = .ok (.bipush 9, 2) := sorry
theorem dL_errors_72 : decode cL_errors 72 = .ok (.invokestatic 135, 3) := sorry
theorem dL_errors_75 : decode cL_errors 75 = .ok (.ldc2_w 36, 3) := sorry
theorem dL_errors_78 : decode cL_errors 78 = .ok (.lcmp, 1) := sorry
theorem dL_errors_79 : decode cL_errors 79 = .ok (.ifCond .ne 463, 3) := sorry
theorem dL_errors_82 : decode cL_errors 82 = .ok (.aload_n 0, 1) := sorry
theorem dL_errors_83 : decode cL_errors 83 = .ok (.iconst 0, 1) := sorry
theorem dL_errors_84 : decode cL_errors 84 = .ok (.iconst 5, 1) := sorry
theorem dL_errors_85 : decode cL_errors 85 = .ok (.invokestatic 135, 3) := sorry
theorem dL_errors_88 : decode cL_errors 88 = .ok (.ldc2_w 17, 3) := sorry
theorem dL_errors_91 : decode cL_errors 91 = .ok (.lcmp, 1) := sorry
theorem dL_errors_92 : decode cL_errors 92 = .ok (.ifCond .ne 450, 3) := sorry
theorem dL_errors_95 : decode cL_errors 95 = .ok (.aload_n 0, 1) := sorry
theorem dL_errors_96 : decode cL_errors 96 = .ok (.iload 4, 2) := sorry
theorem dL_errors_98 : decode cL_errors 98 = .ok (.bipush 9, 2) := sorry
theorem dL_errors_100 : decode cL_errors 100 = .ok (.invokestatic 137, 3) := sorry
theorem dL_errors_103 : decode cL_errors 103 = .ok (.ldc2_w 36, 3) := sorry
theorem dL_errors_106 : decode cL_errors 106 = .ok (.lcmp, 1) := sorry
theorem dL_errors_107 : decode cL_errors 107 = .ok (.ifCond .ne 435, 3) := sorry
theorem dL_errors_110 : decode cL_errors 110 = .ok (.aload_n 0, 1) := sorry
theorem dL_errors_111 : decode cL_errors 111 = .ok (.iload 4, 2) := sorry
theorem dL_errors_113 : decode cL_errors 113 = .ok (.iconst (-1), 1) := sorry
theorem dL_errors_114 : decode cL_errors 114 = .ok (.invokestatic 145, 3) := sorry
theorem dL_errors_117 : decode cL_errors 117 = .ok (.ldc2_w 36, 3) := sorry
theorem dL_errors_120 : decode cL_errors 120 = .ok (.lcmp, 1) := sorry
theorem dL_errors_121 : decode cL_errors 121 = .ok (.ifCond .ne 421, 3) := sorry
theorem dL_errors_124 : decode cL_errors 124 = .ok (.aload_n 0, 1) := sorry
theorem dL_errors_125 : decode cL_errors 125 = .ok (.iconst (-1), 1) := sorry
theorem dL_errors_126 : decode cL_errors 126 = .ok (.invokestatic 139, 3) := sorry
theorem dL_errors_129 : decode cL_errors 129 = .ok (.ldc2_w 17, 3) := sorry
theorem dL_errors_132 : decode cL_errors 132 = .ok (.lcmp, 1) := sorry
theorem dL_errors_133 : decode cL_errors 133 = .ok (.ifCond .ne 409, 3) := sorry
theorem dL_errors_136 : decode cL_errors 136 = .ok (.aload_n 0, 1) := sorry
theorem dL_errors_137 : decode cL_errors 137 = .ok (.bipush 6, 2) := sorry
theorem dL_errors_139 : decode cL_errors 139 = .ok (.invokestatic 130, 3) := sorry
theorem dL_errors_142 : decode cL_errors 142 = .ok (.ldc2_w 17, 3) := sorry
theorem dL_errors_145 : decode cL_errors 145 = .ok (.lcmp, 1) := sorry
theorem dL_errors_146 : decode cL_errors 146 = .ok (.ifCond .ne 396, 3) := sorry
theorem dL_errors_149 : decode cL_errors 149 = .ok (.aload_n 0, 1) := sorry
theorem dL_errors_150 : decode cL_errors 150 = .ok (.iconst 4, 1) := sorry
theorem dL_errors_151 : decode cL_errors 151 = .ok (.invokestatic 147, 3) := sorry
theorem dL_errors_154 : decode cL_errors 154 = .ok (.ldc2_w 17, 3) := sorry
theorem dL_errors_157 : decode cL_errors 157 = .ok (.lcmp, 1) := sorry
theorem dL_errors_158 : decode cL_errors 158 = .ok (.ifCond .ne 384, 3) := sorry
theorem dL_errors_161 : decode cL_errors 161 = .ok (.aload_n 0, 1) := sorry
theorem dL_errors_162 : decode cL_errors 162 = .ok (.iconst (-1), 1) := sorry
theorem dL_errors_163 : decode cL_errors 163 = .ok (.invokestatic 147, 3) := sorry
theorem dL_errors_166 : decode cL_errors 166 = .ok (.ldc2_w 17, 3) := sorry
theorem dL_errors_169 : decode cL_errors 169 = .ok (.lcmp, 1) := sorry
theorem dL_errors_170 : decode cL_errors 170 = .ok (.ifCond .ne 372, 3) := sorry
theorem dL_errors_173 : decode cL_errors 173 = .ok (.iload_n 3, 1) := sorry
theorem dL_errors_174 : decode cL_errors 174 = .ok (.bipush 8, 2) := sorry
theorem dL_errors_176 : decode cL_errors 176 = .ok (.if_icmp .lt 15, 3) := sorry
theorem dL_errors_179 : decode cL_errors 179 = .ok (.aload_n 0, 1) := sorry
theorem dL_errors_180 : decode cL_errors 180 = .ok (.iconst 0, 1) := sorry
theorem dL_errors_181 : decode cL_errors 181 = .ok (.invokestatic 147, 3) := sorry
theorem dL_errors_184 : decode cL_errors 184 = .ok (.ldc2_w 21, 3) := sorry
theorem dL_errors_187 : decode cL_errors 187 = .ok (.lcmp, 1) := sorry
theorem dL_errors_188 : decode cL_errors 188 = .ok (.ifCond .ne 354, 3) := sorry
theorem dL_errors_191 : decode cL_errors 191 = .ok (.aload_n 0, 1) := sorry
theorem dL_errors_192 : decode cL_errors 192 = .ok (.iload_n 3, 1) := sorry
theorem dL_errors_193 : decode cL_errors 193 = .ok (.bipush 9, 2) := sorry
theorem dL_errors_195 : decode cL_errors 195 = .ok (.invokestatic 149, 3) := sorry
theorem dL_errors_198 : decode cL_errors 198 = .ok (.ldc2_w 36, 3) := sorry
theorem dL_errors_201 : decode cL_errors 201 = .ok (.lcmp, 1) := sorry
theorem dL_errors_202 : decode cL_errors 202 = .ok (.ifCond .ne 340, 3) := sorry
theorem dL_errors_205 : decode cL_errors 205 = .ok (.aload_n 0, 1) := sorry
theorem dL_errors_206 : decode cL_errors 206 = .ok (.iload_n 3, 1) := sorry
theorem dL_errors_207 : decode cL_errors 207 = .ok (.iconst 0, 1) := sorry
theorem dL_errors_208 : decode cL_errors 208 = .ok (.iconst 1, 1) := sorry
theorem dL_errors_209 : decode cL_errors 209 = .ok (.invokestatic 151, 3) := sorry
theorem dL_errors_212 : decode cL_errors 212 = .ok (.ldc2_w 36, 3) := sorry
theorem dL_errors_215 : decode cL_errors 215 = .ok (.lcmp, 1) := sorry
theorem dL_errors_216 : decode cL_errors 216 = .ok (.ifCond .ne 326, 3) := sorry
theorem dL_errors_219 : decode cL_errors 219 = .ok (.aload_n 0, 1) := sorry
theorem dL_errors_220 : decode cL_errors 220 = .ok (.iconst 0, 1) := sorry
theorem dL_errors_221 : decode cL_errors 221 = .ok (.bipush 10, 2) := sorry
theorem dL_errors_223 : decode cL_errors 223 = .ok (.iconst 1, 1) := sorry
theorem dL_errors_224 : decode cL_errors 224 = .ok (.invokestatic 151, 3) := sorry
theorem dL_errors_227 : decode cL_errors 227 = .ok (.ldc2_w 36, 3) := sorry
theorem dL_errors_230 : decode cL_errors 230 = .ok (.lcmp, 1) := sorry
theorem dL_errors_231 : decode cL_errors 231 = .ok (.ifCond .ne 311, 3) := sorry
theorem dL_errors_234 : decode cL_errors 234 = .ok (.aload_n 0, 1) := sorry
theorem dL_errors_235 : decode cL_errors 235 = .ok (.iload_n 3, 1) := sorry
theorem dL_errors_236 : decode cL_errors 236 = .ok (.iconst 0, 1) := sorry
theorem dL_errors_237 : decode cL_errors 237 = .ok (.iconst 1, 1) := sorry
theorem dL_errors_238 : decode cL_errors 238 = .ok (.invokestatic 154, 3) := sorry
theorem dL_errors_241 : decode cL_errors 241 = .ok (.ldc2_w 36, 3) := sorry
theorem dL_errors_244 : decode cL_errors 244 = .ok (.lcmp, 1) := sorry
theorem dL_errors_245 : decode cL_errors 245 = .ok (.ifCond .ne 297, 3) := sorry
theorem dL_errors_248 : decode cL_errors 248 = .ok (.aload_n 0, 1) := sorry
theorem dL_errors_249 : decode cL_errors 249 = .ok (.iconst 0, 1) := sorry
theorem dL_errors_250 : decode cL_errors 250 = .ok (.iload_n 3, 1) := sorry
theorem dL_errors_251 : decode cL_errors 251 = .ok (.iconst 0, 1) := sorry
theorem dL_errors_252 : decode cL_errors 252 = .ok (.invokestatic 154, 3) := sorry
theorem dL_errors_255 : decode cL_errors 255 = .ok (.ldc2_w 36, 3) := sorry
theorem dL_errors_258 : decode cL_errors 258 = .ok (.lcmp, 1) := sorry
theorem dL_errors_259 : decode cL_errors 259 = .ok (.ifCond .ne 283, 3) := sorry
theorem dL_errors_262 : decode cL_errors 262 = .ok (.aload_n 0, 1) := sorry
theorem dL_errors_263 : decode cL_errors 263 = .ok (.iload_n 3, 1) := sorry
theorem dL_errors_264 : decode cL_errors 264 = .ok (.iconst 0, 1) := sorry
theorem dL_errors_265 : decode cL_errors 265 = .ok (.iconst 0, 1) := sorry
theorem dL_errors_266 : decode cL_errors 266 = .ok (.bipush 9, 2) := sorry
theorem dL_errors_268 : decode cL_errors 268 = .ok (.invokestatic 156, 3) := sorry
theorem dL_errors_271 : decode cL_errors 271 = .ok (.ldc2_w 36, 3) := sorry
theorem dL_errors_274 : decode cL_errors 274 = .ok (.lcmp, 1) := sorry
theorem dL_errors_275 : decode cL_errors 275 = .ok (.ifCond .ne 267, 3) := sorry
theorem dL_errors_278 : decode cL_errors 278 = .ok (.aload_n 0, 1) := sorry
theorem dL_errors_279 : decode cL_errors 279 = .ok (.iconst 0, 1) := sorry
theorem dL_errors_280 : decode cL_errors 280 = .ok (.bipush 10, 2) := sorry
theorem dL_errors_282 : decode cL_errors 282 = .ok (.iconst 0, 1) := sorry
theorem dL_errors_283 : decode cL_errors 283 = .ok (.bipush 9, 2) := sorry
theorem dL_errors_285 : decode cL_errors 285 = .ok (.invokestatic 156, 3) := sorry
theorem dL_errors_288 : decode cL_errors 288 = .ok (.ldc2_w 36, 3) := sorry
theorem dL_errors_291 : decode cL_errors 291 = .ok (.lcmp, 1) := sorry
theorem dL_errors_292 : decode cL_errors 292 = .ok (.ifCond .ne 250, 3) := sorry
theorem dL_errors_295 : decode cL_errors 295 = .ok (.aload_n 0, 1) := sorry
theorem dL_errors_296 : decode cL_errors 296 = .ok (.iload 4, 2) := sorry
theorem dL_errors_298 : decode cL_errors 298 = .ok (.invokestatic 159, 3) := sorry
theorem dL_errors_301 : decode cL_errors 301 = .ok (.ldc2_w 36, 3) := sorry
theorem dL_errors_304 : decode cL_errors 304 = .ok (.lcmp, 1) := sorry
theorem dL_errors_305 : decode cL_errors 305 = .ok (.ifCond .ne 237, 3) := sorry
theorem dL_errors_308 : decode cL_errors 308 = .ok (.aload_n 0, 1) := sorry
theorem dL_errors_309 : decode cL_errors 309 = .ok (.iconst (-1), 1) := sorry
theorem dL_errors_310 : decode cL_errors 310 = .ok (.invokestatic 159, 3) := sorry
theorem dL_errors_313 : decode cL_errors 313 = .ok (.ldc2_w 36, 3) := sorry
theorem dL_errors_316 : decode cL_errors 316 = .ok (.lcmp, 1) := sorry
theorem dL_errors_317 : decode cL_errors 317 = .ok (.ifCond .ne 225, 3) := sorry
theorem dL_errors_320 : decode cL_errors 320 = .ok (.aload_n 0, 1) := sorry
theorem dL_errors_321 : decode cL_errors 321 = .ok (.iload 4, 2) := sorry
theorem dL_errors_323 : decode cL_errors 323 = .ok (.bipush 60, 2) := sorry
theorem dL_errors_325 : decode cL_errors 325 = .ok (.invokestatic 161, 3) := sorry
theorem dL_errors_328 : decode cL_errors 328 = .ok (.ldc2_w 36, 3) := sorry
theorem dL_errors_331 : decode cL_errors 331 = .ok (.lcmp, 1) := sorry
theorem dL_errors_332 : decode cL_errors 332 = .ok (.ifCond .ne 210, 3) := sorry
theorem dL_errors_335 : decode cL_errors 335 = .ok (.aload_n 0, 1) := sorry
theorem dL_errors_336 : decode cL_errors 336 = .ok (.bipush 10, 2) := sorry
theorem dL_errors_338 : decode cL_errors 338 = .ok (.iconst 1, 1) := sorry
theorem dL_errors_339 : decode cL_errors 339 = .ok (.invokestatic 163, 3) := sorry
theorem dL_errors_342 : decode cL_errors 342 = .ok (.ldc2_w 36, 3) := sorry
theorem dL_errors_345 : decode cL_errors 345 = .ok (.lcmp, 1) := sorry
theorem dL_errors_346 : decode cL_errors 346 = .ok (.ifCond .ne 196, 3) := sorry
theorem dL_errors_349 : decode cL_errors 349 = .ok (.aload_n 0, 1) := sorry
theorem dL_errors_350 : decode cL_errors 350 = .ok (.iload_n 3, 1) := sorry
theorem dL_errors_351 : decode cL_errors 351 = .ok (.bipush 100, 2) := sorry
theorem dL_errors_353 : decode cL_errors 353 = .ok (.invokestatic 167, 3) := sorry
theorem dL_errors_356 : decode cL_errors 356 = .ok (.ldc2_w 36, 3) := sorry
theorem dL_errors_359 : decode cL_errors 359 = .ok (.lcmp, 1) := sorry
theorem dL_errors_360 : decode cL_errors 360 = .ok (.ifCond .ne 182, 3) := sorry
theorem dL_errors_363 : decode cL_errors 363 = .ok (.aload_n 0, 1) := sorry
theorem dL_errors_364 : decode cL_errors 364 = .ok (.iload_n 3, 1) := sorry
theorem dL_errors_365 : decode cL_errors 365 = .ok (.iconst 0, 1) := sorry
theorem dL_errors_366 : decode cL_errors 366 = .ok (.invokestatic 169, 3) := sorry
theorem dL_errors_369 : decode cL_errors 369 = .ok (.ldc2_w 36, 3) := sorry
theorem dL_errors_372 : decode cL_errors 372 = .ok (.lcmp, 1) := sorry
theorem dL_errors_373 : decode cL_errors 373 = .ok (.ifCond .ne 169, 3) := sorry
theorem dL_errors_376 : decode cL_errors 376 = .ok (.aload_n 0, 1) := sorry
theorem dL_errors_377 : decode cL_errors 377 = .ok (.iconst 0, 1) := sorry
theorem dL_errors_378 : decode cL_errors 378 = .ok (.invokestatic 171, 3) := sorry
theorem dL_errors_381 : decode cL_errors 381 = .ok (.ldc2_w 17, 3) := sorry
theorem dL_errors_384 : decode cL_errors 384 = .ok (.lcmp, 1) := sorry
theorem dL_errors_385 : decode cL_errors 385 = .ok (.ifCond .ne 157, 3) := sorry
theorem dL_errors_388 : decode cL_errors 388 = .ok (.aload_n 0, 1) := sorry
theorem dL_errors_389 : decode cL_errors 389 = .ok (.bipush 31, 2) := sorry
theorem dL_errors_391 : decode cL_errors 391 = .ok (.invokestatic 171, 3) := sorry
theorem dL_errors_394 : decode cL_errors 394 = .ok (.ldc2_w 17, 3) := sorry
theorem dL_errors_397 : decode cL_errors 397 = .ok (.lcmp, 1) := sorry
theorem dL_errors_398 : decode cL_errors 398 = .ok (.ifCond .ne 144, 3) := sorry
theorem dL_errors_401 : decode cL_errors 401 = .ok (.aload_n 0, 1) := sorry
theorem dL_errors_402 : decode cL_errors 402 = .ok (.iconst 0, 1) := sorry
theorem dL_errors_403 : decode cL_errors 403 = .ok (.iconst 0, 1) := sorry
theorem dL_errors_404 : decode cL_errors 404 = .ok (.invokestatic 173, 3) := sorry
theorem dL_errors_407 : decode cL_errors 407 = .ok (.ldc2_w 17, 3) := sorry
theorem dL_errors_410 : decode cL_errors 410 = .ok (.lcmp, 1) := sorry
theorem dL_errors_411 : decode cL_errors 411 = .ok (.ifCond .ne 131, 3) := sorry
theorem dL_errors_414 : decode cL_errors 414 = .ok (.aload_n 0, 1) := sorry
theorem dL_errors_415 : decode cL_errors 415 = .ok (.iconst 1, 1) := sorry
theorem dL_errors_416 : decode cL_errors 416 = .ok (.bipush 10, 2) := sorry
theorem dL_errors_418 : decode cL_errors 418 = .ok (.invokestatic 173, 3) := sorry
theorem dL_errors_421 : decode cL_errors 421 = .ok (.ldc2_w 17, 3) := sorry
theorem dL_errors_424 : decode cL_errors 424 = .ok (.lcmp, 1) := sorry
theorem dL_errors_425 : decode cL_errors 425 = .ok (.ifCond .ne 117, 3) := sorry
theorem dL_errors_428 : decode cL_errors 428 = .ok (.aload_n 0, 1) := sorry
theorem dL_errors_429 : decode cL_errors 429 = .ok (.iconst 4, 1) := sorry
theorem dL_errors_430 : decode cL_errors 430 = .ok (.bipush 60, 2) := sorry
theorem dL_errors_432 : decode cL_errors 432 = .ok (.invokestatic 173, 3) := sorry
theorem dL_errors_435 : decode cL_errors 435 = .ok (.ldc2_w 17, 3) := sorry
theorem dL_errors_438 : decode cL_errors 438 = .ok (.lcmp, 1) := sorry
theorem dL_errors_439 : decode cL_errors 439 = .ok (.ifCond .ne 103, 3) := sorry
theorem dL_errors_442 : decode cL_errors 442 = .ok (.aload_n 0, 1) := sorry
theorem dL_errors_443 : decode cL_errors 443 = .ok (.iconst 5, 1) := sorry
theorem dL_errors_444 : decode cL_errors 444 = .ok (.bipush 100, 2) := sorry
theorem dL_errors_446 : decode cL_errors 446 = .ok (.invokestatic 173, 3) := sorry
theorem dL_errors_449 : decode cL_errors 449 = .ok (.ldc2_w 17, 3) := sorry
theorem dL_errors_452 : decode cL_errors 452 = .ok (.lcmp, 1) := sorry
theorem dL_errors_453 : decode cL_errors 453 = .ok (.ifCond .ne 89, 3) := sorry
theorem dL_errors_456 : decode cL_errors 456 = .ok (.aload_n 0, 1) := sorry
theorem dL_errors_457 : decode cL_errors 457 = .ok (.bipush 6, 2) := sorry
theorem dL_errors_459 : decode cL_errors 459 = .ok (.iconst 1, 1) := sorry
theorem dL_errors_460 : decode cL_errors 460 = .ok (.invokestatic 173, 3) := sorry
theorem dL_errors_463 : decode cL_errors 463 = .ok (.ldc2_w 17, 3) := sorry
theorem dL_errors_466 : decode cL_errors 466 = .ok (.lcmp, 1) := sorry
theorem dL_errors_467 : decode cL_errors 467 = .ok (.ifCond .ne 75, 3) := sorry
theorem dL_errors_470 : decode cL_errors 470 = .ok (.aload_n 0, 1) := sorry
theorem dL_errors_471 : decode cL_errors 471 = .ok (.iload_n 3, 1) := sorry
theorem dL_errors_472 : decode cL_errors 472 = .ok (.iconst 0, 1) := sorry
theorem dL_errors_473 : decode cL_errors 473 = .ok (.iconst 0, 1) := sorry
theorem dL_errors_474 : decode cL_errors 474 = .ok (.bipush 9, 2) := sorry
theorem dL_errors_476 : decode cL_errors 476 = .ok (.invokestatic 175, 3) := sorry
theorem dL_errors_479 : decode cL_errors 479 = .ok (.ldc2_w 36, 3) := sorry
theorem dL_errors_482 : decode cL_errors 482 = .ok (.lcmp, 1) := sorry
theorem dL_errors_483 : decode cL_errors 483 = .ok (.ifCond .ne 59, 3) := sorry
theorem dL_errors_486 : decode cL_errors 486 = .ok (.aload_n 0, 1) := sorry
theorem dL_errors_487 : decode cL_errors 487 = .ok (.iload_n 3, 1) := sorry
theorem dL_errors_488 : decode cL_errors 488 = .ok (.iconst 0, 1) := sorry
theorem dL_errors_489 : decode cL_errors 489 = .ok (.invokestatic 177, 3) := sorry
theorem dL_errors_492 : decode cL_errors 492 = .ok (.ldc2_w 36, 3) := sorry
theorem dL_errors_495 : decode cL_errors 495 = .ok (.lcmp, 1) := sorry
theorem dL_errors_496 : decode cL_errors 496 = .ok (.ifCond .ne 46, 3) := sorry
theorem dL_errors_499 : decode cL_errors 499 = .ok (.aload_n 0, 1) := sorry
theorem dL_errors_500 : decode cL_errors 500 = .ok (.iconst 0, 1) := sorry
theorem dL_errors_501 : decode cL_errors 501 = .ok (.iconst 0, 1) := sorry
theorem dL_errors_502 : decode cL_errors 502 = .ok (.invokestatic 179, 3) := sorry
theorem dL_errors_505 : decode cL_errors 505 = .ok (.ldc2_w 17, 3) := sorry
theorem dL_errors_508 : decode cL_errors 508 = .ok (.lcmp, 1) := sorry
theorem dL_errors_509 : decode cL_errors 509 = .ok (.ifCond .ne 33, 3) := sorry
theorem dL_errors_512 : decode cL_errors 512 = .ok (.aload_n 0, 1) := sorry
theorem dL_errors_513 : decode cL_errors 513 = .ok (.iconst 5, 1) := sorry
theorem dL_errors_514 : decode cL_errors 514 = .ok (.iconst 5, 1) := sorry
theorem dL_errors_515 : decode cL_errors 515 = .ok (.invokestatic 179, 3) := sorry
theorem dL_errors_518 : decode cL_errors 518 = .ok (.ldc2_w 17, 3) := sorry
theorem dL_errors_521 : decode cL_errors 521 = .ok (.lcmp, 1) := sorry
theorem dL_errors_522 : decode cL_errors 522 = .ok (.ifCond .ne 20, 3) := sorry
theorem dL_errors_525 : decode cL_errors 525 = .ok (.aload_n 0, 1) := sorry
theorem dL_errors_526 : decode cL_errors 526 = .ok (.iload 4, 2) := sorry
theorem dL_errors_528 : decode cL_errors 528 = .ok (.invokestatic 181, 3) := sorry
theorem dL_errors_531 : decode cL_errors 531 = .ok (.ldc2_w 36, 3) := sorry
theorem dL_errors_534 : decode cL_errors 534 = .ok (.lcmp, 1) := sorry
theorem dL_errors_535 : decode cL_errors 535 = .ok (.ifCond .ne 7, 3) := sorry
theorem dL_errors_538 : decode cL_errors 538 = .ok (.iconst 1, 1) := sorry
theorem dL_errors_539 : decode cL_errors 539 = .ok (.goto 4, 3) := sorry
theorem dL_errors_542 : decode cL_errors 542 = .ok (.iconst 0, 1) := sorry
theorem dL_errors_543 : decode cL_errors 543 = .ok (.istore 6, 2) := sorry
theorem dL_errors_545 : decode cL_errors 545 = .ok (.iconst 0, 1) := sorry
theorem dL_errors_546 : decode cL_errors 546 = .ok (.istore 7, 2) := sorry
theorem dL_errors_548 : decode cL_errors 548 = .ok (.iload 7, 2) := sorry
theorem dL_errors_550 : decode cL_errors 550 = .ok (.iload_n 3, 1) := sorry
theorem dL_errors_551 : decode cL_errors 551 = .ok (.if_icmp .ge 264, 3) := sorry
theorem dL_errors_554 : decode cL_errors 554 = .ok (.iload 6, 2) := sorry
theorem dL_errors_556 : decode cL_errors 556 = .ok (.ifCond .eq 259, 3) := sorry
theorem dL_errors_559 : decode cL_errors 559 = .ok (.aload_n 0, 1) := sorry
theorem dL_errors_560 : decode cL_errors 560 = .ok (.iload 7, 2) := sorry
theorem dL_errors_562 : decode cL_errors 562 = .ok (.bipush 8, 2) := sorry
theorem dL_errors_564 : decode cL_errors 564 = .ok (.invokestatic 132, 3) := sorry
theorem dL_errors_567 : decode cL_errors 567 = .ok (.ldc2_w 17, 3) := sorry
theorem dL_errors_570 : decode cL_errors 570 = .ok (.lcmp, 1) := sorry
theorem dL_errors_571 : decode cL_errors 571 = .ok (.ifCond .ne 106, 3) := sorry
theorem dL_errors_574 : decode cL_errors 574 = .ok (.aload_n 0, 1) := sorry
theorem dL_errors_575 : decode cL_errors 575 = .ok (.iload 7, 2) := sorry
theorem dL_errors_577 : decode cL_errors 577 = .ok (.iconst 4, 1) := sorry
theorem dL_errors_578 : decode cL_errors 578 = .ok (.invokestatic 149, 3) := sorry
theorem dL_errors_581 : decode cL_errors 581 = .ok (.ldc2_w 17, 3) := sorry
theorem dL_errors_584 : decode cL_errors 584 = .ok (.lcmp, 1) := sorry
theorem dL_errors_585 : decode cL_errors 585 = .ok (.ifCond .ne 92, 3) := sorry
theorem dL_errors_588 : decode cL_errors 588 = .ok (.aload_n 0, 1) := sorry
theorem dL_errors_589 : decode cL_errors 589 = .ok (.iload 7, 2) := sorry
theorem dL_errors_591 : decode cL_errors 591 = .ok (.iload 7, 2) := sorry
theorem dL_errors_593 : decode cL_errors 593 = .ok (.iconst 1, 1) := sorry
theorem dL_errors_594 : decode cL_errors 594 = .ok (.invokestatic 154, 3) := sorry
theorem dL_errors_597 : decode cL_errors 597 = .ok (.ldc2_w 21, 3) := sorry
theorem dL_errors_600 : decode cL_errors 600 = .ok (.lcmp, 1) := sorry
theorem dL_errors_601 : decode cL_errors 601 = .ok (.ifCond .ne 76, 3) := sorry
theorem dL_errors_604 : decode cL_errors 604 = .ok (.aload_n 0, 1) := sorry
theorem dL_errors_605 : decode cL_errors 605 = .ok (.iload 7, 2) := sorry
theorem dL_errors_607 : decode cL_errors 607 = .ok (.iconst 0, 1) := sorry
theorem dL_errors_608 : decode cL_errors 608 = .ok (.iload 5, 2) := sorry
theorem dL_errors_610 : decode cL_errors 610 = .ok (.iconst 1, 1) := sorry
theorem dL_errors_611 : decode cL_errors 611 = .ok (.isub, 1) := sorry
theorem dL_errors_612 : decode cL_errors 612 = .ok (.iconst 0, 1) := sorry
theorem dL_errors_613 : decode cL_errors 613 = .ok (.invokestatic 156, 3) := sorry
theorem dL_errors_616 : decode cL_errors 616 = .ok (.ldc2_w 17, 3) := sorry
theorem dL_errors_619 : decode cL_errors 619 = .ok (.lcmp, 1) := sorry
theorem dL_errors_620 : decode cL_errors 620 = .ok (.ifCond .ne 57, 3) := sorry
theorem dL_errors_623 : decode cL_errors 623 = .ok (.aload_n 0, 1) := sorry
theorem dL_errors_624 : decode cL_errors 624 = .ok (.iload 7, 2) := sorry
theorem dL_errors_626 : decode cL_errors 626 = .ok (.iconst 0, 1) := sorry
theorem dL_errors_627 : decode cL_errors 627 = .ok (.iload 5, 2) := sorry
theorem dL_errors_629 : decode cL_errors 629 = .ok (.bipush 8, 2) := sorry
theorem dL_errors_631 : decode cL_errors 631 = .ok (.invokestatic 156, 3) := sorry
theorem dL_errors_634 : decode cL_errors 634 = .ok (.ldc2_w 17, 3) := sorry
theorem dL_errors_637 : decode cL_errors 637 = .ok (.lcmp, 1) := sorry
theorem dL_errors_638 : decode cL_errors 638 = .ok (.ifCond .ne 39, 3) := sorry
theorem dL_errors_641 : decode cL_errors 641 = .ok (.aload_n 0, 1) := sorry
theorem dL_errors_642 : decode cL_errors 642 = .ok (.iload 7, 2) := sorry
theorem dL_errors_644 : decode cL_errors 644 = .ok (.iconst 0, 1) := sorry
theorem dL_errors_645 : decode cL_errors 645 = .ok (.sipush 10000, 3) := sorry
theorem dL_errors_648 : decode cL_errors 648 = .ok (.iconst 0, 1) := sorry
theorem dL_errors_649 : decode cL_errors 649 = .ok (.invokestatic 175, 3) := sorry
theorem dL_errors_652 : decode cL_errors 652 = .ok (.ldc2_w 17, 3) := sorry
theorem dL_errors_655 : decode cL_errors 655 = .ok (.lcmp, 1) := sorry
theorem dL_errors_656 : decode cL_errors 656 = .ok (.ifCond .ne 21, 3) := sorry
theorem dL_errors_659 : decode cL_errors 659 = .ok (.aload_n 0, 1) := sorry
theorem dL_errors_660 : decode cL_errors 660 = .ok (.iload 7, 2) := sorry
theorem dL_errors_662 : decode cL_errors 662 = .ok (.iconst (-1), 1) := sorry
theorem dL_errors_663 : decode cL_errors 663 = .ok (.invokestatic 167, 3) := sorry
theorem dL_errors_666 : decode cL_errors 666 = .ok (.ldc2_w 17, 3) := sorry
theorem dL_errors_669 : decode cL_errors 669 = .ok (.lcmp, 1) := sorry
theorem dL_errors_670 : decode cL_errors 670 = .ok (.ifCond .ne 7, 3) := sorry
theorem dL_errors_673 : decode cL_errors 673 = .ok (.iconst 1, 1) := sorry
theorem dL_errors_674 : decode cL_errors 674 = .ok (.goto 4, 3) := sorry
theorem dL_errors_677 : decode cL_errors 677 = .ok (.iconst 0, 1) := sorry
theorem dL_errors_678 : decode cL_errors 678 = .ok (.istore 6, 2) := sorry
theorem dL_errors_680 : decode cL_errors 680 = .ok (.iconst 0, 1) := sorry
theorem dL_errors_681 : decode cL_errors 681 = .ok (.istore 8, 2) := sorry
theorem dL_errors_683 : decode cL_errors 683 = .ok (.iload 8, 2) := sorry
theorem dL_errors_685 : decode cL_errors 685 = .ok (.bipush 10, 2) := sorry
theorem dL_errors_687 : decode cL_errors 687 = .ok (.if_icmp .ge 122, 3) := sorry
theorem dL_errors_690 : decode cL_errors 690 = .ok (.iload 6, 2) := sorry
theorem dL_errors_692 : decode cL_errors 692 = .ok (.ifCond .eq 117, 3) := sorry
theorem dL_errors_695 : decode cL_errors 695 = .ok (.aload_n 0, 1) := sorry
theorem dL_errors_696 : decode cL_errors 696 = .ok (.iload 7, 2) := sorry
theorem dL_errors_698 : decode cL_errors 698 = .ok (.iconst 1, 1) := sorry
theorem dL_errors_699 : decode cL_errors 699 = .ok (.invokestatic 132, 3) := sorry
theorem dL_errors_702 : decode cL_errors 702 = .ok (.iload 8, 2) := sorry
theorem dL_errors_704 : decode cL_errors 704 = .ok (.lshr, 1) := sorry
theorem dL_errors_705 : decode cL_errors 705 = .ok (.lconst 1, 1) := sorry
theorem dL_errors_706 : decode cL_errors 706 = .ok (.land, 1) := sorry
theorem dL_errors_707 : decode cL_errors 707 = .ok (.lconst 1, 1) := sorry
theorem dL_errors_708 : decode cL_errors 708 = .ok (.lcmp, 1) := sorry
theorem dL_errors_709 : decode cL_errors 709 = .ok (.ifCond .ne 7, 3) := sorry
theorem dL_errors_712 : decode cL_errors 712 = .ok (.iconst 1, 1) := sorry
theorem dL_errors_713 : decode cL_errors 713 = .ok (.goto 4, 3) := sorry
theorem dL_errors_716 : decode cL_errors 716 = .ok (.iconst 0, 1) := sorry
theorem dL_errors_717 : decode cL_errors 717 = .ok (.istore 9, 2) := sorry
theorem dL_errors_719 : decode cL_errors 719 = .ok (.iload 9, 2) := sorry
theorem dL_errors_721 : decode cL_errors 721 = .ok (.ifCond .ne 75, 3) := sorry
theorem dL_errors_724 : decode cL_errors 724 = .ok (.aload_n 0, 1) := sorry
theorem dL_errors_725 : decode cL_errors 725 = .ok (.iload 7, 2) := sorry
theorem dL_errors_727 : decode cL_errors 727 = .ok (.iload 8, 2) := sorry
theorem dL_errors_729 : decode cL_errors 729 = .ok (.invokestatic 169, 3) := sorry
theorem dL_errors_732 : decode cL_errors 732 = .ok (.ldc2_w 21, 3) := sorry
theorem dL_errors_735 : decode cL_errors 735 = .ok (.lcmp, 1) := sorry
theorem dL_errors_736 : decode cL_errors 736 = .ok (.ifCond .ne 64, 3) := sorry
theorem dL_errors_739 : decode cL_errors 739 = .ok (.aload_n 0, 1) := sorry
theorem dL_errors_740 : decode cL_errors 740 = .ok (.iload 7, 2) := sorry
theorem dL_errors_742 : decode cL_errors 742 = .ok (.iload 8, 2) := sorry
theorem dL_errors_744 : decode cL_errors 744 = .ok (.iload 5, 2) := sorry
theorem dL_errors_746 : decode cL_errors 746 = .ok (.iload 8, 2) := sorry
theorem dL_errors_748 : decode cL_errors 748 = .ok (.bipush 8, 2) := sorry
theorem dL_errors_750 : decode cL_errors 750 = .ok (.irem, 1) := sorry
theorem dL_errors_751 : decode cL_errors 751 = .ok (.invokestatic 175, 3) := sorry
theorem dL_errors_754 : decode cL_errors 754 = .ok (.lconst 1, 1) := sorry
theorem dL_errors_755 : decode cL_errors 755 = .ok (.lcmp, 1) := sorry
theorem dL_errors_756 : decode cL_errors 756 = .ok (.ifCond .ne 44, 3) := sorry
theorem dL_errors_759 : decode cL_errors 759 = .ok (.aload_n 0, 1) := sorry
theorem dL_errors_760 : decode cL_errors 760 = .ok (.iload 7, 2) := sorry
theorem dL_errors_762 : decode cL_errors 762 = .ok (.iload 8, 2) := sorry
theorem dL_errors_764 : decode cL_errors 764 = .ok (.iload 5, 2) := sorry
theorem dL_errors_766 : decode cL_errors 766 = .ok (.iload 8, 2) := sorry
theorem dL_errors_768 : decode cL_errors 768 = .ok (.bipush 8, 2) := sorry
theorem dL_errors_770 : decode cL_errors 770 = .ok (.irem, 1) := sorry
theorem dL_errors_771 : decode cL_errors 771 = .ok (.invokestatic 156, 3) := sorry
theorem dL_errors_774 : decode cL_errors 774 = .ok (.ldc2_w 21, 3) := sorry
theorem dL_errors_777 : decode cL_errors 777 = .ok (.lcmp, 1) := sorry
theorem dL_errors_778 : decode cL_errors 778 = .ok (.ifCond .ne 22, 3) := sorry
theorem dL_errors_781 : decode cL_errors 781 = .ok (.aload_n 0, 1) := sorry
theorem dL_errors_782 : decode cL_errors 782 = .ok (.iload 7, 2) := sorry
theorem dL_errors_784 : decode cL_errors 784 = .ok (.iload 8, 2) := sorry
theorem dL_errors_786 : decode cL_errors 786 = .ok (.invokestatic 177, 3) := sorry
theorem dL_errors_789 : decode cL_errors 789 = .ok (.ldc2_w 183, 3) := sorry
theorem dL_errors_792 : decode cL_errors 792 = .ok (.lcmp, 1) := sorry
theorem dL_errors_793 : decode cL_errors 793 = .ok (.ifCond .ne 7, 3) := sorry
theorem dL_errors_796 : decode cL_errors 796 = .ok (.iconst 1, 1) := sorry
theorem dL_errors_797 : decode cL_errors 797 = .ok (.goto 4, 3) := sorry
theorem dL_errors_800 : decode cL_errors 800 = .ok (.iconst 0, 1) := sorry
theorem dL_errors_801 : decode cL_errors 801 = .ok (.istore 6, 2) := sorry
theorem dL_errors_803 : decode cL_errors 803 = .ok (.iinc 8 1, 3) := sorry
theorem dL_errors_806 : decode cL_errors 806 = .ok (.goto (-123), 3) := sorry
theorem dL_errors_809 : decode cL_errors 809 = .ok (.iinc 7 1, 3) := sorry
theorem dL_errors_812 : decode cL_errors 812 = .ok (.goto (-264), 3) := sorry
theorem dL_errors_815 : decode cL_errors 815 = .ok (.iconst 0, 1) := sorry
theorem dL_errors_816 : decode cL_errors 816 = .ok (.istore 7, 2) := sorry
theorem dL_errors_818 : decode cL_errors 818 = .ok (.iload 7, 2) := sorry
theorem dL_errors_820 : decode cL_errors 820 = .ok (.iload 4, 2) := sorry
theorem dL_errors_822 : decode cL_errors 822 = .ok (.if_icmp .ge 96, 3) := sorry
theorem dL_errors_825 : decode cL_errors 825 = .ok (.iload 6, 2) := sorry
theorem dL_errors_827 : decode cL_errors 827 = .ok (.ifCond .eq 91, 3) := sorry
theorem dL_errors_830 : decode cL_errors 830 = .ok (.aload_n 0, 1) := sorry
theorem dL_errors_831 : decode cL_errors 831 = .ok (.iload 7, 2) := sorry
theorem dL_errors_833 : decode cL_errors 833 = .ok (.bipush 6, 2) := sorry
theorem dL_errors_835 : decode cL_errors 835 = .ok (.invokestatic 137, 3) := sorry
theorem dL_errors_838 : decode cL_errors 838 = .ok (.ldc2_w 17, 3) := sorry
theorem dL_errors_841 : decode cL_errors 841 = .ok (.lcmp, 1) := sorry
theorem dL_errors_842 : decode cL_errors 842 = .ok (.ifCond .ne 67, 3) := sorry
theorem dL_errors_845 : decode cL_errors 845 = .ok (.aload_n 0, 1) := sorry
theorem dL_errors_846 : decode cL_errors 846 = .ok (.iload 7, 2) := sorry
theorem dL_errors_848 : decode cL_errors 848 = .ok (.bipush 60, 2) := sorry
theorem dL_errors_850 : decode cL_errors 850 = .ok (.invokestatic 161, 3) := sorry
theorem dL_errors_853 : decode cL_errors 853 = .ok (.ldc2_w 17, 3) := sorry
theorem dL_errors_856 : decode cL_errors 856 = .ok (.lcmp, 1) := sorry
theorem dL_errors_857 : decode cL_errors 857 = .ok (.ifCond .ne 52, 3) := sorry
theorem dL_errors_860 : decode cL_errors 860 = .ok (.aload_n 0, 1) := sorry
theorem dL_errors_861 : decode cL_errors 861 = .ok (.iload 7, 2) := sorry
theorem dL_errors_863 : decode cL_errors 863 = .ok (.iconst (-1), 1) := sorry
theorem dL_errors_864 : decode cL_errors 864 = .ok (.invokestatic 145, 3) := sorry
theorem dL_errors_867 : decode cL_errors 867 = .ok (.ldc2_w 17, 3) := sorry
theorem dL_errors_870 : decode cL_errors 870 = .ok (.lcmp, 1) := sorry
theorem dL_errors_871 : decode cL_errors 871 = .ok (.ifCond .ne 38, 3) := sorry
theorem dL_errors_874 : decode cL_errors 874 = .ok (.aload_n 0, 1) := sorry
theorem dL_errors_875 : decode cL_errors 875 = .ok (.iload 7, 2) := sorry
theorem dL_errors_877 : decode cL_errors 877 = .ok (.iconst 0, 1) := sorry
theorem dL_errors_878 : decode cL_errors 878 = .ok (.invokestatic 137, 3) := sorry
theorem dL_errors_881 : decode cL_errors 881 = .ok (.iload 5, 2) := sorry
theorem dL_errors_883 : decode cL_errors 883 = .ok (.i2l, 1) := sorry
theorem dL_errors_884 : decode cL_errors 884 = .ok (.ldc2_w 185, 3) := sorry
theorem dL_errors_887 : decode cL_errors 887 = .ok (.ladd, 1) := sorry
theorem dL_errors_888 : decode cL_errors 888 = .ok (.lcmp, 1) := sorry
theorem dL_errors_889 : decode cL_errors 889 = .ok (.ifCond .le 16, 3) := sorry
theorem dL_errors_892 : decode cL_errors 892 = .ok (.aload_n 0, 1) := sorry
theorem dL_errors_893 : decode cL_errors 893 = .ok (.iload 7, 2) := sorry
theorem dL_errors_895 : decode cL_errors 895 = .ok (.invokestatic 181, 3) := sorry
theorem dL_errors_898 : decode cL_errors 898 = .ok (.ldc2_w 21, 3) := sorry
theorem dL_errors_901 : decode cL_errors 901 = .ok (.lcmp, 1) := sorry
theorem dL_errors_902 : decode cL_errors 902 = .ok (.ifCond .ne 7, 3) := sorry
theorem dL_errors_905 : decode cL_errors 905 = .ok (.iconst 1, 1) := sorry
theorem dL_errors_906 : decode cL_errors 906 = .ok (.goto 4, 3) := sorry
theorem dL_errors_909 : decode cL_errors 909 = .ok (.iconst 0, 1) := sorry
theorem dL_errors_910 : decode cL_errors 910 = .ok (.istore 6, 2) := sorry
theorem dL_errors_912 : decode cL_errors 912 = .ok (.iinc 7 1, 3) := sorry
theorem dL_errors_915 : decode cL_errors 915 = .ok (.goto (-97), 3) := sorry
theorem dL_errors_918 : decode cL_errors 918 = .ok (.iload 6, 2) := sorry
theorem dL_errors_920 : decode cL_errors 920 = .ok (.ifCond .eq 93, 3) := sorry
theorem dL_errors_923 : decode cL_errors 923 = .ok (.aload_n 0, 1) := sorry
theorem dL_errors_924 : decode cL_errors 924 = .ok (.iconst 0, 1) := sorry
theorem dL_errors_925 : decode cL_errors 925 = .ok (.lconst 0, 1) := sorry
theorem dL_errors_926 : decode cL_errors 926 = .ok (.invokestatic 187, 3) := sorry
theorem dL_errors_929 : decode cL_errors 929 = .ok (.ldc2_w 17, 3) := sorry
theorem dL_errors_932 : decode cL_errors 932 = .ok (.lcmp, 1) := sorry
theorem dL_errors_933 : decode cL_errors 933 = .ok (.ifCond .ne 80, 3) := sorry
theorem dL_errors_936 : decode cL_errors 936 = .ok (.aload_n 0, 1) := sorry
theorem dL_errors_937 : decode cL_errors 937 = .ok (.iconst 3, 1) := sorry
theorem dL_errors_938 : decode cL_errors 938 = .ok (.ldc2_w 191, 3) := sorry
theorem dL_errors_941 : decode cL_errors 941 = .ok (.invokestatic 187, 3) := sorry
theorem dL_errors_944 : decode cL_errors 944 = .ok (.ldc2_w 17, 3) := sorry
theorem dL_errors_947 : decode cL_errors 947 = .ok (.lcmp, 1) := sorry
theorem dL_errors_948 : decode cL_errors 948 = .ok (.ifCond .ne 65, 3) := sorry
theorem dL_errors_951 : decode cL_errors 951 = .ok (.aload_n 0, 1) := sorry
theorem dL_errors_952 : decode cL_errors 952 = .ok (.lconst 1, 1) := sorry
theorem dL_errors_953 : decode cL_errors 953 = .ok (.iconst 0, 1) := sorry
theorem dL_errors_954 : decode cL_errors 954 = .ok (.invokestatic 193, 3) := sorry
theorem dL_errors_957 : decode cL_errors 957 = .ok (.ldc2_w 17, 3) := sorry
theorem dL_errors_960 : decode cL_errors 960 = .ok (.lcmp, 1) := sorry
theorem dL_errors_961 : decode cL_errors 961 = .ok (.ifCond .ne 52, 3) := sorry
theorem dL_errors_964 : decode cL_errors 964 = .ok (.aload_n 0, 1) := sorry
theorem dL_errors_965 : decode cL_errors 965 = .ok (.iconst 2, 1) := sorry
theorem dL_errors_966 : decode cL_errors 966 = .ok (.invokestatic 196, 3) := sorry
theorem dL_errors_969 : decode cL_errors 969 = .ok (.ldc2_w 36, 3) := sorry
theorem dL_errors_972 : decode cL_errors 972 = .ok (.lcmp, 1) := sorry
theorem dL_errors_973 : decode cL_errors 973 = .ok (.ifCond .ne 40, 3) := sorry
theorem dL_errors_976 : decode cL_errors 976 = .ok (.aload_n 0, 1) := sorry
theorem dL_errors_977 : decode cL_errors 977 = .ok (.iconst 2, 1) := sorry
theorem dL_errors_978 : decode cL_errors 978 = .ok (.invokestatic 198, 3) := sorry
theorem dL_errors_981 : decode cL_errors 981 = .ok (.ldc2_w 36, 3) := sorry
theorem dL_errors_984 : decode cL_errors 984 = .ok (.lcmp, 1) := sorry
theorem dL_errors_985 : decode cL_errors 985 = .ok (.ifCond .ne 28, 3) := sorry
theorem dL_errors_988 : decode cL_errors 988 = .ok (.aload_n 0, 1) := sorry
theorem dL_errors_989 : decode cL_errors 989 = .ok (.iconst (-1), 1) := sorry
theorem dL_errors_990 : decode cL_errors 990 = .ok (.invokestatic 200, 3) := sorry
theorem dL_errors_993 : decode cL_errors 993 = .ok (.ldc2_w 17, 3) := sorry
theorem dL_errors_996 : decode cL_errors 996 = .ok (.lcmp, 1) := sorry
theorem dL_errors_997 : decode cL_errors 997 = .ok (.ifCond .ne 16, 3) := sorry
theorem dL_errors_1000 : decode cL_errors 1000 = .ok (.aload_n 0, 1) := sorry
theorem dL_errors_1001 : decode cL_errors 1001 = .ok (.invokestatic 141, 3) := sorry
theorem dL_errors_1004 : decode cL_errors 1004 = .ok (.lload_n 1, 1) := sorry
theorem dL_errors_1005 : decode cL_errors 1005 = .ok (.lcmp, 1) := sorry
theorem dL_errors_1006 : decode cL_errors 1006 = .ok (.ifCond .ne 7, 3) := sorry
theorem dL_errors_1009 : decode cL_errors 1009 = .ok (.iconst 1, 1) := sorry
theorem dL_errors_1010 : decode cL_errors 1010 = .ok (.goto 4, 3) := sorry
theorem dL_errors_1013 : decode cL_errors 1013 = .ok (.iconst 0, 1) := sorry
theorem dL_errors_1014 : decode cL_errors 1014 = .ok (.ireturn, 1) := sorry
theorem dL_kept_0 : decode cL_kept 0 = .ok (.aload_n 0, 1) := sorry
theorem dL_kept_1 : decode cL_kept 1 = .ok (.iconst 0, 1) := sorry
theorem dL_kept_2 : decode cL_kept 2 = .ok (.invokestatic 125, 3) := sorry
theorem dL_kept_5 : decode cL_kept 5 = .ok (.l2i, 1) := sorry
theorem dL_kept_6 : decode cL_kept 6 = .ok (.istore_n 1, 1) := sorry
theorem dL_kept_7 : decode cL_kept 7 = .ok (.aload_n 0, 1) := sorry
theorem dL_kept_8 : decode cL_kept 8 = .ok (.iconst 2, 1) := sorry
theorem dL_kept_9 : decode cL_kept 9 = .ok (.invokestatic 125, 3) := sorry
theorem dL_kept_12 : decode cL_kept 12 = .ok (.l2i, 1) := sorry
theorem dL_kept_13 : decode cL_kept 13 = .ok (.istore_n 2, 1) := sorry
theorem dL_kept_14 : decode cL_kept 14 = .ok (.aload_n 0, 1) := sorry
theorem dL_kept_15 : decode cL_kept 15 = .ok (.iconst 1, 1) := sorry
theorem dL_kept_16 : decode cL_kept 16 = .ok (.invokestatic 125, 3) := sorry
theorem dL_kept_19 : decode cL_kept 19 = .ok (.lstore_n 3, 1) := sorry
theorem dL_kept_20 : decode cL_kept 20 = .ok (.iload_n 1, 1) := sorry
theorem dL_kept_21 : decode cL_kept 21 = .ok (.i2l, 1) := sorry
theorem dL_kept_22 : decode cL_kept 22 = .ok (.lconst 0, 1) := sorry
theorem dL_kept_23 : decode cL_kept 23 = .ok (.ldc2_w 202, 3) := sorry
theorem dL_kept_26 : decode cL_kept 26 = .ok (.invokestatic 204, 3) := sorry
theorem dL_kept_29 : decode cL_kept 29 = .ok (.ifCond .eq 54, 3) := sorry
theorem dL_kept_32 : decode cL_kept 32 = .ok (.iload_n 2, 1) := sorry
theorem dL_kept_33 : decode cL_kept 33 = .ok (.i2l, 1) := sorry
theorem dL_kept_34 : decode cL_kept 34 = .ok (.lconst 0, 1) := sorry
theorem dL_kept_35 : decode cL_kept 35 = .ok (.ldc2_w 208, 3) := sorry
theorem dL_kept_38 : decode cL_kept 38 = .ok (.invokestatic 204, 3) := sorry
theorem dL_kept_41 : decode cL_kept 41 = .ok (.ifCond .eq 42, 3) := sorry
theorem dL_kept_44 : decode cL_kept 44 = .ok (.aload_n 0, 1) := sorry
theorem dL_kept_45 : decode cL_kept 45 = .ok (.bipush 8, 2) := sorry
theorem dL_kept_47 : decode cL_kept 47 = .ok (.invokestatic 125, 3) := sorry
theorem dL_kept_50 : decode cL_kept 50 = .ok (.aload_n 0, 1) := sorry
theorem dL_kept_51 : decode cL_kept 51 = .ok (.iconst 4, 1) := sorry
theorem dL_kept_52 : decode cL_kept 52 = .ok (.invokestatic 125, 3) := sorry
theorem dL_kept_55 : decode cL_kept 55 = .ok (.aload_n 0, 1) := sorry
theorem dL_kept_56 : decode cL_kept 56 = .ok (.iconst 5, 1) := sorry
theorem dL_kept_57 : decode cL_kept 57 = .ok (.invokestatic 125, 3) := sorry
theorem dL_kept_60 : decode cL_kept 60 = .ok (.ladd, 1) := sorry
theorem dL_kept_61 : decode cL_kept 61 = .ok (.aload_n 0, 1) := sorry
theorem dL_kept_62 : decode cL_kept 62 = .ok (.bipush 6, 2) := sorry
theorem dL_kept_64 : decode cL_kept 64 = .ok (.invokestatic 125, 3) := sorry
theorem dL_kept_67 : decode cL_kept 67 = .ok (.ladd, 1) := sorry
theorem dL_kept_68 : decode cL_kept 68 = .ok (.aload_n 0, 1) := sorry
theorem dL_kept_69 : decode cL_kept 69 = .ok (.bipush 7, 2) := sorry
theorem dL_kept_71 : decode cL_kept 71 = .ok (.invokestatic 125, 3) := sorry
theorem dL_kept_74 : decode cL_kept 74 = .ok (.ladd, 1) := sorry
theorem dL_kept_75 : decode cL_kept 75 = .ok (.lcmp, 1) := sorry
theorem dL_kept_76 : decode cL_kept 76 = .ok (.ifCond .ne 7, 3) := sorry
theorem dL_kept_79 : decode cL_kept 79 = .ok (.iconst 1, 1) := sorry
theorem dL_kept_80 : decode cL_kept 80 = .ok (.goto 4, 3) := sorry
theorem dL_kept_83 : decode cL_kept 83 = .ok (.iconst 0, 1) := sorry
theorem dL_kept_84 : decode cL_kept 84 = .ok (.istore 5, 2) := sorry
theorem dL_kept_86 : decode cL_kept 86 = .ok (.lconst 0, 1) := sorry
theorem dL_kept_87 : decode cL_kept 87 = .ok (.lstore 6, 2) := sorry
theorem dL_kept_89 : decode cL_kept 89 = .ok (.lconst 0, 1) := sorry
theorem dL_kept_90 : decode cL_kept 90 = .ok (.lstore 8, 2) := sorry
theorem dL_kept_92 : decode cL_kept 92 = .ok (.lconst 0, 1) := sorry
theorem dL_kept_93 : decode cL_kept 93 = .ok (.lstore 10, 2) := sorry
theorem dL_kept_95 : decode cL_kept 95 = .ok (.lconst 0, 1) := sorry
theorem dL_kept_96 : decode cL_kept 96 = .ok (.lstore 12, 2) := sorry
theorem dL_kept_98 : decode cL_kept 98 = .ok (.iconst 0, 1) := sorry
theorem dL_kept_99 : decode cL_kept 99 = .ok (.istore 14, 2) := sorry
theorem dL_kept_101 : decode cL_kept 101 = .ok (.iload 14, 2) := sorry
theorem dL_kept_103 : decode cL_kept 103 = .ok (.iload_n 1, 1) := sorry
theorem dL_kept_104 : decode cL_kept 104 = .ok (.if_icmp .ge 257, 3) := sorry
theorem dL_kept_107 : decode cL_kept 107 = .ok (.iload 5, 2) := sorry
theorem dL_kept_109 : decode cL_kept 109 = .ok (.ifCond .eq 252, 3) := sorry
theorem dL_kept_112 : decode cL_kept 112 = .ok (.lload 6, 2) := sorry
theorem dL_kept_114 : decode cL_kept 114 = .ok (.aload_n 0, 1) := sorry
theorem dL_kept_115 : decode cL_kept 115 = .ok (.iload 14, 2) := sorry
theorem dL_kept_117 : decode cL_kept 117 = .ok (.iconst 3, 1) := sorry
theorem dL_kept_118 : decode cL_kept 118 = .ok (.invokestatic 132, 3) := sorry
theorem dL_kept_121 : decode cL_kept 121 = .ok (.ladd, 1) := sorry
theorem dL_kept_122 : decode cL_kept 122 = .ok (.lstore 6, 2) := sorry
theorem dL_kept_124 : decode cL_kept 124 = .ok (.lload 8, 2) := sorry
theorem dL_kept_126 : decode cL_kept 126 = .ok (.aload_n 0, 1) := sorry
theorem dL_kept_127 : decode cL_kept 127 = .ok (.iload 14, 2) := sorry
theorem dL_kept_129 : decode cL_kept 129 = .ok (.iconst 5, 1) := sorry
theorem dL_kept_130 : decode cL_kept 130 = .ok (.invokestatic 132, 3) := sorry
theorem dL_kept_133 : decode cL_kept 133 = .ok (.ladd, 1) := sorry
theorem dL_kept_134 : decode cL_kept 134 = .ok (.lstore 8, 2) := sorry
theorem dL_kept_136 : decode cL_kept 136 = .ok (.lload 10, 2) := sorry
theorem dL_kept_138 : decode cL_kept 138 = .ok (.aload_n 0, 1) := sorry
theorem dL_kept_139 : decode cL_kept 139 = .ok (.iload 14, 2) := sorry
theorem dL_kept_141 : decode cL_kept 141 = .ok (.bipush 6, 2) := sorry
theorem dL_kept_143 : decode cL_kept 143 = .ok (.invokestatic 132, 3) := sorry
theorem dL_kept_146 : decode cL_kept 146 = .ok (.ladd, 1) := sorry
theorem dL_kept_147 : decode cL_kept 147 = .ok (.lstore 10, 2) := sorry
theorem dL_kept_149 : decode cL_kept 149 = .ok (.lload 12, 2) := sorry
theorem dL_kept_151 : decode cL_kept 151 = .ok (.lload_n 3, 1) := sorry
theorem dL_kept_152 : decode cL_kept 152 = .ok (.aload_n 0, 1) := sorry
theorem dL_kept_153 : decode cL_kept 153 = .ok (.iload 14, 2) := sorry
theorem dL_kept_155 : decode cL_kept 155 = .ok (.iconst 2, 1) := sorry
theorem dL_kept_156 : decode cL_kept 156 = .ok (.invokestatic 132, 3) := sorry
theorem dL_kept_159 : decode cL_kept 159 = .ok (.lcmp, 1) := sorry
theorem dL_kept_160 : decode cL_kept 160 = .ok (.ifCond .ge 7, 3) := sorry
theorem dL_kept_163 : decode cL_kept 163 = .ok (.lconst 1, 1) := sorry
theorem dL_kept_164 : decode cL_kept 164 = .ok (.goto 4, 3) := sorry
theorem dL_kept_167 : decode cL_kept 167 = .ok (.lconst 0, 1) := sorry
theorem dL_kept_168 : decode cL_kept 168 = .ok (.ladd, 1) := sorry
theorem dL_kept_169 : decode cL_kept 169 = .ok (.lstore 12, 2) := sorry
theorem dL_kept_171 : decode cL_kept 171 = .ok (.aload_n 0, 1) := sorry
theorem dL_kept_172 : decode cL_kept 172 = .ok (.iload 14, 2) := sorry
theorem dL_kept_174 : decode cL_kept 174 = .ok (.iconst 0, 1) := sorry
theorem dL_kept_175 : decode cL_kept 175 = .ok (.invokestatic 132, 3) := sorry
theorem dL_kept_178 : decode cL_kept 178 = .ok (.lconst 0, 1) := sorry
theorem dL_kept_179 : decode cL_kept 179 = .ok (.ldc2_w 210, 3) := sorry
theorem dL_kept_182 : decode cL_kept 182 = .ok (.invokestatic 204, 3) := sorry
theorem dL_kept_185 : decode cL_kept 185 = .ok (.ifCond .eq 54, 3) := sorry
theorem dL_kept_188 : decode cL_kept 188 = .ok (.aload_n 0, 1) := sorry
theorem dL_kept_189 : decode cL_kept 189 = .ok (.iload 14, 2) := sorry
theorem dL_kept_191 : decode cL_kept 191 = .ok (.iconst 1, 1) := sorry
theorem dL_kept_192 : decode cL_kept 192 = .ok (.invokestatic 132, 3) := sorry
theorem dL_kept_195 : decode cL_kept 195 = .ok (.lconst 0, 1) := sorry
theorem dL_kept_196 : decode cL_kept 196 = .ok (.ldc2_w 212, 3) := sorry
theorem dL_kept_199 : decode cL_kept 199 = .ok (.invokestatic 204, 3) := sorry
theorem dL_kept_202 : decode cL_kept 202 = .ok (.ifCond .eq 37, 3) := sorry
theorem dL_kept_205 : decode cL_kept 205 = .ok (.aload_n 0, 1) := sorry
theorem dL_kept_206 : decode cL_kept 206 = .ok (.iload 14, 2) := sorry
theorem dL_kept_208 : decode cL_kept 208 = .ok (.bipush 7, 2) := sorry
theorem dL_kept_210 : decode cL_kept 210 = .ok (.invokestatic 132, 3) := sorry
theorem dL_kept_213 : decode cL_kept 213 = .ok (.iload 14, 2) := sorry
theorem dL_kept_215 : decode cL_kept 215 = .ok (.lshr, 1) := sorry
theorem dL_kept_216 : decode cL_kept 216 = .ok (.lconst 1, 1) := sorry
theorem dL_kept_217 : decode cL_kept 217 = .ok (.land, 1) := sorry
theorem dL_kept_218 : decode cL_kept 218 = .ok (.lconst 0, 1) := sorry
theorem dL_kept_219 : decode cL_kept 219 = .ok (.lcmp, 1) := sorry
theorem dL_kept_220 : decode cL_kept 220 = .ok (.ifCond .ne 19, 3) := sorry
theorem dL_kept_223 : decode cL_kept 223 = .ok (.aload_n 0, 1) := sorry
theorem dL_kept_224 : decode cL_kept 224 = .ok (.iload 14, 2) := sorry
theorem dL_kept_226 : decode cL_kept 226 = .ok (.iconst 4, 1) := sorry
theorem dL_kept_227 : decode cL_kept 227 = .ok (.invokestatic 132, 3) := sorry
theorem dL_kept_230 : decode cL_kept 230 = .ok (.lconst 0, 1) := sorry
theorem dL_kept_231 : decode cL_kept 231 = .ok (.lcmp, 1) := sorry
theorem dL_kept_232 : decode cL_kept 232 = .ok (.ifCond .lt 7, 3) := sorry
theorem dL_kept_235 : decode cL_kept 235 = .ok (.iconst 1, 1) := sorry
theorem dL_kept_236 : decode cL_kept 236 = .ok (.goto 4, 3) := sorry
theorem dL_kept_239 : decode cL_kept 239 = .ok (.iconst 0, 1) := sorry
theorem dL_kept_240 : decode cL_kept 240 = .ok (.istore 5, 2) := sorry
theorem dL_kept_242 : decode cL_kept 242 = .ok (.iconst 0, 1) := sorry
theorem dL_kept_243 : decode cL_kept 243 = .ok (.istore 15, 2) := sorry
theorem dL_kept_245 : decode cL_kept 245 = .ok (.iload 15, 2) := sorry
theorem dL_kept_247 : decode cL_kept 247 = .ok (.iload_n 1, 1) := sorry
theorem dL_kept_248 : decode cL_kept 248 = .ok (.if_icmp .ge 51, 3) := sorry
theorem dL_kept_251 : decode cL_kept 251 = .ok (.iload 5, 2) := sorry
theorem dL_kept_253 : decode cL_kept 253 = .ok (.ifCond .eq 46, 3) := sorry
theorem dL_kept_256 : decode cL_kept 256 = .ok (.aload_n 0, 1) := sorry
theorem dL_kept_257 : decode cL_kept 257 = .ok (.iload 14, 2) := sorry
theorem dL_kept_259 : decode cL_kept 259 = .ok (.bipush 7, 2) := sorry
theorem dL_kept_261 : decode cL_kept 261 = .ok (.invokestatic 132, 3) := sorry
theorem dL_kept_264 : decode cL_kept 264 = .ok (.iload 15, 2) := sorry
theorem dL_kept_266 : decode cL_kept 266 = .ok (.lshr, 1) := sorry
theorem dL_kept_267 : decode cL_kept 267 = .ok (.lconst 1, 1) := sorry
theorem dL_kept_268 : decode cL_kept 268 = .ok (.land, 1) := sorry
theorem dL_kept_269 : decode cL_kept 269 = .ok (.aload_n 0, 1) := sorry
theorem dL_kept_270 : decode cL_kept 270 = .ok (.iload 15, 2) := sorry
theorem dL_kept_272 : decode cL_kept 272 = .ok (.bipush 7, 2) := sorry
theorem dL_kept_274 : decode cL_kept 274 = .ok (.invokestatic 132, 3) := sorry
theorem dL_kept_277 : decode cL_kept 277 = .ok (.iload 14, 2) := sorry
theorem dL_kept_279 : decode cL_kept 279 = .ok (.lshr, 1) := sorry
theorem dL_kept_280 : decode cL_kept 280 = .ok (.lconst 1, 1) := sorry
theorem dL_kept_281 : decode cL_kept 281 = .ok (.land, 1) := sorry
theorem dL_kept_282 : decode cL_kept 282 = .ok (.lcmp, 1) := sorry
theorem dL_kept_283 : decode cL_kept 283 = .ok (.ifCond .ne 7, 3) := sorry
theorem dL_kept_286 : decode cL_kept 286 = .ok (.iconst 1, 1) := sorry
theorem dL_kept_287 : decode cL_kept 287 = .ok (.goto 4, 3) := sorry
theorem dL_kept_290 : decode cL_kept 290 = .ok (.iconst 0, 1) := sorry
theorem dL_kept_291 : decode cL_kept 291 = .ok (.istore 5, 2) := sorry
theorem dL_kept_293 : decode cL_kept 293 = .ok (.iinc 15 1, 3) := sorry
theorem dL_kept_296 : decode cL_kept 296 = .ok (.goto (-51), 3) := sorry
theorem dL_kept_299 : decode cL_kept 299 = .ok (.iconst 0, 1) := sorry
theorem dL_kept_300 : decode cL_kept 300 = .ok (.istore 15, 2) := sorry
theorem dL_kept_302 : decode cL_kept 302 = .ok (.iload 15, 2) := sorry
theorem dL_kept_304 : decode cL_kept 304 = .ok (.bipush 10, 2) := sorry
theorem dL_kept_306 : decode cL_kept 306 = .ok (.if_icmp .ge 49, 3) := sorry
theorem dL_kept_309 : decode cL_kept 309 = .ok (.iload 5, 2) := sorry
theorem dL_kept_311 : decode cL_kept 311 = .ok (.ifCond .eq 44, 3) := sorry
theorem dL_kept_314 : decode cL_kept 314 = .ok (.aload_n 0, 1) := sorry
theorem dL_kept_315 : decode cL_kept 315 = .ok (.iload 14, 2) := sorry
theorem dL_kept_317 : decode cL_kept 317 = .ok (.iconst 1, 1) := sorry
theorem dL_kept_318 : decode cL_kept 318 = .ok (.invokestatic 132, 3) := sorry
theorem dL_kept_321 : decode cL_kept 321 = .ok (.iload 15, 2) := sorry
theorem dL_kept_323 : decode cL_kept 323 = .ok (.lshr, 1) := sorry
theorem dL_kept_324 : decode cL_kept 324 = .ok (.lconst 1, 1) := sorry
theorem dL_kept_325 : decode cL_kept 325 = .ok (.land, 1) := sorry
theorem dL_kept_326 : decode cL_kept 326 = .ok (.aload_n 0, 1) := sorry
theorem dL_kept_327 : decode cL_kept 327 = .ok (.iload 15, 2) := sorry
theorem dL_kept_329 : decode cL_kept 329 = .ok (.iconst 4, 1) := sorry
theorem dL_kept_330 : decode cL_kept 330 = .ok (.invokestatic 135, 3) := sorry
theorem dL_kept_333 : decode cL_kept 333 = .ok (.iload 14, 2) := sorry
theorem dL_kept_335 : decode cL_kept 335 = .ok (.lshr, 1) := sorry
theorem dL_kept_336 : decode cL_kept 336 = .ok (.lconst 1, 1) := sorry
theorem dL_kept_337 : decode cL_kept 337 = .ok (.land, 1) := sorry
theorem dL_kept_338 : decode cL_kept 338 = .ok (.lcmp, 1) := sorry
theorem dL_kept_339 : decode cL_kept 339 = .ok (.ifCond .ne 7, 3) := sorry
theorem dL_kept_342 : decode cL_kept 342 = .ok (.iconst 1, 1) := sorry
theorem dL_kept_343 : decode cL_kept 343 = .ok (.goto 4, 3) := sorry
theorem dL_kept_346 : decode cL_kept 346 = .ok (.iconst 0, 1) := sorry
theorem dL_kept_347 : decode cL_kept 347 = .ok (.istore 5, 2) := sorry
theorem dL_kept_349 : decode cL_kept 349 = .ok (.iinc 15 1, 3) := sorry
theorem dL_kept_352 : decode cL_kept 352 = .ok (.goto (-50), 3) := sorry
theorem dL_kept_355 : decode cL_kept 355 = .ok (.iinc 14 1, 3) := sorry
theorem dL_kept_358 : decode cL_kept 358 = .ok (.goto (-257), 3) := sorry
theorem dL_kept_361 : decode cL_kept 361 = .ok (.lconst 0, 1) := sorry
theorem dL_kept_362 : decode cL_kept 362 = .ok (.lstore 14, 2) := sorry
theorem dL_kept_364 : decode cL_kept 364 = .ok (.lconst 0, 1) := sorry
theorem dL_kept_365 : decode cL_kept 365 = .ok (.lstore 16, 2) := sorry
theorem dL_kept_367 : decode cL_kept 367 = .ok (.iconst 0, 1) := sorry
theorem dL_kept_368 : decode cL_kept 368 = .ok (.istore 18, 2) := sorry
theorem dL_kept_370 : decode cL_kept 370 = .ok (.iload 18, 2) := sorry
theorem dL_kept_372 : decode cL_kept 372 = .ok (.bipush 10, 2) := sorry
theorem dL_kept_374 : decode cL_kept 374 = .ok (.if_icmp .ge 87, 3) := sorry
theorem dL_kept_377 : decode cL_kept 377 = .ok (.iload 5, 2) := sorry
theorem dL_kept_379 : decode cL_kept 379 = .ok (.ifCond .eq 82, 3) := sorry
theorem dL_kept_382 : decode cL_kept 382 = .ok (.lload 14, 2) := sorry
theorem dL_kept_384 : decode cL_kept 384 = .ok (.aload_n 0, 1) := sorry
theorem dL_kept_385 : decode cL_kept 385 = .ok (.iload 18, 2) := sorry
theorem dL_kept_387 : decode cL_kept 387 = .ok (.iconst 3, 1) := sorry
theorem dL_kept_388 : decode cL_kept 388 = .ok (.invokestatic 135, 3) := sorry
theorem dL_kept_391 : decode cL_kept 391 = .ok (.ladd, 1) := sorry
theorem dL_kept_392 : decode cL_kept 392 = .ok (.lstore 14, 2) := sorry
theorem dL_kept_394 : decode cL_kept 394 = .ok (.lload 16, 2) := sorry
theorem dL_kept_396 : decode cL_kept 396 = .ok (.lload_n 3, 1) := sorry
theorem dL_kept_397 : decode cL_kept 397 = .ok (.aload_n 0, 1) := sorry
theorem dL_kept_398 : decode cL_kept 398 = .ok (.iload 18, 2) := sorry
theorem dL_kept_400 : decode cL_kept 400 = .ok (.iconst 1, 1) := sorry
theorem dL_kept_401 : decode cL_kept 401 = .ok (.invokestatic 135, 3) := sorry
theorem dL_kept_404 : decode cL_kept 404 = .ok (.lcmp, 1) := sorry
theorem dL_kept_405 : decode cL_kept 405 = .ok (.ifCond .ge 7, 3) := sorry
theorem dL_kept_408 : decode cL_kept 408 = .ok (.lconst 1, 1) := sorry
theorem dL_kept_409 : decode cL_kept 409 = .ok (.goto 4, 3) := sorry
theorem dL_kept_412 : decode cL_kept 412 = .ok (.lconst 0, 1) := sorry
theorem dL_kept_413 : decode cL_kept 413 = .ok (.ladd, 1) := sorry
theorem dL_kept_414 : decode cL_kept 414 = .ok (.lstore 16, 2) := sorry
theorem dL_kept_416 : decode cL_kept 416 = .ok (.aload_n 0, 1) := sorry
theorem dL_kept_417 : decode cL_kept 417 = .ok (.iload 18, 2) := sorry
theorem dL_kept_419 : decode cL_kept 419 = .ok (.iconst 0, 1) := sorry
theorem dL_kept_420 : decode cL_kept 420 = .ok (.invokestatic 135, 3) := sorry
theorem dL_kept_423 : decode cL_kept 423 = .ok (.lconst 0, 1) := sorry
theorem dL_kept_424 : decode cL_kept 424 = .ok (.ldc2_w 214, 3) := sorry
theorem dL_kept_427 : decode cL_kept 427 = .ok (.invokestatic 204, 3) := sorry
theorem dL_kept_430 : decode cL_kept 430 = .ok (.ifCond .eq 22, 3) := sorry
theorem dL_kept_433 : decode cL_kept 433 = .ok (.aload_n 0, 1) := sorry
theorem dL_kept_434 : decode cL_kept 434 = .ok (.iload 18, 2) := sorry
theorem dL_kept_436 : decode cL_kept 436 = .ok (.iconst 2, 1) := sorry
theorem dL_kept_437 : decode cL_kept 437 = .ok (.invokestatic 135, 3) := sorry
theorem dL_kept_440 : decode cL_kept 440 = .ok (.lconst 0, 1) := sorry
theorem dL_kept_441 : decode cL_kept 441 = .ok (.lconst 1, 1) := sorry
theorem dL_kept_442 : decode cL_kept 442 = .ok (.invokestatic 204, 3) := sorry
theorem dL_kept_445 : decode cL_kept 445 = .ok (.ifCond .eq 7, 3) := sorry
theorem dL_kept_448 : decode cL_kept 448 = .ok (.iconst 1, 1) := sorry
theorem dL_kept_449 : decode cL_kept 449 = .ok (.goto 4, 3) := sorry
theorem dL_kept_452 : decode cL_kept 452 = .ok (.iconst 0, 1) := sorry
theorem dL_kept_453 : decode cL_kept 453 = .ok (.istore 5, 2) := sorry
theorem dL_kept_455 : decode cL_kept 455 = .ok (.iinc 18 1, 3) := sorry
theorem dL_kept_458 : decode cL_kept 458 = .ok (.goto (-88), 3) := sorry
theorem dL_kept_461 : decode cL_kept 461 = .ok (.iconst 0, 1) := sorry
theorem dL_kept_462 : decode cL_kept 462 = .ok (.istore 18, 2) := sorry
theorem dL_kept_464 : decode cL_kept 464 = .ok (.iload 18, 2) := sorry
theorem dL_kept_466 : decode cL_kept 466 = .ok (.iload_n 2, 1) := sorry
theorem dL_kept_467 : decode cL_kept 467 = .ok (.if_icmp .ge 764, 3) := sorry
theorem dL_kept_470 : decode cL_kept 470 = .ok (.iload 5, 2) := sorry
theorem dL_kept_472 : decode cL_kept 472 = .ok (.ifCond .eq 759, 3) := sorry
theorem dL_kept_475 : decode cL_kept 475 = .ok (.aload_n 0, 1) := sorry
theorem dL_kept_476 : decode cL_kept 476 = .ok (.iload 18, 2) := sorry
theorem dL_kept_478 : decode cL_kept 478 = .ok (.iconst 0, 1) := sorry
theorem dL_kept_479 : decode cL_kept 479 = .ok (.invokestatic 137, 3) := sorry
theorem dL_kept_482 : decode cL_kept 482 = .ok (.lstore 19, 2) := sorry
theorem dL_kept_484 : decode cL_kept 484 = .ok (.aload_n 0, 1) := sorry
theorem dL_kept_485 : decode cL_kept 485 = .ok (.iload 18, 2) := sorry
theorem dL_kept_487 : decode cL_kept 487 = .ok (.iconst 3, 1) := sorry
theorem dL_kept_488 : decode cL_kept 488 = .ok (.invokestatic 137, 3) := sorry
theorem dL_kept_491 : decode cL_kept 491 = .ok (.l2i, 1) := sorry
theorem dL_kept_492 : decode cL_kept 492 = .ok (.istore 21, 2) := sorry
theorem dL_kept_494 : decode cL_kept 494 = .ok (.aload_n 0, 1) := sorry
theorem dL_kept_495 : decode cL_kept 495 = .ok (.iload 18, 2) := sorry
theorem dL_kept_497 : decode cL_kept 497 = .ok (.iconst 4, 1) := sorry
theorem dL_kept_498 : decode cL_kept 498 = .ok (.invokestatic 137, 3) := sorry
theorem dL_kept_501 : decode cL_kept 501 = .ok (.l2i, 1) := sorry
theorem dL_kept_502 : decode cL_kept 502 = .ok (.istore 22, 2) := sorry
theorem dL_kept_504 : decode cL_kept 504 = .ok (.lload 19, 2) := sorry
theorem dL_kept_506 : decode cL_kept 506 = .ok (.lload_n 3, 1) := sorry
theorem dL_kept_507 : decode cL_kept 507 = .ok (.lcmp, 1) := sorry
theorem dL_kept_508 : decode cL_kept 508 = .ok (.ifCond .lt 85, 3) := sorry
theorem dL_kept_511 : decode cL_kept 511 = .ok (.aload_n 0, 1) := sorry
theorem dL_kept_512 : decode cL_kept 512 = .ok (.iload 18, 2) := sorry
theorem dL_kept_514 : decode cL_kept 514 = .ok (.iconst 1, 1) := sorry
theorem dL_kept_515 : decode cL_kept 515 = .ok (.invokestatic 137, 3) := sorry
theorem dL_kept_518 : decode cL_kept 518 = .ok (.lconst 0, 1) := sorry
theorem dL_kept_519 : decode cL_kept 519 = .ok (.ldc2_w 216, 3) := sorry
theorem dL_kept_522 : decode cL_kept 522 = .ok (.invokestatic 204, 3) := sorry
theorem dL_kept_525 : decode cL_kept 525 = .ok (.ifCond .eq 68, 3) := sorry
theorem dL_kept_528 : decode cL_kept 528 = .ok (.aload_n 0, 1) := sorry
theorem dL_kept_529 : decode cL_kept 529 = .ok (.iload 18, 2) := sorry
theorem dL_kept_531 : decode cL_kept 531 = .ok (.iconst 2, 1) := sorry
theorem dL_kept_532 : decode cL_kept 532 = .ok (.invokestatic 137, 3) := sorry
theorem dL_kept_535 : decode cL_kept 535 = .ok (.lconst 0, 1) := sorry
theorem dL_kept_536 : decode cL_kept 536 = .ok (.ldc2_w 210, 3) := sorry
theorem dL_kept_539 : decode cL_kept 539 = .ok (.invokestatic 204, 3) := sorry
theorem dL_kept_542 : decode cL_kept 542 = .ok (.ifCond .eq 51, 3) := sorry
theorem dL_kept_545 : decode cL_kept 545 = .ok (.iload 21, 2) := sorry
theorem dL_kept_547 : decode cL_kept 547 = .ok (.i2l, 1) := sorry
theorem dL_kept_548 : decode cL_kept 548 = .ok (.lconst 0, 1) := sorry
theorem dL_kept_549 : decode cL_kept 549 = .ok (.iload_n 1, 1) := sorry
theorem dL_kept_550 : decode cL_kept 550 = .ok (.iconst 1, 1) := sorry
theorem dL_kept_551 : decode cL_kept 551 = .ok (.isub, 1) := sorry
theorem dL_kept_552 : decode cL_kept 552 = .ok (.i2l, 1) := sorry
theorem dL_kept_553 : decode cL_kept 553 = .ok (.invokestatic 204, 3) := sorry
theorem dL_kept_556 : decode cL_kept 556 = .ok (.ifCond .eq 37, 3) := sorry
theorem dL_kept_559 : decode cL_kept 559 = .ok (.iload 22, 2) := sorry
theorem dL_kept_561 : decode cL_kept 561 = .ok (.i2l, 1) := sorry
theorem dL_kept_562 : decode cL_kept 562 = .ok (.lconst 0, 1) := sorry
theorem dL_kept_563 : decode cL_kept 563 = .ok (.ldc2_w 218, 3) := sorry
theorem dL_kept_566 : decode cL_kept 566 = .ok (.invokestatic 204, 3) := sorry
theorem dL_kept_569 : decode cL_kept 569 = .ok (.ifCond .eq 24, 3) := sorry
theorem dL_kept_572 : decode cL_kept 572 = .ok (.aload_n 0, 1) := sorry
theorem dL_kept_573 : decode cL_kept 573 = .ok (.iload 18, 2) := sorry
theorem dL_kept_575 : decode cL_kept 575 = .ok (.iconst 5, 1) := sorry
theorem dL_kept_576 : decode cL_kept 576 = .ok (.invokestatic 137, 3) := sorry
theorem dL_kept_579 : decode cL_kept 579 = .ok (.lconst 0, 1) := sorry
theorem dL_kept_580 : decode cL_kept 580 = .ok (.ldc2_w 185, 3) := sorry
theorem dL_kept_583 : decode cL_kept 583 = .ok (.invokestatic 204, 3) := sorry
theorem dL_kept_586 : decode cL_kept 586 = .ok (.ifCond .eq 7, 3) := sorry
theorem dL_kept_589 : decode cL_kept 589 = .ok (.iconst 1, 1) := sorry
theorem dL_kept_590 : decode cL_kept 590 = .ok (.goto 4, 3) := sorry
theorem dL_kept_593 : decode cL_kept 593 = .ok (.iconst 0, 1) := sorry
theorem dL_kept_594 : decode cL_kept 594 = .ok (.istore 5, 2) := sorry
theorem dL_kept_596 : decode cL_kept 596 = .ok (.iconst 0, 1) := sorry
theorem dL_kept_597 : decode cL_kept 597 = .ok (.istore 23, 2) := sorry
theorem dL_kept_599 : decode cL_kept 599 = .ok (.iload 23, 2) := sorry
theorem dL_kept_601 : decode cL_kept 601 = .ok (.iload 18, 2) := sorry
theorem dL_kept_603 : decode cL_kept 603 = .ok (.if_icmp .ge 157, 3) := sorry
theorem dL_kept_606 : decode cL_kept 606 = .ok (.iload 5, 2) := sorry
theorem dL_kept_608 : decode cL_kept 608 = .ok (.ifCond .eq 152, 3) := sorry
theorem dL_kept_611 : decode cL_kept 611 = .ok (.ldc2_w 220, 3) := sorry
theorem dL_kept_614 : decode cL_kept 614 = .ok (.aload_n 0, 1) := sorry
theorem dL_kept_615 : decode cL_kept 615 = .ok (.iload 23, 2) := sorry
theorem dL_kept_617 : decode cL_kept 617 = .ok (.iconst 0, 1) := sorry
theorem dL_kept_618 : decode cL_kept 618 = .ok (.invokestatic 137, 3) := sorry
theorem dL_kept_621 : decode cL_kept 621 = .ok (.lmul, 1) := sorry
theorem dL_kept_622 : decode cL_kept 622 = .ok (.ldc2_w 222, 3) := sorry
theorem dL_kept_625 : decode cL_kept 625 = .ok (.aload_n 0, 1) := sorry
theorem dL_kept_626 : decode cL_kept 626 = .ok (.iload 23, 2) := sorry
theorem dL_kept_628 : decode cL_kept 628 = .ok (.iconst 1, 1) := sorry
theorem dL_kept_629 : decode cL_kept 629 = .ok (.invokestatic 137, 3) := sorry
theorem dL_kept_632 : decode cL_kept 632 = .ok (.lmul, 1) := sorry
theorem dL_kept_633 : decode cL_kept 633 = .ok (.ladd, 1) := sorry
theorem dL_kept_634 : decode cL_kept 634 = .ok (.aload_n 0, 1) := sorry
theorem dL_kept_635 : decode cL_kept 635 = .ok (.iload 23, 2) := sorry
theorem dL_kept_637 : decode cL_kept 637 = .ok (.iconst 2, 1) := sorry
theorem dL_kept_638 : decode cL_kept 638 = .ok (.invokestatic 137, 3) := sorry
theorem dL_kept_641 : decode cL_kept 641 = .ok (.ladd, 1) := sorry
theorem dL_kept_642 : decode cL_kept 642 = .ok (.lstore 24, 2) := sorry
theorem dL_kept_644 : decode cL_kept 644 = .ok (.aload_n 0, 1) := sorry
theorem dL_kept_645 : decode cL_kept 645 = .ok (.iload 23, 2) := sorry
theorem dL_kept_647 : decode cL_kept 647 = .ok (.iconst 0, 1) := sorry
theorem dL_kept_648 : decode cL_kept 648 = .ok (.invokestatic 137, 3) := sorry
theorem dL_kept_651 : decode cL_kept 651 = .ok (.lload 19, 2) := sorry
theorem dL_kept_653 : decode cL_kept 653 = .ok (.lcmp, 1) := sorry
theorem dL_kept_654 : decode cL_kept 654 = .ok (.ifCond .ne 25, 3) := sorry
theorem dL_kept_657 : decode cL_kept 657 = .ok (.aload_n 0, 1) := sorry
theorem dL_kept_658 : decode cL_kept 658 = .ok (.iload 23, 2) := sorry
theorem dL_kept_660 : decode cL_kept 660 = .ok (.iconst 1, 1) := sorry
theorem dL_kept_661 : decode cL_kept 661 = .ok (.invokestatic 137, 3) := sorry
theorem dL_kept_664 : decode cL_kept 664 = .ok (.aload_n 0, 1) := sorry
theorem dL_kept_665 : decode cL_kept 665 = .ok (.iload 18, 2) := sorry
theorem dL_kept_667 : decode cL_kept 667 = .ok (.iconst 1, 1) := sorry
theorem dL_kept_668 : decode cL_kept 668 = .ok (.invokestatic 137, 3) := sorry
theorem dL_kept_671 : decode cL_kept 671 = .ok (.lcmp, 1) := sorry
theorem dL_kept_672 : decode cL_kept 672 = .ok (.ifCond .ne 7, 3) := sorry
theorem dL_kept_675 : decode cL_kept 675 = .ok (.iconst 1, 1) := sorry
theorem dL_kept_676 : decode cL_kept 676 = .ok (.goto 4, 3) := sorry
theorem dL_kept_679 : decode cL_kept 679 = .ok (.iconst 0, 1) := sorry
theorem dL_kept_680 : decode cL_kept 680 = .ok (.istore 26, 2) := sorry
theorem dL_kept_682 : decode cL_kept 682 = .ok (.lload 24, 2) := sorry
theorem dL_kept_684 : decode cL_kept 684 = .ok (.ldc2_w 220, 3) := sorry
theorem dL_kept_687 : decode cL_kept 687 = .ok (.lload 19, 2) := sorry
theorem dL_kept_689 : decode cL_kept 689 = .ok (.lmul, 1) := sorry
theorem dL_kept_690 : decode cL_kept 690 = .ok (.ldc2_w 222, 3) := sorry
theorem dL_kept_693 : decode cL_kept 693 = .ok (.aload_n 0, 1) := sorry
theorem dL_kept_694 : decode cL_kept 694 = .ok (.iload 18, 2) := sorry
theorem dL_kept_696 : decode cL_kept 696 = .ok (.iconst 1, 1) := sorry
theorem dL_kept_697 : decode cL_kept 697 = .ok (.invokestatic 137, 3) := sorry
theorem dL_kept_700 : decode cL_kept 700 = .ok (.lmul, 1) := sorry
theorem dL_kept_701 : decode cL_kept 701 = .ok (.ladd, 1) := sorry
theorem dL_kept_702 : decode cL_kept 702 = .ok (.aload_n 0, 1) := sorry
theorem dL_kept_703 : decode cL_kept 703 = .ok (.iload 18, 2) := sorry
theorem dL_kept_705 : decode cL_kept 705 = .ok (.iconst 2, 1) := sorry
theorem dL_kept_706 : decode cL_kept 706 = .ok (.invokestatic 137, 3) := sorry
theorem dL_kept_709 : decode cL_kept 709 = .ok (.ladd, 1) := sorry
theorem dL_kept_710 : decode cL_kept 710 = .ok (.lcmp, 1) := sorry
theorem dL_kept_711 : decode cL_kept 711 = .ok (.ifCond .ge 40, 3) := sorry
theorem dL_kept_714 : decode cL_kept 714 = .ok (.iload 26, 2) := sorry
theorem dL_kept_716 : decode cL_kept 716 = .ok (.ifCond .eq 31, 3) := sorry
theorem dL_kept_719 : decode cL_kept 719 = .ok (.aload_n 0, 1) := sorry
theorem dL_kept_720 : decode cL_kept 720 = .ok (.iload 23, 2) := sorry
theorem dL_kept_722 : decode cL_kept 722 = .ok (.iconst 3, 1) := sorry
theorem dL_kept_723 : decode cL_kept 723 = .ok (.invokestatic 137, 3) := sorry
theorem dL_kept_726 : decode cL_kept 726 = .ok (.iload 21, 2) := sorry
theorem dL_kept_728 : decode cL_kept 728 = .ok (.i2l, 1) := sorry
theorem dL_kept_729 : decode cL_kept 729 = .ok (.lcmp, 1) := sorry
theorem dL_kept_730 : decode cL_kept 730 = .ok (.ifCond .eq 21, 3) := sorry
theorem dL_kept_733 : decode cL_kept 733 = .ok (.aload_n 0, 1) := sorry
theorem dL_kept_734 : decode cL_kept 734 = .ok (.iload 23, 2) := sorry
theorem dL_kept_736 : decode cL_kept 736 = .ok (.iconst 4, 1) := sorry
theorem dL_kept_737 : decode cL_kept 737 = .ok (.invokestatic 137, 3) := sorry
theorem dL_kept_740 : decode cL_kept 740 = .ok (.iload 22, 2) := sorry
theorem dL_kept_742 : decode cL_kept 742 = .ok (.i2l, 1) := sorry
theorem dL_kept_743 : decode cL_kept 743 = .ok (.lcmp, 1) := sorry
theorem dL_kept_744 : decode cL_kept 744 = .ok (.ifCond .eq 7, 3) := sorry
theorem dL_kept_747 : decode cL_kept 747 = .ok (.iconst 1, 1) := sorry
theorem dL_kept_748 : decode cL_kept 748 = .ok (.goto 4, 3) := sorry
theorem dL_kept_751 : decode cL_kept 751 = .ok (.iconst 0, 1) := sorry
theorem dL_kept_752 : decode cL_kept 752 = .ok (.istore 5, 2) := sorry
theorem dL_kept_754 : decode cL_kept 754 = .ok (.iinc 23 1, 3) := sorry
theorem dL_kept_757 : decode cL_kept 757 = .ok (.goto (-158), 3) := sorry
theorem dL_kept_760 : decode cL_kept 760 = .ok (.iconst 0, 1) := sorry
theorem dL_kept_761 : decode cL_kept 761 = .ok (.istore 23, 2) := sorry
theorem dL_kept_763 : decode cL_kept 763 = .ok (.lconst 0, 1) := sorry
theorem dL_kept_764 : decode cL_kept 764 = .ok (.lstore 24, 2) := sorry
theorem dL_kept_766 : decode cL_kept 766 = .ok (.aload_n 0, 1) := sorry
theorem dL_kept_767 : decode cL_kept 767 = .ok (.iload 18, 2) := sorry
theorem dL_kept_769 : decode cL_kept 769 = .ok (.iload 23, 2) := sorry
theorem dL_kept_771 : decode cL_kept 771 = .ok (.invokestatic 145, 3) := sorry
theorem dL_kept_774 : decode cL_kept 774 = .ok (.ldc2_w 224, 3) := sorry
theorem dL_kept_777 : decode cL_kept 777 = .ok (.ldc2_w 226, 3) := sorry
theorem dL_kept_780 : decode cL_kept 780 = .ok (.invokestatic 204, 3) := sorry
theorem dL_kept_783 : decode cL_kept 783 = .ok (.ifCond .eq 30, 3) := sorry
theorem dL_kept_786 : decode cL_kept 786 = .ok (.ldc2_w 228, 3) := sorry
theorem dL_kept_789 : decode cL_kept 789 = .ok (.lload 24, 2) := sorry
theorem dL_kept_791 : decode cL_kept 791 = .ok (.lmul, 1) := sorry
theorem dL_kept_792 : decode cL_kept 792 = .ok (.aload_n 0, 1) := sorry
theorem dL_kept_793 : decode cL_kept 793 = .ok (.iload 18, 2) := sorry
theorem dL_kept_795 : decode cL_kept 795 = .ok (.iload 23, 2) := sorry
theorem dL_kept_797 : decode cL_kept 797 = .ok (.invokestatic 145, 3) := sorry
theorem dL_kept_800 : decode cL_kept 800 = .ok (.ladd, 1) := sorry
theorem dL_kept_801 : decode cL_kept 801 = .ok (.ldc2_w 224, 3) := sorry
theorem dL_kept_804 : decode cL_kept 804 = .ok (.lsub, 1) := sorry
theorem dL_kept_805 : decode cL_kept 805 = .ok (.lstore 24, 2) := sorry
theorem dL_kept_807 : decode cL_kept 807 = .ok (.iinc 23 1, 3) := sorry
theorem dL_kept_810 : decode cL_kept 810 = .ok (.goto (-44), 3) := sorry
theorem dL_kept_813 : decode cL_kept 813 = .ok (.iload 5, 2) := sorry
theorem dL_kept_815 : decode cL_kept 815 = .ok (.ifCond .eq 196, 3) := sorry
theorem dL_kept_818 : decode cL_kept 818 = .ok (.iload 23, 2) := sorry
theorem dL_kept_820 : decode cL_kept 820 = .ok (.ifCond .le 191, 3) := sorry
theorem dL_kept_823 : decode cL_kept 823 = .ok (.lload 24, 2) := sorry
theorem dL_kept_825 : decode cL_kept 825 = .ok (.lload 19, 2) := sorry
theorem dL_kept_827 : decode cL_kept 827 = .ok (.lcmp, 1) := sorry
theorem dL_kept_828 : decode cL_kept 828 = .ok (.ifCond .ne 183, 3) := sorry
theorem dL_kept_831 : decode cL_kept 831 = .ok (.aload_n 0, 1) := sorry
theorem dL_kept_832 : decode cL_kept 832 = .ok (.iload 18, 2) := sorry
theorem dL_kept_834 : decode cL_kept 834 = .ok (.iload 23, 2) := sorry
theorem dL_kept_836 : decode cL_kept 836 = .ok (.invokestatic 145, 3) := sorry
theorem dL_kept_839 : decode cL_kept 839 = .ok (.ldc2_w 230, 3) := sorry
theorem dL_kept_842 : decode cL_kept 842 = .ok (.lcmp, 1) := sorry
theorem dL_kept_843 : decode cL_kept 843 = .ok (.ifCond .ne 168, 3) := sorry
theorem dL_kept_846 : decode cL_kept 846 = .ok (.aload_n 0, 1) := sorry
theorem dL_kept_847 : decode cL_kept 847 = .ok (.iload 18, 2) := sorry
theorem dL_kept_849 : decode cL_kept 849 = .ok (.iload 23, 2) := sorry
theorem dL_kept_851 : decode cL_kept 851 = .ok (.iconst 1, 1) := sorry
theorem dL_kept_852 : decode cL_kept 852 = .ok (.iadd, 1) := sorry
theorem dL_kept_853 : decode cL_kept 853 = .ok (.invokestatic 145, 3) := sorry
theorem dL_kept_856 : decode cL_kept 856 = .ok (.ldc2_w 224, 3) := sorry
theorem dL_kept_859 : decode cL_kept 859 = .ok (.aload_n 0, 1) := sorry
theorem dL_kept_860 : decode cL_kept 860 = .ok (.iload 18, 2) := sorry
theorem dL_kept_862 : decode cL_kept 862 = .ok (.iconst 1, 1) := sorry
theorem dL_kept_863 : decode cL_kept 863 = .ok (.invokestatic 137, 3) := sorry
theorem dL_kept_866 : decode cL_kept 866 = .ok (.ladd, 1) := sorry
theorem dL_kept_867 : decode cL_kept 867 = .ok (.lcmp, 1) := sorry
theorem dL_kept_868 : decode cL_kept 868 = .ok (.ifCond .ne 143, 3) := sorry
theorem dL_kept_871 : decode cL_kept 871 = .ok (.aload_n 0, 1) := sorry
theorem dL_kept_872 : decode cL_kept 872 = .ok (.iload 18, 2) := sorry
theorem dL_kept_874 : decode cL_kept 874 = .ok (.iload 23, 2) := sorry
theorem dL_kept_876 : decode cL_kept 876 = .ok (.iconst 2, 1) := sorry
theorem dL_kept_877 : decode cL_kept 877 = .ok (.iadd, 1) := sorry
theorem dL_kept_878 : decode cL_kept 878 = .ok (.invokestatic 145, 3) := sorry
theorem dL_kept_881 : decode cL_kept 881 = .ok (.ldc2_w 232, 3) := sorry
theorem dL_kept_884 : decode cL_kept 884 = .ok (.lcmp, 1) := sorry
theorem dL_kept_885 : decode cL_kept 885 = .ok (.ifCond .ne 126, 3) := sorry
theorem dL_kept_888 : decode cL_kept 888 = .ok (.aload_n 0, 1) := sorry
theorem dL_kept_889 : decode cL_kept 889 = .ok (.iload 18, 2) := sorry
theorem dL_kept_891 : decode cL_kept 891 = .ok (.iload 23, 2) := sorry
theorem dL_kept_893 : decode cL_kept 893 = .ok (.iconst 3, 1) := sorry
theorem dL_kept_894 : decode cL_kept 894 = .ok (.iadd, 1) := sorry
theorem dL_kept_895 : decode cL_kept 895 = .ok (.invokestatic 145, 3) := sorry
theorem dL_kept_898 : decode cL_kept 898 = .ok (.ldc2_w 224, 3) := sorry
theorem dL_kept_901 : decode cL_kept 901 = .ok (.aload_n 0, 1) := sorry
theorem dL_kept_902 : decode cL_kept 902 = .ok (.iload 18, 2) := sorry
theorem dL_kept_904 : decode cL_kept 904 = .ok (.iconst 2, 1) := sorry
theorem dL_kept_905 : decode cL_kept 905 = .ok (.invokestatic 137, 3) := sorry
theorem dL_kept_908 : decode cL_kept 908 = .ok (.ladd, 1) := sorry
theorem dL_kept_909 : decode cL_kept 909 = .ok (.lcmp, 1) := sorry
theorem dL_kept_910 : decode cL_kept 910 = .ok (.ifCond .ne 101, 3) := sorry
theorem dL_kept_913 : decode cL_kept 913 = .ok (.aload_n 0, 1) := sorry
theorem dL_kept_914 : decode cL_kept 914 = .ok (.iload 18, 2) := sorry
theorem dL_kept_916 : decode cL_kept 916 = .ok (.iload 23, 2) := sorry
theorem dL_kept_918 : decode cL_kept 918 = .ok (.iconst 4, 1) := sorry
theorem dL_kept_919 : decode cL_kept 919 = .ok (.iadd, 1) := sorry
theorem dL_kept_920 : decode cL_kept 920 = .ok (.invokestatic 145, 3) := sorry
theorem dL_kept_923 : decode cL_kept 923 = .ok (.ldc2_w 220, 3) := sorry
theorem dL_kept_926 : decode cL_kept 926 = .ok (.lcmp, 1) := sorry
theorem dL_kept_927 : decode cL_kept 927 = .ok (.ifCond .ne 84, 3) := sorry
theorem dL_kept_930 : decode cL_kept 930 = .ok (.aload_n 0, 1) := sorry
theorem dL_kept_931 : decode cL_kept 931 = .ok (.iload 18, 2) := sorry
theorem dL_kept_933 : decode cL_kept 933 = .ok (.iload 23, 2) := sorry
theorem dL_kept_935 : decode cL_kept 935 = .ok (.iconst 5, 1) := sorry
theorem dL_kept_936 : decode cL_kept 936 = .ok (.iadd, 1) := sorry
theorem dL_kept_937 : decode cL_kept 937 = .ok (.invokestatic 145, 3) := sorry
theorem dL_kept_940 : decode cL_kept 940 = .ok (.ldc2_w 234, 3) := sorry
theorem dL_kept_943 : decode cL_kept 943 = .ok (.lcmp, 1) := sorry
theorem dL_kept_944 : decode cL_kept 944 = .ok (.ifCond .ne 67, 3) := sorry
theorem dL_kept_947 : decode cL_kept 947 = .ok (.aload_n 0, 1) := sorry
theorem dL_kept_948 : decode cL_kept 948 = .ok (.iload 18, 2) := sorry
theorem dL_kept_950 : decode cL_kept 950 = .ok (.iload 23, 2) := sorry
theorem dL_kept_952 : decode cL_kept 952 = .ok (.bipush 6, 2) := sorry
theorem dL_kept_954 : decode cL_kept 954 = .ok (.iadd, 1) := sorry
theorem dL_kept_955 : decode cL_kept 955 = .ok (.invokestatic 145, 3) := sorry
theorem dL_kept_958 : decode cL_kept 958 = .ok (.bipush 48, 2) := sorry
theorem dL_kept_960 : decode cL_kept 960 = .ok (.iload 21, 2) := sorry
theorem dL_kept_962 : decode cL_kept 962 = .ok (.iadd, 1) := sorry
theorem dL_kept_963 : decode cL_kept 963 = .ok (.i2l, 1) := sorry
theorem dL_kept_964 : decode cL_kept 964 = .ok (.lcmp, 1) := sorry
theorem dL_kept_965 : decode cL_kept 965 = .ok (.ifCond .ne 46, 3) := sorry
theorem dL_kept_968 : decode cL_kept 968 = .ok (.aload_n 0, 1) := sorry
theorem dL_kept_969 : decode cL_kept 969 = .ok (.iload 18, 2) := sorry
theorem dL_kept_971 : decode cL_kept 971 = .ok (.iload 23, 2) := sorry
theorem dL_kept_973 : decode cL_kept 973 = .ok (.bipush 8, 2) := sorry
theorem dL_kept_975 : decode cL_kept 975 = .ok (.iadd, 1) := sorry
theorem dL_kept_976 : decode cL_kept 976 = .ok (.invokestatic 145, 3) := sorry
theorem dL_kept_979 : decode cL_kept 979 = .ok (.ldc2_w 236, 3) := sorry
theorem dL_kept_982 : decode cL_kept 982 = .ok (.lcmp, 1) := sorry
theorem dL_kept_983 : decode cL_kept 983 = .ok (.ifCond .ne 28, 3) := sorry
theorem dL_kept_986 : decode cL_kept 986 = .ok (.aload_n 0, 1) := sorry
theorem dL_kept_987 : decode cL_kept 987 = .ok (.iload 18, 2) := sorry
theorem dL_kept_989 : decode cL_kept 989 = .ok (.iload 23, 2) := sorry
theorem dL_kept_991 : decode cL_kept 991 = .ok (.bipush 9, 2) := sorry
theorem dL_kept_993 : decode cL_kept 993 = .ok (.iadd, 1) := sorry
theorem dL_kept_994 : decode cL_kept 994 = .ok (.invokestatic 145, 3) := sorry
theorem dL_kept_997 : decode cL_kept 997 = .ok (.bipush 48, 2) := sorry
theorem dL_kept_999 : decode cL_kept 999 = .ok (.iload 22, 2) := sorry
theorem dL_kept_1001 : decode cL_kept 1001 = .ok (.iadd, 1) := sorry
theorem dL_kept_1002 : decode cL_kept 1002 = .ok (.i2l, 1) := sorry
theorem dL_kept_1003 : decode cL_kept 1003 = .ok (.lcmp, 1) := sorry
theorem dL_kept_1004 : decode cL_kept 1004 = .ok (.ifCond .ne 7, 3) := sorry
theorem dL_kept_1007 : decode cL_kept 1007 = .ok (.iconst 1, 1) := sorry
theorem dL_kept_1008 : decode cL_kept 1008 = .ok (.goto 4, 3) := sorry
theorem dL_kept_1011 : decode cL_kept 1011 = .ok (.iconst 0, 1) := sorry
theorem dL_kept_1012 : decode cL_kept 1012 = .ok (.istore 5, 2) := sorry
theorem dL_kept_1014 : decode cL_kept 1014 = .ok (.iinc 23 10, 3) := sorry
theorem dL_kept_1017 : decode cL_kept 1017 = .ok (.aload_n 0, 1) := sorry
theorem dL_kept_1018 : decode cL_kept 1018 = .ok (.iload 18, 2) := sorry
theorem dL_kept_1020 : decode cL_kept 1020 = .ok (.iload 23, 2) := sorry
theorem dL_kept_1022 : decode cL_kept 1022 = .ok (.invokestatic 145, 3) := sorry
theorem dL_kept_1025 : decode cL_kept 1025 = .ok (.ldc2_w 238, 3) := sorry
theorem dL_kept_1028 : decode cL_kept 1028 = .ok (.lcmp, 1) := sorry
theorem dL_kept_1029 : decode cL_kept 1029 = .ok (.ifCond .ne 7, 3) := sorry
theorem dL_kept_1032 : decode cL_kept 1032 = .ok (.iconst 1, 1) := sorry
theorem dL_kept_1033 : decode cL_kept 1033 = .ok (.goto 4, 3) := sorry
theorem dL_kept_1036 : decode cL_kept 1036 = .ok (.iconst 0, 1) := sorry
theorem dL_kept_1037 : decode cL_kept 1037 = .ok (.istore 26, 2) := sorry
theorem dL_kept_1039 : decode cL_kept 1039 = .ok (.lconst 0, 1) := sorry
theorem dL_kept_1040 : decode cL_kept 1040 = .ok (.lstore 24, 2) := sorry
theorem dL_kept_1042 : decode cL_kept 1042 = .ok (.iload 23, 2) := sorry
theorem dL_kept_1044 : decode cL_kept 1044 = .ok (.iload 26, 2) := sorry
theorem dL_kept_1046 : decode cL_kept 1046 = .ok (.ifCond .eq 7, 3) := sorry
theorem dL_kept_1049 : decode cL_kept 1049 = .ok (.iconst 1, 1) := sorry
theorem dL_kept_1050 : decode cL_kept 1050 = .ok (.goto 4, 3) := sorry
theorem dL_kept_1053 : decode cL_kept 1053 = .ok (.iconst 0, 1) := sorry
theorem dL_kept_1054 : decode cL_kept 1054 = .ok (.iadd, 1) := sorry
theorem dL_kept_1055 : decode cL_kept 1055 = .ok (.istore 23, 2) := sorry
theorem dL_kept_1057 : decode cL_kept 1057 = .ok (.aload_n 0, 1) := sorry
theorem dL_kept_1058 : decode cL_kept 1058 = .ok (.iload 18, 2) := sorry
theorem dL_kept_1060 : decode cL_kept 1060 = .ok (.iload 23, 2) := sorry
theorem dL_kept_1062 : decode cL_kept 1062 = .ok (.invokestatic 145, 3) := sorry
theorem dL_kept_1065 : decode cL_kept 1065 = .ok (.ldc2_w 224, 3) := sorry
theorem dL_kept_1068 : decode cL_kept 1068 = .ok (.ldc2_w 226, 3) := sorry
theorem dL_kept_1071 : decode cL_kept 1071 = .ok (.invokestatic 204, 3) := sorry
theorem dL_kept_1074 : decode cL_kept 1074 = .ok (.ifCond .eq 30, 3) := sorry
theorem dL_kept_1077 : decode cL_kept 1077 = .ok (.ldc2_w 228, 3) := sorry
theorem dL_kept_1080 : decode cL_kept 1080 = .ok (.lload 24, 2) := sorry
theorem dL_kept_1082 : decode cL_kept 1082 = .ok (.lmul, 1) := sorry
theorem dL_kept_1083 : decode cL_kept 1083 = .ok (.aload_n 0, 1) := sorry
theorem dL_kept_1084 : decode cL_kept 1084 = .ok (.iload 18, 2) := sorry
theorem dL_kept_1086 : decode cL_kept 1086 = .ok (.iload 23, 2) := sorry
theorem dL_kept_1088 : decode cL_kept 1088 = .ok (.invokestatic 145, 3) := sorry
theorem dL_kept_1091 : decode cL_kept 1091 = .ok (.ladd, 1) := sorry
theorem dL_kept_1092 : decode cL_kept 1092 = .ok (.ldc2_w 224, 3) := sorry
theorem dL_kept_1095 : decode cL_kept 1095 = .ok (.lsub, 1) := sorry
theorem dL_kept_1096 : decode cL_kept 1096 = .ok (.lstore 24, 2) := sorry
theorem dL_kept_1098 : decode cL_kept 1098 = .ok (.iinc 23 1, 3) := sorry
theorem dL_kept_1101 : decode cL_kept 1101 = .ok (.goto (-44), 3) := sorry
theorem dL_kept_1104 : decode cL_kept 1104 = .ok (.lload 19, 2) := sorry
theorem dL_kept_1106 : decode cL_kept 1106 = .ok (.aload_n 0, 1) := sorry
theorem dL_kept_1107 : decode cL_kept 1107 = .ok (.iload 21, 2) := sorry
theorem dL_kept_1109 : decode cL_kept 1109 = .ok (.iconst 2, 1) := sorry
theorem dL_kept_1110 : decode cL_kept 1110 = .ok (.invokestatic 132, 3) := sorry
theorem dL_kept_1113 : decode cL_kept 1113 = .ok (.lcmp, 1) := sorry
theorem dL_kept_1114 : decode cL_kept 1114 = .ok (.ifCond .lt 16, 3) := sorry
theorem dL_kept_1117 : decode cL_kept 1117 = .ok (.lload 19, 2) := sorry
theorem dL_kept_1119 : decode cL_kept 1119 = .ok (.aload_n 0, 1) := sorry
theorem dL_kept_1120 : decode cL_kept 1120 = .ok (.iload 22, 2) := sorry
theorem dL_kept_1122 : decode cL_kept 1122 = .ok (.iconst 1, 1) := sorry
theorem dL_kept_1123 : decode cL_kept 1123 = .ok (.invokestatic 135, 3) := sorry
theorem dL_kept_1126 : decode cL_kept 1126 = .ok (.lcmp, 1) := sorry
theorem dL_kept_1127 : decode cL_kept 1127 = .ok (.ifCond .ge 7, 3) := sorry
theorem dL_kept_1130 : decode cL_kept 1130 = .ok (.iconst 1, 1) := sorry
theorem dL_kept_1131 : decode cL_kept 1131 = .ok (.goto 4, 3) := sorry
theorem dL_kept_1134 : decode cL_kept 1134 = .ok (.iconst 0, 1) := sorry
theorem dL_kept_1135 : decode cL_kept 1135 = .ok (.istore 27, 2) := sorry
theorem dL_kept_1137 : decode cL_kept 1137 = .ok (.iload 5, 2) := sorry
theorem dL_kept_1139 : decode cL_kept 1139 = .ok (.ifCond .eq 83, 3) := sorry
theorem dL_kept_1142 : decode cL_kept 1142 = .ok (.iload 26, 2) := sorry
theorem dL_kept_1144 : decode cL_kept 1144 = .ok (.aload_n 0, 1) := sorry
theorem dL_kept_1145 : decode cL_kept 1145 = .ok (.iload 18, 2) := sorry
theorem dL_kept_1147 : decode cL_kept 1147 = .ok (.iconst 5, 1) := sorry
theorem dL_kept_1148 : decode cL_kept 1148 = .ok (.invokestatic 137, 3) := sorry
theorem dL_kept_1151 : decode cL_kept 1151 = .ok (.lconst 0, 1) := sorry
theorem dL_kept_1152 : decode cL_kept 1152 = .ok (.lcmp, 1) := sorry
theorem dL_kept_1153 : decode cL_kept 1153 = .ok (.ifCond .le 7, 3) := sorry
theorem dL_kept_1156 : decode cL_kept 1156 = .ok (.iconst 1, 1) := sorry
theorem dL_kept_1157 : decode cL_kept 1157 = .ok (.goto 4, 3) := sorry
theorem dL_kept_1160 : decode cL_kept 1160 = .ok (.iconst 0, 1) := sorry
theorem dL_kept_1161 : decode cL_kept 1161 = .ok (.if_icmp .ne 61, 3) := sorry
theorem dL_kept_1164 : decode cL_kept 1164 = .ok (.lload 24, 2) := sorry
theorem dL_kept_1166 : decode cL_kept 1166 = .ok (.aload_n 0, 1) := sorry
theorem dL_kept_1167 : decode cL_kept 1167 = .ok (.iload 18, 2) := sorry
theorem dL_kept_1169 : decode cL_kept 1169 = .ok (.iconst 5, 1) := sorry
theorem dL_kept_1170 : decode cL_kept 1170 = .ok (.invokestatic 137, 3) := sorry
theorem dL_kept_1173 : decode cL_kept 1173 = .ok (.lcmp, 1) := sorry
theorem dL_kept_1174 : decode cL_kept 1174 = .ok (.ifCond .ne 48, 3) := sorry
theorem dL_kept_1177 : decode cL_kept 1177 = .ok (.aload_n 0, 1) := sorry
theorem dL_kept_1178 : decode cL_kept 1178 = .ok (.iload 18, 2) := sorry
theorem dL_kept_1180 : decode cL_kept 1180 = .ok (.iload 23, 2) := sorry
theorem dL_kept_1182 : decode cL_kept 1182 = .ok (.invokestatic 145, 3) := sorry
theorem dL_kept_1185 : decode cL_kept 1185 = .ok (.iload 27, 2) := sorry
theorem dL_kept_1187 : decode cL_kept 1187 = .ok (.ifCond .eq 8, 3) := sorry
theorem dL_kept_1190 : decode cL_kept 1190 = .ok (.bipush 33, 2) := sorry
theorem dL_kept_1192 : decode cL_kept 1192 = .ok (.goto 4, 3) := sorry
theorem dL_kept_1195 : decode cL_kept 1195 = .ok (.iconst (-1), 1) := sorry
theorem dL_kept_1196 : decode cL_kept 1196 = .ok (.i2l, 1) := sorry
theorem dL_kept_1197 : decode cL_kept 1197 = .ok (.lcmp, 1) := sorry
theorem dL_kept_1198 : decode cL_kept 1198 = .ok (.ifCond .ne 24, 3) := sorry
theorem dL_kept_1201 : decode cL_kept 1201 = .ok (.aload_n 0, 1) := sorry
theorem dL_kept_1202 : decode cL_kept 1202 = .ok (.iload 18, 2) := sorry
theorem dL_kept_1204 : decode cL_kept 1204 = .ok (.iload 23, 2) := sorry
theorem dL_kept_1206 : decode cL_kept 1206 = .ok (.iconst 1, 1) := sorry
theorem dL_kept_1207 : decode cL_kept 1207 = .ok (.iadd, 1) := sorry
theorem dL_kept_1208 : decode cL_kept 1208 = .ok (.invokestatic 145, 3) := sorry
theorem dL_kept_1211 : decode cL_kept 1211 = .ok (.ldc2_w 183, 3) := sorry
theorem dL_kept_1214 : decode cL_kept 1214 = .ok (.lcmp, 1) := sorry
theorem dL_kept_1215 : decode cL_kept 1215 = .ok (.ifCond .ne 7, 3) := sorry
theorem dL_kept_1218 : decode cL_kept 1218 = .ok (.iconst 1, 1) := sorry
theorem dL_kept_1219 : decode cL_kept 1219 = .ok (.goto 4, 3) := sorry
theorem dL_kept_1222 : decode cL_kept 1222 = .ok (.iconst 0, 1) := sorry
theorem dL_kept_1223 : decode cL_kept 1223 = .ok (.istore 5, 2) := sorry
theorem dL_kept_1225 : decode cL_kept 1225 = .ok (.iinc 18 1, 3) := sorry
theorem dL_kept_1228 : decode cL_kept 1228 = .ok (.goto (-764), 3) := sorry
theorem dL_kept_1231 : decode cL_kept 1231 = .ok (.iconst 1, 1) := sorry
theorem dL_kept_1232 : decode cL_kept 1232 = .ok (.istore 18, 2) := sorry
theorem dL_kept_1234 : decode cL_kept 1234 = .ok (.iload 18, 2) := sorry
theorem dL_kept_1236 : decode cL_kept 1236 = .ok (.i2l, 1) := sorry
theorem dL_kept_1237 : decode cL_kept 1237 = .ok (.lload 10, 2) := sorry
theorem dL_kept_1239 : decode cL_kept 1239 = .ok (.lcmp, 1) := sorry
theorem dL_kept_1240 : decode cL_kept 1240 = .ok (.ifCond .ge 57, 3) := sorry
theorem dL_kept_1243 : decode cL_kept 1243 = .ok (.iload 5, 2) := sorry
theorem dL_kept_1245 : decode cL_kept 1245 = .ok (.ifCond .eq 52, 3) := sorry
theorem dL_kept_1248 : decode cL_kept 1248 = .ok (.aload_n 0, 1) := sorry
theorem dL_kept_1249 : decode cL_kept 1249 = .ok (.aload_n 0, 1) := sorry
theorem dL_kept_1250 : decode cL_kept 1250 = .ok (.iload 18, 2) := sorry
theorem dL_kept_1252 : decode cL_kept 1252 = .ok (.iconst 1, 1) := sorry
theorem dL_kept_1253 : decode cL_kept 1253 = .ok (.isub, 1) := sorry
theorem dL_kept_1254 : decode cL_kept 1254 = .ok (.invokestatic 139, 3) := sorry
theorem dL_kept_1257 : decode cL_kept 1257 = .ok (.l2i, 1) := sorry
theorem dL_kept_1258 : decode cL_kept 1258 = .ok (.bipush 10, 2) := sorry
theorem dL_kept_1260 : decode cL_kept 1260 = .ok (.idiv, 1) := sorry
theorem dL_kept_1261 : decode cL_kept 1261 = .ok (.iconst 3, 1) := sorry
theorem dL_kept_1262 : decode cL_kept 1262 = .ok (.invokestatic 132, 3) := sorry
theorem dL_kept_1265 : decode cL_kept 1265 = .ok (.aload_n 0, 1) := sorry
theorem dL_kept_1266 : decode cL_kept 1266 = .ok (.aload_n 0, 1) := sorry
theorem dL_kept_1267 : decode cL_kept 1267 = .ok (.iload 18, 2) := sorry
theorem dL_kept_1269 : decode cL_kept 1269 = .ok (.invokestatic 139, 3) := sorry
theorem dL_kept_1272 : decode cL_kept 1272 = .ok (.l2i, 1) := sorry
theorem dL_kept_1273 : decode cL_kept 1273 = .ok (.bipush 10, 2) := sorry
theorem dL_kept_1275 : decode cL_kept 1275 = .ok (.idiv, 1) := sorry
theorem dL_kept_1276 : decode cL_kept 1276 = .ok (.iconst 3, 1) := sorry
theorem dL_kept_1277 : decode cL_kept 1277 = .ok (.invokestatic 132, 3) := sorry
theorem dL_kept_1280 : decode cL_kept 1280 = .ok (.lcmp, 1) := sorry
theorem dL_kept_1281 : decode cL_kept 1281 = .ok (.ifCond .gt 7, 3) := sorry
theorem dL_kept_1284 : decode cL_kept 1284 = .ok (.iconst 1, 1) := sorry
theorem dL_kept_1285 : decode cL_kept 1285 = .ok (.goto 4, 3) := sorry
theorem dL_kept_1288 : decode cL_kept 1288 = .ok (.iconst 0, 1) := sorry
theorem dL_kept_1289 : decode cL_kept 1289 = .ok (.istore 5, 2) := sorry
theorem dL_kept_1291 : decode cL_kept 1291 = .ok (.iinc 18 1, 3) := sorry
theorem dL_kept_1294 : decode cL_kept 1294 = .ok (.goto (-60), 3) := sorry
theorem dL_kept_1297 : decode cL_kept 1297 = .ok (.iload 5, 2) := sorry
theorem dL_kept_1299 : decode cL_kept 1299 = .ok (.ifCond .eq 83, 3) := sorry
theorem dL_kept_1302 : decode cL_kept 1302 = .ok (.lload 6, 2) := sorry
theorem dL_kept_1304 : decode cL_kept 1304 = .ok (.aload_n 0, 1) := sorry
theorem dL_kept_1305 : decode cL_kept 1305 = .ok (.iconst 4, 1) := sorry
theorem dL_kept_1306 : decode cL_kept 1306 = .ok (.invokestatic 125, 3) := sorry
theorem dL_kept_1309 : decode cL_kept 1309 = .ok (.lcmp, 1) := sorry
theorem dL_kept_1310 : decode cL_kept 1310 = .ok (.ifCond .ne 72, 3) := sorry
theorem dL_kept_1313 : decode cL_kept 1313 = .ok (.lload 8, 2) := sorry
theorem dL_kept_1315 : decode cL_kept 1315 = .ok (.iload_n 2, 1) := sorry
theorem dL_kept_1316 : decode cL_kept 1316 = .ok (.i2l, 1) := sorry
theorem dL_kept_1317 : decode cL_kept 1317 = .ok (.lcmp, 1) := sorry
theorem dL_kept_1318 : decode cL_kept 1318 = .ok (.ifCond .ne 64, 3) := sorry
theorem dL_kept_1321 : decode cL_kept 1321 = .ok (.lload 14, 2) := sorry
theorem dL_kept_1323 : decode cL_kept 1323 = .ok (.iload_n 2, 1) := sorry
theorem dL_kept_1324 : decode cL_kept 1324 = .ok (.i2l, 1) := sorry
theorem dL_kept_1325 : decode cL_kept 1325 = .ok (.lcmp, 1) := sorry
theorem dL_kept_1326 : decode cL_kept 1326 = .ok (.ifCond .ne 56, 3) := sorry
theorem dL_kept_1329 : decode cL_kept 1329 = .ok (.lload 10, 2) := sorry
theorem dL_kept_1331 : decode cL_kept 1331 = .ok (.aload_n 0, 1) := sorry
theorem dL_kept_1332 : decode cL_kept 1332 = .ok (.iconst 3, 1) := sorry
theorem dL_kept_1333 : decode cL_kept 1333 = .ok (.invokestatic 125, 3) := sorry
theorem dL_kept_1336 : decode cL_kept 1336 = .ok (.lcmp, 1) := sorry
theorem dL_kept_1337 : decode cL_kept 1337 = .ok (.ifCond .ne 45, 3) := sorry
theorem dL_kept_1340 : decode cL_kept 1340 = .ok (.aload_n 0, 1) := sorry
theorem dL_kept_1341 : decode cL_kept 1341 = .ok (.lload 10, 2) := sorry
theorem dL_kept_1343 : decode cL_kept 1343 = .ok (.l2i, 1) := sorry
theorem dL_kept_1344 : decode cL_kept 1344 = .ok (.invokestatic 139, 3) := sorry
theorem dL_kept_1347 : decode cL_kept 1347 = .ok (.ldc2_w 183, 3) := sorry
theorem dL_kept_1350 : decode cL_kept 1350 = .ok (.lcmp, 1) := sorry
theorem dL_kept_1351 : decode cL_kept 1351 = .ok (.ifCond .ne 31, 3) := sorry
theorem dL_kept_1354 : decode cL_kept 1354 = .ok (.lload 12, 2) := sorry
theorem dL_kept_1356 : decode cL_kept 1356 = .ok (.aload_n 0, 1) := sorry
theorem dL_kept_1357 : decode cL_kept 1357 = .ok (.bipush 10, 2) := sorry
theorem dL_kept_1359 : decode cL_kept 1359 = .ok (.invokestatic 125, 3) := sorry
theorem dL_kept_1362 : decode cL_kept 1362 = .ok (.lcmp, 1) := sorry
theorem dL_kept_1363 : decode cL_kept 1363 = .ok (.ifCond .ne 19, 3) := sorry
theorem dL_kept_1366 : decode cL_kept 1366 = .ok (.lload 16, 2) := sorry
theorem dL_kept_1368 : decode cL_kept 1368 = .ok (.aload_n 0, 1) := sorry
theorem dL_kept_1369 : decode cL_kept 1369 = .ok (.bipush 9, 2) := sorry
theorem dL_kept_1371 : decode cL_kept 1371 = .ok (.invokestatic 125, 3) := sorry
theorem dL_kept_1374 : decode cL_kept 1374 = .ok (.lcmp, 1) := sorry
theorem dL_kept_1375 : decode cL_kept 1375 = .ok (.ifCond .ne 7, 3) := sorry
theorem dL_kept_1378 : decode cL_kept 1378 = .ok (.iconst 1, 1) := sorry
theorem dL_kept_1379 : decode cL_kept 1379 = .ok (.goto 4, 3) := sorry
theorem dL_kept_1382 : decode cL_kept 1382 = .ok (.iconst 0, 1) := sorry
theorem dL_kept_1383 : decode cL_kept 1383 = .ok (.ireturn, 1) := sorry
theorem dL_follows_0 : decode cL_follows 0 = .ok (.aload_n 0, 1) := sorry
theorem dL_follows_1 : decode cL_follows 1 = .ok (.invokestatic 141, 3) := sorry
theorem dL_follows_4 : decode cL_follows 4 = .ok (.lstore_n 2, 1) := sorry
theorem dL_follows_5 : decode cL_follows 5 = .ok (.aload_n 0, 1) := sorry
theorem dL_follows_6 : decode cL_follows 6 = .ok (.iconst 1, 1) := sorry
theorem dL_follows_7 : decode cL_follows 7 = .ok (.invokestatic 125, 3) := sorry
theorem dL_follows_10 : decode cL_follows 10 = .ok (.lstore 4, 2) := sorry
theorem dL_follows_12 : decode cL_follows 12 = .ok (.aload_n 0, 1) := sorry
theorem dL_follows_13 : decode cL_follows 13 = .ok (.iconst 0, 1) := sorry
theorem dL_follows_14 : decode cL_follows 14 = .ok (.invokestatic 125, 3) := sorry
theorem dL_follows_17 : decode cL_follows 17 = .ok (.l2i, 1) := sorry
theorem dL_follows_18 : decode cL_follows 18 = .ok (.istore 6, 2) := sorry
theorem dL_follows_20 : decode cL_follows 20 = .ok (.aload_n 0, 1) := sorry
theorem dL_follows_21 : decode cL_follows 21 = .ok (.iconst 2, 1) := sorry
theorem dL_follows_22 : decode cL_follows 22 = .ok (.invokestatic 125, 3) := sorry
theorem dL_follows_25 : decode cL_follows 25 = .ok (.l2i, 1) := sorry
theorem dL_follows_26 : decode cL_follows 26 = .ok (.istore 7, 2) := sorry
theorem dL_follows_28 : decode cL_follows 28 = .ok (.iconst 1, 1) := sorry
theorem dL_follows_29 : decode cL_follows 29 = .ok (.iload_n 1, 1) := sorry
theorem dL_follows_30 : decode cL_follows 30 = .ok (.bipush 20, 2) := sorry
theorem dL_follows_32 : decode cL_follows 32 = .ok (.irem, 1) := sorry
theorem dL_follows_33 : decode cL_follows 33 = .ok (.iadd, 1) := sorry
theorem dL_follows_34 : decode cL_follows 34 = .ok (.istore 8, 2) := sorry
theorem dL_follows_36 : decode cL_follows 36 = .ok (.aload_n 0, 1) := sorry
theorem dL_follows_37 : decode cL_follows 37 = .ok (.iconst 4, 1) := sorry
theorem dL_follows_38 : decode cL_follows 38 = .ok (.invokestatic 125, 3) := sorry
theorem dL_follows_41 : decode cL_follows 41 = .ok (.lstore 9, 2) := sorry
theorem dL_follows_43 : decode cL_follows 43 = .ok (.aload_n 0, 1) := sorry
theorem dL_follows_44 : decode cL_follows 44 = .ok (.iconst 5, 1) := sorry
theorem dL_follows_45 : decode cL_follows 45 = .ok (.invokestatic 125, 3) := sorry
theorem dL_follows_48 : decode cL_follows 48 = .ok (.lstore 11, 2) := sorry
theorem dL_follows_50 : decode cL_follows 50 = .ok (.aload_n 0, 1) := sorry
theorem dL_follows_51 : decode cL_follows 51 = .ok (.bipush 6, 2) := sorry
theorem dL_follows_53 : decode cL_follows 53 = .ok (.invokestatic 125, 3) := sorry
theorem dL_follows_56 : decode cL_follows 56 = .ok (.lstore 13, 2) := sorry
theorem dL_follows_58 : decode cL_follows 58 = .ok (.aload_n 0, 1) := sorry
theorem dL_follows_59 : decode cL_follows 59 = .ok (.bipush 7, 2) := sorry
theorem dL_follows_61 : decode cL_follows 61 = .ok (.invokestatic 125, 3) := sorry
theorem dL_follows_64 : decode cL_follows 64 = .ok (.lstore 15, 2) := sorry
theorem dL_follows_66 : decode cL_follows 66 = .ok (.aload_n 0, 1) := sorry
theorem dL_follows_67 : decode cL_follows 67 = .ok (.iconst 1, 1) := sorry
theorem dL_follows_68 : decode cL_follows 68 = .ok (.invokestatic 196, 3) := sorry
theorem dL_follows_71 : decode cL_follows 71 = .ok (.lload 4, 2) := sorry
theorem dL_follows_73 : decode cL_follows 73 = .ok (.lcmp, 1) := sorry
theorem dL_follows_74 : decode cL_follows 74 = .ok (.ifCond .ne 34, 3) := sorry
theorem dL_follows_77 : decode cL_follows 77 = .ok (.aload_n 0, 1) := sorry
theorem dL_follows_78 : decode cL_follows 78 = .ok (.iload_n 1, 1) := sorry
theorem dL_follows_79 : decode cL_follows 79 = .ok (.i2l, 1) := sorry
theorem dL_follows_80 : decode cL_follows 80 = .ok (.iconst 5, 1) := sorry
theorem dL_follows_81 : decode cL_follows 81 = .ok (.invokestatic 193, 3) := sorry
theorem dL_follows_84 : decode cL_follows 84 = .ok (.aload_n 0, 1) := sorry
theorem dL_follows_85 : decode cL_follows 85 = .ok (.iload_n 1, 1) := sorry
theorem dL_follows_86 : decode cL_follows 86 = .ok (.i2l, 1) := sorry
theorem dL_follows_87 : decode cL_follows 87 = .ok (.iconst 5, 1) := sorry
theorem dL_follows_88 : decode cL_follows 88 = .ok (.invokestatic 193, 3) := sorry
theorem dL_follows_91 : decode cL_follows 91 = .ok (.lcmp, 1) := sorry
theorem dL_follows_92 : decode cL_follows 92 = .ok (.ifCond .ne 16, 3) := sorry
theorem dL_follows_95 : decode cL_follows 95 = .ok (.aload_n 0, 1) := sorry
theorem dL_follows_96 : decode cL_follows 96 = .ok (.invokestatic 141, 3) := sorry
theorem dL_follows_99 : decode cL_follows 99 = .ok (.lload_n 2, 1) := sorry
theorem dL_follows_100 : decode cL_follows 100 = .ok (.lcmp, 1) := sorry
theorem dL_follows_101 : decode cL_follows 101 = .ok (.ifCond .ne 7, 3) := sorry
theorem dL_follows_104 : decode cL_follows 104 = .ok (.iconst 1, 1) := sorry
theorem dL_follows_105 : decode cL_follows 105 = .ok (.goto 4, 3) := sorry
theorem dL_follows_108 : decode cL_follows 108 = .ok (.iconst 0, 1) := sorry
theorem dL_follows_109 : decode cL_follows 109 = .ok (.istore 17, 2) := sorry
theorem dL_follows_111 : decode cL_follows 111 = .ok (.aload_n 0, 1) := sorry
theorem dL_follows_112 : decode cL_follows 112 = .ok (.iload 8, 2) := sorry
theorem dL_follows_114 : decode cL_follows 114 = .ok (.iconst 0, 1) := sorry
theorem dL_follows_115 : decode cL_follows 115 = .ok (.invokestatic 179, 3) := sorry
theorem dL_follows_118 : decode cL_follows 118 = .ok (.lstore 18, 2) := sorry
theorem dL_follows_120 : decode cL_follows 120 = .ok (.aload_n 0, 1) := sorry
theorem dL_follows_121 : decode cL_follows 121 = .ok (.iload 8, 2) := sorry
theorem dL_follows_123 : decode cL_follows 123 = .ok (.iconst 1, 1) := sorry
theorem dL_follows_124 : decode cL_follows 124 = .ok (.invokestatic 179, 3) := sorry
theorem dL_follows_127 : decode cL_follows 127 = .ok (.lstore 20, 2) := sorry
theorem dL_follows_129 : decode cL_follows 129 = .ok (.aload_n 0, 1) := sorry
theorem dL_follows_130 : decode cL_follows 130 = .ok (.iload 8, 2) := sorry
theorem dL_follows_132 : decode cL_follows 132 = .ok (.iconst 2, 1) := sorry
theorem dL_follows_133 : decode cL_follows 133 = .ok (.invokestatic 179, 3) := sorry
theorem dL_follows_136 : decode cL_follows 136 = .ok (.lstore 22, 2) := sorry
theorem dL_follows_138 : decode cL_follows 138 = .ok (.aload_n 0, 1) := sorry
theorem dL_follows_139 : decode cL_follows 139 = .ok (.iload 8, 2) := sorry
theorem dL_follows_141 : decode cL_follows 141 = .ok (.iconst 3, 1) := sorry
theorem dL_follows_142 : decode cL_follows 142 = .ok (.invokestatic 179, 3) := sorry
theorem dL_follows_145 : decode cL_follows 145 = .ok (.lstore 24, 2) := sorry
theorem dL_follows_147 : decode cL_follows 147 = .ok (.aload_n 0, 1) := sorry
theorem dL_follows_148 : decode cL_follows 148 = .ok (.iload 8, 2) := sorry
theorem dL_follows_150 : decode cL_follows 150 = .ok (.iconst 4, 1) := sorry
theorem dL_follows_151 : decode cL_follows 151 = .ok (.invokestatic 179, 3) := sorry
theorem dL_follows_154 : decode cL_follows 154 = .ok (.lstore 26, 2) := sorry
theorem dL_follows_156 : decode cL_follows 156 = .ok (.iload 17, 2) := sorry
theorem dL_follows_158 : decode cL_follows 158 = .ok (.ifCond .eq 121, 3) := sorry
theorem dL_follows_161 : decode cL_follows 161 = .ok (.aload_n 0, 1) := sorry
theorem dL_follows_162 : decode cL_follows 162 = .ok (.iload 8, 2) := sorry
theorem dL_follows_164 : decode cL_follows 164 = .ok (.invokestatic 171, 3) := sorry
theorem dL_follows_167 : decode cL_follows 167 = .ok (.lload 18, 2) := sorry
theorem dL_follows_169 : decode cL_follows 169 = .ok (.lcmp, 1) := sorry
theorem dL_follows_170 : decode cL_follows 170 = .ok (.ifCond .ne 109, 3) := sorry
theorem dL_follows_173 : decode cL_follows 173 = .ok (.aload_n 0, 1) := sorry
theorem dL_follows_174 : decode cL_follows 174 = .ok (.iconst 1, 1) := sorry
theorem dL_follows_175 : decode cL_follows 175 = .ok (.invokestatic 125, 3) := sorry
theorem dL_follows_178 : decode cL_follows 178 = .ok (.lload 4, 2) := sorry
theorem dL_follows_180 : decode cL_follows 180 = .ok (.iload 8, 2) := sorry
theorem dL_follows_182 : decode cL_follows 182 = .ok (.i2l, 1) := sorry
theorem dL_follows_183 : decode cL_follows 183 = .ok (.ladd, 1) := sorry
theorem dL_follows_184 : decode cL_follows 184 = .ok (.lcmp, 1) := sorry
theorem dL_follows_185 : decode cL_follows 185 = .ok (.ifCond .ne 94, 3) := sorry
theorem dL_follows_188 : decode cL_follows 188 = .ok (.aload_n 0, 1) := sorry
theorem dL_follows_189 : decode cL_follows 189 = .ok (.iconst 4, 1) := sorry
theorem dL_follows_190 : decode cL_follows 190 = .ok (.invokestatic 125, 3) := sorry
theorem dL_follows_193 : decode cL_follows 193 = .ok (.lload 9, 2) := sorry
theorem dL_follows_195 : decode cL_follows 195 = .ok (.lload 18, 2) := sorry
theorem dL_follows_197 : decode cL_follows 197 = .ok (.ladd, 1) := sorry
theorem dL_follows_198 : decode cL_follows 198 = .ok (.lcmp, 1) := sorry
theorem dL_follows_199 : decode cL_follows 199 = .ok (.ifCond .ne 80, 3) := sorry
theorem dL_follows_202 : decode cL_follows 202 = .ok (.aload_n 0, 1) := sorry
theorem dL_follows_203 : decode cL_follows 203 = .ok (.iconst 5, 1) := sorry
theorem dL_follows_204 : decode cL_follows 204 = .ok (.invokestatic 125, 3) := sorry
theorem dL_follows_207 : decode cL_follows 207 = .ok (.lload 11, 2) := sorry
theorem dL_follows_209 : decode cL_follows 209 = .ok (.lload 20, 2) := sorry
theorem dL_follows_211 : decode cL_follows 211 = .ok (.ladd, 1) := sorry
theorem dL_follows_212 : decode cL_follows 212 = .ok (.lcmp, 1) := sorry
theorem dL_follows_213 : decode cL_follows 213 = .ok (.ifCond .ne 66, 3) := sorry
theorem dL_follows_216 : decode cL_follows 216 = .ok (.aload_n 0, 1) := sorry
theorem dL_follows_217 : decode cL_follows 217 = .ok (.bipush 6, 2) := sorry
theorem dL_follows_219 : decode cL_follows 219 = .ok (.invokestatic 125, 3) := sorry
theorem dL_follows_222 : decode cL_follows 222 = .ok (.lload 13, 2) := sorry
theorem dL_follows_224 : decode cL_follows 224 = .ok (.lload 22, 2) := sorry
theorem dL_follows_226 : decode cL_follows 226 = .ok (.ladd, 1) := sorry
theorem dL_follows_227 : decode cL_follows 227 = .ok (.lcmp, 1) := sorry
theorem dL_follows_228 : decode cL_follows 228 = .ok (.ifCond .ne 51, 3) := sorry
theorem dL_follows_231 : decode cL_follows 231 = .ok (.aload_n 0, 1) := sorry
theorem dL_follows_232 : decode cL_follows 232 = .ok (.bipush 7, 2) := sorry
theorem dL_follows_234 : decode cL_follows 234 = .ok (.invokestatic 125, 3) := sorry
theorem dL_follows_237 : decode cL_follows 237 = .ok (.lload 15, 2) := sorry
theorem dL_follows_239 : decode cL_follows 239 = .ok (.lload 24, 2) := sorry
theorem dL_follows_241 : decode cL_follows 241 = .ok (.ladd, 1) := sorry
theorem dL_follows_242 : decode cL_follows 242 = .ok (.lcmp, 1) := sorry
theorem dL_follows_243 : decode cL_follows 243 = .ok (.ifCond .ne 36, 3) := sorry
theorem dL_follows_246 : decode cL_follows 246 = .ok (.aload_n 0, 1) := sorry
theorem dL_follows_247 : decode cL_follows 247 = .ok (.iconst 3, 1) := sorry
theorem dL_follows_248 : decode cL_follows 248 = .ok (.invokestatic 125, 3) := sorry
theorem dL_follows_251 : decode cL_follows 251 = .ok (.lload 26, 2) := sorry
theorem dL_follows_253 : decode cL_follows 253 = .ok (.lcmp, 1) := sorry
theorem dL_follows_254 : decode cL_follows 254 = .ok (.ifCond .ne 25, 3) := sorry
theorem dL_follows_257 : decode cL_follows 257 = .ok (.aload_n 0, 1) := sorry
theorem dL_follows_258 : decode cL_follows 258 = .ok (.invokestatic 240, 3) := sorry
theorem dL_follows_261 : decode cL_follows 261 = .ok (.lconst 0, 1) := sorry
theorem dL_follows_262 : decode cL_follows 262 = .ok (.lcmp, 1) := sorry
theorem dL_follows_263 : decode cL_follows 263 = .ok (.ifCond .lt 16, 3) := sorry
theorem dL_follows_266 : decode cL_follows 266 = .ok (.aload_n 0, 1) := sorry
theorem dL_follows_267 : decode cL_follows 267 = .ok (.invokestatic 141, 3) := sorry
theorem dL_follows_270 : decode cL_follows 270 = .ok (.lload_n 2, 1) := sorry
theorem dL_follows_271 : decode cL_follows 271 = .ok (.lcmp, 1) := sorry
theorem dL_follows_272 : decode cL_follows 272 = .ok (.ifCond .ne 7, 3) := sorry
theorem dL_follows_275 : decode cL_follows 275 = .ok (.iconst 1, 1) := sorry
theorem dL_follows_276 : decode cL_follows 276 = .ok (.goto 4, 3) := sorry
theorem dL_follows_279 : decode cL_follows 279 = .ok (.iconst 0, 1) := sorry
theorem dL_follows_280 : decode cL_follows 280 = .ok (.istore 17, 2) := sorry
theorem dL_follows_282 : decode cL_follows 282 = .ok (.iload 17, 2) := sorry
theorem dL_follows_284 : decode cL_follows 284 = .ok (.ifCond .eq 105, 3) := sorry
theorem dL_follows_287 : decode cL_follows 287 = .ok (.aload_n 0, 1) := sorry
theorem dL_follows_288 : decode cL_follows 288 = .ok (.iconst 3, 1) := sorry
theorem dL_follows_289 : decode cL_follows 289 = .ok (.invokestatic 125, 3) := sorry
theorem dL_follows_292 : decode cL_follows 292 = .ok (.lconst 0, 1) := sorry
theorem dL_follows_293 : decode cL_follows 293 = .ok (.lcmp, 1) := sorry
theorem dL_follows_294 : decode cL_follows 294 = .ok (.ifCond .ne 95, 3) := sorry
theorem dL_follows_297 : decode cL_follows 297 = .ok (.iconst 4, 1) := sorry
theorem dL_follows_298 : decode cL_follows 298 = .ok (.newarray .int, 2) := sorry
theorem dL_follows_300 : decode cL_follows 300 = .ok (.astore 28, 2) := sorry
theorem dL_follows_302 : decode cL_follows 302 = .ok (.iconst 0, 1) := sorry
theorem dL_follows_303 : decode cL_follows 303 = .ok (.istore 29, 2) := sorry
theorem dL_follows_305 : decode cL_follows 305 = .ok (.iload 29, 2) := sorry
theorem dL_follows_307 : decode cL_follows 307 = .ok (.iload 7, 2) := sorry
theorem dL_follows_309 : decode cL_follows 309 = .ok (.if_icmp .ge 36, 3) := sorry
theorem dL_follows_312 : decode cL_follows 312 = .ok (.aload_n 0, 1) := sorry
theorem dL_follows_313 : decode cL_follows 313 = .ok (.iload 29, 2) := sorry
theorem dL_follows_315 : decode cL_follows 315 = .ok (.iconst 0, 1) := sorry
theorem dL_follows_316 : decode cL_follows 316 = .ok (.invokestatic 137, 3) := sorry
theorem dL_follows_319 : decode cL_follows 319 = .ok (.lload 4, 2) := sorry
theorem dL_follows_321 : decode cL_follows 321 = .ok (.lcmp, 1) := sorry
theorem dL_follows_322 : decode cL_follows 322 = .ok (.ifCond .ne 17, 3) := sorry
theorem dL_follows_325 : decode cL_follows 325 = .ok (.aload 28, 2) := sorry
theorem dL_follows_327 : decode cL_follows 327 = .ok (.aload_n 0, 1) := sorry
theorem dL_follows_328 : decode cL_follows 328 = .ok (.iload 29, 2) := sorry
theorem dL_follows_330 : decode cL_follows 330 = .ok (.invokestatic 181, 3) := sorry
theorem dL_follows_333 : decode cL_follows 333 = .ok (.l2i, 1) := sorry
theorem dL_follows_334 : decode cL_follows 334 = .ok (.dup2, 1) := sorry
theorem dL_follows_335 : decode cL_follows 335 = .ok (.iaload, 1) := sorry
theorem dL_follows_336 : decode cL_follows 336 = .ok (.iconst 1, 1) := sorry
theorem dL_follows_337 : decode cL_follows 337 = .ok (.iadd, 1) := sorry
theorem dL_follows_338 : decode cL_follows 338 = .ok (.iastore, 1) := sorry
theorem dL_follows_339 : decode cL_follows 339 = .ok (.iinc 29 1, 3) := sorry
theorem dL_follows_342 : decode cL_follows 342 = .ok (.goto (-37), 3) := sorry
theorem dL_follows_345 : decode cL_follows 345 = .ok (.iconst 0, 1) := sorry
theorem dL_follows_346 : decode cL_follows 346 = .ok (.istore 29, 2) := sorry
theorem dL_follows_348 : decode cL_follows 348 = .ok (.iload 29, 2) := sorry
theorem dL_follows_350 : decode cL_follows 350 = .ok (.iconst 4, 1) := sorry
theorem dL_follows_351 : decode cL_follows 351 = .ok (.if_icmp .ge 38, 3) := sorry
theorem dL_follows_354 : decode cL_follows 354 = .ok (.iload 17, 2) := sorry
theorem dL_follows_356 : decode cL_follows 356 = .ok (.ifCond .eq 33, 3) := sorry
theorem dL_follows_359 : decode cL_follows 359 = .ok (.aload_n 0, 1) := sorry
theorem dL_follows_360 : decode cL_follows 360 = .ok (.iconst 1, 1) := sorry
theorem dL_follows_361 : decode cL_follows 361 = .ok (.iload 29, 2) := sorry
theorem dL_follows_363 : decode cL_follows 363 = .ok (.invokestatic 179, 3) := sorry
theorem dL_follows_366 : decode cL_follows 366 = .ok (.aload 28, 2) := sorry
theorem dL_follows_368 : decode cL_follows 368 = .ok (.iload 29, 2) := sorry
theorem dL_follows_370 : decode cL_follows 370 = .ok (.iaload, 1) := sorry
theorem dL_follows_371 : decode cL_follows 371 = .ok (.i2l, 1) := sorry
theorem dL_follows_372 : decode cL_follows 372 = .ok (.lcmp, 1) := sorry
theorem dL_follows_373 : decode cL_follows 373 = .ok (.ifCond .ne 7, 3) := sorry
theorem dL_follows_376 : decode cL_follows 376 = .ok (.iconst 1, 1) := sorry
theorem dL_follows_377 : decode cL_follows 377 = .ok (.goto 4, 3) := sorry
theorem dL_follows_380 : decode cL_follows 380 = .ok (.iconst 0, 1) := sorry
theorem dL_follows_381 : decode cL_follows 381 = .ok (.istore 17, 2) := sorry
theorem dL_follows_383 : decode cL_follows 383 = .ok (.iinc 29 1, 3) := sorry
theorem dL_follows_386 : decode cL_follows 386 = .ok (.goto (-38), 3) := sorry
theorem dL_follows_389 : decode cL_follows 389 = .ok (.iconst 0, 1) := sorry
theorem dL_follows_390 : decode cL_follows 390 = .ok (.istore 28, 2) := sorry
theorem dL_follows_392 : decode cL_follows 392 = .ok (.iload 28, 2) := sorry
theorem dL_follows_394 : decode cL_follows 394 = .ok (.iload 6, 2) := sorry
theorem dL_follows_396 : decode cL_follows 396 = .ok (.if_icmp .ge 460, 3) := sorry
theorem dL_follows_399 : decode cL_follows 399 = .ok (.iload 17, 2) := sorry
theorem dL_follows_401 : decode cL_follows 401 = .ok (.ifCond .eq 455, 3) := sorry
theorem dL_follows_404 : decode cL_follows 404 = .ok (.iload_n 1, 1) := sorry
theorem dL_follows_405 : decode cL_follows 405 = .ok (.sipush 1000, 3) := sorry
theorem dL_follows_408 : decode cL_follows 408 = .ok (.irem, 1) := sorry
theorem dL_follows_409 : decode cL_follows 409 = .ok (.iload 28, 2) := sorry
theorem dL_follows_411 : decode cL_follows 411 = .ok (.iadd, 1) := sorry
theorem dL_follows_412 : decode cL_follows 412 = .ok (.bipush 10, 2) := sorry
theorem dL_follows_414 : decode cL_follows 414 = .ok (.irem, 1) := sorry
theorem dL_follows_415 : decode cL_follows 415 = .ok (.istore 29, 2) := sorry
theorem dL_follows_417 : decode cL_follows 417 = .ok (.aload_n 0, 1) := sorry
theorem dL_follows_418 : decode cL_follows 418 = .ok (.iload 28, 2) := sorry
theorem dL_follows_420 : decode cL_follows 420 = .ok (.iload 29, 2) := sorry
theorem dL_follows_422 : decode cL_follows 422 = .ok (.invokestatic 177, 3) := sorry
theorem dL_follows_425 : decode cL_follows 425 = .ok (.lstore 30, 2) := sorry
theorem dL_follows_427 : decode cL_follows 427 = .ok (.iload_n 1, 1) := sorry
theorem dL_follows_428 : decode cL_follows 428 = .ok (.sipush 1000, 3) := sorry
theorem dL_follows_431 : decode cL_follows 431 = .ok (.irem, 1) := sorry
theorem dL_follows_432 : decode cL_follows 432 = .ok (.iconst 3, 1) := sorry
theorem dL_follows_433 : decode cL_follows 433 = .ok (.iload 28, 2) := sorry
theorem dL_follows_435 : decode cL_follows 435 = .ok (.imul, 1) := sorry
theorem dL_follows_436 : decode cL_follows 436 = .ok (.iadd, 1) := sorry
theorem dL_follows_437 : decode cL_follows 437 = .ok (.bipush 8, 2) := sorry
theorem dL_follows_439 : decode cL_follows 439 = .ok (.irem, 1) := sorry
theorem dL_follows_440 : decode cL_follows 440 = .ok (.istore 32, 2) := sorry
theorem dL_follows_442 : decode cL_follows 442 = .ok (.lload 4, 2) := sorry
theorem dL_follows_444 : decode cL_follows 444 = .ok (.l2i, 1) := sorry
theorem dL_follows_445 : decode cL_follows 445 = .ok (.iload_n 1, 1) := sorry
theorem dL_follows_446 : decode cL_follows 446 = .ok (.sipush 1000, 3) := sorry
theorem dL_follows_449 : decode cL_follows 449 = .ok (.irem, 1) := sorry
theorem dL_follows_450 : decode cL_follows 450 = .ok (.iload 28, 2) := sorry
theorem dL_follows_452 : decode cL_follows 452 = .ok (.iadd, 1) := sorry
theorem dL_follows_453 : decode cL_follows 453 = .ok (.bipush 6, 2) := sorry
theorem dL_follows_455 : decode cL_follows 455 = .ok (.irem, 1) := sorry
theorem dL_follows_456 : decode cL_follows 456 = .ok (.iadd, 1) := sorry
theorem dL_follows_457 : decode cL_follows 457 = .ok (.istore 33, 2) := sorry
theorem dL_follows_459 : decode cL_follows 459 = .ok (.iload 33, 2) := sorry
theorem dL_follows_461 : decode cL_follows 461 = .ok (.sipush 9999, 3) := sorry
theorem dL_follows_464 : decode cL_follows 464 = .ok (.if_icmp .le 9, 3) := sorry
theorem dL_follows_467 : decode cL_follows 467 = .ok (.ldc2_w 17, 3) := sorry
theorem dL_follows_470 : decode cL_follows 470 = .ok (.goto 15, 3) := sorry
theorem dL_follows_473 : decode cL_follows 473 = .ok (.aload_n 0, 1) := sorry
theorem dL_follows_474 : decode cL_follows 474 = .ok (.iload 28, 2) := sorry
theorem dL_follows_476 : decode cL_follows 476 = .ok (.iload 29, 2) := sorry
theorem dL_follows_478 : decode cL_follows 478 = .ok (.iload 33, 2) := sorry
theorem dL_follows_480 : decode cL_follows 480 = .ok (.iload 32, 2) := sorry
theorem dL_follows_482 : decode cL_follows 482 = .ok (.invokestatic 175, 3) := sorry
theorem dL_follows_485 : decode cL_follows 485 = .ok (.lstore 34, 2) := sorry
theorem dL_follows_487 : decode cL_follows 487 = .ok (.lload 34, 2) := sorry
theorem dL_follows_489 : decode cL_follows 489 = .ok (.lconst 0, 1) := sorry
theorem dL_follows_490 : decode cL_follows 490 = .ok (.lcmp, 1) := sorry
theorem dL_follows_491 : decode cL_follows 491 = .ok (.ifCond .ne 107, 3) := sorry
theorem dL_follows_494 : decode cL_follows 494 = .ok (.lload 30, 2) := sorry
theorem dL_follows_496 : decode cL_follows 496 = .ok (.ldc2_w 183, 3) := sorry
theorem dL_follows_499 : decode cL_follows 499 = .ok (.lcmp, 1) := sorry
theorem dL_follows_500 : decode cL_follows 500 = .ok (.ifCond .eq 92, 3) := sorry
theorem dL_follows_503 : decode cL_follows 503 = .ok (.lload 30, 2) := sorry
theorem dL_follows_505 : decode cL_follows 505 = .ok (.ldc2_w 202, 3) := sorry
theorem dL_follows_508 : decode cL_follows 508 = .ok (.iload 33, 2) := sorry
theorem dL_follows_510 : decode cL_follows 510 = .ok (.i2l, 1) := sorry
theorem dL_follows_511 : decode cL_follows 511 = .ok (.lmul, 1) := sorry
theorem dL_follows_512 : decode cL_follows 512 = .ok (.iload 32, 2) := sorry
theorem dL_follows_514 : decode cL_follows 514 = .ok (.i2l, 1) := sorry
theorem dL_follows_515 : decode cL_follows 515 = .ok (.ladd, 1) := sorry
theorem dL_follows_516 : decode cL_follows 516 = .ok (.lcmp, 1) := sorry
theorem dL_follows_517 : decode cL_follows 517 = .ok (.ifCond .gt 75, 3) := sorry
theorem dL_follows_520 : decode cL_follows 520 = .ok (.aload_n 0, 1) := sorry
theorem dL_follows_521 : decode cL_follows 521 = .ok (.iload 28, 2) := sorry
theorem dL_follows_523 : decode cL_follows 523 = .ok (.iload 29, 2) := sorry
theorem dL_follows_525 : decode cL_follows 525 = .ok (.iload 33, 2) := sorry
theorem dL_follows_527 : decode cL_follows 527 = .ok (.iload 32, 2) := sorry
theorem dL_follows_529 : decode cL_follows 529 = .ok (.invokestatic 156, 3) := sorry
theorem dL_follows_532 : decode cL_follows 532 = .ok (.lconst 0, 1) := sorry
theorem dL_follows_533 : decode cL_follows 533 = .ok (.lcmp, 1) := sorry
theorem dL_follows_534 : decode cL_follows 534 = .ok (.ifCond .lt 58, 3) := sorry
theorem dL_follows_537 : decode cL_follows 537 = .ok (.aload_n 0, 1) := sorry
theorem dL_follows_538 : decode cL_follows 538 = .ok (.iconst 2, 1) := sorry
theorem dL_follows_539 : decode cL_follows 539 = .ok (.invokestatic 125, 3) := sorry
theorem dL_follows_542 : decode cL_follows 542 = .ok (.iload 7, 2) := sorry
theorem dL_follows_544 : decode cL_follows 544 = .ok (.i2l, 1) := sorry
theorem dL_follows_545 : decode cL_follows 545 = .ok (.lconst 1, 1) := sorry
theorem dL_follows_546 : decode cL_follows 546 = .ok (.ladd, 1) := sorry
theorem dL_follows_547 : decode cL_follows 547 = .ok (.lcmp, 1) := sorry
theorem dL_follows_548 : decode cL_follows 548 = .ok (.ifCond .ne 44, 3) := sorry
theorem dL_follows_551 : decode cL_follows 551 = .ok (.aload_n 0, 1) := sorry
theorem dL_follows_552 : decode cL_follows 552 = .ok (.iload 28, 2) := sorry
theorem dL_follows_554 : decode cL_follows 554 = .ok (.iload 29, 2) := sorry
theorem dL_follows_556 : decode cL_follows 556 = .ok (.iload 33, 2) := sorry
theorem dL_follows_558 : decode cL_follows 558 = .ok (.iload 32, 2) := sorry
theorem dL_follows_560 : decode cL_follows 560 = .ok (.invokestatic 175, 3) := sorry
theorem dL_follows_563 : decode cL_follows 563 = .ok (.ldc2_w 222, 3) := sorry
theorem dL_follows_566 : decode cL_follows 566 = .ok (.lcmp, 1) := sorry
theorem dL_follows_567 : decode cL_follows 567 = .ok (.ifCond .lt 25, 3) := sorry
theorem dL_follows_570 : decode cL_follows 570 = .ok (.aload_n 0, 1) := sorry
theorem dL_follows_571 : decode cL_follows 571 = .ok (.invokestatic 240, 3) := sorry
theorem dL_follows_574 : decode cL_follows 574 = .ok (.lconst 0, 1) := sorry
theorem dL_follows_575 : decode cL_follows 575 = .ok (.lcmp, 1) := sorry
theorem dL_follows_576 : decode cL_follows 576 = .ok (.ifCond .lt 16, 3) := sorry
theorem dL_follows_579 : decode cL_follows 579 = .ok (.aload_n 0, 1) := sorry
theorem dL_follows_580 : decode cL_follows 580 = .ok (.invokestatic 141, 3) := sorry
theorem dL_follows_583 : decode cL_follows 583 = .ok (.lload_n 2, 1) := sorry
theorem dL_follows_584 : decode cL_follows 584 = .ok (.lcmp, 1) := sorry
theorem dL_follows_585 : decode cL_follows 585 = .ok (.ifCond .ne 7, 3) := sorry
theorem dL_follows_588 : decode cL_follows 588 = .ok (.iconst 1, 1) := sorry
theorem dL_follows_589 : decode cL_follows 589 = .ok (.goto 4, 3) := sorry
theorem dL_follows_592 : decode cL_follows 592 = .ok (.iconst 0, 1) := sorry
theorem dL_follows_593 : decode cL_follows 593 = .ok (.istore 17, 2) := sorry
theorem dL_follows_595 : decode cL_follows 595 = .ok (.goto 67, 3) := sorry
theorem dL_follows_598 : decode cL_follows 598 = .ok (.lload 34, 2) := sorry
theorem dL_follows_600 : decode cL_follows 600 = .ok (.ldc2_w 17, 3) := sorry
theorem dL_follows_603 : decode cL_follows 603 = .ok (.lcmp, 1) := sorry
theorem dL_follows_604 : decode cL_follows 604 = .ok (.ifCond .eq 58, 3) := sorry
theorem dL_follows_607 : decode cL_follows 607 = .ok (.lload 34, 2) := sorry
theorem dL_follows_609 : decode cL_follows 609 = .ok (.lconst 1, 1) := sorry
theorem dL_follows_610 : decode cL_follows 610 = .ok (.ldc2_w 202, 3) := sorry
theorem dL_follows_613 : decode cL_follows 613 = .ok (.invokestatic 204, 3) := sorry
theorem dL_follows_616 : decode cL_follows 616 = .ok (.ifCond .eq 43, 3) := sorry
theorem dL_follows_619 : decode cL_follows 619 = .ok (.aload_n 0, 1) := sorry
theorem dL_follows_620 : decode cL_follows 620 = .ok (.iload 28, 2) := sorry
theorem dL_follows_622 : decode cL_follows 622 = .ok (.iload 29, 2) := sorry
theorem dL_follows_624 : decode cL_follows 624 = .ok (.iload 33, 2) := sorry
theorem dL_follows_626 : decode cL_follows 626 = .ok (.iload 32, 2) := sorry
theorem dL_follows_628 : decode cL_follows 628 = .ok (.invokestatic 156, 3) := sorry
theorem dL_follows_631 : decode cL_follows 631 = .ok (.ldc2_w 21, 3) := sorry
theorem dL_follows_634 : decode cL_follows 634 = .ok (.lcmp, 1) := sorry
theorem dL_follows_635 : decode cL_follows 635 = .ok (.ifCond .ne 24, 3) := sorry
theorem dL_follows_638 : decode cL_follows 638 = .ok (.lload 30, 2) := sorry
theorem dL_follows_640 : decode cL_follows 640 = .ok (.ldc2_w 202, 3) := sorry
theorem dL_follows_643 : decode cL_follows 643 = .ok (.iload 33, 2) := sorry
theorem dL_follows_645 : decode cL_follows 645 = .ok (.i2l, 1) := sorry
theorem dL_follows_646 : decode cL_follows 646 = .ok (.lmul, 1) := sorry
theorem dL_follows_647 : decode cL_follows 647 = .ok (.iload 32, 2) := sorry
theorem dL_follows_649 : decode cL_follows 649 = .ok (.i2l, 1) := sorry
theorem dL_follows_650 : decode cL_follows 650 = .ok (.ladd, 1) := sorry
theorem dL_follows_651 : decode cL_follows 651 = .ok (.lcmp, 1) := sorry
theorem dL_follows_652 : decode cL_follows 652 = .ok (.ifCond .eq 7, 3) := sorry
theorem dL_follows_655 : decode cL_follows 655 = .ok (.iconst 1, 1) := sorry
theorem dL_follows_656 : decode cL_follows 656 = .ok (.goto 4, 3) := sorry
theorem dL_follows_659 : decode cL_follows 659 = .ok (.iconst 0, 1) := sorry
theorem dL_follows_660 : decode cL_follows 660 = .ok (.istore 17, 2) := sorry
theorem dL_follows_662 : decode cL_follows 662 = .ok (.iload 17, 2) := sorry
theorem dL_follows_664 : decode cL_follows 664 = .ok (.ifCond .eq 99, 3) := sorry
theorem dL_follows_667 : decode cL_follows 667 = .ok (.lload 30, 2) := sorry
theorem dL_follows_669 : decode cL_follows 669 = .ok (.ldc2_w 183, 3) := sorry
theorem dL_follows_672 : decode cL_follows 672 = .ok (.lcmp, 1) := sorry
theorem dL_follows_673 : decode cL_follows 673 = .ok (.ifCond .eq 90, 3) := sorry
theorem dL_follows_676 : decode cL_follows 676 = .ok (.lload 30, 2) := sorry
theorem dL_follows_678 : decode cL_follows 678 = .ok (.ldc2_w 202, 3) := sorry
theorem dL_follows_681 : decode cL_follows 681 = .ok (.ldiv, 1) := sorry
theorem dL_follows_682 : decode cL_follows 682 = .ok (.ldc2_w 242, 3) := sorry
theorem dL_follows_685 : decode cL_follows 685 = .ok (.lcmp, 1) := sorry
theorem dL_follows_686 : decode cL_follows 686 = .ok (.ifCond .gt 77, 3) := sorry
theorem dL_follows_689 : decode cL_follows 689 = .ok (.aload_n 0, 1) := sorry
theorem dL_follows_690 : decode cL_follows 690 = .ok (.iload 28, 2) := sorry
theorem dL_follows_692 : decode cL_follows 692 = .ok (.iload 29, 2) := sorry
theorem dL_follows_694 : decode cL_follows 694 = .ok (.lload 30, 2) := sorry
theorem dL_follows_696 : decode cL_follows 696 = .ok (.ldc2_w 202, 3) := sorry
theorem dL_follows_699 : decode cL_follows 699 = .ok (.ldiv, 1) := sorry
theorem dL_follows_700 : decode cL_follows 700 = .ok (.l2i, 1) := sorry
theorem dL_follows_701 : decode cL_follows 701 = .ok (.lload 30, 2) := sorry
theorem dL_follows_703 : decode cL_follows 703 = .ok (.ldc2_w 202, 3) := sorry
theorem dL_follows_706 : decode cL_follows 706 = .ok (.lrem, 1) := sorry
theorem dL_follows_707 : decode cL_follows 707 = .ok (.l2i, 1) := sorry
theorem dL_follows_708 : decode cL_follows 708 = .ok (.invokestatic 175, 3) := sorry
theorem dL_follows_711 : decode cL_follows 711 = .ok (.lconst 0, 1) := sorry
theorem dL_follows_712 : decode cL_follows 712 = .ok (.lcmp, 1) := sorry
theorem dL_follows_713 : decode cL_follows 713 = .ok (.ifCond .ne 47, 3) := sorry
theorem dL_follows_716 : decode cL_follows 716 = .ok (.lload 30, 2) := sorry
theorem dL_follows_718 : decode cL_follows 718 = .ok (.ldc2_w 202, 3) := sorry
theorem dL_follows_721 : decode cL_follows 721 = .ok (.lrem, 1) := sorry
theorem dL_follows_722 : decode cL_follows 722 = .ok (.lconst 0, 1) := sorry
theorem dL_follows_723 : decode cL_follows 723 = .ok (.lcmp, 1) := sorry
theorem dL_follows_724 : decode cL_follows 724 = .ok (.ifCond .eq 32, 3) := sorry
theorem dL_follows_727 : decode cL_follows 727 = .ok (.aload_n 0, 1) := sorry
theorem dL_follows_728 : decode cL_follows 728 = .ok (.iload 28, 2) := sorry
theorem dL_follows_730 : decode cL_follows 730 = .ok (.iload 29, 2) := sorry
theorem dL_follows_732 : decode cL_follows 732 = .ok (.lload 30, 2) := sorry
theorem dL_follows_734 : decode cL_follows 734 = .ok (.ldc2_w 202, 3) := sorry
theorem dL_follows_737 : decode cL_follows 737 = .ok (.ldiv, 1) := sorry
theorem dL_follows_738 : decode cL_follows 738 = .ok (.l2i, 1) := sorry
theorem dL_follows_739 : decode cL_follows 739 = .ok (.lload 30, 2) := sorry
theorem dL_follows_741 : decode cL_follows 741 = .ok (.ldc2_w 202, 3) := sorry
theorem dL_follows_744 : decode cL_follows 744 = .ok (.lrem, 1) := sorry
theorem dL_follows_745 : decode cL_follows 745 = .ok (.l2i, 1) := sorry
theorem dL_follows_746 : decode cL_follows 746 = .ok (.iconst 1, 1) := sorry
theorem dL_follows_747 : decode cL_follows 747 = .ok (.isub, 1) := sorry
theorem dL_follows_748 : decode cL_follows 748 = .ok (.invokestatic 175, 3) := sorry
theorem dL_follows_751 : decode cL_follows 751 = .ok (.lconst 0, 1) := sorry
theorem dL_follows_752 : decode cL_follows 752 = .ok (.lcmp, 1) := sorry
theorem dL_follows_753 : decode cL_follows 753 = .ok (.ifCond .le 7, 3) := sorry
theorem dL_follows_756 : decode cL_follows 756 = .ok (.iconst 1, 1) := sorry
theorem dL_follows_757 : decode cL_follows 757 = .ok (.goto 4, 3) := sorry
theorem dL_follows_760 : decode cL_follows 760 = .ok (.iconst 0, 1) := sorry
theorem dL_follows_761 : decode cL_follows 761 = .ok (.istore 17, 2) := sorry
theorem dL_follows_763 : decode cL_follows 763 = .ok (.iload 17, 2) := sorry
theorem dL_follows_765 : decode cL_follows 765 = .ok (.ifCond .eq 85, 3) := sorry
theorem dL_follows_768 : decode cL_follows 768 = .ok (.iload 33, 2) := sorry
theorem dL_follows_770 : decode cL_follows 770 = .ok (.sipush 9999, 3) := sorry
theorem dL_follows_773 : decode cL_follows 773 = .ok (.if_icmp .gt 77, 3) := sorry
theorem dL_follows_776 : decode cL_follows 776 = .ok (.lload 34, 2) := sorry
theorem dL_follows_778 : decode cL_follows 778 = .ok (.lconst 1, 1) := sorry
theorem dL_follows_779 : decode cL_follows 779 = .ok (.lcmp, 1) := sorry
theorem dL_follows_780 : decode cL_follows 780 = .ok (.ifCond .le 70, 3) := sorry
theorem dL_follows_783 : decode cL_follows 783 = .ok (.aload_n 0, 1) := sorry
theorem dL_follows_784 : decode cL_follows 784 = .ok (.iload 28, 2) := sorry
theorem dL_follows_786 : decode cL_follows 786 = .ok (.iconst 2, 1) := sorry
theorem dL_follows_787 : decode cL_follows 787 = .ok (.invokestatic 132, 3) := sorry
theorem dL_follows_790 : decode cL_follows 790 = .ok (.lstore 36, 2) := sorry
theorem dL_follows_792 : decode cL_follows 792 = .ok (.aload_n 0, 1) := sorry
theorem dL_follows_793 : decode cL_follows 793 = .ok (.iload 28, 2) := sorry
theorem dL_follows_795 : decode cL_follows 795 = .ok (.bipush 20, 2) := sorry
theorem dL_follows_797 : decode cL_follows 797 = .ok (.invokestatic 167, 3) := sorry
theorem dL_follows_800 : decode cL_follows 800 = .ok (.lload 36, 2) := sorry
theorem dL_follows_802 : decode cL_follows 802 = .ok (.lcmp, 1) := sorry
theorem dL_follows_803 : decode cL_follows 803 = .ok (.ifCond .ne 44, 3) := sorry
theorem dL_follows_806 : decode cL_follows 806 = .ok (.aload_n 0, 1) := sorry
theorem dL_follows_807 : decode cL_follows 807 = .ok (.iload 28, 2) := sorry
theorem dL_follows_809 : decode cL_follows 809 = .ok (.iload 29, 2) := sorry
theorem dL_follows_811 : decode cL_follows 811 = .ok (.iload 33, 2) := sorry
theorem dL_follows_813 : decode cL_follows 813 = .ok (.iload 32, 2) := sorry
theorem dL_follows_815 : decode cL_follows 815 = .ok (.invokestatic 175, 3) := sorry
theorem dL_follows_818 : decode cL_follows 818 = .ok (.ldc2_w 214, 3) := sorry
theorem dL_follows_821 : decode cL_follows 821 = .ok (.lcmp, 1) := sorry
theorem dL_follows_822 : decode cL_follows 822 = .ok (.ifCond .ne 25, 3) := sorry
theorem dL_follows_825 : decode cL_follows 825 = .ok (.aload_n 0, 1) := sorry
theorem dL_follows_826 : decode cL_follows 826 = .ok (.invokestatic 240, 3) := sorry
theorem dL_follows_829 : decode cL_follows 829 = .ok (.lconst 0, 1) := sorry
theorem dL_follows_830 : decode cL_follows 830 = .ok (.lcmp, 1) := sorry
theorem dL_follows_831 : decode cL_follows 831 = .ok (.ifCond .lt 16, 3) := sorry
theorem dL_follows_834 : decode cL_follows 834 = .ok (.aload_n 0, 1) := sorry
theorem dL_follows_835 : decode cL_follows 835 = .ok (.invokestatic 141, 3) := sorry
theorem dL_follows_838 : decode cL_follows 838 = .ok (.lload_n 2, 1) := sorry
theorem dL_follows_839 : decode cL_follows 839 = .ok (.lcmp, 1) := sorry
theorem dL_follows_840 : decode cL_follows 840 = .ok (.ifCond .ne 7, 3) := sorry
theorem dL_follows_843 : decode cL_follows 843 = .ok (.iconst 1, 1) := sorry
theorem dL_follows_844 : decode cL_follows 844 = .ok (.goto 4, 3) := sorry
theorem dL_follows_847 : decode cL_follows 847 = .ok (.iconst 0, 1) := sorry
theorem dL_follows_848 : decode cL_follows 848 = .ok (.istore 17, 2) := sorry
theorem dL_follows_850 : decode cL_follows 850 = .ok (.iinc 28 1, 3) := sorry
theorem dL_follows_853 : decode cL_follows 853 = .ok (.goto (-461), 3) := sorry
theorem dL_follows_856 : decode cL_follows 856 = .ok (.iload 7, 2) := sorry
theorem dL_follows_858 : decode cL_follows 858 = .ok (.ifCond .le 112, 3) := sorry
theorem dL_follows_861 : decode cL_follows 861 = .ok (.iload 17, 2) := sorry
theorem dL_follows_863 : decode cL_follows 863 = .ok (.ifCond .eq 107, 3) := sorry
theorem dL_follows_866 : decode cL_follows 866 = .ok (.iload_n 1, 1) := sorry
theorem dL_follows_867 : decode cL_follows 867 = .ok (.bipush 7, 2) := sorry
theorem dL_follows_869 : decode cL_follows 869 = .ok (.idiv, 1) := sorry
theorem dL_follows_870 : decode cL_follows 870 = .ok (.iload 7, 2) := sorry
theorem dL_follows_872 : decode cL_follows 872 = .ok (.irem, 1) := sorry
theorem dL_follows_873 : decode cL_follows 873 = .ok (.istore 28, 2) := sorry
theorem dL_follows_875 : decode cL_follows 875 = .ok (.aload_n 0, 1) := sorry
theorem dL_follows_876 : decode cL_follows 876 = .ok (.iload 28, 2) := sorry
theorem dL_follows_878 : decode cL_follows 878 = .ok (.iconst 5, 1) := sorry
theorem dL_follows_879 : decode cL_follows 879 = .ok (.invokestatic 137, 3) := sorry
theorem dL_follows_882 : decode cL_follows 882 = .ok (.lstore 29, 2) := sorry
theorem dL_follows_884 : decode cL_follows 884 = .ok (.aload_n 0, 1) := sorry
theorem dL_follows_885 : decode cL_follows 885 = .ok (.iload 28, 2) := sorry
theorem dL_follows_887 : decode cL_follows 887 = .ok (.invokestatic 159, 3) := sorry
theorem dL_follows_890 : decode cL_follows 890 = .ok (.iload 7, 2) := sorry
theorem dL_follows_892 : decode cL_follows 892 = .ok (.i2l, 1) := sorry
theorem dL_follows_893 : decode cL_follows 893 = .ok (.lconst 1, 1) := sorry
theorem dL_follows_894 : decode cL_follows 894 = .ok (.lsub, 1) := sorry
theorem dL_follows_895 : decode cL_follows 895 = .ok (.lcmp, 1) := sorry
theorem dL_follows_896 : decode cL_follows 896 = .ok (.ifCond .ne 71, 3) := sorry
theorem dL_follows_899 : decode cL_follows 899 = .ok (.aload_n 0, 1) := sorry
theorem dL_follows_900 : decode cL_follows 900 = .ok (.invokestatic 240, 3) := sorry
theorem dL_follows_903 : decode cL_follows 903 = .ok (.lconst 0, 1) := sorry
theorem dL_follows_904 : decode cL_follows 904 = .ok (.lcmp, 1) := sorry
theorem dL_follows_905 : decode cL_follows 905 = .ok (.ifCond .lt 62, 3) := sorry
theorem dL_follows_908 : decode cL_follows 908 = .ok (.aload_n 0, 1) := sorry
theorem dL_follows_909 : decode cL_follows 909 = .ok (.invokestatic 141, 3) := sorry
theorem dL_follows_912 : decode cL_follows 912 = .ok (.lload_n 2, 1) := sorry
theorem dL_follows_913 : decode cL_follows 913 = .ok (.lcmp, 1) := sorry
theorem dL_follows_914 : decode cL_follows 914 = .ok (.ifCond .ne 53, 3) := sorry
theorem dL_follows_917 : decode cL_follows 917 = .ok (.aload_n 0, 1) := sorry
theorem dL_follows_918 : decode cL_follows 918 = .ok (.iload 28, 2) := sorry
theorem dL_follows_920 : decode cL_follows 920 = .ok (.bipush 59, 2) := sorry
theorem dL_follows_922 : decode cL_follows 922 = .ok (.invokestatic 161, 3) := sorry
theorem dL_follows_925 : decode cL_follows 925 = .ok (.lload 29, 2) := sorry
theorem dL_follows_927 : decode cL_follows 927 = .ok (.lcmp, 1) := sorry
theorem dL_follows_928 : decode cL_follows 928 = .ok (.ifCond .ne 39, 3) := sorry
theorem dL_follows_931 : decode cL_follows 931 = .ok (.aload_n 0, 1) := sorry
theorem dL_follows_932 : decode cL_follows 932 = .ok (.iload 28, 2) := sorry
theorem dL_follows_934 : decode cL_follows 934 = .ok (.iconst 5, 1) := sorry
theorem dL_follows_935 : decode cL_follows 935 = .ok (.invokestatic 137, 3) := sorry
theorem dL_follows_938 : decode cL_follows 938 = .ok (.ldc2_w 185, 3) := sorry
theorem dL_follows_941 : decode cL_follows 941 = .ok (.lcmp, 1) := sorry
theorem dL_follows_942 : decode cL_follows 942 = .ok (.ifCond .ne 25, 3) := sorry
theorem dL_follows_945 : decode cL_follows 945 = .ok (.aload_n 0, 1) := sorry
theorem dL_follows_946 : decode cL_follows 946 = .ok (.invokestatic 240, 3) := sorry
theorem dL_follows_949 : decode cL_follows 949 = .ok (.lconst 0, 1) := sorry
theorem dL_follows_950 : decode cL_follows 950 = .ok (.lcmp, 1) := sorry
theorem dL_follows_951 : decode cL_follows 951 = .ok (.ifCond .lt 16, 3) := sorry
theorem dL_follows_954 : decode cL_follows 954 = .ok (.aload_n 0, 1) := sorry
theorem dL_follows_955 : decode cL_follows 955 = .ok (.invokestatic 141, 3) := sorry
theorem dL_follows_958 : decode cL_follows 958 = .ok (.lload_n 2, 1) := sorry
theorem dL_follows_959 : decode cL_follows 959 = .ok (.lcmp, 1) := sorry
theorem dL_follows_960 : decode cL_follows 960 = .ok (.ifCond .ne 7, 3) := sorry
theorem dL_follows_963 : decode cL_follows 963 = .ok (.iconst 1, 1) := sorry
theorem dL_follows_964 : decode cL_follows 964 = .ok (.goto 4, 3) := sorry
theorem dL_follows_967 : decode cL_follows 967 = .ok (.iconst 0, 1) := sorry
theorem dL_follows_968 : decode cL_follows 968 = .ok (.istore 17, 2) := sorry
theorem dL_follows_970 : decode cL_follows 970 = .ok (.iload 17, 2) := sorry
theorem dL_follows_972 : decode cL_follows 972 = .ok (.ifCond .eq 38, 3) := sorry
theorem dL_follows_975 : decode cL_follows 975 = .ok (.aload_n 0, 1) := sorry
theorem dL_follows_976 : decode cL_follows 976 = .ok (.iconst 1, 1) := sorry
theorem dL_follows_977 : decode cL_follows 977 = .ok (.invokestatic 198, 3) := sorry
theorem dL_follows_980 : decode cL_follows 980 = .ok (.lload 4, 2) := sorry
theorem dL_follows_982 : decode cL_follows 982 = .ok (.lcmp, 1) := sorry
theorem dL_follows_983 : decode cL_follows 983 = .ok (.ifCond .ne 27, 3) := sorry
theorem dL_follows_986 : decode cL_follows 986 = .ok (.aload_n 0, 1) := sorry
theorem dL_follows_987 : decode cL_follows 987 = .ok (.invokestatic 141, 3) := sorry
theorem dL_follows_990 : decode cL_follows 990 = .ok (.lload_n 2, 1) := sorry
theorem dL_follows_991 : decode cL_follows 991 = .ok (.lcmp, 1) := sorry
theorem dL_follows_992 : decode cL_follows 992 = .ok (.ifCond .ne 18, 3) := sorry
theorem dL_follows_995 : decode cL_follows 995 = .ok (.aload_n 0, 1) := sorry
theorem dL_follows_996 : decode cL_follows 996 = .ok (.invokestatic 240, 3) := sorry
theorem dL_follows_999 : decode cL_follows 999 = .ok (.ldc2_w 21, 3) := sorry
theorem dL_follows_1002 : decode cL_follows 1002 = .ok (.lcmp, 1) := sorry
theorem dL_follows_1003 : decode cL_follows 1003 = .ok (.ifCond .ne 7, 3) := sorry
theorem dL_follows_1006 : decode cL_follows 1006 = .ok (.iconst 1, 1) := sorry
theorem dL_follows_1007 : decode cL_follows 1007 = .ok (.goto 4, 3) := sorry
theorem dL_follows_1010 : decode cL_follows 1010 = .ok (.iconst 0, 1) := sorry
theorem dL_follows_1011 : decode cL_follows 1011 = .ok (.ireturn, 1) := sorry
theorem dL_alike_0 : decode cL_alike 0 = .ok (.aload_n 0, 1) := sorry
theorem dL_alike_1 : decode cL_alike 1 = .ok (.invokestatic 141, 3) := sorry
theorem dL_alike_4 : decode cL_alike 4 = .ok (.aload_n 1, 1) := sorry
theorem dL_alike_5 : decode cL_alike 5 = .ok (.invokestatic 141, 3) := sorry
theorem dL_alike_8 : decode cL_alike 8 = .ok (.lcmp, 1) := sorry
theorem dL_alike_9 : decode cL_alike 9 = .ok (.ifCond .ne 164, 3) := sorry
theorem dL_alike_12 : decode cL_alike 12 = .ok (.aload_n 0, 1) := sorry
theorem dL_alike_13 : decode cL_alike 13 = .ok (.invokevirtual 244, 3) := sorry
theorem dL_alike_16 : decode cL_alike 16 = .ok (.aload_n 1, 1) := sorry
theorem dL_alike_17 : decode cL_alike 17 = .ok (.invokevirtual 244, 3) := sorry
theorem dL_alike_20 : decode cL_alike 20 = .ok (.if_icmp .ne 153, 3) := sorry
theorem dL_alike_23 : decode cL_alike 23 = .ok (.aload_n 0, 1) := sorry
theorem dL_alike_24 : decode cL_alike 24 = .ok (.iconst 1, 1) := sorry
theorem dL_alike_25 : decode cL_alike 25 = .ok (.iload_n 2, 1) := sorry
theorem dL_alike_26 : decode cL_alike 26 = .ok (.bipush 50, 2) := sorry
theorem dL_alike_28 : decode cL_alike 28 = .ok (.irem, 1) := sorry
theorem dL_alike_29 : decode cL_alike 29 = .ok (.iadd, 1) := sorry
theorem dL_alike_30 : decode cL_alike 30 = .ok (.iload_n 2, 1) := sorry
theorem dL_alike_31 : decode cL_alike 31 = .ok (.iconst 5, 1) := sorry
theorem dL_alike_32 : decode cL_alike 32 = .ok (.irem, 1) := sorry
theorem dL_alike_33 : decode cL_alike 33 = .ok (.invokestatic 179, 3) := sorry
theorem dL_alike_36 : decode cL_alike 36 = .ok (.aload_n 1, 1) := sorry
theorem dL_alike_37 : decode cL_alike 37 = .ok (.iconst 1, 1) := sorry
theorem dL_alike_38 : decode cL_alike 38 = .ok (.iload_n 2, 1) := sorry
theorem dL_alike_39 : decode cL_alike 39 = .ok (.bipush 50, 2) := sorry
theorem dL_alike_41 : decode cL_alike 41 = .ok (.irem, 1) := sorry
theorem dL_alike_42 : decode cL_alike 42 = .ok (.iadd, 1) := sorry
theorem dL_alike_43 : decode cL_alike 43 = .ok (.iload_n 2, 1) := sorry
theorem dL_alike_44 : decode cL_alike 44 = .ok (.iconst 5, 1) := sorry
theorem dL_alike_45 : decode cL_alike 45 = .ok (.irem, 1) := sorry
theorem dL_alike_46 : decode cL_alike 46 = .ok (.invokestatic 179, 3) := sorry
theorem dL_alike_49 : decode cL_alike 49 = .ok (.lcmp, 1) := sorry
theorem dL_alike_50 : decode cL_alike 50 = .ok (.ifCond .ne 123, 3) := sorry
theorem dL_alike_53 : decode cL_alike 53 = .ok (.aload_n 0, 1) := sorry
theorem dL_alike_54 : decode cL_alike 54 = .ok (.iload_n 2, 1) := sorry
theorem dL_alike_55 : decode cL_alike 55 = .ok (.bipush 24, 2) := sorry
theorem dL_alike_57 : decode cL_alike 57 = .ok (.irem, 1) := sorry
theorem dL_alike_58 : decode cL_alike 58 = .ok (.invokestatic 181, 3) := sorry
theorem dL_alike_61 : decode cL_alike 61 = .ok (.aload_n 1, 1) := sorry
theorem dL_alike_62 : decode cL_alike 62 = .ok (.iload_n 2, 1) := sorry
theorem dL_alike_63 : decode cL_alike 63 = .ok (.bipush 24, 2) := sorry
theorem dL_alike_65 : decode cL_alike 65 = .ok (.irem, 1) := sorry
theorem dL_alike_66 : decode cL_alike 66 = .ok (.invokestatic 181, 3) := sorry
theorem dL_alike_69 : decode cL_alike 69 = .ok (.lcmp, 1) := sorry
theorem dL_alike_70 : decode cL_alike 70 = .ok (.ifCond .ne 103, 3) := sorry
theorem dL_alike_73 : decode cL_alike 73 = .ok (.aload_n 0, 1) := sorry
theorem dL_alike_74 : decode cL_alike 74 = .ok (.iload_n 2, 1) := sorry
theorem dL_alike_75 : decode cL_alike 75 = .ok (.bipush 8, 2) := sorry
theorem dL_alike_77 : decode cL_alike 77 = .ok (.irem, 1) := sorry
theorem dL_alike_78 : decode cL_alike 78 = .ok (.iload_n 2, 1) := sorry
theorem dL_alike_79 : decode cL_alike 79 = .ok (.bipush 10, 2) := sorry
theorem dL_alike_81 : decode cL_alike 81 = .ok (.irem, 1) := sorry
theorem dL_alike_82 : decode cL_alike 82 = .ok (.invokestatic 177, 3) := sorry
theorem dL_alike_85 : decode cL_alike 85 = .ok (.aload_n 1, 1) := sorry
theorem dL_alike_86 : decode cL_alike 86 = .ok (.iload_n 2, 1) := sorry
theorem dL_alike_87 : decode cL_alike 87 = .ok (.bipush 8, 2) := sorry
theorem dL_alike_89 : decode cL_alike 89 = .ok (.irem, 1) := sorry
theorem dL_alike_90 : decode cL_alike 90 = .ok (.iload_n 2, 1) := sorry
theorem dL_alike_91 : decode cL_alike 91 = .ok (.bipush 10, 2) := sorry
theorem dL_alike_93 : decode cL_alike 93 = .ok (.irem, 1) := sorry
theorem dL_alike_94 : decode cL_alike 94 = .ok (.invokestatic 177, 3) := sorry
theorem dL_alike_97 : decode cL_alike 97 = .ok (.lcmp, 1) := sorry
theorem dL_alike_98 : decode cL_alike 98 = .ok (.ifCond .ne 75, 3) := sorry
theorem dL_alike_101 : decode cL_alike 101 = .ok (.aload_n 0, 1) := sorry
theorem dL_alike_102 : decode cL_alike 102 = .ok (.iload_n 2, 1) := sorry
theorem dL_alike_103 : decode cL_alike 103 = .ok (.bipush 24, 2) := sorry
theorem dL_alike_105 : decode cL_alike 105 = .ok (.irem, 1) := sorry
theorem dL_alike_106 : decode cL_alike 106 = .ok (.iload_n 2, 1) := sorry
theorem dL_alike_107 : decode cL_alike 107 = .ok (.bipush 17, 2) := sorry
theorem dL_alike_109 : decode cL_alike 109 = .ok (.irem, 1) := sorry
theorem dL_alike_110 : decode cL_alike 110 = .ok (.invokestatic 145, 3) := sorry
theorem dL_alike_113 : decode cL_alike 113 = .ok (.aload_n 1, 1) := sorry
theorem dL_alike_114 : decode cL_alike 114 = .ok (.iload_n 2, 1) := sorry
theorem dL_alike_115 : decode cL_alike 115 = .ok (.bipush 24, 2) := sorry
theorem dL_alike_117 : decode cL_alike 117 = .ok (.irem, 1) := sorry
theorem dL_alike_118 : decode cL_alike 118 = .ok (.iload_n 2, 1) := sorry
theorem dL_alike_119 : decode cL_alike 119 = .ok (.bipush 17, 2) := sorry
theorem dL_alike_121 : decode cL_alike 121 = .ok (.irem, 1) := sorry
theorem dL_alike_122 : decode cL_alike 122 = .ok (.invokestatic 145, 3) := sorry
theorem dL_alike_125 : decode cL_alike 125 = .ok (.lcmp, 1) := sorry
theorem dL_alike_126 : decode cL_alike 126 = .ok (.ifCond .ne 47, 3) := sorry
theorem dL_alike_129 : decode cL_alike 129 = .ok (.aload_n 0, 1) := sorry
theorem dL_alike_130 : decode cL_alike 130 = .ok (.iload_n 2, 1) := sorry
theorem dL_alike_131 : decode cL_alike 131 = .ok (.i2l, 1) := sorry
theorem dL_alike_132 : decode cL_alike 132 = .ok (.bipush 15, 2) := sorry
theorem dL_alike_134 : decode cL_alike 134 = .ok (.invokestatic 193, 3) := sorry
theorem dL_alike_137 : decode cL_alike 137 = .ok (.aload_n 1, 1) := sorry
theorem dL_alike_138 : decode cL_alike 138 = .ok (.iload_n 2, 1) := sorry
theorem dL_alike_139 : decode cL_alike 139 = .ok (.i2l, 1) := sorry
theorem dL_alike_140 : decode cL_alike 140 = .ok (.bipush 15, 2) := sorry
theorem dL_alike_142 : decode cL_alike 142 = .ok (.invokestatic 193, 3) := sorry
theorem dL_alike_145 : decode cL_alike 145 = .ok (.lcmp, 1) := sorry
theorem dL_alike_146 : decode cL_alike 146 = .ok (.ifCond .ne 27, 3) := sorry
theorem dL_alike_149 : decode cL_alike 149 = .ok (.aload_n 0, 1) := sorry
theorem dL_alike_150 : decode cL_alike 150 = .ok (.iconst 3, 1) := sorry
theorem dL_alike_151 : decode cL_alike 151 = .ok (.ldc2_w 247, 3) := sorry
theorem dL_alike_154 : decode cL_alike 154 = .ok (.invokestatic 187, 3) := sorry
theorem dL_alike_157 : decode cL_alike 157 = .ok (.aload_n 1, 1) := sorry
theorem dL_alike_158 : decode cL_alike 158 = .ok (.iconst 3, 1) := sorry
theorem dL_alike_159 : decode cL_alike 159 = .ok (.ldc2_w 247, 3) := sorry
theorem dL_alike_162 : decode cL_alike 162 = .ok (.invokestatic 187, 3) := sorry
theorem dL_alike_165 : decode cL_alike 165 = .ok (.lcmp, 1) := sorry
theorem dL_alike_166 : decode cL_alike 166 = .ok (.ifCond .ne 7, 3) := sorry
theorem dL_alike_169 : decode cL_alike 169 = .ok (.iconst 1, 1) := sorry
theorem dL_alike_170 : decode cL_alike 170 = .ok (.goto 4, 3) := sorry
theorem dL_alike_173 : decode cL_alike 173 = .ok (.iconst 0, 1) := sorry
theorem dL_alike_174 : decode cL_alike 174 = .ok (.ireturn, 1) := sorry
theorem dL_says_0 : decode cL_says 0 = .ok (.aload_n 0, 1) := sorry
theorem dL_says_1 : decode cL_says 1 = .ok (.iload_n 1, 1) := sorry
theorem dL_says_2 : decode cL_says 2 = .ok (.invokestatic 200, 3) := sorry
theorem dL_says_5 : decode cL_says 5 = .ok (.lconst 0, 1) := sorry
theorem dL_says_6 : decode cL_says 6 = .ok (.lcmp, 1) := sorry
theorem dL_says_7 : decode cL_says 7 = .ok (.ifCond .le 7, 3) := sorry
theorem dL_says_10 : decode cL_says 10 = .ok (.iconst 1, 1) := sorry
theorem dL_says_11 : decode cL_says 11 = .ok (.goto 4, 3) := sorry
theorem dL_says_14 : decode cL_says 14 = .ok (.iconst 0, 1) := sorry
theorem dL_says_15 : decode cL_says 15 = .ok (.ireturn, 1) := sorry
theorem dL_digit_0 : decode cL_digit 0 = .ok (.aload_n 0, 1) := sorry
theorem dL_digit_1 : decode cL_digit 1 = .ok (.bipush 44, 2) := sorry
theorem dL_digit_3 : decode cL_digit 3 = .ok (.invokestatic 249, 3) := sorry
theorem dL_digit_6 : decode cL_digit 6 = .ok (.ifCond .eq 18, 3) := sorry
theorem dL_digit_9 : decode cL_digit 9 = .ok (.aload_n 0, 1) := sorry
theorem dL_digit_10 : decode cL_digit 10 = .ok (.bipush 48, 2) := sorry
theorem dL_digit_12 : decode cL_digit 12 = .ok (.iload_n 1, 1) := sorry
theorem dL_digit_13 : decode cL_digit 13 = .ok (.iadd, 1) := sorry
theorem dL_digit_14 : decode cL_digit 14 = .ok (.invokestatic 249, 3) := sorry
theorem dL_digit_17 : decode cL_digit 17 = .ok (.ifCond .eq 7, 3) := sorry
theorem dL_digit_20 : decode cL_digit 20 = .ok (.iconst 1, 1) := sorry
theorem dL_digit_21 : decode cL_digit 21 = .ok (.goto 4, 3) := sorry
theorem dL_digit_24 : decode cL_digit 24 = .ok (.iconst 0, 1) := sorry
theorem dL_digit_25 : decode cL_digit 25 = .ok (.ireturn, 1) := sorry
theorem dL_tells_0 : decode cL_tells 0 = .ok (.aload_n 0, 1) := sorry
theorem dL_tells_1 : decode cL_tells 1 = .ok (.invokevirtual 253, 3) := sorry
theorem dL_tells_4 : decode cL_tells 4 = .ok (.ifCond .lt 7, 3) := sorry
theorem dL_tells_7 : decode cL_tells 7 = .ok (.iconst 1, 1) := sorry
theorem dL_tells_8 : decode cL_tells 8 = .ok (.goto 4, 3) := sorry
theorem dL_tells_11 : decode cL_tells 11 = .ok (.iconst 0, 1) := sorry
theorem dL_tells_12 : decode cL_tells 12 = .ok (.istore_n 3, 1) := sorry
theorem dL_tells_13 : decode cL_tells 13 = .ok (.iconst 0, 1) := sorry
theorem dL_tells_14 : decode cL_tells 14 = .ok (.istore 4, 2) := sorry
theorem dL_tells_16 : decode cL_tells 16 = .ok (.iload 4, 2) := sorry
theorem dL_tells_18 : decode cL_tells 18 = .ok (.iconst 4, 1) := sorry
theorem dL_tells_19 : decode cL_tells 19 = .ok (.if_icmp .ge 260, 3) := sorry
theorem dL_tells_22 : decode cL_tells 22 = .ok (.iload_n 3, 1) := sorry
theorem dL_tells_23 : decode cL_tells 23 = .ok (.ifCond .eq 256, 3) := sorry
theorem dL_tells_26 : decode cL_tells 26 = .ok (.iload_n 1, 1) := sorry
theorem dL_tells_27 : decode cL_tells 27 = .ok (.iload 4, 2) := sorry
theorem dL_tells_29 : decode cL_tells 29 = .ok (.ishr, 1) := sorry
theorem dL_tells_30 : decode cL_tells 30 = .ok (.ldc_w 256, 3) := sorry
theorem dL_tells_33 : decode cL_tells 33 = .ok (.irem, 1) := sorry
theorem dL_tells_34 : decode cL_tells 34 = .ok (.sipush 131, 3) := sorry
theorem dL_tells_37 : decode cL_tells 37 = .ok (.iload 4, 2) := sorry
theorem dL_tells_39 : decode cL_tells 39 = .ok (.imul, 1) := sorry
theorem dL_tells_40 : decode cL_tells 40 = .ok (.iadd, 1) := sorry
theorem dL_tells_41 : decode cL_tells 41 = .ok (.istore 5, 2) := sorry
theorem dL_tells_43 : decode cL_tells 43 = .ok (.iload_n 2, 1) := sorry
theorem dL_tells_44 : decode cL_tells 44 = .ok (.iload 4, 2) := sorry
theorem dL_tells_46 : decode cL_tells 46 = .ok (.ishr, 1) := sorry
theorem dL_tells_47 : decode cL_tells 47 = .ok (.ldc_w 256, 3) := sorry
theorem dL_tells_50 : decode cL_tells 50 = .ok (.irem, 1) := sorry
theorem dL_tells_51 : decode cL_tells 51 = .ok (.sipush 137, 3) := sorry
theorem dL_tells_54 : decode cL_tells 54 = .ok (.iload 4, 2) := sorry
theorem dL_tells_56 : decode cL_tells 56 = .ok (.imul, 1) := sorry
theorem dL_tells_57 : decode cL_tells 57 = .ok (.iadd, 1) := sorry
theorem dL_tells_58 : decode cL_tells 58 = .ok (.istore 6, 2) := sorry
theorem dL_tells_60 : decode cL_tells 60 = .ok (.aload_n 0, 1) := sorry
theorem dL_tells_61 : decode cL_tells 61 = .ok (.bipush 109, 2) := sorry
theorem dL_tells_63 : decode cL_tells 63 = .ok (.invokestatic 249, 3) := sorry
theorem dL_tells_66 : decode cL_tells 66 = .ok (.ifCond .eq 205, 3) := sorry
theorem dL_tells_69 : decode cL_tells 69 = .ok (.aload_n 0, 1) := sorry
theorem dL_tells_70 : decode cL_tells 70 = .ok (.bipush 97, 2) := sorry
theorem dL_tells_72 : decode cL_tells 72 = .ok (.invokestatic 249, 3) := sorry
theorem dL_tells_75 : decode cL_tells 75 = .ok (.ifCond .eq 196, 3) := sorry
theorem dL_tells_78 : decode cL_tells 78 = .ok (.aload_n 0, 1) := sorry
theorem dL_tells_79 : decode cL_tells 79 = .ok (.bipush 110, 2) := sorry
theorem dL_tells_81 : decode cL_tells 81 = .ok (.invokestatic 249, 3) := sorry
theorem dL_tells_84 : decode cL_tells 84 = .ok (.ifCond .eq 187, 3) := sorry
theorem dL_tells_87 : decode cL_tells 87 = .ok (.aload_n 0, 1) := sorry
theorem dL_tells_88 : decode cL_tells 88 = .ok (.iload 5, 2) := sorry
theorem dL_tells_90 : decode cL_tells 90 = .ok (.iconst 4, 1) := sorry
theorem dL_tells_91 : decode cL_tells 91 = .ok (.irem, 1) := sorry
theorem dL_tells_92 : decode cL_tells 92 = .ok (.invokestatic 257, 3) := sorry
theorem dL_tells_95 : decode cL_tells 95 = .ok (.ifCond .eq 176, 3) := sorry
theorem dL_tells_98 : decode cL_tells 98 = .ok (.aload_n 0, 1) := sorry
theorem dL_tells_99 : decode cL_tells 99 = .ok (.bipush 59, 2) := sorry
theorem dL_tells_101 : decode cL_tells 101 = .ok (.invokestatic 249, 3) := sorry
theorem dL_tells_104 : decode cL_tells 104 = .ok (.ifCond .eq 167, 3) := sorry
theorem dL_tells_107 : decode cL_tells 107 = .ok (.aload_n 0, 1) := sorry
theorem dL_tells_108 : decode cL_tells 108 = .ok (.bipush 109, 2) := sorry
theorem dL_tells_110 : decode cL_tells 110 = .ok (.invokestatic 249, 3) := sorry
theorem dL_tells_113 : decode cL_tells 113 = .ok (.ifCond .eq 158, 3) := sorry
theorem dL_tells_116 : decode cL_tells 116 = .ok (.aload_n 0, 1) := sorry
theorem dL_tells_117 : decode cL_tells 117 = .ok (.bipush 97, 2) := sorry
theorem dL_tells_119 : decode cL_tells 119 = .ok (.invokestatic 249, 3) := sorry
theorem dL_tells_122 : decode cL_tells 122 = .ok (.ifCond .eq 149, 3) := sorry
theorem dL_tells_125 : decode cL_tells 125 = .ok (.aload_n 0, 1) := sorry
theorem dL_tells_126 : decode cL_tells 126 = .ok (.bipush 121, 2) := sorry
theorem dL_tells_128 : decode cL_tells 128 = .ok (.invokestatic 249, 3) := sorry
theorem dL_tells_131 : decode cL_tells 131 = .ok (.ifCond .eq 140, 3) := sorry
theorem dL_tells_134 : decode cL_tells 134 = .ok (.aload_n 0, 1) := sorry
theorem dL_tells_135 : decode cL_tells 135 = .ok (.iload 4, 2) := sorry
theorem dL_tells_137 : decode cL_tells 137 = .ok (.invokestatic 257, 3) := sorry
theorem dL_tells_140 : decode cL_tells 140 = .ok (.ifCond .eq 131, 3) := sorry
theorem dL_tells_143 : decode cL_tells 143 = .ok (.aload_n 0, 1) := sorry
theorem dL_tells_144 : decode cL_tells 144 = .ok (.iload 6, 2) := sorry
theorem dL_tells_146 : decode cL_tells 146 = .ok (.bipush 10, 2) := sorry
theorem dL_tells_148 : decode cL_tells 148 = .ok (.irem, 1) := sorry
theorem dL_tells_149 : decode cL_tells 149 = .ok (.invokestatic 257, 3) := sorry
theorem dL_tells_152 : decode cL_tells 152 = .ok (.ifCond .eq 119, 3) := sorry
theorem dL_tells_155 : decode cL_tells 155 = .ok (.aload_n 0, 1) := sorry
theorem dL_tells_156 : decode cL_tells 156 = .ok (.bipush 59, 2) := sorry
theorem dL_tells_158 : decode cL_tells 158 = .ok (.invokestatic 249, 3) := sorry
theorem dL_tells_161 : decode cL_tells 161 = .ok (.ifCond .eq 110, 3) := sorry
theorem dL_tells_164 : decode cL_tells 164 = .ok (.iload 4, 2) := sorry
theorem dL_tells_166 : decode cL_tells 166 = .ok (.iconst 2, 1) := sorry
theorem dL_tells_167 : decode cL_tells 167 = .ok (.irem, 1) := sorry
theorem dL_tells_168 : decode cL_tells 168 = .ok (.iconst 1, 1) := sorry
theorem dL_tells_169 : decode cL_tells 169 = .ok (.if_icmp .eq 98, 3) := sorry
theorem dL_tells_172 : decode cL_tells 172 = .ok (.aload_n 0, 1) := sorry
theorem dL_tells_173 : decode cL_tells 173 = .ok (.bipush 98, 2) := sorry
theorem dL_tells_175 : decode cL_tells 175 = .ok (.invokestatic 249, 3) := sorry
theorem dL_tells_178 : decode cL_tells 178 = .ok (.ifCond .eq 93, 3) := sorry
theorem dL_tells_181 : decode cL_tells 181 = .ok (.aload_n 0, 1) := sorry
theorem dL_tells_182 : decode cL_tells 182 = .ok (.bipush 111, 2) := sorry
theorem dL_tells_184 : decode cL_tells 184 = .ok (.invokestatic 249, 3) := sorry
theorem dL_tells_187 : decode cL_tells 187 = .ok (.ifCond .eq 84, 3) := sorry
theorem dL_tells_190 : decode cL_tells 190 = .ok (.aload_n 0, 1) := sorry
theorem dL_tells_191 : decode cL_tells 191 = .ok (.bipush 111, 2) := sorry
theorem dL_tells_193 : decode cL_tells 193 = .ok (.invokestatic 249, 3) := sorry
theorem dL_tells_196 : decode cL_tells 196 = .ok (.ifCond .eq 75, 3) := sorry
theorem dL_tells_199 : decode cL_tells 199 = .ok (.aload_n 0, 1) := sorry
theorem dL_tells_200 : decode cL_tells 200 = .ok (.bipush 107, 2) := sorry
theorem dL_tells_202 : decode cL_tells 202 = .ok (.invokestatic 249, 3) := sorry
theorem dL_tells_205 : decode cL_tells 205 = .ok (.ifCond .eq 66, 3) := sorry
theorem dL_tells_208 : decode cL_tells 208 = .ok (.aload_n 0, 1) := sorry
theorem dL_tells_209 : decode cL_tells 209 = .ok (.iload 4, 2) := sorry
theorem dL_tells_211 : decode cL_tells 211 = .ok (.invokestatic 257, 3) := sorry
theorem dL_tells_214 : decode cL_tells 214 = .ok (.ifCond .eq 57, 3) := sorry
theorem dL_tells_217 : decode cL_tells 217 = .ok (.aload_n 0, 1) := sorry
theorem dL_tells_218 : decode cL_tells 218 = .ok (.iload 6, 2) := sorry
theorem dL_tells_220 : decode cL_tells 220 = .ok (.bipush 10, 2) := sorry
theorem dL_tells_222 : decode cL_tells 222 = .ok (.irem, 1) := sorry
theorem dL_tells_223 : decode cL_tells 223 = .ok (.invokestatic 257, 3) := sorry
theorem dL_tells_226 : decode cL_tells 226 = .ok (.ifCond .eq 45, 3) := sorry
theorem dL_tells_229 : decode cL_tells 229 = .ok (.aload_n 0, 1) := sorry
theorem dL_tells_230 : decode cL_tells 230 = .ok (.iload 5, 2) := sorry
theorem dL_tells_232 : decode cL_tells 232 = .ok (.iconst 4, 1) := sorry
theorem dL_tells_233 : decode cL_tells 233 = .ok (.idiv, 1) := sorry
theorem dL_tells_234 : decode cL_tells 234 = .ok (.bipush 9, 2) := sorry
theorem dL_tells_236 : decode cL_tells 236 = .ok (.irem, 1) := sorry
theorem dL_tells_237 : decode cL_tells 237 = .ok (.invokestatic 257, 3) := sorry
theorem dL_tells_240 : decode cL_tells 240 = .ok (.ifCond .eq 31, 3) := sorry
theorem dL_tells_243 : decode cL_tells 243 = .ok (.aload_n 0, 1) := sorry
theorem dL_tells_244 : decode cL_tells 244 = .ok (.iload 6, 2) := sorry
theorem dL_tells_246 : decode cL_tells 246 = .ok (.bipush 10, 2) := sorry
theorem dL_tells_248 : decode cL_tells 248 = .ok (.idiv, 1) := sorry
theorem dL_tells_249 : decode cL_tells 249 = .ok (.bipush 8, 2) := sorry
theorem dL_tells_251 : decode cL_tells 251 = .ok (.irem, 1) := sorry
theorem dL_tells_252 : decode cL_tells 252 = .ok (.invokestatic 257, 3) := sorry
theorem dL_tells_255 : decode cL_tells 255 = .ok (.ifCond .eq 16, 3) := sorry
theorem dL_tells_258 : decode cL_tells 258 = .ok (.aload_n 0, 1) := sorry
theorem dL_tells_259 : decode cL_tells 259 = .ok (.bipush 59, 2) := sorry
theorem dL_tells_261 : decode cL_tells 261 = .ok (.invokestatic 249, 3) := sorry
theorem dL_tells_264 : decode cL_tells 264 = .ok (.ifCond .eq 7, 3) := sorry
theorem dL_tells_267 : decode cL_tells 267 = .ok (.iconst 1, 1) := sorry
theorem dL_tells_268 : decode cL_tells 268 = .ok (.goto 4, 3) := sorry
theorem dL_tells_271 : decode cL_tells 271 = .ok (.iconst 0, 1) := sorry
theorem dL_tells_272 : decode cL_tells 272 = .ok (.istore_n 3, 1) := sorry
theorem dL_tells_273 : decode cL_tells 273 = .ok (.iinc 4 1, 3) := sorry
theorem dL_tells_276 : decode cL_tells 276 = .ok (.goto (-260), 3) := sorry
theorem dL_tells_279 : decode cL_tells 279 = .ok (.iload_n 3, 1) := sorry
theorem dL_tells_280 : decode cL_tells 280 = .ok (.ifCond .eq 167, 3) := sorry
theorem dL_tells_283 : decode cL_tells 283 = .ok (.aload_n 0, 1) := sorry
theorem dL_tells_284 : decode cL_tells 284 = .ok (.bipush 104, 2) := sorry
theorem dL_tells_286 : decode cL_tells 286 = .ok (.invokestatic 249, 3) := sorry
theorem dL_tells_289 : decode cL_tells 289 = .ok (.ifCond .eq 158, 3) := sorry
theorem dL_tells_292 : decode cL_tells 292 = .ok (.aload_n 0, 1) := sorry
theorem dL_tells_293 : decode cL_tells 293 = .ok (.bipush 97, 2) := sorry
theorem dL_tells_295 : decode cL_tells 295 = .ok (.invokestatic 249, 3) := sorry
theorem dL_tells_298 : decode cL_tells 298 = .ok (.ifCond .eq 149, 3) := sorry
theorem dL_tells_301 : decode cL_tells 301 = .ok (.aload_n 0, 1) := sorry
theorem dL_tells_302 : decode cL_tells 302 = .ok (.bipush 115, 2) := sorry
theorem dL_tells_304 : decode cL_tells 304 = .ok (.invokestatic 249, 3) := sorry
theorem dL_tells_307 : decode cL_tells 307 = .ok (.ifCond .eq 140, 3) := sorry
theorem dL_tells_310 : decode cL_tells 310 = .ok (.aload_n 0, 1) := sorry
theorem dL_tells_311 : decode cL_tells 311 = .ok (.iload_n 1, 1) := sorry
theorem dL_tells_312 : decode cL_tells 312 = .ok (.bipush 10, 2) := sorry
theorem dL_tells_314 : decode cL_tells 314 = .ok (.irem, 1) := sorry
theorem dL_tells_315 : decode cL_tells 315 = .ok (.invokestatic 257, 3) := sorry
theorem dL_tells_318 : decode cL_tells 318 = .ok (.ifCond .eq 129, 3) := sorry
theorem dL_tells_321 : decode cL_tells 321 = .ok (.aload_n 0, 1) := sorry
theorem dL_tells_322 : decode cL_tells 322 = .ok (.bipush 59, 2) := sorry
theorem dL_tells_324 : decode cL_tells 324 = .ok (.invokestatic 249, 3) := sorry
theorem dL_tells_327 : decode cL_tells 327 = .ok (.ifCond .eq 120, 3) := sorry
theorem dL_tells_330 : decode cL_tells 330 = .ok (.aload_n 0, 1) := sorry
theorem dL_tells_331 : decode cL_tells 331 = .ok (.bipush 119, 2) := sorry
theorem dL_tells_333 : decode cL_tells 333 = .ok (.invokestatic 249, 3) := sorry
theorem dL_tells_336 : decode cL_tells 336 = .ok (.ifCond .eq 111, 3) := sorry
theorem dL_tells_339 : decode cL_tells 339 = .ok (.aload_n 0, 1) := sorry
theorem dL_tells_340 : decode cL_tells 340 = .ok (.bipush 105, 2) := sorry
theorem dL_tells_342 : decode cL_tells 342 = .ok (.invokestatic 249, 3) := sorry
theorem dL_tells_345 : decode cL_tells 345 = .ok (.ifCond .eq 102, 3) := sorry
theorem dL_tells_348 : decode cL_tells 348 = .ok (.aload_n 0, 1) := sorry
theorem dL_tells_349 : decode cL_tells 349 = .ok (.bipush 115, 2) := sorry
theorem dL_tells_351 : decode cL_tells 351 = .ok (.invokestatic 249, 3) := sorry
theorem dL_tells_354 : decode cL_tells 354 = .ok (.ifCond .eq 93, 3) := sorry
theorem dL_tells_357 : decode cL_tells 357 = .ok (.aload_n 0, 1) := sorry
theorem dL_tells_358 : decode cL_tells 358 = .ok (.bipush 104, 2) := sorry
theorem dL_tells_360 : decode cL_tells 360 = .ok (.invokestatic 249, 3) := sorry
theorem dL_tells_363 : decode cL_tells 363 = .ok (.ifCond .eq 84, 3) := sorry
theorem dL_tells_366 : decode cL_tells 366 = .ok (.aload_n 0, 1) := sorry
theorem dL_tells_367 : decode cL_tells 367 = .ok (.iload_n 1, 1) := sorry
theorem dL_tells_368 : decode cL_tells 368 = .ok (.iconst 4, 1) := sorry
theorem dL_tells_369 : decode cL_tells 369 = .ok (.irem, 1) := sorry
theorem dL_tells_370 : decode cL_tells 370 = .ok (.invokestatic 257, 3) := sorry
theorem dL_tells_373 : decode cL_tells 373 = .ok (.ifCond .eq 74, 3) := sorry
theorem dL_tells_376 : decode cL_tells 376 = .ok (.aload_n 0, 1) := sorry
theorem dL_tells_377 : decode cL_tells 377 = .ok (.iload_n 2, 1) := sorry
theorem dL_tells_378 : decode cL_tells 378 = .ok (.bipush 10, 2) := sorry
theorem dL_tells_380 : decode cL_tells 380 = .ok (.irem, 1) := sorry
theorem dL_tells_381 : decode cL_tells 381 = .ok (.invokestatic 257, 3) := sorry
theorem dL_tells_384 : decode cL_tells 384 = .ok (.ifCond .eq 63, 3) := sorry
theorem dL_tells_387 : decode cL_tells 387 = .ok (.aload_n 0, 1) := sorry
theorem dL_tells_388 : decode cL_tells 388 = .ok (.bipush 59, 2) := sorry
theorem dL_tells_390 : decode cL_tells 390 = .ok (.invokestatic 249, 3) := sorry
theorem dL_tells_393 : decode cL_tells 393 = .ok (.ifCond .eq 54, 3) := sorry
theorem dL_tells_396 : decode cL_tells 396 = .ok (.aload_n 0, 1) := sorry
theorem dL_tells_397 : decode cL_tells 397 = .ok (.bipush 114, 2) := sorry
theorem dL_tells_399 : decode cL_tells 399 = .ok (.invokestatic 249, 3) := sorry
theorem dL_tells_402 : decode cL_tells 402 = .ok (.ifCond .eq 45, 3) := sorry
theorem dL_tells_405 : decode cL_tells 405 = .ok (.aload_n 0, 1) := sorry
theorem dL_tells_406 : decode cL_tells 406 = .ok (.bipush 117, 2) := sorry
theorem dL_tells_408 : decode cL_tells 408 = .ok (.invokestatic 249, 3) := sorry
theorem dL_tells_411 : decode cL_tells 411 = .ok (.ifCond .eq 36, 3) := sorry
theorem dL_tells_414 : decode cL_tells 414 = .ok (.aload_n 0, 1) := sorry
theorem dL_tells_415 : decode cL_tells 415 = .ok (.bipush 110, 2) := sorry
theorem dL_tells_417 : decode cL_tells 417 = .ok (.invokestatic 249, 3) := sorry
theorem dL_tells_420 : decode cL_tells 420 = .ok (.ifCond .eq 27, 3) := sorry
theorem dL_tells_423 : decode cL_tells 423 = .ok (.aload_n 0, 1) := sorry
theorem dL_tells_424 : decode cL_tells 424 = .ok (.iconst 1, 1) := sorry
theorem dL_tells_425 : decode cL_tells 425 = .ok (.iload_n 2, 1) := sorry
theorem dL_tells_426 : decode cL_tells 426 = .ok (.iconst 4, 1) := sorry
theorem dL_tells_427 : decode cL_tells 427 = .ok (.irem, 1) := sorry
theorem dL_tells_428 : decode cL_tells 428 = .ok (.iadd, 1) := sorry
theorem dL_tells_429 : decode cL_tells 429 = .ok (.invokestatic 257, 3) := sorry
theorem dL_tells_432 : decode cL_tells 432 = .ok (.ifCond .eq 15, 3) := sorry
theorem dL_tells_435 : decode cL_tells 435 = .ok (.aload_n 0, 1) := sorry
theorem dL_tells_436 : decode cL_tells 436 = .ok (.invokevirtual 244, 3) := sorry
theorem dL_tells_439 : decode cL_tells 439 = .ok (.iconst (-1), 1) := sorry
theorem dL_tells_440 : decode cL_tells 440 = .ok (.if_icmp .ne 7, 3) := sorry
theorem dL_tells_443 : decode cL_tells 443 = .ok (.iconst 1, 1) := sorry
theorem dL_tells_444 : decode cL_tells 444 = .ok (.goto 4, 3) := sorry
theorem dL_tells_447 : decode cL_tells 447 = .ok (.iconst 0, 1) := sorry
theorem dL_tells_448 : decode cL_tells 448 = .ok (.ireturn, 1) := sorry
theorem dL_act_0 : decode cL_act 0 = .ok (.iload_n 2, 1) := sorry
theorem dL_act_1 : decode cL_act 1 = .ok (.iconst 4, 1) := sorry
theorem dL_act_2 : decode cL_act 2 = .ok (.idiv, 1) := sorry
theorem dL_act_3 : decode cL_act 3 = .ok (.istore_n 3, 1) := sorry
theorem dL_act_4 : decode cL_act 4 = .ok (.aload_n 0, 1) := sorry
theorem dL_act_5 : decode cL_act 5 = .ok (.iconst 0, 1) := sorry
theorem dL_act_6 : decode cL_act 6 = .ok (.invokestatic 125, 3) := sorry
theorem dL_act_9 : decode cL_act 9 = .ok (.l2i, 1) := sorry
theorem dL_act_10 : decode cL_act 10 = .ok (.istore 4, 2) := sorry
theorem dL_act_12 : decode cL_act 12 = .ok (.aload_n 0, 1) := sorry
theorem dL_act_13 : decode cL_act 13 = .ok (.iconst 2, 1) := sorry
theorem dL_act_14 : decode cL_act 14 = .ok (.invokestatic 125, 3) := sorry
theorem dL_act_17 : decode cL_act 17 = .ok (.l2i, 1) := sorry
theorem dL_act_18 : decode cL_act 18 = .ok (.istore 5, 2) := sorry
theorem dL_act_20 : decode cL_act 20 = .ok (.iload 4, 2) := sorry
theorem dL_act_22 : decode cL_act 22 = .ok (.ifCond .eq 10, 3) := sorry
theorem dL_act_25 : decode cL_act 25 = .ok (.iload_n 3, 1) := sorry
theorem dL_act_26 : decode cL_act 26 = .ok (.bipush 19, 2) := sorry
theorem dL_act_28 : decode cL_act 28 = .ok (.irem, 1) := sorry
theorem dL_act_29 : decode cL_act 29 = .ok (.ifCond .ne 10, 3) := sorry
theorem dL_act_32 : decode cL_act 32 = .ok (.iload_n 3, 1) := sorry
theorem dL_act_33 : decode cL_act 33 = .ok (.bipush 8, 2) := sorry
theorem dL_act_35 : decode cL_act 35 = .ok (.irem, 1) := sorry
theorem dL_act_36 : decode cL_act 36 = .ok (.goto 7, 3) := sorry
theorem dL_act_39 : decode cL_act 39 = .ok (.iload_n 3, 1) := sorry
theorem dL_act_40 : decode cL_act 40 = .ok (.iload 4, 2) := sorry
theorem dL_act_42 : decode cL_act 42 = .ok (.irem, 1) := sorry
theorem dL_act_43 : decode cL_act 43 = .ok (.istore 6, 2) := sorry
theorem dL_act_45 : decode cL_act 45 = .ok (.iload_n 3, 1) := sorry
theorem dL_act_46 : decode cL_act 46 = .ok (.bipush 8, 2) := sorry
theorem dL_act_48 : decode cL_act 48 = .ok (.idiv, 1) := sorry
theorem dL_act_49 : decode cL_act 49 = .ok (.bipush 10, 2) := sorry
theorem dL_act_51 : decode cL_act 51 = .ok (.irem, 1) := sorry
theorem dL_act_52 : decode cL_act 52 = .ok (.istore 7, 2) := sorry
theorem dL_act_54 : decode cL_act 54 = .ok (.iload_n 1, 1) := sorry
theorem dL_act_55 : decode cL_act 55 = .ok (.bipush 24, 2) := sorry
theorem dL_act_57 : decode cL_act 57 = .ok (.irem, 1) := sorry
theorem dL_act_58 : decode cL_act 58 = .ok (.tableswitch 366 0 18 #[90, 98, 111, 111, 111, 134, 162, 162, 162, 162, 193, 211, 236, 254, 268, 268, 277, 333, 338], 90) := sorry
theorem dL_act_148 : decode cL_act 148 = .ok (.aload_n 0, 1) := sorry
theorem dL_act_149 : decode cL_act 149 = .ok (.iload_n 3, 1) := sorry
theorem dL_act_150 : decode cL_act 150 = .ok (.iconst 4, 1) := sorry
theorem dL_act_151 : decode cL_act 151 = .ok (.irem, 1) := sorry
theorem dL_act_152 : decode cL_act 152 = .ok (.invokestatic 147, 3) := sorry
theorem dL_act_155 : decode cL_act 155 = .ok (.lreturn, 1) := sorry
theorem dL_act_156 : decode cL_act 156 = .ok (.aload_n 0, 1) := sorry
theorem dL_act_157 : decode cL_act 157 = .ok (.iload 6, 2) := sorry
theorem dL_act_159 : decode cL_act 159 = .ok (.iload_n 3, 1) := sorry
theorem dL_act_160 : decode cL_act 160 = .ok (.bipush 8, 2) := sorry
theorem dL_act_162 : decode cL_act 162 = .ok (.idiv, 1) := sorry
theorem dL_act_163 : decode cL_act 163 = .ok (.iconst 4, 1) := sorry
theorem dL_act_164 : decode cL_act 164 = .ok (.irem, 1) := sorry
theorem dL_act_165 : decode cL_act 165 = .ok (.invokestatic 149, 3) := sorry
theorem dL_act_168 : decode cL_act 168 = .ok (.lreturn, 1) := sorry
theorem dL_act_169 : decode cL_act 169 = .ok (.aload_n 0, 1) := sorry
theorem dL_act_170 : decode cL_act 170 = .ok (.iload 6, 2) := sorry
theorem dL_act_172 : decode cL_act 172 = .ok (.iload 7, 2) := sorry
theorem dL_act_174 : decode cL_act 174 = .ok (.iload_n 3, 1) := sorry
theorem dL_act_175 : decode cL_act 175 = .ok (.bipush 80, 2) := sorry
theorem dL_act_177 : decode cL_act 177 = .ok (.idiv, 1) := sorry
theorem dL_act_178 : decode cL_act 178 = .ok (.iconst 4, 1) := sorry
theorem dL_act_179 : decode cL_act 179 = .ok (.irem, 1) := sorry
theorem dL_act_180 : decode cL_act 180 = .ok (.ifCond .le 7, 3) := sorry
theorem dL_act_183 : decode cL_act 183 = .ok (.iconst 1, 1) := sorry
theorem dL_act_184 : decode cL_act 184 = .ok (.goto 4, 3) := sorry
theorem dL_act_187 : decode cL_act 187 = .ok (.iconst 0, 1) := sorry
theorem dL_act_188 : decode cL_act 188 = .ok (.invokestatic 151, 3) := sorry
theorem dL_act_191 : decode cL_act 191 = .ok (.lreturn, 1) := sorry
theorem dL_act_192 : decode cL_act 192 = .ok (.aload_n 0, 1) := sorry
theorem dL_act_193 : decode cL_act 193 = .ok (.iload 6, 2) := sorry
theorem dL_act_195 : decode cL_act 195 = .ok (.iload_n 3, 1) := sorry
theorem dL_act_196 : decode cL_act 196 = .ok (.bipush 8, 2) := sorry
theorem dL_act_198 : decode cL_act 198 = .ok (.idiv, 1) := sorry
theorem dL_act_199 : decode cL_act 199 = .ok (.bipush 8, 2) := sorry
theorem dL_act_201 : decode cL_act 201 = .ok (.irem, 1) := sorry
theorem dL_act_202 : decode cL_act 202 = .ok (.iload_n 3, 1) := sorry
theorem dL_act_203 : decode cL_act 203 = .ok (.bipush 64, 2) := sorry
theorem dL_act_205 : decode cL_act 205 = .ok (.idiv, 1) := sorry
theorem dL_act_206 : decode cL_act 206 = .ok (.iconst 3, 1) := sorry
theorem dL_act_207 : decode cL_act 207 = .ok (.irem, 1) := sorry
theorem dL_act_208 : decode cL_act 208 = .ok (.ifCond .le 7, 3) := sorry
theorem dL_act_211 : decode cL_act 211 = .ok (.iconst 1, 1) := sorry
theorem dL_act_212 : decode cL_act 212 = .ok (.goto 4, 3) := sorry
theorem dL_act_215 : decode cL_act 215 = .ok (.iconst 0, 1) := sorry
theorem dL_act_216 : decode cL_act 216 = .ok (.invokestatic 154, 3) := sorry
theorem dL_act_219 : decode cL_act 219 = .ok (.lreturn, 1) := sorry
theorem dL_act_220 : decode cL_act 220 = .ok (.aload_n 0, 1) := sorry
theorem dL_act_221 : decode cL_act 221 = .ok (.iload 6, 2) := sorry
theorem dL_act_223 : decode cL_act 223 = .ok (.iload 7, 2) := sorry
theorem dL_act_225 : decode cL_act 225 = .ok (.aload_n 0, 1) := sorry
theorem dL_act_226 : decode cL_act 226 = .ok (.iconst 1, 1) := sorry
theorem dL_act_227 : decode cL_act 227 = .ok (.invokestatic 125, 3) := sorry
theorem dL_act_230 : decode cL_act 230 = .ok (.l2i, 1) := sorry
theorem dL_act_231 : decode cL_act 231 = .ok (.iload_n 3, 1) := sorry
theorem dL_act_232 : decode cL_act 232 = .ok (.bipush 80, 2) := sorry
theorem dL_act_234 : decode cL_act 234 = .ok (.idiv, 1) := sorry
theorem dL_act_235 : decode cL_act 235 = .ok (.bipush 10, 2) := sorry
theorem dL_act_237 : decode cL_act 237 = .ok (.irem, 1) := sorry
theorem dL_act_238 : decode cL_act 238 = .ok (.iadd, 1) := sorry
theorem dL_act_239 : decode cL_act 239 = .ok (.iload_n 3, 1) := sorry
theorem dL_act_240 : decode cL_act 240 = .ok (.sipush 800, 3) := sorry
theorem dL_act_243 : decode cL_act 243 = .ok (.idiv, 1) := sorry
theorem dL_act_244 : decode cL_act 244 = .ok (.bipush 8, 2) := sorry
theorem dL_act_246 : decode cL_act 246 = .ok (.irem, 1) := sorry
theorem dL_act_247 : decode cL_act 247 = .ok (.invokestatic 156, 3) := sorry
theorem dL_act_250 : decode cL_act 250 = .ok (.lreturn, 1) := sorry
theorem dL_act_251 : decode cL_act 251 = .ok (.aload_n 0, 1) := sorry
theorem dL_act_252 : decode cL_act 252 = .ok (.iload 5, 2) := sorry
theorem dL_act_254 : decode cL_act 254 = .ok (.ifCond .ne 7, 3) := sorry
theorem dL_act_257 : decode cL_act 257 = .ok (.iconst 0, 1) := sorry
theorem dL_act_258 : decode cL_act 258 = .ok (.goto 7, 3) := sorry
theorem dL_act_261 : decode cL_act 261 = .ok (.iload_n 3, 1) := sorry
theorem dL_act_262 : decode cL_act 262 = .ok (.iload 5, 2) := sorry
theorem dL_act_264 : decode cL_act 264 = .ok (.irem, 1) := sorry
theorem dL_act_265 : decode cL_act 265 = .ok (.invokestatic 159, 3) := sorry
theorem dL_act_268 : decode cL_act 268 = .ok (.lreturn, 1) := sorry
theorem dL_act_269 : decode cL_act 269 = .ok (.aload_n 0, 1) := sorry
theorem dL_act_270 : decode cL_act 270 = .ok (.iload 5, 2) := sorry
theorem dL_act_272 : decode cL_act 272 = .ok (.ifCond .ne 7, 3) := sorry
theorem dL_act_275 : decode cL_act 275 = .ok (.iconst 0, 1) := sorry
theorem dL_act_276 : decode cL_act 276 = .ok (.goto 7, 3) := sorry
theorem dL_act_279 : decode cL_act 279 = .ok (.iload_n 3, 1) := sorry
theorem dL_act_280 : decode cL_act 280 = .ok (.iload 5, 2) := sorry
theorem dL_act_282 : decode cL_act 282 = .ok (.irem, 1) := sorry
theorem dL_act_283 : decode cL_act 283 = .ok (.iload_n 3, 1) := sorry
theorem dL_act_284 : decode cL_act 284 = .ok (.bipush 24, 2) := sorry
theorem dL_act_286 : decode cL_act 286 = .ok (.idiv, 1) := sorry
theorem dL_act_287 : decode cL_act 287 = .ok (.bipush 60, 2) := sorry
theorem dL_act_289 : decode cL_act 289 = .ok (.irem, 1) := sorry
theorem dL_act_290 : decode cL_act 290 = .ok (.invokestatic 161, 3) := sorry
theorem dL_act_293 : decode cL_act 293 = .ok (.lreturn, 1) := sorry
theorem dL_act_294 : decode cL_act 294 = .ok (.aload_n 0, 1) := sorry
theorem dL_act_295 : decode cL_act 295 = .ok (.iload 7, 2) := sorry
theorem dL_act_297 : decode cL_act 297 = .ok (.iload_n 3, 1) := sorry
theorem dL_act_298 : decode cL_act 298 = .ok (.iconst 3, 1) := sorry
theorem dL_act_299 : decode cL_act 299 = .ok (.irem, 1) := sorry
theorem dL_act_300 : decode cL_act 300 = .ok (.ifCond .le 7, 3) := sorry
theorem dL_act_303 : decode cL_act 303 = .ok (.iconst 1, 1) := sorry
theorem dL_act_304 : decode cL_act 304 = .ok (.goto 4, 3) := sorry
theorem dL_act_307 : decode cL_act 307 = .ok (.iconst 0, 1) := sorry
theorem dL_act_308 : decode cL_act 308 = .ok (.invokestatic 163, 3) := sorry
theorem dL_act_311 : decode cL_act 311 = .ok (.lreturn, 1) := sorry
theorem dL_act_312 : decode cL_act 312 = .ok (.aload_n 0, 1) := sorry
theorem dL_act_313 : decode cL_act 313 = .ok (.iload 6, 2) := sorry
theorem dL_act_315 : decode cL_act 315 = .ok (.iload_n 3, 1) := sorry
theorem dL_act_316 : decode cL_act 316 = .ok (.bipush 8, 2) := sorry
theorem dL_act_318 : decode cL_act 318 = .ok (.idiv, 1) := sorry
theorem dL_act_319 : decode cL_act 319 = .ok (.bipush 12, 2) := sorry
theorem dL_act_321 : decode cL_act 321 = .ok (.irem, 1) := sorry
theorem dL_act_322 : decode cL_act 322 = .ok (.invokestatic 167, 3) := sorry
theorem dL_act_325 : decode cL_act 325 = .ok (.lreturn, 1) := sorry
theorem dL_act_326 : decode cL_act 326 = .ok (.aload_n 0, 1) := sorry
theorem dL_act_327 : decode cL_act 327 = .ok (.iload 6, 2) := sorry
theorem dL_act_329 : decode cL_act 329 = .ok (.iload 7, 2) := sorry
theorem dL_act_331 : decode cL_act 331 = .ok (.invokestatic 169, 3) := sorry
theorem dL_act_334 : decode cL_act 334 = .ok (.lreturn, 1) := sorry
theorem dL_act_335 : decode cL_act 335 = .ok (.iload_n 3, 1) := sorry
theorem dL_act_336 : decode cL_act 336 = .ok (.bipush 6, 2) := sorry
theorem dL_act_338 : decode cL_act 338 = .ok (.irem, 1) := sorry
theorem dL_act_339 : decode cL_act 339 = .ok (.istore 8, 2) := sorry
theorem dL_act_341 : decode cL_act 341 = .ok (.aload_n 0, 1) := sorry
theorem dL_act_342 : decode cL_act 342 = .ok (.iload 8, 2) := sorry
theorem dL_act_344 : decode cL_act 344 = .ok (.iload 8, 2) := sorry
theorem dL_act_346 : decode cL_act 346 = .ok (.ifCond .ne 14, 3) := sorry
theorem dL_act_349 : decode cL_act 349 = .ok (.iconst 1, 1) := sorry
theorem dL_act_350 : decode cL_act 350 = .ok (.iload_n 3, 1) := sorry
theorem dL_act_351 : decode cL_act 351 = .ok (.bipush 6, 2) := sorry
theorem dL_act_353 : decode cL_act 353 = .ok (.idiv, 1) := sorry
theorem dL_act_354 : decode cL_act 354 = .ok (.iconst 4, 1) := sorry
theorem dL_act_355 : decode cL_act 355 = .ok (.irem, 1) := sorry
theorem dL_act_356 : decode cL_act 356 = .ok (.iadd, 1) := sorry
theorem dL_act_357 : decode cL_act 357 = .ok (.goto 30, 3) := sorry
theorem dL_act_360 : decode cL_act 360 = .ok (.iload 8, 2) := sorry
theorem dL_act_362 : decode cL_act 362 = .ok (.iconst 1, 1) := sorry
theorem dL_act_363 : decode cL_act 363 = .ok (.if_icmp .ne 15, 3) := sorry
theorem dL_act_366 : decode cL_act 366 = .ok (.iconst 1, 1) := sorry
theorem dL_act_367 : decode cL_act 367 = .ok (.iload_n 3, 1) := sorry
theorem dL_act_368 : decode cL_act 368 = .ok (.bipush 6, 2) := sorry
theorem dL_act_370 : decode cL_act 370 = .ok (.idiv, 1) := sorry
theorem dL_act_371 : decode cL_act 371 = .ok (.bipush 9, 2) := sorry
theorem dL_act_373 : decode cL_act 373 = .ok (.irem, 1) := sorry
theorem dL_act_374 : decode cL_act 374 = .ok (.iadd, 1) := sorry
theorem dL_act_375 : decode cL_act 375 = .ok (.goto 12, 3) := sorry
theorem dL_act_378 : decode cL_act 378 = .ok (.iconst 1, 1) := sorry
theorem dL_act_379 : decode cL_act 379 = .ok (.iload_n 3, 1) := sorry
theorem dL_act_380 : decode cL_act 380 = .ok (.bipush 6, 2) := sorry
theorem dL_act_382 : decode cL_act 382 = .ok (.idiv, 1) := sorry
theorem dL_act_383 : decode cL_act 383 = .ok (.bipush 30, 2) := sorry
theorem dL_act_385 : decode cL_act 385 = .ok (.irem, 1) := sorry
theorem dL_act_386 : decode cL_act 386 = .ok (.iadd, 1) := sorry
theorem dL_act_387 : decode cL_act 387 = .ok (.invokestatic 173, 3) := sorry
theorem dL_act_390 : decode cL_act 390 = .ok (.lreturn, 1) := sorry
theorem dL_act_391 : decode cL_act 391 = .ok (.aload_n 0, 1) := sorry
theorem dL_act_392 : decode cL_act 392 = .ok (.invokestatic 240, 3) := sorry
theorem dL_act_395 : decode cL_act 395 = .ok (.lreturn, 1) := sorry
theorem dL_act_396 : decode cL_act 396 = .ok (.iload_n 3, 1) := sorry
theorem dL_act_397 : decode cL_act 397 = .ok (.iconst 2, 1) := sorry
theorem dL_act_398 : decode cL_act 398 = .ok (.irem, 1) := sorry
theorem dL_act_399 : decode cL_act 399 = .ok (.ifCond .ne 15, 3) := sorry
theorem dL_act_402 : decode cL_act 402 = .ok (.aload_n 0, 1) := sorry
theorem dL_act_403 : decode cL_act 403 = .ok (.iload_n 3, 1) := sorry
theorem dL_act_404 : decode cL_act 404 = .ok (.iconst 2, 1) := sorry
theorem dL_act_405 : decode cL_act 405 = .ok (.idiv, 1) := sorry
theorem dL_act_406 : decode cL_act 406 = .ok (.iconst 1, 1) := sorry
theorem dL_act_407 : decode cL_act 407 = .ok (.iand, 1) := sorry
theorem dL_act_408 : decode cL_act 408 = .ok (.invokestatic 196, 3) := sorry
theorem dL_act_411 : decode cL_act 411 = .ok (.goto 12, 3) := sorry
theorem dL_act_414 : decode cL_act 414 = .ok (.aload_n 0, 1) := sorry
theorem dL_act_415 : decode cL_act 415 = .ok (.iload_n 3, 1) := sorry
theorem dL_act_416 : decode cL_act 416 = .ok (.iconst 2, 1) := sorry
theorem dL_act_417 : decode cL_act 417 = .ok (.idiv, 1) := sorry
theorem dL_act_418 : decode cL_act 418 = .ok (.iconst 1, 1) := sorry
theorem dL_act_419 : decode cL_act 419 = .ok (.iand, 1) := sorry
theorem dL_act_420 : decode cL_act 420 = .ok (.invokestatic 198, 3) := sorry
theorem dL_act_423 : decode cL_act 423 = .ok (.lreturn, 1) := sorry
theorem dL_act_424 : decode cL_act 424 = .ok (.aload_n 0, 1) := sorry
theorem dL_act_425 : decode cL_act 425 = .ok (.iconst 1, 1) := sorry
theorem dL_act_426 : decode cL_act 426 = .ok (.iload_n 3, 1) := sorry
theorem dL_act_427 : decode cL_act 427 = .ok (.iload_n 3, 1) := sorry
theorem dL_act_428 : decode cL_act 428 = .ok (.iconst 5, 1) := sorry
theorem dL_act_429 : decode cL_act 429 = .ok (.irem, 1) := sorry
theorem dL_act_430 : decode cL_act 430 = .ok (.ifCond .ne 8, 3) := sorry
theorem dL_act_433 : decode cL_act 433 = .ok (.bipush 30, 2) := sorry
theorem dL_act_435 : decode cL_act 435 = .ok (.goto 4, 3) := sorry
theorem dL_act_438 : decode cL_act 438 = .ok (.iconst 3, 1) := sorry
theorem dL_act_439 : decode cL_act 439 = .ok (.irem, 1) := sorry
theorem dL_act_440 : decode cL_act 440 = .ok (.iadd, 1) := sorry
theorem dL_act_441 : decode cL_act 441 = .ok (.invokestatic 171, 3) := sorry
theorem dL_act_444 : decode cL_act 444 = .ok (.lreturn, 1) := sorry
theorem dL_law_0 : decode cL_law 0 = .ok (.new 10, 3) := sorry
theorem dL_law_3 : decode cL_law 3 = .ok (.dup, 1) := sorry
theorem dL_law_4 : decode cL_law 4 = .ok (.invokespecial 260, 3) := sorry
theorem dL_law_7 : decode cL_law 7 = .ok (.astore_n 1, 1) := sorry
theorem dL_law_8 : decode cL_law 8 = .ok (.new 10, 3) := sorry
theorem dL_law_11 : decode cL_law 11 = .ok (.dup, 1) := sorry
theorem dL_law_12 : decode cL_law 12 = .ok (.invokespecial 260, 3) := sorry
theorem dL_law_15 : decode cL_law 15 = .ok (.astore_n 2, 1) := sorry
theorem dL_law_16 : decode cL_law 16 = .ok (.aload_n 1, 1) := sorry
theorem dL_law_17 : decode cL_law 17 = .ok (.aload_n 2, 1) := sorry
theorem dL_law_18 : decode cL_law 18 = .ok (.aload_n 0, 1) := sorry
theorem dL_law_19 : decode cL_law 19 = .ok (.iconst 0, 1) := sorry
theorem dL_law_20 : decode cL_law 20 = .ok (.invokestatic 261, 3) := sorry
theorem dL_law_23 : decode cL_law 23 = .ok (.invokestatic 265, 3) := sorry
theorem dL_law_26 : decode cL_law 26 = .ok (.ifCond .eq 21, 3) := sorry
theorem dL_law_29 : decode cL_law 29 = .ok (.aload_n 1, 1) := sorry
theorem dL_law_30 : decode cL_law 30 = .ok (.invokestatic 269, 3) := sorry
theorem dL_law_33 : decode cL_law 33 = .ok (.ifCond .eq 14, 3) := sorry
theorem dL_law_36 : decode cL_law 36 = .ok (.aload_n 1, 1) := sorry
theorem dL_law_37 : decode cL_law 37 = .ok (.invokestatic 273, 3) := sorry
theorem dL_law_40 : decode cL_law 40 = .ok (.ifCond .eq 7, 3) := sorry
theorem dL_law_43 : decode cL_law 43 = .ok (.iconst 1, 1) := sorry
theorem dL_law_44 : decode cL_law 44 = .ok (.goto 4, 3) := sorry
theorem dL_law_47 : decode cL_law 47 = .ok (.iconst 0, 1) := sorry
theorem dL_law_48 : decode cL_law 48 = .ok (.istore_n 3, 1) := sorry
theorem dL_law_49 : decode cL_law 49 = .ok (.iconst 0, 1) := sorry
theorem dL_law_50 : decode cL_law 50 = .ok (.istore 4, 2) := sorry
theorem dL_law_52 : decode cL_law 52 = .ok (.iload 4, 2) := sorry
theorem dL_law_54 : decode cL_law 54 = .ok (.bipush 48, 2) := sorry
theorem dL_law_56 : decode cL_law 56 = .ok (.if_icmp .ge 222, 3) := sorry
theorem dL_law_59 : decode cL_law 59 = .ok (.iload_n 3, 1) := sorry
theorem dL_law_60 : decode cL_law 60 = .ok (.ifCond .eq 218, 3) := sorry
theorem dL_law_63 : decode cL_law 63 = .ok (.aload_n 0, 1) := sorry
theorem dL_law_64 : decode cL_law 64 = .ok (.iconst 2, 1) := sorry
theorem dL_law_65 : decode cL_law 65 = .ok (.iload 4, 2) := sorry
theorem dL_law_67 : decode cL_law 67 = .ok (.imul, 1) := sorry
theorem dL_law_68 : decode cL_law 68 = .ok (.invokestatic 261, 3) := sorry
theorem dL_law_71 : decode cL_law 71 = .ok (.istore 5, 2) := sorry
theorem dL_law_73 : decode cL_law 73 = .ok (.aload_n 0, 1) := sorry
theorem dL_law_74 : decode cL_law 74 = .ok (.iconst 2, 1) := sorry
theorem dL_law_75 : decode cL_law 75 = .ok (.iload 4, 2) := sorry
theorem dL_law_77 : decode cL_law 77 = .ok (.imul, 1) := sorry
theorem dL_law_78 : decode cL_law 78 = .ok (.iconst 1, 1) := sorry
theorem dL_law_79 : decode cL_law 79 = .ok (.iadd, 1) := sorry
theorem dL_law_80 : decode cL_law 80 = .ok (.invokestatic 261, 3) := sorry
theorem dL_law_83 : decode cL_law 83 = .ok (.istore 6, 2) := sorry
theorem dL_law_85 : decode cL_law 85 = .ok (.iload 4, 2) := sorry
theorem dL_law_87 : decode cL_law 87 = .ok (.bipush 24, 2) := sorry
theorem dL_law_89 : decode cL_law 89 = .ok (.irem, 1) := sorry
theorem dL_law_90 : decode cL_law 90 = .ok (.ifCond .ne 46, 3) := sorry
theorem dL_law_93 : decode cL_law 93 = .ok (.aload_n 1, 1) := sorry
theorem dL_law_94 : decode cL_law 94 = .ok (.iload 5, 2) := sorry
theorem dL_law_96 : decode cL_law 96 = .ok (.iload 6, 2) := sorry
theorem dL_law_98 : decode cL_law 98 = .ok (.invokestatic 276, 3) := sorry
theorem dL_law_101 : decode cL_law 101 = .ok (.ifCond .eq 30, 3) := sorry
theorem dL_law_104 : decode cL_law 104 = .ok (.aload_n 2, 1) := sorry
theorem dL_law_105 : decode cL_law 105 = .ok (.iload 5, 2) := sorry
theorem dL_law_107 : decode cL_law 107 = .ok (.iload 6, 2) := sorry
theorem dL_law_109 : decode cL_law 109 = .ok (.invokestatic 276, 3) := sorry
theorem dL_law_112 : decode cL_law 112 = .ok (.ifCond .eq 19, 3) := sorry
theorem dL_law_115 : decode cL_law 115 = .ok (.aload_n 1, 1) := sorry
theorem dL_law_116 : decode cL_law 116 = .ok (.invokestatic 280, 3) := sorry
theorem dL_law_119 : decode cL_law 119 = .ok (.aload_n 2, 1) := sorry
theorem dL_law_120 : decode cL_law 120 = .ok (.invokestatic 280, 3) := sorry
theorem dL_law_123 : decode cL_law 123 = .ok (.lcmp, 1) := sorry
theorem dL_law_124 : decode cL_law 124 = .ok (.ifCond .ne 7, 3) := sorry
theorem dL_law_127 : decode cL_law 127 = .ok (.iconst 1, 1) := sorry
theorem dL_law_128 : decode cL_law 128 = .ok (.goto 4, 3) := sorry
theorem dL_law_131 : decode cL_law 131 = .ok (.iconst 0, 1) := sorry
theorem dL_law_132 : decode cL_law 132 = .ok (.istore_n 3, 1) := sorry
theorem dL_law_133 : decode cL_law 133 = .ok (.goto 139, 3) := sorry
theorem dL_law_136 : decode cL_law 136 = .ok (.aload_n 1, 1) := sorry
theorem dL_law_137 : decode cL_law 137 = .ok (.iload 5, 2) := sorry
theorem dL_law_139 : decode cL_law 139 = .ok (.iload 6, 2) := sorry
theorem dL_law_141 : decode cL_law 141 = .ok (.invokestatic 282, 3) := sorry
theorem dL_law_144 : decode cL_law 144 = .ok (.aload_n 2, 1) := sorry
theorem dL_law_145 : decode cL_law 145 = .ok (.iload 5, 2) := sorry
theorem dL_law_147 : decode cL_law 147 = .ok (.iload 6, 2) := sorry
theorem dL_law_149 : decode cL_law 149 = .ok (.invokestatic 282, 3) := sorry
theorem dL_law_152 : decode cL_law 152 = .ok (.lcmp, 1) := sorry
theorem dL_law_153 : decode cL_law 153 = .ok (.ifCond .ne 7, 3) := sorry
theorem dL_law_156 : decode cL_law 156 = .ok (.iconst 1, 1) := sorry
theorem dL_law_157 : decode cL_law 157 = .ok (.goto 4, 3) := sorry
theorem dL_law_160 : decode cL_law 160 = .ok (.iconst 0, 1) := sorry
theorem dL_law_161 : decode cL_law 161 = .ok (.istore_n 3, 1) := sorry
theorem dL_law_162 : decode cL_law 162 = .ok (.iload 4, 2) := sorry
theorem dL_law_164 : decode cL_law 164 = .ok (.bipush 9, 2) := sorry
theorem dL_law_166 : decode cL_law 166 = .ok (.irem, 1) := sorry
theorem dL_law_167 : decode cL_law 167 = .ok (.iconst 1, 1) := sorry
theorem dL_law_168 : decode cL_law 168 = .ok (.if_icmp .ne 27, 3) := sorry
theorem dL_law_171 : decode cL_law 171 = .ok (.iload_n 3, 1) := sorry
theorem dL_law_172 : decode cL_law 172 = .ok (.ifCond .eq 21, 3) := sorry
theorem dL_law_175 : decode cL_law 175 = .ok (.aload_n 2, 1) := sorry
theorem dL_law_176 : decode cL_law 176 = .ok (.invokestatic 269, 3) := sorry
theorem dL_law_179 : decode cL_law 179 = .ok (.ifCond .eq 14, 3) := sorry
theorem dL_law_182 : decode cL_law 182 = .ok (.aload_n 2, 1) := sorry
theorem dL_law_183 : decode cL_law 183 = .ok (.invokestatic 273, 3) := sorry
theorem dL_law_186 : decode cL_law 186 = .ok (.ifCond .eq 7, 3) := sorry
theorem dL_law_189 : decode cL_law 189 = .ok (.iconst 1, 1) := sorry
theorem dL_law_190 : decode cL_law 190 = .ok (.goto 4, 3) := sorry
theorem dL_law_193 : decode cL_law 193 = .ok (.iconst 0, 1) := sorry
theorem dL_law_194 : decode cL_law 194 = .ok (.istore_n 3, 1) := sorry
theorem dL_law_195 : decode cL_law 195 = .ok (.iload 4, 2) := sorry
theorem dL_law_197 : decode cL_law 197 = .ok (.bipush 16, 2) := sorry
theorem dL_law_199 : decode cL_law 199 = .ok (.irem, 1) := sorry
theorem dL_law_200 : decode cL_law 200 = .ok (.bipush 13, 2) := sorry
theorem dL_law_202 : decode cL_law 202 = .ok (.if_icmp .ne 42, 3) := sorry
theorem dL_law_205 : decode cL_law 205 = .ok (.iload_n 3, 1) := sorry
theorem dL_law_206 : decode cL_law 206 = .ok (.ifCond .eq 36, 3) := sorry
theorem dL_law_209 : decode cL_law 209 = .ok (.aload_n 2, 1) := sorry
theorem dL_law_210 : decode cL_law 210 = .ok (.iload 6, 2) := sorry
theorem dL_law_212 : decode cL_law 212 = .ok (.invokestatic 285, 3) := sorry
theorem dL_law_215 : decode cL_law 215 = .ok (.ifCond .eq 27, 3) := sorry
theorem dL_law_218 : decode cL_law 218 = .ok (.aload_n 1, 1) := sorry
theorem dL_law_219 : decode cL_law 219 = .ok (.iconst 1, 1) := sorry
theorem dL_law_220 : decode cL_law 220 = .ok (.invokestatic 196, 3) := sorry
theorem dL_law_223 : decode cL_law 223 = .ok (.lconst 0, 1) := sorry
theorem dL_law_224 : decode cL_law 224 = .ok (.lcmp, 1) := sorry
theorem dL_law_225 : decode cL_law 225 = .ok (.ifCond .lt 17, 3) := sorry
theorem dL_law_228 : decode cL_law 228 = .ok (.aload_n 1, 1) := sorry
theorem dL_law_229 : decode cL_law 229 = .ok (.iconst 1, 1) := sorry
theorem dL_law_230 : decode cL_law 230 = .ok (.invokestatic 198, 3) := sorry
theorem dL_law_233 : decode cL_law 233 = .ok (.lconst 0, 1) := sorry
theorem dL_law_234 : decode cL_law 234 = .ok (.lcmp, 1) := sorry
theorem dL_law_235 : decode cL_law 235 = .ok (.ifCond .lt 7, 3) := sorry
theorem dL_law_238 : decode cL_law 238 = .ok (.iconst 1, 1) := sorry
theorem dL_law_239 : decode cL_law 239 = .ok (.goto 4, 3) := sorry
theorem dL_law_242 : decode cL_law 242 = .ok (.iconst 0, 1) := sorry
theorem dL_law_243 : decode cL_law 243 = .ok (.istore_n 3, 1) := sorry
theorem dL_law_244 : decode cL_law 244 = .ok (.iload_n 3, 1) := sorry
theorem dL_law_245 : decode cL_law 245 = .ok (.ifCond .eq 25, 3) := sorry
theorem dL_law_248 : decode cL_law 248 = .ok (.iload 4, 2) := sorry
theorem dL_law_250 : decode cL_law 250 = .ok (.bipush 16, 2) := sorry
theorem dL_law_252 : decode cL_law 252 = .ok (.irem, 1) := sorry
theorem dL_law_253 : decode cL_law 253 = .ok (.ifCond .gt 13, 3) := sorry
theorem dL_law_256 : decode cL_law 256 = .ok (.aload_n 1, 1) := sorry
theorem dL_law_257 : decode cL_law 257 = .ok (.aload_n 2, 1) := sorry
theorem dL_law_258 : decode cL_law 258 = .ok (.iload 6, 2) := sorry
theorem dL_law_260 : decode cL_law 260 = .ok (.invokestatic 265, 3) := sorry
theorem dL_law_263 : decode cL_law 263 = .ok (.ifCond .eq 7, 3) := sorry
theorem dL_law_266 : decode cL_law 266 = .ok (.iconst 1, 1) := sorry
theorem dL_law_267 : decode cL_law 267 = .ok (.goto 4, 3) := sorry
theorem dL_law_270 : decode cL_law 270 = .ok (.iconst 0, 1) := sorry
theorem dL_law_271 : decode cL_law 271 = .ok (.istore_n 3, 1) := sorry
theorem dL_law_272 : decode cL_law 272 = .ok (.iinc 4 1, 3) := sorry
theorem dL_law_275 : decode cL_law 275 = .ok (.goto (-223), 3) := sorry
theorem dL_law_278 : decode cL_law 278 = .ok (.iload_n 3, 1) := sorry
theorem dL_law_279 : decode cL_law 279 = .ok (.ifCond .eq 18, 3) := sorry
theorem dL_law_282 : decode cL_law 282 = .ok (.aload_n 1, 1) := sorry
theorem dL_law_283 : decode cL_law 283 = .ok (.aload_n 2, 1) := sorry
theorem dL_law_284 : decode cL_law 284 = .ok (.ldc_w 288, 3) := sorry
theorem dL_law_287 : decode cL_law 287 = .ok (.invokestatic 265, 3) := sorry
theorem dL_law_290 : decode cL_law 290 = .ok (.ifCond .eq 7, 3) := sorry
theorem dL_law_293 : decode cL_law 293 = .ok (.iconst 1, 1) := sorry
theorem dL_law_294 : decode cL_law 294 = .ok (.goto 4, 3) := sorry
theorem dL_law_297 : decode cL_law 297 = .ok (.iconst 0, 1) := sorry
theorem dL_law_298 : decode cL_law 298 = .ok (.ireturn, 1) := sorry
theorem gL_append_X7_append : GoodIn wsL_append (wsV RL 9 RX7 yX7_append wsX7_append) := sorry
theorem gL_load_X7_load : GoodIn wsL_load (wsV RL 23 RX7 yX7_load wsX7_load) := sorry
theorem gL_about_X7_about : GoodIn wsL_about (wsV RL 27 RX7 yX7_about wsX7_about) := sorry
theorem gL_prisoner_X7_prisoner : GoodIn wsL_prisoner (wsV RL 30 RX7 yX7_prisoner wsX7_prisoner) := sorry
theorem gL_visitor_X7_visitor : GoodIn wsL_visitor (wsV RL 38 RX7 yX7_visitor wsX7_visitor) := sorry
theorem gL_booking_X7_booking : GoodIn wsL_booking (wsV RL 41 RX7 yX7_booking wsX7_booking) := sorry
theorem gL_line_X7_line : GoodIn wsL_line (wsV RL 44 RX7 yX7_line wsX7_line) := sorry
theorem gL_wishAt_X7_wishAt : GoodIn wsL_wishAt (wsV RL 47 RX7 yX7_wishAt wsX7_wishAt) := sorry
theorem gL_setting_X7_setting : GoodIn wsL_setting (wsV RL 50 RX7 yX7_setting wsX7_setting) := sorry
theorem gL_addPrisoner_X7_addPrisoner : GoodIn wsL_addPrisoner (wsV RL 53 RX7 yX7_addPrisoner wsX7_addPrisoner) := sorry
theorem gL_promote_X7_promote : GoodIn wsL_promote (wsV RL 56 RX7 yX7_promote wsX7_promote) := sorry
theorem gL_list_X7_list : GoodIn wsL_list (wsV RL 59 RX7 yX7_list wsX7_list) := sorry
theorem gL_keepApart_X7_keepApart : GoodIn wsL_keepApart (wsV RL 63 RX7 yX7_keepApart wsX7_keepApart) := sorry
theorem gL_book_X7_book : GoodIn wsL_book (wsV RL 66 RX7 yX7_book wsX7_book) := sorry
theorem gL_cancel_X7_cancel : GoodIn wsL_cancel (wsV RL 70 RX7 yX7_cancel wsX7_cancel) := sorry
theorem gL_late_X7_late : GoodIn wsL_late (wsV RL 73 RX7 yX7_late wsX7_late) := sorry
theorem gL_carries_X7_carry : GoodIn wsL_carries (wsV RL 76 RX7 yX7_carry wsX7_carry) := sorry
theorem gL_punish_X7_punish : GoodIn wsL_punish (wsV RL 80 RX7 yX7_punish wsX7_punish) := sorry
theorem gL_wish_X7_wish : GoodIn wsL_wish (wsV RL 83 RX7 yX7_wish wsX7_wish) := sorry
theorem gL_run_X7_run : GoodIn wsL_run (wsV RL 86 RX7 yX7_run wsX7_run) := sorry
theorem gL_set_X7_set : GoodIn wsL_set (wsV RL 89 RX7 yX7_set wsX7_set) := sorry
theorem gL_undo_X7_undo : GoodIn wsL_undo (wsV RL 92 RX7 yX7_undo wsX7_undo) := sorry
theorem gL_whyNot_X7_whyNot : GoodIn wsL_whyNot (wsV RL 95 RX7 yX7_whyNot wsX7_whyNot) := sorry
theorem gL_firstTime_X7_firstTime : GoodIn wsL_firstTime (wsV RL 98 RX7 yX7_firstTime wsX7_firstTime) := sorry
theorem gL_coming_X7_coming : GoodIn wsL_coming (wsV RL 101 RX7 yX7_coming wsX7_coming) := sorry
theorem gL_becomes_X7_becomes : GoodIn wsL_becomes (wsV RL 104 RX7 yX7_becomes wsX7_becomes) := sorry
theorem gL_script_X7_runScript : GoodIn wsL_script (wsV RL 107 RX7 yX7_runScript wsX7_runScript) := sorry
theorem gL_simulate_X7_simulate : GoodIn wsL_simulate (wsV RL 111 RX7 yX7_simulate wsX7_simulate) := sorry
theorem gL_save_X7_save : GoodIn wsL_save (wsV RL 115 RX7 yX7_save wsX7_save) := sorry
theorem gL_restore_X7_restore : GoodIn wsL_restore (wsV RL 118 RX7 yX7_restore wsX7_restore) := sorry
theorem gL_now_L_about : GoodIn wsL_now (va_wsS RL 125 yL_about wsL_about) := sorry
theorem gL_now_L_setting : GoodIn wsL_now (va_wsS RL 130 yL_setting wsL_setting) := sorry
theorem gL_now_L_prisoner : GoodIn wsL_now (va_wsS RL 132 yL_prisoner wsL_prisoner) := sorry
theorem gL_now_L_visitor : GoodIn wsL_now (va_wsS RL 135 yL_visitor wsL_visitor) := sorry
theorem gL_now_L_booking : GoodIn wsL_now (va_wsS RL 137 yL_booking wsL_booking) := sorry
theorem gL_now_L_wishAt : GoodIn wsL_now (va_wsS RL 139 yL_wishAt wsL_wishAt) := sorry
theorem gL_errors_L_now : GoodIn wsL_errors (va_wsS RL 141 yL_now wsL_now) := sorry
theorem gL_errors_L_about : GoodIn wsL_errors (va_wsS RL 125 yL_about wsL_about) := sorry
theorem gL_errors_L_prisoner : GoodIn wsL_errors (va_wsS RL 132 yL_prisoner wsL_prisoner) := sorry
theorem gL_errors_L_visitor : GoodIn wsL_errors (va_wsS RL 135 yL_visitor wsL_visitor) := sorry
theorem gL_errors_L_booking : GoodIn wsL_errors (va_wsS RL 137 yL_booking wsL_booking) := sorry
theorem gL_errors_L_line : GoodIn wsL_errors (va_wsS RL 145 yL_line wsL_line) := sorry
theorem gL_errors_L_wishAt : GoodIn wsL_errors (va_wsS RL 139 yL_wishAt wsL_wishAt) := sorry
theorem gL_errors_L_setting : GoodIn wsL_errors (va_wsS RL 130 yL_setting wsL_setting) := sorry
theorem gL_errors_L_addPrisoner : GoodIn wsL_errors (va_wsS RL 147 yL_addPrisoner wsL_addPrisoner) := sorry
theorem gL_errors_L_promote : GoodIn wsL_errors (va_wsS RL 149 yL_promote wsL_promote) := sorry
theorem gL_errors_L_list : GoodIn wsL_errors (va_wsS RL 151 yL_list wsL_list) := sorry
theorem gL_errors_L_keepApart : GoodIn wsL_errors (va_wsS RL 154 yL_keepApart wsL_keepApart) := sorry
theorem gL_errors_L_book : GoodIn wsL_errors (va_wsS RL 156 yL_book wsL_book) := sorry
theorem gL_errors_L_cancel : GoodIn wsL_errors (va_wsS RL 159 yL_cancel wsL_cancel) := sorry
theorem gL_errors_L_late : GoodIn wsL_errors (va_wsS RL 161 yL_late wsL_late) := sorry
theorem gL_errors_L_carries : GoodIn wsL_errors (va_wsS RL 163 yL_carries wsL_carries) := sorry
theorem gL_errors_L_punish : GoodIn wsL_errors (va_wsS RL 167 yL_punish wsL_punish) := sorry
theorem gL_errors_L_wish : GoodIn wsL_errors (va_wsS RL 169 yL_wish wsL_wish) := sorry
theorem gL_errors_L_run : GoodIn wsL_errors (va_wsS RL 171 yL_run wsL_run) := sorry
theorem gL_errors_L_set : GoodIn wsL_errors (va_wsS RL 173 yL_set wsL_set) := sorry
theorem gL_errors_L_whyNot : GoodIn wsL_errors (va_wsS RL 175 yL_whyNot wsL_whyNot) := sorry
theorem gL_errors_L_firstTime : GoodIn wsL_errors (va_wsS RL 177 yL_firstTime wsL_firstTime) := sorry
theorem gL_errors_L_coming : GoodIn wsL_errors (va_wsS RL 179 yL_coming wsL_coming) := sorry
theorem gL_errors_L_becomes : GoodIn wsL_errors (va_wsS RL 181 yL_becomes wsL_becomes) := sorry
theorem gL_errors_L_script : GoodIn wsL_errors (va_wsS RL 187 yL_script wsL_script) := sorry
theorem gL_errors_L_simulate : GoodIn wsL_errors (va_wsS RL 193 yL_simulate wsL_simulate) := sorry
theorem gL_errors_L_save : GoodIn wsL_errors (va_wsS RL 196 yL_save wsL_save) := sorry
theorem gL_errors_L_restore : GoodIn wsL_errors (va_wsS RL 198 yL_restore wsL_restore) := sorry
theorem gL_errors_L_append : GoodIn wsL_errors (va_wsS RL 200 yL_append wsL_append) := sorry
theorem gL_kept_L_about : GoodIn wsL_kept (va_wsS RL 125 yL_about wsL_about) := sorry
theorem gL_kept_L_in : GoodIn wsL_kept (va_wsS RL 204 yL_in wsL_in) := sorry
theorem gL_kept_L_prisoner : GoodIn wsL_kept (va_wsS RL 132 yL_prisoner wsL_prisoner) := sorry
theorem gL_kept_L_visitor : GoodIn wsL_kept (va_wsS RL 135 yL_visitor wsL_visitor) := sorry
theorem gL_kept_L_booking : GoodIn wsL_kept (va_wsS RL 137 yL_booking wsL_booking) := sorry
theorem gL_kept_L_line : GoodIn wsL_kept (va_wsS RL 145 yL_line wsL_line) := sorry
theorem gL_kept_L_wishAt : GoodIn wsL_kept (va_wsS RL 139 yL_wishAt wsL_wishAt) := sorry
theorem gL_follows_L_now : GoodIn wsL_follows (va_wsS RL 141 yL_now wsL_now) := sorry
theorem gL_follows_L_about : GoodIn wsL_follows (va_wsS RL 125 yL_about wsL_about) := sorry
theorem gL_follows_L_save : GoodIn wsL_follows (va_wsS RL 196 yL_save wsL_save) := sorry
theorem gL_follows_L_simulate : GoodIn wsL_follows (va_wsS RL 193 yL_simulate wsL_simulate) := sorry
theorem gL_follows_L_coming : GoodIn wsL_follows (va_wsS RL 179 yL_coming wsL_coming) := sorry
theorem gL_follows_L_run : GoodIn wsL_follows (va_wsS RL 171 yL_run wsL_run) := sorry
theorem gL_follows_L_undo : GoodIn wsL_follows (va_wsS RL 240 yL_undo wsL_undo) := sorry
theorem gL_follows_L_booking : GoodIn wsL_follows (va_wsS RL 137 yL_booking wsL_booking) := sorry
theorem gL_follows_L_becomes : GoodIn wsL_follows (va_wsS RL 181 yL_becomes wsL_becomes) := sorry
theorem gL_follows_L_firstTime : GoodIn wsL_follows (va_wsS RL 177 yL_firstTime wsL_firstTime) := sorry
theorem gL_follows_L_whyNot : GoodIn wsL_follows (va_wsS RL 175 yL_whyNot wsL_whyNot) := sorry
theorem gL_follows_L_book : GoodIn wsL_follows (va_wsS RL 156 yL_book wsL_book) := sorry
theorem gL_follows_L_in : GoodIn wsL_follows (va_wsS RL 204 yL_in wsL_in) := sorry
theorem gL_follows_L_prisoner : GoodIn wsL_follows (va_wsS RL 132 yL_prisoner wsL_prisoner) := sorry
theorem gL_follows_L_punish : GoodIn wsL_follows (va_wsS RL 167 yL_punish wsL_punish) := sorry
theorem gL_follows_L_cancel : GoodIn wsL_follows (va_wsS RL 159 yL_cancel wsL_cancel) := sorry
theorem gL_follows_L_late : GoodIn wsL_follows (va_wsS RL 161 yL_late wsL_late) := sorry
theorem gL_follows_L_restore : GoodIn wsL_follows (va_wsS RL 198 yL_restore wsL_restore) := sorry
theorem gL_alike_L_now : GoodIn wsL_alike (va_wsS RL 141 yL_now wsL_now) := sorry
theorem gL_alike_X7_errorPosition : GoodIn wsL_alike (wsV RL 244 RX7 yX7_errorPosition wsX7_errorPosition) := sorry
theorem gL_alike_L_coming : GoodIn wsL_alike (va_wsS RL 179 yL_coming wsL_coming) := sorry
theorem gL_alike_L_becomes : GoodIn wsL_alike (va_wsS RL 181 yL_becomes wsL_becomes) := sorry
theorem gL_alike_L_firstTime : GoodIn wsL_alike (va_wsS RL 177 yL_firstTime wsL_firstTime) := sorry
theorem gL_alike_L_line : GoodIn wsL_alike (va_wsS RL 145 yL_line wsL_line) := sorry
theorem gL_alike_L_simulate : GoodIn wsL_alike (va_wsS RL 193 yL_simulate wsL_simulate) := sorry
theorem gL_alike_L_script : GoodIn wsL_alike (va_wsS RL 187 yL_script wsL_script) := sorry
theorem gL_says_L_append : GoodIn wsL_says (va_wsS RL 200 yL_append wsL_append) := sorry
theorem gL_digit_L_says : GoodIn wsL_digit (va_wsS RL 249 yL_says wsL_says) := sorry
theorem gL_tells_X7_clearText : GoodIn wsL_tells (wsV RL 253 RX7 yX7_clearText wsX7_clearText) := sorry
theorem gL_tells_L_says : GoodIn wsL_tells (va_wsS RL 249 yL_says wsL_says) := sorry
theorem gL_tells_L_digit : GoodIn wsL_tells (va_wsS RL 257 yL_digit wsL_digit) := sorry
theorem gL_tells_X7_errorPosition : GoodIn wsL_tells (wsV RL 244 RX7 yX7_errorPosition wsX7_errorPosition) := sorry
theorem gL_act_L_about : GoodIn wsL_act (va_wsS RL 125 yL_about wsL_about) := sorry
theorem gL_act_L_addPrisoner : GoodIn wsL_act (va_wsS RL 147 yL_addPrisoner wsL_addPrisoner) := sorry
theorem gL_act_L_promote : GoodIn wsL_act (va_wsS RL 149 yL_promote wsL_promote) := sorry
theorem gL_act_L_list : GoodIn wsL_act (va_wsS RL 151 yL_list wsL_list) := sorry
theorem gL_act_L_keepApart : GoodIn wsL_act (va_wsS RL 154 yL_keepApart wsL_keepApart) := sorry
theorem gL_act_L_book : GoodIn wsL_act (va_wsS RL 156 yL_book wsL_book) := sorry
theorem gL_act_L_cancel : GoodIn wsL_act (va_wsS RL 159 yL_cancel wsL_cancel) := sorry
theorem gL_act_L_late : GoodIn wsL_act (va_wsS RL 161 yL_late wsL_late) := sorry
theorem gL_act_L_carries : GoodIn wsL_act (va_wsS RL 163 yL_carries wsL_carries) := sorry
theorem gL_act_L_punish : GoodIn wsL_act (va_wsS RL 167 yL_punish wsL_punish) := sorry
theorem gL_act_L_wish : GoodIn wsL_act (va_wsS RL 169 yL_wish wsL_wish) := sorry
theorem gL_act_L_set : GoodIn wsL_act (va_wsS RL 173 yL_set wsL_set) := sorry
theorem gL_act_L_undo : GoodIn wsL_act (va_wsS RL 240 yL_undo wsL_undo) := sorry
theorem gL_act_L_save : GoodIn wsL_act (va_wsS RL 196 yL_save wsL_save) := sorry
theorem gL_act_L_restore : GoodIn wsL_act (va_wsS RL 198 yL_restore wsL_restore) := sorry
theorem gL_act_L_run : GoodIn wsL_act (va_wsS RL 171 yL_run wsL_run) := sorry
theorem gL_law_X7_init : GoodIn wsL_law (wsX7_init) := sorry
theorem gL_law_L_draw : GoodIn wsL_law (va_wsS RL 261 yL_draw wsL_draw) := sorry
theorem gL_law_L_alike : GoodIn wsL_law (va_wsS RL 265 yL_alike wsL_alike) := sorry
theorem gL_law_L_errors : GoodIn wsL_law (va_wsS RL 269 yL_errors wsL_errors) := sorry
theorem gL_law_L_kept : GoodIn wsL_law (va_wsS RL 273 yL_kept wsL_kept) := sorry
theorem gL_law_L_tells : GoodIn wsL_law (va_wsS RL 276 yL_tells wsL_tells) := sorry
theorem gL_law_L_load : GoodIn wsL_law (va_wsS RL 280 yL_load wsL_load) := sorry
theorem gL_law_L_act : GoodIn wsL_law (va_wsS RL 282 yL_act wsL_act) := sorry
theorem gL_law_L_follows : GoodIn wsL_law (va_wsS RL 285 yL_follows wsL_follows) := sorry
theorem gL_law_L_save : GoodIn wsL_law (va_wsS RL 196 yL_save wsL_save) := sorry
theorem gL_law_L_restore : GoodIn wsL_law (va_wsS RL 198 yL_restore wsL_restore) := sorry
