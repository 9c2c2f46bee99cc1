/-! ===== rows of the law's methods, 0 ===== -/
theorem dL_draw_0 : decode cL_draw 0 = .ok (.iload_n 1, 1) := by decide +kernel
theorem dL_draw_1 : decode cL_draw 1 = .ok (.aload_n 0, 1) := by decide +kernel
theorem dL_draw_2 : decode cL_draw 2 = .ok (.arraylength, 1) := by decide +kernel
theorem dL_draw_3 : decode cL_draw 3 = .ok (.if_icmp .ge 9, 3) := by decide +kernel
theorem dL_draw_6 : decode cL_draw 6 = .ok (.aload_n 0, 1) := by decide +kernel
theorem dL_draw_7 : decode cL_draw 7 = .ok (.iload_n 1, 1) := by decide +kernel
theorem dL_draw_8 : decode cL_draw 8 = .ok (.iaload, 1) := by decide +kernel
theorem dL_draw_9 : decode cL_draw 9 = .ok (.goto 11, 3) := by decide +kernel
theorem dL_draw_12 : decode cL_draw 12 = .ok (.ldc 7, 2) := by decide +kernel
theorem dL_draw_14 : decode cL_draw 14 = .ok (.iload_n 1, 1) := by decide +kernel
theorem dL_draw_15 : decode cL_draw 15 = .ok (.imul, 1) := by decide +kernel
theorem dL_draw_16 : decode cL_draw 16 = .ok (.sipush 10651, 3) := by decide +kernel
theorem dL_draw_19 : decode cL_draw 19 = .ok (.iadd, 1) := by decide +kernel
theorem dL_draw_20 : decode cL_draw 20 = .ok (.ldc 8, 2) := by decide +kernel
theorem dL_draw_22 : decode cL_draw 22 = .ok (.iand, 1) := by decide +kernel
theorem dL_draw_23 : decode cL_draw 23 = .ok (.ireturn, 1) := by decide +kernel
theorem dL_in_0 : decode cL_in 0 = .ok (.lload_n 0, 1) := by decide +kernel
theorem dL_in_1 : decode cL_in 1 = .ok (.lload_n 2, 1) := by decide +kernel
theorem dL_in_2 : decode cL_in 2 = .ok (.lcmp, 1) := by decide +kernel
theorem dL_in_3 : decode cL_in 3 = .ok (.ifCond .lt 14, 3) := by decide +kernel
theorem dL_in_6 : decode cL_in 6 = .ok (.lload_n 0, 1) := by decide +kernel
theorem dL_in_7 : decode cL_in 7 = .ok (.lload 4, 2) := by decide +kernel
theorem dL_in_9 : decode cL_in 9 = .ok (.lcmp, 1) := by decide +kernel
theorem dL_in_10 : decode cL_in 10 = .ok (.ifCond .gt 7, 3) := by decide +kernel
theorem dL_in_13 : decode cL_in 13 = .ok (.iconst 1, 1) := by decide +kernel
theorem dL_in_14 : decode cL_in 14 = .ok (.goto 4, 3) := by decide +kernel
theorem dL_in_17 : decode cL_in 17 = .ok (.iconst 0, 1) := by decide +kernel
theorem dL_in_18 : decode cL_in 18 = .ok (.ireturn, 1) := by decide +kernel
theorem dL_append_0 : decode cL_append 0 = .ok (.aload_n 0, 1) := by decide +kernel
theorem dL_append_1 : decode cL_append 1 = .ok (.iload_n 1, 1) := by decide +kernel
theorem dL_append_2 : decode cL_append 2 = .ok (.invokevirtual 9, 3) := by decide +kernel
theorem dL_append_5 : decode cL_append 5 = .ok (.i2l, 1) := by decide +kernel
theorem dL_append_6 : decode cL_append 6 = .ok (.lreturn, 1) := by decide +kernel
theorem dL_append_7 : decode cL_append 7 = .ok (.astore_n 2, 1) := by decide +kernel
theorem dL_append_8 : decode cL_append 8 = .ok (.ldc2_w 17, 3) := by decide +kernel
theorem dL_append_11 : decode cL_append 11 = .ok (.lreturn, 1) := by decide +kernel
theorem dL_append_12 : decode cL_append 12 = .ok (.astore_n 2, 1) := by decide +kernel
theorem dL_append_13 : decode cL_append 13 = .ok (.ldc2_w 21, 3) := by decide +kernel
theorem dL_append_16 : decode cL_append 16 = .ok (.lreturn, 1) := by decide +kernel
theorem dL_load_0 : decode cL_load 0 = .ok (.aload_n 0, 1) := by decide +kernel
theorem dL_load_1 : decode cL_load 1 = .ok (.invokevirtual 23, 3) := by decide +kernel
theorem dL_load_4 : decode cL_load 4 = .ok (.i2l, 1) := by decide +kernel
theorem dL_load_5 : decode cL_load 5 = .ok (.lreturn, 1) := by decide +kernel
theorem dL_load_6 : decode cL_load 6 = .ok (.astore_n 1, 1) := by decide +kernel
theorem dL_load_7 : decode cL_load 7 = .ok (.ldc2_w 21, 3) := by decide +kernel
theorem dL_load_10 : decode cL_load 10 = .ok (.lreturn, 1) := by decide +kernel
theorem dL_about_0 : decode cL_about 0 = .ok (.aload_n 0, 1) := by decide +kernel
theorem dL_about_1 : decode cL_about 1 = .ok (.iload_n 1, 1) := by decide +kernel
theorem dL_about_2 : decode cL_about 2 = .ok (.invokevirtual 27, 3) := by decide +kernel
theorem dL_about_5 : decode cL_about 5 = .ok (.i2l, 1) := by decide +kernel
theorem dL_about_6 : decode cL_about 6 = .ok (.lreturn, 1) := by decide +kernel
theorem dL_about_7 : decode cL_about 7 = .ok (.astore_n 2, 1) := by decide +kernel
theorem dL_about_8 : decode cL_about 8 = .ok (.ldc2_w 17, 3) := by decide +kernel
theorem dL_about_11 : decode cL_about 11 = .ok (.lreturn, 1) := by decide +kernel
theorem dL_prisoner_0 : decode cL_prisoner 0 = .ok (.aload_n 0, 1) := by decide +kernel
theorem dL_prisoner_1 : decode cL_prisoner 1 = .ok (.iload_n 1, 1) := by decide +kernel
theorem dL_prisoner_2 : decode cL_prisoner 2 = .ok (.iload_n 2, 1) := by decide +kernel
theorem dL_prisoner_3 : decode cL_prisoner 3 = .ok (.invokevirtual 30, 3) := by decide +kernel
theorem dL_prisoner_6 : decode cL_prisoner 6 = .ok (.i2l, 1) := by decide +kernel
theorem dL_prisoner_7 : decode cL_prisoner 7 = .ok (.lreturn, 1) := by decide +kernel
theorem dL_prisoner_8 : decode cL_prisoner 8 = .ok (.astore_n 3, 1) := by decide +kernel
theorem dL_prisoner_9 : decode cL_prisoner 9 = .ok (.ldc2_w 36, 3) := by decide +kernel
theorem dL_prisoner_12 : decode cL_prisoner 12 = .ok (.lreturn, 1) := by decide +kernel
theorem dL_prisoner_13 : decode cL_prisoner 13 = .ok (.astore_n 3, 1) := by decide +kernel
theorem dL_prisoner_14 : decode cL_prisoner 14 = .ok (.ldc2_w 17, 3) := by decide +kernel
theorem dL_prisoner_17 : decode cL_prisoner 17 = .ok (.lreturn, 1) := by decide +kernel
theorem dL_visitor_0 : decode cL_visitor 0 = .ok (.aload_n 0, 1) := by decide +kernel
theorem dL_visitor_1 : decode cL_visitor 1 = .ok (.iload_n 1, 1) := by decide +kernel
theorem dL_visitor_2 : decode cL_visitor 2 = .ok (.iload_n 2, 1) := by decide +kernel
theorem dL_visitor_3 : decode cL_visitor 3 = .ok (.invokevirtual 38, 3) := by decide +kernel
theorem dL_visitor_6 : decode cL_visitor 6 = .ok (.i2l, 1) := by decide +kernel
theorem dL_visitor_7 : decode cL_visitor 7 = .ok (.lreturn, 1) := by decide +kernel
theorem dL_visitor_8 : decode cL_visitor 8 = .ok (.astore_n 3, 1) := by decide +kernel
theorem dL_visitor_9 : decode cL_visitor 9 = .ok (.ldc2_w 36, 3) := by decide +kernel
theorem dL_visitor_12 : decode cL_visitor 12 = .ok (.lreturn, 1) := by decide +kernel
theorem dL_visitor_13 : decode cL_visitor 13 = .ok (.astore_n 3, 1) := by decide +kernel
theorem dL_visitor_14 : decode cL_visitor 14 = .ok (.ldc2_w 17, 3) := by decide +kernel
theorem dL_visitor_17 : decode cL_visitor 17 = .ok (.lreturn, 1) := by decide +kernel
theorem dL_booking_0 : decode cL_booking 0 = .ok (.aload_n 0, 1) := by decide +kernel
theorem dL_booking_1 : decode cL_booking 1 = .ok (.iload_n 1, 1) := by decide +kernel
