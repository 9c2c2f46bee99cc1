/-! ===== rows of the law's methods, 3 ===== -/
theorem dL_run_8 : decode cL_run 8 = .ok (.ldc2_w 17, 3) := by decide +kernel
theorem dL_run_11 : decode cL_run 11 = .ok (.lreturn, 1) := by decide +kernel
theorem dL_set_0 : decode cL_set 0 = .ok (.aload_n 0, 1) := by decide +kernel
theorem dL_set_1 : decode cL_set 1 = .ok (.iload_n 1, 1) := by decide +kernel
theorem dL_set_2 : decode cL_set 2 = .ok (.iload_n 2, 1) := by decide +kernel
theorem dL_set_3 : decode cL_set 3 = .ok (.invokevirtual 89, 3) := by decide +kernel
theorem dL_set_6 : decode cL_set 6 = .ok (.i2l, 1) := by decide +kernel
theorem dL_set_7 : decode cL_set 7 = .ok (.lreturn, 1) := by decide +kernel
theorem dL_set_8 : decode cL_set 8 = .ok (.astore_n 3, 1) := by decide +kernel
theorem dL_set_9 : decode cL_set 9 = .ok (.ldc2_w 17, 3) := by decide +kernel
theorem dL_set_12 : decode cL_set 12 = .ok (.lreturn, 1) := by decide +kernel
theorem dL_undo_0 : decode cL_undo 0 = .ok (.aload_n 0, 1) := by decide +kernel
theorem dL_undo_1 : decode cL_undo 1 = .ok (.invokevirtual 92, 3) := by decide +kernel
theorem dL_undo_4 : decode cL_undo 4 = .ok (.i2l, 1) := by decide +kernel
theorem dL_undo_5 : decode cL_undo 5 = .ok (.lreturn, 1) := by decide +kernel
theorem dL_undo_6 : decode cL_undo 6 = .ok (.astore_n 1, 1) := by decide +kernel
theorem dL_undo_7 : decode cL_undo 7 = .ok (.ldc2_w 21, 3) := by decide +kernel
theorem dL_undo_10 : decode cL_undo 10 = .ok (.lreturn, 1) := by decide +kernel
theorem dL_whyNot_0 : decode cL_whyNot 0 = .ok (.aload_n 0, 1) := by decide +kernel
theorem dL_whyNot_1 : decode cL_whyNot 1 = .ok (.iload_n 1, 1) := by decide +kernel
theorem dL_whyNot_2 : decode cL_whyNot 2 = .ok (.iload_n 2, 1) := by decide +kernel
theorem dL_whyNot_3 : decode cL_whyNot 3 = .ok (.iload_n 3, 1) := by decide +kernel
theorem dL_whyNot_4 : decode cL_whyNot 4 = .ok (.iload 4, 2) := by decide +kernel
theorem dL_whyNot_6 : decode cL_whyNot 6 = .ok (.invokevirtual 95, 3) := by decide +kernel
theorem dL_whyNot_9 : decode cL_whyNot 9 = .ok (.i2l, 1) := by decide +kernel
theorem dL_whyNot_10 : decode cL_whyNot 10 = .ok (.lreturn, 1) := by decide +kernel
theorem dL_whyNot_11 : decode cL_whyNot 11 = .ok (.astore 5, 2) := by decide +kernel
theorem dL_whyNot_13 : decode cL_whyNot 13 = .ok (.ldc2_w 36, 3) := by decide +kernel
theorem dL_whyNot_16 : decode cL_whyNot 16 = .ok (.lreturn, 1) := by decide +kernel
theorem dL_whyNot_17 : decode cL_whyNot 17 = .ok (.astore 5, 2) := by decide +kernel
theorem dL_whyNot_19 : decode cL_whyNot 19 = .ok (.ldc2_w 17, 3) := by decide +kernel
theorem dL_whyNot_22 : decode cL_whyNot 22 = .ok (.lreturn, 1) := by decide +kernel
theorem dL_firstTime_0 : decode cL_firstTime 0 = .ok (.aload_n 0, 1) := by decide +kernel
theorem dL_firstTime_1 : decode cL_firstTime 1 = .ok (.iload_n 1, 1) := by decide +kernel
theorem dL_firstTime_2 : decode cL_firstTime 2 = .ok (.iload_n 2, 1) := by decide +kernel
theorem dL_firstTime_3 : decode cL_firstTime 3 = .ok (.invokevirtual 98, 3) := by decide +kernel
theorem dL_firstTime_6 : decode cL_firstTime 6 = .ok (.i2l, 1) := by decide +kernel
theorem dL_firstTime_7 : decode cL_firstTime 7 = .ok (.lreturn, 1) := by decide +kernel
theorem dL_firstTime_8 : decode cL_firstTime 8 = .ok (.astore_n 3, 1) := by decide +kernel
theorem dL_firstTime_9 : decode cL_firstTime 9 = .ok (.ldc2_w 36, 3) := by decide +kernel
theorem dL_firstTime_12 : decode cL_firstTime 12 = .ok (.lreturn, 1) := by decide +kernel
theorem dL_coming_0 : decode cL_coming 0 = .ok (.aload_n 0, 1) := by decide +kernel
theorem dL_coming_1 : decode cL_coming 1 = .ok (.iload_n 1, 1) := by decide +kernel
theorem dL_coming_2 : decode cL_coming 2 = .ok (.iload_n 2, 1) := by decide +kernel
theorem dL_coming_3 : decode cL_coming 3 = .ok (.invokevirtual 101, 3) := by decide +kernel
theorem dL_coming_6 : decode cL_coming 6 = .ok (.i2l, 1) := by decide +kernel
theorem dL_coming_7 : decode cL_coming 7 = .ok (.lreturn, 1) := by decide +kernel
theorem dL_coming_8 : decode cL_coming 8 = .ok (.astore_n 3, 1) := by decide +kernel
theorem dL_coming_9 : decode cL_coming 9 = .ok (.ldc2_w 17, 3) := by decide +kernel
theorem dL_coming_12 : decode cL_coming 12 = .ok (.lreturn, 1) := by decide +kernel
theorem dL_becomes_0 : decode cL_becomes 0 = .ok (.aload_n 0, 1) := by decide +kernel
theorem dL_becomes_1 : decode cL_becomes 1 = .ok (.iload_n 1, 1) := by decide +kernel
theorem dL_becomes_2 : decode cL_becomes 2 = .ok (.invokevirtual 104, 3) := by decide +kernel
theorem dL_becomes_5 : decode cL_becomes 5 = .ok (.i2l, 1) := by decide +kernel
theorem dL_becomes_6 : decode cL_becomes 6 = .ok (.lreturn, 1) := by decide +kernel
theorem dL_becomes_7 : decode cL_becomes 7 = .ok (.astore_n 2, 1) := by decide +kernel
theorem dL_becomes_8 : decode cL_becomes 8 = .ok (.ldc2_w 36, 3) := by decide +kernel
theorem dL_becomes_11 : decode cL_becomes 11 = .ok (.lreturn, 1) := by decide +kernel
theorem dL_becomes_12 : decode cL_becomes 12 = .ok (.astore_n 2, 1) := by decide +kernel
theorem dL_becomes_13 : decode cL_becomes 13 = .ok (.ldc2_w 21, 3) := by decide +kernel
theorem dL_becomes_16 : decode cL_becomes 16 = .ok (.lreturn, 1) := by decide +kernel
theorem dL_script_0 : decode cL_script 0 = .ok (.aload_n 0, 1) := by decide +kernel
theorem dL_script_1 : decode cL_script 1 = .ok (.iload_n 1, 1) := by decide +kernel
theorem dL_script_2 : decode cL_script 2 = .ok (.lload_n 2, 1) := by decide +kernel
theorem dL_script_3 : decode cL_script 3 = .ok (.invokevirtual 107, 3) := by decide +kernel
theorem dL_script_6 : decode cL_script 6 = .ok (.i2l, 1) := by decide +kernel
theorem dL_script_7 : decode cL_script 7 = .ok (.lreturn, 1) := by decide +kernel
theorem dL_script_8 : decode cL_script 8 = .ok (.astore 4, 2) := by decide +kernel
theorem dL_script_10 : decode cL_script 10 = .ok (.ldc2_w 17, 3) := by decide +kernel
theorem dL_script_13 : decode cL_script 13 = .ok (.lreturn, 1) := by decide +kernel
theorem dL_simulate_0 : decode cL_simulate 0 = .ok (.aload_n 0, 1) := by decide +kernel
theorem dL_simulate_1 : decode cL_simulate 1 = .ok (.lload_n 1, 1) := by decide +kernel
theorem dL_simulate_2 : decode cL_simulate 2 = .ok (.iload_n 3, 1) := by decide +kernel
theorem dL_simulate_3 : decode cL_simulate 3 = .ok (.invokevirtual 111, 3) := by decide +kernel
theorem dL_simulate_6 : decode cL_simulate 6 = .ok (.i2l, 1) := by decide +kernel
theorem dL_simulate_7 : decode cL_simulate 7 = .ok (.lreturn, 1) := by decide +kernel
theorem dL_simulate_8 : decode cL_simulate 8 = .ok (.astore 4, 2) := by decide +kernel
theorem dL_simulate_10 : decode cL_simulate 10 = .ok (.ldc2_w 17, 3) := by decide +kernel
theorem dL_simulate_13 : decode cL_simulate 13 = .ok (.lreturn, 1) := by decide +kernel
theorem dL_save_0 : decode cL_save 0 = .ok (.aload_n 0, 1) := by decide +kernel
