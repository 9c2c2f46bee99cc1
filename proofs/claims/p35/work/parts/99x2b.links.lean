/-! ===== links of the law's methods ===== -/
theorem cL_append_15 : Cond.classLink RL 15 "java/lang/IllegalArgumentException" ∈ wsL_append := by decide +kernel
theorem cL_append_19 : Cond.classLink RL 19 "java/lang/IllegalStateException" ∈ wsL_append := by decide +kernel
theorem cL_load_19 : Cond.classLink RL 19 "java/lang/IllegalStateException" ∈ wsL_load := by decide +kernel
theorem cL_about_15 : Cond.classLink RL 15 "java/lang/IllegalArgumentException" ∈ wsL_about := by decide +kernel
theorem cL_prisoner_34 : Cond.classLink RL 34 "java/lang/IndexOutOfBoundsException" ∈ wsL_prisoner := by decide +kernel
theorem cL_prisoner_15 : Cond.classLink RL 15 "java/lang/IllegalArgumentException" ∈ wsL_prisoner := by decide +kernel
theorem cL_visitor_34 : Cond.classLink RL 34 "java/lang/IndexOutOfBoundsException" ∈ wsL_visitor := by decide +kernel
theorem cL_visitor_15 : Cond.classLink RL 15 "java/lang/IllegalArgumentException" ∈ wsL_visitor := by decide +kernel
theorem cL_booking_34 : Cond.classLink RL 34 "java/lang/IndexOutOfBoundsException" ∈ wsL_booking := by decide +kernel
theorem cL_booking_15 : Cond.classLink RL 15 "java/lang/IllegalArgumentException" ∈ wsL_booking := by decide +kernel
theorem cL_line_34 : Cond.classLink RL 34 "java/lang/IndexOutOfBoundsException" ∈ wsL_line := by decide +kernel
theorem cL_line_15 : Cond.classLink RL 15 "java/lang/IllegalArgumentException" ∈ wsL_line := by decide +kernel
theorem cL_wishAt_15 : Cond.classLink RL 15 "java/lang/IllegalArgumentException" ∈ wsL_wishAt := by decide +kernel
theorem cL_setting_15 : Cond.classLink RL 15 "java/lang/IllegalArgumentException" ∈ wsL_setting := by decide +kernel
theorem cL_addPrisoner_15 : Cond.classLink RL 15 "java/lang/IllegalArgumentException" ∈ wsL_addPrisoner := by decide +kernel
theorem cL_addPrisoner_19 : Cond.classLink RL 19 "java/lang/IllegalStateException" ∈ wsL_addPrisoner := by decide +kernel
theorem cL_promote_34 : Cond.classLink RL 34 "java/lang/IndexOutOfBoundsException" ∈ wsL_promote := by decide +kernel
theorem cL_promote_15 : Cond.classLink RL 15 "java/lang/IllegalArgumentException" ∈ wsL_promote := by decide +kernel
theorem cL_list_34 : Cond.classLink RL 34 "java/lang/IndexOutOfBoundsException" ∈ wsL_list := by decide +kernel
theorem cL_keepApart_34 : Cond.classLink RL 34 "java/lang/IndexOutOfBoundsException" ∈ wsL_keepApart := by decide +kernel
theorem cL_keepApart_19 : Cond.classLink RL 19 "java/lang/IllegalStateException" ∈ wsL_keepApart := by decide +kernel
theorem cL_book_34 : Cond.classLink RL 34 "java/lang/IndexOutOfBoundsException" ∈ wsL_book := by decide +kernel
theorem cL_book_15 : Cond.classLink RL 15 "java/lang/IllegalArgumentException" ∈ wsL_book := by decide +kernel
theorem cL_book_19 : Cond.classLink RL 19 "java/lang/IllegalStateException" ∈ wsL_book := by decide +kernel
theorem cL_cancel_34 : Cond.classLink RL 34 "java/lang/IndexOutOfBoundsException" ∈ wsL_cancel := by decide +kernel
theorem cL_late_34 : Cond.classLink RL 34 "java/lang/IndexOutOfBoundsException" ∈ wsL_late := by decide +kernel
theorem cL_late_15 : Cond.classLink RL 15 "java/lang/IllegalArgumentException" ∈ wsL_late := by decide +kernel
theorem cL_carries_34 : Cond.classLink RL 34 "java/lang/IndexOutOfBoundsException" ∈ wsL_carries := by decide +kernel
theorem cL_punish_34 : Cond.classLink RL 34 "java/lang/IndexOutOfBoundsException" ∈ wsL_punish := by decide +kernel
theorem cL_punish_15 : Cond.classLink RL 15 "java/lang/IllegalArgumentException" ∈ wsL_punish := by decide +kernel
theorem cL_wish_34 : Cond.classLink RL 34 "java/lang/IndexOutOfBoundsException" ∈ wsL_wish := by decide +kernel
theorem cL_wish_19 : Cond.classLink RL 19 "java/lang/IllegalStateException" ∈ wsL_wish := by decide +kernel
theorem cL_set_15 : Cond.classLink RL 15 "java/lang/IllegalArgumentException" ∈ wsL_set := by decide +kernel
theorem cL_run_15 : Cond.classLink RL 15 "java/lang/IllegalArgumentException" ∈ wsL_run := by decide +kernel
theorem cL_undo_19 : Cond.classLink RL 19 "java/lang/IllegalStateException" ∈ wsL_undo := by decide +kernel
theorem cL_whyNot_34 : Cond.classLink RL 34 "java/lang/IndexOutOfBoundsException" ∈ wsL_whyNot := by decide +kernel
theorem cL_whyNot_15 : Cond.classLink RL 15 "java/lang/IllegalArgumentException" ∈ wsL_whyNot := by decide +kernel
theorem cL_firstTime_34 : Cond.classLink RL 34 "java/lang/IndexOutOfBoundsException" ∈ wsL_firstTime := by decide +kernel
theorem cL_coming_15 : Cond.classLink RL 15 "java/lang/IllegalArgumentException" ∈ wsL_coming := by decide +kernel
theorem cL_becomes_34 : Cond.classLink RL 34 "java/lang/IndexOutOfBoundsException" ∈ wsL_becomes := by decide +kernel
theorem cL_becomes_19 : Cond.classLink RL 19 "java/lang/IllegalStateException" ∈ wsL_becomes := by decide +kernel
theorem cL_script_15 : Cond.classLink RL 15 "java/lang/IllegalArgumentException" ∈ wsL_script := by decide +kernel
theorem cL_simulate_15 : Cond.classLink RL 15 "java/lang/IllegalArgumentException" ∈ wsL_simulate := by decide +kernel
theorem cL_save_34 : Cond.classLink RL 34 "java/lang/IndexOutOfBoundsException" ∈ wsL_save := by decide +kernel
theorem cL_restore_34 : Cond.classLink RL 34 "java/lang/IndexOutOfBoundsException" ∈ wsL_restore := by decide +kernel
theorem cL_restore_19 : Cond.classLink RL 19 "java/lang/IllegalStateException" ∈ wsL_restore := by decide +kernel
theorem kL_append_17 : Cond.constantLong RL 17 (-9000000000000000002) ∈ wsL_append := by decide +kernel
theorem kL_append_21 : Cond.constantLong RL 21 (-9000000000000000003) ∈ wsL_append := by decide +kernel
theorem kL_load_21 : Cond.constantLong RL 21 (-9000000000000000003) ∈ wsL_load := by decide +kernel
theorem kL_about_17 : Cond.constantLong RL 17 (-9000000000000000002) ∈ wsL_about := by decide +kernel
theorem kL_prisoner_36 : Cond.constantLong RL 36 (-9000000000000000001) ∈ wsL_prisoner := by decide +kernel
theorem kL_prisoner_17 : Cond.constantLong RL 17 (-9000000000000000002) ∈ wsL_prisoner := by decide +kernel
theorem kL_visitor_36 : Cond.constantLong RL 36 (-9000000000000000001) ∈ wsL_visitor := by decide +kernel
theorem kL_visitor_17 : Cond.constantLong RL 17 (-9000000000000000002) ∈ wsL_visitor := by decide +kernel
theorem kL_booking_36 : Cond.constantLong RL 36 (-9000000000000000001) ∈ wsL_booking := by decide +kernel
theorem kL_booking_17 : Cond.constantLong RL 17 (-9000000000000000002) ∈ wsL_booking := by decide +kernel
theorem kL_line_36 : Cond.constantLong RL 36 (-9000000000000000001) ∈ wsL_line := by decide +kernel
theorem kL_line_17 : Cond.constantLong RL 17 (-9000000000000000002) ∈ wsL_line := by decide +kernel
theorem kL_wishAt_17 : Cond.constantLong RL 17 (-9000000000000000002) ∈ wsL_wishAt := by decide +kernel
theorem kL_setting_17 : Cond.constantLong RL 17 (-9000000000000000002) ∈ wsL_setting := by decide +kernel
theorem kL_addPrisoner_17 : Cond.constantLong RL 17 (-9000000000000000002) ∈ wsL_addPrisoner := by decide +kernel
theorem kL_addPrisoner_21 : Cond.constantLong RL 21 (-9000000000000000003) ∈ wsL_addPrisoner := by decide +kernel
theorem kL_promote_36 : Cond.constantLong RL 36 (-9000000000000000001) ∈ wsL_promote := by decide +kernel
theorem kL_promote_17 : Cond.constantLong RL 17 (-9000000000000000002) ∈ wsL_promote := by decide +kernel
theorem kL_list_36 : Cond.constantLong RL 36 (-9000000000000000001) ∈ wsL_list := by decide +kernel
theorem kL_keepApart_36 : Cond.constantLong RL 36 (-9000000000000000001) ∈ wsL_keepApart := by decide +kernel
theorem kL_keepApart_21 : Cond.constantLong RL 21 (-9000000000000000003) ∈ wsL_keepApart := by decide +kernel
theorem kL_book_36 : Cond.constantLong RL 36 (-9000000000000000001) ∈ wsL_book := by decide +kernel
theorem kL_book_17 : Cond.constantLong RL 17 (-9000000000000000002) ∈ wsL_book := by decide +kernel
theorem kL_book_21 : Cond.constantLong RL 21 (-9000000000000000003) ∈ wsL_book := by decide +kernel
theorem kL_cancel_36 : Cond.constantLong RL 36 (-9000000000000000001) ∈ wsL_cancel := by decide +kernel
theorem kL_late_36 : Cond.constantLong RL 36 (-9000000000000000001) ∈ wsL_late := by decide +kernel
theorem kL_late_17 : Cond.constantLong RL 17 (-9000000000000000002) ∈ wsL_late := by decide +kernel
theorem kL_carries_36 : Cond.constantLong RL 36 (-9000000000000000001) ∈ wsL_carries := by decide +kernel
theorem kL_punish_36 : Cond.constantLong RL 36 (-9000000000000000001) ∈ wsL_punish := by decide +kernel
theorem kL_punish_17 : Cond.constantLong RL 17 (-9000000000000000002) ∈ wsL_punish := by decide +kernel
theorem kL_wish_36 : Cond.constantLong RL 36 (-9000000000000000001) ∈ wsL_wish := by decide +kernel
theorem kL_wish_21 : Cond.constantLong RL 21 (-9000000000000000003) ∈ wsL_wish := by decide +kernel
theorem kL_set_17 : Cond.constantLong RL 17 (-9000000000000000002) ∈ wsL_set := by decide +kernel
theorem kL_run_17 : Cond.constantLong RL 17 (-9000000000000000002) ∈ wsL_run := by decide +kernel
theorem kL_undo_21 : Cond.constantLong RL 21 (-9000000000000000003) ∈ wsL_undo := by decide +kernel
theorem kL_whyNot_36 : Cond.constantLong RL 36 (-9000000000000000001) ∈ wsL_whyNot := by decide +kernel
theorem kL_whyNot_17 : Cond.constantLong RL 17 (-9000000000000000002) ∈ wsL_whyNot := by decide +kernel
theorem kL_firstTime_36 : Cond.constantLong RL 36 (-9000000000000000001) ∈ wsL_firstTime := by decide +kernel
theorem kL_coming_17 : Cond.constantLong RL 17 (-9000000000000000002) ∈ wsL_coming := by decide +kernel
theorem kL_becomes_36 : Cond.constantLong RL 36 (-9000000000000000001) ∈ wsL_becomes := by decide +kernel
theorem kL_becomes_21 : Cond.constantLong RL 21 (-9000000000000000003) ∈ wsL_becomes := by decide +kernel
theorem kL_script_17 : Cond.constantLong RL 17 (-9000000000000000002) ∈ wsL_script := by decide +kernel
theorem kL_simulate_17 : Cond.constantLong RL 17 (-9000000000000000002) ∈ wsL_simulate := by decide +kernel
theorem kL_save_36 : Cond.constantLong RL 36 (-9000000000000000001) ∈ wsL_save := by decide +kernel
theorem kL_restore_36 : Cond.constantLong RL 36 (-9000000000000000001) ∈ wsL_restore := by decide +kernel
theorem kL_restore_21 : Cond.constantLong RL 21 (-9000000000000000003) ∈ wsL_restore := by decide +kernel
theorem kL_now_121 : Cond.constantLong RL 121 179 ∈ wsL_now := by decide +kernel
theorem kL_now_123 : Cond.constantLong RL 123 31 ∈ wsL_now := by decide +kernel
theorem kL_errors_17 : Cond.constantLong RL 17 (-9000000000000000002) ∈ wsL_errors := by decide +kernel
theorem kL_errors_36 : Cond.constantLong RL 36 (-9000000000000000001) ∈ wsL_errors := by decide +kernel
theorem kL_errors_191 : Cond.constantLong RL 191 1000000000000000 ∈ wsL_errors := by decide +kernel
theorem kL_errors_185 : Cond.constantLong RL 185 59 ∈ wsL_errors := by decide +kernel
theorem kL_errors_21 : Cond.constantLong RL 21 (-9000000000000000003) ∈ wsL_errors := by decide +kernel
theorem kL_errors_183 : Cond.constantLong RL 183 (-1) ∈ wsL_errors := by decide +kernel
theorem kL_alike_247 : Cond.constantLong RL 247 110030600270001 ∈ wsL_alike := by decide +kernel
theorem kL_tells_256 : Cond.constant RL 256 100000 ∈ wsL_tells := by decide +kernel
theorem kL_kept_202 : Cond.constantLong RL 202 8 ∈ wsL_kept := by decide +kernel
theorem kL_kept_208 : Cond.constantLong RL 208 24 ∈ wsL_kept := by decide +kernel
theorem kL_kept_183 : Cond.constantLong RL 183 (-1) ∈ wsL_kept := by decide +kernel
theorem kL_kept_216 : Cond.constantLong RL 216 7 ∈ wsL_kept := by decide +kernel
theorem kL_kept_210 : Cond.constantLong RL 210 3 ∈ wsL_kept := by decide +kernel
theorem kL_kept_218 : Cond.constantLong RL 218 9 ∈ wsL_kept := by decide +kernel
theorem kL_kept_185 : Cond.constantLong RL 185 59 ∈ wsL_kept := by decide +kernel
theorem kL_kept_224 : Cond.constantLong RL 224 48 ∈ wsL_kept := by decide +kernel
theorem kL_kept_226 : Cond.constantLong RL 226 57 ∈ wsL_kept := by decide +kernel
theorem kL_kept_230 : Cond.constantLong RL 230 100 ∈ wsL_kept := by decide +kernel
theorem kL_kept_232 : Cond.constantLong RL 232 104 ∈ wsL_kept := by decide +kernel
theorem kL_kept_220 : Cond.constantLong RL 220 32 ∈ wsL_kept := by decide +kernel
theorem kL_kept_234 : Cond.constantLong RL 234 112 ∈ wsL_kept := by decide +kernel
theorem kL_kept_236 : Cond.constantLong RL 236 118 ∈ wsL_kept := by decide +kernel
theorem kL_kept_238 : Cond.constantLong RL 238 43 ∈ wsL_kept := by decide +kernel
theorem kL_kept_228 : Cond.constantLong RL 228 10 ∈ wsL_kept := by decide +kernel
theorem kL_kept_222 : Cond.constantLong RL 222 4 ∈ wsL_kept := by decide +kernel
theorem kL_kept_214 : Cond.constantLong RL 214 2 ∈ wsL_kept := by decide +kernel
theorem kL_kept_212 : Cond.constantLong RL 212 1023 ∈ wsL_kept := by decide +kernel
theorem kL_follows_21 : Cond.constantLong RL 21 (-9000000000000000003) ∈ wsL_follows := by decide +kernel
theorem kL_follows_185 : Cond.constantLong RL 185 59 ∈ wsL_follows := by decide +kernel
theorem kL_follows_17 : Cond.constantLong RL 17 (-9000000000000000002) ∈ wsL_follows := by decide +kernel
theorem kL_follows_202 : Cond.constantLong RL 202 8 ∈ wsL_follows := by decide +kernel
theorem kL_follows_214 : Cond.constantLong RL 214 2 ∈ wsL_follows := by decide +kernel
theorem kL_follows_183 : Cond.constantLong RL 183 (-1) ∈ wsL_follows := by decide +kernel
theorem kL_follows_242 : Cond.constantLong RL 242 9999 ∈ wsL_follows := by decide +kernel
theorem kL_follows_222 : Cond.constantLong RL 222 4 ∈ wsL_follows := by decide +kernel
theorem kL_draw_7 : Cond.constant RL 7 15593989 ∈ wsL_draw := by decide +kernel
theorem kL_draw_8 : Cond.constant RL 8 2147483647 ∈ wsL_draw := by decide +kernel
theorem kL_law_288 : Cond.constant RL 288 83267 ∈ wsL_law := by decide +kernel
theorem hdL_draw : yL_draw.cls ≠ "java/lang/invoke/MethodHandle" ∧ yL_draw.cls ≠ "java/lang/invoke/VarHandle" ∧ (parseMethodDescriptor yL_draw.desc).map (fun d => d.parameters.length) = some 2 := by decide +kernel
theorem hdL_in : yL_in.cls ≠ "java/lang/invoke/MethodHandle" ∧ yL_in.cls ≠ "java/lang/invoke/VarHandle" ∧ (parseMethodDescriptor yL_in.desc).map (fun d => d.parameters.length) = some 3 := by decide +kernel
theorem hdL_append : yL_append.cls ≠ "java/lang/invoke/MethodHandle" ∧ yL_append.cls ≠ "java/lang/invoke/VarHandle" ∧ (parseMethodDescriptor yL_append.desc).map (fun d => d.parameters.length) = some 2 := by decide +kernel
theorem hdL_load : yL_load.cls ≠ "java/lang/invoke/MethodHandle" ∧ yL_load.cls ≠ "java/lang/invoke/VarHandle" ∧ (parseMethodDescriptor yL_load.desc).map (fun d => d.parameters.length) = some 1 := by decide +kernel
theorem hdL_about : yL_about.cls ≠ "java/lang/invoke/MethodHandle" ∧ yL_about.cls ≠ "java/lang/invoke/VarHandle" ∧ (parseMethodDescriptor yL_about.desc).map (fun d => d.parameters.length) = some 2 := by decide +kernel
theorem hdL_prisoner : yL_prisoner.cls ≠ "java/lang/invoke/MethodHandle" ∧ yL_prisoner.cls ≠ "java/lang/invoke/VarHandle" ∧ (parseMethodDescriptor yL_prisoner.desc).map (fun d => d.parameters.length) = some 3 := by decide +kernel
theorem hdL_visitor : yL_visitor.cls ≠ "java/lang/invoke/MethodHandle" ∧ yL_visitor.cls ≠ "java/lang/invoke/VarHandle" ∧ (parseMethodDescriptor yL_visitor.desc).map (fun d => d.parameters.length) = some 3 := by decide +kernel
theorem hdL_booking : yL_booking.cls ≠ "java/lang/invoke/MethodHandle" ∧ yL_booking.cls ≠ "java/lang/invoke/VarHandle" ∧ (parseMethodDescriptor yL_booking.desc).map (fun d => d.parameters.length) = some 3 := by decide +kernel
theorem hdL_line : yL_line.cls ≠ "java/lang/invoke/MethodHandle" ∧ yL_line.cls ≠ "java/lang/invoke/VarHandle" ∧ (parseMethodDescriptor yL_line.desc).map (fun d => d.parameters.length) = some 3 := by decide +kernel
theorem hdL_wishAt : yL_wishAt.cls ≠ "java/lang/invoke/MethodHandle" ∧ yL_wishAt.cls ≠ "java/lang/invoke/VarHandle" ∧ (parseMethodDescriptor yL_wishAt.desc).map (fun d => d.parameters.length) = some 2 := by decide +kernel
theorem hdL_setting : yL_setting.cls ≠ "java/lang/invoke/MethodHandle" ∧ yL_setting.cls ≠ "java/lang/invoke/VarHandle" ∧ (parseMethodDescriptor yL_setting.desc).map (fun d => d.parameters.length) = some 2 := by decide +kernel
theorem hdL_addPrisoner : yL_addPrisoner.cls ≠ "java/lang/invoke/MethodHandle" ∧ yL_addPrisoner.cls ≠ "java/lang/invoke/VarHandle" ∧ (parseMethodDescriptor yL_addPrisoner.desc).map (fun d => d.parameters.length) = some 2 := by decide +kernel
theorem hdL_promote : yL_promote.cls ≠ "java/lang/invoke/MethodHandle" ∧ yL_promote.cls ≠ "java/lang/invoke/VarHandle" ∧ (parseMethodDescriptor yL_promote.desc).map (fun d => d.parameters.length) = some 3 := by decide +kernel
theorem hdL_list : yL_list.cls ≠ "java/lang/invoke/MethodHandle" ∧ yL_list.cls ≠ "java/lang/invoke/VarHandle" ∧ (parseMethodDescriptor yL_list.desc).map (fun d => d.parameters.length) = some 4 := by decide +kernel
theorem hdL_keepApart : yL_keepApart.cls ≠ "java/lang/invoke/MethodHandle" ∧ yL_keepApart.cls ≠ "java/lang/invoke/VarHandle" ∧ (parseMethodDescriptor yL_keepApart.desc).map (fun d => d.parameters.length) = some 4 := by decide +kernel
theorem hdL_book : yL_book.cls ≠ "java/lang/invoke/MethodHandle" ∧ yL_book.cls ≠ "java/lang/invoke/VarHandle" ∧ (parseMethodDescriptor yL_book.desc).map (fun d => d.parameters.length) = some 5 := by decide +kernel
theorem hdL_cancel : yL_cancel.cls ≠ "java/lang/invoke/MethodHandle" ∧ yL_cancel.cls ≠ "java/lang/invoke/VarHandle" ∧ (parseMethodDescriptor yL_cancel.desc).map (fun d => d.parameters.length) = some 2 := by decide +kernel
theorem hdL_late : yL_late.cls ≠ "java/lang/invoke/MethodHandle" ∧ yL_late.cls ≠ "java/lang/invoke/VarHandle" ∧ (parseMethodDescriptor yL_late.desc).map (fun d => d.parameters.length) = some 3 := by decide +kernel
theorem hdL_carries : yL_carries.cls ≠ "java/lang/invoke/MethodHandle" ∧ yL_carries.cls ≠ "java/lang/invoke/VarHandle" ∧ (parseMethodDescriptor yL_carries.desc).map (fun d => d.parameters.length) = some 3 := by decide +kernel
theorem hdL_punish : yL_punish.cls ≠ "java/lang/invoke/MethodHandle" ∧ yL_punish.cls ≠ "java/lang/invoke/VarHandle" ∧ (parseMethodDescriptor yL_punish.desc).map (fun d => d.parameters.length) = some 3 := by decide +kernel
theorem hdL_wish : yL_wish.cls ≠ "java/lang/invoke/MethodHandle" ∧ yL_wish.cls ≠ "java/lang/invoke/VarHandle" ∧ (parseMethodDescriptor yL_wish.desc).map (fun d => d.parameters.length) = some 3 := by decide +kernel
theorem hdL_run : yL_run.cls ≠ "java/lang/invoke/MethodHandle" ∧ yL_run.cls ≠ "java/lang/invoke/VarHandle" ∧ (parseMethodDescriptor yL_run.desc).map (fun d => d.parameters.length) = some 2 := by decide +kernel
theorem hdL_set : yL_set.cls ≠ "java/lang/invoke/MethodHandle" ∧ yL_set.cls ≠ "java/lang/invoke/VarHandle" ∧ (parseMethodDescriptor yL_set.desc).map (fun d => d.parameters.length) = some 3 := by decide +kernel
theorem hdL_undo : yL_undo.cls ≠ "java/lang/invoke/MethodHandle" ∧ yL_undo.cls ≠ "java/lang/invoke/VarHandle" ∧ (parseMethodDescriptor yL_undo.desc).map (fun d => d.parameters.length) = some 1 := by decide +kernel
theorem hdL_whyNot : yL_whyNot.cls ≠ "java/lang/invoke/MethodHandle" ∧ yL_whyNot.cls ≠ "java/lang/invoke/VarHandle" ∧ (parseMethodDescriptor yL_whyNot.desc).map (fun d => d.parameters.length) = some 5 := by decide +kernel
theorem hdL_firstTime : yL_firstTime.cls ≠ "java/lang/invoke/MethodHandle" ∧ yL_firstTime.cls ≠ "java/lang/invoke/VarHandle" ∧ (parseMethodDescriptor yL_firstTime.desc).map (fun d => d.parameters.length) = some 3 := by decide +kernel
theorem hdL_coming : yL_coming.cls ≠ "java/lang/invoke/MethodHandle" ∧ yL_coming.cls ≠ "java/lang/invoke/VarHandle" ∧ (parseMethodDescriptor yL_coming.desc).map (fun d => d.parameters.length) = some 3 := by decide +kernel
theorem hdL_becomes : yL_becomes.cls ≠ "java/lang/invoke/MethodHandle" ∧ yL_becomes.cls ≠ "java/lang/invoke/VarHandle" ∧ (parseMethodDescriptor yL_becomes.desc).map (fun d => d.parameters.length) = some 2 := by decide +kernel
theorem hdL_script : yL_script.cls ≠ "java/lang/invoke/MethodHandle" ∧ yL_script.cls ≠ "java/lang/invoke/VarHandle" ∧ (parseMethodDescriptor yL_script.desc).map (fun d => d.parameters.length) = some 3 := by decide +kernel
theorem hdL_simulate : yL_simulate.cls ≠ "java/lang/invoke/MethodHandle" ∧ yL_simulate.cls ≠ "java/lang/invoke/VarHandle" ∧ (parseMethodDescriptor yL_simulate.desc).map (fun d => d.parameters.length) = some 3 := by decide +kernel
theorem hdL_save : yL_save.cls ≠ "java/lang/invoke/MethodHandle" ∧ yL_save.cls ≠ "java/lang/invoke/VarHandle" ∧ (parseMethodDescriptor yL_save.desc).map (fun d => d.parameters.length) = some 2 := by decide +kernel
theorem hdL_restore : yL_restore.cls ≠ "java/lang/invoke/MethodHandle" ∧ yL_restore.cls ≠ "java/lang/invoke/VarHandle" ∧ (parseMethodDescriptor yL_restore.desc).map (fun d => d.parameters.length) = some 2 := by decide +kernel
theorem hdL_now : yL_now.cls ≠ "java/lang/invoke/MethodHandle" ∧ yL_now.cls ≠ "java/lang/invoke/VarHandle" ∧ (parseMethodDescriptor yL_now.desc).map (fun d => d.parameters.length) = some 1 := by decide +kernel
theorem hdL_errors : yL_errors.cls ≠ "java/lang/invoke/MethodHandle" ∧ yL_errors.cls ≠ "java/lang/invoke/VarHandle" ∧ (parseMethodDescriptor yL_errors.desc).map (fun d => d.parameters.length) = some 1 := by decide +kernel
theorem hdL_kept : yL_kept.cls ≠ "java/lang/invoke/MethodHandle" ∧ yL_kept.cls ≠ "java/lang/invoke/VarHandle" ∧ (parseMethodDescriptor yL_kept.desc).map (fun d => d.parameters.length) = some 1 := by decide +kernel
theorem hdL_follows : yL_follows.cls ≠ "java/lang/invoke/MethodHandle" ∧ yL_follows.cls ≠ "java/lang/invoke/VarHandle" ∧ (parseMethodDescriptor yL_follows.desc).map (fun d => d.parameters.length) = some 2 := by decide +kernel
theorem hdL_alike : yL_alike.cls ≠ "java/lang/invoke/MethodHandle" ∧ yL_alike.cls ≠ "java/lang/invoke/VarHandle" ∧ (parseMethodDescriptor yL_alike.desc).map (fun d => d.parameters.length) = some 3 := by decide +kernel
theorem hdL_says : yL_says.cls ≠ "java/lang/invoke/MethodHandle" ∧ yL_says.cls ≠ "java/lang/invoke/VarHandle" ∧ (parseMethodDescriptor yL_says.desc).map (fun d => d.parameters.length) = some 2 := by decide +kernel
theorem hdL_digit : yL_digit.cls ≠ "java/lang/invoke/MethodHandle" ∧ yL_digit.cls ≠ "java/lang/invoke/VarHandle" ∧ (parseMethodDescriptor yL_digit.desc).map (fun d => d.parameters.length) = some 2 := by decide +kernel
theorem hdL_tells : yL_tells.cls ≠ "java/lang/invoke/MethodHandle" ∧ yL_tells.cls ≠ "java/lang/invoke/VarHandle" ∧ (parseMethodDescriptor yL_tells.desc).map (fun d => d.parameters.length) = some 3 := by decide +kernel
theorem hdL_act : yL_act.cls ≠ "java/lang/invoke/MethodHandle" ∧ yL_act.cls ≠ "java/lang/invoke/VarHandle" ∧ (parseMethodDescriptor yL_act.desc).map (fun d => d.parameters.length) = some 3 := by decide +kernel
theorem hdL_law : yL_law.cls ≠ "java/lang/invoke/MethodHandle" ∧ yL_law.cls ≠ "java/lang/invoke/VarHandle" ∧ (parseMethodDescriptor yL_law.desc).map (fun d => d.parameters.length) = some 1 := by decide +kernel
