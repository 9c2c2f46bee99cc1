theorem uX7_append_RX7 : ∀ w ∈ u_ws RX7 TX7 7, w ∈ wsX7_append := by decide +kernel
theorem kX7_append_10 : Cond.fieldLink RX7 10 "VisitHours" "text" "LVisitHours$Text;" ∈ wsX7_append := by decide +kernel
theorem uX7_clearText_RX7 : ∀ w ∈ u_ws RX7 TX7 7, w ∈ wsX7_clearText := by decide +kernel
theorem kX7_clearText_10 : Cond.fieldLink RX7 10 "VisitHours" "text" "LVisitHours$Text;" ∈ wsX7_clearText := by decide +kernel
theorem uX7_errorPosition_RX7 : ∀ w ∈ u_ws RX7 TX7 7, w ∈ wsX7_errorPosition := by decide +kernel
theorem kX7_errorPosition_10 : Cond.fieldLink RX7 10 "VisitHours" "text" "LVisitHours$Text;" ∈ wsX7_errorPosition := by decide +kernel
theorem tX7_append_50_54 : gThW wsX7_append RX7 "java/lang/IllegalArgumentException" 50 54 := ⟨by decide +kernel, by decide +kernel, by decide +kernel, by decide +kernel, by decide +kernel, by decide +kernel, by decide +kernel⟩
theorem tX7_append_61_65 : gThW wsX7_append RX7 "java/lang/IllegalStateException" 61 65 := ⟨by decide +kernel, by decide +kernel, by decide +kernel, by decide +kernel, by decide +kernel, by decide +kernel, by decide +kernel⟩
