theorem uX7_wishAt_RX7 : ∀ w ∈ u_ws RX7 TX7 7, w ∈ wsX7_wishAt := by decide +kernel
theorem kX7_wishAt_19 : Cond.fieldLink RX7 19 "VisitHours" "present" "LVisitHours$Prison;" ∈ wsX7_wishAt := by decide +kernel
theorem uX7_wishAt_RX2 : ∀ w ∈ u_ws RX2 TX2 15, w ∈ wsX7_wishAt := by decide +kernel
theorem kX7_wishAt_167 : Cond.fieldLink RX7 167 "VisitHours$Prison" "wishes" "LVisitHours$Wishes;" ∈ wsX7_wishAt := by decide +kernel
theorem kX7_wishAt_171 : Cond.fieldLink RX7 171 "VisitHours$Prison" "held" "[I" ∈ wsX7_wishAt := by decide +kernel
theorem tX7_wishAt_50_54 : gThW wsX7_wishAt RX7 "java/lang/IllegalArgumentException" 50 54 := ⟨by decide +kernel, by decide +kernel, by decide +kernel, by decide +kernel, by decide +kernel, by decide +kernel, by decide +kernel⟩
