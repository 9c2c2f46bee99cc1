theorem uX8_grant_RX8 : ∀ w ∈ u_ws RX8 TX8 17, w ∈ wsX8_grant := by decide +kernel
theorem kX8_grant_32 : Cond.fieldLink RX8 32 "VisitHoursModel" "turns" "[I" ∈ wsX8_grant := by decide +kernel
theorem uX8_dayIn_RX8 : ∀ w ∈ u_ws RX8 TX8 17, w ∈ wsX8_dayIn := by decide +kernel
theorem kX8_dayIn_52 : Cond.fieldLink RX8 52 "VisitHoursModel" "fate" "I" ∈ wsX8_dayIn := by decide +kernel