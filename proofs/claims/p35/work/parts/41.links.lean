theorem uX5_doCommand_RX5 : ∀ w ∈ u_ws RX5 TX5 5, w ∈ wsX5_doCommand := by decide +kernel
theorem kX5_doCommand_40 : Cond.fieldLink RX5 40 "VisitHours$Text" "word" "I" ∈ wsX5_doCommand := by decide +kernel
theorem kX5_doCommand_15 : Cond.fieldLink RX5 15 "VisitHours$Text" "numbers" "[I" ∈ wsX5_doCommand := by decide +kernel
