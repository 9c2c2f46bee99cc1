theorem uX0_has_RX0 : ∀ w ∈ u_ws RX0 TX0 2, w ∈ wsX0_has := by decide +kernel
theorem kX0_has_15 : Cond.fieldLink RX0 15 "VisitHours$Bookings" "count" "I" ∈ wsX0_has := by decide +kernel
theorem uX0_isFull_RX0 : ∀ w ∈ u_ws RX0 TX0 2, w ∈ wsX0_isFull := by decide +kernel
theorem kX0_isFull_15 : Cond.fieldLink RX0 15 "VisitHours$Bookings" "count" "I" ∈ wsX0_isFull := by decide +kernel
theorem uX0_at_RX0 : ∀ w ∈ u_ws RX0 TX0 2, w ∈ wsX0_at := by decide +kernel
theorem kX0_at_11 : Cond.fieldLink RX0 11 "VisitHours$Bookings" "cells" "[I" ∈ wsX0_at := by decide +kernel
theorem uX0_putMinutes_RX0 : ∀ w ∈ u_ws RX0 TX0 2, w ∈ wsX0_putMinutes := by decide +kernel
theorem kX0_putMinutes_11 : Cond.fieldLink RX0 11 "VisitHours$Bookings" "cells" "[I" ∈ wsX0_putMinutes := by decide +kernel
theorem uX0_isAhead_RX0 : ∀ w ∈ u_ws RX0 TX0 2, w ∈ wsX0_isAhead := by decide +kernel
theorem kX0_isAhead_11 : Cond.fieldLink RX0 11 "VisitHours$Bookings" "cells" "[I" ∈ wsX0_isAhead := by decide +kernel
theorem uX0_placeFor_RX0 : ∀ w ∈ u_ws RX0 TX0 2, w ∈ wsX0_placeFor := by decide +kernel
theorem kX0_placeFor_15 : Cond.fieldLink RX0 15 "VisitHours$Bookings" "count" "I" ∈ wsX0_placeFor := by decide +kernel
theorem uX0_valuesInHour_RX0 : ∀ w ∈ u_ws RX0 TX0 2, w ∈ wsX0_valuesInHour := by decide +kernel
theorem kX0_valuesInHour_15 : Cond.fieldLink RX0 15 "VisitHours$Bookings" "count" "I" ∈ wsX0_valuesInHour := by decide +kernel
theorem kX0_valuesInHour_11 : Cond.fieldLink RX0 11 "VisitHours$Bookings" "cells" "[I" ∈ wsX0_valuesInHour := by decide +kernel
theorem uX0_countOf_RX0 : ∀ w ∈ u_ws RX0 TX0 2, w ∈ wsX0_countOf := by decide +kernel
theorem kX0_countOf_15 : Cond.fieldLink RX0 15 "VisitHours$Bookings" "count" "I" ∈ wsX0_countOf := by decide +kernel
theorem uX0_countInWeek_RX0 : ∀ w ∈ u_ws RX0 TX0 2, w ∈ wsX0_countInWeek := by decide +kernel
theorem kX0_countInWeek_15 : Cond.fieldLink RX0 15 "VisitHours$Bookings" "count" "I" ∈ wsX0_countInWeek := by decide +kernel
theorem kX0_countInWeek_11 : Cond.fieldLink RX0 11 "VisitHours$Bookings" "cells" "[I" ∈ wsX0_countInWeek := by decide +kernel
theorem uX0_add_RX0 : ∀ w ∈ u_ws RX0 TX0 2, w ∈ wsX0_add := by decide +kernel
theorem kX0_add_15 : Cond.fieldLink RX0 15 "VisitHours$Bookings" "count" "I" ∈ wsX0_add := by decide +kernel
theorem kX0_add_11 : Cond.fieldLink RX0 11 "VisitHours$Bookings" "cells" "[I" ∈ wsX0_add := by decide +kernel
theorem uX0_remove_RX0 : ∀ w ∈ u_ws RX0 TX0 2, w ∈ wsX0_remove := by decide +kernel
theorem kX0_remove_11 : Cond.fieldLink RX0 11 "VisitHours$Bookings" "cells" "[I" ∈ wsX0_remove := by decide +kernel
theorem kX0_remove_15 : Cond.fieldLink RX0 15 "VisitHours$Bookings" "count" "I" ∈ wsX0_remove := by decide +kernel
theorem uX0_copyFrom_RX0 : ∀ w ∈ u_ws RX0 TX0 2, w ∈ wsX0_copyFrom := by decide +kernel
theorem kX0_copyFrom_15 : Cond.fieldLink RX0 15 "VisitHours$Bookings" "count" "I" ∈ wsX0_copyFrom := by decide +kernel
theorem kX0_copyFrom_11 : Cond.fieldLink RX0 11 "VisitHours$Bookings" "cells" "[I" ∈ wsX0_copyFrom := by decide +kernel
theorem uX6_isFull_RX6 : ∀ w ∈ u_ws RX6 TX6 2, w ∈ wsX6_isFull := by decide +kernel
theorem kX6_isFull_15 : Cond.fieldLink RX6 15 "VisitHours$Wishes" "count" "I" ∈ wsX6_isFull := by decide +kernel
theorem uX6_at_RX6 : ∀ w ∈ u_ws RX6 TX6 2, w ∈ wsX6_at := by decide +kernel
theorem kX6_at_15 : Cond.fieldLink RX6 15 "VisitHours$Wishes" "count" "I" ∈ wsX6_at := by decide +kernel
theorem kX6_at_11 : Cond.fieldLink RX6 11 "VisitHours$Wishes" "pairs" "[I" ∈ wsX6_at := by decide +kernel
theorem uX6_add_RX6 : ∀ w ∈ u_ws RX6 TX6 2, w ∈ wsX6_add := by decide +kernel
theorem kX6_add_15 : Cond.fieldLink RX6 15 "VisitHours$Wishes" "count" "I" ∈ wsX6_add := by decide +kernel
theorem kX6_add_11 : Cond.fieldLink RX6 11 "VisitHours$Wishes" "pairs" "[I" ∈ wsX6_add := by decide +kernel
theorem uX6_remove_RX6 : ∀ w ∈ u_ws RX6 TX6 2, w ∈ wsX6_remove := by decide +kernel
theorem kX6_remove_15 : Cond.fieldLink RX6 15 "VisitHours$Wishes" "count" "I" ∈ wsX6_remove := by decide +kernel
theorem kX6_remove_11 : Cond.fieldLink RX6 11 "VisitHours$Wishes" "pairs" "[I" ∈ wsX6_remove := by decide +kernel
theorem uX6_countOf_RX6 : ∀ w ∈ u_ws RX6 TX6 2, w ∈ wsX6_countOf := by decide +kernel
theorem kX6_countOf_15 : Cond.fieldLink RX6 15 "VisitHours$Wishes" "count" "I" ∈ wsX6_countOf := by decide +kernel
theorem uX6_heldBy_RX6 : ∀ w ∈ u_ws RX6 TX6 2, w ∈ wsX6_heldBy := by decide +kernel
theorem kX6_heldBy_11 : Cond.fieldLink RX6 11 "VisitHours$Wishes" "pairs" "[I" ∈ wsX6_heldBy := by decide +kernel
theorem uX6_turnOf_RX6 : ∀ w ∈ u_ws RX6 TX6 2, w ∈ wsX6_turnOf := by decide +kernel
theorem kX6_turnOf_15 : Cond.fieldLink RX6 15 "VisitHours$Wishes" "count" "I" ∈ wsX6_turnOf := by decide +kernel
theorem uX6_inTurn_RX6 : ∀ w ∈ u_ws RX6 TX6 2, w ∈ wsX6_inTurn := by decide +kernel
theorem kX6_inTurn_15 : Cond.fieldLink RX6 15 "VisitHours$Wishes" "count" "I" ∈ wsX6_inTurn := by decide +kernel
theorem uX6_copyFrom_RX6 : ∀ w ∈ u_ws RX6 TX6 2, w ∈ wsX6_copyFrom := by decide +kernel
theorem kX6_copyFrom_15 : Cond.fieldLink RX6 15 "VisitHours$Wishes" "count" "I" ∈ wsX6_copyFrom := by decide +kernel
theorem kX6_copyFrom_11 : Cond.fieldLink RX6 11 "VisitHours$Wishes" "pairs" "[I" ∈ wsX6_copyFrom := by decide +kernel
theorem uX2_hasPrisoner_RX2 : ∀ w ∈ u_ws RX2 TX2 15, w ∈ wsX2_hasPrisoner := by decide +kernel
theorem kX2_hasPrisoner_68 : Cond.fieldLink RX2 68 "VisitHours$Prison" "prisoners" "I" ∈ wsX2_hasPrisoner := by decide +kernel
theorem uX2_isTime_RX2 : ∀ w ∈ u_ws RX2 TX2 15, w ∈ wsX2_isTime := by decide +kernel
theorem kX2_isTime_64 : Cond.fieldLink RX2 64 "VisitHours$Prison" "today" "I" ∈ wsX2_isTime := by decide +kernel
theorem uX2_aheadOfToday_RX2 : ∀ w ∈ u_ws RX2 TX2 15, w ∈ wsX2_aheadOfToday := by decide +kernel
theorem kX2_aheadOfToday_64 : Cond.fieldLink RX2 64 "VisitHours$Prison" "today" "I" ∈ wsX2_aheadOfToday := by decide +kernel
theorem uX2_numberOfAll_RX2 : ∀ w ∈ u_ws RX2 TX2 15, w ∈ wsX2_numberOfAll := by decide +kernel
theorem kX2_numberOfAll_68 : Cond.fieldLink RX2 68 "VisitHours$Prison" "prisoners" "I" ∈ wsX2_numberOfAll := by decide +kernel
theorem kX2_numberOfAll_64 : Cond.fieldLink RX2 64 "VisitHours$Prison" "today" "I" ∈ wsX2_numberOfAll := by decide +kernel
theorem kX2_numberOfAll_39 : Cond.fieldLink RX2 39 "VisitHours$Prison" "bookings" "LVisitHours$Bookings;" ∈ wsX2_numberOfAll := by decide +kernel
theorem uX2_numberOfAll_RX0 : ∀ w ∈ u_ws RX0 TX0 2, w ∈ wsX2_numberOfAll := by decide +kernel
theorem kX2_numberOfAll_94 : Cond.fieldLink RX2 94 "VisitHours$Bookings" "count" "I" ∈ wsX2_numberOfAll := by decide +kernel
theorem kX2_numberOfAll_46 : Cond.fieldLink RX2 46 "VisitHours$Prison" "wishes" "LVisitHours$Wishes;" ∈ wsX2_numberOfAll := by decide +kernel
theorem uX2_numberOfAll_RX6 : ∀ w ∈ u_ws RX6 TX6 2, w ∈ wsX2_numberOfAll := by decide +kernel
theorem kX2_numberOfAll_97 : Cond.fieldLink RX2 97 "VisitHours$Wishes" "count" "I" ∈ wsX2_numberOfAll := by decide +kernel
theorem kX2_numberOfAll_50 : Cond.fieldLink RX2 50 "VisitHours$Prison" "counts" "[I" ∈ wsX2_numberOfAll := by decide +kernel
theorem kX2_numberOfAll_33 : Cond.fieldLink RX2 33 "VisitHours$Prison" "banUpTo" "[I" ∈ wsX2_numberOfAll := by decide +kernel
theorem kX2_numberOfAll_18 : Cond.fieldLink RX2 18 "VisitHours$Prison" "lostUpTo" "[I" ∈ wsX2_numberOfAll := by decide +kernel
theorem uX2_prisonersWhoList_RX2 : ∀ w ∈ u_ws RX2 TX2 15, w ∈ wsX2_prisonersWhoList := by decide +kernel
theorem kX2_prisonersWhoList_15 : Cond.fieldLink RX2 15 "VisitHours$Prison" "lists" "[I" ∈ wsX2_prisonersWhoList := by decide +kernel
theorem uX2_numberOfPrisoner_RX2 : ∀ w ∈ u_ws RX2 TX2 15, w ∈ wsX2_numberOfPrisoner := by decide +kernel
theorem kX2_numberOfPrisoner_11 : Cond.fieldLink RX2 11 "VisitHours$Prison" "ranks" "[I" ∈ wsX2_numberOfPrisoner := by decide +kernel
theorem kX2_numberOfPrisoner_15 : Cond.fieldLink RX2 15 "VisitHours$Prison" "lists" "[I" ∈ wsX2_numberOfPrisoner := by decide +kernel
theorem kX2_numberOfPrisoner_18 : Cond.fieldLink RX2 18 "VisitHours$Prison" "lostUpTo" "[I" ∈ wsX2_numberOfPrisoner := by decide +kernel
theorem kX2_numberOfPrisoner_21 : Cond.fieldLink RX2 21 "VisitHours$Prison" "held" "[I" ∈ wsX2_numberOfPrisoner := by decide +kernel
theorem kX2_numberOfPrisoner_39 : Cond.fieldLink RX2 39 "VisitHours$Prison" "bookings" "LVisitHours$Bookings;" ∈ wsX2_numberOfPrisoner := by decide +kernel
theorem kX2_numberOfPrisoner_64 : Cond.fieldLink RX2 64 "VisitHours$Prison" "today" "I" ∈ wsX2_numberOfPrisoner := by decide +kernel
theorem kX2_numberOfPrisoner_24 : Cond.fieldLink RX2 24 "VisitHours$Prison" "heldThisWeek" "[I" ∈ wsX2_numberOfPrisoner := by decide +kernel
theorem kX2_numberOfPrisoner_46 : Cond.fieldLink RX2 46 "VisitHours$Prison" "wishes" "LVisitHours$Wishes;" ∈ wsX2_numberOfPrisoner := by decide +kernel
theorem kX2_numberOfPrisoner_27 : Cond.fieldLink RX2 27 "VisitHours$Prison" "apart" "[I" ∈ wsX2_numberOfPrisoner := by decide +kernel
theorem uX2_numberOfVisitor_RX2 : ∀ w ∈ u_ws RX2 TX2 15, w ∈ wsX2_numberOfVisitor := by decide +kernel
theorem kX2_numberOfVisitor_30 : Cond.fieldLink RX2 30 "VisitHours$Prison" "strikes" "[I" ∈ wsX2_numberOfVisitor := by decide +kernel
theorem kX2_numberOfVisitor_33 : Cond.fieldLink RX2 33 "VisitHours$Prison" "banUpTo" "[I" ∈ wsX2_numberOfVisitor := by decide +kernel
theorem kX2_numberOfVisitor_77 : Cond.fieldLink RX2 77 "VisitHours$Prison" "carrying" "I" ∈ wsX2_numberOfVisitor := by decide +kernel
theorem kX2_numberOfVisitor_39 : Cond.fieldLink RX2 39 "VisitHours$Prison" "bookings" "LVisitHours$Bookings;" ∈ wsX2_numberOfVisitor := by decide +kernel
theorem uX2_isLost_RX2 : ∀ w ∈ u_ws RX2 TX2 15, w ∈ wsX2_isLost := by decide +kernel
theorem kX2_isLost_18 : Cond.fieldLink RX2 18 "VisitHours$Prison" "lostUpTo" "[I" ∈ wsX2_isLost := by decide +kernel
theorem uX2_isBanned_RX2 : ∀ w ∈ u_ws RX2 TX2 15, w ∈ wsX2_isBanned := by decide +kernel
theorem kX2_isBanned_33 : Cond.fieldLink RX2 33 "VisitHours$Prison" "banUpTo" "[I" ∈ wsX2_isBanned := by decide +kernel
theorem uX2_reasonOnDay_RX2 : ∀ w ∈ u_ws RX2 TX2 15, w ∈ wsX2_reasonOnDay := by decide +kernel
theorem kX2_reasonOnDay_15 : Cond.fieldLink RX2 15 "VisitHours$Prison" "lists" "[I" ∈ wsX2_reasonOnDay := by decide +kernel
theorem kX2_reasonOnDay_18 : Cond.fieldLink RX2 18 "VisitHours$Prison" "lostUpTo" "[I" ∈ wsX2_reasonOnDay := by decide +kernel
theorem kX2_reasonOnDay_33 : Cond.fieldLink RX2 33 "VisitHours$Prison" "banUpTo" "[I" ∈ wsX2_reasonOnDay := by decide +kernel
theorem kX2_reasonOnDay_64 : Cond.fieldLink RX2 64 "VisitHours$Prison" "today" "I" ∈ wsX2_reasonOnDay := by decide +kernel
theorem kX2_reasonOnDay_39 : Cond.fieldLink RX2 39 "VisitHours$Prison" "bookings" "LVisitHours$Bookings;" ∈ wsX2_reasonOnDay := by decide +kernel
theorem kX2_reasonOnDay_11 : Cond.fieldLink RX2 11 "VisitHours$Prison" "ranks" "[I" ∈ wsX2_reasonOnDay := by decide +kernel
theorem kX2_reasonOnDay_24 : Cond.fieldLink RX2 24 "VisitHours$Prison" "heldThisWeek" "[I" ∈ wsX2_reasonOnDay := by decide +kernel
theorem uX2_reasonInHour_RX2 : ∀ w ∈ u_ws RX2 TX2 15, w ∈ wsX2_reasonInHour := by decide +kernel
theorem kX2_reasonInHour_39 : Cond.fieldLink RX2 39 "VisitHours$Prison" "bookings" "LVisitHours$Bookings;" ∈ wsX2_reasonInHour := by decide +kernel
theorem kX2_reasonInHour_27 : Cond.fieldLink RX2 27 "VisitHours$Prison" "apart" "[I" ∈ wsX2_reasonInHour := by decide +kernel
theorem kX2_reasonInHour_61 : Cond.fieldLink RX2 61 "VisitHours$Prison" "settings" "[I" ∈ wsX2_reasonInHour := by decide +kernel
theorem uX2_earliest_RX2 : ∀ w ∈ u_ws RX2 TX2 15, w ∈ wsX2_earliest := by decide +kernel
theorem kX2_earliest_39 : Cond.fieldLink RX2 39 "VisitHours$Prison" "bookings" "LVisitHours$Bookings;" ∈ wsX2_earliest := by decide +kernel
theorem kX2_earliest_64 : Cond.fieldLink RX2 64 "VisitHours$Prison" "today" "I" ∈ wsX2_earliest := by decide +kernel
theorem uX2_tryAdd_RX2 : ∀ w ∈ u_ws RX2 TX2 15, w ∈ wsX2_tryAdd := by decide +kernel
theorem kX2_tryAdd_68 : Cond.fieldLink RX2 68 "VisitHours$Prison" "prisoners" "I" ∈ wsX2_tryAdd := by decide +kernel
theorem kX2_tryAdd_11 : Cond.fieldLink RX2 11 "VisitHours$Prison" "ranks" "[I" ∈ wsX2_tryAdd := by decide +kernel
theorem uX2_tryPromote_RX2 : ∀ w ∈ u_ws RX2 TX2 15, w ∈ wsX2_tryPromote := by decide +kernel
theorem kX2_tryPromote_11 : Cond.fieldLink RX2 11 "VisitHours$Prison" "ranks" "[I" ∈ wsX2_tryPromote := by decide +kernel
theorem uX2_tryList_RX2 : ∀ w ∈ u_ws RX2 TX2 15, w ∈ wsX2_tryList := by decide +kernel
theorem kX2_tryList_15 : Cond.fieldLink RX2 15 "VisitHours$Prison" "lists" "[I" ∈ wsX2_tryList := by decide +kernel
theorem uX2_tryKeepApart_RX2 : ∀ w ∈ u_ws RX2 TX2 15, w ∈ wsX2_tryKeepApart := by decide +kernel
theorem kX2_tryKeepApart_27 : Cond.fieldLink RX2 27 "VisitHours$Prison" "apart" "[I" ∈ wsX2_tryKeepApart := by decide +kernel
theorem uX2_tryCarry_RX2 : ∀ w ∈ u_ws RX2 TX2 15, w ∈ wsX2_tryCarry := by decide +kernel
theorem kX2_tryCarry_77 : Cond.fieldLink RX2 77 "VisitHours$Prison" "carrying" "I" ∈ wsX2_tryCarry := by decide +kernel
theorem uX2_tryPunish_RX2 : ∀ w ∈ u_ws RX2 TX2 15, w ∈ wsX2_tryPunish := by decide +kernel
theorem kX2_tryPunish_18 : Cond.fieldLink RX2 18 "VisitHours$Prison" "lostUpTo" "[I" ∈ wsX2_tryPunish := by decide +kernel
theorem kX2_tryPunish_64 : Cond.fieldLink RX2 64 "VisitHours$Prison" "today" "I" ∈ wsX2_tryPunish := by decide +kernel
theorem kX2_hasSetting_53 : Cond.fieldLink RX2 53 "VisitHours$Prison" "SETTING_FIRST" "[I" ∈ wsX2_hasSetting := by decide +kernel
theorem kX2_trySet_200 : Cond.fieldLink RX2 200 "VisitHours$Prison" "SETTING_LEAST" "[I" ∈ wsX2_trySet := by decide +kernel
theorem kX2_trySet_203 : Cond.fieldLink RX2 203 "VisitHours$Prison" "SETTING_MOST" "[I" ∈ wsX2_trySet := by decide +kernel
theorem uX2_trySet_RX2 : ∀ w ∈ u_ws RX2 TX2 15, w ∈ wsX2_trySet := by decide +kernel
theorem kX2_trySet_61 : Cond.fieldLink RX2 61 "VisitHours$Prison" "settings" "[I" ∈ wsX2_trySet := by decide +kernel
theorem uX2_tryBook_RX2 : ∀ w ∈ u_ws RX2 TX2 15, w ∈ wsX2_tryBook := by decide +kernel
theorem kX2_tryBook_39 : Cond.fieldLink RX2 39 "VisitHours$Prison" "bookings" "LVisitHours$Bookings;" ∈ wsX2_tryBook := by decide +kernel
theorem uX2_tryCancel_RX2 : ∀ w ∈ u_ws RX2 TX2 15, w ∈ wsX2_tryCancel := by decide +kernel
theorem kX2_tryCancel_39 : Cond.fieldLink RX2 39 "VisitHours$Prison" "bookings" "LVisitHours$Bookings;" ∈ wsX2_tryCancel := by decide +kernel
theorem uX2_tryCancel_RX0 : ∀ w ∈ u_ws RX0 TX0 2, w ∈ wsX2_tryCancel := by decide +kernel
theorem kX2_tryCancel_94 : Cond.fieldLink RX2 94 "VisitHours$Bookings" "count" "I" ∈ wsX2_tryCancel := by decide +kernel
theorem uX2_tryLate_RX2 : ∀ w ∈ u_ws RX2 TX2 15, w ∈ wsX2_tryLate := by decide +kernel
theorem kX2_tryLate_39 : Cond.fieldLink RX2 39 "VisitHours$Prison" "bookings" "LVisitHours$Bookings;" ∈ wsX2_tryLate := by decide +kernel
theorem uX2_tryWish_RX2 : ∀ w ∈ u_ws RX2 TX2 15, w ∈ wsX2_tryWish := by decide +kernel
theorem kX2_tryWish_15 : Cond.fieldLink RX2 15 "VisitHours$Prison" "lists" "[I" ∈ wsX2_tryWish := by decide +kernel
theorem kX2_tryWish_46 : Cond.fieldLink RX2 46 "VisitHours$Prison" "wishes" "LVisitHours$Wishes;" ∈ wsX2_tryWish := by decide +kernel
theorem uX2_tryWish_RX6 : ∀ w ∈ u_ws RX6 TX6 2, w ∈ wsX2_tryWish := by decide +kernel
theorem kX2_tryWish_97 : Cond.fieldLink RX2 97 "VisitHours$Wishes" "count" "I" ∈ wsX2_tryWish := by decide +kernel
theorem uX2_ban_RX2 : ∀ w ∈ u_ws RX2 TX2 15, w ∈ wsX2_ban := by decide +kernel
theorem kX2_ban_64 : Cond.fieldLink RX2 64 "VisitHours$Prison" "today" "I" ∈ wsX2_ban := by decide +kernel
theorem kX2_ban_61 : Cond.fieldLink RX2 61 "VisitHours$Prison" "settings" "[I" ∈ wsX2_ban := by decide +kernel
theorem kX2_ban_33 : Cond.fieldLink RX2 33 "VisitHours$Prison" "banUpTo" "[I" ∈ wsX2_ban := by decide +kernel
theorem uX2_takePrivileges_RX2 : ∀ w ∈ u_ws RX2 TX2 15, w ∈ wsX2_takePrivileges := by decide +kernel
theorem kX2_takePrivileges_64 : Cond.fieldLink RX2 64 "VisitHours$Prison" "today" "I" ∈ wsX2_takePrivileges := by decide +kernel
theorem kX2_takePrivileges_61 : Cond.fieldLink RX2 61 "VisitHours$Prison" "settings" "[I" ∈ wsX2_takePrivileges := by decide +kernel
theorem kX2_takePrivileges_18 : Cond.fieldLink RX2 18 "VisitHours$Prison" "lostUpTo" "[I" ∈ wsX2_takePrivileges := by decide +kernel
theorem uX2_isSearched_RX2 : ∀ w ∈ u_ws RX2 TX2 15, w ∈ wsX2_isSearched := by decide +kernel
theorem kX2_isSearched_61 : Cond.fieldLink RX2 61 "VisitHours$Prison" "settings" "[I" ∈ wsX2_isSearched := by decide +kernel
theorem kX2_isSearched_50 : Cond.fieldLink RX2 50 "VisitHours$Prison" "counts" "[I" ∈ wsX2_isSearched := by decide +kernel
theorem kX2_isSearched_30 : Cond.fieldLink RX2 30 "VisitHours$Prison" "strikes" "[I" ∈ wsX2_isSearched := by decide +kernel
theorem uX2_getsThirdStrike_RX2 : ∀ w ∈ u_ws RX2 TX2 15, w ∈ wsX2_getsThirdStrike := by decide +kernel
theorem kX2_getsThirdStrike_30 : Cond.fieldLink RX2 30 "VisitHours$Prison" "strikes" "[I" ∈ wsX2_getsThirdStrike := by decide +kernel
theorem uX2_judge_RX2 : ∀ w ∈ u_ws RX2 TX2 15, w ∈ wsX2_judge := by decide +kernel
theorem kX2_judge_64 : Cond.fieldLink RX2 64 "VisitHours$Prison" "today" "I" ∈ wsX2_judge := by decide +kernel
theorem kX2_judge_61 : Cond.fieldLink RX2 61 "VisitHours$Prison" "settings" "[I" ∈ wsX2_judge := by decide +kernel
theorem kX2_judge_77 : Cond.fieldLink RX2 77 "VisitHours$Prison" "carrying" "I" ∈ wsX2_judge := by decide +kernel
theorem uX2_beginNextDay_RX2 : ∀ w ∈ u_ws RX2 TX2 15, w ∈ wsX2_beginNextDay := by decide +kernel
theorem kX2_beginNextDay_64 : Cond.fieldLink RX2 64 "VisitHours$Prison" "today" "I" ∈ wsX2_beginNextDay := by decide +kernel
theorem kX2_beginNextDay_24 : Cond.fieldLink RX2 24 "VisitHours$Prison" "heldThisWeek" "[I" ∈ wsX2_beginNextDay := by decide +kernel
theorem uX2_lookAtFirst_RX2 : ∀ w ∈ u_ws RX2 TX2 15, w ∈ wsX2_lookAtFirst := by decide +kernel
theorem kX2_lookAtFirst_39 : Cond.fieldLink RX2 39 "VisitHours$Prison" "bookings" "LVisitHours$Bookings;" ∈ wsX2_lookAtFirst := by decide +kernel
theorem kX2_lookAtFirst_50 : Cond.fieldLink RX2 50 "VisitHours$Prison" "counts" "[I" ∈ wsX2_lookAtFirst := by decide +kernel
theorem kX2_lookAtFirst_21 : Cond.fieldLink RX2 21 "VisitHours$Prison" "held" "[I" ∈ wsX2_lookAtFirst := by decide +kernel
theorem kX2_lookAtFirst_24 : Cond.fieldLink RX2 24 "VisitHours$Prison" "heldThisWeek" "[I" ∈ wsX2_lookAtFirst := by decide +kernel
theorem uX2_grantWishes_RX2 : ∀ w ∈ u_ws RX2 TX2 15, w ∈ wsX2_grantWishes := by decide +kernel
theorem kX2_grantWishes_46 : Cond.fieldLink RX2 46 "VisitHours$Prison" "wishes" "LVisitHours$Wishes;" ∈ wsX2_grantWishes := by decide +kernel
theorem uX2_grantWishes_RX6 : ∀ w ∈ u_ws RX6 TX6 2, w ∈ wsX2_grantWishes := by decide +kernel
theorem kX2_grantWishes_97 : Cond.fieldLink RX2 97 "VisitHours$Wishes" "count" "I" ∈ wsX2_grantWishes := by decide +kernel
theorem kX2_grantWishes_21 : Cond.fieldLink RX2 21 "VisitHours$Prison" "held" "[I" ∈ wsX2_grantWishes := by decide +kernel
theorem kX2_grantWishes_39 : Cond.fieldLink RX2 39 "VisitHours$Prison" "bookings" "LVisitHours$Bookings;" ∈ wsX2_grantWishes := by decide +kernel
theorem uX2_letDaysPass_RX2 : ∀ w ∈ u_ws RX2 TX2 15, w ∈ wsX2_letDaysPass := by decide +kernel
theorem kX2_letDaysPass_50 : Cond.fieldLink RX2 50 "VisitHours$Prison" "counts" "[I" ∈ wsX2_letDaysPass := by decide +kernel
theorem kX2_letDaysPass_39 : Cond.fieldLink RX2 39 "VisitHours$Prison" "bookings" "LVisitHours$Bookings;" ∈ wsX2_letDaysPass := by decide +kernel
theorem uX2_letDaysPass_RX0 : ∀ w ∈ u_ws RX0 TX0 2, w ∈ wsX2_letDaysPass := by decide +kernel
theorem kX2_letDaysPass_94 : Cond.fieldLink RX2 94 "VisitHours$Bookings" "count" "I" ∈ wsX2_letDaysPass := by decide +kernel
theorem kX2_letDaysPass_64 : Cond.fieldLink RX2 64 "VisitHours$Prison" "today" "I" ∈ wsX2_letDaysPass := by decide +kernel
theorem hnX0_init : yX0_init.cls ≠ "java/lang/invoke/MethodHandle" ∧ yX0_init.cls ≠ "java/lang/invoke/VarHandle" ∧ (parseMethodDescriptor yX0_init.desc).map (fun d => d.parameters.length) = some 0 := by decide +kernel
theorem hnX0_copyFrom : yX0_copyFrom.cls ≠ "java/lang/invoke/MethodHandle" ∧ yX0_copyFrom.cls ≠ "java/lang/invoke/VarHandle" ∧ (parseMethodDescriptor yX0_copyFrom.desc).map (fun d => d.parameters.length) = some 1 := by decide +kernel
theorem hdX0_copyFrom : yX0_copyFrom.cls = RX0 ∧ yX0_copyFrom.cls ≠ "java/lang/invoke/MethodHandle" ∧ yX0_copyFrom.cls ≠ "java/lang/invoke/VarHandle" ∧ (parseMethodDescriptor yX0_copyFrom.desc).map (fun d => d.parameters.length) = some 1 := ⟨rfl, hnX0_copyFrom⟩
theorem hnX0_has : yX0_has.cls ≠ "java/lang/invoke/MethodHandle" ∧ yX0_has.cls ≠ "java/lang/invoke/VarHandle" ∧ (parseMethodDescriptor yX0_has.desc).map (fun d => d.parameters.length) = some 1 := by decide +kernel
theorem hdX0_has : yX0_has.cls = RX0 ∧ yX0_has.cls ≠ "java/lang/invoke/MethodHandle" ∧ yX0_has.cls ≠ "java/lang/invoke/VarHandle" ∧ (parseMethodDescriptor yX0_has.desc).map (fun d => d.parameters.length) = some 1 := ⟨rfl, hnX0_has⟩
theorem hnX0_isFull : yX0_isFull.cls ≠ "java/lang/invoke/MethodHandle" ∧ yX0_isFull.cls ≠ "java/lang/invoke/VarHandle" ∧ (parseMethodDescriptor yX0_isFull.desc).map (fun d => d.parameters.length) = some 0 := by decide +kernel
theorem hdX0_isFull : yX0_isFull.cls = RX0 ∧ yX0_isFull.cls ≠ "java/lang/invoke/MethodHandle" ∧ yX0_isFull.cls ≠ "java/lang/invoke/VarHandle" ∧ (parseMethodDescriptor yX0_isFull.desc).map (fun d => d.parameters.length) = some 0 := ⟨rfl, hnX0_isFull⟩
theorem hnX0_at : yX0_at.cls ≠ "java/lang/invoke/MethodHandle" ∧ yX0_at.cls ≠ "java/lang/invoke/VarHandle" ∧ (parseMethodDescriptor yX0_at.desc).map (fun d => d.parameters.length) = some 2 := by decide +kernel
theorem hdX0_at : yX0_at.cls = RX0 ∧ yX0_at.cls ≠ "java/lang/invoke/MethodHandle" ∧ yX0_at.cls ≠ "java/lang/invoke/VarHandle" ∧ (parseMethodDescriptor yX0_at.desc).map (fun d => d.parameters.length) = some 2 := ⟨rfl, hnX0_at⟩
theorem hnX0_putMinutes : yX0_putMinutes.cls ≠ "java/lang/invoke/MethodHandle" ∧ yX0_putMinutes.cls ≠ "java/lang/invoke/VarHandle" ∧ (parseMethodDescriptor yX0_putMinutes.desc).map (fun d => d.parameters.length) = some 2 := by decide +kernel
theorem hdX0_putMinutes : yX0_putMinutes.cls = RX0 ∧ yX0_putMinutes.cls ≠ "java/lang/invoke/MethodHandle" ∧ yX0_putMinutes.cls ≠ "java/lang/invoke/VarHandle" ∧ (parseMethodDescriptor yX0_putMinutes.desc).map (fun d => d.parameters.length) = some 2 := ⟨rfl, hnX0_putMinutes⟩
theorem hnX0_add : yX0_add.cls ≠ "java/lang/invoke/MethodHandle" ∧ yX0_add.cls ≠ "java/lang/invoke/VarHandle" ∧ (parseMethodDescriptor yX0_add.desc).map (fun d => d.parameters.length) = some 4 := by decide +kernel
theorem hdX0_add : yX0_add.cls = RX0 ∧ yX0_add.cls ≠ "java/lang/invoke/MethodHandle" ∧ yX0_add.cls ≠ "java/lang/invoke/VarHandle" ∧ (parseMethodDescriptor yX0_add.desc).map (fun d => d.parameters.length) = some 4 := ⟨rfl, hnX0_add⟩
theorem hnX0_placeFor : yX0_placeFor.cls ≠ "java/lang/invoke/MethodHandle" ∧ yX0_placeFor.cls ≠ "java/lang/invoke/VarHandle" ∧ (parseMethodDescriptor yX0_placeFor.desc).map (fun d => d.parameters.length) = some 3 := by decide +kernel
theorem hdX0_placeFor : yX0_placeFor.cls = RX0 ∧ yX0_placeFor.cls ≠ "java/lang/invoke/MethodHandle" ∧ yX0_placeFor.cls ≠ "java/lang/invoke/VarHandle" ∧ (parseMethodDescriptor yX0_placeFor.desc).map (fun d => d.parameters.length) = some 3 := ⟨rfl, hnX0_placeFor⟩
theorem hnX0_isAhead : yX0_isAhead.cls ≠ "java/lang/invoke/MethodHandle" ∧ yX0_isAhead.cls ≠ "java/lang/invoke/VarHandle" ∧ (parseMethodDescriptor yX0_isAhead.desc).map (fun d => d.parameters.length) = some 4 := by decide +kernel
theorem hdX0_isAhead : yX0_isAhead.cls = RX0 ∧ yX0_isAhead.cls ≠ "java/lang/invoke/MethodHandle" ∧ yX0_isAhead.cls ≠ "java/lang/invoke/VarHandle" ∧ (parseMethodDescriptor yX0_isAhead.desc).map (fun d => d.parameters.length) = some 4 := ⟨rfl, hnX0_isAhead⟩
theorem hnX0_remove : yX0_remove.cls ≠ "java/lang/invoke/MethodHandle" ∧ yX0_remove.cls ≠ "java/lang/invoke/VarHandle" ∧ (parseMethodDescriptor yX0_remove.desc).map (fun d => d.parameters.length) = some 1 := by decide +kernel
theorem hdX0_remove : yX0_remove.cls = RX0 ∧ yX0_remove.cls ≠ "java/lang/invoke/MethodHandle" ∧ yX0_remove.cls ≠ "java/lang/invoke/VarHandle" ∧ (parseMethodDescriptor yX0_remove.desc).map (fun d => d.parameters.length) = some 1 := ⟨rfl, hnX0_remove⟩
theorem hnX0_countOf : yX0_countOf.cls ≠ "java/lang/invoke/MethodHandle" ∧ yX0_countOf.cls ≠ "java/lang/invoke/VarHandle" ∧ (parseMethodDescriptor yX0_countOf.desc).map (fun d => d.parameters.length) = some 2 := by decide +kernel
theorem hdX0_countOf : yX0_countOf.cls = RX0 ∧ yX0_countOf.cls ≠ "java/lang/invoke/MethodHandle" ∧ yX0_countOf.cls ≠ "java/lang/invoke/VarHandle" ∧ (parseMethodDescriptor yX0_countOf.desc).map (fun d => d.parameters.length) = some 2 := ⟨rfl, hnX0_countOf⟩
theorem hnX0_countInWeek : yX0_countInWeek.cls ≠ "java/lang/invoke/MethodHandle" ∧ yX0_countInWeek.cls ≠ "java/lang/invoke/VarHandle" ∧ (parseMethodDescriptor yX0_countInWeek.desc).map (fun d => d.parameters.length) = some 2 := by decide +kernel
theorem hdX0_countInWeek : yX0_countInWeek.cls = RX0 ∧ yX0_countInWeek.cls ≠ "java/lang/invoke/MethodHandle" ∧ yX0_countInWeek.cls ≠ "java/lang/invoke/VarHandle" ∧ (parseMethodDescriptor yX0_countInWeek.desc).map (fun d => d.parameters.length) = some 2 := ⟨rfl, hnX0_countInWeek⟩
theorem hnX0_valuesInHour : yX0_valuesInHour.cls ≠ "java/lang/invoke/MethodHandle" ∧ yX0_valuesInHour.cls ≠ "java/lang/invoke/VarHandle" ∧ (parseMethodDescriptor yX0_valuesInHour.desc).map (fun d => d.parameters.length) = some 3 := by decide +kernel
theorem hdX0_valuesInHour : yX0_valuesInHour.cls = RX0 ∧ yX0_valuesInHour.cls ≠ "java/lang/invoke/MethodHandle" ∧ yX0_valuesInHour.cls ≠ "java/lang/invoke/VarHandle" ∧ (parseMethodDescriptor yX0_valuesInHour.desc).map (fun d => d.parameters.length) = some 3 := ⟨rfl, hnX0_valuesInHour⟩
theorem hnX1_init : yX1_init.cls ≠ "java/lang/invoke/MethodHandle" ∧ yX1_init.cls ≠ "java/lang/invoke/VarHandle" ∧ (parseMethodDescriptor yX1_init.desc).map (fun d => d.parameters.length) = some 0 := by decide +kernel
theorem hnX1_prepare : yX1_prepare.cls ≠ "java/lang/invoke/MethodHandle" ∧ yX1_prepare.cls ≠ "java/lang/invoke/VarHandle" ∧ (parseMethodDescriptor yX1_prepare.desc).map (fun d => d.parameters.length) = some 1 := by decide +kernel
theorem hdX1_prepare : yX1_prepare.cls = RX1 ∧ yX1_prepare.cls ≠ "java/lang/invoke/MethodHandle" ∧ yX1_prepare.cls ≠ "java/lang/invoke/VarHandle" ∧ (parseMethodDescriptor yX1_prepare.desc).map (fun d => d.parameters.length) = some 1 := ⟨rfl, hnX1_prepare⟩
theorem hnX1_keepPrepared : yX1_keepPrepared.cls ≠ "java/lang/invoke/MethodHandle" ∧ yX1_keepPrepared.cls ≠ "java/lang/invoke/VarHandle" ∧ (parseMethodDescriptor yX1_keepPrepared.desc).map (fun d => d.parameters.length) = some 0 := by decide +kernel
theorem hdX1_keepPrepared : yX1_keepPrepared.cls = RX1 ∧ yX1_keepPrepared.cls ≠ "java/lang/invoke/MethodHandle" ∧ yX1_keepPrepared.cls ≠ "java/lang/invoke/VarHandle" ∧ (parseMethodDescriptor yX1_keepPrepared.desc).map (fun d => d.parameters.length) = some 0 := ⟨rfl, hnX1_keepPrepared⟩
theorem hnX1_takeBack : yX1_takeBack.cls ≠ "java/lang/invoke/MethodHandle" ∧ yX1_takeBack.cls ≠ "java/lang/invoke/VarHandle" ∧ (parseMethodDescriptor yX1_takeBack.desc).map (fun d => d.parameters.length) = some 1 := by decide +kernel
theorem hdX1_takeBack : yX1_takeBack.cls = RX1 ∧ yX1_takeBack.cls ≠ "java/lang/invoke/MethodHandle" ∧ yX1_takeBack.cls ≠ "java/lang/invoke/VarHandle" ∧ (parseMethodDescriptor yX1_takeBack.desc).map (fun d => d.parameters.length) = some 1 := ⟨rfl, hnX1_takeBack⟩
theorem hnX1_forget : yX1_forget.cls ≠ "java/lang/invoke/MethodHandle" ∧ yX1_forget.cls ≠ "java/lang/invoke/VarHandle" ∧ (parseMethodDescriptor yX1_forget.desc).map (fun d => d.parameters.length) = some 0 := by decide +kernel
theorem hdX1_forget : yX1_forget.cls = RX1 ∧ yX1_forget.cls ≠ "java/lang/invoke/MethodHandle" ∧ yX1_forget.cls ≠ "java/lang/invoke/VarHandle" ∧ (parseMethodDescriptor yX1_forget.desc).map (fun d => d.parameters.length) = some 0 := ⟨rfl, hnX1_forget⟩
theorem hnX1_rowAt : yX1_rowAt.cls ≠ "java/lang/invoke/MethodHandle" ∧ yX1_rowAt.cls ≠ "java/lang/invoke/VarHandle" ∧ (parseMethodDescriptor yX1_rowAt.desc).map (fun d => d.parameters.length) = some 1 := by decide +kernel
theorem hdX1_rowAt : yX1_rowAt.cls = RX1 ∧ yX1_rowAt.cls ≠ "java/lang/invoke/MethodHandle" ∧ yX1_rowAt.cls ≠ "java/lang/invoke/VarHandle" ∧ (parseMethodDescriptor yX1_rowAt.desc).map (fun d => d.parameters.length) = some 1 := ⟨rfl, hnX1_rowAt⟩
theorem hnX2_init : yX2_init.cls ≠ "java/lang/invoke/MethodHandle" ∧ yX2_init.cls ≠ "java/lang/invoke/VarHandle" ∧ (parseMethodDescriptor yX2_init.desc).map (fun d => d.parameters.length) = some 0 := by decide +kernel
theorem hnX2_copyFrom : yX2_copyFrom.cls ≠ "java/lang/invoke/MethodHandle" ∧ yX2_copyFrom.cls ≠ "java/lang/invoke/VarHandle" ∧ (parseMethodDescriptor yX2_copyFrom.desc).map (fun d => d.parameters.length) = some 1 := by decide +kernel
theorem hdX2_copyFrom : yX2_copyFrom.cls = RX2 ∧ yX2_copyFrom.cls ≠ "java/lang/invoke/MethodHandle" ∧ yX2_copyFrom.cls ≠ "java/lang/invoke/VarHandle" ∧ (parseMethodDescriptor yX2_copyFrom.desc).map (fun d => d.parameters.length) = some 1 := ⟨rfl, hnX2_copyFrom⟩
theorem hnX2_hasPrisoner : yX2_hasPrisoner.cls ≠ "java/lang/invoke/MethodHandle" ∧ yX2_hasPrisoner.cls ≠ "java/lang/invoke/VarHandle" ∧ (parseMethodDescriptor yX2_hasPrisoner.desc).map (fun d => d.parameters.length) = some 1 := by decide +kernel
theorem hdX2_hasPrisoner : yX2_hasPrisoner.cls = RX2 ∧ yX2_hasPrisoner.cls ≠ "java/lang/invoke/MethodHandle" ∧ yX2_hasPrisoner.cls ≠ "java/lang/invoke/VarHandle" ∧ (parseMethodDescriptor yX2_hasPrisoner.desc).map (fun d => d.parameters.length) = some 1 := ⟨rfl, hnX2_hasPrisoner⟩
theorem hnX2_hasVisitor : yX2_hasVisitor.cls ≠ "java/lang/invoke/MethodHandle" ∧ yX2_hasVisitor.cls ≠ "java/lang/invoke/VarHandle" ∧ (parseMethodDescriptor yX2_hasVisitor.desc).map (fun d => d.parameters.length) = some 1 := by decide +kernel
theorem hnX2_hasPair : yX2_hasPair.cls ≠ "java/lang/invoke/MethodHandle" ∧ yX2_hasPair.cls ≠ "java/lang/invoke/VarHandle" ∧ (parseMethodDescriptor yX2_hasPair.desc).map (fun d => d.parameters.length) = some 2 := by decide +kernel
theorem hdX2_hasPair : yX2_hasPair.cls = RX2 ∧ yX2_hasPair.cls ≠ "java/lang/invoke/MethodHandle" ∧ yX2_hasPair.cls ≠ "java/lang/invoke/VarHandle" ∧ (parseMethodDescriptor yX2_hasPair.desc).map (fun d => d.parameters.length) = some 2 := ⟨rfl, hnX2_hasPair⟩
theorem hnX2_hasSetting : yX2_hasSetting.cls ≠ "java/lang/invoke/MethodHandle" ∧ yX2_hasSetting.cls ≠ "java/lang/invoke/VarHandle" ∧ (parseMethodDescriptor yX2_hasSetting.desc).map (fun d => d.parameters.length) = some 1 := by decide +kernel
theorem hnX2_isTime : yX2_isTime.cls ≠ "java/lang/invoke/MethodHandle" ∧ yX2_isTime.cls ≠ "java/lang/invoke/VarHandle" ∧ (parseMethodDescriptor yX2_isTime.desc).map (fun d => d.parameters.length) = some 2 := by decide +kernel
theorem hdX2_isTime : yX2_isTime.cls = RX2 ∧ yX2_isTime.cls ≠ "java/lang/invoke/MethodHandle" ∧ yX2_isTime.cls ≠ "java/lang/invoke/VarHandle" ∧ (parseMethodDescriptor yX2_isTime.desc).map (fun d => d.parameters.length) = some 2 := ⟨rfl, hnX2_isTime⟩
theorem hnX2_weekOf : yX2_weekOf.cls ≠ "java/lang/invoke/MethodHandle" ∧ yX2_weekOf.cls ≠ "java/lang/invoke/VarHandle" ∧ (parseMethodDescriptor yX2_weekOf.desc).map (fun d => d.parameters.length) = some 1 := by decide +kernel
theorem hnX2_numberOfAll : yX2_numberOfAll.cls ≠ "java/lang/invoke/MethodHandle" ∧ yX2_numberOfAll.cls ≠ "java/lang/invoke/VarHandle" ∧ (parseMethodDescriptor yX2_numberOfAll.desc).map (fun d => d.parameters.length) = some 1 := by decide +kernel
theorem hdX2_numberOfAll : yX2_numberOfAll.cls = RX2 ∧ yX2_numberOfAll.cls ≠ "java/lang/invoke/MethodHandle" ∧ yX2_numberOfAll.cls ≠ "java/lang/invoke/VarHandle" ∧ (parseMethodDescriptor yX2_numberOfAll.desc).map (fun d => d.parameters.length) = some 1 := ⟨rfl, hnX2_numberOfAll⟩
theorem hnX2_aheadOfToday : yX2_aheadOfToday.cls ≠ "java/lang/invoke/MethodHandle" ∧ yX2_aheadOfToday.cls ≠ "java/lang/invoke/VarHandle" ∧ (parseMethodDescriptor yX2_aheadOfToday.desc).map (fun d => d.parameters.length) = some 1 := by decide +kernel
theorem hdX2_aheadOfToday : yX2_aheadOfToday.cls = RX2 ∧ yX2_aheadOfToday.cls ≠ "java/lang/invoke/MethodHandle" ∧ yX2_aheadOfToday.cls ≠ "java/lang/invoke/VarHandle" ∧ (parseMethodDescriptor yX2_aheadOfToday.desc).map (fun d => d.parameters.length) = some 1 := ⟨rfl, hnX2_aheadOfToday⟩
theorem hnX2_numberOfPrisoner : yX2_numberOfPrisoner.cls ≠ "java/lang/invoke/MethodHandle" ∧ yX2_numberOfPrisoner.cls ≠ "java/lang/invoke/VarHandle" ∧ (parseMethodDescriptor yX2_numberOfPrisoner.desc).map (fun d => d.parameters.length) = some 2 := by decide +kernel
theorem hdX2_numberOfPrisoner : yX2_numberOfPrisoner.cls = RX2 ∧ yX2_numberOfPrisoner.cls ≠ "java/lang/invoke/MethodHandle" ∧ yX2_numberOfPrisoner.cls ≠ "java/lang/invoke/VarHandle" ∧ (parseMethodDescriptor yX2_numberOfPrisoner.desc).map (fun d => d.parameters.length) = some 2 := ⟨rfl, hnX2_numberOfPrisoner⟩
theorem hnX2_numberOfVisitor : yX2_numberOfVisitor.cls ≠ "java/lang/invoke/MethodHandle" ∧ yX2_numberOfVisitor.cls ≠ "java/lang/invoke/VarHandle" ∧ (parseMethodDescriptor yX2_numberOfVisitor.desc).map (fun d => d.parameters.length) = some 2 := by decide +kernel
theorem hdX2_numberOfVisitor : yX2_numberOfVisitor.cls = RX2 ∧ yX2_numberOfVisitor.cls ≠ "java/lang/invoke/MethodHandle" ∧ yX2_numberOfVisitor.cls ≠ "java/lang/invoke/VarHandle" ∧ (parseMethodDescriptor yX2_numberOfVisitor.desc).map (fun d => d.parameters.length) = some 2 := ⟨rfl, hnX2_numberOfVisitor⟩
theorem hnX2_prisonersWhoList : yX2_prisonersWhoList.cls ≠ "java/lang/invoke/MethodHandle" ∧ yX2_prisonersWhoList.cls ≠ "java/lang/invoke/VarHandle" ∧ (parseMethodDescriptor yX2_prisonersWhoList.desc).map (fun d => d.parameters.length) = some 1 := by decide +kernel
theorem hdX2_prisonersWhoList : yX2_prisonersWhoList.cls = RX2 ∧ yX2_prisonersWhoList.cls ≠ "java/lang/invoke/MethodHandle" ∧ yX2_prisonersWhoList.cls ≠ "java/lang/invoke/VarHandle" ∧ (parseMethodDescriptor yX2_prisonersWhoList.desc).map (fun d => d.parameters.length) = some 1 := ⟨rfl, hnX2_prisonersWhoList⟩
theorem hnX2_lineOf : yX2_lineOf.cls ≠ "java/lang/invoke/MethodHandle" ∧ yX2_lineOf.cls ≠ "java/lang/invoke/VarHandle" ∧ (parseMethodDescriptor yX2_lineOf.desc).map (fun d => d.parameters.length) = some 1 := by decide +kernel
theorem hdX2_lineOf : yX2_lineOf.cls = RX2 ∧ yX2_lineOf.cls ≠ "java/lang/invoke/MethodHandle" ∧ yX2_lineOf.cls ≠ "java/lang/invoke/VarHandle" ∧ (parseMethodDescriptor yX2_lineOf.desc).map (fun d => d.parameters.length) = some 1 := ⟨rfl, hnX2_lineOf⟩
theorem hnX2_isLost : yX2_isLost.cls ≠ "java/lang/invoke/MethodHandle" ∧ yX2_isLost.cls ≠ "java/lang/invoke/VarHandle" ∧ (parseMethodDescriptor yX2_isLost.desc).map (fun d => d.parameters.length) = some 2 := by decide +kernel
theorem hdX2_isLost : yX2_isLost.cls = RX2 ∧ yX2_isLost.cls ≠ "java/lang/invoke/MethodHandle" ∧ yX2_isLost.cls ≠ "java/lang/invoke/VarHandle" ∧ (parseMethodDescriptor yX2_isLost.desc).map (fun d => d.parameters.length) = some 2 := ⟨rfl, hnX2_isLost⟩
theorem hnX2_isBanned : yX2_isBanned.cls ≠ "java/lang/invoke/MethodHandle" ∧ yX2_isBanned.cls ≠ "java/lang/invoke/VarHandle" ∧ (parseMethodDescriptor yX2_isBanned.desc).map (fun d => d.parameters.length) = some 2 := by decide +kernel
theorem hdX2_isBanned : yX2_isBanned.cls = RX2 ∧ yX2_isBanned.cls ≠ "java/lang/invoke/MethodHandle" ∧ yX2_isBanned.cls ≠ "java/lang/invoke/VarHandle" ∧ (parseMethodDescriptor yX2_isBanned.desc).map (fun d => d.parameters.length) = some 2 := ⟨rfl, hnX2_isBanned⟩
theorem hnX2_reasonAgainst : yX2_reasonAgainst.cls ≠ "java/lang/invoke/MethodHandle" ∧ yX2_reasonAgainst.cls ≠ "java/lang/invoke/VarHandle" ∧ (parseMethodDescriptor yX2_reasonAgainst.desc).map (fun d => d.parameters.length) = some 4 := by decide +kernel
theorem hdX2_reasonAgainst : yX2_reasonAgainst.cls = RX2 ∧ yX2_reasonAgainst.cls ≠ "java/lang/invoke/MethodHandle" ∧ yX2_reasonAgainst.cls ≠ "java/lang/invoke/VarHandle" ∧ (parseMethodDescriptor yX2_reasonAgainst.desc).map (fun d => d.parameters.length) = some 4 := ⟨rfl, hnX2_reasonAgainst⟩
theorem hnX2_reasonOnDay : yX2_reasonOnDay.cls ≠ "java/lang/invoke/MethodHandle" ∧ yX2_reasonOnDay.cls ≠ "java/lang/invoke/VarHandle" ∧ (parseMethodDescriptor yX2_reasonOnDay.desc).map (fun d => d.parameters.length) = some 3 := by decide +kernel
theorem hdX2_reasonOnDay : yX2_reasonOnDay.cls = RX2 ∧ yX2_reasonOnDay.cls ≠ "java/lang/invoke/MethodHandle" ∧ yX2_reasonOnDay.cls ≠ "java/lang/invoke/VarHandle" ∧ (parseMethodDescriptor yX2_reasonOnDay.desc).map (fun d => d.parameters.length) = some 3 := ⟨rfl, hnX2_reasonOnDay⟩
theorem hnX2_reasonInHour : yX2_reasonInHour.cls ≠ "java/lang/invoke/MethodHandle" ∧ yX2_reasonInHour.cls ≠ "java/lang/invoke/VarHandle" ∧ (parseMethodDescriptor yX2_reasonInHour.desc).map (fun d => d.parameters.length) = some 4 := by decide +kernel
theorem hdX2_reasonInHour : yX2_reasonInHour.cls = RX2 ∧ yX2_reasonInHour.cls ≠ "java/lang/invoke/MethodHandle" ∧ yX2_reasonInHour.cls ≠ "java/lang/invoke/VarHandle" ∧ (parseMethodDescriptor yX2_reasonInHour.desc).map (fun d => d.parameters.length) = some 4 := ⟨rfl, hnX2_reasonInHour⟩
theorem hnX2_earliest : yX2_earliest.cls ≠ "java/lang/invoke/MethodHandle" ∧ yX2_earliest.cls ≠ "java/lang/invoke/VarHandle" ∧ (parseMethodDescriptor yX2_earliest.desc).map (fun d => d.parameters.length) = some 3 := by decide +kernel
theorem hdX2_earliest : yX2_earliest.cls = RX2 ∧ yX2_earliest.cls ≠ "java/lang/invoke/MethodHandle" ∧ yX2_earliest.cls ≠ "java/lang/invoke/VarHandle" ∧ (parseMethodDescriptor yX2_earliest.desc).map (fun d => d.parameters.length) = some 3 := ⟨rfl, hnX2_earliest⟩
theorem hnX2_tryAdd : yX2_tryAdd.cls ≠ "java/lang/invoke/MethodHandle" ∧ yX2_tryAdd.cls ≠ "java/lang/invoke/VarHandle" ∧ (parseMethodDescriptor yX2_tryAdd.desc).map (fun d => d.parameters.length) = some 1 := by decide +kernel
theorem hdX2_tryAdd : yX2_tryAdd.cls = RX2 ∧ yX2_tryAdd.cls ≠ "java/lang/invoke/MethodHandle" ∧ yX2_tryAdd.cls ≠ "java/lang/invoke/VarHandle" ∧ (parseMethodDescriptor yX2_tryAdd.desc).map (fun d => d.parameters.length) = some 1 := ⟨rfl, hnX2_tryAdd⟩
theorem hnX2_tryPromote : yX2_tryPromote.cls ≠ "java/lang/invoke/MethodHandle" ∧ yX2_tryPromote.cls ≠ "java/lang/invoke/VarHandle" ∧ (parseMethodDescriptor yX2_tryPromote.desc).map (fun d => d.parameters.length) = some 2 := by decide +kernel
theorem hdX2_tryPromote : yX2_tryPromote.cls = RX2 ∧ yX2_tryPromote.cls ≠ "java/lang/invoke/MethodHandle" ∧ yX2_tryPromote.cls ≠ "java/lang/invoke/VarHandle" ∧ (parseMethodDescriptor yX2_tryPromote.desc).map (fun d => d.parameters.length) = some 2 := ⟨rfl, hnX2_tryPromote⟩
theorem hnX2_tryList : yX2_tryList.cls ≠ "java/lang/invoke/MethodHandle" ∧ yX2_tryList.cls ≠ "java/lang/invoke/VarHandle" ∧ (parseMethodDescriptor yX2_tryList.desc).map (fun d => d.parameters.length) = some 3 := by decide +kernel
theorem hdX2_tryList : yX2_tryList.cls = RX2 ∧ yX2_tryList.cls ≠ "java/lang/invoke/MethodHandle" ∧ yX2_tryList.cls ≠ "java/lang/invoke/VarHandle" ∧ (parseMethodDescriptor yX2_tryList.desc).map (fun d => d.parameters.length) = some 3 := ⟨rfl, hnX2_tryList⟩
theorem hnX2_tryKeepApart : yX2_tryKeepApart.cls ≠ "java/lang/invoke/MethodHandle" ∧ yX2_tryKeepApart.cls ≠ "java/lang/invoke/VarHandle" ∧ (parseMethodDescriptor yX2_tryKeepApart.desc).map (fun d => d.parameters.length) = some 3 := by decide +kernel
theorem hdX2_tryKeepApart : yX2_tryKeepApart.cls = RX2 ∧ yX2_tryKeepApart.cls ≠ "java/lang/invoke/MethodHandle" ∧ yX2_tryKeepApart.cls ≠ "java/lang/invoke/VarHandle" ∧ (parseMethodDescriptor yX2_tryKeepApart.desc).map (fun d => d.parameters.length) = some 3 := ⟨rfl, hnX2_tryKeepApart⟩
theorem hnX2_tryBook : yX2_tryBook.cls ≠ "java/lang/invoke/MethodHandle" ∧ yX2_tryBook.cls ≠ "java/lang/invoke/VarHandle" ∧ (parseMethodDescriptor yX2_tryBook.desc).map (fun d => d.parameters.length) = some 4 := by decide +kernel
theorem hdX2_tryBook : yX2_tryBook.cls = RX2 ∧ yX2_tryBook.cls ≠ "java/lang/invoke/MethodHandle" ∧ yX2_tryBook.cls ≠ "java/lang/invoke/VarHandle" ∧ (parseMethodDescriptor yX2_tryBook.desc).map (fun d => d.parameters.length) = some 4 := ⟨rfl, hnX2_tryBook⟩
theorem hnX2_tryCancel : yX2_tryCancel.cls ≠ "java/lang/invoke/MethodHandle" ∧ yX2_tryCancel.cls ≠ "java/lang/invoke/VarHandle" ∧ (parseMethodDescriptor yX2_tryCancel.desc).map (fun d => d.parameters.length) = some 1 := by decide +kernel
theorem hdX2_tryCancel : yX2_tryCancel.cls = RX2 ∧ yX2_tryCancel.cls ≠ "java/lang/invoke/MethodHandle" ∧ yX2_tryCancel.cls ≠ "java/lang/invoke/VarHandle" ∧ (parseMethodDescriptor yX2_tryCancel.desc).map (fun d => d.parameters.length) = some 1 := ⟨rfl, hnX2_tryCancel⟩
theorem hnX2_tryLate : yX2_tryLate.cls ≠ "java/lang/invoke/MethodHandle" ∧ yX2_tryLate.cls ≠ "java/lang/invoke/VarHandle" ∧ (parseMethodDescriptor yX2_tryLate.desc).map (fun d => d.parameters.length) = some 2 := by decide +kernel
theorem hdX2_tryLate : yX2_tryLate.cls = RX2 ∧ yX2_tryLate.cls ≠ "java/lang/invoke/MethodHandle" ∧ yX2_tryLate.cls ≠ "java/lang/invoke/VarHandle" ∧ (parseMethodDescriptor yX2_tryLate.desc).map (fun d => d.parameters.length) = some 2 := ⟨rfl, hnX2_tryLate⟩
theorem hnX2_tryCarry : yX2_tryCarry.cls ≠ "java/lang/invoke/MethodHandle" ∧ yX2_tryCarry.cls ≠ "java/lang/invoke/VarHandle" ∧ (parseMethodDescriptor yX2_tryCarry.desc).map (fun d => d.parameters.length) = some 2 := by decide +kernel
theorem hdX2_tryCarry : yX2_tryCarry.cls = RX2 ∧ yX2_tryCarry.cls ≠ "java/lang/invoke/MethodHandle" ∧ yX2_tryCarry.cls ≠ "java/lang/invoke/VarHandle" ∧ (parseMethodDescriptor yX2_tryCarry.desc).map (fun d => d.parameters.length) = some 2 := ⟨rfl, hnX2_tryCarry⟩
theorem hnX2_tryPunish : yX2_tryPunish.cls ≠ "java/lang/invoke/MethodHandle" ∧ yX2_tryPunish.cls ≠ "java/lang/invoke/VarHandle" ∧ (parseMethodDescriptor yX2_tryPunish.desc).map (fun d => d.parameters.length) = some 2 := by decide +kernel
theorem hdX2_tryPunish : yX2_tryPunish.cls = RX2 ∧ yX2_tryPunish.cls ≠ "java/lang/invoke/MethodHandle" ∧ yX2_tryPunish.cls ≠ "java/lang/invoke/VarHandle" ∧ (parseMethodDescriptor yX2_tryPunish.desc).map (fun d => d.parameters.length) = some 2 := ⟨rfl, hnX2_tryPunish⟩
theorem hnX2_tryWish : yX2_tryWish.cls ≠ "java/lang/invoke/MethodHandle" ∧ yX2_tryWish.cls ≠ "java/lang/invoke/VarHandle" ∧ (parseMethodDescriptor yX2_tryWish.desc).map (fun d => d.parameters.length) = some 2 := by decide +kernel
theorem hdX2_tryWish : yX2_tryWish.cls = RX2 ∧ yX2_tryWish.cls ≠ "java/lang/invoke/MethodHandle" ∧ yX2_tryWish.cls ≠ "java/lang/invoke/VarHandle" ∧ (parseMethodDescriptor yX2_tryWish.desc).map (fun d => d.parameters.length) = some 2 := ⟨rfl, hnX2_tryWish⟩
theorem hnX2_trySet : yX2_trySet.cls ≠ "java/lang/invoke/MethodHandle" ∧ yX2_trySet.cls ≠ "java/lang/invoke/VarHandle" ∧ (parseMethodDescriptor yX2_trySet.desc).map (fun d => d.parameters.length) = some 2 := by decide +kernel
theorem hdX2_trySet : yX2_trySet.cls = RX2 ∧ yX2_trySet.cls ≠ "java/lang/invoke/MethodHandle" ∧ yX2_trySet.cls ≠ "java/lang/invoke/VarHandle" ∧ (parseMethodDescriptor yX2_trySet.desc).map (fun d => d.parameters.length) = some 2 := ⟨rfl, hnX2_trySet⟩
theorem hnX2_letDaysPass : yX2_letDaysPass.cls ≠ "java/lang/invoke/MethodHandle" ∧ yX2_letDaysPass.cls ≠ "java/lang/invoke/VarHandle" ∧ (parseMethodDescriptor yX2_letDaysPass.desc).map (fun d => d.parameters.length) = some 1 := by decide +kernel
theorem hdX2_letDaysPass : yX2_letDaysPass.cls = RX2 ∧ yX2_letDaysPass.cls ≠ "java/lang/invoke/MethodHandle" ∧ yX2_letDaysPass.cls ≠ "java/lang/invoke/VarHandle" ∧ (parseMethodDescriptor yX2_letDaysPass.desc).map (fun d => d.parameters.length) = some 1 := ⟨rfl, hnX2_letDaysPass⟩
theorem hnX2_fateOf : yX2_fateOf.cls ≠ "java/lang/invoke/MethodHandle" ∧ yX2_fateOf.cls ≠ "java/lang/invoke/VarHandle" ∧ (parseMethodDescriptor yX2_fateOf.desc).map (fun d => d.parameters.length) = some 1 := by decide +kernel
theorem hdX2_fateOf : yX2_fateOf.cls = RX2 ∧ yX2_fateOf.cls ≠ "java/lang/invoke/MethodHandle" ∧ yX2_fateOf.cls ≠ "java/lang/invoke/VarHandle" ∧ (parseMethodDescriptor yX2_fateOf.desc).map (fun d => d.parameters.length) = some 1 := ⟨rfl, hnX2_fateOf⟩
theorem hnX2_grantWishes : yX2_grantWishes.cls ≠ "java/lang/invoke/MethodHandle" ∧ yX2_grantWishes.cls ≠ "java/lang/invoke/VarHandle" ∧ (parseMethodDescriptor yX2_grantWishes.desc).map (fun d => d.parameters.length) = some 0 := by decide +kernel
theorem hdX2_grantWishes : yX2_grantWishes.cls = RX2 ∧ yX2_grantWishes.cls ≠ "java/lang/invoke/MethodHandle" ∧ yX2_grantWishes.cls ≠ "java/lang/invoke/VarHandle" ∧ (parseMethodDescriptor yX2_grantWishes.desc).map (fun d => d.parameters.length) = some 0 := ⟨rfl, hnX2_grantWishes⟩
theorem hnX2_lookAtFirst : yX2_lookAtFirst.cls ≠ "java/lang/invoke/MethodHandle" ∧ yX2_lookAtFirst.cls ≠ "java/lang/invoke/VarHandle" ∧ (parseMethodDescriptor yX2_lookAtFirst.desc).map (fun d => d.parameters.length) = some 0 := by decide +kernel
theorem hdX2_lookAtFirst : yX2_lookAtFirst.cls = RX2 ∧ yX2_lookAtFirst.cls ≠ "java/lang/invoke/MethodHandle" ∧ yX2_lookAtFirst.cls ≠ "java/lang/invoke/VarHandle" ∧ (parseMethodDescriptor yX2_lookAtFirst.desc).map (fun d => d.parameters.length) = some 0 := ⟨rfl, hnX2_lookAtFirst⟩
theorem hnX2_judge : yX2_judge.cls ≠ "java/lang/invoke/MethodHandle" ∧ yX2_judge.cls ≠ "java/lang/invoke/VarHandle" ∧ (parseMethodDescriptor yX2_judge.desc).map (fun d => d.parameters.length) = some 3 := by decide +kernel
theorem hdX2_judge : yX2_judge.cls = RX2 ∧ yX2_judge.cls ≠ "java/lang/invoke/MethodHandle" ∧ yX2_judge.cls ≠ "java/lang/invoke/VarHandle" ∧ (parseMethodDescriptor yX2_judge.desc).map (fun d => d.parameters.length) = some 3 := ⟨rfl, hnX2_judge⟩
theorem hnX2_isSearched : yX2_isSearched.cls ≠ "java/lang/invoke/MethodHandle" ∧ yX2_isSearched.cls ≠ "java/lang/invoke/VarHandle" ∧ (parseMethodDescriptor yX2_isSearched.desc).map (fun d => d.parameters.length) = some 1 := by decide +kernel
theorem hdX2_isSearched : yX2_isSearched.cls = RX2 ∧ yX2_isSearched.cls ≠ "java/lang/invoke/MethodHandle" ∧ yX2_isSearched.cls ≠ "java/lang/invoke/VarHandle" ∧ (parseMethodDescriptor yX2_isSearched.desc).map (fun d => d.parameters.length) = some 1 := ⟨rfl, hnX2_isSearched⟩
theorem hnX2_getsThirdStrike : yX2_getsThirdStrike.cls ≠ "java/lang/invoke/MethodHandle" ∧ yX2_getsThirdStrike.cls ≠ "java/lang/invoke/VarHandle" ∧ (parseMethodDescriptor yX2_getsThirdStrike.desc).map (fun d => d.parameters.length) = some 1 := by decide +kernel
theorem hdX2_getsThirdStrike : yX2_getsThirdStrike.cls = RX2 ∧ yX2_getsThirdStrike.cls ≠ "java/lang/invoke/MethodHandle" ∧ yX2_getsThirdStrike.cls ≠ "java/lang/invoke/VarHandle" ∧ (parseMethodDescriptor yX2_getsThirdStrike.desc).map (fun d => d.parameters.length) = some 1 := ⟨rfl, hnX2_getsThirdStrike⟩
theorem hnX2_ban : yX2_ban.cls ≠ "java/lang/invoke/MethodHandle" ∧ yX2_ban.cls ≠ "java/lang/invoke/VarHandle" ∧ (parseMethodDescriptor yX2_ban.desc).map (fun d => d.parameters.length) = some 1 := by decide +kernel
theorem hdX2_ban : yX2_ban.cls = RX2 ∧ yX2_ban.cls ≠ "java/lang/invoke/MethodHandle" ∧ yX2_ban.cls ≠ "java/lang/invoke/VarHandle" ∧ (parseMethodDescriptor yX2_ban.desc).map (fun d => d.parameters.length) = some 1 := ⟨rfl, hnX2_ban⟩
theorem hnX2_takePrivileges : yX2_takePrivileges.cls ≠ "java/lang/invoke/MethodHandle" ∧ yX2_takePrivileges.cls ≠ "java/lang/invoke/VarHandle" ∧ (parseMethodDescriptor yX2_takePrivileges.desc).map (fun d => d.parameters.length) = some 1 := by decide +kernel
theorem hdX2_takePrivileges : yX2_takePrivileges.cls = RX2 ∧ yX2_takePrivileges.cls ≠ "java/lang/invoke/MethodHandle" ∧ yX2_takePrivileges.cls ≠ "java/lang/invoke/VarHandle" ∧ (parseMethodDescriptor yX2_takePrivileges.desc).map (fun d => d.parameters.length) = some 1 := ⟨rfl, hnX2_takePrivileges⟩
theorem hnX2_beginNextDay : yX2_beginNextDay.cls ≠ "java/lang/invoke/MethodHandle" ∧ yX2_beginNextDay.cls ≠ "java/lang/invoke/VarHandle" ∧ (parseMethodDescriptor yX2_beginNextDay.desc).map (fun d => d.parameters.length) = some 0 := by decide +kernel
theorem hdX2_beginNextDay : yX2_beginNextDay.cls = RX2 ∧ yX2_beginNextDay.cls ≠ "java/lang/invoke/MethodHandle" ∧ yX2_beginNextDay.cls ≠ "java/lang/invoke/VarHandle" ∧ (parseMethodDescriptor yX2_beginNextDay.desc).map (fun d => d.parameters.length) = some 0 := ⟨rfl, hnX2_beginNextDay⟩
theorem hnX3_withoutLast : yX3_withoutLast.cls ≠ "java/lang/invoke/MethodHandle" ∧ yX3_withoutLast.cls ≠ "java/lang/invoke/VarHandle" ∧ (parseMethodDescriptor yX3_withoutLast.desc).map (fun d => d.parameters.length) = some 2 := by decide +kernel
theorem hnX3_succeeds : yX3_succeeds.cls ≠ "java/lang/invoke/MethodHandle" ∧ yX3_succeeds.cls ≠ "java/lang/invoke/VarHandle" ∧ (parseMethodDescriptor yX3_succeeds.desc).map (fun d => d.parameters.length) = some 2 := by decide +kernel
theorem hnX3_takeTurn : yX3_takeTurn.cls ≠ "java/lang/invoke/MethodHandle" ∧ yX3_takeTurn.cls ≠ "java/lang/invoke/VarHandle" ∧ (parseMethodDescriptor yX3_takeTurn.desc).map (fun d => d.parameters.length) = some 2 := by decide +kernel
theorem hnX4_init : yX4_init.cls ≠ "java/lang/invoke/MethodHandle" ∧ yX4_init.cls ≠ "java/lang/invoke/VarHandle" ∧ (parseMethodDescriptor yX4_init.desc).map (fun d => d.parameters.length) = some 0 := by decide +kernel
theorem hnX5_init : yX5_init.cls ≠ "java/lang/invoke/MethodHandle" ∧ yX5_init.cls ≠ "java/lang/invoke/VarHandle" ∧ (parseMethodDescriptor yX5_init.desc).map (fun d => d.parameters.length) = some 0 := by decide +kernel
theorem hnX5_isFull : yX5_isFull.cls ≠ "java/lang/invoke/MethodHandle" ∧ yX5_isFull.cls ≠ "java/lang/invoke/VarHandle" ∧ (parseMethodDescriptor yX5_isFull.desc).map (fun d => d.parameters.length) = some 0 := by decide +kernel
theorem hdX5_isFull : yX5_isFull.cls = RX5 ∧ yX5_isFull.cls ≠ "java/lang/invoke/MethodHandle" ∧ yX5_isFull.cls ≠ "java/lang/invoke/VarHandle" ∧ (parseMethodDescriptor yX5_isFull.desc).map (fun d => d.parameters.length) = some 0 := ⟨rfl, hnX5_isFull⟩
theorem hnX5_add : yX5_add.cls ≠ "java/lang/invoke/MethodHandle" ∧ yX5_add.cls ≠ "java/lang/invoke/VarHandle" ∧ (parseMethodDescriptor yX5_add.desc).map (fun d => d.parameters.length) = some 1 := by decide +kernel
theorem hdX5_add : yX5_add.cls = RX5 ∧ yX5_add.cls ≠ "java/lang/invoke/MethodHandle" ∧ yX5_add.cls ≠ "java/lang/invoke/VarHandle" ∧ (parseMethodDescriptor yX5_add.desc).map (fun d => d.parameters.length) = some 1 := ⟨rfl, hnX5_add⟩
theorem hnX5_drop : yX5_drop.cls ≠ "java/lang/invoke/MethodHandle" ∧ yX5_drop.cls ≠ "java/lang/invoke/VarHandle" ∧ (parseMethodDescriptor yX5_drop.desc).map (fun d => d.parameters.length) = some 0 := by decide +kernel
theorem hdX5_drop : yX5_drop.cls = RX5 ∧ yX5_drop.cls ≠ "java/lang/invoke/MethodHandle" ∧ yX5_drop.cls ≠ "java/lang/invoke/VarHandle" ∧ (parseMethodDescriptor yX5_drop.desc).map (fun d => d.parameters.length) = some 0 := ⟨rfl, hnX5_drop⟩
theorem hnX5_errorIndex : yX5_errorIndex.cls ≠ "java/lang/invoke/MethodHandle" ∧ yX5_errorIndex.cls ≠ "java/lang/invoke/VarHandle" ∧ (parseMethodDescriptor yX5_errorIndex.desc).map (fun d => d.parameters.length) = some 0 := by decide +kernel
theorem hdX5_errorIndex : yX5_errorIndex.cls = RX5 ∧ yX5_errorIndex.cls ≠ "java/lang/invoke/MethodHandle" ∧ yX5_errorIndex.cls ≠ "java/lang/invoke/VarHandle" ∧ (parseMethodDescriptor yX5_errorIndex.desc).map (fun d => d.parameters.length) = some 0 := ⟨rfl, hnX5_errorIndex⟩
theorem hnX5_startReading : yX5_startReading.cls ≠ "java/lang/invoke/MethodHandle" ∧ yX5_startReading.cls ≠ "java/lang/invoke/VarHandle" ∧ (parseMethodDescriptor yX5_startReading.desc).map (fun d => d.parameters.length) = some 0 := by decide +kernel
theorem hdX5_startReading : yX5_startReading.cls = RX5 ∧ yX5_startReading.cls ≠ "java/lang/invoke/MethodHandle" ∧ yX5_startReading.cls ≠ "java/lang/invoke/VarHandle" ∧ (parseMethodDescriptor yX5_startReading.desc).map (fun d => d.parameters.length) = some 0 := ⟨rfl, hnX5_startReading⟩
theorem hnX5_readCommand : yX5_readCommand.cls ≠ "java/lang/invoke/MethodHandle" ∧ yX5_readCommand.cls ≠ "java/lang/invoke/VarHandle" ∧ (parseMethodDescriptor yX5_readCommand.desc).map (fun d => d.parameters.length) = some 0 := by decide +kernel
theorem hdX5_readCommand : yX5_readCommand.cls = RX5 ∧ yX5_readCommand.cls ≠ "java/lang/invoke/MethodHandle" ∧ yX5_readCommand.cls ≠ "java/lang/invoke/VarHandle" ∧ (parseMethodDescriptor yX5_readCommand.desc).map (fun d => d.parameters.length) = some 0 := ⟨rfl, hnX5_readCommand⟩
theorem hnX5_readSign : yX5_readSign.cls ≠ "java/lang/invoke/MethodHandle" ∧ yX5_readSign.cls ≠ "java/lang/invoke/VarHandle" ∧ (parseMethodDescriptor yX5_readSign.desc).map (fun d => d.parameters.length) = some 1 := by decide +kernel
theorem hdX5_readSign : yX5_readSign.cls = RX5 ∧ yX5_readSign.cls ≠ "java/lang/invoke/MethodHandle" ∧ yX5_readSign.cls ≠ "java/lang/invoke/VarHandle" ∧ (parseMethodDescriptor yX5_readSign.desc).map (fun d => d.parameters.length) = some 1 := ⟨rfl, hnX5_readSign⟩
theorem hnX5_signAt : yX5_signAt.cls ≠ "java/lang/invoke/MethodHandle" ∧ yX5_signAt.cls ≠ "java/lang/invoke/VarHandle" ∧ (parseMethodDescriptor yX5_signAt.desc).map (fun d => d.parameters.length) = some 1 := by decide +kernel
theorem hdX5_signAt : yX5_signAt.cls = RX5 ∧ yX5_signAt.cls ≠ "java/lang/invoke/MethodHandle" ∧ yX5_signAt.cls ≠ "java/lang/invoke/VarHandle" ∧ (parseMethodDescriptor yX5_signAt.desc).map (fun d => d.parameters.length) = some 1 := ⟨rfl, hnX5_signAt⟩
theorem hnX5_readWord : yX5_readWord.cls ≠ "java/lang/invoke/MethodHandle" ∧ yX5_readWord.cls ≠ "java/lang/invoke/VarHandle" ∧ (parseMethodDescriptor yX5_readWord.desc).map (fun d => d.parameters.length) = some 0 := by decide +kernel
theorem hdX5_readWord : yX5_readWord.cls = RX5 ∧ yX5_readWord.cls ≠ "java/lang/invoke/MethodHandle" ∧ yX5_readWord.cls ≠ "java/lang/invoke/VarHandle" ∧ (parseMethodDescriptor yX5_readWord.desc).map (fun d => d.parameters.length) = some 0 := ⟨rfl, hnX5_readWord⟩
theorem hnX5_sameSigns : yX5_sameSigns.cls ≠ "java/lang/invoke/MethodHandle" ∧ yX5_sameSigns.cls ≠ "java/lang/invoke/VarHandle" ∧ (parseMethodDescriptor yX5_sameSigns.desc).map (fun d => d.parameters.length) = some 1 := by decide +kernel
theorem hdX5_sameSigns : yX5_sameSigns.cls = RX5 ∧ yX5_sameSigns.cls ≠ "java/lang/invoke/MethodHandle" ∧ yX5_sameSigns.cls ≠ "java/lang/invoke/VarHandle" ∧ (parseMethodDescriptor yX5_sameSigns.desc).map (fun d => d.parameters.length) = some 1 := ⟨rfl, hnX5_sameSigns⟩
theorem hnX5_readNumber : yX5_readNumber.cls ≠ "java/lang/invoke/MethodHandle" ∧ yX5_readNumber.cls ≠ "java/lang/invoke/VarHandle" ∧ (parseMethodDescriptor yX5_readNumber.desc).map (fun d => d.parameters.length) = some 2 := by decide +kernel
theorem hdX5_readNumber : yX5_readNumber.cls = RX5 ∧ yX5_readNumber.cls ≠ "java/lang/invoke/MethodHandle" ∧ yX5_readNumber.cls ≠ "java/lang/invoke/VarHandle" ∧ (parseMethodDescriptor yX5_readNumber.desc).map (fun d => d.parameters.length) = some 2 := ⟨rfl, hnX5_readNumber⟩
theorem hnX5_withDigit : yX5_withDigit.cls ≠ "java/lang/invoke/MethodHandle" ∧ yX5_withDigit.cls ≠ "java/lang/invoke/VarHandle" ∧ (parseMethodDescriptor yX5_withDigit.desc).map (fun d => d.parameters.length) = some 2 := by decide +kernel
theorem hnX5_spellingOf : yX5_spellingOf.cls ≠ "java/lang/invoke/MethodHandle" ∧ yX5_spellingOf.cls ≠ "java/lang/invoke/VarHandle" ∧ (parseMethodDescriptor yX5_spellingOf.desc).map (fun d => d.parameters.length) = some 1 := by decide +kernel
theorem hnX5_kindsOf : yX5_kindsOf.cls ≠ "java/lang/invoke/MethodHandle" ∧ yX5_kindsOf.cls ≠ "java/lang/invoke/VarHandle" ∧ (parseMethodDescriptor yX5_kindsOf.desc).map (fun d => d.parameters.length) = some 1 := by decide +kernel
theorem hnX5_leastOf : yX5_leastOf.cls ≠ "java/lang/invoke/MethodHandle" ∧ yX5_leastOf.cls ≠ "java/lang/invoke/VarHandle" ∧ (parseMethodDescriptor yX5_leastOf.desc).map (fun d => d.parameters.length) = some 1 := by decide +kernel
theorem hnX5_mostOf : yX5_mostOf.cls ≠ "java/lang/invoke/MethodHandle" ∧ yX5_mostOf.cls ≠ "java/lang/invoke/VarHandle" ∧ (parseMethodDescriptor yX5_mostOf.desc).map (fun d => d.parameters.length) = some 1 := by decide +kernel
theorem hnX5_doCommand : yX5_doCommand.cls ≠ "java/lang/invoke/MethodHandle" ∧ yX5_doCommand.cls ≠ "java/lang/invoke/VarHandle" ∧ (parseMethodDescriptor yX5_doCommand.desc).map (fun d => d.parameters.length) = some 1 := by decide +kernel
theorem hdX5_doCommand : yX5_doCommand.cls = RX5 ∧ yX5_doCommand.cls ≠ "java/lang/invoke/MethodHandle" ∧ yX5_doCommand.cls ≠ "java/lang/invoke/VarHandle" ∧ (parseMethodDescriptor yX5_doCommand.desc).map (fun d => d.parameters.length) = some 1 := ⟨rfl, hnX5_doCommand⟩
theorem hnX6_init : yX6_init.cls ≠ "java/lang/invoke/MethodHandle" ∧ yX6_init.cls ≠ "java/lang/invoke/VarHandle" ∧ (parseMethodDescriptor yX6_init.desc).map (fun d => d.parameters.length) = some 0 := by decide +kernel
theorem hnX6_copyFrom : yX6_copyFrom.cls ≠ "java/lang/invoke/MethodHandle" ∧ yX6_copyFrom.cls ≠ "java/lang/invoke/VarHandle" ∧ (parseMethodDescriptor yX6_copyFrom.desc).map (fun d => d.parameters.length) = some 1 := by decide +kernel
theorem hdX6_copyFrom : yX6_copyFrom.cls = RX6 ∧ yX6_copyFrom.cls ≠ "java/lang/invoke/MethodHandle" ∧ yX6_copyFrom.cls ≠ "java/lang/invoke/VarHandle" ∧ (parseMethodDescriptor yX6_copyFrom.desc).map (fun d => d.parameters.length) = some 1 := ⟨rfl, hnX6_copyFrom⟩
theorem hnX6_isFull : yX6_isFull.cls ≠ "java/lang/invoke/MethodHandle" ∧ yX6_isFull.cls ≠ "java/lang/invoke/VarHandle" ∧ (parseMethodDescriptor yX6_isFull.desc).map (fun d => d.parameters.length) = some 0 := by decide +kernel
theorem hdX6_isFull : yX6_isFull.cls = RX6 ∧ yX6_isFull.cls ≠ "java/lang/invoke/MethodHandle" ∧ yX6_isFull.cls ≠ "java/lang/invoke/VarHandle" ∧ (parseMethodDescriptor yX6_isFull.desc).map (fun d => d.parameters.length) = some 0 := ⟨rfl, hnX6_isFull⟩
theorem hnX6_at : yX6_at.cls ≠ "java/lang/invoke/MethodHandle" ∧ yX6_at.cls ≠ "java/lang/invoke/VarHandle" ∧ (parseMethodDescriptor yX6_at.desc).map (fun d => d.parameters.length) = some 1 := by decide +kernel
theorem hdX6_at : yX6_at.cls = RX6 ∧ yX6_at.cls ≠ "java/lang/invoke/MethodHandle" ∧ yX6_at.cls ≠ "java/lang/invoke/VarHandle" ∧ (parseMethodDescriptor yX6_at.desc).map (fun d => d.parameters.length) = some 1 := ⟨rfl, hnX6_at⟩
theorem hnX6_prisonerOf : yX6_prisonerOf.cls ≠ "java/lang/invoke/MethodHandle" ∧ yX6_prisonerOf.cls ≠ "java/lang/invoke/VarHandle" ∧ (parseMethodDescriptor yX6_prisonerOf.desc).map (fun d => d.parameters.length) = some 1 := by decide +kernel
theorem hdX6_prisonerOf : yX6_prisonerOf.cls = RX6 ∧ yX6_prisonerOf.cls ≠ "java/lang/invoke/MethodHandle" ∧ yX6_prisonerOf.cls ≠ "java/lang/invoke/VarHandle" ∧ (parseMethodDescriptor yX6_prisonerOf.desc).map (fun d => d.parameters.length) = some 1 := ⟨rfl, hnX6_prisonerOf⟩
theorem hnX6_visitorOf : yX6_visitorOf.cls ≠ "java/lang/invoke/MethodHandle" ∧ yX6_visitorOf.cls ≠ "java/lang/invoke/VarHandle" ∧ (parseMethodDescriptor yX6_visitorOf.desc).map (fun d => d.parameters.length) = some 1 := by decide +kernel
theorem hdX6_visitorOf : yX6_visitorOf.cls = RX6 ∧ yX6_visitorOf.cls ≠ "java/lang/invoke/MethodHandle" ∧ yX6_visitorOf.cls ≠ "java/lang/invoke/VarHandle" ∧ (parseMethodDescriptor yX6_visitorOf.desc).map (fun d => d.parameters.length) = some 1 := ⟨rfl, hnX6_visitorOf⟩
theorem hnX6_add : yX6_add.cls ≠ "java/lang/invoke/MethodHandle" ∧ yX6_add.cls ≠ "java/lang/invoke/VarHandle" ∧ (parseMethodDescriptor yX6_add.desc).map (fun d => d.parameters.length) = some 2 := by decide +kernel
theorem hdX6_add : yX6_add.cls = RX6 ∧ yX6_add.cls ≠ "java/lang/invoke/MethodHandle" ∧ yX6_add.cls ≠ "java/lang/invoke/VarHandle" ∧ (parseMethodDescriptor yX6_add.desc).map (fun d => d.parameters.length) = some 2 := ⟨rfl, hnX6_add⟩
theorem hnX6_remove : yX6_remove.cls ≠ "java/lang/invoke/MethodHandle" ∧ yX6_remove.cls ≠ "java/lang/invoke/VarHandle" ∧ (parseMethodDescriptor yX6_remove.desc).map (fun d => d.parameters.length) = some 1 := by decide +kernel
theorem hdX6_remove : yX6_remove.cls = RX6 ∧ yX6_remove.cls ≠ "java/lang/invoke/MethodHandle" ∧ yX6_remove.cls ≠ "java/lang/invoke/VarHandle" ∧ (parseMethodDescriptor yX6_remove.desc).map (fun d => d.parameters.length) = some 1 := ⟨rfl, hnX6_remove⟩
theorem hnX6_countOf : yX6_countOf.cls ≠ "java/lang/invoke/MethodHandle" ∧ yX6_countOf.cls ≠ "java/lang/invoke/VarHandle" ∧ (parseMethodDescriptor yX6_countOf.desc).map (fun d => d.parameters.length) = some 1 := by decide +kernel
theorem hdX6_countOf : yX6_countOf.cls = RX6 ∧ yX6_countOf.cls ≠ "java/lang/invoke/MethodHandle" ∧ yX6_countOf.cls ≠ "java/lang/invoke/VarHandle" ∧ (parseMethodDescriptor yX6_countOf.desc).map (fun d => d.parameters.length) = some 1 := ⟨rfl, hnX6_countOf⟩
theorem hnX6_inTurn : yX6_inTurn.cls ≠ "java/lang/invoke/MethodHandle" ∧ yX6_inTurn.cls ≠ "java/lang/invoke/VarHandle" ∧ (parseMethodDescriptor yX6_inTurn.desc).map (fun d => d.parameters.length) = some 2 := by decide +kernel
theorem hdX6_inTurn : yX6_inTurn.cls = RX6 ∧ yX6_inTurn.cls ≠ "java/lang/invoke/MethodHandle" ∧ yX6_inTurn.cls ≠ "java/lang/invoke/VarHandle" ∧ (parseMethodDescriptor yX6_inTurn.desc).map (fun d => d.parameters.length) = some 2 := ⟨rfl, hnX6_inTurn⟩
theorem hnX6_turnOf : yX6_turnOf.cls ≠ "java/lang/invoke/MethodHandle" ∧ yX6_turnOf.cls ≠ "java/lang/invoke/VarHandle" ∧ (parseMethodDescriptor yX6_turnOf.desc).map (fun d => d.parameters.length) = some 2 := by decide +kernel
theorem hdX6_turnOf : yX6_turnOf.cls = RX6 ∧ yX6_turnOf.cls ≠ "java/lang/invoke/MethodHandle" ∧ yX6_turnOf.cls ≠ "java/lang/invoke/VarHandle" ∧ (parseMethodDescriptor yX6_turnOf.desc).map (fun d => d.parameters.length) = some 2 := ⟨rfl, hnX6_turnOf⟩
theorem hnX6_heldBy : yX6_heldBy.cls ≠ "java/lang/invoke/MethodHandle" ∧ yX6_heldBy.cls ≠ "java/lang/invoke/VarHandle" ∧ (parseMethodDescriptor yX6_heldBy.desc).map (fun d => d.parameters.length) = some 2 := by decide +kernel
theorem hdX6_heldBy : yX6_heldBy.cls = RX6 ∧ yX6_heldBy.cls ≠ "java/lang/invoke/MethodHandle" ∧ yX6_heldBy.cls ≠ "java/lang/invoke/VarHandle" ∧ (parseMethodDescriptor yX6_heldBy.desc).map (fun d => d.parameters.length) = some 2 := ⟨rfl, hnX6_heldBy⟩
theorem hnX7_slotOf : yX7_slotOf.cls ≠ "java/lang/invoke/MethodHandle" ∧ yX7_slotOf.cls ≠ "java/lang/invoke/VarHandle" ∧ (parseMethodDescriptor yX7_slotOf.desc).map (fun d => d.parameters.length) = some 1 := by decide +kernel
theorem hdX7_slotOf : yX7_slotOf.cls = RX7 ∧ yX7_slotOf.cls ≠ "java/lang/invoke/MethodHandle" ∧ yX7_slotOf.cls ≠ "java/lang/invoke/VarHandle" ∧ (parseMethodDescriptor yX7_slotOf.desc).map (fun d => d.parameters.length) = some 1 := ⟨rfl, hnX7_slotOf⟩
theorem hnX7_settle : yX7_settle.cls ≠ "java/lang/invoke/MethodHandle" ∧ yX7_settle.cls ≠ "java/lang/invoke/VarHandle" ∧ (parseMethodDescriptor yX7_settle.desc).map (fun d => d.parameters.length) = some 1 := by decide +kernel
theorem hdX7_settle : yX7_settle.cls = RX7 ∧ yX7_settle.cls ≠ "java/lang/invoke/MethodHandle" ∧ yX7_settle.cls ≠ "java/lang/invoke/VarHandle" ∧ (parseMethodDescriptor yX7_settle.desc).map (fun d => d.parameters.length) = some 1 := ⟨rfl, hnX7_settle⟩
theorem hnX7_isBetween : yX7_isBetween.cls ≠ "java/lang/invoke/MethodHandle" ∧ yX7_isBetween.cls ≠ "java/lang/invoke/VarHandle" ∧ (parseMethodDescriptor yX7_isBetween.desc).map (fun d => d.parameters.length) = some 3 := by decide +kernel
theorem hnX7_withBit : yX7_withBit.cls ≠ "java/lang/invoke/MethodHandle" ∧ yX7_withBit.cls ≠ "java/lang/invoke/VarHandle" ∧ (parseMethodDescriptor yX7_withBit.desc).map (fun d => d.parameters.length) = some 3 := by decide +kernel
theorem hnX7_hasBit : yX7_hasBit.cls ≠ "java/lang/invoke/MethodHandle" ∧ yX7_hasBit.cls ≠ "java/lang/invoke/VarHandle" ∧ (parseMethodDescriptor yX7_hasBit.desc).map (fun d => d.parameters.length) = some 2 := by decide +kernel
theorem hnJ5_init_d00df : yJ5_init_d00df.cls ≠ "java/lang/invoke/MethodHandle" ∧ yJ5_init_d00df.cls ≠ "java/lang/invoke/VarHandle" ∧ (parseMethodDescriptor yJ5_init_d00df.desc).map (fun d => d.parameters.length) = some 1 := by decide +kernel
theorem hnJ6_getChars_ba4f3 : yJ6_getChars_ba4f3.cls ≠ "java/lang/invoke/MethodHandle" ∧ yJ6_getChars_ba4f3.cls ≠ "java/lang/invoke/VarHandle" ∧ (parseMethodDescriptor yJ6_getChars_ba4f3.desc).map (fun d => d.parameters.length) = some 3 := by decide +kernel
theorem hnJ6_stringSize_0f7a4 : yJ6_stringSize_0f7a4.cls ≠ "java/lang/invoke/MethodHandle" ∧ yJ6_stringSize_0f7a4.cls ≠ "java/lang/invoke/VarHandle" ∧ (parseMethodDescriptor yJ6_stringSize_0f7a4.desc).map (fun d => d.parameters.length) = some 1 := by decide +kernel
theorem hnJ0_length_8abf5 : yJ0_length_8abf5.cls ≠ "java/lang/invoke/MethodHandle" ∧ yJ0_length_8abf5.cls ≠ "java/lang/invoke/VarHandle" ∧ (parseMethodDescriptor yJ0_length_8abf5.desc).map (fun d => d.parameters.length) = some 0 := by decide +kernel
theorem hdJ0_length_8abf5 : yJ0_length_8abf5.cls = RJ0 ∧ yJ0_length_8abf5.cls ≠ "java/lang/invoke/MethodHandle" ∧ yJ0_length_8abf5.cls ≠ "java/lang/invoke/VarHandle" ∧ (parseMethodDescriptor yJ0_length_8abf5.desc).map (fun d => d.parameters.length) = some 0 := ⟨rfl, hnJ0_length_8abf5⟩
theorem hnJ0_charAt_5068e : yJ0_charAt_5068e.cls ≠ "java/lang/invoke/MethodHandle" ∧ yJ0_charAt_5068e.cls ≠ "java/lang/invoke/VarHandle" ∧ (parseMethodDescriptor yJ0_charAt_5068e.desc).map (fun d => d.parameters.length) = some 1 := by decide +kernel
theorem hdJ0_charAt_5068e : yJ0_charAt_5068e.cls = RJ0 ∧ yJ0_charAt_5068e.cls ≠ "java/lang/invoke/MethodHandle" ∧ yJ0_charAt_5068e.cls ≠ "java/lang/invoke/VarHandle" ∧ (parseMethodDescriptor yJ0_charAt_5068e.desc).map (fun d => d.parameters.length) = some 1 := ⟨rfl, hnJ0_charAt_5068e⟩
theorem hnJ0_getBytes_840e7 : yJ0_getBytes_840e7.cls ≠ "java/lang/invoke/MethodHandle" ∧ yJ0_getBytes_840e7.cls ≠ "java/lang/invoke/VarHandle" ∧ (parseMethodDescriptor yJ0_getBytes_840e7.desc).map (fun d => d.parameters.length) = some 3 := by decide +kernel
theorem hdJ0_getBytes_840e7 : yJ0_getBytes_840e7.cls = RJ0 ∧ yJ0_getBytes_840e7.cls ≠ "java/lang/invoke/MethodHandle" ∧ yJ0_getBytes_840e7.cls ≠ "java/lang/invoke/VarHandle" ∧ (parseMethodDescriptor yJ0_getBytes_840e7.desc).map (fun d => d.parameters.length) = some 3 := ⟨rfl, hnJ0_getBytes_840e7⟩
theorem hnJ0_coder_7d493 : yJ0_coder_7d493.cls ≠ "java/lang/invoke/MethodHandle" ∧ yJ0_coder_7d493.cls ≠ "java/lang/invoke/VarHandle" ∧ (parseMethodDescriptor yJ0_coder_7d493.desc).map (fun d => d.parameters.length) = some 0 := by decide +kernel
theorem hdJ0_coder_7d493 : yJ0_coder_7d493.cls = RJ0 ∧ yJ0_coder_7d493.cls ≠ "java/lang/invoke/MethodHandle" ∧ yJ0_coder_7d493.cls ≠ "java/lang/invoke/VarHandle" ∧ (parseMethodDescriptor yJ0_coder_7d493.desc).map (fun d => d.parameters.length) = some 0 := ⟨rfl, hnJ0_coder_7d493⟩
theorem hnJ0_isLatin1_aae02 : yJ0_isLatin1_aae02.cls ≠ "java/lang/invoke/MethodHandle" ∧ yJ0_isLatin1_aae02.cls ≠ "java/lang/invoke/VarHandle" ∧ (parseMethodDescriptor yJ0_isLatin1_aae02.desc).map (fun d => d.parameters.length) = some 0 := by decide +kernel
theorem hdJ0_isLatin1_aae02 : yJ0_isLatin1_aae02.cls = RJ0 ∧ yJ0_isLatin1_aae02.cls ≠ "java/lang/invoke/MethodHandle" ∧ yJ0_isLatin1_aae02.cls ≠ "java/lang/invoke/VarHandle" ∧ (parseMethodDescriptor yJ0_isLatin1_aae02.desc).map (fun d => d.parameters.length) = some 0 := ⟨rfl, hnJ0_isLatin1_aae02⟩
theorem hnJ0_checkIndex_df160 : yJ0_checkIndex_df160.cls ≠ "java/lang/invoke/MethodHandle" ∧ yJ0_checkIndex_df160.cls ≠ "java/lang/invoke/VarHandle" ∧ (parseMethodDescriptor yJ0_checkIndex_df160.desc).map (fun d => d.parameters.length) = some 2 := by decide +kernel
theorem hnJ4_init_da8c8 : yJ4_init_da8c8.cls ≠ "java/lang/invoke/MethodHandle" ∧ yJ4_init_da8c8.cls ≠ "java/lang/invoke/VarHandle" ∧ (parseMethodDescriptor yJ4_init_da8c8.desc).map (fun d => d.parameters.length) = some 0 := by decide +kernel
theorem hnJ4_append_15ec4 : yJ4_append_15ec4.cls ≠ "java/lang/invoke/MethodHandle" ∧ yJ4_append_15ec4.cls ≠ "java/lang/invoke/VarHandle" ∧ (parseMethodDescriptor yJ4_append_15ec4.desc).map (fun d => d.parameters.length) = some 1 := by decide +kernel
theorem hdJ4_append_15ec4 : yJ4_append_15ec4.cls = RJ4 ∧ yJ4_append_15ec4.cls ≠ "java/lang/invoke/MethodHandle" ∧ yJ4_append_15ec4.cls ≠ "java/lang/invoke/VarHandle" ∧ (parseMethodDescriptor yJ4_append_15ec4.desc).map (fun d => d.parameters.length) = some 1 := ⟨rfl, hnJ4_append_15ec4⟩
theorem hnJ4_append_cf468 : yJ4_append_cf468.cls ≠ "java/lang/invoke/MethodHandle" ∧ yJ4_append_cf468.cls ≠ "java/lang/invoke/VarHandle" ∧ (parseMethodDescriptor yJ4_append_cf468.desc).map (fun d => d.parameters.length) = some 1 := by decide +kernel
theorem hdJ4_append_cf468 : yJ4_append_cf468.cls = RJ4 ∧ yJ4_append_cf468.cls ≠ "java/lang/invoke/MethodHandle" ∧ yJ4_append_cf468.cls ≠ "java/lang/invoke/VarHandle" ∧ (parseMethodDescriptor yJ4_append_cf468.desc).map (fun d => d.parameters.length) = some 1 := ⟨rfl, hnJ4_append_cf468⟩
theorem hnJ4_append_bf812 : yJ4_append_bf812.cls ≠ "java/lang/invoke/MethodHandle" ∧ yJ4_append_bf812.cls ≠ "java/lang/invoke/VarHandle" ∧ (parseMethodDescriptor yJ4_append_bf812.desc).map (fun d => d.parameters.length) = some 1 := by decide +kernel
theorem hdJ4_append_bf812 : yJ4_append_bf812.cls = RJ4 ∧ yJ4_append_bf812.cls ≠ "java/lang/invoke/MethodHandle" ∧ yJ4_append_bf812.cls ≠ "java/lang/invoke/VarHandle" ∧ (parseMethodDescriptor yJ4_append_bf812.desc).map (fun d => d.parameters.length) = some 1 := ⟨rfl, hnJ4_append_bf812⟩
theorem hnJ4_charAt_5068e : yJ4_charAt_5068e.cls ≠ "java/lang/invoke/MethodHandle" ∧ yJ4_charAt_5068e.cls ≠ "java/lang/invoke/VarHandle" ∧ (parseMethodDescriptor yJ4_charAt_5068e.desc).map (fun d => d.parameters.length) = some 1 := by decide +kernel
theorem hdJ4_charAt_5068e : yJ4_charAt_5068e.cls = RJ4 ∧ yJ4_charAt_5068e.cls ≠ "java/lang/invoke/MethodHandle" ∧ yJ4_charAt_5068e.cls ≠ "java/lang/invoke/VarHandle" ∧ (parseMethodDescriptor yJ4_charAt_5068e.desc).map (fun d => d.parameters.length) = some 1 := ⟨rfl, hnJ4_charAt_5068e⟩
theorem hnJ4_length_8abf5 : yJ4_length_8abf5.cls ≠ "java/lang/invoke/MethodHandle" ∧ yJ4_length_8abf5.cls ≠ "java/lang/invoke/VarHandle" ∧ (parseMethodDescriptor yJ4_length_8abf5.desc).map (fun d => d.parameters.length) = some 0 := by decide +kernel
theorem hdJ4_length_8abf5 : yJ4_length_8abf5.cls = RJ4 ∧ yJ4_length_8abf5.cls ≠ "java/lang/invoke/MethodHandle" ∧ yJ4_length_8abf5.cls ≠ "java/lang/invoke/VarHandle" ∧ (parseMethodDescriptor yJ4_length_8abf5.desc).map (fun d => d.parameters.length) = some 0 := ⟨rfl, hnJ4_length_8abf5⟩
theorem hnJ1_charAt_3b067 : yJ1_charAt_3b067.cls ≠ "java/lang/invoke/MethodHandle" ∧ yJ1_charAt_3b067.cls ≠ "java/lang/invoke/VarHandle" ∧ (parseMethodDescriptor yJ1_charAt_3b067.desc).map (fun d => d.parameters.length) = some 2 := by decide +kernel
theorem hnJ1_canEncode_fc78d : yJ1_canEncode_fc78d.cls ≠ "java/lang/invoke/MethodHandle" ∧ yJ1_canEncode_fc78d.cls ≠ "java/lang/invoke/VarHandle" ∧ (parseMethodDescriptor yJ1_canEncode_fc78d.desc).map (fun d => d.parameters.length) = some 1 := by decide +kernel
theorem hnJ7_copyOf_9075b : yJ7_copyOf_9075b.cls ≠ "java/lang/invoke/MethodHandle" ∧ yJ7_copyOf_9075b.cls ≠ "java/lang/invoke/VarHandle" ∧ (parseMethodDescriptor yJ7_copyOf_9075b.desc).map (fun d => d.parameters.length) = some 2 := by decide +kernel
theorem hnJ8_newLength_cabcc : yJ8_newLength_cabcc.cls ≠ "java/lang/invoke/MethodHandle" ∧ yJ8_newLength_cabcc.cls ≠ "java/lang/invoke/VarHandle" ∧ (parseMethodDescriptor yJ8_newLength_cabcc.desc).map (fun d => d.parameters.length) = some 3 := by decide +kernel
theorem hnJ3_checkIndex_8e157 : yJ3_checkIndex_8e157.cls ≠ "java/lang/invoke/MethodHandle" ∧ yJ3_checkIndex_8e157.cls ≠ "java/lang/invoke/VarHandle" ∧ (parseMethodDescriptor yJ3_checkIndex_8e157.desc).map (fun d => d.parameters.length) = some 3 := by decide +kernel
