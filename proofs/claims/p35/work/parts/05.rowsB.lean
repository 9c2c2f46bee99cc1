theorem dX2_tryKeepApart_49 : decode cX2_tryKeepApart 49 = .ok (.getfield 27, 3) := by decide +kernel
theorem dX2_tryKeepApart_52 : decode cX2_tryKeepApart 52 = .ok (.iload_n 2, 1) := by decide +kernel
theorem dX2_tryKeepApart_53 : decode cX2_tryKeepApart 53 = .ok (.iaload, 1) := by decide +kernel
theorem dX2_tryKeepApart_54 : decode cX2_tryKeepApart 54 = .ok (.iload_n 1, 1) := by decide +kernel
theorem dX2_tryKeepApart_55 : decode cX2_tryKeepApart 55 = .ok (.iload_n 3, 1) := by decide +kernel
theorem dX2_tryKeepApart_56 : decode cX2_tryKeepApart 56 = .ok (.invokestatic 122, 3) := by decide +kernel
theorem dX2_tryKeepApart_59 : decode cX2_tryKeepApart 59 = .ok (.iastore, 1) := by decide +kernel
theorem dX2_tryKeepApart_60 : decode cX2_tryKeepApart 60 = .ok (.aload_n 0, 1) := by decide +kernel
theorem dX2_tryKeepApart_61 : decode cX2_tryKeepApart 61 = .ok (.getfield 27, 3) := by decide +kernel
theorem dX2_tryKeepApart_64 : decode cX2_tryKeepApart 64 = .ok (.iload_n 1, 1) := by decide +kernel
theorem dX2_tryKeepApart_65 : decode cX2_tryKeepApart 65 = .ok (.iaload, 1) := by decide +kernel
theorem dX2_tryKeepApart_66 : decode cX2_tryKeepApart 66 = .ok (.ireturn, 1) := by decide +kernel
set_option maxRecDepth 20000 in
theorem ggX2_tryBook_X2_hasPair : GoodIn wsX2_tryBook wsX2_hasPair := goodIn_r _ [6, 7, 8, 9, 5, 10, 11, 12, 13, 14, 77, 78, 79, 80, 81, 82, 83, 84, 85, 86, 87, 88, 89, 90, 91] (by decide +kernel) (by decide +kernel)
set_option maxRecDepth 20000 in
theorem gX2_tryBook_X2_hasPair : GoodIn wsX2_tryBook (wsV RX2 171 RX2 yX2_hasPair wsX2_hasPair) := goodIn_app (goodIn_of _ (by decide +kernel)) ggX2_tryBook_X2_hasPair
set_option maxRecDepth 20000 in
theorem ggX2_tryBook_X2_isTime : GoodIn wsX2_tryBook wsX2_isTime := goodIn_r _ [18, 19, 77, 78, 79, 80, 81, 82, 83, 84, 85, 86, 87, 88, 89, 90, 91] (by decide +kernel) (by decide +kernel)
set_option maxRecDepth 20000 in
theorem gX2_tryBook_X2_isTime : GoodIn wsX2_tryBook (wsV RX2 174 RX2 yX2_isTime wsX2_isTime) := goodIn_app (goodIn_of _ (by decide +kernel)) ggX2_tryBook_X2_isTime
set_option maxRecDepth 20000 in
theorem ggX2_tryBook_X2_reasonAgainst : GoodIn wsX2_tryBook wsX2_reasonAgainst := goodIn_r _ [23, 24, 25, 26, 5, 27, 28, 29, 30, 19, 31, 1, 32, 7, 8, 9, 10, 11, 12, 13, 14, 33, 34, 35, 36, 37, 38, 39, 40, 41, 42, 43, 44, 45, 46, 47, 48, 49, 50, 51, 52, 53, 54, 55, 56, 57, 58, 59, 77, 78, 79, 80, 81, 82, 83, 84, 85, 86, 87, 88, 89, 90, 91, 92, 93] (by decide +kernel) (by decide +kernel)
set_option maxRecDepth 20000 in
theorem gX2_tryBook_X2_reasonAgainst : GoodIn wsX2_tryBook (wsV RX2 177 RX2 yX2_reasonAgainst wsX2_reasonAgainst) := goodIn_app (goodIn_of _ (by decide +kernel)) ggX2_tryBook_X2_reasonAgainst
set_option maxRecDepth 20000 in
theorem ggX2_tryBook_X0_add : GoodIn wsX2_tryBook wsX0_add := goodIn_r _ [63, 44, 45, 64, 65, 66, 67, 68, 53, 54, 42, 55, 33, 34, 35, 69, 70, 71, 72, 73, 74, 75, 76, 92, 93] (by decide +kernel) (by decide +kernel)
set_option maxRecDepth 20000 in
theorem gX2_tryBook_X0_add : GoodIn wsX2_tryBook (wsV RX2 180 RX0 yX0_add wsX0_add) := goodIn_app (goodIn_of _ (by decide +kernel)) ggX2_tryBook_X0_add
theorem dX2_tryBook_0 : decode cX2_tryBook 0 = .ok (.aload_n 0, 1) := by decide +kernel
theorem dX2_tryBook_1 : decode cX2_tryBook 1 = .ok (.iload_n 1, 1) := by decide +kernel
theorem dX2_tryBook_2 : decode cX2_tryBook 2 = .ok (.iload_n 2, 1) := by decide +kernel
theorem dX2_tryBook_3 : decode cX2_tryBook 3 = .ok (.invokevirtual 171, 3) := by decide +kernel
theorem dX2_tryBook_6 : decode cX2_tryBook 6 = .ok (.ifCond .ne 5, 3) := by decide +kernel
theorem dX2_tryBook_9 : decode cX2_tryBook 9 = .ok (.iconst (-1), 1) := by decide +kernel
theorem dX2_tryBook_10 : decode cX2_tryBook 10 = .ok (.ireturn, 1) := by decide +kernel
theorem dX2_tryBook_11 : decode cX2_tryBook 11 = .ok (.aload_n 0, 1) := by decide +kernel
theorem dX2_tryBook_12 : decode cX2_tryBook 12 = .ok (.iload_n 3, 1) := by decide +kernel
theorem dX2_tryBook_13 : decode cX2_tryBook 13 = .ok (.iload 4, 2) := by decide +kernel
theorem dX2_tryBook_15 : decode cX2_tryBook 15 = .ok (.invokevirtual 174, 3) := by decide +kernel
theorem dX2_tryBook_18 : decode cX2_tryBook 18 = .ok (.ifCond .ne 6, 3) := by decide +kernel
theorem dX2_tryBook_21 : decode cX2_tryBook 21 = .ok (.bipush (-2), 2) := by decide +kernel
theorem dX2_tryBook_23 : decode cX2_tryBook 23 = .ok (.ireturn, 1) := by decide +kernel
theorem dX2_tryBook_24 : decode cX2_tryBook 24 = .ok (.aload_n 0, 1) := by decide +kernel
theorem dX2_tryBook_25 : decode cX2_tryBook 25 = .ok (.iload_n 1, 1) := by decide +kernel
theorem dX2_tryBook_26 : decode cX2_tryBook 26 = .ok (.iload_n 2, 1) := by decide +kernel
theorem dX2_tryBook_27 : decode cX2_tryBook 27 = .ok (.iload_n 3, 1) := by decide +kernel
theorem dX2_tryBook_28 : decode cX2_tryBook 28 = .ok (.iload 4, 2) := by decide +kernel
theorem dX2_tryBook_30 : decode cX2_tryBook 30 = .ok (.invokevirtual 177, 3) := by decide +kernel
theorem dX2_tryBook_33 : decode cX2_tryBook 33 = .ok (.ifCond .eq 6, 3) := by decide +kernel
theorem dX2_tryBook_36 : decode cX2_tryBook 36 = .ok (.bipush (-3), 2) := by decide +kernel
theorem dX2_tryBook_38 : decode cX2_tryBook 38 = .ok (.ireturn, 1) := by decide +kernel
theorem dX2_tryBook_39 : decode cX2_tryBook 39 = .ok (.aload_n 0, 1) := by decide +kernel
theorem dX2_tryBook_40 : decode cX2_tryBook 40 = .ok (.getfield 39, 3) := by decide +kernel
theorem dX2_tryBook_43 : decode cX2_tryBook 43 = .ok (.iload_n 1, 1) := by decide +kernel
theorem dX2_tryBook_44 : decode cX2_tryBook 44 = .ok (.iload_n 2, 1) := by decide +kernel
theorem dX2_tryBook_45 : decode cX2_tryBook 45 = .ok (.iload_n 3, 1) := by decide +kernel
theorem dX2_tryBook_46 : decode cX2_tryBook 46 = .ok (.iload 4, 2) := by decide +kernel
theorem dX2_tryBook_48 : decode cX2_tryBook 48 = .ok (.invokevirtual 180, 3) := by decide +kernel
theorem dX2_tryBook_51 : decode cX2_tryBook 51 = .ok (.ireturn, 1) := by decide +kernel
set_option maxRecDepth 20000 in
theorem ggX2_tryCancel_X0_has : GoodIn wsX2_tryCancel wsX0_has := goodIn_r _ [7, 8, 34, 35] (by decide +kernel) (by decide +kernel)
set_option maxRecDepth 20000 in
theorem gX2_tryCancel_X0_has : GoodIn wsX2_tryCancel (wsV RX2 183 RX0 yX0_has wsX0_has) := goodIn_app (goodIn_of _ (by decide +kernel)) ggX2_tryCancel_X0_has
set_option maxRecDepth 20000 in
theorem ggX2_tryCancel_X0_remove : GoodIn wsX2_tryCancel wsX0_remove := goodIn_r _ [12, 8, 13, 14, 15, 16, 17, 18, 4, 5, 6, 7, 34, 35] (by decide +kernel) (by decide +kernel)
set_option maxRecDepth 20000 in
theorem gX2_tryCancel_X0_remove : GoodIn wsX2_tryCancel (wsV RX2 186 RX0 yX0_remove wsX0_remove) := goodIn_app (goodIn_of _ (by decide +kernel)) ggX2_tryCancel_X0_remove
theorem dX2_tryCancel_0 : decode cX2_tryCancel 0 = .ok (.aload_n 0, 1) := by decide +kernel
theorem dX2_tryCancel_1 : decode cX2_tryCancel 1 = .ok (.getfield 39, 3) := by decide +kernel
theorem dX2_tryCancel_4 : decode cX2_tryCancel 4 = .ok (.iload_n 1, 1) := by decide +kernel
theorem dX2_tryCancel_5 : decode cX2_tryCancel 5 = .ok (.invokevirtual 183, 3) := by decide +kernel
theorem dX2_tryCancel_8 : decode cX2_tryCancel 8 = .ok (.ifCond .ne 5, 3) := by decide +kernel
theorem dX2_tryCancel_11 : decode cX2_tryCancel 11 = .ok (.iconst (-1), 1) := by decide +kernel
theorem dX2_tryCancel_12 : decode cX2_tryCancel 12 = .ok (.ireturn, 1) := by decide +kernel
theorem dX2_tryCancel_13 : decode cX2_tryCancel 13 = .ok (.aload_n 0, 1) := by decide +kernel
theorem dX2_tryCancel_14 : decode cX2_tryCancel 14 = .ok (.getfield 39, 3) := by decide +kernel
theorem dX2_tryCancel_17 : decode cX2_tryCancel 17 = .ok (.iload_n 1, 1) := by decide +kernel
theorem dX2_tryCancel_18 : decode cX2_tryCancel 18 = .ok (.invokevirtual 186, 3) := by decide +kernel
theorem dX2_tryCancel_21 : decode cX2_tryCancel 21 = .ok (.aload_n 0, 1) := by decide +kernel
theorem dX2_tryCancel_22 : decode cX2_tryCancel 22 = .ok (.getfield 39, 3) := by decide +kernel
theorem dX2_tryCancel_25 : decode cX2_tryCancel 25 = .ok (.getfield 94, 3) := by decide +kernel
theorem dX2_tryCancel_28 : decode cX2_tryCancel 28 = .ok (.ireturn, 1) := by decide +kernel
set_option maxRecDepth 20000 in
theorem ggX2_tryLate_X0_has : GoodIn wsX2_tryLate wsX0_has := goodIn_r _ [6, 7, 36, 37] (by decide +kernel) (by decide +kernel)
set_option maxRecDepth 20000 in
theorem gX2_tryLate_X0_has : GoodIn wsX2_tryLate (wsV RX2 183 RX0 yX0_has wsX0_has) := goodIn_app (goodIn_of _ (by decide +kernel)) ggX2_tryLate_X0_has
set_option maxRecDepth 20000 in
theorem ggX2_tryLate_X7_isBetween : GoodIn wsX2_tryLate wsX7_isBetween := goodIn_r _ [10] (by decide +kernel) (by decide +kernel)
set_option maxRecDepth 20000 in
theorem gX2_tryLate_X7_isBetween_n167 : GoodIn wsX2_tryLate (wsX7_isBetween) := ggX2_tryLate_X7_isBetween
set_option maxRecDepth 20000 in
theorem ggX2_tryLate_X0_at : GoodIn wsX2_tryLate wsX0_at := goodIn_r _ [14, 15, 16, 3, 4, 5, 6, 7, 36, 37] (by decide +kernel) (by decide +kernel)
set_option maxRecDepth 20000 in
theorem gX2_tryLate_X0_at : GoodIn wsX2_tryLate (wsV RX2 129 RX0 yX0_at wsX0_at) := goodIn_app (goodIn_of _ (by decide +kernel)) ggX2_tryLate_X0_at
set_option maxRecDepth 20000 in
theorem ggX2_tryLate_X0_putMinutes : GoodIn wsX2_tryLate wsX0_putMinutes := goodIn_r _ [20, 15, 16, 3, 4, 5, 6, 7, 36, 37] (by decide +kernel) (by decide +kernel)
set_option maxRecDepth 20000 in
theorem gX2_tryLate_X0_putMinutes : GoodIn wsX2_tryLate (wsV RX2 190 RX0 yX0_putMinutes wsX0_putMinutes) := goodIn_app (goodIn_of _ (by decide +kernel)) ggX2_tryLate_X0_putMinutes
theorem dX2_tryLate_0 : decode cX2_tryLate 0 = .ok (.aload_n 0, 1) := by decide +kernel
theorem dX2_tryLate_1 : decode cX2_tryLate 1 = .ok (.getfield 39, 3) := by decide +kernel
theorem dX2_tryLate_4 : decode cX2_tryLate 4 = .ok (.iload_n 1, 1) := by decide +kernel
theorem dX2_tryLate_5 : decode cX2_tryLate 5 = .ok (.invokevirtual 183, 3) := by decide +kernel
theorem dX2_tryLate_8 : decode cX2_tryLate 8 = .ok (.ifCond .ne 5, 3) := by decide +kernel
theorem dX2_tryLate_11 : decode cX2_tryLate 11 = .ok (.iconst (-1), 1) := by decide +kernel
theorem dX2_tryLate_12 : decode cX2_tryLate 12 = .ok (.ireturn, 1) := by decide +kernel
theorem dX2_tryLate_13 : decode cX2_tryLate 13 = .ok (.iload_n 2, 1) := by decide +kernel
theorem dX2_tryLate_14 : decode cX2_tryLate 14 = .ok (.iconst 0, 1) := by decide +kernel
theorem dX2_tryLate_15 : decode cX2_tryLate 15 = .ok (.bipush 59, 2) := by decide +kernel
theorem dX2_tryLate_17 : decode cX2_tryLate 17 = .ok (.invokestatic 167, 3) := by decide +kernel
theorem dX2_tryLate_20 : decode cX2_tryLate 20 = .ok (.ifCond .ne 6, 3) := by decide +kernel
theorem dX2_tryLate_23 : decode cX2_tryLate 23 = .ok (.bipush (-2), 2) := by decide +kernel
theorem dX2_tryLate_25 : decode cX2_tryLate 25 = .ok (.ireturn, 1) := by decide +kernel
theorem dX2_tryLate_26 : decode cX2_tryLate 26 = .ok (.aload_n 0, 1) := by decide +kernel
theorem dX2_tryLate_27 : decode cX2_tryLate 27 = .ok (.getfield 39, 3) := by decide +kernel
theorem dX2_tryLate_30 : decode cX2_tryLate 30 = .ok (.iload_n 1, 1) := by decide +kernel
theorem dX2_tryLate_31 : decode cX2_tryLate 31 = .ok (.iconst 5, 1) := by decide +kernel
theorem dX2_tryLate_32 : decode cX2_tryLate 32 = .ok (.invokevirtual 129, 3) := by decide +kernel
theorem dX2_tryLate_35 : decode cX2_tryLate 35 = .ok (.istore_n 3, 1) := by decide +kernel
theorem dX2_tryLate_36 : decode cX2_tryLate 36 = .ok (.aload_n 0, 1) := by decide +kernel
theorem dX2_tryLate_37 : decode cX2_tryLate 37 = .ok (.getfield 39, 3) := by decide +kernel
theorem dX2_tryLate_40 : decode cX2_tryLate 40 = .ok (.iload_n 1, 1) := by decide +kernel
theorem dX2_tryLate_41 : decode cX2_tryLate 41 = .ok (.iload_n 2, 1) := by decide +kernel
theorem dX2_tryLate_42 : decode cX2_tryLate 42 = .ok (.invokevirtual 190, 3) := by decide +kernel
theorem dX2_tryLate_45 : decode cX2_tryLate 45 = .ok (.iload_n 3, 1) := by decide +kernel
theorem dX2_tryLate_46 : decode cX2_tryLate 46 = .ok (.ireturn, 1) := by decide +kernel
set_option maxRecDepth 20000 in
theorem ggX2_tryCarry_X2_hasVisitor : GoodIn wsX2_tryCarry wsX2_hasVisitor := goodIn_r _ [5] (by decide +kernel) (by decide +kernel)
set_option maxRecDepth 20000 in
theorem gX2_tryCarry_X2_hasVisitor : GoodIn wsX2_tryCarry (va_wsS RX2 91 yX2_hasVisitor wsX2_hasVisitor) := goodIn_app (goodIn_of _ (by decide +kernel)) ggX2_tryCarry_X2_hasVisitor
set_option maxRecDepth 20000 in
theorem ggX2_tryCarry_X7_withBit : GoodIn wsX2_tryCarry wsX7_withBit := goodIn_r _ [8] (by decide +kernel) (by decide +kernel)
set_option maxRecDepth 20000 in
theorem gX2_tryCarry_X7_withBit_n122 : GoodIn wsX2_tryCarry (wsX7_withBit) := ggX2_tryCarry_X7_withBit
theorem dX2_tryCarry_0 : decode cX2_tryCarry 0 = .ok (.iload_n 1, 1) := by decide +kernel
theorem dX2_tryCarry_1 : decode cX2_tryCarry 1 = .ok (.invokestatic 91, 3) := by decide +kernel
theorem dX2_tryCarry_4 : decode cX2_tryCarry 4 = .ok (.ifCond .ne 5, 3) := by decide +kernel
theorem dX2_tryCarry_7 : decode cX2_tryCarry 7 = .ok (.iconst (-1), 1) := by decide +kernel
theorem dX2_tryCarry_8 : decode cX2_tryCarry 8 = .ok (.ireturn, 1) := by decide +kernel
theorem dX2_tryCarry_9 : decode cX2_tryCarry 9 = .ok (.aload_n 0, 1) := by decide +kernel
theorem dX2_tryCarry_10 : decode cX2_tryCarry 10 = .ok (.aload_n 0, 1) := by decide +kernel
theorem dX2_tryCarry_11 : decode cX2_tryCarry 11 = .ok (.getfield 77, 3) := by decide +kernel
theorem dX2_tryCarry_14 : decode cX2_tryCarry 14 = .ok (.iload_n 1, 1) := by decide +kernel
theorem dX2_tryCarry_15 : decode cX2_tryCarry 15 = .ok (.iload_n 2, 1) := by decide +kernel
theorem dX2_tryCarry_16 : decode cX2_tryCarry 16 = .ok (.invokestatic 122, 3) := by decide +kernel
theorem dX2_tryCarry_19 : decode cX2_tryCarry 19 = .ok (.putfield 77, 3) := by decide +kernel
theorem dX2_tryCarry_22 : decode cX2_tryCarry 22 = .ok (.aload_n 0, 1) := by decide +kernel
theorem dX2_tryCarry_23 : decode cX2_tryCarry 23 = .ok (.getfield 77, 3) := by decide +kernel
theorem dX2_tryCarry_26 : decode cX2_tryCarry 26 = .ok (.ireturn, 1) := by decide +kernel
set_option maxRecDepth 20000 in
theorem ggX2_tryPunish_X2_hasPrisoner : GoodIn wsX2_tryPunish wsX2_hasPrisoner := goodIn_r _ [7, 8, 12, 13, 14, 15, 16, 17, 18, 19, 20, 21, 22, 23, 24, 25, 26] (by decide +kernel) (by decide +kernel)
set_option maxRecDepth 20000 in
theorem gX2_tryPunish_X2_hasPrisoner : GoodIn wsX2_tryPunish (wsV RX2 87 RX2 yX2_hasPrisoner wsX2_hasPrisoner) := goodIn_app (goodIn_of _ (by decide +kernel)) ggX2_tryPunish_X2_hasPrisoner
set_option maxRecDepth 20000 in
theorem ggX2_tryPunish_X7_isBetween : GoodIn wsX2_tryPunish wsX7_isBetween := goodIn_r _ [11] (by decide +kernel) (by decide +kernel)
set_option maxRecDepth 20000 in
theorem gX2_tryPunish_X7_isBetween_n167 : GoodIn wsX2_tryPunish (wsX7_isBetween) := ggX2_tryPunish_X7_isBetween
theorem dX2_tryPunish_0 : decode cX2_tryPunish 0 = .ok (.aload_n 0, 1) := by decide +kernel
theorem dX2_tryPunish_1 : decode cX2_tryPunish 1 = .ok (.iload_n 1, 1) := by decide +kernel
theorem dX2_tryPunish_2 : decode cX2_tryPunish 2 = .ok (.invokevirtual 87, 3) := by decide +kernel
theorem dX2_tryPunish_5 : decode cX2_tryPunish 5 = .ok (.ifCond .ne 5, 3) := by decide +kernel
theorem dX2_tryPunish_8 : decode cX2_tryPunish 8 = .ok (.iconst (-1), 1) := by decide +kernel
theorem dX2_tryPunish_9 : decode cX2_tryPunish 9 = .ok (.ireturn, 1) := by decide +kernel
theorem dX2_tryPunish_10 : decode cX2_tryPunish 10 = .ok (.iload_n 2, 1) := by decide +kernel
theorem dX2_tryPunish_11 : decode cX2_tryPunish 11 = .ok (.iconst 0, 1) := by decide +kernel
theorem dX2_tryPunish_12 : decode cX2_tryPunish 12 = .ok (.bipush 99, 2) := by decide +kernel
theorem dX2_tryPunish_14 : decode cX2_tryPunish 14 = .ok (.invokestatic 167, 3) := by decide +kernel
theorem dX2_tryPunish_17 : decode cX2_tryPunish 17 = .ok (.ifCond .ne 6, 3) := by decide +kernel
theorem dX2_tryPunish_20 : decode cX2_tryPunish 20 = .ok (.bipush (-2), 2) := by decide +kernel
theorem dX2_tryPunish_22 : decode cX2_tryPunish 22 = .ok (.ireturn, 1) := by decide +kernel
theorem dX2_tryPunish_23 : decode cX2_tryPunish 23 = .ok (.aload_n 0, 1) := by decide +kernel
theorem dX2_tryPunish_24 : decode cX2_tryPunish 24 = .ok (.getfield 18, 3) := by decide +kernel
theorem dX2_tryPunish_27 : decode cX2_tryPunish 27 = .ok (.iload_n 1, 1) := by decide +kernel
theorem dX2_tryPunish_28 : decode cX2_tryPunish 28 = .ok (.iaload, 1) := by decide +kernel
theorem dX2_tryPunish_29 : decode cX2_tryPunish 29 = .ok (.istore_n 3, 1) := by decide +kernel
theorem dX2_tryPunish_30 : decode cX2_tryPunish 30 = .ok (.aload_n 0, 1) := by decide +kernel
theorem dX2_tryPunish_31 : decode cX2_tryPunish 31 = .ok (.getfield 18, 3) := by decide +kernel
theorem dX2_tryPunish_34 : decode cX2_tryPunish 34 = .ok (.iload_n 1, 1) := by decide +kernel
theorem dX2_tryPunish_35 : decode cX2_tryPunish 35 = .ok (.aload_n 0, 1) := by decide +kernel
theorem dX2_tryPunish_36 : decode cX2_tryPunish 36 = .ok (.getfield 64, 3) := by decide +kernel
theorem dX2_tryPunish_39 : decode cX2_tryPunish 39 = .ok (.iload_n 2, 1) := by decide +kernel
theorem dX2_tryPunish_40 : decode cX2_tryPunish 40 = .ok (.iadd, 1) := by decide +kernel
theorem dX2_tryPunish_41 : decode cX2_tryPunish 41 = .ok (.iastore, 1) := by decide +kernel
theorem dX2_tryPunish_42 : decode cX2_tryPunish 42 = .ok (.iload_n 3, 1) := by decide +kernel
theorem dX2_tryPunish_43 : decode cX2_tryPunish 43 = .ok (.ireturn, 1) := by decide +kernel
set_option maxRecDepth 20000 in
theorem ggX2_tryWish_X2_hasPair : GoodIn wsX2_tryWish wsX2_hasPair := goodIn_r _ [8, 9, 10, 11, 7, 12, 13, 14, 15, 16, 31, 32, 33, 34, 35, 36, 37, 38, 39, 40, 41, 42, 43, 44, 45] (by decide +kernel) (by decide +kernel)
set_option maxRecDepth 20000 in
theorem gX2_tryWish_X2_hasPair : GoodIn wsX2_tryWish (wsV RX2 171 RX2 yX2_hasPair wsX2_hasPair) := goodIn_app (goodIn_of _ (by decide +kernel)) ggX2_tryWish_X2_hasPair
set_option maxRecDepth 20000 in
theorem ggX2_tryWish_X7_hasBit : GoodIn wsX2_tryWish wsX7_hasBit := goodIn_r _ [19] (by decide +kernel) (by decide +kernel)
set_option maxRecDepth 20000 in
theorem gX2_tryWish_X7_hasBit_n115 : GoodIn wsX2_tryWish (wsX7_hasBit) := ggX2_tryWish_X7_hasBit
set_option maxRecDepth 20000 in
theorem ggX2_tryWish_X6_isFull : GoodIn wsX2_tryWish wsX6_isFull := goodIn_r _ [24, 25, 46, 47] (by decide +kernel) (by decide +kernel)
set_option maxRecDepth 20000 in
theorem gX2_tryWish_X6_isFull : GoodIn wsX2_tryWish (wsV RX2 194 RX6 yX6_isFull wsX6_isFull) := goodIn_app (goodIn_of _ (by decide +kernel)) ggX2_tryWish_X6_isFull
set_option maxRecDepth 20000 in
theorem ggX2_tryWish_X6_add : GoodIn wsX2_tryWish wsX6_add := goodIn_r _ [29, 25, 30, 46, 47] (by decide +kernel) (by decide +kernel)
set_option maxRecDepth 20000 in
theorem gX2_tryWish_X6_add : GoodIn wsX2_tryWish (wsV RX2 195 RX6 yX6_add wsX6_add) := goodIn_app (goodIn_of _ (by decide +kernel)) ggX2_tryWish_X6_add
theorem dX2_tryWish_0 : decode cX2_tryWish 0 = .ok (.aload_n 0, 1) := by decide +kernel
theorem dX2_tryWish_1 : decode cX2_tryWish 1 = .ok (.iload_n 1, 1) := by decide +kernel
theorem dX2_tryWish_2 : decode cX2_tryWish 2 = .ok (.iload_n 2, 1) := by decide +kernel
theorem dX2_tryWish_3 : decode cX2_tryWish 3 = .ok (.invokevirtual 171, 3) := by decide +kernel
theorem dX2_tryWish_6 : decode cX2_tryWish 6 = .ok (.ifCond .ne 5, 3) := by decide +kernel
theorem dX2_tryWish_9 : decode cX2_tryWish 9 = .ok (.iconst (-1), 1) := by decide +kernel
theorem dX2_tryWish_10 : decode cX2_tryWish 10 = .ok (.ireturn, 1) := by decide +kernel
theorem dX2_tryWish_11 : decode cX2_tryWish 11 = .ok (.aload_n 0, 1) := by decide +kernel
theorem dX2_tryWish_12 : decode cX2_tryWish 12 = .ok (.getfield 15, 3) := by decide +kernel
theorem dX2_tryWish_15 : decode cX2_tryWish 15 = .ok (.iload_n 1, 1) := by decide +kernel
theorem dX2_tryWish_16 : decode cX2_tryWish 16 = .ok (.iaload, 1) := by decide +kernel
theorem dX2_tryWish_17 : decode cX2_tryWish 17 = .ok (.iload_n 2, 1) := by decide +kernel
theorem dX2_tryWish_18 : decode cX2_tryWish 18 = .ok (.invokestatic 115, 3) := by decide +kernel
theorem dX2_tryWish_21 : decode cX2_tryWish 21 = .ok (.ifCond .eq 13, 3) := by decide +kernel
theorem dX2_tryWish_24 : decode cX2_tryWish 24 = .ok (.aload_n 0, 1) := by decide +kernel
theorem dX2_tryWish_25 : decode cX2_tryWish 25 = .ok (.getfield 46, 3) := by decide +kernel
theorem dX2_tryWish_28 : decode cX2_tryWish 28 = .ok (.invokevirtual 194, 3) := by decide +kernel
theorem dX2_tryWish_31 : decode cX2_tryWish 31 = .ok (.ifCond .eq 6, 3) := by decide +kernel
theorem dX2_tryWish_34 : decode cX2_tryWish 34 = .ok (.bipush (-3), 2) := by decide +kernel
theorem dX2_tryWish_36 : decode cX2_tryWish 36 = .ok (.ireturn, 1) := by decide +kernel
theorem dX2_tryWish_37 : decode cX2_tryWish 37 = .ok (.aload_n 0, 1) := by decide +kernel
theorem dX2_tryWish_38 : decode cX2_tryWish 38 = .ok (.getfield 46, 3) := by decide +kernel
theorem dX2_tryWish_41 : decode cX2_tryWish 41 = .ok (.iload_n 1, 1) := by decide +kernel
theorem dX2_tryWish_42 : decode cX2_tryWish 42 = .ok (.iload_n 2, 1) := by decide +kernel
theorem dX2_tryWish_43 : decode cX2_tryWish 43 = .ok (.invokevirtual 195, 3) := by decide +kernel
theorem dX2_tryWish_46 : decode cX2_tryWish 46 = .ok (.aload_n 0, 1) := by decide +kernel
theorem dX2_tryWish_47 : decode cX2_tryWish 47 = .ok (.getfield 46, 3) := by decide +kernel
theorem dX2_tryWish_50 : decode cX2_tryWish 50 = .ok (.getfield 97, 3) := by decide +kernel
theorem dX2_tryWish_53 : decode cX2_tryWish 53 = .ok (.ireturn, 1) := by decide +kernel
set_option maxRecDepth 20000 in
theorem ggX2_trySet_X2_hasSetting : GoodIn wsX2_trySet wsX2_hasSetting := goodIn_r _ [7, 8] (by decide +kernel) (by decide +kernel)
set_option maxRecDepth 20000 in
theorem gX2_trySet_X2_hasSetting : GoodIn wsX2_trySet (va_wsS RX2 197 yX2_hasSetting wsX2_hasSetting) := goodIn_app (goodIn_of _ (by decide +kernel)) ggX2_trySet_X2_hasSetting
set_option maxRecDepth 20000 in
theorem ggX2_trySet_X7_isBetween : GoodIn wsX2_trySet wsX7_isBetween := goodIn_r _ [11] (by decide +kernel) (by decide +kernel)
set_option maxRecDepth 20000 in
theorem gX2_trySet_X7_isBetween_n167 : GoodIn wsX2_trySet (wsX7_isBetween) := ggX2_trySet_X7_isBetween
theorem dX2_trySet_0 : decode cX2_trySet 0 = .ok (.iload_n 1, 1) := by decide +kernel
theorem dX2_trySet_1 : decode cX2_trySet 1 = .ok (.invokestatic 197, 3) := by decide +kernel
theorem dX2_trySet_4 : decode cX2_trySet 4 = .ok (.ifCond .eq 20, 3) := by decide +kernel
theorem dX2_trySet_7 : decode cX2_trySet 7 = .ok (.iload_n 2, 1) := by decide +kernel
theorem dX2_trySet_8 : decode cX2_trySet 8 = .ok (.getstatic 200, 3) := by decide +kernel
theorem dX2_trySet_11 : decode cX2_trySet 11 = .ok (.iload_n 1, 1) := by decide +kernel
theorem dX2_trySet_12 : decode cX2_trySet 12 = .ok (.iaload, 1) := by decide +kernel
theorem dX2_trySet_13 : decode cX2_trySet 13 = .ok (.getstatic 203, 3) := by decide +kernel
theorem dX2_trySet_16 : decode cX2_trySet 16 = .ok (.iload_n 1, 1) := by decide +kernel
theorem dX2_trySet_17 : decode cX2_trySet 17 = .ok (.iaload, 1) := by decide +kernel
theorem dX2_trySet_18 : decode cX2_trySet 18 = .ok (.invokestatic 167, 3) := by decide +kernel
theorem dX2_trySet_21 : decode cX2_trySet 21 = .ok (.ifCond .ne 6, 3) := by decide +kernel
theorem dX2_trySet_24 : decode cX2_trySet 24 = .ok (.bipush (-2), 2) := by decide +kernel
theorem dX2_trySet_26 : decode cX2_trySet 26 = .ok (.ireturn, 1) := by decide +kernel
theorem dX2_trySet_27 : decode cX2_trySet 27 = .ok (.aload_n 0, 1) := by decide +kernel
theorem dX2_trySet_28 : decode cX2_trySet 28 = .ok (.getfield 61, 3) := by decide +kernel
theorem dX2_trySet_31 : decode cX2_trySet 31 = .ok (.iload_n 1, 1) := by decide +kernel
theorem dX2_trySet_32 : decode cX2_trySet 32 = .ok (.iaload, 1) := by decide +kernel
theorem dX2_trySet_33 : decode cX2_trySet 33 = .ok (.istore_n 3, 1) := by decide +kernel
theorem dX2_trySet_34 : decode cX2_trySet 34 = .ok (.aload_n 0, 1) := by decide +kernel
theorem dX2_trySet_35 : decode cX2_trySet 35 = .ok (.getfield 61, 3) := by decide +kernel
theorem dX2_trySet_38 : decode cX2_trySet 38 = .ok (.iload_n 1, 1) := by decide +kernel
theorem dX2_trySet_39 : decode cX2_trySet 39 = .ok (.iload_n 2, 1) := by decide +kernel
theorem dX2_trySet_40 : decode cX2_trySet 40 = .ok (.iastore, 1) := by decide +kernel
theorem dX2_trySet_41 : decode cX2_trySet 41 = .ok (.iload_n 3, 1) := by decide +kernel
theorem dX2_trySet_42 : decode cX2_trySet 42 = .ok (.ireturn, 1) := by decide +kernel
set_option maxRecDepth 20000 in
theorem ggX2_letDaysPass_X2_grantWishes : GoodIn wsX2_letDaysPass wsX2_grantWishes := goodIn_r _ [9, 10, 11, 12, 2, 13, 14, 15, 16, 17, 18, 19, 20, 21, 22, 23, 24, 25, 26, 27, 28, 29, 30, 31, 32, 33, 34, 35, 36, 37, 38, 39, 40, 41, 42, 8, 43, 4, 44, 45, 46, 47, 48, 49, 50, 51, 52, 53, 54, 55, 56, 57, 58, 59, 60, 61, 62, 63, 64, 65, 66, 67, 68, 69, 70, 71, 72, 73, 74, 75, 76, 77, 78, 79, 80, 81, 82, 83, 84, 85, 86, 87, 88, 89, 90, 91, 92, 93, 94, 95, 96, 97, 98, 99, 100, 101, 102, 103, 104, 105, 106, 107, 108, 109, 166, 167, 168, 169, 170, 171, 172, 173, 174, 175, 176, 177, 178, 179, 180, 183, 184, 181, 182] (by decide +kernel) (by decide +kernel)
set_option maxRecDepth 20000 in
theorem gX2_letDaysPass_X2_grantWishes : GoodIn wsX2_letDaysPass (wsV RX2 206 RX2 yX2_grantWishes wsX2_grantWishes) := goodIn_app (goodIn_of _ (by decide +kernel)) ggX2_letDaysPass_X2_grantWishes
set_option maxRecDepth 20000 in
theorem ggX2_letDaysPass_X0_at : GoodIn wsX2_letDaysPass wsX0_at := goodIn_r _ [113, 77, 114, 115, 116, 47, 117, 49, 181, 182] (by decide +kernel) (by decide +kernel)
set_option maxRecDepth 20000 in
theorem gX2_letDaysPass_X0_at : GoodIn wsX2_letDaysPass (wsV RX2 129 RX0 yX0_at wsX0_at) := goodIn_app (goodIn_of _ (by decide +kernel)) ggX2_letDaysPass_X0_at
set_option maxRecDepth 20000 in
theorem ggX2_letDaysPass_X2_lookAtFirst : GoodIn wsX2_letDaysPass wsX2_lookAtFirst := goodIn_r _ [121, 2, 1, 12, 57, 110, 111, 112, 47, 113, 77, 114, 115, 116, 117, 49, 122, 123, 124, 125, 92, 93, 94, 95, 126, 127, 128, 8, 129, 59, 60, 61, 62, 63, 64, 65, 66, 130, 131, 132, 133, 4, 134, 83, 135, 136, 137, 138, 55, 139, 140, 141, 142, 56, 143, 144, 145, 146, 147, 67, 68, 69, 148, 149, 150, 151, 152, 153, 154, 155, 156, 157, 158, 159, 160, 161, 166, 167, 168, 169, 170, 171, 172, 173, 174, 175, 176, 177, 178, 179, 180, 181, 182] (by decide +kernel) (by decide +kernel)
set_option maxRecDepth 20000 in
theorem gX2_letDaysPass_X2_lookAtFirst : GoodIn wsX2_letDaysPass (wsV RX2 209 RX2 yX2_lookAtFirst wsX2_lookAtFirst) := goodIn_app (goodIn_of _ (by decide +kernel)) ggX2_letDaysPass_X2_lookAtFirst
set_option maxRecDepth 20000 in
theorem ggX2_letDaysPass_X2_beginNextDay : GoodIn wsX2_letDaysPass wsX2_beginNextDay := goodIn_r _ [165, 4, 57, 70, 71, 8, 72, 166, 167, 168, 169, 170, 171, 172, 173, 174, 175, 176, 177, 178, 179, 180] (by decide +kernel) (by decide +kernel)
set_option maxRecDepth 20000 in
theorem gX2_letDaysPass_X2_beginNextDay : GoodIn wsX2_letDaysPass (wsV RX2 213 RX2 yX2_beginNextDay wsX2_beginNextDay) := goodIn_app (goodIn_of _ (by decide +kernel)) ggX2_letDaysPass_X2_beginNextDay
theorem dX2_letDaysPass_0 : decode cX2_letDaysPass 0 = .ok (.aload_n 0, 1) := by decide +kernel
theorem dX2_letDaysPass_1 : decode cX2_letDaysPass 1 = .ok (.getfield 50, 3) := by decide +kernel
theorem dX2_letDaysPass_4 : decode cX2_letDaysPass 4 = .ok (.iconst 0, 1) := by decide +kernel
theorem dX2_letDaysPass_5 : decode cX2_letDaysPass 5 = .ok (.iaload, 1) := by decide +kernel
theorem dX2_letDaysPass_6 : decode cX2_letDaysPass 6 = .ok (.istore_n 2, 1) := by decide +kernel
theorem dX2_letDaysPass_7 : decode cX2_letDaysPass 7 = .ok (.iconst 0, 1) := by decide +kernel
theorem dX2_letDaysPass_8 : decode cX2_letDaysPass 8 = .ok (.istore_n 3, 1) := by decide +kernel
theorem dX2_letDaysPass_9 : decode cX2_letDaysPass 9 = .ok (.iload_n 3, 1) := by decide +kernel
theorem dX2_letDaysPass_10 : decode cX2_letDaysPass 10 = .ok (.iload_n 1, 1) := by decide +kernel
theorem dX2_letDaysPass_11 : decode cX2_letDaysPass 11 = .ok (.if_icmp .ge 58, 3) := by decide +kernel
theorem dX2_letDaysPass_14 : decode cX2_letDaysPass 14 = .ok (.aload_n 0, 1) := by decide +kernel
theorem dX2_letDaysPass_15 : decode cX2_letDaysPass 15 = .ok (.invokevirtual 206, 3) := by decide +kernel
theorem dX2_letDaysPass_18 : decode cX2_letDaysPass 18 = .ok (.aload_n 0, 1) := by decide +kernel
theorem dX2_letDaysPass_19 : decode cX2_letDaysPass 19 = .ok (.getfield 39, 3) := by decide +kernel
theorem dX2_letDaysPass_22 : decode cX2_letDaysPass 22 = .ok (.getfield 94, 3) := by decide +kernel
theorem dX2_letDaysPass_25 : decode cX2_letDaysPass 25 = .ok (.istore 4, 2) := by decide +kernel
theorem dX2_letDaysPass_27 : decode cX2_letDaysPass 27 = .ok (.iload 4, 2) := by decide +kernel
theorem dX2_letDaysPass_29 : decode cX2_letDaysPass 29 = .ok (.ifCond .le 30, 3) := by decide +kernel
theorem dX2_letDaysPass_32 : decode cX2_letDaysPass 32 = .ok (.aload_n 0, 1) := by decide +kernel
theorem dX2_letDaysPass_33 : decode cX2_letDaysPass 33 = .ok (.getfield 39, 3) := by decide +kernel
theorem dX2_letDaysPass_36 : decode cX2_letDaysPass 36 = .ok (.iconst 0, 1) := by decide +kernel
theorem dX2_letDaysPass_37 : decode cX2_letDaysPass 37 = .ok (.iconst 0, 1) := by decide +kernel
theorem dX2_letDaysPass_38 : decode cX2_letDaysPass 38 = .ok (.invokevirtual 129, 3) := by decide +kernel
theorem dX2_letDaysPass_41 : decode cX2_letDaysPass 41 = .ok (.aload_n 0, 1) := by decide +kernel
theorem dX2_letDaysPass_42 : decode cX2_letDaysPass 42 = .ok (.getfield 64, 3) := by decide +kernel
theorem dX2_letDaysPass_45 : decode cX2_letDaysPass 45 = .ok (.if_icmp .ne 14, 3) := by decide +kernel
theorem dX2_letDaysPass_48 : decode cX2_letDaysPass 48 = .ok (.aload_n 0, 1) := by decide +kernel
theorem dX2_letDaysPass_49 : decode cX2_letDaysPass 49 = .ok (.invokevirtual 209, 3) := by decide +kernel
theorem dX2_letDaysPass_52 : decode cX2_letDaysPass 52 = .ok (.pop, 1) := by decide +kernel
theorem dX2_letDaysPass_53 : decode cX2_letDaysPass 53 = .ok (.iinc 4 (-1), 3) := by decide +kernel
theorem dX2_letDaysPass_56 : decode cX2_letDaysPass 56 = .ok (.goto (-29), 3) := by decide +kernel
theorem dX2_letDaysPass_59 : decode cX2_letDaysPass 59 = .ok (.aload_n 0, 1) := by decide +kernel
theorem dX2_letDaysPass_60 : decode cX2_letDaysPass 60 = .ok (.invokevirtual 213, 3) := by decide +kernel
theorem dX2_letDaysPass_63 : decode cX2_letDaysPass 63 = .ok (.iinc 3 1, 3) := by decide +kernel
theorem dX2_letDaysPass_66 : decode cX2_letDaysPass 66 = .ok (.goto (-57), 3) := by decide +kernel
theorem dX2_letDaysPass_69 : decode cX2_letDaysPass 69 = .ok (.aload_n 0, 1) := by decide +kernel
theorem dX2_letDaysPass_70 : decode cX2_letDaysPass 70 = .ok (.getfield 50, 3) := by decide +kernel
theorem dX2_letDaysPass_73 : decode cX2_letDaysPass 73 = .ok (.iconst 0, 1) := by decide +kernel
theorem dX2_letDaysPass_74 : decode cX2_letDaysPass 74 = .ok (.iaload, 1) := by decide +kernel
theorem dX2_letDaysPass_75 : decode cX2_letDaysPass 75 = .ok (.iload_n 2, 1) := by decide +kernel
theorem dX2_letDaysPass_76 : decode cX2_letDaysPass 76 = .ok (.isub, 1) := by decide +kernel
theorem dX2_letDaysPass_77 : decode cX2_letDaysPass 77 = .ok (.ireturn, 1) := by decide +kernel
set_option maxRecDepth 20000 in
theorem ggX2_fateOf_X0_at : GoodIn wsX2_fateOf wsX0_at := goodIn_r _ [8, 9, 10, 11, 12, 7, 13, 14, 185, 186] (by decide +kernel) (by decide +kernel)
set_option maxRecDepth 20000 in
theorem gX2_fateOf_X0_at : GoodIn wsX2_fateOf (wsV RX2 129 RX0 yX0_at wsX0_at) := goodIn_app (goodIn_of _ (by decide +kernel)) ggX2_fateOf_X0_at
set_option maxRecDepth 20000 in
theorem ggX2_fateOf_X2_letDaysPass : GoodIn wsX2_fateOf wsX2_letDaysPass := goodIn_r _ [19, 20, 1, 3, 2, 21, 22, 23, 18, 24, 25, 26, 27, 28, 29, 30, 31, 32, 33, 34, 35, 36, 37, 38, 39, 40, 41, 42, 43, 44, 45, 46, 47, 48, 49, 50, 51, 52, 53, 54, 55, 56, 57, 58, 59, 60, 61, 7, 62, 14, 63, 64, 65, 66, 67, 68, 69, 70, 71, 72, 73, 74, 75, 76, 77, 78, 79, 80, 81, 82, 83, 84, 85, 86, 87, 88, 89, 9, 90, 91, 92, 93, 94, 95, 96, 97, 98, 99, 100, 101, 102, 103, 104, 105, 106, 107, 108, 109, 110, 111, 112, 113, 114, 115, 116, 117, 118, 119, 120, 121, 4, 5, 6, 8, 10, 11, 12, 13, 122, 123, 124, 125, 126, 127, 128, 129, 130, 131, 132, 133, 134, 135, 136, 137, 138, 139, 140, 141, 142, 143, 144, 145, 146, 147, 148, 149, 150, 151, 152, 153, 154, 155, 156, 157, 158, 159, 160, 161, 162, 163, 164, 165, 166, 167, 168, 169, 170, 171, 172, 173, 174, 175, 176, 177, 178, 179, 180, 181, 182, 183, 184, 185, 186, 187, 188] (by decide +kernel) (by decide +kernel)
set_option maxRecDepth 20000 in
theorem gX2_fateOf_X2_letDaysPass : GoodIn wsX2_fateOf (wsV RX2 216 RX2 yX2_letDaysPass wsX2_letDaysPass) := goodIn_app (goodIn_of _ (by decide +kernel)) ggX2_fateOf_X2_letDaysPass
set_option maxRecDepth 20000 in
theorem ggX2_fateOf_X2_grantWishes : GoodIn wsX2_fateOf wsX2_grantWishes := goodIn_r _ [24, 25, 26, 27, 1, 28, 29, 30, 31, 32, 33, 34, 35, 36, 37, 38, 39, 40, 41, 42, 43, 44, 45, 46, 47, 48, 49, 50, 51, 52, 53, 54, 55, 56, 57, 18, 58, 2, 59, 60, 61, 7, 62, 14, 63, 64, 65, 66, 67, 68, 69, 70, 71, 72, 73, 74, 75, 76, 77, 78, 79, 80, 81, 82, 83, 84, 85, 86, 87, 88, 89, 9, 90, 91, 92, 93, 94, 95, 96, 97, 98, 99, 100, 101, 102, 103, 104, 105, 106, 107, 108, 109, 110, 111, 112, 113, 114, 115, 116, 117, 118, 119, 120, 121, 170, 171, 172, 173, 174, 175, 176, 177, 178, 179, 180, 181, 182, 183, 184, 187, 188, 185, 186] (by decide +kernel) (by decide +kernel)
set_option maxRecDepth 20000 in
theorem gX2_fateOf_X2_grantWishes : GoodIn wsX2_fateOf (wsV RX2 206 RX2 yX2_grantWishes wsX2_grantWishes) := goodIn_app (goodIn_of _ (by decide +kernel)) ggX2_fateOf_X2_grantWishes
set_option maxRecDepth 20000 in
theorem ggX2_fateOf_X2_lookAtFirst : GoodIn wsX2_fateOf wsX2_lookAtFirst := goodIn_r _ [125, 1, 20, 27, 70, 4, 5, 6, 7, 8, 9, 10, 11, 12, 13, 14, 126, 127, 128, 129, 104, 105, 106, 107, 130, 131, 132, 18, 133, 72, 73, 74, 75, 76, 77, 78, 79, 134, 135, 136, 137, 2, 138, 95, 139, 140, 141, 142, 68, 143, 144, 145, 146, 69, 147, 148, 149, 150, 151, 80, 81, 82, 152, 153, 154, 155, 156, 157, 158, 159, 160, 161, 162, 163, 164, 165, 170, 171, 172, 173, 174, 175, 176, 177, 178, 179, 180, 181, 182, 183, 184, 185, 186] (by decide +kernel) (by decide +kernel)
set_option maxRecDepth 20000 in
theorem gX2_fateOf_X2_lookAtFirst : GoodIn wsX2_fateOf (wsV RX2 209 RX2 yX2_lookAtFirst wsX2_lookAtFirst) := goodIn_app (goodIn_of _ (by decide +kernel)) ggX2_fateOf_X2_lookAtFirst
theorem dX2_fateOf_0 : decode cX2_fateOf 0 = .ok (.aload_n 0, 1) := by decide +kernel
theorem dX2_fateOf_1 : decode cX2_fateOf 1 = .ok (.getfield 39, 3) := by decide +kernel
theorem dX2_fateOf_4 : decode cX2_fateOf 4 = .ok (.iload_n 1, 1) := by decide +kernel
theorem dX2_fateOf_5 : decode cX2_fateOf 5 = .ok (.iconst 0, 1) := by decide +kernel
theorem dX2_fateOf_6 : decode cX2_fateOf 6 = .ok (.invokevirtual 129, 3) := by decide +kernel
theorem dX2_fateOf_9 : decode cX2_fateOf 9 = .ok (.istore_n 2, 1) := by decide +kernel
theorem dX2_fateOf_10 : decode cX2_fateOf 10 = .ok (.aload_n 0, 1) := by decide +kernel
theorem dX2_fateOf_11 : decode cX2_fateOf 11 = .ok (.getfield 39, 3) := by decide +kernel
theorem dX2_fateOf_14 : decode cX2_fateOf 14 = .ok (.iload_n 1, 1) := by decide +kernel
theorem dX2_fateOf_15 : decode cX2_fateOf 15 = .ok (.iconst 1, 1) := by decide +kernel
theorem dX2_fateOf_16 : decode cX2_fateOf 16 = .ok (.invokevirtual 129, 3) := by decide +kernel
theorem dX2_fateOf_19 : decode cX2_fateOf 19 = .ok (.istore_n 3, 1) := by decide +kernel
theorem dX2_fateOf_20 : decode cX2_fateOf 20 = .ok (.aload_n 0, 1) := by decide +kernel
theorem dX2_fateOf_21 : decode cX2_fateOf 21 = .ok (.getfield 39, 3) := by decide +kernel
theorem dX2_fateOf_24 : decode cX2_fateOf 24 = .ok (.iload_n 1, 1) := by decide +kernel
theorem dX2_fateOf_25 : decode cX2_fateOf 25 = .ok (.iconst 2, 1) := by decide +kernel
theorem dX2_fateOf_26 : decode cX2_fateOf 26 = .ok (.invokevirtual 129, 3) := by decide +kernel
theorem dX2_fateOf_29 : decode cX2_fateOf 29 = .ok (.istore 4, 2) := by decide +kernel
theorem dX2_fateOf_31 : decode cX2_fateOf 31 = .ok (.aload_n 0, 1) := by decide +kernel
theorem dX2_fateOf_32 : decode cX2_fateOf 32 = .ok (.iload_n 2, 1) := by decide +kernel
theorem dX2_fateOf_33 : decode cX2_fateOf 33 = .ok (.aload_n 0, 1) := by decide +kernel
theorem dX2_fateOf_34 : decode cX2_fateOf 34 = .ok (.getfield 64, 3) := by decide +kernel
theorem dX2_fateOf_37 : decode cX2_fateOf 37 = .ok (.isub, 1) := by decide +kernel
theorem dX2_fateOf_38 : decode cX2_fateOf 38 = .ok (.invokevirtual 216, 3) := by decide +kernel
theorem dX2_fateOf_41 : decode cX2_fateOf 41 = .ok (.pop, 1) := by decide +kernel
theorem dX2_fateOf_42 : decode cX2_fateOf 42 = .ok (.aload_n 0, 1) := by decide +kernel
theorem dX2_fateOf_43 : decode cX2_fateOf 43 = .ok (.invokevirtual 206, 3) := by decide +kernel
theorem dX2_fateOf_46 : decode cX2_fateOf 46 = .ok (.aload_n 0, 1) := by decide +kernel
theorem dX2_fateOf_47 : decode cX2_fateOf 47 = .ok (.getfield 39, 3) := by decide +kernel
theorem dX2_fateOf_50 : decode cX2_fateOf 50 = .ok (.getfield 94, 3) := by decide +kernel
theorem dX2_fateOf_53 : decode cX2_fateOf 53 = .ok (.istore 5, 2) := by decide +kernel
theorem dX2_fateOf_55 : decode cX2_fateOf 55 = .ok (.iload 5, 2) := by decide +kernel
theorem dX2_fateOf_57 : decode cX2_fateOf 57 = .ok (.ifCond .le 57, 3) := by decide +kernel
theorem dX2_fateOf_60 : decode cX2_fateOf 60 = .ok (.aload_n 0, 1) := by decide +kernel
theorem dX2_fateOf_61 : decode cX2_fateOf 61 = .ok (.getfield 39, 3) := by decide +kernel
theorem dX2_fateOf_64 : decode cX2_fateOf 64 = .ok (.iconst 0, 1) := by decide +kernel
theorem dX2_fateOf_65 : decode cX2_fateOf 65 = .ok (.iconst 1, 1) := by decide +kernel
theorem dX2_fateOf_66 : decode cX2_fateOf 66 = .ok (.invokevirtual 129, 3) := by decide +kernel
theorem dX2_fateOf_69 : decode cX2_fateOf 69 = .ok (.iload_n 3, 1) := by decide +kernel
theorem dX2_fateOf_70 : decode cX2_fateOf 70 = .ok (.if_icmp .ne 21, 3) := by decide +kernel
theorem dX2_fateOf_73 : decode cX2_fateOf 73 = .ok (.aload_n 0, 1) := by decide +kernel
theorem dX2_fateOf_74 : decode cX2_fateOf 74 = .ok (.getfield 39, 3) := by decide +kernel
theorem dX2_fateOf_77 : decode cX2_fateOf 77 = .ok (.iconst 0, 1) := by decide +kernel
theorem dX2_fateOf_78 : decode cX2_fateOf 78 = .ok (.iconst 2, 1) := by decide +kernel
theorem dX2_fateOf_79 : decode cX2_fateOf 79 = .ok (.invokevirtual 129, 3) := by decide +kernel
theorem dX2_fateOf_82 : decode cX2_fateOf 82 = .ok (.iload 4, 2) := by decide +kernel
theorem dX2_fateOf_84 : decode cX2_fateOf 84 = .ok (.if_icmp .ne 7, 3) := by decide +kernel
theorem dX2_fateOf_87 : decode cX2_fateOf 87 = .ok (.iconst 1, 1) := by decide +kernel
theorem dX2_fateOf_88 : decode cX2_fateOf 88 = .ok (.goto 4, 3) := by decide +kernel
theorem dX2_fateOf_91 : decode cX2_fateOf 91 = .ok (.iconst 0, 1) := by decide +kernel
theorem dX2_fateOf_92 : decode cX2_fateOf 92 = .ok (.istore 6, 2) := by decide +kernel
theorem dX2_fateOf_94 : decode cX2_fateOf 94 = .ok (.aload_n 0, 1) := by decide +kernel
theorem dX2_fateOf_95 : decode cX2_fateOf 95 = .ok (.invokevirtual 209, 3) := by decide +kernel
theorem dX2_fateOf_98 : decode cX2_fateOf 98 = .ok (.istore 7, 2) := by decide +kernel
theorem dX2_fateOf_100 : decode cX2_fateOf 100 = .ok (.iload 6, 2) := by decide +kernel
theorem dX2_fateOf_102 : decode cX2_fateOf 102 = .ok (.ifCond .eq 6, 3) := by decide +kernel
theorem dX2_fateOf_105 : decode cX2_fateOf 105 = .ok (.iload 7, 2) := by decide +kernel
theorem dX2_fateOf_107 : decode cX2_fateOf 107 = .ok (.ireturn, 1) := by decide +kernel
theorem dX2_fateOf_108 : decode cX2_fateOf 108 = .ok (.iinc 5 (-1), 3) := by decide +kernel
theorem dX2_fateOf_111 : decode cX2_fateOf 111 = .ok (.goto (-56), 3) := by decide +kernel
theorem dX2_fateOf_114 : decode cX2_fateOf 114 = .ok (.iconst (-1), 1) := by decide +kernel
theorem dX2_fateOf_115 : decode cX2_fateOf 115 = .ok (.ireturn, 1) := by decide +kernel
set_option maxRecDepth 20000 in
theorem ggX2_grantWishes_X6_inTurn : GoodIn wsX2_grantWishes wsX6_inTurn := goodIn_r _ [9, 10, 11, 12, 13, 8, 14, 15, 16, 17, 18, 19, 119, 120] (by decide +kernel) (by decide +kernel)
set_option maxRecDepth 20000 in
theorem gX2_grantWishes_X6_inTurn : GoodIn wsX2_grantWishes (wsV RX2 219 RX6 yX6_inTurn wsX6_inTurn) := goodIn_app (goodIn_of _ (by decide +kernel)) ggX2_grantWishes_X6_inTurn
set_option maxRecDepth 20000 in
theorem ggX2_grantWishes_X6_prisonerOf : GoodIn wsX2_grantWishes wsX6_prisonerOf := goodIn_r _ [23, 24, 25, 26, 8, 27, 10, 19, 119, 120] (by decide +kernel) (by decide +kernel)
set_option maxRecDepth 20000 in
theorem gX2_grantWishes_X6_prisonerOf : GoodIn wsX2_grantWishes (wsV RX2 223 RX6 yX6_prisonerOf wsX6_prisonerOf) := goodIn_app (goodIn_of _ (by decide +kernel)) ggX2_grantWishes_X6_prisonerOf
set_option maxRecDepth 20000 in
theorem ggX2_grantWishes_X6_visitorOf : GoodIn wsX2_grantWishes wsX6_visitorOf := goodIn_r _ [31, 24, 25, 26, 8, 27, 10, 19, 119, 120] (by decide +kernel) (by decide +kernel)
set_option maxRecDepth 20000 in
theorem gX2_grantWishes_X6_visitorOf : GoodIn wsX2_grantWishes (wsV RX2 226 RX6 yX6_visitorOf wsX6_visitorOf) := goodIn_app (goodIn_of _ (by decide +kernel)) ggX2_grantWishes_X6_visitorOf
set_option maxRecDepth 20000 in
theorem ggX2_grantWishes_X2_earliest : GoodIn wsX2_grantWishes wsX2_earliest := goodIn_r _ [36, 4, 37, 38, 39, 40, 41, 42, 43, 44, 45, 46, 35, 47, 48, 49, 50, 51, 52, 53, 54, 55, 56, 57, 58, 59, 60, 61, 62, 63, 64, 65, 66, 67, 68, 69, 70, 71, 72, 73, 74, 75, 76, 77, 78, 79, 80, 81, 104, 105, 106, 107, 108, 109, 110, 111, 112, 113, 114, 115, 116, 117, 118, 121, 122] (by decide +kernel) (by decide +kernel)
set_option maxRecDepth 20000 in
theorem gX2_grantWishes_X2_earliest : GoodIn wsX2_grantWishes (wsV RX2 229 RX2 yX2_earliest wsX2_earliest) := goodIn_app (goodIn_of _ (by decide +kernel)) ggX2_grantWishes_X2_earliest
set_option maxRecDepth 20000 in
theorem ggX2_grantWishes_X0_add : GoodIn wsX2_grantWishes wsX0_add := goodIn_r _ [85, 43, 71, 86, 87, 88, 89, 90, 79, 80, 41, 81, 61, 62, 63, 91, 92, 93, 94, 95, 96, 97, 98, 121, 122] (by decide +kernel) (by decide +kernel)
set_option maxRecDepth 20000 in
theorem gX2_grantWishes_X0_add : GoodIn wsX2_grantWishes (wsV RX2 180 RX0 yX0_add wsX0_add) := goodIn_app (goodIn_of _ (by decide +kernel)) ggX2_grantWishes_X0_add
set_option maxRecDepth 20000 in
theorem ggX2_grantWishes_X6_remove : GoodIn wsX2_grantWishes wsX6_remove := goodIn_r _ [102, 10, 19, 103, 87, 88, 89, 119, 120] (by decide +kernel) (by decide +kernel)
set_option maxRecDepth 20000 in
theorem gX2_grantWishes_X6_remove : GoodIn wsX2_grantWishes (wsV RX2 232 RX6 yX6_remove wsX6_remove) := goodIn_app (goodIn_of _ (by decide +kernel)) ggX2_grantWishes_X6_remove
theorem dX2_grantWishes_0 : decode cX2_grantWishes 0 = .ok (.iconst 0, 1) := by decide +kernel
theorem dX2_grantWishes_1 : decode cX2_grantWishes 1 = .ok (.istore_n 1, 1) := by decide +kernel
theorem dX2_grantWishes_2 : decode cX2_grantWishes 2 = .ok (.aload_n 0, 1) := by decide +kernel
theorem dX2_grantWishes_3 : decode cX2_grantWishes 3 = .ok (.getfield 46, 3) := by decide +kernel
theorem dX2_grantWishes_6 : decode cX2_grantWishes 6 = .ok (.getfield 97, 3) := by decide +kernel
theorem dX2_grantWishes_9 : decode cX2_grantWishes 9 = .ok (.istore_n 2, 1) := by decide +kernel
theorem dX2_grantWishes_10 : decode cX2_grantWishes 10 = .ok (.iload_n 2, 1) := by decide +kernel
theorem dX2_grantWishes_11 : decode cX2_grantWishes 11 = .ok (.ifCond .le 96, 3) := by decide +kernel
theorem dX2_grantWishes_14 : decode cX2_grantWishes 14 = .ok (.aload_n 0, 1) := by decide +kernel
theorem dX2_grantWishes_15 : decode cX2_grantWishes 15 = .ok (.getfield 46, 3) := by decide +kernel
theorem dX2_grantWishes_18 : decode cX2_grantWishes 18 = .ok (.iload_n 1, 1) := by decide +kernel
theorem dX2_grantWishes_19 : decode cX2_grantWishes 19 = .ok (.aload_n 0, 1) := by decide +kernel
theorem dX2_grantWishes_20 : decode cX2_grantWishes 20 = .ok (.getfield 21, 3) := by decide +kernel
theorem dX2_grantWishes_23 : decode cX2_grantWishes 23 = .ok (.invokevirtual 219, 3) := by decide +kernel
theorem dX2_grantWishes_26 : decode cX2_grantWishes 26 = .ok (.istore_n 3, 1) := by decide +kernel
theorem dX2_grantWishes_27 : decode cX2_grantWishes 27 = .ok (.aload_n 0, 1) := by decide +kernel
theorem dX2_grantWishes_28 : decode cX2_grantWishes 28 = .ok (.getfield 46, 3) := by decide +kernel
theorem dX2_grantWishes_31 : decode cX2_grantWishes 31 = .ok (.iload_n 3, 1) := by decide +kernel
theorem dX2_grantWishes_32 : decode cX2_grantWishes 32 = .ok (.invokevirtual 223, 3) := by decide +kernel
theorem dX2_grantWishes_35 : decode cX2_grantWishes 35 = .ok (.istore 4, 2) := by decide +kernel
theorem dX2_grantWishes_37 : decode cX2_grantWishes 37 = .ok (.aload_n 0, 1) := by decide +kernel
theorem dX2_grantWishes_38 : decode cX2_grantWishes 38 = .ok (.getfield 46, 3) := by decide +kernel
theorem dX2_grantWishes_41 : decode cX2_grantWishes 41 = .ok (.iload_n 3, 1) := by decide +kernel
theorem dX2_grantWishes_42 : decode cX2_grantWishes 42 = .ok (.invokevirtual 226, 3) := by decide +kernel
theorem dX2_grantWishes_45 : decode cX2_grantWishes 45 = .ok (.istore 5, 2) := by decide +kernel
theorem dX2_grantWishes_47 : decode cX2_grantWishes 47 = .ok (.aload_n 0, 1) := by decide +kernel
theorem dX2_grantWishes_48 : decode cX2_grantWishes 48 = .ok (.iload 4, 2) := by decide +kernel
theorem dX2_grantWishes_50 : decode cX2_grantWishes 50 = .ok (.iload 5, 2) := by decide +kernel
theorem dX2_grantWishes_52 : decode cX2_grantWishes 52 = .ok (.bipush 7, 2) := by decide +kernel
theorem dX2_grantWishes_54 : decode cX2_grantWishes 54 = .ok (.invokevirtual 229, 3) := by decide +kernel
theorem dX2_grantWishes_57 : decode cX2_grantWishes 57 = .ok (.istore 6, 2) := by decide +kernel
theorem dX2_grantWishes_59 : decode cX2_grantWishes 59 = .ok (.iload 6, 2) := by decide +kernel
theorem dX2_grantWishes_61 : decode cX2_grantWishes 61 = .ok (.iconst (-1), 1) := by decide +kernel
theorem dX2_grantWishes_62 : decode cX2_grantWishes 62 = .ok (.if_icmp .ne 9, 3) := by decide +kernel
theorem dX2_grantWishes_65 : decode cX2_grantWishes 65 = .ok (.iinc 1 1, 3) := by decide +kernel
theorem dX2_grantWishes_68 : decode cX2_grantWishes 68 = .ok (.goto 33, 3) := by decide +kernel
theorem dX2_grantWishes_71 : decode cX2_grantWishes 71 = .ok (.aload_n 0, 1) := by decide +kernel
theorem dX2_grantWishes_72 : decode cX2_grantWishes 72 = .ok (.getfield 39, 3) := by decide +kernel
theorem dX2_grantWishes_75 : decode cX2_grantWishes 75 = .ok (.iload 4, 2) := by decide +kernel
theorem dX2_grantWishes_77 : decode cX2_grantWishes 77 = .ok (.iload 5, 2) := by decide +kernel
theorem dX2_grantWishes_79 : decode cX2_grantWishes 79 = .ok (.iload 6, 2) := by decide +kernel
theorem dX2_grantWishes_81 : decode cX2_grantWishes 81 = .ok (.bipush 8, 2) := by decide +kernel
theorem dX2_grantWishes_83 : decode cX2_grantWishes 83 = .ok (.idiv, 1) := by decide +kernel
theorem dX2_grantWishes_84 : decode cX2_grantWishes 84 = .ok (.iload 6, 2) := by decide +kernel
theorem dX2_grantWishes_86 : decode cX2_grantWishes 86 = .ok (.bipush 8, 2) := by decide +kernel
theorem dX2_grantWishes_88 : decode cX2_grantWishes 88 = .ok (.irem, 1) := by decide +kernel
theorem dX2_grantWishes_89 : decode cX2_grantWishes 89 = .ok (.invokevirtual 180, 3) := by decide +kernel
theorem dX2_grantWishes_92 : decode cX2_grantWishes 92 = .ok (.pop, 1) := by decide +kernel
theorem dX2_grantWishes_93 : decode cX2_grantWishes 93 = .ok (.aload_n 0, 1) := by decide +kernel
theorem dX2_grantWishes_94 : decode cX2_grantWishes 94 = .ok (.getfield 46, 3) := by decide +kernel
theorem dX2_grantWishes_97 : decode cX2_grantWishes 97 = .ok (.iload_n 3, 1) := by decide +kernel
theorem dX2_grantWishes_98 : decode cX2_grantWishes 98 = .ok (.invokevirtual 232, 3) := by decide +kernel
theorem dX2_grantWishes_101 : decode cX2_grantWishes 101 = .ok (.iinc 2 (-1), 3) := by decide +kernel
theorem dX2_grantWishes_104 : decode cX2_grantWishes 104 = .ok (.goto (-94), 3) := by decide +kernel
theorem dX2_grantWishes_107 : decode cX2_grantWishes 107 = .ok (.return_, 1) := by decide +kernel
set_option maxRecDepth 20000 in
theorem ggX2_lookAtFirst_X0_at : GoodIn wsX2_lookAtFirst wsX0_at := goodIn_r _ [9, 10, 11, 12, 13, 8, 14, 15, 91, 92] (by decide +kernel) (by decide +kernel)
set_option maxRecDepth 20000 in
theorem gX2_lookAtFirst_X0_at : GoodIn wsX2_lookAtFirst (wsV RX2 129 RX0 yX0_at wsX0_at) := goodIn_app (goodIn_of _ (by decide +kernel)) ggX2_lookAtFirst_X0_at
set_option maxRecDepth 20000 in
theorem ggX2_lookAtFirst_X0_remove : GoodIn wsX2_lookAtFirst wsX0_remove := goodIn_r _ [19, 15, 10, 20, 21, 22, 23, 11, 12, 13, 8, 14, 91, 92] (by decide +kernel) (by decide +kernel)
set_option maxRecDepth 20000 in
theorem gX2_lookAtFirst_X0_remove : GoodIn wsX2_lookAtFirst (wsV RX2 186 RX0 yX0_remove wsX0_remove) := goodIn_app (goodIn_of _ (by decide +kernel)) ggX2_lookAtFirst_X0_remove
set_option maxRecDepth 20000 in
theorem ggX2_lookAtFirst_X2_hasPair : GoodIn wsX2_lookAtFirst wsX2_hasPair := goodIn_r _ [28, 29, 30, 31, 27, 32, 33, 34, 35, 36, 76, 77, 78, 79, 80, 81, 82, 83, 84, 85, 86, 87, 88, 89, 90] (by decide +kernel) (by decide +kernel)
set_option maxRecDepth 20000 in
theorem gX2_lookAtFirst_X2_hasPair : GoodIn wsX2_lookAtFirst (wsV RX2 171 RX2 yX2_hasPair wsX2_hasPair) := goodIn_app (goodIn_of _ (by decide +kernel)) ggX2_lookAtFirst_X2_hasPair
set_option maxRecDepth 20000 in
theorem ggX2_lookAtFirst_X2_judge : GoodIn wsX2_lookAtFirst wsX2_judge := goodIn_r _ [40, 41, 42, 43, 44, 45, 46, 27, 47, 48, 29, 30, 31, 32, 33, 49, 50, 51, 52, 53, 34, 35, 36, 54, 55, 56, 57, 2, 58, 59, 60, 61, 62, 63, 64, 65, 66, 67, 68, 69, 70, 71, 72, 73, 74, 75, 76, 77, 78, 79, 80, 81, 82, 83, 84, 85, 86, 87, 88, 89, 90] (by decide +kernel) (by decide +kernel)
set_option maxRecDepth 20000 in
theorem gX2_lookAtFirst_X2_judge : GoodIn wsX2_lookAtFirst (wsV RX2 233 RX2 yX2_judge wsX2_judge) := goodIn_app (goodIn_of _ (by decide +kernel)) ggX2_lookAtFirst_X2_judge
theorem dX2_lookAtFirst_0 : decode cX2_lookAtFirst 0 = .ok (.aload_n 0, 1) := by decide +kernel
theorem dX2_lookAtFirst_1 : decode cX2_lookAtFirst 1 = .ok (.getfield 39, 3) := by decide +kernel
theorem dX2_lookAtFirst_4 : decode cX2_lookAtFirst 4 = .ok (.iconst 0, 1) := by decide +kernel
theorem dX2_lookAtFirst_5 : decode cX2_lookAtFirst 5 = .ok (.iconst 3, 1) := by decide +kernel
theorem dX2_lookAtFirst_6 : decode cX2_lookAtFirst 6 = .ok (.invokevirtual 129, 3) := by decide +kernel
theorem dX2_lookAtFirst_9 : decode cX2_lookAtFirst 9 = .ok (.istore_n 1, 1) := by decide +kernel
theorem dX2_lookAtFirst_10 : decode cX2_lookAtFirst 10 = .ok (.aload_n 0, 1) := by decide +kernel
theorem dX2_lookAtFirst_11 : decode cX2_lookAtFirst 11 = .ok (.getfield 39, 3) := by decide +kernel
theorem dX2_lookAtFirst_14 : decode cX2_lookAtFirst 14 = .ok (.iconst 0, 1) := by decide +kernel
theorem dX2_lookAtFirst_15 : decode cX2_lookAtFirst 15 = .ok (.iconst 4, 1) := by decide +kernel
theorem dX2_lookAtFirst_16 : decode cX2_lookAtFirst 16 = .ok (.invokevirtual 129, 3) := by decide +kernel
theorem dX2_lookAtFirst_19 : decode cX2_lookAtFirst 19 = .ok (.istore_n 2, 1) := by decide +kernel
theorem dX2_lookAtFirst_20 : decode cX2_lookAtFirst 20 = .ok (.aload_n 0, 1) := by decide +kernel
theorem dX2_lookAtFirst_21 : decode cX2_lookAtFirst 21 = .ok (.getfield 39, 3) := by decide +kernel
theorem dX2_lookAtFirst_24 : decode cX2_lookAtFirst 24 = .ok (.iconst 0, 1) := by decide +kernel
theorem dX2_lookAtFirst_25 : decode cX2_lookAtFirst 25 = .ok (.iconst 5, 1) := by decide +kernel
theorem dX2_lookAtFirst_26 : decode cX2_lookAtFirst 26 = .ok (.invokevirtual 129, 3) := by decide +kernel
theorem dX2_lookAtFirst_29 : decode cX2_lookAtFirst 29 = .ok (.istore_n 3, 1) := by decide +kernel
theorem dX2_lookAtFirst_30 : decode cX2_lookAtFirst 30 = .ok (.aload_n 0, 1) := by decide +kernel
theorem dX2_lookAtFirst_31 : decode cX2_lookAtFirst 31 = .ok (.getfield 39, 3) := by decide +kernel
theorem dX2_lookAtFirst_34 : decode cX2_lookAtFirst 34 = .ok (.iconst 0, 1) := by decide +kernel
theorem dX2_lookAtFirst_35 : decode cX2_lookAtFirst 35 = .ok (.invokevirtual 186, 3) := by decide +kernel
theorem dX2_lookAtFirst_38 : decode cX2_lookAtFirst 38 = .ok (.aload_n 0, 1) := by decide +kernel
theorem dX2_lookAtFirst_39 : decode cX2_lookAtFirst 39 = .ok (.iload_n 1, 1) := by decide +kernel
theorem dX2_lookAtFirst_40 : decode cX2_lookAtFirst 40 = .ok (.iload_n 2, 1) := by decide +kernel
theorem dX2_lookAtFirst_41 : decode cX2_lookAtFirst 41 = .ok (.invokevirtual 171, 3) := by decide +kernel
theorem dX2_lookAtFirst_44 : decode cX2_lookAtFirst 44 = .ok (.ifCond .ne 5, 3) := by decide +kernel
theorem dX2_lookAtFirst_49 : decode cX2_lookAtFirst 49 = .ok (.aload_n 0, 1) := by decide +kernel
theorem dX2_lookAtFirst_50 : decode cX2_lookAtFirst 50 = .ok (.getfield 50, 3) := by decide +kernel
theorem dX2_lookAtFirst_53 : decode cX2_lookAtFirst 53 = .ok (.iconst 4, 1) := by decide +kernel
theorem dX2_lookAtFirst_54 : decode cX2_lookAtFirst 54 = .ok (.dup2, 1) := by decide +kernel
theorem dX2_lookAtFirst_55 : decode cX2_lookAtFirst 55 = .ok (.iaload, 1) := by decide +kernel
theorem dX2_lookAtFirst_56 : decode cX2_lookAtFirst 56 = .ok (.iconst 1, 1) := by decide +kernel
theorem dX2_lookAtFirst_57 : decode cX2_lookAtFirst 57 = .ok (.iadd, 1) := by decide +kernel
theorem dX2_lookAtFirst_58 : decode cX2_lookAtFirst 58 = .ok (.iastore, 1) := by decide +kernel
theorem dX2_lookAtFirst_59 : decode cX2_lookAtFirst 59 = .ok (.aload_n 0, 1) := by decide +kernel
theorem dX2_lookAtFirst_60 : decode cX2_lookAtFirst 60 = .ok (.iload_n 1, 1) := by decide +kernel
theorem dX2_lookAtFirst_61 : decode cX2_lookAtFirst 61 = .ok (.iload_n 2, 1) := by decide +kernel
theorem dX2_lookAtFirst_62 : decode cX2_lookAtFirst 62 = .ok (.iload_n 3, 1) := by decide +kernel
theorem dX2_lookAtFirst_63 : decode cX2_lookAtFirst 63 = .ok (.invokevirtual 233, 3) := by decide +kernel
theorem dX2_lookAtFirst_66 : decode cX2_lookAtFirst 66 = .ok (.istore 4, 2) := by decide +kernel
theorem dX2_lookAtFirst_68 : decode cX2_lookAtFirst 68 = .ok (.iload 4, 2) := by decide +kernel
theorem dX2_lookAtFirst_70 : decode cX2_lookAtFirst 70 = .ok (.ifCond .lt 20, 3) := by decide +kernel
theorem dX2_lookAtFirst_73 : decode cX2_lookAtFirst 73 = .ok (.iload 4, 2) := by decide +kernel
theorem dX2_lookAtFirst_75 : decode cX2_lookAtFirst 75 = .ok (.iconst 4, 1) := by decide +kernel
theorem dX2_lookAtFirst_76 : decode cX2_lookAtFirst 76 = .ok (.if_icmp .ge 14, 3) := by decide +kernel
theorem dX2_lookAtFirst_79 : decode cX2_lookAtFirst 79 = .ok (.aload_n 0, 1) := by decide +kernel
theorem dX2_lookAtFirst_80 : decode cX2_lookAtFirst 80 = .ok (.getfield 50, 3) := by decide +kernel
theorem dX2_lookAtFirst_83 : decode cX2_lookAtFirst 83 = .ok (.iload 4, 2) := by decide +kernel
theorem dX2_lookAtFirst_85 : decode cX2_lookAtFirst 85 = .ok (.dup2, 1) := by decide +kernel
theorem dX2_lookAtFirst_86 : decode cX2_lookAtFirst 86 = .ok (.iaload, 1) := by decide +kernel
theorem dX2_lookAtFirst_87 : decode cX2_lookAtFirst 87 = .ok (.iconst 1, 1) := by decide +kernel
theorem dX2_lookAtFirst_88 : decode cX2_lookAtFirst 88 = .ok (.iadd, 1) := by decide +kernel
theorem dX2_lookAtFirst_89 : decode cX2_lookAtFirst 89 = .ok (.iastore, 1) := by decide +kernel
theorem dX2_lookAtFirst_90 : decode cX2_lookAtFirst 90 = .ok (.iload 4, 2) := by decide +kernel
theorem dX2_lookAtFirst_92 : decode cX2_lookAtFirst 92 = .ok (.ifCond .ne 23, 3) := by decide +kernel
theorem dX2_lookAtFirst_95 : decode cX2_lookAtFirst 95 = .ok (.aload_n 0, 1) := by decide +kernel
theorem dX2_lookAtFirst_96 : decode cX2_lookAtFirst 96 = .ok (.getfield 21, 3) := by decide +kernel
theorem dX2_lookAtFirst_99 : decode cX2_lookAtFirst 99 = .ok (.iload_n 1, 1) := by decide +kernel
theorem dX2_lookAtFirst_100 : decode cX2_lookAtFirst 100 = .ok (.dup2, 1) := by decide +kernel
theorem dX2_lookAtFirst_101 : decode cX2_lookAtFirst 101 = .ok (.iaload, 1) := by decide +kernel
theorem dX2_lookAtFirst_102 : decode cX2_lookAtFirst 102 = .ok (.iconst 1, 1) := by decide +kernel
theorem dX2_lookAtFirst_103 : decode cX2_lookAtFirst 103 = .ok (.iadd, 1) := by decide +kernel
theorem dX2_lookAtFirst_104 : decode cX2_lookAtFirst 104 = .ok (.iastore, 1) := by decide +kernel
theorem dX2_lookAtFirst_105 : decode cX2_lookAtFirst 105 = .ok (.aload_n 0, 1) := by decide +kernel
theorem dX2_lookAtFirst_106 : decode cX2_lookAtFirst 106 = .ok (.getfield 24, 3) := by decide +kernel
theorem dX2_lookAtFirst_109 : decode cX2_lookAtFirst 109 = .ok (.iload_n 1, 1) := by decide +kernel
theorem dX2_lookAtFirst_110 : decode cX2_lookAtFirst 110 = .ok (.dup2, 1) := by decide +kernel
theorem dX2_lookAtFirst_111 : decode cX2_lookAtFirst 111 = .ok (.iaload, 1) := by decide +kernel
theorem dX2_lookAtFirst_112 : decode cX2_lookAtFirst 112 = .ok (.iconst 1, 1) := by decide +kernel
theorem dX2_lookAtFirst_113 : decode cX2_lookAtFirst 113 = .ok (.iadd, 1) := by decide +kernel
theorem dX2_lookAtFirst_114 : decode cX2_lookAtFirst 114 = .ok (.iastore, 1) := by decide +kernel
theorem dX2_lookAtFirst_115 : decode cX2_lookAtFirst 115 = .ok (.iload 4, 2) := by decide +kernel
theorem dX2_lookAtFirst_117 : decode cX2_lookAtFirst 117 = .ok (.ireturn, 1) := by decide +kernel
set_option maxRecDepth 20000 in
theorem ggX2_judge_X2_isLost : GoodIn wsX2_judge wsX2_isLost := goodIn_r _ [8, 9, 10, 11, 12, 7, 13, 14, 46, 47, 48, 49, 50, 51, 52, 53, 54, 55, 56, 57, 58, 59, 60] (by decide +kernel) (by decide +kernel)
set_option maxRecDepth 20000 in
theorem gX2_judge_X2_isLost : GoodIn wsX2_judge (wsV RX2 146 RX2 yX2_isLost wsX2_isLost) := goodIn_app (goodIn_of _ (by decide +kernel)) ggX2_judge_X2_isLost
set_option maxRecDepth 20000 in
theorem ggX2_judge_X2_isBanned : GoodIn wsX2_judge wsX2_isBanned := goodIn_r _ [18, 19, 20, 21, 7, 22, 46, 47, 48, 49, 50, 51, 52, 53, 54, 55, 56, 57, 58, 59, 60] (by decide +kernel) (by decide +kernel)
set_option maxRecDepth 20000 in
theorem gX2_judge_X2_isBanned : GoodIn wsX2_judge (wsV RX2 149 RX2 yX2_isBanned wsX2_isBanned) := goodIn_app (goodIn_of _ (by decide +kernel)) ggX2_judge_X2_isBanned
set_option maxRecDepth 20000 in
theorem ggX2_judge_X2_isSearched : GoodIn wsX2_judge wsX2_isSearched := goodIn_r _ [26, 3, 27, 28, 20, 21, 7, 22, 46, 47, 48, 49, 50, 51, 52, 53, 54, 55, 56, 57, 58, 59, 60] (by decide +kernel) (by decide +kernel)
set_option maxRecDepth 20000 in
theorem gX2_judge_X2_isSearched : GoodIn wsX2_judge (wsV RX2 236 RX2 yX2_isSearched wsX2_isSearched) := goodIn_app (goodIn_of _ (by decide +kernel)) ggX2_judge_X2_isSearched
set_option maxRecDepth 20000 in
theorem ggX2_judge_X7_hasBit : GoodIn wsX2_judge wsX7_hasBit := goodIn_r _ [31] (by decide +kernel) (by decide +kernel)
set_option maxRecDepth 20000 in
theorem gX2_judge_X7_hasBit_n115 : GoodIn wsX2_judge (wsX7_hasBit) := ggX2_judge_X7_hasBit
set_option maxRecDepth 20000 in
theorem ggX2_judge_X7_withBit : GoodIn wsX2_judge wsX7_withBit := goodIn_r _ [33] (by decide +kernel) (by decide +kernel)
set_option maxRecDepth 20000 in
theorem gX2_judge_X7_withBit_n122 : GoodIn wsX2_judge (wsX7_withBit) := ggX2_judge_X7_withBit
set_option maxRecDepth 20000 in
theorem ggX2_judge_X2_ban : GoodIn wsX2_judge wsX2_ban := goodIn_r _ [37, 1, 3, 19, 20, 21, 7, 22, 46, 47, 48, 49, 50, 51, 52, 53, 54, 55, 56, 57, 58, 59, 60] (by decide +kernel) (by decide +kernel)
set_option maxRecDepth 20000 in
theorem gX2_judge_X2_ban : GoodIn wsX2_judge (wsV RX2 239 RX2 yX2_ban wsX2_ban) := goodIn_app (goodIn_of _ (by decide +kernel)) ggX2_judge_X2_ban
set_option maxRecDepth 20000 in
theorem ggX2_judge_X2_takePrivileges : GoodIn wsX2_judge wsX2_takePrivileges := goodIn_r _ [41, 1, 3, 9, 10, 11, 12, 7, 13, 14, 46, 47, 48, 49, 50, 51, 52, 53, 54, 55, 56, 57, 58, 59, 60] (by decide +kernel) (by decide +kernel)
set_option maxRecDepth 20000 in
theorem gX2_judge_X2_takePrivileges : GoodIn wsX2_judge (wsV RX2 242 RX2 yX2_takePrivileges wsX2_takePrivileges) := goodIn_app (goodIn_of _ (by decide +kernel)) ggX2_judge_X2_takePrivileges
set_option maxRecDepth 20000 in
theorem ggX2_judge_X2_getsThirdStrike : GoodIn wsX2_judge wsX2_getsThirdStrike := goodIn_r _ [45, 28, 20, 21, 7, 22, 46, 47, 48, 49, 50, 51, 52, 53, 54, 55, 56, 57, 58, 59, 60] (by decide +kernel) (by decide +kernel)
set_option maxRecDepth 20000 in
theorem gX2_judge_X2_getsThirdStrike : GoodIn wsX2_judge (wsV RX2 245 RX2 yX2_getsThirdStrike wsX2_getsThirdStrike) := goodIn_app (goodIn_of _ (by decide +kernel)) ggX2_judge_X2_getsThirdStrike
theorem dX2_judge_0 : decode cX2_judge 0 = .ok (.aload_n 0, 1) := by decide +kernel
theorem dX2_judge_1 : decode cX2_judge 1 = .ok (.iload_n 1, 1) := by decide +kernel
theorem dX2_judge_2 : decode cX2_judge 2 = .ok (.aload_n 0, 1) := by decide +kernel
theorem dX2_judge_3 : decode cX2_judge 3 = .ok (.getfield 64, 3) := by decide +kernel
theorem dX2_judge_6 : decode cX2_judge 6 = .ok (.invokevirtual 146, 3) := by decide +kernel
theorem dX2_judge_9 : decode cX2_judge 9 = .ok (.ifCond .ne 15, 3) := by decide +kernel
theorem dX2_judge_12 : decode cX2_judge 12 = .ok (.aload_n 0, 1) := by decide +kernel
theorem dX2_judge_13 : decode cX2_judge 13 = .ok (.iload_n 2, 1) := by decide +kernel
theorem dX2_judge_14 : decode cX2_judge 14 = .ok (.aload_n 0, 1) := by decide +kernel
theorem dX2_judge_15 : decode cX2_judge 15 = .ok (.getfield 64, 3) := by decide +kernel
theorem dX2_judge_18 : decode cX2_judge 18 = .ok (.invokevirtual 149, 3) := by decide +kernel
theorem dX2_judge_21 : decode cX2_judge 21 = .ok (.ifCond .eq 5, 3) := by decide +kernel
theorem dX2_judge_24 : decode cX2_judge 24 = .ok (.iconst 1, 1) := by decide +kernel
theorem dX2_judge_25 : decode cX2_judge 25 = .ok (.ireturn, 1) := by decide +kernel
theorem dX2_judge_26 : decode cX2_judge 26 = .ok (.aload_n 0, 1) := by decide +kernel
theorem dX2_judge_27 : decode cX2_judge 27 = .ok (.iload_n 2, 1) := by decide +kernel
theorem dX2_judge_28 : decode cX2_judge 28 = .ok (.invokevirtual 236, 3) := by decide +kernel
theorem dX2_judge_31 : decode cX2_judge 31 = .ok (.istore 4, 2) := by decide +kernel
theorem dX2_judge_33 : decode cX2_judge 33 = .ok (.iload 4, 2) := by decide +kernel
theorem dX2_judge_35 : decode cX2_judge 35 = .ok (.ifCond .eq 39, 3) := by decide +kernel
theorem dX2_judge_38 : decode cX2_judge 38 = .ok (.aload_n 0, 1) := by decide +kernel
theorem dX2_judge_39 : decode cX2_judge 39 = .ok (.getfield 77, 3) := by decide +kernel
theorem dX2_judge_42 : decode cX2_judge 42 = .ok (.iload_n 2, 1) := by decide +kernel
theorem dX2_judge_43 : decode cX2_judge 43 = .ok (.invokestatic 115, 3) := by decide +kernel
theorem dX2_judge_46 : decode cX2_judge 46 = .ok (.ifCond .eq 28, 3) := by decide +kernel
theorem dX2_judge_49 : decode cX2_judge 49 = .ok (.aload_n 0, 1) := by decide +kernel
theorem dX2_judge_50 : decode cX2_judge 50 = .ok (.aload_n 0, 1) := by decide +kernel
theorem dX2_judge_51 : decode cX2_judge 51 = .ok (.getfield 77, 3) := by decide +kernel
theorem dX2_judge_54 : decode cX2_judge 54 = .ok (.iload_n 2, 1) := by decide +kernel
theorem dX2_judge_55 : decode cX2_judge 55 = .ok (.iconst 0, 1) := by decide +kernel
theorem dX2_judge_56 : decode cX2_judge 56 = .ok (.invokestatic 122, 3) := by decide +kernel
theorem dX2_judge_59 : decode cX2_judge 59 = .ok (.putfield 77, 3) := by decide +kernel
theorem dX2_judge_62 : decode cX2_judge 62 = .ok (.aload_n 0, 1) := by decide +kernel
theorem dX2_judge_63 : decode cX2_judge 63 = .ok (.iload_n 2, 1) := by decide +kernel
theorem dX2_judge_64 : decode cX2_judge 64 = .ok (.invokevirtual 239, 3) := by decide +kernel
theorem dX2_judge_67 : decode cX2_judge 67 = .ok (.aload_n 0, 1) := by decide +kernel
theorem dX2_judge_68 : decode cX2_judge 68 = .ok (.iload_n 1, 1) := by decide +kernel
theorem dX2_judge_69 : decode cX2_judge 69 = .ok (.invokevirtual 242, 3) := by decide +kernel
theorem dX2_judge_72 : decode cX2_judge 72 = .ok (.iconst 2, 1) := by decide +kernel
theorem dX2_judge_73 : decode cX2_judge 73 = .ok (.ireturn, 1) := by decide +kernel
theorem dX2_judge_74 : decode cX2_judge 74 = .ok (.iload_n 3, 1) := by decide +kernel
theorem dX2_judge_75 : decode cX2_judge 75 = .ok (.iload 4, 2) := by decide +kernel
theorem dX2_judge_77 : decode cX2_judge 77 = .ok (.ifCond .eq 12, 3) := by decide +kernel
theorem dX2_judge_80 : decode cX2_judge 80 = .ok (.aload_n 0, 1) := by decide +kernel
theorem dX2_judge_81 : decode cX2_judge 81 = .ok (.getfield 61, 3) := by decide +kernel
theorem dX2_judge_84 : decode cX2_judge 84 = .ok (.iconst 4, 1) := by decide +kernel
theorem dX2_judge_85 : decode cX2_judge 85 = .ok (.iaload, 1) := by decide +kernel
theorem dX2_judge_86 : decode cX2_judge 86 = .ok (.goto 4, 3) := by decide +kernel
theorem dX2_judge_89 : decode cX2_judge 89 = .ok (.iconst 0, 1) := by decide +kernel
theorem dX2_judge_90 : decode cX2_judge 90 = .ok (.iadd, 1) := by decide +kernel
theorem dX2_judge_91 : decode cX2_judge 91 = .ok (.aload_n 0, 1) := by decide +kernel
theorem dX2_judge_92 : decode cX2_judge 92 = .ok (.getfield 61, 3) := by decide +kernel
theorem dX2_judge_95 : decode cX2_judge 95 = .ok (.iconst 5, 1) := by decide +kernel
theorem dX2_judge_96 : decode cX2_judge 96 = .ok (.iaload, 1) := by decide +kernel
theorem dX2_judge_97 : decode cX2_judge 97 = .ok (.if_icmp .le 18, 3) := by decide +kernel
theorem dX2_judge_100 : decode cX2_judge 100 = .ok (.aload_n 0, 1) := by decide +kernel
theorem dX2_judge_101 : decode cX2_judge 101 = .ok (.iload_n 2, 1) := by decide +kernel
theorem dX2_judge_102 : decode cX2_judge 102 = .ok (.invokevirtual 245, 3) := by decide +kernel
theorem dX2_judge_105 : decode cX2_judge 105 = .ok (.ifCond .eq 8, 3) := by decide +kernel
theorem dX2_judge_108 : decode cX2_judge 108 = .ok (.aload_n 0, 1) := by decide +kernel
theorem dX2_judge_109 : decode cX2_judge 109 = .ok (.iload_n 2, 1) := by decide +kernel
theorem dX2_judge_110 : decode cX2_judge 110 = .ok (.invokevirtual 239, 3) := by decide +kernel
theorem dX2_judge_113 : decode cX2_judge 113 = .ok (.iconst 3, 1) := by decide +kernel
theorem dX2_judge_114 : decode cX2_judge 114 = .ok (.ireturn, 1) := by decide +kernel
theorem dX2_judge_115 : decode cX2_judge 115 = .ok (.iconst 0, 1) := by decide +kernel
theorem dX2_judge_116 : decode cX2_judge 116 = .ok (.ireturn, 1) := by decide +kernel
set_option maxRecDepth 20000 in
theorem ggX2_isSearched_X2_hasVisitor : GoodIn wsX2_isSearched wsX2_hasVisitor := goodIn_r _ [7] (by decide +kernel) (by decide +kernel)
set_option maxRecDepth 20000 in
theorem gX2_isSearched_X2_hasVisitor : GoodIn wsX2_isSearched (va_wsS RX2 91 yX2_hasVisitor wsX2_hasVisitor) := goodIn_app (goodIn_of _ (by decide +kernel)) ggX2_isSearched_X2_hasVisitor
theorem dX2_isSearched_0 : decode cX2_isSearched 0 = .ok (.aload_n 0, 1) := by decide +kernel
theorem dX2_isSearched_1 : decode cX2_isSearched 1 = .ok (.getfield 61, 3) := by decide +kernel
theorem dX2_isSearched_4 : decode cX2_isSearched 4 = .ok (.iconst 1, 1) := by decide +kernel
theorem dX2_isSearched_5 : decode cX2_isSearched 5 = .ok (.iaload, 1) := by decide +kernel
theorem dX2_isSearched_6 : decode cX2_isSearched 6 = .ok (.istore_n 2, 1) := by decide +kernel
theorem dX2_isSearched_7 : decode cX2_isSearched 7 = .ok (.iload_n 2, 1) := by decide +kernel
theorem dX2_isSearched_8 : decode cX2_isSearched 8 = .ok (.ifCond .le 18, 3) := by decide +kernel
theorem dX2_isSearched_11 : decode cX2_isSearched 11 = .ok (.aload_n 0, 1) := by decide +kernel
theorem dX2_isSearched_12 : decode cX2_isSearched 12 = .ok (.getfield 50, 3) := by decide +kernel
theorem dX2_isSearched_15 : decode cX2_isSearched 15 = .ok (.iconst 4, 1) := by decide +kernel
theorem dX2_isSearched_16 : decode cX2_isSearched 16 = .ok (.iaload, 1) := by decide +kernel
theorem dX2_isSearched_17 : decode cX2_isSearched 17 = .ok (.iload_n 2, 1) := by decide +kernel
theorem dX2_isSearched_18 : decode cX2_isSearched 18 = .ok (.irem, 1) := by decide +kernel
theorem dX2_isSearched_19 : decode cX2_isSearched 19 = .ok (.ifCond .ne 7, 3) := by decide +kernel
theorem dX2_isSearched_22 : decode cX2_isSearched 22 = .ok (.iconst 1, 1) := by decide +kernel
theorem dX2_isSearched_23 : decode cX2_isSearched 23 = .ok (.goto 4, 3) := by decide +kernel
theorem dX2_isSearched_26 : decode cX2_isSearched 26 = .ok (.iconst 0, 1) := by decide +kernel
theorem dX2_isSearched_27 : decode cX2_isSearched 27 = .ok (.istore_n 3, 1) := by decide +kernel
theorem dX2_isSearched_28 : decode cX2_isSearched 28 = .ok (.iload_n 3, 1) := by decide +kernel
theorem dX2_isSearched_29 : decode cX2_isSearched 29 = .ok (.ifCond .ne 19, 3) := by decide +kernel
theorem dX2_isSearched_32 : decode cX2_isSearched 32 = .ok (.iload_n 1, 1) := by decide +kernel
theorem dX2_isSearched_33 : decode cX2_isSearched 33 = .ok (.invokestatic 91, 3) := by decide +kernel
theorem dX2_isSearched_36 : decode cX2_isSearched 36 = .ok (.ifCond .eq 16, 3) := by decide +kernel
theorem dX2_isSearched_39 : decode cX2_isSearched 39 = .ok (.aload_n 0, 1) := by decide +kernel
theorem dX2_isSearched_40 : decode cX2_isSearched 40 = .ok (.getfield 30, 3) := by decide +kernel
theorem dX2_isSearched_43 : decode cX2_isSearched 43 = .ok (.iload_n 1, 1) := by decide +kernel
theorem dX2_isSearched_44 : decode cX2_isSearched 44 = .ok (.iaload, 1) := by decide +kernel
theorem dX2_isSearched_45 : decode cX2_isSearched 45 = .ok (.ifCond .le 7, 3) := by decide +kernel
theorem dX2_isSearched_48 : decode cX2_isSearched 48 = .ok (.iconst 1, 1) := by decide +kernel
theorem dX2_isSearched_49 : decode cX2_isSearched 49 = .ok (.goto 4, 3) := by decide +kernel
theorem dX2_isSearched_52 : decode cX2_isSearched 52 = .ok (.iconst 0, 1) := by decide +kernel
theorem dX2_isSearched_53 : decode cX2_isSearched 53 = .ok (.ireturn, 1) := by decide +kernel
set_option maxRecDepth 20000 in
theorem ggX2_getsThirdStrike_X2_hasVisitor : GoodIn wsX2_getsThirdStrike wsX2_hasVisitor := goodIn_r _ [5] (by decide +kernel) (by decide +kernel)
set_option maxRecDepth 20000 in
theorem gX2_getsThirdStrike_X2_hasVisitor : GoodIn wsX2_getsThirdStrike (va_wsS RX2 91 yX2_hasVisitor wsX2_hasVisitor) := goodIn_app (goodIn_of _ (by decide +kernel)) ggX2_getsThirdStrike_X2_hasVisitor
theorem dX2_getsThirdStrike_0 : decode cX2_getsThirdStrike 0 = .ok (.iload_n 1, 1) := by decide +kernel
theorem dX2_getsThirdStrike_1 : decode cX2_getsThirdStrike 1 = .ok (.invokestatic 91, 3) := by decide +kernel
theorem dX2_getsThirdStrike_4 : decode cX2_getsThirdStrike 4 = .ok (.ifCond .ne 5, 3) := by decide +kernel
theorem dX2_getsThirdStrike_9 : decode cX2_getsThirdStrike 9 = .ok (.aload_n 0, 1) := by decide +kernel
theorem dX2_getsThirdStrike_10 : decode cX2_getsThirdStrike 10 = .ok (.getfield 30, 3) := by decide +kernel
theorem dX2_getsThirdStrike_13 : decode cX2_getsThirdStrike 13 = .ok (.iload_n 1, 1) := by decide +kernel
theorem dX2_getsThirdStrike_14 : decode cX2_getsThirdStrike 14 = .ok (.dup2, 1) := by decide +kernel
theorem dX2_getsThirdStrike_15 : decode cX2_getsThirdStrike 15 = .ok (.iaload, 1) := by decide +kernel
theorem dX2_getsThirdStrike_16 : decode cX2_getsThirdStrike 16 = .ok (.iconst 1, 1) := by decide +kernel
theorem dX2_getsThirdStrike_17 : decode cX2_getsThirdStrike 17 = .ok (.iadd, 1) := by decide +kernel
theorem dX2_getsThirdStrike_18 : decode cX2_getsThirdStrike 18 = .ok (.iastore, 1) := by decide +kernel
theorem dX2_getsThirdStrike_19 : decode cX2_getsThirdStrike 19 = .ok (.aload_n 0, 1) := by decide +kernel
theorem dX2_getsThirdStrike_20 : decode cX2_getsThirdStrike 20 = .ok (.getfield 30, 3) := by decide +kernel
theorem dX2_getsThirdStrike_23 : decode cX2_getsThirdStrike 23 = .ok (.iload_n 1, 1) := by decide +kernel
theorem dX2_getsThirdStrike_24 : decode cX2_getsThirdStrike 24 = .ok (.iaload, 1) := by decide +kernel
theorem dX2_getsThirdStrike_25 : decode cX2_getsThirdStrike 25 = .ok (.iconst 3, 1) := by decide +kernel
theorem dX2_getsThirdStrike_26 : decode cX2_getsThirdStrike 26 = .ok (.if_icmp .lt 7, 3) := by decide +kernel
theorem dX2_getsThirdStrike_29 : decode cX2_getsThirdStrike 29 = .ok (.iconst 1, 1) := by decide +kernel
theorem dX2_getsThirdStrike_30 : decode cX2_getsThirdStrike 30 = .ok (.goto 4, 3) := by decide +kernel
theorem dX2_getsThirdStrike_33 : decode cX2_getsThirdStrike 33 = .ok (.iconst 0, 1) := by decide +kernel
theorem dX2_getsThirdStrike_34 : decode cX2_getsThirdStrike 34 = .ok (.istore_n 2, 1) := by decide +kernel
theorem dX2_getsThirdStrike_35 : decode cX2_getsThirdStrike 35 = .ok (.iload_n 2, 1) := by decide +kernel
theorem dX2_getsThirdStrike_36 : decode cX2_getsThirdStrike 36 = .ok (.ifCond .eq 10, 3) := by decide +kernel
theorem dX2_getsThirdStrike_39 : decode cX2_getsThirdStrike 39 = .ok (.aload_n 0, 1) := by decide +kernel
theorem dX2_getsThirdStrike_40 : decode cX2_getsThirdStrike 40 = .ok (.getfield 30, 3) := by decide +kernel
theorem dX2_getsThirdStrike_43 : decode cX2_getsThirdStrike 43 = .ok (.iload_n 1, 1) := by decide +kernel
theorem dX2_getsThirdStrike_44 : decode cX2_getsThirdStrike 44 = .ok (.iconst 0, 1) := by decide +kernel
theorem dX2_getsThirdStrike_45 : decode cX2_getsThirdStrike 45 = .ok (.iastore, 1) := by decide +kernel
theorem dX2_getsThirdStrike_46 : decode cX2_getsThirdStrike 46 = .ok (.iload_n 2, 1) := by decide +kernel
theorem dX2_getsThirdStrike_47 : decode cX2_getsThirdStrike 47 = .ok (.ireturn, 1) := by decide +kernel
set_option maxRecDepth 20000 in
theorem ggX2_ban_X2_hasVisitor : GoodIn wsX2_ban wsX2_hasVisitor := goodIn_r _ [7] (by decide +kernel) (by decide +kernel)
set_option maxRecDepth 20000 in
theorem gX2_ban_X2_hasVisitor : GoodIn wsX2_ban (va_wsS RX2 91 yX2_hasVisitor wsX2_hasVisitor) := goodIn_app (goodIn_of _ (by decide +kernel)) ggX2_ban_X2_hasVisitor
theorem dX2_ban_0 : decode cX2_ban 0 = .ok (.aload_n 0, 1) := by decide +kernel
theorem dX2_ban_1 : decode cX2_ban 1 = .ok (.getfield 64, 3) := by decide +kernel
theorem dX2_ban_4 : decode cX2_ban 4 = .ok (.iconst 1, 1) := by decide +kernel
theorem dX2_ban_5 : decode cX2_ban 5 = .ok (.iadd, 1) := by decide +kernel
theorem dX2_ban_6 : decode cX2_ban 6 = .ok (.aload_n 0, 1) := by decide +kernel
theorem dX2_ban_7 : decode cX2_ban 7 = .ok (.getfield 61, 3) := by decide +kernel
theorem dX2_ban_10 : decode cX2_ban 10 = .ok (.iconst 2, 1) := by decide +kernel
theorem dX2_ban_11 : decode cX2_ban 11 = .ok (.iaload, 1) := by decide +kernel
theorem dX2_ban_12 : decode cX2_ban 12 = .ok (.iadd, 1) := by decide +kernel
theorem dX2_ban_13 : decode cX2_ban 13 = .ok (.istore_n 2, 1) := by decide +kernel
theorem dX2_ban_14 : decode cX2_ban 14 = .ok (.iload_n 1, 1) := by decide +kernel
theorem dX2_ban_15 : decode cX2_ban 15 = .ok (.invokestatic 91, 3) := by decide +kernel
theorem dX2_ban_18 : decode cX2_ban 18 = .ok (.ifCond .eq 20, 3) := by decide +kernel
theorem dX2_ban_21 : decode cX2_ban 21 = .ok (.iload_n 2, 1) := by decide +kernel
theorem dX2_ban_22 : decode cX2_ban 22 = .ok (.aload_n 0, 1) := by decide +kernel
theorem dX2_ban_23 : decode cX2_ban 23 = .ok (.getfield 33, 3) := by decide +kernel
theorem dX2_ban_26 : decode cX2_ban 26 = .ok (.iload_n 1, 1) := by decide +kernel
theorem dX2_ban_27 : decode cX2_ban 27 = .ok (.iaload, 1) := by decide +kernel
theorem dX2_ban_28 : decode cX2_ban 28 = .ok (.if_icmp .le 10, 3) := by decide +kernel
theorem dX2_ban_31 : decode cX2_ban 31 = .ok (.aload_n 0, 1) := by decide +kernel
theorem dX2_ban_32 : decode cX2_ban 32 = .ok (.getfield 33, 3) := by decide +kernel
theorem dX2_ban_35 : decode cX2_ban 35 = .ok (.iload_n 1, 1) := by decide +kernel
theorem dX2_ban_36 : decode cX2_ban 36 = .ok (.iload_n 2, 1) := by decide +kernel
theorem dX2_ban_37 : decode cX2_ban 37 = .ok (.iastore, 1) := by decide +kernel
theorem dX2_ban_38 : decode cX2_ban 38 = .ok (.return_, 1) := by decide +kernel
set_option maxRecDepth 20000 in
theorem ggX2_takePrivileges_X2_hasPrisoner : GoodIn wsX2_takePrivileges wsX2_hasPrisoner := goodIn_r _ [8, 9, 10, 11, 12, 13, 14, 15, 16, 17, 18, 19, 20, 21, 22, 23, 24] (by decide +kernel) (by decide +kernel)
set_option maxRecDepth 20000 in
theorem gX2_takePrivileges_X2_hasPrisoner : GoodIn wsX2_takePrivileges (wsV RX2 87 RX2 yX2_hasPrisoner wsX2_hasPrisoner) := goodIn_app (goodIn_of _ (by decide +kernel)) ggX2_takePrivileges_X2_hasPrisoner
theorem dX2_takePrivileges_0 : decode cX2_takePrivileges 0 = .ok (.aload_n 0, 1) := by decide +kernel
theorem dX2_takePrivileges_1 : decode cX2_takePrivileges 1 = .ok (.getfield 64, 3) := by decide +kernel
theorem dX2_takePrivileges_4 : decode cX2_takePrivileges 4 = .ok (.iconst 1, 1) := by decide +kernel
theorem dX2_takePrivileges_5 : decode cX2_takePrivileges 5 = .ok (.iadd, 1) := by decide +kernel
theorem dX2_takePrivileges_6 : decode cX2_takePrivileges 6 = .ok (.aload_n 0, 1) := by decide +kernel
theorem dX2_takePrivileges_7 : decode cX2_takePrivileges 7 = .ok (.getfield 61, 3) := by decide +kernel
theorem dX2_takePrivileges_10 : decode cX2_takePrivileges 10 = .ok (.iconst 3, 1) := by decide +kernel
theorem dX2_takePrivileges_11 : decode cX2_takePrivileges 11 = .ok (.iaload, 1) := by decide +kernel
theorem dX2_takePrivileges_12 : decode cX2_takePrivileges 12 = .ok (.iadd, 1) := by decide +kernel
theorem dX2_takePrivileges_13 : decode cX2_takePrivileges 13 = .ok (.istore_n 2, 1) := by decide +kernel
theorem dX2_takePrivileges_14 : decode cX2_takePrivileges 14 = .ok (.aload_n 0, 1) := by decide +kernel
theorem dX2_takePrivileges_15 : decode cX2_takePrivileges 15 = .ok (.iload_n 1, 1) := by decide +kernel
theorem dX2_takePrivileges_16 : decode cX2_takePrivileges 16 = .ok (.invokevirtual 87, 3) := by decide +kernel
theorem dX2_takePrivileges_19 : decode cX2_takePrivileges 19 = .ok (.ifCond .eq 20, 3) := by decide +kernel
theorem dX2_takePrivileges_22 : decode cX2_takePrivileges 22 = .ok (.iload_n 2, 1) := by decide +kernel
theorem dX2_takePrivileges_23 : decode cX2_takePrivileges 23 = .ok (.aload_n 0, 1) := by decide +kernel
theorem dX2_takePrivileges_24 : decode cX2_takePrivileges 24 = .ok (.getfield 18, 3) := by decide +kernel
theorem dX2_takePrivileges_27 : decode cX2_takePrivileges 27 = .ok (.iload_n 1, 1) := by decide +kernel
theorem dX2_takePrivileges_28 : decode cX2_takePrivileges 28 = .ok (.iaload, 1) := by decide +kernel
theorem dX2_takePrivileges_29 : decode cX2_takePrivileges 29 = .ok (.if_icmp .le 10, 3) := by decide +kernel
theorem dX2_takePrivileges_32 : decode cX2_takePrivileges 32 = .ok (.aload_n 0, 1) := by decide +kernel
theorem dX2_takePrivileges_33 : decode cX2_takePrivileges 33 = .ok (.getfield 18, 3) := by decide +kernel
theorem dX2_takePrivileges_36 : decode cX2_takePrivileges 36 = .ok (.iload_n 1, 1) := by decide +kernel
theorem dX2_takePrivileges_37 : decode cX2_takePrivileges 37 = .ok (.iload_n 2, 1) := by decide +kernel
theorem dX2_takePrivileges_38 : decode cX2_takePrivileges 38 = .ok (.iastore, 1) := by decide +kernel
theorem dX2_takePrivileges_39 : decode cX2_takePrivileges 39 = .ok (.return_, 1) := by decide +kernel
set_option maxRecDepth 20000 in
theorem ggX2_beginNextDay_X2_weekOf : GoodIn wsX2_beginNextDay wsX2_weekOf := goodIn_r _ [6] (by decide +kernel) (by decide +kernel)
set_option maxRecDepth 20000 in
theorem gX2_beginNextDay_X2_weekOf : GoodIn wsX2_beginNextDay (va_wsS RX2 102 yX2_weekOf wsX2_weekOf) := goodIn_app (goodIn_of _ (by decide +kernel)) ggX2_beginNextDay_X2_weekOf
theorem dX2_beginNextDay_0 : decode cX2_beginNextDay 0 = .ok (.aload_n 0, 1) := by decide +kernel
theorem dX2_beginNextDay_1 : decode cX2_beginNextDay 1 = .ok (.getfield 64, 3) := by decide +kernel
theorem dX2_beginNextDay_4 : decode cX2_beginNextDay 4 = .ok (.invokestatic 102, 3) := by decide +kernel
theorem dX2_beginNextDay_7 : decode cX2_beginNextDay 7 = .ok (.istore_n 1, 1) := by decide +kernel
theorem dX2_beginNextDay_8 : decode cX2_beginNextDay 8 = .ok (.aload_n 0, 1) := by decide +kernel
theorem dX2_beginNextDay_9 : decode cX2_beginNextDay 9 = .ok (.dup, 1) := by decide +kernel
theorem dX2_beginNextDay_10 : decode cX2_beginNextDay 10 = .ok (.getfield 64, 3) := by decide +kernel
theorem dX2_beginNextDay_13 : decode cX2_beginNextDay 13 = .ok (.iconst 1, 1) := by decide +kernel
theorem dX2_beginNextDay_14 : decode cX2_beginNextDay 14 = .ok (.iadd, 1) := by decide +kernel
theorem dX2_beginNextDay_15 : decode cX2_beginNextDay 15 = .ok (.putfield 64, 3) := by decide +kernel
theorem dX2_beginNextDay_18 : decode cX2_beginNextDay 18 = .ok (.aload_n 0, 1) := by decide +kernel
theorem dX2_beginNextDay_19 : decode cX2_beginNextDay 19 = .ok (.getfield 64, 3) := by decide +kernel
theorem dX2_beginNextDay_22 : decode cX2_beginNextDay 22 = .ok (.invokestatic 102, 3) := by decide +kernel
theorem dX2_beginNextDay_25 : decode cX2_beginNextDay 25 = .ok (.iload_n 1, 1) := by decide +kernel
theorem dX2_beginNextDay_26 : decode cX2_beginNextDay 26 = .ok (.if_icmp .eq 24, 3) := by decide +kernel
theorem dX2_beginNextDay_29 : decode cX2_beginNextDay 29 = .ok (.iconst 0, 1) := by decide +kernel
theorem dX2_beginNextDay_30 : decode cX2_beginNextDay 30 = .ok (.istore_n 2, 1) := by decide +kernel
theorem dX2_beginNextDay_31 : decode cX2_beginNextDay 31 = .ok (.iload_n 2, 1) := by decide +kernel
theorem dX2_beginNextDay_32 : decode cX2_beginNextDay 32 = .ok (.bipush 8, 2) := by decide +kernel
theorem dX2_beginNextDay_34 : decode cX2_beginNextDay 34 = .ok (.if_icmp .ge 16, 3) := by decide +kernel
theorem dX2_beginNextDay_37 : decode cX2_beginNextDay 37 = .ok (.aload_n 0, 1) := by decide +kernel
theorem dX2_beginNextDay_38 : decode cX2_beginNextDay 38 = .ok (.getfield 24, 3) := by decide +kernel
theorem dX2_beginNextDay_41 : decode cX2_beginNextDay 41 = .ok (.iload_n 2, 1) := by decide +kernel
theorem dX2_beginNextDay_42 : decode cX2_beginNextDay 42 = .ok (.iconst 0, 1) := by decide +kernel
theorem dX2_beginNextDay_43 : decode cX2_beginNextDay 43 = .ok (.iastore, 1) := by decide +kernel
theorem dX2_beginNextDay_44 : decode cX2_beginNextDay 44 = .ok (.iinc 2 1, 3) := by decide +kernel
theorem dX2_beginNextDay_47 : decode cX2_beginNextDay 47 = .ok (.goto (-16), 3) := by decide +kernel
theorem dX2_beginNextDay_50 : decode cX2_beginNextDay 50 = .ok (.return_, 1) := by decide +kernel
theorem dX3_withoutLast_0 : decode cX3_withoutLast 0 = .ok (.lload_n 0, 1) := by decide +kernel
theorem dX3_withoutLast_1 : decode cX3_withoutLast 1 = .ok (.lstore_n 3, 1) := by decide +kernel
theorem dX3_withoutLast_2 : decode cX3_withoutLast 2 = .ok (.iconst 0, 1) := by decide +kernel
theorem dX3_withoutLast_3 : decode cX3_withoutLast 3 = .ok (.istore 5, 2) := by decide +kernel
theorem dX3_withoutLast_5 : decode cX3_withoutLast 5 = .ok (.iload 5, 2) := by decide +kernel
theorem dX3_withoutLast_7 : decode cX3_withoutLast 7 = .ok (.iload_n 2, 1) := by decide +kernel
theorem dX3_withoutLast_8 : decode cX3_withoutLast 8 = .ok (.if_icmp .ge 15, 3) := by decide +kernel
theorem dX3_withoutLast_11 : decode cX3_withoutLast 11 = .ok (.lload_n 3, 1) := by decide +kernel
theorem dX3_withoutLast_12 : decode cX3_withoutLast 12 = .ok (.ldc2_w 11, 3) := by decide +kernel
theorem dX3_withoutLast_15 : decode cX3_withoutLast 15 = .ok (.ldiv, 1) := by decide +kernel
theorem dX3_withoutLast_16 : decode cX3_withoutLast 16 = .ok (.lstore_n 3, 1) := by decide +kernel
theorem dX3_withoutLast_17 : decode cX3_withoutLast 17 = .ok (.iinc 5 1, 3) := by decide +kernel
theorem dX3_withoutLast_20 : decode cX3_withoutLast 20 = .ok (.goto (-15), 3) := by decide +kernel
theorem dX3_withoutLast_23 : decode cX3_withoutLast 23 = .ok (.lload_n 3, 1) := by decide +kernel
theorem dX3_withoutLast_24 : decode cX3_withoutLast 24 = .ok (.lreturn, 1) := by decide +kernel
set_option maxRecDepth 20000 in
theorem ggX3_succeeds_X2_tryBook : GoodIn wsX3_succeeds wsX2_tryBook := goodIn_r _ [9, 10, 11, 12, 13, 8, 14, 15, 16, 17, 18, 19, 20, 21, 22, 23, 24, 25, 26, 27, 28, 29, 30, 31, 32, 33, 34, 35, 36, 37, 38, 39, 40, 41, 42, 43, 44, 45, 46, 47, 48, 49, 50, 51, 52, 53, 54, 55, 56, 57, 58, 59, 60, 61, 62, 63, 64, 65, 66, 67, 68, 69, 70, 71, 72, 73, 74, 75, 76, 77, 78, 79, 80, 81, 82, 83, 84, 214, 215, 216, 217, 218, 219, 220, 221, 222, 223, 224, 225, 226, 227, 228, 229, 230] (by decide +kernel) (by decide +kernel)
set_option maxRecDepth 20000 in
theorem gX3_succeeds_X2_tryBook : GoodIn wsX3_succeeds (wsV RX3 19 RX2 yX2_tryBook wsX2_tryBook) := goodIn_app (goodIn_of _ (by decide +kernel)) ggX3_succeeds_X2_tryBook
set_option maxRecDepth 20000 in
theorem ggX3_succeeds_X2_tryWish : GoodIn wsX3_succeeds wsX2_tryWish := goodIn_r _ [88, 36, 89, 90, 11, 12, 13, 8, 14, 15, 16, 17, 18, 19, 20, 21, 22, 41, 42, 43, 91, 92, 93, 94, 95, 96, 97, 98, 99, 100, 101, 214, 215, 216, 217, 218, 219, 220, 221, 222, 223, 224, 225, 226, 227, 228, 231, 232] (by decide +kernel) (by decide +kernel)
set_option maxRecDepth 20000 in
theorem gX3_succeeds_X2_tryWish : GoodIn wsX3_succeeds (wsV RX3 23 RX2 yX2_tryWish wsX2_tryWish) := goodIn_app (goodIn_of _ (by decide +kernel)) ggX3_succeeds_X2_tryWish
set_option maxRecDepth 20000 in
theorem ggX3_succeeds_X2_tryList : GoodIn wsX3_succeeds wsX2_tryList := goodIn_r _ [105, 36, 11, 12, 13, 8, 14, 15, 16, 17, 18, 19, 20, 21, 22, 106, 42, 107, 214, 215, 216, 217, 218, 219, 220, 221, 222, 223, 224, 225, 226, 227, 228] (by decide +kernel) (by decide +kernel)
set_option maxRecDepth 20000 in
theorem gX3_succeeds_X2_tryList : GoodIn wsX3_succeeds (wsV RX3 27 RX2 yX2_tryList wsX2_tryList) := goodIn_app (goodIn_of _ (by decide +kernel)) ggX3_succeeds_X2_tryList
set_option maxRecDepth 20000 in
theorem ggX3_succeeds_X2_tryCarry : GoodIn wsX3_succeeds wsX2_tryCarry := goodIn_r _ [111, 112, 20, 21, 8, 22, 106, 42, 107, 214, 215, 216, 217, 218, 219, 220, 221, 222, 223, 224, 225, 226, 227, 228] (by decide +kernel) (by decide +kernel)
set_option maxRecDepth 20000 in
theorem gX3_succeeds_X2_tryCarry : GoodIn wsX3_succeeds (wsV RX3 31 RX2 yX2_tryCarry wsX2_tryCarry) := goodIn_app (goodIn_of _ (by decide +kernel)) ggX3_succeeds_X2_tryCarry
set_option maxRecDepth 20000 in
theorem ggX3_succeeds_X2_tryPunish : GoodIn wsX3_succeeds wsX2_tryPunish := goodIn_r _ [116, 37, 27, 15, 16, 17, 8, 18, 19, 117, 42, 118, 214, 215, 216, 217, 218, 219, 220, 221, 222, 223, 224, 225, 226, 227, 228] (by decide +kernel) (by decide +kernel)
set_option maxRecDepth 20000 in
theorem gX3_succeeds_X2_tryPunish : GoodIn wsX3_succeeds (wsV RX3 35 RX2 yX2_tryPunish wsX2_tryPunish) := goodIn_app (goodIn_of _ (by decide +kernel)) ggX3_succeeds_X2_tryPunish
set_option maxRecDepth 20000 in
theorem ggX3_succeeds_X7_isBetween : GoodIn wsX3_succeeds wsX7_isBetween := goodIn_r _ [118] (by decide +kernel) (by decide +kernel)
set_option maxRecDepth 20000 in
theorem gX3_succeeds_X7_isBetween_n38 : GoodIn wsX3_succeeds (wsX7_isBetween) := ggX3_succeeds_X7_isBetween
set_option maxRecDepth 20000 in
theorem ggX3_succeeds_X2_letDaysPass : GoodIn wsX3_succeeds wsX2_letDaysPass := goodIn_r _ [122, 123, 10, 124, 27, 125, 126, 127, 8, 128, 89, 90, 129, 130, 131, 132, 94, 133, 96, 134, 135, 136, 137, 138, 139, 140, 141, 101, 142, 143, 144, 145, 146, 147, 148, 149, 150, 151, 152, 153, 154, 155, 156, 157, 64, 65, 66, 50, 67, 52, 32, 33, 34, 35, 36, 37, 38, 39, 40, 15, 16, 17, 18, 19, 20, 21, 22, 41, 42, 43, 44, 45, 46, 47, 48, 49, 51, 53, 54, 55, 56, 57, 58, 59, 60, 61, 62, 63, 68, 69, 70, 71, 72, 73, 74, 75, 76, 77, 78, 79, 80, 81, 82, 83, 84, 158, 159, 160, 161, 162, 163, 164, 165, 166, 167, 168, 169, 170, 171, 172, 173, 174, 175, 176, 177, 178, 11, 12, 13, 14, 179, 180, 181, 182, 112, 183, 184, 185, 186, 187, 188, 189, 190, 191, 192, 193, 194, 195, 106, 107, 196, 197, 198, 199, 200, 201, 202, 203, 204, 205, 206, 207, 208, 209, 210, 211, 214, 215, 216, 217, 218, 219, 220, 221, 222, 223, 224, 225, 226, 227, 228, 229, 230, 231, 232] (by decide +kernel) (by decide +kernel)
set_option maxRecDepth 20000 in
theorem gX3_succeeds_X2_letDaysPass : GoodIn wsX3_succeeds (wsV RX3 42 RX2 yX2_letDaysPass wsX2_letDaysPass) := goodIn_app (goodIn_of _ (by decide +kernel)) ggX3_succeeds_X2_letDaysPass
set_option maxRecDepth 20000 in
theorem ggX3_succeeds_X2_hasPrisoner : GoodIn wsX3_succeeds wsX2_hasPrisoner := goodIn_r _ [18, 19, 214, 215, 216, 217, 218, 219, 220, 221, 222, 223, 224, 225, 226, 227, 228] (by decide +kernel) (by decide +kernel)
set_option maxRecDepth 20000 in
theorem gX3_succeeds_X2_hasPrisoner : GoodIn wsX3_succeeds (wsV RX3 46 RX2 yX2_hasPrisoner wsX2_hasPrisoner) := goodIn_app (goodIn_of _ (by decide +kernel)) ggX3_succeeds_X2_hasPrisoner
set_option maxRecDepth 20000 in
theorem ggX3_succeeds_X2_isBanned : GoodIn wsX3_succeeds wsX2_isBanned := goodIn_r _ [190, 38, 20, 21, 8, 22, 214, 215, 216, 217, 218, 219, 220, 221, 222, 223, 224, 225, 226, 227, 228] (by decide +kernel) (by decide +kernel)
set_option maxRecDepth 20000 in
theorem gX3_succeeds_X2_isBanned : GoodIn wsX3_succeeds (wsV RX3 54 RX2 yX2_isBanned wsX2_isBanned) := goodIn_app (goodIn_of _ (by decide +kernel)) ggX3_succeeds_X2_isBanned
theorem dX3_succeeds_0 : decode cX3_succeeds 0 = .ok (.iload_n 1, 1) := by decide +kernel
theorem dX3_succeeds_1 : decode cX3_succeeds 1 = .ok (.sipush 1000, 3) := by decide +kernel
theorem dX3_succeeds_4 : decode cX3_succeeds 4 = .ok (.idiv, 1) := by decide +kernel
theorem dX3_succeeds_5 : decode cX3_succeeds 5 = .ok (.bipush 10, 2) := by decide +kernel
theorem dX3_succeeds_7 : decode cX3_succeeds 7 = .ok (.irem, 1) := by decide +kernel
theorem dX3_succeeds_8 : decode cX3_succeeds 8 = .ok (.istore_n 2, 1) := by decide +kernel
theorem dX3_succeeds_9 : decode cX3_succeeds 9 = .ok (.iload_n 1, 1) := by decide +kernel
theorem dX3_succeeds_10 : decode cX3_succeeds 10 = .ok (.bipush 100, 2) := by decide +kernel
theorem dX3_succeeds_12 : decode cX3_succeeds 12 = .ok (.idiv, 1) := by decide +kernel
theorem dX3_succeeds_13 : decode cX3_succeeds 13 = .ok (.bipush 10, 2) := by decide +kernel
theorem dX3_succeeds_15 : decode cX3_succeeds 15 = .ok (.irem, 1) := by decide +kernel
theorem dX3_succeeds_16 : decode cX3_succeeds 16 = .ok (.istore_n 3, 1) := by decide +kernel
theorem dX3_succeeds_17 : decode cX3_succeeds 17 = .ok (.iload_n 1, 1) := by decide +kernel
theorem dX3_succeeds_18 : decode cX3_succeeds 18 = .ok (.bipush 10, 2) := by decide +kernel
theorem dX3_succeeds_20 : decode cX3_succeeds 20 = .ok (.idiv, 1) := by decide +kernel
theorem dX3_succeeds_21 : decode cX3_succeeds 21 = .ok (.bipush 10, 2) := by decide +kernel
theorem dX3_succeeds_23 : decode cX3_succeeds 23 = .ok (.irem, 1) := by decide +kernel
theorem dX3_succeeds_24 : decode cX3_succeeds 24 = .ok (.istore 4, 2) := by decide +kernel
theorem dX3_succeeds_26 : decode cX3_succeeds 26 = .ok (.iload_n 1, 1) := by decide +kernel
theorem dX3_succeeds_27 : decode cX3_succeeds 27 = .ok (.bipush 10, 2) := by decide +kernel
theorem dX3_succeeds_29 : decode cX3_succeeds 29 = .ok (.irem, 1) := by decide +kernel
theorem dX3_succeeds_30 : decode cX3_succeeds 30 = .ok (.istore 5, 2) := by decide +kernel
theorem dX3_succeeds_32 : decode cX3_succeeds 32 = .ok (.iload_n 1, 1) := by decide +kernel
theorem dX3_succeeds_33 : decode cX3_succeeds 33 = .ok (.bipush 100, 2) := by decide +kernel
theorem dX3_succeeds_35 : decode cX3_succeeds 35 = .ok (.irem, 1) := by decide +kernel
theorem dX3_succeeds_36 : decode cX3_succeeds 36 = .ok (.istore 6, 2) := by decide +kernel
theorem dX3_succeeds_38 : decode cX3_succeeds 38 = .ok (.iload_n 1, 1) := by decide +kernel
theorem dX3_succeeds_39 : decode cX3_succeeds 39 = .ok (.sipush 10000, 3) := by decide +kernel
theorem dX3_succeeds_42 : decode cX3_succeeds 42 = .ok (.idiv, 1) := by decide +kernel
theorem dX3_succeeds_43 : decode cX3_succeeds 43 = .ok (.tableswitch 316 1 9 #[49, 73, 98, 135, 175, 195, 229, 258, 290], 49) := by decide +kernel
theorem dX3_succeeds_92 : decode cX3_succeeds 92 = .ok (.aload_n 0, 1) := by decide +kernel
theorem dX3_succeeds_93 : decode cX3_succeeds 93 = .ok (.iload_n 2, 1) := by decide +kernel
theorem dX3_succeeds_94 : decode cX3_succeeds 94 = .ok (.iload_n 3, 1) := by decide +kernel
theorem dX3_succeeds_95 : decode cX3_succeeds 95 = .ok (.aload_n 0, 1) := by decide +kernel
theorem dX3_succeeds_96 : decode cX3_succeeds 96 = .ok (.getfield 13, 3) := by decide +kernel
theorem dX3_succeeds_99 : decode cX3_succeeds 99 = .ok (.iload 4, 2) := by decide +kernel
theorem dX3_succeeds_101 : decode cX3_succeeds 101 = .ok (.iadd, 1) := by decide +kernel
theorem dX3_succeeds_102 : decode cX3_succeeds 102 = .ok (.iload 5, 2) := by decide +kernel
theorem dX3_succeeds_104 : decode cX3_succeeds 104 = .ok (.invokevirtual 19, 3) := by decide +kernel
theorem dX3_succeeds_107 : decode cX3_succeeds 107 = .ok (.ifCond .lt 7, 3) := by decide +kernel
theorem dX3_succeeds_110 : decode cX3_succeeds 110 = .ok (.iconst 1, 1) := by decide +kernel
theorem dX3_succeeds_111 : decode cX3_succeeds 111 = .ok (.goto 4, 3) := by decide +kernel
theorem dX3_succeeds_114 : decode cX3_succeeds 114 = .ok (.iconst 0, 1) := by decide +kernel
theorem dX3_succeeds_115 : decode cX3_succeeds 115 = .ok (.ireturn, 1) := by decide +kernel
theorem dX3_succeeds_116 : decode cX3_succeeds 116 = .ok (.iload 4, 2) := by decide +kernel
theorem dX3_succeeds_118 : decode cX3_succeeds 118 = .ok (.ifCond .ne 21, 3) := by decide +kernel
theorem dX3_succeeds_121 : decode cX3_succeeds 121 = .ok (.iload 5, 2) := by decide +kernel
theorem dX3_succeeds_123 : decode cX3_succeeds 123 = .ok (.ifCond .ne 16, 3) := by decide +kernel
theorem dX3_succeeds_126 : decode cX3_succeeds 126 = .ok (.aload_n 0, 1) := by decide +kernel
theorem dX3_succeeds_127 : decode cX3_succeeds 127 = .ok (.iload_n 2, 1) := by decide +kernel
theorem dX3_succeeds_128 : decode cX3_succeeds 128 = .ok (.iload_n 3, 1) := by decide +kernel
theorem dX3_succeeds_129 : decode cX3_succeeds 129 = .ok (.invokevirtual 23, 3) := by decide +kernel
theorem dX3_succeeds_132 : decode cX3_succeeds 132 = .ok (.ifCond .lt 7, 3) := by decide +kernel
theorem dX3_succeeds_135 : decode cX3_succeeds 135 = .ok (.iconst 1, 1) := by decide +kernel
theorem dX3_succeeds_136 : decode cX3_succeeds 136 = .ok (.goto 4, 3) := by decide +kernel
theorem dX3_succeeds_139 : decode cX3_succeeds 139 = .ok (.iconst 0, 1) := by decide +kernel
theorem dX3_succeeds_140 : decode cX3_succeeds 140 = .ok (.ireturn, 1) := by decide +kernel
theorem dX3_succeeds_141 : decode cX3_succeeds 141 = .ok (.iload 4, 2) := by decide +kernel
theorem dX3_succeeds_143 : decode cX3_succeeds 143 = .ok (.ifCond .ne 33, 3) := by decide +kernel
theorem dX3_succeeds_146 : decode cX3_succeeds 146 = .ok (.iload 5, 2) := by decide +kernel
theorem dX3_succeeds_148 : decode cX3_succeeds 148 = .ok (.iconst 1, 1) := by decide +kernel
theorem dX3_succeeds_149 : decode cX3_succeeds 149 = .ok (.if_icmp .gt 27, 3) := by decide +kernel
theorem dX3_succeeds_152 : decode cX3_succeeds 152 = .ok (.aload_n 0, 1) := by decide +kernel
theorem dX3_succeeds_153 : decode cX3_succeeds 153 = .ok (.iload_n 2, 1) := by decide +kernel
theorem dX3_succeeds_154 : decode cX3_succeeds 154 = .ok (.iload_n 3, 1) := by decide +kernel
theorem dX3_succeeds_155 : decode cX3_succeeds 155 = .ok (.iload 5, 2) := by decide +kernel
theorem dX3_succeeds_157 : decode cX3_succeeds 157 = .ok (.iconst 1, 1) := by decide +kernel
theorem dX3_succeeds_158 : decode cX3_succeeds 158 = .ok (.if_icmp .ne 7, 3) := by decide +kernel
theorem dX3_succeeds_161 : decode cX3_succeeds 161 = .ok (.iconst 1, 1) := by decide +kernel
theorem dX3_succeeds_162 : decode cX3_succeeds 162 = .ok (.goto 4, 3) := by decide +kernel
theorem dX3_succeeds_165 : decode cX3_succeeds 165 = .ok (.iconst 0, 1) := by decide +kernel
theorem dX3_succeeds_166 : decode cX3_succeeds 166 = .ok (.invokevirtual 27, 3) := by decide +kernel
theorem dX3_succeeds_169 : decode cX3_succeeds 169 = .ok (.ifCond .lt 7, 3) := by decide +kernel
theorem dX3_succeeds_172 : decode cX3_succeeds 172 = .ok (.iconst 1, 1) := by decide +kernel
theorem dX3_succeeds_173 : decode cX3_succeeds 173 = .ok (.goto 4, 3) := by decide +kernel
theorem dX3_succeeds_176 : decode cX3_succeeds 176 = .ok (.iconst 0, 1) := by decide +kernel
theorem dX3_succeeds_177 : decode cX3_succeeds 177 = .ok (.ireturn, 1) := by decide +kernel
theorem dX3_succeeds_178 : decode cX3_succeeds 178 = .ok (.iload_n 3, 1) := by decide +kernel
theorem dX3_succeeds_179 : decode cX3_succeeds 179 = .ok (.ifCond .ne 37, 3) := by decide +kernel
theorem dX3_succeeds_182 : decode cX3_succeeds 182 = .ok (.iload 4, 2) := by decide +kernel
theorem dX3_succeeds_184 : decode cX3_succeeds 184 = .ok (.ifCond .ne 32, 3) := by decide +kernel
theorem dX3_succeeds_187 : decode cX3_succeeds 187 = .ok (.iload 5, 2) := by decide +kernel
theorem dX3_succeeds_189 : decode cX3_succeeds 189 = .ok (.iconst 1, 1) := by decide +kernel
theorem dX3_succeeds_190 : decode cX3_succeeds 190 = .ok (.if_icmp .gt 26, 3) := by decide +kernel
theorem dX3_succeeds_193 : decode cX3_succeeds 193 = .ok (.aload_n 0, 1) := by decide +kernel
theorem dX3_succeeds_194 : decode cX3_succeeds 194 = .ok (.iload_n 2, 1) := by decide +kernel
theorem dX3_succeeds_195 : decode cX3_succeeds 195 = .ok (.iload 5, 2) := by decide +kernel
theorem dX3_succeeds_197 : decode cX3_succeeds 197 = .ok (.iconst 1, 1) := by decide +kernel
theorem dX3_succeeds_198 : decode cX3_succeeds 198 = .ok (.if_icmp .ne 7, 3) := by decide +kernel
theorem dX3_succeeds_201 : decode cX3_succeeds 201 = .ok (.iconst 1, 1) := by decide +kernel
theorem dX3_succeeds_202 : decode cX3_succeeds 202 = .ok (.goto 4, 3) := by decide +kernel
theorem dX3_succeeds_205 : decode cX3_succeeds 205 = .ok (.iconst 0, 1) := by decide +kernel
theorem dX3_succeeds_206 : decode cX3_succeeds 206 = .ok (.invokevirtual 31, 3) := by decide +kernel
theorem dX3_succeeds_209 : decode cX3_succeeds 209 = .ok (.ifCond .lt 7, 3) := by decide +kernel
theorem dX3_succeeds_212 : decode cX3_succeeds 212 = .ok (.iconst 1, 1) := by decide +kernel
theorem dX3_succeeds_213 : decode cX3_succeeds 213 = .ok (.goto 4, 3) := by decide +kernel
theorem dX3_succeeds_216 : decode cX3_succeeds 216 = .ok (.iconst 0, 1) := by decide +kernel
theorem dX3_succeeds_217 : decode cX3_succeeds 217 = .ok (.ireturn, 1) := by decide +kernel
theorem dX3_succeeds_218 : decode cX3_succeeds 218 = .ok (.iload_n 3, 1) := by decide +kernel
theorem dX3_succeeds_219 : decode cX3_succeeds 219 = .ok (.ifCond .ne 17, 3) := by decide +kernel
theorem dX3_succeeds_222 : decode cX3_succeeds 222 = .ok (.aload_n 0, 1) := by decide +kernel
theorem dX3_succeeds_223 : decode cX3_succeeds 223 = .ok (.iload_n 2, 1) := by decide +kernel
theorem dX3_succeeds_224 : decode cX3_succeeds 224 = .ok (.iload 6, 2) := by decide +kernel
theorem dX3_succeeds_226 : decode cX3_succeeds 226 = .ok (.invokevirtual 35, 3) := by decide +kernel
theorem dX3_succeeds_229 : decode cX3_succeeds 229 = .ok (.ifCond .lt 7, 3) := by decide +kernel
theorem dX3_succeeds_232 : decode cX3_succeeds 232 = .ok (.iconst 1, 1) := by decide +kernel
theorem dX3_succeeds_233 : decode cX3_succeeds 233 = .ok (.goto 4, 3) := by decide +kernel
theorem dX3_succeeds_236 : decode cX3_succeeds 236 = .ok (.iconst 0, 1) := by decide +kernel
theorem dX3_succeeds_237 : decode cX3_succeeds 237 = .ok (.ireturn, 1) := by decide +kernel
theorem dX3_succeeds_238 : decode cX3_succeeds 238 = .ok (.iload_n 2, 1) := by decide +kernel
theorem dX3_succeeds_239 : decode cX3_succeeds 239 = .ok (.ifCond .ne 31, 3) := by decide +kernel
theorem dX3_succeeds_242 : decode cX3_succeeds 242 = .ok (.iload_n 3, 1) := by decide +kernel
theorem dX3_succeeds_243 : decode cX3_succeeds 243 = .ok (.ifCond .ne 27, 3) := by decide +kernel
theorem dX3_succeeds_246 : decode cX3_succeeds 246 = .ok (.iload 6, 2) := by decide +kernel
theorem dX3_succeeds_248 : decode cX3_succeeds 248 = .ok (.iconst 1, 1) := by decide +kernel
theorem dX3_succeeds_249 : decode cX3_succeeds 249 = .ok (.bipush 30, 2) := by decide +kernel
theorem dX3_succeeds_251 : decode cX3_succeeds 251 = .ok (.invokestatic 38, 3) := by decide +kernel
theorem dX3_succeeds_254 : decode cX3_succeeds 254 = .ok (.ifCond .eq 16, 3) := by decide +kernel
theorem dX3_succeeds_257 : decode cX3_succeeds 257 = .ok (.aload_n 0, 1) := by decide +kernel
theorem dX3_succeeds_258 : decode cX3_succeeds 258 = .ok (.iload 6, 2) := by decide +kernel
theorem dX3_succeeds_260 : decode cX3_succeeds 260 = .ok (.invokevirtual 42, 3) := by decide +kernel
theorem dX3_succeeds_263 : decode cX3_succeeds 263 = .ok (.ifCond .lt 7, 3) := by decide +kernel
theorem dX3_succeeds_266 : decode cX3_succeeds 266 = .ok (.iconst 1, 1) := by decide +kernel
theorem dX3_succeeds_267 : decode cX3_succeeds 267 = .ok (.goto 4, 3) := by decide +kernel
theorem dX3_succeeds_270 : decode cX3_succeeds 270 = .ok (.iconst 0, 1) := by decide +kernel
theorem dX3_succeeds_271 : decode cX3_succeeds 271 = .ok (.ireturn, 1) := by decide +kernel
theorem dX3_succeeds_272 : decode cX3_succeeds 272 = .ok (.iload_n 3, 1) := by decide +kernel
theorem dX3_succeeds_273 : decode cX3_succeeds 273 = .ok (.ifCond .ne 26, 3) := by decide +kernel
theorem dX3_succeeds_276 : decode cX3_succeeds 276 = .ok (.aload_n 0, 1) := by decide +kernel
theorem dX3_succeeds_277 : decode cX3_succeeds 277 = .ok (.iload_n 2, 1) := by decide +kernel
theorem dX3_succeeds_278 : decode cX3_succeeds 278 = .ok (.invokevirtual 46, 3) := by decide +kernel
theorem dX3_succeeds_281 : decode cX3_succeeds 281 = .ok (.ifCond .eq 18, 3) := by decide +kernel
theorem dX3_succeeds_284 : decode cX3_succeeds 284 = .ok (.aload_n 0, 1) := by decide +kernel
theorem dX3_succeeds_285 : decode cX3_succeeds 285 = .ok (.getfield 50, 3) := by decide +kernel
theorem dX3_succeeds_288 : decode cX3_succeeds 288 = .ok (.iload_n 2, 1) := by decide +kernel
theorem dX3_succeeds_289 : decode cX3_succeeds 289 = .ok (.iaload, 1) := by decide +kernel
theorem dX3_succeeds_290 : decode cX3_succeeds 290 = .ok (.iload 6, 2) := by decide +kernel
theorem dX3_succeeds_292 : decode cX3_succeeds 292 = .ok (.if_icmp .lt 7, 3) := by decide +kernel
theorem dX3_succeeds_295 : decode cX3_succeeds 295 = .ok (.iconst 1, 1) := by decide +kernel
theorem dX3_succeeds_296 : decode cX3_succeeds 296 = .ok (.goto 4, 3) := by decide +kernel
theorem dX3_succeeds_299 : decode cX3_succeeds 299 = .ok (.iconst 0, 1) := by decide +kernel
theorem dX3_succeeds_300 : decode cX3_succeeds 300 = .ok (.ireturn, 1) := by decide +kernel
theorem dX3_succeeds_301 : decode cX3_succeeds 301 = .ok (.iload_n 3, 1) := by decide +kernel
theorem dX3_succeeds_302 : decode cX3_succeeds 302 = .ok (.ifCond .ne 29, 3) := by decide +kernel
theorem dX3_succeeds_305 : decode cX3_succeeds 305 = .ok (.iload 4, 2) := by decide +kernel
theorem dX3_succeeds_307 : decode cX3_succeeds 307 = .ok (.ifCond .ne 24, 3) := by decide +kernel
theorem dX3_succeeds_310 : decode cX3_succeeds 310 = .ok (.iload 5, 2) := by decide +kernel
theorem dX3_succeeds_312 : decode cX3_succeeds 312 = .ok (.ifCond .ne 19, 3) := by decide +kernel
theorem dX3_succeeds_315 : decode cX3_succeeds 315 = .ok (.aload_n 0, 1) := by decide +kernel
theorem dX3_succeeds_316 : decode cX3_succeeds 316 = .ok (.iload_n 2, 1) := by decide +kernel
theorem dX3_succeeds_317 : decode cX3_succeeds 317 = .ok (.aload_n 0, 1) := by decide +kernel
theorem dX3_succeeds_318 : decode cX3_succeeds 318 = .ok (.getfield 13, 3) := by decide +kernel
theorem dX3_succeeds_321 : decode cX3_succeeds 321 = .ok (.invokevirtual 54, 3) := by decide +kernel
theorem dX3_succeeds_324 : decode cX3_succeeds 324 = .ok (.ifCond .ne 7, 3) := by decide +kernel
theorem dX3_succeeds_327 : decode cX3_succeeds 327 = .ok (.iconst 1, 1) := by decide +kernel
theorem dX3_succeeds_328 : decode cX3_succeeds 328 = .ok (.goto 4, 3) := by decide +kernel
theorem dX3_succeeds_331 : decode cX3_succeeds 331 = .ok (.iconst 0, 1) := by decide +kernel
theorem dX3_succeeds_332 : decode cX3_succeeds 332 = .ok (.ireturn, 1) := by decide +kernel
theorem dX3_succeeds_333 : decode cX3_succeeds 333 = .ok (.iload_n 2, 1) := by decide +kernel
theorem dX3_succeeds_334 : decode cX3_succeeds 334 = .ok (.ifCond .ne 23, 3) := by decide +kernel
theorem dX3_succeeds_337 : decode cX3_succeeds 337 = .ok (.iload_n 3, 1) := by decide +kernel
theorem dX3_succeeds_338 : decode cX3_succeeds 338 = .ok (.ifCond .ne 19, 3) := by decide +kernel
theorem dX3_succeeds_341 : decode cX3_succeeds 341 = .ok (.aload_n 0, 1) := by decide +kernel
theorem dX3_succeeds_342 : decode cX3_succeeds 342 = .ok (.getfield 58, 3) := by decide +kernel
theorem dX3_succeeds_345 : decode cX3_succeeds 345 = .ok (.getfield 62, 3) := by decide +kernel
theorem dX3_succeeds_348 : decode cX3_succeeds 348 = .ok (.iload 6, 2) := by decide +kernel
theorem dX3_succeeds_350 : decode cX3_succeeds 350 = .ok (.if_icmp .gt 7, 3) := by decide +kernel
theorem dX3_succeeds_353 : decode cX3_succeeds 353 = .ok (.iconst 1, 1) := by decide +kernel
theorem dX3_succeeds_354 : decode cX3_succeeds 354 = .ok (.goto 4, 3) := by decide +kernel
theorem dX3_succeeds_357 : decode cX3_succeeds 357 = .ok (.iconst 0, 1) := by decide +kernel
theorem dX3_succeeds_358 : decode cX3_succeeds 358 = .ok (.ireturn, 1) := by decide +kernel
theorem dX3_succeeds_359 : decode cX3_succeeds 359 = .ok (.iconst 0, 1) := by decide +kernel
theorem dX3_succeeds_360 : decode cX3_succeeds 360 = .ok (.ireturn, 1) := by decide +kernel
set_option maxRecDepth 20000 in
theorem ggX3_takeTurn_X2_tryBook : GoodIn wsX3_takeTurn wsX2_tryBook := goodIn_r _ [6, 7, 8, 9, 10, 5, 11, 12, 13, 14, 15, 16, 17, 18, 19, 20, 21, 22, 23, 24, 25, 26, 27, 28, 29, 30, 31, 32, 33, 34, 35, 36, 37, 38, 39, 40, 41, 42, 43, 44, 45, 46, 47, 48, 49, 50, 51, 52, 53, 54, 55, 56, 57, 58, 59, 60, 61, 62, 63, 64, 65, 66, 67, 68, 69, 70, 71, 72, 73, 74, 75, 76, 77, 78, 79, 80, 81, 214, 215, 216, 217, 218, 219, 220, 221, 222, 223, 224, 225, 226, 227, 228, 229, 230] (by decide +kernel) (by decide +kernel)
set_option maxRecDepth 20000 in
theorem gX3_takeTurn_X2_tryBook : GoodIn wsX3_takeTurn (wsV RX3 19 RX2 yX2_tryBook wsX2_tryBook) := goodIn_app (goodIn_of _ (by decide +kernel)) ggX3_takeTurn_X2_tryBook
set_option maxRecDepth 20000 in
theorem ggX3_takeTurn_X2_tryWish : GoodIn wsX3_takeTurn wsX2_tryWish := goodIn_r _ [85, 33, 86, 87, 8, 9, 10, 5, 11, 12, 13, 14, 15, 16, 17, 18, 19, 38, 39, 40, 88, 89, 90, 91, 92, 93, 94, 95, 96, 97, 98, 214, 215, 216, 217, 218, 219, 220, 221, 222, 223, 224, 225, 226, 227, 228, 231, 232] (by decide +kernel) (by decide +kernel)
set_option maxRecDepth 20000 in
theorem gX3_takeTurn_X2_tryWish : GoodIn wsX3_takeTurn (wsV RX3 23 RX2 yX2_tryWish wsX2_tryWish) := goodIn_app (goodIn_of _ (by decide +kernel)) ggX3_takeTurn_X2_tryWish
set_option maxRecDepth 20000 in
theorem ggX3_takeTurn_X2_tryList : GoodIn wsX3_takeTurn wsX2_tryList := goodIn_r _ [102, 33, 8, 9, 10, 5, 11, 12, 13, 14, 15, 16, 17, 18, 19, 103, 39, 104, 214, 215, 216, 217, 218, 219, 220, 221, 222, 223, 224, 225, 226, 227, 228] (by decide +kernel) (by decide +kernel)
set_option maxRecDepth 20000 in
theorem gX3_takeTurn_X2_tryList : GoodIn wsX3_takeTurn (wsV RX3 27 RX2 yX2_tryList wsX2_tryList) := goodIn_app (goodIn_of _ (by decide +kernel)) ggX3_takeTurn_X2_tryList
set_option maxRecDepth 20000 in
theorem ggX3_takeTurn_X2_tryCarry : GoodIn wsX3_takeTurn wsX2_tryCarry := goodIn_r _ [108, 109, 17, 18, 5, 19, 103, 39, 104, 214, 215, 216, 217, 218, 219, 220, 221, 222, 223, 224, 225, 226, 227, 228] (by decide +kernel) (by decide +kernel)
set_option maxRecDepth 20000 in
theorem gX3_takeTurn_X2_tryCarry : GoodIn wsX3_takeTurn (wsV RX3 31 RX2 yX2_tryCarry wsX2_tryCarry) := goodIn_app (goodIn_of _ (by decide +kernel)) ggX3_takeTurn_X2_tryCarry
set_option maxRecDepth 20000 in
theorem ggX3_takeTurn_X2_tryLate : GoodIn wsX3_takeTurn wsX2_tryLate := goodIn_r _ [113, 7, 114, 115, 116, 47, 117, 49, 118, 39, 119, 120, 121, 122, 123, 50, 124, 125, 126, 127, 128, 214, 215, 216, 217, 218, 219, 220, 221, 222, 223, 224, 225, 226, 227, 228, 229, 230] (by decide +kernel) (by decide +kernel)
set_option maxRecDepth 20000 in
theorem gX3_takeTurn_X2_tryLate : GoodIn wsX3_takeTurn (wsV RX3 67 RX2 yX2_tryLate wsX2_tryLate) := goodIn_app (goodIn_of _ (by decide +kernel)) ggX3_takeTurn_X2_tryLate
set_option maxRecDepth 20000 in
theorem ggX3_takeTurn_X2_letDaysPass : GoodIn wsX3_takeTurn wsX2_letDaysPass := goodIn_r _ [132, 133, 7, 134, 24, 135, 136, 137, 5, 138, 86, 87, 139, 140, 141, 142, 91, 143, 93, 144, 145, 146, 147, 148, 149, 150, 151, 98, 152, 153, 154, 155, 156, 157, 158, 159, 160, 161, 162, 163, 164, 165, 166, 167, 61, 62, 63, 47, 64, 49, 29, 30, 31, 32, 33, 34, 35, 36, 37, 12, 13, 14, 15, 16, 17, 18, 19, 38, 39, 40, 41, 42, 43, 44, 45, 46, 48, 50, 51, 52, 53, 54, 55, 56, 57, 58, 59, 60, 65, 66, 67, 68, 69, 70, 71, 72, 73, 74, 75, 76, 77, 78, 79, 80, 81, 168, 169, 170, 171, 172, 120, 121, 122, 123, 124, 115, 116, 117, 173, 174, 175, 176, 177, 178, 179, 180, 8, 9, 10, 11, 181, 182, 183, 184, 109, 185, 186, 187, 188, 189, 190, 191, 192, 193, 194, 195, 196, 197, 103, 104, 198, 199, 200, 201, 202, 203, 204, 205, 206, 207, 208, 209, 210, 211, 212, 213, 214, 215, 216, 217, 218, 219, 220, 221, 222, 223, 224, 225, 226, 227, 228, 229, 230, 231, 232] (by decide +kernel) (by decide +kernel)
set_option maxRecDepth 20000 in
theorem gX3_takeTurn_X2_letDaysPass : GoodIn wsX3_takeTurn (wsV RX3 42 RX2 yX2_letDaysPass wsX2_letDaysPass) := goodIn_app (goodIn_of _ (by decide +kernel)) ggX3_takeTurn_X2_letDaysPass
theorem dX3_takeTurn_0 : decode cX3_takeTurn 0 = .ok (.iload_n 1, 1) := by decide +kernel
theorem dX3_takeTurn_1 : decode cX3_takeTurn 1 = .ok (.bipush 8, 2) := by decide +kernel
theorem dX3_takeTurn_3 : decode cX3_takeTurn 3 = .ok (.idiv, 1) := by decide +kernel
theorem dX3_takeTurn_4 : decode cX3_takeTurn 4 = .ok (.bipush 8, 2) := by decide +kernel
theorem dX3_takeTurn_6 : decode cX3_takeTurn 6 = .ok (.irem, 1) := by decide +kernel
theorem dX3_takeTurn_7 : decode cX3_takeTurn 7 = .ok (.istore_n 2, 1) := by decide +kernel
theorem dX3_takeTurn_8 : decode cX3_takeTurn 8 = .ok (.iload_n 1, 1) := by decide +kernel
theorem dX3_takeTurn_9 : decode cX3_takeTurn 9 = .ok (.bipush 64, 2) := by decide +kernel
theorem dX3_takeTurn_11 : decode cX3_takeTurn 11 = .ok (.idiv, 1) := by decide +kernel
theorem dX3_takeTurn_12 : decode cX3_takeTurn 12 = .ok (.bipush 10, 2) := by decide +kernel
theorem dX3_takeTurn_14 : decode cX3_takeTurn 14 = .ok (.irem, 1) := by decide +kernel
theorem dX3_takeTurn_15 : decode cX3_takeTurn 15 = .ok (.istore_n 3, 1) := by decide +kernel
theorem dX3_takeTurn_16 : decode cX3_takeTurn 16 = .ok (.iload_n 1, 1) := by decide +kernel
theorem dX3_takeTurn_17 : decode cX3_takeTurn 17 = .ok (.bipush 8, 2) := by decide +kernel
theorem dX3_takeTurn_19 : decode cX3_takeTurn 19 = .ok (.irem, 1) := by decide +kernel
theorem dX3_takeTurn_20 : decode cX3_takeTurn 20 = .ok (.tableswitch 124 0 5 #[40, 40, 70, 80, 91, 101], 40) := by decide +kernel
theorem dX3_takeTurn_60 : decode cX3_takeTurn 60 = .ok (.aload_n 0, 1) := by decide +kernel
theorem dX3_takeTurn_61 : decode cX3_takeTurn 61 = .ok (.iload_n 2, 1) := by decide +kernel
theorem dX3_takeTurn_62 : decode cX3_takeTurn 62 = .ok (.iload_n 3, 1) := by decide +kernel
theorem dX3_takeTurn_63 : decode cX3_takeTurn 63 = .ok (.aload_n 0, 1) := by decide +kernel
theorem dX3_takeTurn_64 : decode cX3_takeTurn 64 = .ok (.getfield 13, 3) := by decide +kernel
theorem dX3_takeTurn_67 : decode cX3_takeTurn 67 = .ok (.iload_n 1, 1) := by decide +kernel
theorem dX3_takeTurn_68 : decode cX3_takeTurn 68 = .ok (.sipush 1024, 3) := by decide +kernel
theorem dX3_takeTurn_71 : decode cX3_takeTurn 71 = .ok (.idiv, 1) := by decide +kernel
theorem dX3_takeTurn_72 : decode cX3_takeTurn 72 = .ok (.iconst 5, 1) := by decide +kernel
theorem dX3_takeTurn_73 : decode cX3_takeTurn 73 = .ok (.irem, 1) := by decide +kernel
theorem dX3_takeTurn_74 : decode cX3_takeTurn 74 = .ok (.iadd, 1) := by decide +kernel
theorem dX3_takeTurn_75 : decode cX3_takeTurn 75 = .ok (.iload_n 1, 1) := by decide +kernel
theorem dX3_takeTurn_76 : decode cX3_takeTurn 76 = .ok (.sipush 8192, 3) := by decide +kernel
theorem dX3_takeTurn_79 : decode cX3_takeTurn 79 = .ok (.idiv, 1) := by decide +kernel
theorem dX3_takeTurn_80 : decode cX3_takeTurn 80 = .ok (.bipush 8, 2) := by decide +kernel
theorem dX3_takeTurn_82 : decode cX3_takeTurn 82 = .ok (.irem, 1) := by decide +kernel
theorem dX3_takeTurn_83 : decode cX3_takeTurn 83 = .ok (.invokevirtual 19, 3) := by decide +kernel
theorem dX3_takeTurn_86 : decode cX3_takeTurn 86 = .ok (.pop, 1) := by decide +kernel
theorem dX3_takeTurn_87 : decode cX3_takeTurn 87 = .ok (.goto 63, 3) := by decide +kernel
theorem dX3_takeTurn_90 : decode cX3_takeTurn 90 = .ok (.aload_n 0, 1) := by decide +kernel
theorem dX3_takeTurn_91 : decode cX3_takeTurn 91 = .ok (.iload_n 2, 1) := by decide +kernel
theorem dX3_takeTurn_92 : decode cX3_takeTurn 92 = .ok (.iload_n 3, 1) := by decide +kernel
theorem dX3_takeTurn_93 : decode cX3_takeTurn 93 = .ok (.invokevirtual 23, 3) := by decide +kernel
theorem dX3_takeTurn_96 : decode cX3_takeTurn 96 = .ok (.pop, 1) := by decide +kernel
theorem dX3_takeTurn_97 : decode cX3_takeTurn 97 = .ok (.goto 53, 3) := by decide +kernel
theorem dX3_takeTurn_100 : decode cX3_takeTurn 100 = .ok (.aload_n 0, 1) := by decide +kernel
theorem dX3_takeTurn_101 : decode cX3_takeTurn 101 = .ok (.iload_n 2, 1) := by decide +kernel
theorem dX3_takeTurn_102 : decode cX3_takeTurn 102 = .ok (.iload_n 3, 1) := by decide +kernel
theorem dX3_takeTurn_103 : decode cX3_takeTurn 103 = .ok (.iconst 1, 1) := by decide +kernel
theorem dX3_takeTurn_104 : decode cX3_takeTurn 104 = .ok (.invokevirtual 27, 3) := by decide +kernel
theorem dX3_takeTurn_107 : decode cX3_takeTurn 107 = .ok (.pop, 1) := by decide +kernel
theorem dX3_takeTurn_108 : decode cX3_takeTurn 108 = .ok (.goto 42, 3) := by decide +kernel
theorem dX3_takeTurn_111 : decode cX3_takeTurn 111 = .ok (.aload_n 0, 1) := by decide +kernel
theorem dX3_takeTurn_112 : decode cX3_takeTurn 112 = .ok (.iload_n 3, 1) := by decide +kernel
theorem dX3_takeTurn_113 : decode cX3_takeTurn 113 = .ok (.iconst 1, 1) := by decide +kernel
theorem dX3_takeTurn_114 : decode cX3_takeTurn 114 = .ok (.invokevirtual 31, 3) := by decide +kernel
theorem dX3_takeTurn_117 : decode cX3_takeTurn 117 = .ok (.pop, 1) := by decide +kernel
theorem dX3_takeTurn_118 : decode cX3_takeTurn 118 = .ok (.goto 32, 3) := by decide +kernel
theorem dX3_takeTurn_121 : decode cX3_takeTurn 121 = .ok (.aload_n 0, 1) := by decide +kernel
theorem dX3_takeTurn_122 : decode cX3_takeTurn 122 = .ok (.iload_n 1, 1) := by decide +kernel
theorem dX3_takeTurn_123 : decode cX3_takeTurn 123 = .ok (.bipush 8, 2) := by decide +kernel
theorem dX3_takeTurn_125 : decode cX3_takeTurn 125 = .ok (.idiv, 1) := by decide +kernel
theorem dX3_takeTurn_126 : decode cX3_takeTurn 126 = .ok (.bipush 24, 2) := by decide +kernel
theorem dX3_takeTurn_128 : decode cX3_takeTurn 128 = .ok (.irem, 1) := by decide +kernel
theorem dX3_takeTurn_129 : decode cX3_takeTurn 129 = .ok (.iload_n 1, 1) := by decide +kernel
theorem dX3_takeTurn_130 : decode cX3_takeTurn 130 = .ok (.sipush 1024, 3) := by decide +kernel
theorem dX3_takeTurn_133 : decode cX3_takeTurn 133 = .ok (.idiv, 1) := by decide +kernel
theorem dX3_takeTurn_134 : decode cX3_takeTurn 134 = .ok (.bipush 40, 2) := by decide +kernel
theorem dX3_takeTurn_136 : decode cX3_takeTurn 136 = .ok (.irem, 1) := by decide +kernel
theorem dX3_takeTurn_137 : decode cX3_takeTurn 137 = .ok (.invokevirtual 67, 3) := by decide +kernel
theorem dX3_takeTurn_140 : decode cX3_takeTurn 140 = .ok (.pop, 1) := by decide +kernel
theorem dX3_takeTurn_141 : decode cX3_takeTurn 141 = .ok (.goto 9, 3) := by decide +kernel
theorem dX3_takeTurn_144 : decode cX3_takeTurn 144 = .ok (.aload_n 0, 1) := by decide +kernel
theorem dX3_takeTurn_145 : decode cX3_takeTurn 145 = .ok (.iconst 1, 1) := by decide +kernel
theorem dX3_takeTurn_146 : decode cX3_takeTurn 146 = .ok (.invokevirtual 42, 3) := by decide +kernel
theorem dX3_takeTurn_149 : decode cX3_takeTurn 149 = .ok (.pop, 1) := by decide +kernel
theorem dX3_takeTurn_150 : decode cX3_takeTurn 150 = .ok (.return_, 1) := by decide +kernel
set_option maxRecDepth 20000 in
theorem ggX4_init_X2_init : GoodIn wsX4_init wsX2_init := goodIn_r _ [9, 10, 2, 3, 11, 12, 13, 14, 15, 16, 17, 18, 19, 20, 21, 22, 23, 24, 25, 26, 27, 28, 29, 30, 31, 32, 33, 34, 35, 36, 37, 38, 39, 40, 41, 42, 43, 44, 45, 46, 47, 48, 49, 50, 51, 52, 53, 54, 55, 56, 57, 58, 59, 62, 63, 64, 65] (by decide +kernel) (by decide +kernel)
set_option maxRecDepth 20000 in
theorem gX4_init_X2_init_n9 : GoodIn wsX4_init (wsX2_init) := ggX4_init_X2_init
theorem dX4_init_0 : decode cX4_init 0 = .ok (.aload_n 0, 1) := by decide +kernel
theorem dX4_init_1 : decode cX4_init 1 = .ok (.invokespecial 1, 3) := by decide +kernel
theorem dX4_init_4 : decode cX4_init 4 = .ok (.aload_n 0, 1) := by decide +kernel
theorem dX4_init_5 : decode cX4_init 5 = .ok (.new 7, 3) := by decide +kernel
theorem dX4_init_8 : decode cX4_init 8 = .ok (.dup, 1) := by decide +kernel
theorem dX4_init_9 : decode cX4_init 9 = .ok (.invokespecial 9, 3) := by decide +kernel
theorem dX4_init_12 : decode cX4_init 12 = .ok (.putfield 10, 3) := by decide +kernel
theorem dX4_init_15 : decode cX4_init 15 = .ok (.return_, 1) := by decide +kernel
theorem dX5_init_0 : decode cX5_init 0 = .ok (.aload_n 0, 1) := by decide +kernel
theorem dX5_init_1 : decode cX5_init 1 = .ok (.invokespecial 3, 3) := by decide +kernel
theorem dX5_init_4 : decode cX5_init 4 = .ok (.aload_n 0, 1) := by decide +kernel
theorem dX5_init_5 : decode cX5_init 5 = .ok (.bipush 120, 2) := by decide +kernel
theorem dX5_init_7 : decode cX5_init 7 = .ok (.newarray .char, 2) := by decide +kernel
theorem dX5_init_9 : decode cX5_init 9 = .ok (.putfield 11, 3) := by decide +kernel
theorem dX5_init_12 : decode cX5_init 12 = .ok (.aload_n 0, 1) := by decide +kernel
theorem dX5_init_13 : decode cX5_init 13 = .ok (.iconst 4, 1) := by decide +kernel
theorem dX5_init_14 : decode cX5_init 14 = .ok (.newarray .int, 2) := by decide +kernel
theorem dX5_init_16 : decode cX5_init 16 = .ok (.putfield 15, 3) := by decide +kernel
theorem dX5_init_19 : decode cX5_init 19 = .ok (.return_, 1) := by decide +kernel
theorem dX5_isFull_0 : decode cX5_isFull 0 = .ok (.aload_n 0, 1) := by decide +kernel
theorem dX5_isFull_1 : decode cX5_isFull 1 = .ok (.getfield 19, 3) := by decide +kernel
theorem dX5_isFull_4 : decode cX5_isFull 4 = .ok (.bipush 120, 2) := by decide +kernel
theorem dX5_isFull_6 : decode cX5_isFull 6 = .ok (.if_icmp .lt 7, 3) := by decide +kernel
theorem dX5_isFull_9 : decode cX5_isFull 9 = .ok (.iconst 1, 1) := by decide +kernel
theorem dX5_isFull_10 : decode cX5_isFull 10 = .ok (.goto 4, 3) := by decide +kernel
theorem dX5_isFull_13 : decode cX5_isFull 13 = .ok (.iconst 0, 1) := by decide +kernel
theorem dX5_isFull_14 : decode cX5_isFull 14 = .ok (.ireturn, 1) := by decide +kernel
theorem dX5_add_0 : decode cX5_add 0 = .ok (.aload_n 0, 1) := by decide +kernel
theorem dX5_add_1 : decode cX5_add 1 = .ok (.getfield 19, 3) := by decide +kernel
theorem dX5_add_4 : decode cX5_add 4 = .ok (.ifCond .lt 33, 3) := by decide +kernel
theorem dX5_add_7 : decode cX5_add 7 = .ok (.aload_n 0, 1) := by decide +kernel
theorem dX5_add_8 : decode cX5_add 8 = .ok (.getfield 19, 3) := by decide +kernel
theorem dX5_add_11 : decode cX5_add 11 = .ok (.bipush 120, 2) := by decide +kernel
theorem dX5_add_13 : decode cX5_add 13 = .ok (.if_icmp .ge 24, 3) := by decide +kernel
theorem dX5_add_16 : decode cX5_add 16 = .ok (.aload_n 0, 1) := by decide +kernel
theorem dX5_add_17 : decode cX5_add 17 = .ok (.getfield 11, 3) := by decide +kernel
theorem dX5_add_20 : decode cX5_add 20 = .ok (.aload_n 0, 1) := by decide +kernel
theorem dX5_add_21 : decode cX5_add 21 = .ok (.getfield 19, 3) := by decide +kernel
theorem dX5_add_24 : decode cX5_add 24 = .ok (.iload_n 1, 1) := by decide +kernel
theorem dX5_add_25 : decode cX5_add 25 = .ok (.i2c, 1) := by decide +kernel
theorem dX5_add_26 : decode cX5_add 26 = .ok (.castore, 1) := by decide +kernel
theorem dX5_add_27 : decode cX5_add 27 = .ok (.aload_n 0, 1) := by decide +kernel
theorem dX5_add_28 : decode cX5_add 28 = .ok (.dup, 1) := by decide +kernel
theorem dX5_add_29 : decode cX5_add 29 = .ok (.getfield 19, 3) := by decide +kernel
theorem dX5_add_32 : decode cX5_add 32 = .ok (.iconst 1, 1) := by decide +kernel
theorem dX5_add_33 : decode cX5_add 33 = .ok (.iadd, 1) := by decide +kernel
theorem dX5_add_34 : decode cX5_add 34 = .ok (.putfield 19, 3) := by decide +kernel
theorem dX5_add_37 : decode cX5_add 37 = .ok (.aload_n 0, 1) := by decide +kernel
theorem dX5_add_38 : decode cX5_add 38 = .ok (.getfield 19, 3) := by decide +kernel
theorem dX5_add_41 : decode cX5_add 41 = .ok (.ireturn, 1) := by decide +kernel
theorem dX5_drop_0 : decode cX5_drop 0 = .ok (.aload_n 0, 1) := by decide +kernel
theorem dX5_drop_1 : decode cX5_drop 1 = .ok (.getfield 19, 3) := by decide +kernel
theorem dX5_drop_4 : decode cX5_drop 4 = .ok (.istore_n 1, 1) := by decide +kernel
theorem dX5_drop_5 : decode cX5_drop 5 = .ok (.aload_n 0, 1) := by decide +kernel
theorem dX5_drop_6 : decode cX5_drop 6 = .ok (.iconst 0, 1) := by decide +kernel
theorem dX5_drop_7 : decode cX5_drop 7 = .ok (.putfield 19, 3) := by decide +kernel
theorem dX5_drop_10 : decode cX5_drop 10 = .ok (.iload_n 1, 1) := by decide +kernel
theorem dX5_drop_11 : decode cX5_drop 11 = .ok (.ireturn, 1) := by decide +kernel
set_option maxRecDepth 20000 in
theorem ggX5_errorIndex_X5_startReading : GoodIn wsX5_errorIndex wsX5_startReading := goodIn_r _ [7, 1, 106, 107, 108, 109, 110] (by decide +kernel) (by decide +kernel)
set_option maxRecDepth 20000 in
theorem gX5_errorIndex_X5_startReading : GoodIn wsX5_errorIndex (wsV RX5 23 RX5 yX5_startReading wsX5_startReading) := goodIn_app (goodIn_of _ (by decide +kernel)) ggX5_errorIndex_X5_startReading
set_option maxRecDepth 20000 in
theorem ggX5_errorIndex_X5_readCommand : GoodIn wsX5_errorIndex wsX5_readCommand := goodIn_r _ [11, 12, 13, 14, 15, 6, 16, 1, 17, 18, 19, 20, 21, 22, 23, 24, 25, 26, 27, 28, 29, 30, 31, 32, 33, 34, 35, 36, 37, 38, 39, 40, 41, 42, 43, 2, 44, 45, 46, 47, 48, 49, 50, 51, 52, 53, 54, 55, 56, 57, 58, 59, 60, 61, 62, 63, 64, 65, 66, 67, 68, 69, 70, 71, 72, 73, 74, 75, 76, 77, 78, 79, 80, 81, 82, 83, 84, 85, 86, 87, 88, 89, 90, 91, 92, 93, 94, 95, 96, 97, 98, 99, 100, 101, 102, 103, 104, 105, 106, 107, 108, 109, 110] (by decide +kernel) (by decide +kernel)
set_option maxRecDepth 20000 in
theorem gX5_errorIndex_X5_readCommand : GoodIn wsX5_errorIndex (wsV RX5 26 RX5 yX5_readCommand wsX5_readCommand) := goodIn_app (goodIn_of _ (by decide +kernel)) ggX5_errorIndex_X5_readCommand
set_option maxRecDepth 20000 in
theorem ggX5_errorIndex_X5_readSign : GoodIn wsX5_errorIndex wsX5_readSign := goodIn_r _ [88, 1, 40, 41, 42, 6, 43, 2, 44, 106, 107, 108, 109, 110] (by decide +kernel) (by decide +kernel)
set_option maxRecDepth 20000 in
theorem gX5_errorIndex_X5_readSign : GoodIn wsX5_errorIndex (wsV RX5 33 RX5 yX5_readSign wsX5_readSign) := goodIn_app (goodIn_of _ (by decide +kernel)) ggX5_errorIndex_X5_readSign
theorem dX5_errorIndex_0 : decode cX5_errorIndex 0 = .ok (.aload_n 0, 1) := by decide +kernel
theorem dX5_errorIndex_1 : decode cX5_errorIndex 1 = .ok (.invokevirtual 23, 3) := by decide +kernel
theorem dX5_errorIndex_4 : decode cX5_errorIndex 4 = .ok (.bipush 120, 2) := by decide +kernel
theorem dX5_errorIndex_6 : decode cX5_errorIndex 6 = .ok (.istore_n 1, 1) := by decide +kernel
theorem dX5_errorIndex_7 : decode cX5_errorIndex 7 = .ok (.iload_n 1, 1) := by decide +kernel
theorem dX5_errorIndex_8 : decode cX5_errorIndex 8 = .ok (.ifCond .le 48, 3) := by decide +kernel
theorem dX5_errorIndex_11 : decode cX5_errorIndex 11 = .ok (.aload_n 0, 1) := by decide +kernel
theorem dX5_errorIndex_12 : decode cX5_errorIndex 12 = .ok (.invokevirtual 26, 3) := by decide +kernel
theorem dX5_errorIndex_15 : decode cX5_errorIndex 15 = .ok (.ifCond .ne 8, 3) := by decide +kernel
theorem dX5_errorIndex_18 : decode cX5_errorIndex 18 = .ok (.aload_n 0, 1) := by decide +kernel
theorem dX5_errorIndex_19 : decode cX5_errorIndex 19 = .ok (.getfield 30, 3) := by decide +kernel
theorem dX5_errorIndex_22 : decode cX5_errorIndex 22 = .ok (.ireturn, 1) := by decide +kernel
theorem dX5_errorIndex_23 : decode cX5_errorIndex 23 = .ok (.aload_n 0, 1) := by decide +kernel
theorem dX5_errorIndex_24 : decode cX5_errorIndex 24 = .ok (.getfield 30, 3) := by decide +kernel
theorem dX5_errorIndex_27 : decode cX5_errorIndex 27 = .ok (.aload_n 0, 1) := by decide +kernel
theorem dX5_errorIndex_28 : decode cX5_errorIndex 28 = .ok (.getfield 19, 3) := by decide +kernel
theorem dX5_errorIndex_31 : decode cX5_errorIndex 31 = .ok (.if_icmp .lt 5, 3) := by decide +kernel
theorem dX5_errorIndex_34 : decode cX5_errorIndex 34 = .ok (.iconst (-1), 1) := by decide +kernel
theorem dX5_errorIndex_35 : decode cX5_errorIndex 35 = .ok (.ireturn, 1) := by decide +kernel
theorem dX5_errorIndex_36 : decode cX5_errorIndex 36 = .ok (.aload_n 0, 1) := by decide +kernel
theorem dX5_errorIndex_37 : decode cX5_errorIndex 37 = .ok (.bipush 59, 2) := by decide +kernel
theorem dX5_errorIndex_39 : decode cX5_errorIndex 39 = .ok (.invokevirtual 33, 3) := by decide +kernel
theorem dX5_errorIndex_42 : decode cX5_errorIndex 42 = .ok (.ifCond .ne 8, 3) := by decide +kernel
theorem dX5_errorIndex_45 : decode cX5_errorIndex 45 = .ok (.aload_n 0, 1) := by decide +kernel
theorem dX5_errorIndex_46 : decode cX5_errorIndex 46 = .ok (.getfield 30, 3) := by decide +kernel
theorem dX5_errorIndex_49 : decode cX5_errorIndex 49 = .ok (.ireturn, 1) := by decide +kernel
theorem dX5_errorIndex_50 : decode cX5_errorIndex 50 = .ok (.iinc 1 (-1), 3) := by decide +kernel
theorem dX5_errorIndex_53 : decode cX5_errorIndex 53 = .ok (.goto (-46), 3) := by decide +kernel
theorem dX5_errorIndex_56 : decode cX5_errorIndex 56 = .ok (.aload_n 0, 1) := by decide +kernel
theorem dX5_errorIndex_57 : decode cX5_errorIndex 57 = .ok (.getfield 30, 3) := by decide +kernel
theorem dX5_errorIndex_60 : decode cX5_errorIndex 60 = .ok (.ireturn, 1) := by decide +kernel
theorem dX5_startReading_0 : decode cX5_startReading 0 = .ok (.aload_n 0, 1) := by decide +kernel
theorem dX5_startReading_1 : decode cX5_startReading 1 = .ok (.iconst 0, 1) := by decide +kernel
theorem dX5_startReading_2 : decode cX5_startReading 2 = .ok (.putfield 30, 3) := by decide +kernel
theorem dX5_startReading_5 : decode cX5_startReading 5 = .ok (.return_, 1) := by decide +kernel
set_option maxRecDepth 20000 in
theorem ggX5_readCommand_X5_readWord : GoodIn wsX5_readCommand wsX5_readWord := goodIn_r _ [6, 1, 7, 8, 9, 10, 11, 12, 13, 5, 14, 15, 16, 17, 18, 19, 20, 21, 22, 23, 24, 25, 26, 27, 28, 29, 30, 31, 32, 33, 34, 35, 36, 37, 38, 39, 40, 41, 42, 43, 44, 45, 46, 47, 48, 49, 50, 51, 52, 53, 54, 55, 56, 57, 58, 59, 60, 61, 62, 63, 64, 65, 66, 67, 68, 69, 70, 71, 72, 73, 98, 99, 100, 101, 102] (by decide +kernel) (by decide +kernel)
set_option maxRecDepth 20000 in
theorem gX5_readCommand_X5_readWord : GoodIn wsX5_readCommand (wsV RX5 37 RX5 yX5_readWord wsX5_readWord) := goodIn_app (goodIn_of _ (by decide +kernel)) ggX5_readCommand_X5_readWord
set_option maxRecDepth 20000 in
theorem ggX5_readCommand_X5_kindsOf : GoodIn wsX5_readCommand wsX5_kindsOf := goodIn_r _ [76] (by decide +kernel) (by decide +kernel)
set_option maxRecDepth 20000 in
theorem gX5_readCommand_X5_kindsOf : GoodIn wsX5_readCommand (va_wsS RX5 43 yX5_kindsOf wsX5_kindsOf) := goodIn_app (goodIn_of _ (by decide +kernel)) ggX5_readCommand_X5_kindsOf
set_option maxRecDepth 20000 in
theorem ggX5_readCommand_J0_length_8abf5 : GoodIn wsX5_readCommand wsJ0_length_8abf5 := goodIn_r _ [23, 24, 25, 26, 27, 22, 28, 29, 30] (by decide +kernel) (by decide +kernel)
set_option maxRecDepth 20000 in
theorem gX5_readCommand_J0_length_8abf5 : GoodIn wsX5_readCommand (wsV RX5 47 RJ0 yJ0_length_8abf5 wsJ0_length_8abf5) := goodIn_app (goodIn_of _ (by decide +kernel)) ggX5_readCommand_J0_length_8abf5
set_option maxRecDepth 20000 in
theorem ggX5_readCommand_X5_readSign : GoodIn wsX5_readCommand wsX5_readSign := goodIn_r _ [80, 7, 31, 32, 33, 5, 34, 35, 36, 98, 99, 100, 101, 102] (by decide +kernel) (by decide +kernel)
set_option maxRecDepth 20000 in
theorem gX5_readCommand_X5_readSign : GoodIn wsX5_readCommand (wsV RX5 33 RX5 yX5_readSign wsX5_readSign) := goodIn_app (goodIn_of _ (by decide +kernel)) ggX5_readCommand_X5_readSign
set_option maxRecDepth 20000 in
theorem ggX5_readCommand_J0_charAt_5068e : GoodIn wsX5_readCommand wsJ0_charAt_5068e := goodIn_r _ [40, 24, 41, 42, 43, 22, 44, 29, 30, 45, 46, 47, 48, 49, 50, 51, 52, 53, 54, 55, 56, 57, 58, 59, 60, 61, 62, 63, 64, 65, 66, 67, 68, 69, 70, 71, 72, 73] (by decide +kernel) (by decide +kernel)
set_option maxRecDepth 20000 in
theorem gX5_readCommand_J0_charAt_5068e : GoodIn wsX5_readCommand (wsV RX5 52 RJ0 yJ0_charAt_5068e wsJ0_charAt_5068e) := goodIn_app (goodIn_of _ (by decide +kernel)) ggX5_readCommand_J0_charAt_5068e
set_option maxRecDepth 20000 in
theorem ggX5_readCommand_X5_readNumber : GoodIn wsX5_readCommand wsX5_readNumber := goodIn_r _ [84, 7, 35, 85, 31, 32, 33, 5, 34, 36, 86, 87, 88, 89, 90, 91, 92, 93, 94, 95, 96, 97, 98, 99, 100, 101, 102] (by decide +kernel) (by decide +kernel)
set_option maxRecDepth 20000 in
theorem gX5_readCommand_X5_readNumber : GoodIn wsX5_readCommand (wsV RX5 56 RX5 yX5_readNumber wsX5_readNumber) := goodIn_app (goodIn_of _ (by decide +kernel)) ggX5_readCommand_X5_readNumber
theorem dX5_readCommand_0 : decode cX5_readCommand 0 = .ok (.aload_n 0, 1) := by decide +kernel
theorem dX5_readCommand_1 : decode cX5_readCommand 1 = .ok (.invokevirtual 37, 3) := by decide +kernel
theorem dX5_readCommand_4 : decode cX5_readCommand 4 = .ok (.ifCond .ne 5, 3) := by decide +kernel
theorem dX5_readCommand_7 : decode cX5_readCommand 7 = .ok (.iconst 0, 1) := by decide +kernel
theorem dX5_readCommand_8 : decode cX5_readCommand 8 = .ok (.ireturn, 1) := by decide +kernel
theorem dX5_readCommand_9 : decode cX5_readCommand 9 = .ok (.aload_n 0, 1) := by decide +kernel
theorem dX5_readCommand_10 : decode cX5_readCommand 10 = .ok (.getfield 40, 3) := by decide +kernel
theorem dX5_readCommand_13 : decode cX5_readCommand 13 = .ok (.invokestatic 43, 3) := by decide +kernel
theorem dX5_readCommand_16 : decode cX5_readCommand 16 = .ok (.astore_n 1, 1) := by decide +kernel
theorem dX5_readCommand_17 : decode cX5_readCommand 17 = .ok (.iconst 0, 1) := by decide +kernel
theorem dX5_readCommand_18 : decode cX5_readCommand 18 = .ok (.istore_n 2, 1) := by decide +kernel
theorem dX5_readCommand_19 : decode cX5_readCommand 19 = .ok (.iload_n 2, 1) := by decide +kernel
theorem dX5_readCommand_20 : decode cX5_readCommand 20 = .ok (.aload_n 1, 1) := by decide +kernel
theorem dX5_readCommand_21 : decode cX5_readCommand 21 = .ok (.invokevirtual 47, 3) := by decide +kernel
theorem dX5_readCommand_24 : decode cX5_readCommand 24 = .ok (.if_icmp .ge 33, 3) := by decide +kernel
theorem dX5_readCommand_27 : decode cX5_readCommand 27 = .ok (.aload_n 0, 1) := by decide +kernel
theorem dX5_readCommand_28 : decode cX5_readCommand 28 = .ok (.bipush 44, 2) := by decide +kernel
theorem dX5_readCommand_30 : decode cX5_readCommand 30 = .ok (.invokevirtual 33, 3) := by decide +kernel
theorem dX5_readCommand_33 : decode cX5_readCommand 33 = .ok (.ifCond .eq 16, 3) := by decide +kernel
theorem dX5_readCommand_36 : decode cX5_readCommand 36 = .ok (.aload_n 0, 1) := by decide +kernel
theorem dX5_readCommand_37 : decode cX5_readCommand 37 = .ok (.iload_n 2, 1) := by decide +kernel
theorem dX5_readCommand_38 : decode cX5_readCommand 38 = .ok (.aload_n 1, 1) := by decide +kernel
theorem dX5_readCommand_39 : decode cX5_readCommand 39 = .ok (.iload_n 2, 1) := by decide +kernel
theorem dX5_readCommand_40 : decode cX5_readCommand 40 = .ok (.invokevirtual 52, 3) := by decide +kernel
theorem dX5_readCommand_43 : decode cX5_readCommand 43 = .ok (.invokevirtual 56, 3) := by decide +kernel
theorem dX5_readCommand_46 : decode cX5_readCommand 46 = .ok (.ifCond .ne 5, 3) := by decide +kernel
theorem dX5_readCommand_49 : decode cX5_readCommand 49 = .ok (.iconst 0, 1) := by decide +kernel
theorem dX5_readCommand_50 : decode cX5_readCommand 50 = .ok (.ireturn, 1) := by decide +kernel
theorem dX5_readCommand_51 : decode cX5_readCommand 51 = .ok (.iinc 2 1, 3) := by decide +kernel
theorem dX5_readCommand_54 : decode cX5_readCommand 54 = .ok (.goto (-35), 3) := by decide +kernel
theorem dX5_readCommand_57 : decode cX5_readCommand 57 = .ok (.iconst 1, 1) := by decide +kernel
theorem dX5_readCommand_58 : decode cX5_readCommand 58 = .ok (.ireturn, 1) := by decide +kernel
set_option maxRecDepth 20000 in
theorem ggX5_readSign_X5_signAt : GoodIn wsX5_readSign wsX5_signAt := goodIn_r _ [6, 7, 8, 9, 10, 11, 12, 13] (by decide +kernel) (by decide +kernel)
set_option maxRecDepth 20000 in
theorem gX5_readSign_X5_signAt : GoodIn wsX5_readSign (wsV RX5 60 RX5 yX5_signAt wsX5_signAt) := goodIn_app (goodIn_of _ (by decide +kernel)) ggX5_readSign_X5_signAt
theorem dX5_readSign_0 : decode cX5_readSign 0 = .ok (.aload_n 0, 1) := by decide +kernel
theorem dX5_readSign_1 : decode cX5_readSign 1 = .ok (.aload_n 0, 1) := by decide +kernel
theorem dX5_readSign_2 : decode cX5_readSign 2 = .ok (.getfield 30, 3) := by decide +kernel
theorem dX5_readSign_5 : decode cX5_readSign 5 = .ok (.invokevirtual 60, 3) := by decide +kernel
theorem dX5_readSign_8 : decode cX5_readSign 8 = .ok (.iload_n 1, 1) := by decide +kernel
theorem dX5_readSign_9 : decode cX5_readSign 9 = .ok (.if_icmp .eq 5, 3) := by decide +kernel
theorem dX5_readSign_12 : decode cX5_readSign 12 = .ok (.iconst 0, 1) := by decide +kernel
theorem dX5_readSign_13 : decode cX5_readSign 13 = .ok (.ireturn, 1) := by decide +kernel
theorem dX5_readSign_14 : decode cX5_readSign 14 = .ok (.aload_n 0, 1) := by decide +kernel
theorem dX5_readSign_15 : decode cX5_readSign 15 = .ok (.dup, 1) := by decide +kernel
theorem dX5_readSign_16 : decode cX5_readSign 16 = .ok (.getfield 30, 3) := by decide +kernel
theorem dX5_readSign_19 : decode cX5_readSign 19 = .ok (.iconst 1, 1) := by decide +kernel
theorem dX5_readSign_20 : decode cX5_readSign 20 = .ok (.iadd, 1) := by decide +kernel
theorem dX5_readSign_21 : decode cX5_readSign 21 = .ok (.putfield 30, 3) := by decide +kernel
theorem dX5_readSign_24 : decode cX5_readSign 24 = .ok (.iconst 1, 1) := by decide +kernel
theorem dX5_readSign_25 : decode cX5_readSign 25 = .ok (.ireturn, 1) := by decide +kernel
theorem dX5_signAt_0 : decode cX5_signAt 0 = .ok (.iload_n 1, 1) := by decide +kernel
theorem dX5_signAt_1 : decode cX5_signAt 1 = .ok (.ifCond .lt 26, 3) := by decide +kernel
theorem dX5_signAt_4 : decode cX5_signAt 4 = .ok (.iload_n 1, 1) := by decide +kernel
theorem dX5_signAt_5 : decode cX5_signAt 5 = .ok (.aload_n 0, 1) := by decide +kernel
theorem dX5_signAt_6 : decode cX5_signAt 6 = .ok (.getfield 19, 3) := by decide +kernel
theorem dX5_signAt_9 : decode cX5_signAt 9 = .ok (.if_icmp .ge 18, 3) := by decide +kernel
theorem dX5_signAt_12 : decode cX5_signAt 12 = .ok (.iload_n 1, 1) := by decide +kernel
theorem dX5_signAt_13 : decode cX5_signAt 13 = .ok (.bipush 120, 2) := by decide +kernel
theorem dX5_signAt_15 : decode cX5_signAt 15 = .ok (.if_icmp .ge 12, 3) := by decide +kernel
theorem dX5_signAt_18 : decode cX5_signAt 18 = .ok (.aload_n 0, 1) := by decide +kernel
theorem dX5_signAt_19 : decode cX5_signAt 19 = .ok (.getfield 11, 3) := by decide +kernel
theorem dX5_signAt_22 : decode cX5_signAt 22 = .ok (.iload_n 1, 1) := by decide +kernel
theorem dX5_signAt_23 : decode cX5_signAt 23 = .ok (.caload, 1) := by decide +kernel
theorem dX5_signAt_24 : decode cX5_signAt 24 = .ok (.goto 4, 3) := by decide +kernel
theorem dX5_signAt_27 : decode cX5_signAt 27 = .ok (.iconst (-1), 1) := by decide +kernel
theorem dX5_signAt_28 : decode cX5_signAt 28 = .ok (.ireturn, 1) := by decide +kernel
set_option maxRecDepth 20000 in
theorem ggX5_readWord_X5_spellingOf : GoodIn wsX5_readWord wsX5_spellingOf := goodIn_r _ [10] (by decide +kernel) (by decide +kernel)
set_option maxRecDepth 20000 in
theorem gX5_readWord_X5_spellingOf : GoodIn wsX5_readWord (va_wsS RX5 64 yX5_spellingOf wsX5_spellingOf) := goodIn_app (goodIn_of _ (by decide +kernel)) ggX5_readWord_X5_spellingOf
set_option maxRecDepth 20000 in
theorem ggX5_readWord_X5_sameSigns : GoodIn wsX5_readWord wsX5_sameSigns := goodIn_r _ [14, 2, 15, 16, 17, 18, 19, 20, 21, 22, 23, 24, 25, 26, 27, 28, 29, 9, 30, 31, 32, 33, 34, 35, 36, 37, 38, 39, 40, 41, 42, 43, 44, 45, 46, 47, 48, 49, 50, 51, 52, 53, 54, 55, 56, 57, 58, 59, 60, 61, 62, 63, 64, 65, 66, 67, 68, 69, 70, 71, 72, 73, 74] (by decide +kernel) (by decide +kernel)
set_option maxRecDepth 20000 in
theorem gX5_readWord_X5_sameSigns : GoodIn wsX5_readWord (wsV RX5 67 RX5 yX5_sameSigns wsX5_sameSigns) := goodIn_app (goodIn_of _ (by decide +kernel)) ggX5_readWord_X5_sameSigns
set_option maxRecDepth 20000 in
theorem ggX5_readWord_J0_length_8abf5 : GoodIn wsX5_readWord wsJ0_length_8abf5 := goodIn_r _ [19, 20, 21, 22, 23, 18, 24, 25, 26] (by decide +kernel) (by decide +kernel)
set_option maxRecDepth 20000 in
theorem gX5_readWord_J0_length_8abf5 : GoodIn wsX5_readWord (wsV RX5 47 RJ0 yJ0_length_8abf5 wsJ0_length_8abf5) := goodIn_app (goodIn_of _ (by decide +kernel)) ggX5_readWord_J0_length_8abf5
theorem dX5_readWord_0 : decode cX5_readWord 0 = .ok (.iconst 0, 1) := by decide +kernel
theorem dX5_readWord_1 : decode cX5_readWord 1 = .ok (.istore_n 1, 1) := by decide +kernel
theorem dX5_readWord_2 : decode cX5_readWord 2 = .ok (.iconst 0, 1) := by decide +kernel
theorem dX5_readWord_3 : decode cX5_readWord 3 = .ok (.istore_n 2, 1) := by decide +kernel
theorem dX5_readWord_4 : decode cX5_readWord 4 = .ok (.iload_n 2, 1) := by decide +kernel
theorem dX5_readWord_5 : decode cX5_readWord 5 = .ok (.bipush 6, 2) := by decide +kernel
theorem dX5_readWord_7 : decode cX5_readWord 7 = .ok (.if_icmp .ge 55, 3) := by decide +kernel
theorem dX5_readWord_10 : decode cX5_readWord 10 = .ok (.iload_n 2, 1) := by decide +kernel
theorem dX5_readWord_11 : decode cX5_readWord 11 = .ok (.invokestatic 64, 3) := by decide +kernel
theorem dX5_readWord_14 : decode cX5_readWord 14 = .ok (.astore_n 3, 1) := by decide +kernel
theorem dX5_readWord_15 : decode cX5_readWord 15 = .ok (.aload_n 0, 1) := by decide +kernel
theorem dX5_readWord_16 : decode cX5_readWord 16 = .ok (.aload_n 3, 1) := by decide +kernel
theorem dX5_readWord_17 : decode cX5_readWord 17 = .ok (.invokevirtual 67, 3) := by decide +kernel
theorem dX5_readWord_20 : decode cX5_readWord 20 = .ok (.istore 4, 2) := by decide +kernel
theorem dX5_readWord_22 : decode cX5_readWord 22 = .ok (.iload 4, 2) := by decide +kernel
theorem dX5_readWord_24 : decode cX5_readWord 24 = .ok (.aload_n 3, 1) := by decide +kernel
theorem dX5_readWord_25 : decode cX5_readWord 25 = .ok (.invokevirtual 47, 3) := by decide +kernel
theorem dX5_readWord_28 : decode cX5_readWord 28 = .ok (.if_icmp .ne 21, 3) := by decide +kernel
theorem dX5_readWord_31 : decode cX5_readWord 31 = .ok (.aload_n 0, 1) := by decide +kernel
theorem dX5_readWord_32 : decode cX5_readWord 32 = .ok (.iload_n 2, 1) := by decide +kernel
theorem dX5_readWord_33 : decode cX5_readWord 33 = .ok (.putfield 40, 3) := by decide +kernel
theorem dX5_readWord_36 : decode cX5_readWord 36 = .ok (.aload_n 0, 1) := by decide +kernel
theorem dX5_readWord_37 : decode cX5_readWord 37 = .ok (.dup, 1) := by decide +kernel
theorem dX5_readWord_38 : decode cX5_readWord 38 = .ok (.getfield 30, 3) := by decide +kernel
theorem dX5_readWord_41 : decode cX5_readWord 41 = .ok (.iload 4, 2) := by decide +kernel
theorem dX5_readWord_43 : decode cX5_readWord 43 = .ok (.iadd, 1) := by decide +kernel
theorem dX5_readWord_44 : decode cX5_readWord 44 = .ok (.putfield 30, 3) := by decide +kernel
theorem dX5_readWord_47 : decode cX5_readWord 47 = .ok (.iconst 1, 1) := by decide +kernel
theorem dX5_readWord_48 : decode cX5_readWord 48 = .ok (.ireturn, 1) := by decide +kernel
theorem dX5_readWord_49 : decode cX5_readWord 49 = .ok (.iload_n 1, 1) := by decide +kernel
theorem dX5_readWord_50 : decode cX5_readWord 50 = .ok (.iload 4, 2) := by decide +kernel
theorem dX5_readWord_52 : decode cX5_readWord 52 = .ok (.invokestatic 71, 3) := by decide +kernel
theorem dX5_readWord_55 : decode cX5_readWord 55 = .ok (.istore_n 1, 1) := by decide +kernel
theorem dX5_readWord_56 : decode cX5_readWord 56 = .ok (.iinc 2 1, 3) := by decide +kernel
theorem dX5_readWord_59 : decode cX5_readWord 59 = .ok (.goto (-55), 3) := by decide +kernel
theorem dX5_readWord_62 : decode cX5_readWord 62 = .ok (.aload_n 0, 1) := by decide +kernel
theorem dX5_readWord_63 : decode cX5_readWord 63 = .ok (.dup, 1) := by decide +kernel
theorem dX5_readWord_64 : decode cX5_readWord 64 = .ok (.getfield 30, 3) := by decide +kernel
theorem dX5_readWord_67 : decode cX5_readWord 67 = .ok (.iload_n 1, 1) := by decide +kernel
theorem dX5_readWord_68 : decode cX5_readWord 68 = .ok (.iadd, 1) := by decide +kernel
theorem dX5_readWord_69 : decode cX5_readWord 69 = .ok (.putfield 30, 3) := by decide +kernel
theorem dX5_readWord_72 : decode cX5_readWord 72 = .ok (.iconst 0, 1) := by decide +kernel
theorem dX5_readWord_73 : decode cX5_readWord 73 = .ok (.ireturn, 1) := by decide +kernel
set_option maxRecDepth 20000 in
theorem ggX5_sameSigns_J0_length_8abf5 : GoodIn wsX5_sameSigns wsJ0_length_8abf5 := goodIn_r _ [6, 7, 8, 9, 10, 5, 11, 12, 13] (by decide +kernel) (by decide +kernel)
set_option maxRecDepth 20000 in
theorem gX5_sameSigns_J0_length_8abf5 : GoodIn wsX5_sameSigns (wsV RX5 47 RJ0 yJ0_length_8abf5 wsJ0_length_8abf5) := goodIn_app (goodIn_of _ (by decide +kernel)) ggX5_sameSigns_J0_length_8abf5
set_option maxRecDepth 20000 in
theorem ggX5_sameSigns_X5_signAt : GoodIn wsX5_sameSigns wsX5_signAt := goodIn_r _ [18, 19, 20, 58, 59, 60, 61, 62] (by decide +kernel) (by decide +kernel)
set_option maxRecDepth 20000 in
theorem gX5_sameSigns_X5_signAt : GoodIn wsX5_sameSigns (wsV RX5 60 RX5 yX5_signAt wsX5_signAt) := goodIn_app (goodIn_of _ (by decide +kernel)) ggX5_sameSigns_X5_signAt
set_option maxRecDepth 20000 in
theorem ggX5_sameSigns_J0_charAt_5068e : GoodIn wsX5_sameSigns wsJ0_charAt_5068e := goodIn_r _ [24, 7, 25, 26, 27, 5, 28, 12, 13, 29, 30, 31, 32, 33, 34, 35, 36, 37, 38, 39, 40, 41, 42, 43, 44, 45, 46, 47, 48, 49, 50, 51, 52, 53, 54, 55, 56, 57] (by decide +kernel) (by decide +kernel)
set_option maxRecDepth 20000 in
theorem gX5_sameSigns_J0_charAt_5068e : GoodIn wsX5_sameSigns (wsV RX5 52 RJ0 yJ0_charAt_5068e wsJ0_charAt_5068e) := goodIn_app (goodIn_of _ (by decide +kernel)) ggX5_sameSigns_J0_charAt_5068e
theorem dX5_sameSigns_0 : decode cX5_sameSigns 0 = .ok (.iconst 0, 1) := by decide +kernel
theorem dX5_sameSigns_1 : decode cX5_sameSigns 1 = .ok (.istore_n 2, 1) := by decide +kernel
theorem dX5_sameSigns_2 : decode cX5_sameSigns 2 = .ok (.iload_n 2, 1) := by decide +kernel
theorem dX5_sameSigns_3 : decode cX5_sameSigns 3 = .ok (.aload_n 1, 1) := by decide +kernel
theorem dX5_sameSigns_4 : decode cX5_sameSigns 4 = .ok (.invokevirtual 47, 3) := by decide +kernel
theorem dX5_sameSigns_7 : decode cX5_sameSigns 7 = .ok (.if_icmp .ge 27, 3) := by decide +kernel
theorem dX5_sameSigns_10 : decode cX5_sameSigns 10 = .ok (.aload_n 0, 1) := by decide +kernel
theorem dX5_sameSigns_11 : decode cX5_sameSigns 11 = .ok (.aload_n 0, 1) := by decide +kernel
theorem dX5_sameSigns_12 : decode cX5_sameSigns 12 = .ok (.getfield 30, 3) := by decide +kernel
theorem dX5_sameSigns_15 : decode cX5_sameSigns 15 = .ok (.iload_n 2, 1) := by decide +kernel
theorem dX5_sameSigns_16 : decode cX5_sameSigns 16 = .ok (.iadd, 1) := by decide +kernel
theorem dX5_sameSigns_17 : decode cX5_sameSigns 17 = .ok (.invokevirtual 60, 3) := by decide +kernel
theorem dX5_sameSigns_20 : decode cX5_sameSigns 20 = .ok (.aload_n 1, 1) := by decide +kernel
theorem dX5_sameSigns_21 : decode cX5_sameSigns 21 = .ok (.iload_n 2, 1) := by decide +kernel
theorem dX5_sameSigns_22 : decode cX5_sameSigns 22 = .ok (.invokevirtual 52, 3) := by decide +kernel
theorem dX5_sameSigns_25 : decode cX5_sameSigns 25 = .ok (.if_icmp .ne 9, 3) := by decide +kernel
theorem dX5_sameSigns_28 : decode cX5_sameSigns 28 = .ok (.iinc 2 1, 3) := by decide +kernel
theorem dX5_sameSigns_31 : decode cX5_sameSigns 31 = .ok (.goto (-29), 3) := by decide +kernel
theorem dX5_sameSigns_34 : decode cX5_sameSigns 34 = .ok (.iload_n 2, 1) := by decide +kernel
theorem dX5_sameSigns_35 : decode cX5_sameSigns 35 = .ok (.ireturn, 1) := by decide +kernel
set_option maxRecDepth 20000 in
theorem ggX5_readNumber_X5_signAt : GoodIn wsX5_readNumber wsX5_signAt := goodIn_r _ [8, 2, 9, 22, 23, 24, 25, 26] (by decide +kernel) (by decide +kernel)
set_option maxRecDepth 20000 in
theorem gX5_readNumber_X5_signAt : GoodIn wsX5_readNumber (wsV RX5 60 RX5 yX5_signAt wsX5_signAt) := goodIn_app (goodIn_of _ (by decide +kernel)) ggX5_readNumber_X5_signAt
set_option maxRecDepth 20000 in
theorem ggX5_readNumber_X5_withDigit : GoodIn wsX5_readNumber wsX5_withDigit := goodIn_r _ [12] (by decide +kernel) (by decide +kernel)
set_option maxRecDepth 20000 in
theorem gX5_readNumber_X5_withDigit : GoodIn wsX5_readNumber (va_wsS RX5 77 yX5_withDigit wsX5_withDigit) := goodIn_app (goodIn_of _ (by decide +kernel)) ggX5_readNumber_X5_withDigit
set_option maxRecDepth 20000 in
theorem ggX5_readNumber_X5_leastOf : GoodIn wsX5_readNumber wsX5_leastOf := goodIn_r _ [15] (by decide +kernel) (by decide +kernel)
set_option maxRecDepth 20000 in
theorem gX5_readNumber_X5_leastOf : GoodIn wsX5_readNumber (va_wsS RX5 80 yX5_leastOf wsX5_leastOf) := goodIn_app (goodIn_of _ (by decide +kernel)) ggX5_readNumber_X5_leastOf
set_option maxRecDepth 20000 in
theorem ggX5_readNumber_X5_mostOf : GoodIn wsX5_readNumber wsX5_mostOf := goodIn_r _ [18] (by decide +kernel) (by decide +kernel)
set_option maxRecDepth 20000 in
theorem gX5_readNumber_X5_mostOf : GoodIn wsX5_readNumber (va_wsS RX5 84 yX5_mostOf wsX5_mostOf) := goodIn_app (goodIn_of _ (by decide +kernel)) ggX5_readNumber_X5_mostOf
set_option maxRecDepth 20000 in
theorem ggX5_readNumber_X7_isBetween : GoodIn wsX5_readNumber wsX7_isBetween := goodIn_r _ [21] (by decide +kernel) (by decide +kernel)
set_option maxRecDepth 20000 in
theorem gX5_readNumber_X7_isBetween_n87 : GoodIn wsX5_readNumber (wsX7_isBetween) := ggX5_readNumber_X7_isBetween
theorem dX5_readNumber_0 : decode cX5_readNumber 0 = .ok (.iconst (-1), 1) := by decide +kernel
theorem dX5_readNumber_1 : decode cX5_readNumber 1 = .ok (.istore_n 3, 1) := by decide +kernel
theorem dX5_readNumber_2 : decode cX5_readNumber 2 = .ok (.aload_n 0, 1) := by decide +kernel
theorem dX5_readNumber_3 : decode cX5_readNumber 3 = .ok (.getfield 30, 3) := by decide +kernel
theorem dX5_readNumber_6 : decode cX5_readNumber 6 = .ok (.aload_n 0, 1) := by decide +kernel
theorem dX5_readNumber_7 : decode cX5_readNumber 7 = .ok (.getfield 19, 3) := by decide +kernel
theorem dX5_readNumber_10 : decode cX5_readNumber 10 = .ok (.if_icmp .ge 52, 3) := by decide +kernel
theorem dX5_readNumber_13 : decode cX5_readNumber 13 = .ok (.iload_n 3, 1) := by decide +kernel
theorem dX5_readNumber_14 : decode cX5_readNumber 14 = .ok (.aload_n 0, 1) := by decide +kernel
theorem dX5_readNumber_15 : decode cX5_readNumber 15 = .ok (.aload_n 0, 1) := by decide +kernel
theorem dX5_readNumber_16 : decode cX5_readNumber 16 = .ok (.getfield 30, 3) := by decide +kernel
theorem dX5_readNumber_19 : decode cX5_readNumber 19 = .ok (.invokevirtual 60, 3) := by decide +kernel
theorem dX5_readNumber_22 : decode cX5_readNumber 22 = .ok (.invokestatic 77, 3) := by decide +kernel
theorem dX5_readNumber_25 : decode cX5_readNumber 25 = .ok (.istore 4, 2) := by decide +kernel
theorem dX5_readNumber_27 : decode cX5_readNumber 27 = .ok (.iload 4, 2) := by decide +kernel
theorem dX5_readNumber_29 : decode cX5_readNumber 29 = .ok (.iload_n 2, 1) := by decide +kernel
theorem dX5_readNumber_30 : decode cX5_readNumber 30 = .ok (.invokestatic 80, 3) := by decide +kernel
theorem dX5_readNumber_33 : decode cX5_readNumber 33 = .ok (.iload_n 2, 1) := by decide +kernel
theorem dX5_readNumber_34 : decode cX5_readNumber 34 = .ok (.invokestatic 84, 3) := by decide +kernel
theorem dX5_readNumber_37 : decode cX5_readNumber 37 = .ok (.invokestatic 87, 3) := by decide +kernel
theorem dX5_readNumber_40 : decode cX5_readNumber 40 = .ok (.ifCond .ne 6, 3) := by decide +kernel
theorem dX5_readNumber_43 : decode cX5_readNumber 43 = .ok (.goto 19, 3) := by decide +kernel
theorem dX5_readNumber_46 : decode cX5_readNumber 46 = .ok (.iload 4, 2) := by decide +kernel
theorem dX5_readNumber_48 : decode cX5_readNumber 48 = .ok (.istore_n 3, 1) := by decide +kernel
theorem dX5_readNumber_49 : decode cX5_readNumber 49 = .ok (.aload_n 0, 1) := by decide +kernel
theorem dX5_readNumber_50 : decode cX5_readNumber 50 = .ok (.dup, 1) := by decide +kernel
theorem dX5_readNumber_51 : decode cX5_readNumber 51 = .ok (.getfield 30, 3) := by decide +kernel
theorem dX5_readNumber_54 : decode cX5_readNumber 54 = .ok (.iconst 1, 1) := by decide +kernel
theorem dX5_readNumber_55 : decode cX5_readNumber 55 = .ok (.iadd, 1) := by decide +kernel
theorem dX5_readNumber_56 : decode cX5_readNumber 56 = .ok (.putfield 30, 3) := by decide +kernel
theorem dX5_readNumber_59 : decode cX5_readNumber 59 = .ok (.goto (-57), 3) := by decide +kernel
theorem dX5_readNumber_62 : decode cX5_readNumber 62 = .ok (.iload_n 3, 1) := by decide +kernel
theorem dX5_readNumber_63 : decode cX5_readNumber 63 = .ok (.iconst (-1), 1) := by decide +kernel
theorem dX5_readNumber_64 : decode cX5_readNumber 64 = .ok (.if_icmp .eq 16, 3) := by decide +kernel
theorem dX5_readNumber_67 : decode cX5_readNumber 67 = .ok (.iload_n 1, 1) := by decide +kernel
theorem dX5_readNumber_68 : decode cX5_readNumber 68 = .ok (.ifCond .lt 12, 3) := by decide +kernel
theorem dX5_readNumber_71 : decode cX5_readNumber 71 = .ok (.iload_n 1, 1) := by decide +kernel
theorem dX5_readNumber_72 : decode cX5_readNumber 72 = .ok (.aload_n 0, 1) := by decide +kernel
theorem dX5_readNumber_73 : decode cX5_readNumber 73 = .ok (.getfield 15, 3) := by decide +kernel
theorem dX5_readNumber_76 : decode cX5_readNumber 76 = .ok (.arraylength, 1) := by decide +kernel
theorem dX5_readNumber_77 : decode cX5_readNumber 77 = .ok (.if_icmp .lt 5, 3) := by decide +kernel
theorem dX5_readNumber_80 : decode cX5_readNumber 80 = .ok (.iconst 0, 1) := by decide +kernel
theorem dX5_readNumber_81 : decode cX5_readNumber 81 = .ok (.ireturn, 1) := by decide +kernel
theorem dX5_readNumber_82 : decode cX5_readNumber 82 = .ok (.aload_n 0, 1) := by decide +kernel
theorem dX5_readNumber_83 : decode cX5_readNumber 83 = .ok (.getfield 15, 3) := by decide +kernel
theorem dX5_readNumber_86 : decode cX5_readNumber 86 = .ok (.iload_n 1, 1) := by decide +kernel
theorem dX5_readNumber_87 : decode cX5_readNumber 87 = .ok (.iload_n 3, 1) := by decide +kernel
theorem dX5_readNumber_88 : decode cX5_readNumber 88 = .ok (.iastore, 1) := by decide +kernel
theorem dX5_readNumber_89 : decode cX5_readNumber 89 = .ok (.iconst 1, 1) := by decide +kernel
theorem dX5_readNumber_90 : decode cX5_readNumber 90 = .ok (.ireturn, 1) := by decide +kernel
theorem dX5_withDigit_0 : decode cX5_withDigit 0 = .ok (.iload_n 1, 1) := by decide +kernel
theorem dX5_withDigit_1 : decode cX5_withDigit 1 = .ok (.bipush 48, 2) := by decide +kernel
theorem dX5_withDigit_3 : decode cX5_withDigit 3 = .ok (.if_icmp .lt 13, 3) := by decide +kernel
theorem dX5_withDigit_6 : decode cX5_withDigit 6 = .ok (.iload_n 1, 1) := by decide +kernel
theorem dX5_withDigit_7 : decode cX5_withDigit 7 = .ok (.bipush 57, 2) := by decide +kernel
theorem dX5_withDigit_9 : decode cX5_withDigit 9 = .ok (.if_icmp .gt 7, 3) := by decide +kernel
theorem dX5_withDigit_12 : decode cX5_withDigit 12 = .ok (.iload_n 0, 1) := by decide +kernel
theorem dX5_withDigit_13 : decode cX5_withDigit 13 = .ok (.ifCond .ne 5, 3) := by decide +kernel
theorem dX5_withDigit_16 : decode cX5_withDigit 16 = .ok (.iconst (-1), 1) := by decide +kernel
theorem dX5_withDigit_17 : decode cX5_withDigit 17 = .ok (.ireturn, 1) := by decide +kernel
theorem dX5_withDigit_18 : decode cX5_withDigit 18 = .ok (.iload_n 0, 1) := by decide +kernel
theorem dX5_withDigit_19 : decode cX5_withDigit 19 = .ok (.iconst (-1), 1) := by decide +kernel
theorem dX5_withDigit_20 : decode cX5_withDigit 20 = .ok (.if_icmp .ne 7, 3) := by decide +kernel
theorem dX5_withDigit_23 : decode cX5_withDigit 23 = .ok (.iconst 0, 1) := by decide +kernel
theorem dX5_withDigit_24 : decode cX5_withDigit 24 = .ok (.goto 7, 3) := by decide +kernel
theorem dX5_withDigit_27 : decode cX5_withDigit 27 = .ok (.bipush 10, 2) := by decide +kernel
theorem dX5_withDigit_29 : decode cX5_withDigit 29 = .ok (.iload_n 0, 1) := by decide +kernel
theorem dX5_withDigit_30 : decode cX5_withDigit 30 = .ok (.imul, 1) := by decide +kernel
theorem dX5_withDigit_31 : decode cX5_withDigit 31 = .ok (.iload_n 1, 1) := by decide +kernel
theorem dX5_withDigit_32 : decode cX5_withDigit 32 = .ok (.iadd, 1) := by decide +kernel
theorem dX5_withDigit_33 : decode cX5_withDigit 33 = .ok (.bipush 48, 2) := by decide +kernel
theorem dX5_withDigit_35 : decode cX5_withDigit 35 = .ok (.isub, 1) := by decide +kernel
theorem dX5_withDigit_36 : decode cX5_withDigit 36 = .ok (.ireturn, 1) := by decide +kernel
theorem dX5_spellingOf_0 : decode cX5_spellingOf 0 = .ok (.iload_n 0, 1) := by decide +kernel
theorem dX5_spellingOf_1 : decode cX5_spellingOf 1 = .ok (.tableswitch 50 0 4 #[35, 38, 41, 44, 47], 35) := by decide +kernel
theorem dX5_spellingOf_36 : decode cX5_spellingOf 36 = .ok (.ldc 91, 2) := by decide +kernel
theorem dX5_spellingOf_38 : decode cX5_spellingOf 38 = .ok (.areturn, 1) := by decide +kernel
theorem dX5_spellingOf_39 : decode cX5_spellingOf 39 = .ok (.ldc 93, 2) := by decide +kernel
theorem dX5_spellingOf_41 : decode cX5_spellingOf 41 = .ok (.areturn, 1) := by decide +kernel
theorem dX5_spellingOf_42 : decode cX5_spellingOf 42 = .ok (.ldc 95, 2) := by decide +kernel
theorem dX5_spellingOf_44 : decode cX5_spellingOf 44 = .ok (.areturn, 1) := by decide +kernel
theorem dX5_spellingOf_45 : decode cX5_spellingOf 45 = .ok (.ldc 97, 2) := by decide +kernel
theorem dX5_spellingOf_47 : decode cX5_spellingOf 47 = .ok (.areturn, 1) := by decide +kernel
theorem dX5_spellingOf_48 : decode cX5_spellingOf 48 = .ok (.ldc 99, 2) := by decide +kernel
theorem dX5_spellingOf_50 : decode cX5_spellingOf 50 = .ok (.areturn, 1) := by decide +kernel
theorem dX5_spellingOf_51 : decode cX5_spellingOf 51 = .ok (.ldc 101, 2) := by decide +kernel
theorem dX5_spellingOf_53 : decode cX5_spellingOf 53 = .ok (.areturn, 1) := by decide +kernel
theorem dX5_kindsOf_0 : decode cX5_kindsOf 0 = .ok (.iload_n 0, 1) := by decide +kernel
theorem dX5_kindsOf_1 : decode cX5_kindsOf 1 = .ok (.tableswitch 50 0 4 #[35, 38, 41, 44, 47], 35) := by decide +kernel
theorem dX5_kindsOf_36 : decode cX5_kindsOf 36 = .ok (.ldc 103, 2) := by decide +kernel
theorem dX5_kindsOf_38 : decode cX5_kindsOf 38 = .ok (.areturn, 1) := by decide +kernel
theorem dX5_kindsOf_39 : decode cX5_kindsOf 39 = .ok (.ldc 105, 2) := by decide +kernel
theorem dX5_kindsOf_41 : decode cX5_kindsOf 41 = .ok (.areturn, 1) := by decide +kernel
theorem dX5_kindsOf_42 : decode cX5_kindsOf 42 = .ok (.ldc 107, 2) := by decide +kernel
theorem dX5_kindsOf_44 : decode cX5_kindsOf 44 = .ok (.areturn, 1) := by decide +kernel
theorem dX5_kindsOf_45 : decode cX5_kindsOf 45 = .ok (.ldc 105, 2) := by decide +kernel
theorem dX5_kindsOf_47 : decode cX5_kindsOf 47 = .ok (.areturn, 1) := by decide +kernel
theorem dX5_kindsOf_48 : decode cX5_kindsOf 48 = .ok (.ldc 109, 2) := by decide +kernel
theorem dX5_kindsOf_50 : decode cX5_kindsOf 50 = .ok (.areturn, 1) := by decide +kernel
theorem dX5_kindsOf_51 : decode cX5_kindsOf 51 = .ok (.ldc 111, 2) := by decide +kernel
theorem dX5_kindsOf_53 : decode cX5_kindsOf 53 = .ok (.areturn, 1) := by decide +kernel
theorem dX5_leastOf_0 : decode cX5_leastOf 0 = .ok (.iload_n 0, 1) := by decide +kernel
theorem dX5_leastOf_1 : decode cX5_leastOf 1 = .ok (.bipush 110, 2) := by decide +kernel
theorem dX5_leastOf_3 : decode cX5_leastOf 3 = .ok (.if_icmp .ne 7, 3) := by decide +kernel
theorem dX5_leastOf_6 : decode cX5_leastOf 6 = .ok (.iconst 1, 1) := by decide +kernel
theorem dX5_leastOf_7 : decode cX5_leastOf 7 = .ok (.goto 4, 3) := by decide +kernel
theorem dX5_leastOf_10 : decode cX5_leastOf 10 = .ok (.iconst 0, 1) := by decide +kernel
theorem dX5_leastOf_11 : decode cX5_leastOf 11 = .ok (.ireturn, 1) := by decide +kernel
theorem dX5_mostOf_0 : decode cX5_mostOf 0 = .ok (.iload_n 0, 1) := by decide +kernel
theorem dX5_mostOf_1 : decode cX5_mostOf 1 = .ok (.lookupswitch 65 #[(100, 59), (104, 62), (112, 53), (114, 51), (118, 56)], 51) := by decide +kernel
theorem dX5_mostOf_52 : decode cX5_mostOf 52 = .ok (.iconst 3, 1) := by decide +kernel
theorem dX5_mostOf_53 : decode cX5_mostOf 53 = .ok (.ireturn, 1) := by decide +kernel
theorem dX5_mostOf_54 : decode cX5_mostOf 54 = .ok (.bipush 7, 2) := by decide +kernel
theorem dX5_mostOf_56 : decode cX5_mostOf 56 = .ok (.ireturn, 1) := by decide +kernel
theorem dX5_mostOf_57 : decode cX5_mostOf 57 = .ok (.bipush 9, 2) := by decide +kernel
theorem dX5_mostOf_59 : decode cX5_mostOf 59 = .ok (.ireturn, 1) := by decide +kernel
theorem dX5_mostOf_60 : decode cX5_mostOf 60 = .ok (.bipush 99, 2) := by decide +kernel
theorem dX5_mostOf_62 : decode cX5_mostOf 62 = .ok (.ireturn, 1) := by decide +kernel
theorem dX5_mostOf_63 : decode cX5_mostOf 63 = .ok (.bipush 7, 2) := by decide +kernel
theorem dX5_mostOf_65 : decode cX5_mostOf 65 = .ok (.ireturn, 1) := by decide +kernel
theorem dX5_mostOf_66 : decode cX5_mostOf 66 = .ok (.bipush 30, 2) := by decide +kernel
theorem dX5_mostOf_68 : decode cX5_mostOf 68 = .ok (.ireturn, 1) := by decide +kernel
set_option maxRecDepth 20000 in
theorem ggX5_doCommand_X2_tryAdd : GoodIn wsX5_doCommand wsX2_tryAdd := goodIn_r _ [7, 8, 9, 10, 11, 12, 215, 216, 217, 218, 219, 220, 221, 222, 223, 224, 225, 226, 227, 228, 229] (by decide +kernel) (by decide +kernel)
set_option maxRecDepth 20000 in
theorem gX5_doCommand_X2_tryAdd : GoodIn wsX5_doCommand (wsV RX5 113 RX2 yX2_tryAdd wsX2_tryAdd) := goodIn_app (goodIn_of _ (by decide +kernel)) ggX5_doCommand_X2_tryAdd
set_option maxRecDepth 20000 in
theorem ggX5_doCommand_X2_tryList : GoodIn wsX5_doCommand wsX2_tryList := goodIn_r _ [16, 17, 18, 19, 20, 6, 21, 22, 23, 24, 25, 8, 26, 27, 28, 29, 11, 30, 215, 216, 217, 218, 219, 220, 221, 222, 223, 224, 225, 226, 227, 228, 229] (by decide +kernel) (by decide +kernel)
set_option maxRecDepth 20000 in
theorem gX5_doCommand_X2_tryList : GoodIn wsX5_doCommand (wsV RX5 118 RX2 yX2_tryList wsX2_tryList) := goodIn_app (goodIn_of _ (by decide +kernel)) ggX5_doCommand_X2_tryList
set_option maxRecDepth 20000 in
theorem ggX5_doCommand_X2_tryBook : GoodIn wsX5_doCommand wsX2_tryBook := goodIn_r _ [34, 35, 18, 19, 20, 6, 21, 22, 23, 24, 25, 8, 26, 27, 28, 36, 37, 38, 39, 40, 41, 42, 43, 44, 45, 46, 47, 48, 17, 49, 50, 51, 9, 52, 11, 53, 54, 55, 56, 57, 58, 59, 60, 61, 62, 63, 64, 65, 66, 67, 68, 69, 70, 71, 72, 73, 74, 75, 76, 77, 78, 79, 80, 81, 82, 83, 84, 85, 86, 87, 88, 89, 90, 91, 92, 93, 94, 215, 216, 217, 218, 219, 220, 221, 222, 223, 224, 225, 226, 227, 228, 229, 230, 231] (by decide +kernel) (by decide +kernel)
set_option maxRecDepth 20000 in
theorem gX5_doCommand_X2_tryBook : GoodIn wsX5_doCommand (wsV RX5 122 RX2 yX2_tryBook wsX2_tryBook) := goodIn_app (goodIn_of _ (by decide +kernel)) ggX5_doCommand_X2_tryBook
set_option maxRecDepth 20000 in
theorem ggX5_doCommand_X2_tryWish : GoodIn wsX5_doCommand wsX2_tryWish := goodIn_r _ [98, 17, 99, 100, 18, 19, 20, 6, 21, 22, 23, 24, 25, 8, 26, 27, 28, 52, 11, 53, 101, 102, 103, 104, 105, 106, 107, 108, 109, 110, 111, 215, 216, 217, 218, 219, 220, 221, 222, 223, 224, 225, 226, 227, 228, 229, 232, 233] (by decide +kernel) (by decide +kernel)
set_option maxRecDepth 20000 in
theorem gX5_doCommand_X2_tryWish : GoodIn wsX5_doCommand (wsV RX5 126 RX2 yX2_tryWish wsX2_tryWish) := goodIn_app (goodIn_of _ (by decide +kernel)) ggX5_doCommand_X2_tryWish
set_option maxRecDepth 20000 in
theorem ggX5_doCommand_X2_tryCarry : GoodIn wsX5_doCommand wsX2_tryCarry := goodIn_r _ [115, 116, 26, 27, 6, 28, 29, 11, 30, 215, 216, 217, 218, 219, 220, 221, 222, 223, 224, 225, 226, 227, 228, 229] (by decide +kernel) (by decide +kernel)
set_option maxRecDepth 20000 in
theorem gX5_doCommand_X2_tryCarry : GoodIn wsX5_doCommand (wsV RX5 129 RX2 yX2_tryCarry wsX2_tryCarry) := goodIn_app (goodIn_of _ (by decide +kernel)) ggX5_doCommand_X2_tryCarry
set_option maxRecDepth 20000 in
theorem ggX5_doCommand_X2_letDaysPass : GoodIn wsX5_doCommand wsX2_letDaysPass := goodIn_r _ [120, 121, 35, 122, 40, 123, 124, 125, 6, 126, 99, 100, 127, 128, 129, 130, 104, 131, 106, 132, 133, 134, 135, 136, 137, 138, 139, 111, 140, 141, 142, 143, 144, 145, 146, 147, 148, 149, 150, 151, 152, 153, 154, 155, 74, 75, 76, 60, 77, 62, 45, 46, 47, 48, 17, 49, 50, 51, 9, 22, 23, 24, 25, 8, 26, 27, 28, 52, 11, 53, 54, 55, 56, 57, 58, 59, 61, 63, 64, 65, 66, 67, 68, 69, 70, 71, 72, 73, 78, 79, 80, 81, 82, 83, 84, 85, 86, 87, 88, 89, 90, 91, 92, 93, 94, 156, 157, 158, 159, 160, 161, 162, 163, 164, 165, 166, 167, 168, 169, 170, 171, 172, 173, 174, 175, 176, 18, 19, 20, 21, 177, 178, 179, 180, 116, 181, 182, 183, 184, 185, 186, 187, 188, 189, 190, 191, 192, 193, 29, 30, 194, 195, 196, 197, 198, 199, 200, 201, 202, 203, 204, 205, 206, 207, 208, 209, 215, 216, 217, 218, 219, 220, 221, 222, 223, 224, 225, 226, 227, 228, 229, 230, 231, 232, 233] (by decide +kernel) (by decide +kernel)
set_option maxRecDepth 20000 in
theorem gX5_doCommand_X2_letDaysPass : GoodIn wsX5_doCommand (wsV RX5 133 RX2 yX2_letDaysPass wsX2_letDaysPass) := goodIn_app (goodIn_of _ (by decide +kernel)) ggX5_doCommand_X2_letDaysPass
theorem dX5_doCommand_0 : decode cX5_doCommand 0 = .ok (.aload_n 0, 1) := by decide +kernel
theorem dX5_doCommand_1 : decode cX5_doCommand 1 = .ok (.getfield 40, 3) := by decide +kernel
theorem dX5_doCommand_4 : decode cX5_doCommand 4 = .ok (.tableswitch 138 0 5 #[40, 51, 69, 98, 115, 127], 40) := by decide +kernel
theorem dX5_doCommand_44 : decode cX5_doCommand 44 = .ok (.aload_n 1, 1) := by decide +kernel
theorem dX5_doCommand_45 : decode cX5_doCommand 45 = .ok (.aload_n 0, 1) := by decide +kernel
theorem dX5_doCommand_46 : decode cX5_doCommand 46 = .ok (.getfield 15, 3) := by decide +kernel
theorem dX5_doCommand_49 : decode cX5_doCommand 49 = .ok (.iconst 0, 1) := by decide +kernel
theorem dX5_doCommand_50 : decode cX5_doCommand 50 = .ok (.iaload, 1) := by decide +kernel
theorem dX5_doCommand_51 : decode cX5_doCommand 51 = .ok (.invokevirtual 113, 3) := by decide +kernel
theorem dX5_doCommand_54 : decode cX5_doCommand 54 = .ok (.ireturn, 1) := by decide +kernel
theorem dX5_doCommand_55 : decode cX5_doCommand 55 = .ok (.aload_n 1, 1) := by decide +kernel
theorem dX5_doCommand_56 : decode cX5_doCommand 56 = .ok (.aload_n 0, 1) := by decide +kernel
theorem dX5_doCommand_57 : decode cX5_doCommand 57 = .ok (.getfield 15, 3) := by decide +kernel
theorem dX5_doCommand_60 : decode cX5_doCommand 60 = .ok (.iconst 0, 1) := by decide +kernel
theorem dX5_doCommand_61 : decode cX5_doCommand 61 = .ok (.iaload, 1) := by decide +kernel
theorem dX5_doCommand_62 : decode cX5_doCommand 62 = .ok (.aload_n 0, 1) := by decide +kernel
theorem dX5_doCommand_63 : decode cX5_doCommand 63 = .ok (.getfield 15, 3) := by decide +kernel
theorem dX5_doCommand_66 : decode cX5_doCommand 66 = .ok (.iconst 1, 1) := by decide +kernel
theorem dX5_doCommand_67 : decode cX5_doCommand 67 = .ok (.iaload, 1) := by decide +kernel
theorem dX5_doCommand_68 : decode cX5_doCommand 68 = .ok (.iconst 1, 1) := by decide +kernel
theorem dX5_doCommand_69 : decode cX5_doCommand 69 = .ok (.invokevirtual 118, 3) := by decide +kernel
theorem dX5_doCommand_72 : decode cX5_doCommand 72 = .ok (.ireturn, 1) := by decide +kernel
theorem dX5_doCommand_73 : decode cX5_doCommand 73 = .ok (.aload_n 1, 1) := by decide +kernel
theorem dX5_doCommand_74 : decode cX5_doCommand 74 = .ok (.aload_n 0, 1) := by decide +kernel
theorem dX5_doCommand_75 : decode cX5_doCommand 75 = .ok (.getfield 15, 3) := by decide +kernel
theorem dX5_doCommand_78 : decode cX5_doCommand 78 = .ok (.iconst 0, 1) := by decide +kernel
theorem dX5_doCommand_79 : decode cX5_doCommand 79 = .ok (.iaload, 1) := by decide +kernel
theorem dX5_doCommand_80 : decode cX5_doCommand 80 = .ok (.aload_n 0, 1) := by decide +kernel
theorem dX5_doCommand_81 : decode cX5_doCommand 81 = .ok (.getfield 15, 3) := by decide +kernel
theorem dX5_doCommand_84 : decode cX5_doCommand 84 = .ok (.iconst 1, 1) := by decide +kernel
