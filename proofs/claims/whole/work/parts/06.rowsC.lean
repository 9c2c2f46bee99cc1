theorem dX8_goes_12 : decode cX8_goes 12 = .ok (.iload_n 1, 1) := by decide +kernel
theorem dX8_goes_13 : decode cX8_goes 13 = .ok (.ifCond .ne 7, 3) := by decide +kernel
theorem dX8_goes_16 : decode cX8_goes 16 = .ok (.iconst 1, 1) := by decide +kernel
theorem dX8_goes_17 : decode cX8_goes 17 = .ok (.goto 4, 3) := by decide +kernel
theorem dX8_goes_20 : decode cX8_goes 20 = .ok (.iconst 0, 1) := by decide +kernel
theorem dX8_goes_21 : decode cX8_goes 21 = .ok (.iadd, 1) := by decide +kernel
theorem dX8_goes_22 : decode cX8_goes 22 = .ok (.putfield 175, 3) := by decide +kernel
theorem dX8_goes_25 : decode cX8_goes 25 = .ok (.aload_n 0, 1) := by decide +kernel
theorem dX8_goes_26 : decode cX8_goes 26 = .ok (.getfield 158, 3) := by decide +kernel
theorem dX8_goes_29 : decode cX8_goes 29 = .ok (.ifCond .eq 11, 3) := by decide +kernel
theorem dX8_goes_32 : decode cX8_goes 32 = .ok (.iload_n 1, 1) := by decide +kernel
theorem dX8_goes_33 : decode cX8_goes 33 = .ok (.ifCond .eq 7, 3) := by decide +kernel
theorem dX8_goes_36 : decode cX8_goes 36 = .ok (.iconst 1, 1) := by decide +kernel
theorem dX8_goes_37 : decode cX8_goes 37 = .ok (.goto 4, 3) := by decide +kernel
theorem dX8_goes_40 : decode cX8_goes 40 = .ok (.iconst 0, 1) := by decide +kernel
theorem dX8_goes_41 : decode cX8_goes 41 = .ok (.ireturn, 1) := by decide +kernel
set_option maxRecDepth 20000 in
theorem ggX8_readM_X8_isNext : GoodIn wsX8_readM wsX8_isNext := goodIn_r _ [6, 7, 8, 9, 41, 42, 43, 44, 45, 46, 47, 48, 49, 50, 51, 52, 53, 54, 55, 56, 57] (by decide +kernel) (by decide +kernel)
set_option maxRecDepth 20000 in
theorem gX8_readM_X8_isNext : GoodIn wsX8_readM (wsV RX8 164 RX8 yX8_isNext wsX8_isNext) := goodIn_app (goodIn_of _ (by decide +kernel)) ggX8_readM_X8_isNext
set_option maxRecDepth 20000 in
theorem ggX8_readM_X8_accept : GoodIn wsX8_readM wsX8_accept := goodIn_r _ [13, 14, 7, 41, 42, 43, 44, 45, 46, 47, 48, 49, 50, 51, 52, 53, 54, 55, 56, 57] (by decide +kernel) (by decide +kernel)
set_option maxRecDepth 20000 in
theorem gX8_readM_X8_accept : GoodIn wsX8_readM (wsV RX8 167 RX8 yX8_accept wsX8_accept) := goodIn_app (goodIn_of _ (by decide +kernel)) ggX8_readM_X8_accept
set_option maxRecDepth 20000 in
theorem ggX8_readM_X8_number : GoodIn wsX8_readM wsX8_number := goodIn_r _ [18, 14, 2, 3, 4, 5, 6, 7, 8, 9, 10, 11, 12, 13, 19, 20, 21, 22, 23, 24, 25, 26, 41, 42, 43, 44, 45, 46, 47, 48, 49, 50, 51, 52, 53, 54, 55, 56, 57] (by decide +kernel) (by decide +kernel)
set_option maxRecDepth 20000 in
theorem gX8_readM_X8_number : GoodIn wsX8_readM (wsV RX8 178 RX8 yX8_number wsX8_number) := goodIn_app (goodIn_of _ (by decide +kernel)) ggX8_readM_X8_number
set_option maxRecDepth 20000 in
theorem ggX8_readM_X8_goes : GoodIn wsX8_readM wsX8_goes := goodIn_r _ [30, 31, 14, 41, 42, 43, 44, 45, 46, 47, 48, 49, 50, 51, 52, 53, 54, 55, 56, 57] (by decide +kernel) (by decide +kernel)
set_option maxRecDepth 20000 in
theorem gX8_readM_X8_goes : GoodIn wsX8_readM (wsV RX8 181 RX8 yX8_goes wsX8_goes) := goodIn_app (goodIn_of _ (by decide +kernel)) ggX8_readM_X8_goes
set_option maxRecDepth 20000 in
theorem ggX8_readM_X8_addIn : GoodIn wsX8_readM wsX8_addIn := goodIn_r _ [34, 35, 36, 5, 37] (by decide +kernel) (by decide +kernel)
set_option maxRecDepth 20000 in
theorem gX8_readM_X8_addIn : GoodIn wsX8_readM (va_wsS RX8 185 yX8_addIn wsX8_addIn) := goodIn_app (goodIn_of _ (by decide +kernel)) ggX8_readM_X8_addIn
set_option maxRecDepth 20000 in
theorem ggX8_readM_X8_listIn : GoodIn wsX8_readM wsX8_listIn := goodIn_r _ [40, 35, 36, 5, 37] (by decide +kernel) (by decide +kernel)
set_option maxRecDepth 20000 in
theorem gX8_readM_X8_listIn : GoodIn wsX8_readM (va_wsS RX8 188 yX8_listIn wsX8_listIn) := goodIn_app (goodIn_of _ (by decide +kernel)) ggX8_readM_X8_listIn
theorem dX8_readM_0 : decode cX8_readM 0 = .ok (.aload_n 0, 1) := by decide +kernel
theorem dX8_readM_1 : decode cX8_readM 1 = .ok (.aload_n 0, 1) := by decide +kernel
theorem dX8_readM_2 : decode cX8_readM 2 = .ok (.bipush 97, 2) := by decide +kernel
theorem dX8_readM_4 : decode cX8_readM 4 = .ok (.invokevirtual 164, 3) := by decide +kernel
theorem dX8_readM_7 : decode cX8_readM 7 = .ok (.invokevirtual 167, 3) := by decide +kernel
theorem dX8_readM_10 : decode cX8_readM 10 = .ok (.aload_n 0, 1) := by decide +kernel
theorem dX8_readM_11 : decode cX8_readM 11 = .ok (.bipush 110, 2) := by decide +kernel
theorem dX8_readM_13 : decode cX8_readM 13 = .ok (.invokevirtual 164, 3) := by decide +kernel
theorem dX8_readM_16 : decode cX8_readM 16 = .ok (.istore_n 1, 1) := by decide +kernel
theorem dX8_readM_17 : decode cX8_readM 17 = .ok (.aload_n 0, 1) := by decide +kernel
theorem dX8_readM_18 : decode cX8_readM 18 = .ok (.iload_n 1, 1) := by decide +kernel
theorem dX8_readM_19 : decode cX8_readM 19 = .ok (.ifCond .ne 12, 3) := by decide +kernel
theorem dX8_readM_22 : decode cX8_readM 22 = .ok (.aload_n 0, 1) := by decide +kernel
theorem dX8_readM_23 : decode cX8_readM 23 = .ok (.bipush 121, 2) := by decide +kernel
theorem dX8_readM_25 : decode cX8_readM 25 = .ok (.invokevirtual 164, 3) := by decide +kernel
theorem dX8_readM_28 : decode cX8_readM 28 = .ok (.ifCond .eq 7, 3) := by decide +kernel
theorem dX8_readM_31 : decode cX8_readM 31 = .ok (.iconst 1, 1) := by decide +kernel
theorem dX8_readM_32 : decode cX8_readM 32 = .ok (.goto 4, 3) := by decide +kernel
theorem dX8_readM_35 : decode cX8_readM 35 = .ok (.iconst 0, 1) := by decide +kernel
theorem dX8_readM_36 : decode cX8_readM 36 = .ok (.invokevirtual 167, 3) := by decide +kernel
theorem dX8_readM_39 : decode cX8_readM 39 = .ok (.iload_n 1, 1) := by decide +kernel
theorem dX8_readM_40 : decode cX8_readM 40 = .ok (.ifCond .eq 45, 3) := by decide +kernel
theorem dX8_readM_43 : decode cX8_readM 43 = .ok (.aload_n 0, 1) := by decide +kernel
theorem dX8_readM_44 : decode cX8_readM 44 = .ok (.iconst 0, 1) := by decide +kernel
theorem dX8_readM_45 : decode cX8_readM 45 = .ok (.iconst 3, 1) := by decide +kernel
theorem dX8_readM_46 : decode cX8_readM 46 = .ok (.invokevirtual 178, 3) := by decide +kernel
theorem dX8_readM_49 : decode cX8_readM 49 = .ok (.istore_n 2, 1) := by decide +kernel
theorem dX8_readM_50 : decode cX8_readM 50 = .ok (.aload_n 0, 1) := by decide +kernel
theorem dX8_readM_51 : decode cX8_readM 51 = .ok (.aload_n 0, 1) := by decide +kernel
theorem dX8_readM_52 : decode cX8_readM 52 = .ok (.getfield 13, 3) := by decide +kernel
theorem dX8_readM_55 : decode cX8_readM 55 = .ok (.iconst 1, 1) := by decide +kernel
theorem dX8_readM_56 : decode cX8_readM 56 = .ok (.iaload, 1) := by decide +kernel
theorem dX8_readM_57 : decode cX8_readM 57 = .ok (.bipush 8, 2) := by decide +kernel
theorem dX8_readM_59 : decode cX8_readM 59 = .ok (.if_icmp .ge 7, 3) := by decide +kernel
theorem dX8_readM_62 : decode cX8_readM 62 = .ok (.iconst 1, 1) := by decide +kernel
theorem dX8_readM_63 : decode cX8_readM 63 = .ok (.goto 4, 3) := by decide +kernel
theorem dX8_readM_66 : decode cX8_readM 66 = .ok (.iconst 0, 1) := by decide +kernel
theorem dX8_readM_67 : decode cX8_readM 67 = .ok (.invokevirtual 181, 3) := by decide +kernel
theorem dX8_readM_70 : decode cX8_readM 70 = .ok (.ifCond .eq 12, 3) := by decide +kernel
theorem dX8_readM_73 : decode cX8_readM 73 = .ok (.aload_n 0, 1) := by decide +kernel
theorem dX8_readM_74 : decode cX8_readM 74 = .ok (.getfield 13, 3) := by decide +kernel
theorem dX8_readM_77 : decode cX8_readM 77 = .ok (.iload_n 2, 1) := by decide +kernel
theorem dX8_readM_78 : decode cX8_readM 78 = .ok (.invokestatic 185, 3) := by decide +kernel
theorem dX8_readM_81 : decode cX8_readM 81 = .ok (.pop, 1) := by decide +kernel
theorem dX8_readM_82 : decode cX8_readM 82 = .ok (.goto 52, 3) := by decide +kernel
theorem dX8_readM_85 : decode cX8_readM 85 = .ok (.aload_n 0, 1) := by decide +kernel
theorem dX8_readM_86 : decode cX8_readM 86 = .ok (.iconst 0, 1) := by decide +kernel
theorem dX8_readM_87 : decode cX8_readM 87 = .ok (.bipush 7, 2) := by decide +kernel
theorem dX8_readM_89 : decode cX8_readM 89 = .ok (.invokevirtual 178, 3) := by decide +kernel
theorem dX8_readM_92 : decode cX8_readM 92 = .ok (.istore_n 2, 1) := by decide +kernel
theorem dX8_readM_93 : decode cX8_readM 93 = .ok (.aload_n 0, 1) := by decide +kernel
theorem dX8_readM_94 : decode cX8_readM 94 = .ok (.iconst 0, 1) := by decide +kernel
theorem dX8_readM_95 : decode cX8_readM 95 = .ok (.bipush 9, 2) := by decide +kernel
theorem dX8_readM_97 : decode cX8_readM 97 = .ok (.invokevirtual 178, 3) := by decide +kernel
theorem dX8_readM_100 : decode cX8_readM 100 = .ok (.istore_n 3, 1) := by decide +kernel
theorem dX8_readM_101 : decode cX8_readM 101 = .ok (.aload_n 0, 1) := by decide +kernel
theorem dX8_readM_102 : decode cX8_readM 102 = .ok (.iload_n 2, 1) := by decide +kernel
theorem dX8_readM_103 : decode cX8_readM 103 = .ok (.aload_n 0, 1) := by decide +kernel
theorem dX8_readM_104 : decode cX8_readM 104 = .ok (.getfield 13, 3) := by decide +kernel
theorem dX8_readM_107 : decode cX8_readM 107 = .ok (.iconst 1, 1) := by decide +kernel
theorem dX8_readM_108 : decode cX8_readM 108 = .ok (.iaload, 1) := by decide +kernel
theorem dX8_readM_109 : decode cX8_readM 109 = .ok (.if_icmp .ge 7, 3) := by decide +kernel
theorem dX8_readM_112 : decode cX8_readM 112 = .ok (.iconst 1, 1) := by decide +kernel
theorem dX8_readM_113 : decode cX8_readM 113 = .ok (.goto 4, 3) := by decide +kernel
theorem dX8_readM_116 : decode cX8_readM 116 = .ok (.iconst 0, 1) := by decide +kernel
theorem dX8_readM_117 : decode cX8_readM 117 = .ok (.invokevirtual 181, 3) := by decide +kernel
theorem dX8_readM_120 : decode cX8_readM 120 = .ok (.ifCond .eq 14, 3) := by decide +kernel
theorem dX8_readM_123 : decode cX8_readM 123 = .ok (.aload_n 0, 1) := by decide +kernel
theorem dX8_readM_124 : decode cX8_readM 124 = .ok (.getfield 13, 3) := by decide +kernel
theorem dX8_readM_127 : decode cX8_readM 127 = .ok (.iload_n 2, 1) := by decide +kernel
theorem dX8_readM_128 : decode cX8_readM 128 = .ok (.iload_n 3, 1) := by decide +kernel
theorem dX8_readM_129 : decode cX8_readM 129 = .ok (.iconst 1, 1) := by decide +kernel
theorem dX8_readM_130 : decode cX8_readM 130 = .ok (.invokestatic 188, 3) := by decide +kernel
theorem dX8_readM_133 : decode cX8_readM 133 = .ok (.pop, 1) := by decide +kernel
theorem dX8_readM_134 : decode cX8_readM 134 = .ok (.return_, 1) := by decide +kernel
set_option maxRecDepth 20000 in
theorem ggX8_word_X8_isNext : GoodIn wsX8_word wsX8_isNext := goodIn_r _ [5, 6, 7, 8, 14, 15, 16, 17, 18, 19, 20, 21, 22, 23, 24, 25, 26, 27, 28, 29, 30] (by decide +kernel) (by decide +kernel)
set_option maxRecDepth 20000 in
theorem gX8_word_X8_isNext : GoodIn wsX8_word (wsV RX8 164 RX8 yX8_isNext wsX8_isNext) := goodIn_app (goodIn_of _ (by decide +kernel)) ggX8_word_X8_isNext
set_option maxRecDepth 20000 in
theorem ggX8_word_X8_accept : GoodIn wsX8_word wsX8_accept := goodIn_r _ [12, 13, 6, 14, 15, 16, 17, 18, 19, 20, 21, 22, 23, 24, 25, 26, 27, 28, 29, 30] (by decide +kernel) (by decide +kernel)
set_option maxRecDepth 20000 in
theorem gX8_word_X8_accept : GoodIn wsX8_word (wsV RX8 167 RX8 yX8_accept wsX8_accept) := goodIn_app (goodIn_of _ (by decide +kernel)) ggX8_word_X8_accept
theorem dX8_word_0 : decode cX8_word 0 = .ok (.aload_n 0, 1) := by decide +kernel
theorem dX8_word_1 : decode cX8_word 1 = .ok (.aload_n 0, 1) := by decide +kernel
theorem dX8_word_2 : decode cX8_word 2 = .ok (.iload_n 1, 1) := by decide +kernel
theorem dX8_word_3 : decode cX8_word 3 = .ok (.invokevirtual 164, 3) := by decide +kernel
theorem dX8_word_6 : decode cX8_word 6 = .ok (.invokevirtual 167, 3) := by decide +kernel
theorem dX8_word_9 : decode cX8_word 9 = .ok (.aload_n 0, 1) := by decide +kernel
theorem dX8_word_10 : decode cX8_word 10 = .ok (.aload_n 0, 1) := by decide +kernel
theorem dX8_word_11 : decode cX8_word 11 = .ok (.iload_n 2, 1) := by decide +kernel
theorem dX8_word_12 : decode cX8_word 12 = .ok (.invokevirtual 164, 3) := by decide +kernel
theorem dX8_word_15 : decode cX8_word 15 = .ok (.invokevirtual 167, 3) := by decide +kernel
theorem dX8_word_18 : decode cX8_word 18 = .ok (.iload_n 3, 1) := by decide +kernel
theorem dX8_word_19 : decode cX8_word 19 = .ok (.iconst (-1), 1) := by decide +kernel
theorem dX8_word_20 : decode cX8_word 20 = .ok (.if_icmp .eq 12, 3) := by decide +kernel
theorem dX8_word_23 : decode cX8_word 23 = .ok (.aload_n 0, 1) := by decide +kernel
theorem dX8_word_24 : decode cX8_word 24 = .ok (.aload_n 0, 1) := by decide +kernel
theorem dX8_word_25 : decode cX8_word 25 = .ok (.iload_n 3, 1) := by decide +kernel
theorem dX8_word_26 : decode cX8_word 26 = .ok (.invokevirtual 164, 3) := by decide +kernel
theorem dX8_word_29 : decode cX8_word 29 = .ok (.invokevirtual 167, 3) := by decide +kernel
theorem dX8_word_32 : decode cX8_word 32 = .ok (.return_, 1) := by decide +kernel
set_option maxRecDepth 20000 in
theorem ggX8_readBook_X8_word : GoodIn wsX8_readBook wsX8_word := goodIn_r _ [7, 8, 9, 10, 6, 11, 12, 13, 14, 15, 16, 17, 18, 1, 86, 87, 88, 89, 90, 91, 92, 93, 94, 95, 96, 97, 98, 99, 100, 101, 102] (by decide +kernel) (by decide +kernel)
set_option maxRecDepth 20000 in
theorem gX8_readBook_X8_word : GoodIn wsX8_readBook (wsV RX8 192 RX8 yX8_word wsX8_word) := goodIn_app (goodIn_of _ (by decide +kernel)) ggX8_readBook_X8_word
set_option maxRecDepth 20000 in
theorem ggX8_readBook_X8_number : GoodIn wsX8_readBook wsX8_number := goodIn_r _ [22, 1, 8, 9, 10, 6, 11, 12, 13, 14, 15, 16, 17, 18, 23, 24, 25, 26, 27, 28, 29, 30, 86, 87, 88, 89, 90, 91, 92, 93, 94, 95, 96, 97, 98, 99, 100, 101, 102] (by decide +kernel) (by decide +kernel)
set_option maxRecDepth 20000 in
theorem gX8_readBook_X8_number : GoodIn wsX8_readBook (wsV RX8 178 RX8 yX8_number wsX8_number) := goodIn_app (goodIn_of _ (by decide +kernel)) ggX8_readBook_X8_number
set_option maxRecDepth 20000 in
theorem ggX8_readBook_X8_isTime : GoodIn wsX8_readBook wsX8_isTime := goodIn_r _ [33, 34, 35, 28, 29, 6, 30] (by decide +kernel) (by decide +kernel)
set_option maxRecDepth 20000 in
theorem gX8_readBook_X8_isTime : GoodIn wsX8_readBook (va_wsS RX8 196 yX8_isTime wsX8_isTime) := goodIn_app (goodIn_of _ (by decide +kernel)) ggX8_readBook_X8_isTime
set_option maxRecDepth 20000 in
theorem ggX8_readBook_X8_why : GoodIn wsX8_readBook wsX8_why := goodIn_r _ [38, 39, 40, 6, 41, 42, 43, 44, 45, 46, 47, 48, 49, 50, 51, 52, 53, 54, 55, 56, 57, 58, 59, 60, 61, 62, 63, 64, 65, 66, 67, 68, 69, 70, 71] (by decide +kernel) (by decide +kernel)
set_option maxRecDepth 20000 in
theorem gX8_readBook_X8_why : GoodIn wsX8_readBook (va_wsS RX8 96 yX8_why wsX8_why) := goodIn_app (goodIn_of _ (by decide +kernel)) ggX8_readBook_X8_why
set_option maxRecDepth 20000 in
theorem ggX8_readBook_X8_goes : GoodIn wsX8_readBook wsX8_goes := goodIn_r _ [75, 76, 1, 86, 87, 88, 89, 90, 91, 92, 93, 94, 95, 96, 97, 98, 99, 100, 101, 102] (by decide +kernel) (by decide +kernel)
set_option maxRecDepth 20000 in
theorem gX8_readBook_X8_goes : GoodIn wsX8_readBook (wsV RX8 181 RX8 yX8_goes wsX8_goes) := goodIn_app (goodIn_of _ (by decide +kernel)) ggX8_readBook_X8_goes
set_option maxRecDepth 20000 in
theorem ggX8_readBook_X8_bookIn : GoodIn wsX8_readBook wsX8_bookIn := goodIn_r _ [79, 69, 70, 6, 71, 63, 64, 65, 57, 58, 59, 80, 81, 82, 83, 84, 85] (by decide +kernel) (by decide +kernel)
set_option maxRecDepth 20000 in
theorem gX8_readBook_X8_bookIn : GoodIn wsX8_readBook (va_wsS RX8 111 yX8_bookIn wsX8_bookIn) := goodIn_app (goodIn_of _ (by decide +kernel)) ggX8_readBook_X8_bookIn
theorem dX8_readBook_0 : decode cX8_readBook 0 = .ok (.aload_n 0, 1) := by decide +kernel
theorem dX8_readBook_1 : decode cX8_readBook 1 = .ok (.bipush 111, 2) := by decide +kernel
theorem dX8_readBook_3 : decode cX8_readBook 3 = .ok (.bipush 111, 2) := by decide +kernel
theorem dX8_readBook_5 : decode cX8_readBook 5 = .ok (.bipush 107, 2) := by decide +kernel
theorem dX8_readBook_7 : decode cX8_readBook 7 = .ok (.invokevirtual 192, 3) := by decide +kernel
theorem dX8_readBook_10 : decode cX8_readBook 10 = .ok (.aload_n 0, 1) := by decide +kernel
theorem dX8_readBook_11 : decode cX8_readBook 11 = .ok (.iconst 0, 1) := by decide +kernel
theorem dX8_readBook_12 : decode cX8_readBook 12 = .ok (.bipush 7, 2) := by decide +kernel
theorem dX8_readBook_14 : decode cX8_readBook 14 = .ok (.invokevirtual 178, 3) := by decide +kernel
theorem dX8_readBook_17 : decode cX8_readBook 17 = .ok (.istore_n 1, 1) := by decide +kernel
theorem dX8_readBook_18 : decode cX8_readBook 18 = .ok (.aload_n 0, 1) := by decide +kernel
theorem dX8_readBook_19 : decode cX8_readBook 19 = .ok (.iconst 0, 1) := by decide +kernel
theorem dX8_readBook_20 : decode cX8_readBook 20 = .ok (.bipush 9, 2) := by decide +kernel
theorem dX8_readBook_22 : decode cX8_readBook 22 = .ok (.invokevirtual 178, 3) := by decide +kernel
theorem dX8_readBook_25 : decode cX8_readBook 25 = .ok (.istore_n 2, 1) := by decide +kernel
theorem dX8_readBook_26 : decode cX8_readBook 26 = .ok (.aload_n 0, 1) := by decide +kernel
theorem dX8_readBook_27 : decode cX8_readBook 27 = .ok (.iconst 0, 1) := by decide +kernel
theorem dX8_readBook_28 : decode cX8_readBook 28 = .ok (.bipush 99, 2) := by decide +kernel
theorem dX8_readBook_30 : decode cX8_readBook 30 = .ok (.invokevirtual 178, 3) := by decide +kernel
theorem dX8_readBook_33 : decode cX8_readBook 33 = .ok (.istore_n 3, 1) := by decide +kernel
theorem dX8_readBook_34 : decode cX8_readBook 34 = .ok (.aload_n 0, 1) := by decide +kernel
theorem dX8_readBook_35 : decode cX8_readBook 35 = .ok (.iconst 0, 1) := by decide +kernel
theorem dX8_readBook_36 : decode cX8_readBook 36 = .ok (.bipush 7, 2) := by decide +kernel
theorem dX8_readBook_38 : decode cX8_readBook 38 = .ok (.invokevirtual 178, 3) := by decide +kernel
theorem dX8_readBook_41 : decode cX8_readBook 41 = .ok (.istore 4, 2) := by decide +kernel
theorem dX8_readBook_43 : decode cX8_readBook 43 = .ok (.aload_n 0, 1) := by decide +kernel
theorem dX8_readBook_44 : decode cX8_readBook 44 = .ok (.getfield 158, 3) := by decide +kernel
theorem dX8_readBook_47 : decode cX8_readBook 47 = .ok (.ifCond .eq 66, 3) := by decide +kernel
theorem dX8_readBook_50 : decode cX8_readBook 50 = .ok (.aload_n 0, 1) := by decide +kernel
theorem dX8_readBook_51 : decode cX8_readBook 51 = .ok (.iload_n 1, 1) := by decide +kernel
theorem dX8_readBook_52 : decode cX8_readBook 52 = .ok (.aload_n 0, 1) := by decide +kernel
theorem dX8_readBook_53 : decode cX8_readBook 53 = .ok (.getfield 13, 3) := by decide +kernel
theorem dX8_readBook_56 : decode cX8_readBook 56 = .ok (.iconst 1, 1) := by decide +kernel
theorem dX8_readBook_57 : decode cX8_readBook 57 = .ok (.iaload, 1) := by decide +kernel
theorem dX8_readBook_58 : decode cX8_readBook 58 = .ok (.if_icmp .ge 35, 3) := by decide +kernel
theorem dX8_readBook_61 : decode cX8_readBook 61 = .ok (.aload_n 0, 1) := by decide +kernel
theorem dX8_readBook_62 : decode cX8_readBook 62 = .ok (.getfield 13, 3) := by decide +kernel
theorem dX8_readBook_65 : decode cX8_readBook 65 = .ok (.iload_n 3, 1) := by decide +kernel
theorem dX8_readBook_66 : decode cX8_readBook 66 = .ok (.iload 4, 2) := by decide +kernel
theorem dX8_readBook_68 : decode cX8_readBook 68 = .ok (.invokestatic 196, 3) := by decide +kernel
theorem dX8_readBook_71 : decode cX8_readBook 71 = .ok (.ifCond .eq 22, 3) := by decide +kernel
theorem dX8_readBook_74 : decode cX8_readBook 74 = .ok (.aload_n 0, 1) := by decide +kernel
theorem dX8_readBook_75 : decode cX8_readBook 75 = .ok (.getfield 13, 3) := by decide +kernel
theorem dX8_readBook_78 : decode cX8_readBook 78 = .ok (.iload_n 1, 1) := by decide +kernel
theorem dX8_readBook_79 : decode cX8_readBook 79 = .ok (.iload_n 2, 1) := by decide +kernel
theorem dX8_readBook_80 : decode cX8_readBook 80 = .ok (.iload_n 3, 1) := by decide +kernel
theorem dX8_readBook_81 : decode cX8_readBook 81 = .ok (.iload 4, 2) := by decide +kernel
theorem dX8_readBook_83 : decode cX8_readBook 83 = .ok (.invokestatic 96, 3) := by decide +kernel
theorem dX8_readBook_86 : decode cX8_readBook 86 = .ok (.ifCond .ne 7, 3) := by decide +kernel
theorem dX8_readBook_89 : decode cX8_readBook 89 = .ok (.iconst 1, 1) := by decide +kernel
theorem dX8_readBook_90 : decode cX8_readBook 90 = .ok (.goto 4, 3) := by decide +kernel
theorem dX8_readBook_93 : decode cX8_readBook 93 = .ok (.iconst 0, 1) := by decide +kernel
theorem dX8_readBook_94 : decode cX8_readBook 94 = .ok (.invokevirtual 181, 3) := by decide +kernel
theorem dX8_readBook_97 : decode cX8_readBook 97 = .ok (.ifCond .eq 16, 3) := by decide +kernel
theorem dX8_readBook_100 : decode cX8_readBook 100 = .ok (.aload_n 0, 1) := by decide +kernel
theorem dX8_readBook_101 : decode cX8_readBook 101 = .ok (.getfield 13, 3) := by decide +kernel
theorem dX8_readBook_104 : decode cX8_readBook 104 = .ok (.iload_n 1, 1) := by decide +kernel
theorem dX8_readBook_105 : decode cX8_readBook 105 = .ok (.iload_n 2, 1) := by decide +kernel
theorem dX8_readBook_106 : decode cX8_readBook 106 = .ok (.iload_n 3, 1) := by decide +kernel
theorem dX8_readBook_107 : decode cX8_readBook 107 = .ok (.iload 4, 2) := by decide +kernel
theorem dX8_readBook_109 : decode cX8_readBook 109 = .ok (.invokestatic 111, 3) := by decide +kernel
theorem dX8_readBook_112 : decode cX8_readBook 112 = .ok (.pop, 1) := by decide +kernel
theorem dX8_readBook_113 : decode cX8_readBook 113 = .ok (.return_, 1) := by decide +kernel
set_option maxRecDepth 20000 in
theorem ggX8_readWish_X8_word : GoodIn wsX8_readWish wsX8_word := goodIn_r _ [7, 8, 9, 10, 6, 11, 12, 13, 14, 15, 16, 17, 18, 1, 48, 49, 50, 51, 52, 53, 54, 55, 56, 57, 58, 59, 60, 61, 62, 63, 64] (by decide +kernel) (by decide +kernel)
set_option maxRecDepth 20000 in
theorem gX8_readWish_X8_word : GoodIn wsX8_readWish (wsV RX8 192 RX8 yX8_word wsX8_word) := goodIn_app (goodIn_of _ (by decide +kernel)) ggX8_readWish_X8_word
set_option maxRecDepth 20000 in
theorem ggX8_readWish_X8_number : GoodIn wsX8_readWish wsX8_number := goodIn_r _ [22, 1, 8, 9, 10, 6, 11, 12, 13, 14, 15, 16, 17, 18, 23, 24, 25, 26, 27, 28, 29, 30, 48, 49, 50, 51, 52, 53, 54, 55, 56, 57, 58, 59, 60, 61, 62, 63, 64] (by decide +kernel) (by decide +kernel)
set_option maxRecDepth 20000 in
theorem gX8_readWish_X8_number : GoodIn wsX8_readWish (wsV RX8 178 RX8 yX8_number wsX8_number) := goodIn_app (goodIn_of _ (by decide +kernel)) ggX8_readWish_X8_number
set_option maxRecDepth 20000 in
theorem ggX8_readWish_X8_canWish : GoodIn wsX8_readWish wsX8_canWish := goodIn_r _ [33, 34, 35, 6, 36, 37, 38, 39] (by decide +kernel) (by decide +kernel)
set_option maxRecDepth 20000 in
theorem gX8_readWish_X8_canWish : GoodIn wsX8_readWish (va_wsS RX8 199 yX8_canWish wsX8_canWish) := goodIn_app (goodIn_of _ (by decide +kernel)) ggX8_readWish_X8_canWish
set_option maxRecDepth 20000 in
theorem ggX8_readWish_X8_goes : GoodIn wsX8_readWish wsX8_goes := goodIn_r _ [43, 44, 1, 48, 49, 50, 51, 52, 53, 54, 55, 56, 57, 58, 59, 60, 61, 62, 63, 64] (by decide +kernel) (by decide +kernel)
set_option maxRecDepth 20000 in
theorem gX8_readWish_X8_goes : GoodIn wsX8_readWish (wsV RX8 181 RX8 yX8_goes wsX8_goes) := goodIn_app (goodIn_of _ (by decide +kernel)) ggX8_readWish_X8_goes
set_option maxRecDepth 20000 in
theorem ggX8_readWish_X8_wishIn : GoodIn wsX8_readWish wsX8_wishIn := goodIn_r _ [47] (by decide +kernel) (by decide +kernel)
set_option maxRecDepth 20000 in
theorem gX8_readWish_X8_wishIn : GoodIn wsX8_readWish (va_wsS RX8 202 yX8_wishIn wsX8_wishIn) := goodIn_app (goodIn_of _ (by decide +kernel)) ggX8_readWish_X8_wishIn
theorem dX8_readWish_0 : decode cX8_readWish 0 = .ok (.aload_n 0, 1) := by decide +kernel
theorem dX8_readWish_1 : decode cX8_readWish 1 = .ok (.bipush 105, 2) := by decide +kernel
theorem dX8_readWish_3 : decode cX8_readWish 3 = .ok (.bipush 115, 2) := by decide +kernel
theorem dX8_readWish_5 : decode cX8_readWish 5 = .ok (.bipush 104, 2) := by decide +kernel
theorem dX8_readWish_7 : decode cX8_readWish 7 = .ok (.invokevirtual 192, 3) := by decide +kernel
theorem dX8_readWish_10 : decode cX8_readWish 10 = .ok (.aload_n 0, 1) := by decide +kernel
theorem dX8_readWish_11 : decode cX8_readWish 11 = .ok (.iconst 0, 1) := by decide +kernel
theorem dX8_readWish_12 : decode cX8_readWish 12 = .ok (.bipush 7, 2) := by decide +kernel
theorem dX8_readWish_14 : decode cX8_readWish 14 = .ok (.invokevirtual 178, 3) := by decide +kernel
theorem dX8_readWish_17 : decode cX8_readWish 17 = .ok (.istore_n 1, 1) := by decide +kernel
theorem dX8_readWish_18 : decode cX8_readWish 18 = .ok (.aload_n 0, 1) := by decide +kernel
theorem dX8_readWish_19 : decode cX8_readWish 19 = .ok (.iconst 0, 1) := by decide +kernel
theorem dX8_readWish_20 : decode cX8_readWish 20 = .ok (.bipush 9, 2) := by decide +kernel
theorem dX8_readWish_22 : decode cX8_readWish 22 = .ok (.invokevirtual 178, 3) := by decide +kernel
theorem dX8_readWish_25 : decode cX8_readWish 25 = .ok (.istore_n 2, 1) := by decide +kernel
theorem dX8_readWish_26 : decode cX8_readWish 26 = .ok (.aload_n 0, 1) := by decide +kernel
theorem dX8_readWish_27 : decode cX8_readWish 27 = .ok (.getfield 158, 3) := by decide +kernel
theorem dX8_readWish_30 : decode cX8_readWish 30 = .ok (.ifCond .eq 47, 3) := by decide +kernel
theorem dX8_readWish_33 : decode cX8_readWish 33 = .ok (.aload_n 0, 1) := by decide +kernel
theorem dX8_readWish_34 : decode cX8_readWish 34 = .ok (.iload_n 1, 1) := by decide +kernel
theorem dX8_readWish_35 : decode cX8_readWish 35 = .ok (.aload_n 0, 1) := by decide +kernel
theorem dX8_readWish_36 : decode cX8_readWish 36 = .ok (.getfield 13, 3) := by decide +kernel
theorem dX8_readWish_39 : decode cX8_readWish 39 = .ok (.iconst 1, 1) := by decide +kernel
theorem dX8_readWish_40 : decode cX8_readWish 40 = .ok (.iaload, 1) := by decide +kernel
theorem dX8_readWish_41 : decode cX8_readWish 41 = .ok (.if_icmp .ge 19, 3) := by decide +kernel
theorem dX8_readWish_44 : decode cX8_readWish 44 = .ok (.aload_n 0, 1) := by decide +kernel
theorem dX8_readWish_45 : decode cX8_readWish 45 = .ok (.getfield 13, 3) := by decide +kernel
theorem dX8_readWish_48 : decode cX8_readWish 48 = .ok (.iload_n 1, 1) := by decide +kernel
theorem dX8_readWish_49 : decode cX8_readWish 49 = .ok (.iload_n 2, 1) := by decide +kernel
theorem dX8_readWish_50 : decode cX8_readWish 50 = .ok (.invokestatic 199, 3) := by decide +kernel
theorem dX8_readWish_53 : decode cX8_readWish 53 = .ok (.ifCond .eq 7, 3) := by decide +kernel
theorem dX8_readWish_56 : decode cX8_readWish 56 = .ok (.iconst 1, 1) := by decide +kernel
theorem dX8_readWish_57 : decode cX8_readWish 57 = .ok (.goto 4, 3) := by decide +kernel
theorem dX8_readWish_60 : decode cX8_readWish 60 = .ok (.iconst 0, 1) := by decide +kernel
theorem dX8_readWish_61 : decode cX8_readWish 61 = .ok (.invokevirtual 181, 3) := by decide +kernel
theorem dX8_readWish_64 : decode cX8_readWish 64 = .ok (.ifCond .eq 13, 3) := by decide +kernel
theorem dX8_readWish_67 : decode cX8_readWish 67 = .ok (.aload_n 0, 1) := by decide +kernel
theorem dX8_readWish_68 : decode cX8_readWish 68 = .ok (.getfield 13, 3) := by decide +kernel
theorem dX8_readWish_71 : decode cX8_readWish 71 = .ok (.iload_n 1, 1) := by decide +kernel
theorem dX8_readWish_72 : decode cX8_readWish 72 = .ok (.iload_n 2, 1) := by decide +kernel
theorem dX8_readWish_73 : decode cX8_readWish 73 = .ok (.invokestatic 202, 3) := by decide +kernel
theorem dX8_readWish_76 : decode cX8_readWish 76 = .ok (.pop, 1) := by decide +kernel
theorem dX8_readWish_77 : decode cX8_readWish 77 = .ok (.return_, 1) := by decide +kernel
set_option maxRecDepth 20000 in
theorem ggX8_readRest_X8_word : GoodIn wsX8_readRest wsX8_word := goodIn_r _ [7, 8, 9, 10, 6, 11, 12, 13, 14, 15, 16, 17, 18, 1, 115, 116, 117, 118, 119, 120, 121, 122, 123, 124, 125, 126, 127, 128, 129, 130, 131] (by decide +kernel) (by decide +kernel)
set_option maxRecDepth 20000 in
theorem gX8_readRest_X8_word : GoodIn wsX8_readRest (wsV RX8 192 RX8 yX8_word wsX8_word) := goodIn_app (goodIn_of _ (by decide +kernel)) ggX8_readRest_X8_word
set_option maxRecDepth 20000 in
theorem ggX8_readRest_X8_number : GoodIn wsX8_readRest wsX8_number := goodIn_r _ [22, 1, 8, 9, 10, 6, 11, 12, 13, 14, 15, 16, 17, 18, 23, 24, 25, 26, 27, 28, 29, 30, 115, 116, 117, 118, 119, 120, 121, 122, 123, 124, 125, 126, 127, 128, 129, 130, 131] (by decide +kernel) (by decide +kernel)
set_option maxRecDepth 20000 in
theorem gX8_readRest_X8_number : GoodIn wsX8_readRest (wsV RX8 178 RX8 yX8_number wsX8_number) := goodIn_app (goodIn_of _ (by decide +kernel)) ggX8_readRest_X8_number
set_option maxRecDepth 20000 in
theorem ggX8_readRest_X8_visitorAt : GoodIn wsX8_readRest wsX8_visitorAt := goodIn_r _ [33] (by decide +kernel) (by decide +kernel)
set_option maxRecDepth 20000 in
theorem gX8_readRest_X8_visitorAt : GoodIn wsX8_readRest (va_wsS RX8 59 yX8_visitorAt wsX8_visitorAt) := goodIn_app (goodIn_of _ (by decide +kernel)) ggX8_readRest_X8_visitorAt
set_option maxRecDepth 20000 in
theorem ggX8_readRest_X8_runIn : GoodIn wsX8_readRest wsX8_runIn := goodIn_r _ [37, 38, 39, 40, 6, 41, 42, 43, 44, 45, 46, 47, 48, 49, 50, 51, 52, 53, 54, 55, 56, 57, 58, 59, 60, 61, 62, 63, 64, 65, 66, 67, 68, 69, 70, 71, 72, 31, 32, 33, 73, 74, 75, 76, 77, 78, 79, 80, 81, 82, 83, 84, 85, 86, 87, 88, 89, 90, 91, 92, 93, 94, 95, 96, 97, 98, 99, 100, 101, 102, 103, 104, 105, 106, 107, 108, 109, 110, 111, 112, 113, 114, 115, 116, 117, 118, 119, 120, 121, 122, 123, 124, 125, 126, 127, 128, 129, 130, 131] (by decide +kernel) (by decide +kernel)
set_option maxRecDepth 20000 in
theorem gX8_readRest_X8_runIn : GoodIn wsX8_readRest (wsV RX8 205 RX8 yX8_runIn wsX8_runIn) := goodIn_app (goodIn_of _ (by decide +kernel)) ggX8_readRest_X8_runIn
theorem dX8_readRest_0 : decode cX8_readRest 0 = .ok (.iload_n 1, 1) := by decide +kernel
theorem dX8_readRest_1 : decode cX8_readRest 1 = .ok (.bipush 104, 2) := by decide +kernel
theorem dX8_readRest_3 : decode cX8_readRest 3 = .ok (.if_icmp .ne 41, 3) := by decide +kernel
theorem dX8_readRest_6 : decode cX8_readRest 6 = .ok (.aload_n 0, 1) := by decide +kernel
theorem dX8_readRest_7 : decode cX8_readRest 7 = .ok (.bipush 97, 2) := by decide +kernel
theorem dX8_readRest_9 : decode cX8_readRest 9 = .ok (.bipush 115, 2) := by decide +kernel
theorem dX8_readRest_11 : decode cX8_readRest 11 = .ok (.iconst (-1), 1) := by decide +kernel
theorem dX8_readRest_12 : decode cX8_readRest 12 = .ok (.invokevirtual 192, 3) := by decide +kernel
theorem dX8_readRest_15 : decode cX8_readRest 15 = .ok (.aload_n 0, 1) := by decide +kernel
theorem dX8_readRest_16 : decode cX8_readRest 16 = .ok (.iconst 0, 1) := by decide +kernel
theorem dX8_readRest_17 : decode cX8_readRest 17 = .ok (.bipush 9, 2) := by decide +kernel
theorem dX8_readRest_19 : decode cX8_readRest 19 = .ok (.invokevirtual 178, 3) := by decide +kernel
theorem dX8_readRest_22 : decode cX8_readRest 22 = .ok (.istore_n 2, 1) := by decide +kernel
theorem dX8_readRest_23 : decode cX8_readRest 23 = .ok (.aload_n 0, 1) := by decide +kernel
theorem dX8_readRest_24 : decode cX8_readRest 24 = .ok (.getfield 158, 3) := by decide +kernel
theorem dX8_readRest_27 : decode cX8_readRest 27 = .ok (.ifCond .eq 14, 3) := by decide +kernel
theorem dX8_readRest_30 : decode cX8_readRest 30 = .ok (.aload_n 0, 1) := by decide +kernel
theorem dX8_readRest_31 : decode cX8_readRest 31 = .ok (.getfield 13, 3) := by decide +kernel
theorem dX8_readRest_34 : decode cX8_readRest 34 = .ok (.iload_n 2, 1) := by decide +kernel
theorem dX8_readRest_35 : decode cX8_readRest 35 = .ok (.iconst 2, 1) := by decide +kernel
theorem dX8_readRest_36 : decode cX8_readRest 36 = .ok (.invokestatic 59, 3) := by decide +kernel
theorem dX8_readRest_39 : decode cX8_readRest 39 = .ok (.iconst 1, 1) := by decide +kernel
theorem dX8_readRest_40 : decode cX8_readRest 40 = .ok (.iastore, 1) := by decide +kernel
theorem dX8_readRest_41 : decode cX8_readRest 41 = .ok (.goto 37, 3) := by decide +kernel
theorem dX8_readRest_44 : decode cX8_readRest 44 = .ok (.aload_n 0, 1) := by decide +kernel
theorem dX8_readRest_45 : decode cX8_readRest 45 = .ok (.bipush 117, 2) := by decide +kernel
theorem dX8_readRest_47 : decode cX8_readRest 47 = .ok (.bipush 110, 2) := by decide +kernel
theorem dX8_readRest_49 : decode cX8_readRest 49 = .ok (.iconst (-1), 1) := by decide +kernel
theorem dX8_readRest_50 : decode cX8_readRest 50 = .ok (.invokevirtual 192, 3) := by decide +kernel
theorem dX8_readRest_53 : decode cX8_readRest 53 = .ok (.aload_n 0, 1) := by decide +kernel
theorem dX8_readRest_54 : decode cX8_readRest 54 = .ok (.iconst 1, 1) := by decide +kernel
theorem dX8_readRest_55 : decode cX8_readRest 55 = .ok (.bipush 30, 2) := by decide +kernel
theorem dX8_readRest_57 : decode cX8_readRest 57 = .ok (.invokevirtual 178, 3) := by decide +kernel
theorem dX8_readRest_60 : decode cX8_readRest 60 = .ok (.istore_n 2, 1) := by decide +kernel
theorem dX8_readRest_61 : decode cX8_readRest 61 = .ok (.aload_n 0, 1) := by decide +kernel
theorem dX8_readRest_62 : decode cX8_readRest 62 = .ok (.getfield 158, 3) := by decide +kernel
theorem dX8_readRest_65 : decode cX8_readRest 65 = .ok (.ifCond .eq 13, 3) := by decide +kernel
theorem dX8_readRest_68 : decode cX8_readRest 68 = .ok (.aload_n 0, 1) := by decide +kernel
theorem dX8_readRest_69 : decode cX8_readRest 69 = .ok (.aload_n 0, 1) := by decide +kernel
theorem dX8_readRest_70 : decode cX8_readRest 70 = .ok (.getfield 13, 3) := by decide +kernel
theorem dX8_readRest_73 : decode cX8_readRest 73 = .ok (.iload_n 2, 1) := by decide +kernel
theorem dX8_readRest_74 : decode cX8_readRest 74 = .ok (.invokevirtual 205, 3) := by decide +kernel
theorem dX8_readRest_77 : decode cX8_readRest 77 = .ok (.pop, 1) := by decide +kernel
theorem dX8_readRest_78 : decode cX8_readRest 78 = .ok (.return_, 1) := by decide +kernel
set_option maxRecDepth 20000 in
theorem ggX8_readCommand_X8_accept : GoodIn wsX8_readCommand wsX8_accept := goodIn_r _ [9, 4, 1, 153, 154, 155, 156, 157, 158, 159, 160, 161, 162, 163, 164, 165, 166, 167, 168, 169] (by decide +kernel) (by decide +kernel)
set_option maxRecDepth 20000 in
theorem gX8_readCommand_X8_accept : GoodIn wsX8_readCommand (wsV RX8 167 RX8 yX8_accept wsX8_accept) := goodIn_app (goodIn_of _ (by decide +kernel)) ggX8_readCommand_X8_accept
set_option maxRecDepth 20000 in
theorem ggX8_readCommand_X8_readM : GoodIn wsX8_readCommand wsX8_readM := goodIn_r _ [13, 14, 15, 16, 17, 8, 18, 1, 2, 3, 5, 6, 7, 9, 4, 19, 20, 21, 22, 23, 24, 25, 26, 27, 28, 29, 30, 31, 32, 33, 34, 35, 36, 37, 38, 39, 40, 41, 42, 43, 44, 153, 154, 155, 156, 157, 158, 159, 160, 161, 162, 163, 164, 165, 166, 167, 168, 169] (by decide +kernel) (by decide +kernel)
set_option maxRecDepth 20000 in
theorem gX8_readCommand_X8_readM : GoodIn wsX8_readCommand (wsV RX8 208 RX8 yX8_readM wsX8_readM) := goodIn_app (goodIn_of _ (by decide +kernel)) ggX8_readCommand_X8_readM
set_option maxRecDepth 20000 in
theorem ggX8_readCommand_X8_readBook : GoodIn wsX8_readCommand wsX8_readBook := goodIn_r _ [48, 4, 14, 49, 50, 51, 8, 52, 15, 16, 17, 18, 1, 2, 3, 5, 6, 7, 9, 19, 20, 21, 22, 23, 24, 25, 26, 27, 28, 29, 30, 53, 54, 55, 56, 57, 58, 59, 60, 61, 62, 63, 39, 40, 41, 64, 65, 66, 67, 68, 69, 70, 71, 72, 73, 74, 75, 76, 77, 78, 79, 80, 81, 82, 83, 84, 85, 86, 87, 88, 89, 90, 31, 32, 33, 34, 35, 91, 92, 93, 94, 95, 96, 97, 98, 99, 153, 154, 155, 156, 157, 158, 159, 160, 161, 162, 163, 164, 165, 166, 167, 168, 169] (by decide +kernel) (by decide +kernel)
set_option maxRecDepth 20000 in
theorem gX8_readCommand_X8_readBook : GoodIn wsX8_readCommand (wsV RX8 211 RX8 yX8_readBook wsX8_readBook) := goodIn_app (goodIn_of _ (by decide +kernel)) ggX8_readCommand_X8_readBook
set_option maxRecDepth 20000 in
theorem ggX8_readCommand_X8_readWish : GoodIn wsX8_readCommand wsX8_readWish := goodIn_r _ [103, 4, 14, 49, 50, 51, 8, 52, 15, 16, 17, 18, 1, 2, 3, 5, 6, 7, 9, 19, 20, 21, 22, 23, 24, 25, 26, 27, 28, 29, 30, 104, 105, 106, 61, 62, 63, 39, 40, 41, 31, 32, 33, 34, 35, 107, 108, 109, 153, 154, 155, 156, 157, 158, 159, 160, 161, 162, 163, 164, 165, 166, 167, 168, 169] (by decide +kernel) (by decide +kernel)
set_option maxRecDepth 20000 in
theorem gX8_readCommand_X8_readWish : GoodIn wsX8_readCommand (wsV RX8 214 RX8 yX8_readWish wsX8_readWish) := goodIn_app (goodIn_of _ (by decide +kernel)) ggX8_readCommand_X8_readWish
set_option maxRecDepth 20000 in
theorem ggX8_readCommand_X8_readRest : GoodIn wsX8_readCommand wsX8_readRest := goodIn_r _ [113, 4, 14, 49, 50, 51, 8, 52, 15, 16, 17, 18, 1, 2, 3, 5, 6, 7, 9, 19, 20, 21, 22, 23, 24, 25, 26, 27, 28, 29, 30, 70, 71, 72, 114, 115, 116, 117, 118, 119, 120, 121, 122, 123, 124, 125, 126, 127, 128, 129, 130, 131, 132, 133, 134, 39, 40, 41, 135, 136, 137, 58, 59, 60, 61, 62, 63, 64, 65, 66, 67, 68, 69, 73, 74, 75, 76, 77, 78, 79, 80, 81, 82, 83, 84, 85, 86, 87, 88, 89, 90, 91, 92, 93, 94, 95, 96, 97, 98, 99, 138, 139, 140, 141, 142, 143, 144, 145, 146, 147, 148, 149, 150, 151, 152, 153, 154, 155, 156, 157, 158, 159, 160, 161, 162, 163, 164, 165, 166, 167, 168, 169] (by decide +kernel) (by decide +kernel)
set_option maxRecDepth 20000 in
theorem gX8_readCommand_X8_readRest : GoodIn wsX8_readCommand (wsV RX8 217 RX8 yX8_readRest wsX8_readRest) := goodIn_app (goodIn_of _ (by decide +kernel)) ggX8_readCommand_X8_readRest
theorem dX8_readCommand_0 : decode cX8_readCommand 0 = .ok (.aload_n 0, 1) := by decide +kernel
theorem dX8_readCommand_1 : decode cX8_readCommand 1 = .ok (.getfield 155, 3) := by decide +kernel
theorem dX8_readCommand_4 : decode cX8_readCommand 4 = .ok (.aload_n 0, 1) := by decide +kernel
theorem dX8_readCommand_5 : decode cX8_readCommand 5 = .ok (.getfield 148, 3) := by decide +kernel
theorem dX8_readCommand_8 : decode cX8_readCommand 8 = .ok (.if_icmp .ge 15, 3) := by decide +kernel
theorem dX8_readCommand_11 : decode cX8_readCommand 11 = .ok (.aload_n 0, 1) := by decide +kernel
theorem dX8_readCommand_12 : decode cX8_readCommand 12 = .ok (.getfield 7, 3) := by decide +kernel
theorem dX8_readCommand_15 : decode cX8_readCommand 15 = .ok (.aload_n 0, 1) := by decide +kernel
theorem dX8_readCommand_16 : decode cX8_readCommand 16 = .ok (.getfield 155, 3) := by decide +kernel
theorem dX8_readCommand_19 : decode cX8_readCommand 19 = .ok (.iaload, 1) := by decide +kernel
theorem dX8_readCommand_20 : decode cX8_readCommand 20 = .ok (.goto 4, 3) := by decide +kernel
theorem dX8_readCommand_23 : decode cX8_readCommand 23 = .ok (.iconst (-1), 1) := by decide +kernel
theorem dX8_readCommand_24 : decode cX8_readCommand 24 = .ok (.istore_n 1, 1) := by decide +kernel
theorem dX8_readCommand_25 : decode cX8_readCommand 25 = .ok (.aload_n 0, 1) := by decide +kernel
theorem dX8_readCommand_26 : decode cX8_readCommand 26 = .ok (.iload_n 1, 1) := by decide +kernel
theorem dX8_readCommand_27 : decode cX8_readCommand 27 = .ok (.bipush 109, 2) := by decide +kernel
theorem dX8_readCommand_29 : decode cX8_readCommand 29 = .ok (.if_icmp .eq 27, 3) := by decide +kernel
theorem dX8_readCommand_32 : decode cX8_readCommand 32 = .ok (.iload_n 1, 1) := by decide +kernel
theorem dX8_readCommand_33 : decode cX8_readCommand 33 = .ok (.bipush 98, 2) := by decide +kernel
theorem dX8_readCommand_35 : decode cX8_readCommand 35 = .ok (.if_icmp .eq 21, 3) := by decide +kernel
theorem dX8_readCommand_38 : decode cX8_readCommand 38 = .ok (.iload_n 1, 1) := by decide +kernel
theorem dX8_readCommand_39 : decode cX8_readCommand 39 = .ok (.bipush 119, 2) := by decide +kernel
theorem dX8_readCommand_41 : decode cX8_readCommand 41 = .ok (.if_icmp .eq 15, 3) := by decide +kernel
theorem dX8_readCommand_44 : decode cX8_readCommand 44 = .ok (.iload_n 1, 1) := by decide +kernel
theorem dX8_readCommand_45 : decode cX8_readCommand 45 = .ok (.bipush 104, 2) := by decide +kernel
theorem dX8_readCommand_47 : decode cX8_readCommand 47 = .ok (.if_icmp .eq 9, 3) := by decide +kernel
theorem dX8_readCommand_50 : decode cX8_readCommand 50 = .ok (.iload_n 1, 1) := by decide +kernel
theorem dX8_readCommand_51 : decode cX8_readCommand 51 = .ok (.bipush 114, 2) := by decide +kernel
theorem dX8_readCommand_53 : decode cX8_readCommand 53 = .ok (.if_icmp .ne 7, 3) := by decide +kernel
theorem dX8_readCommand_56 : decode cX8_readCommand 56 = .ok (.iconst 1, 1) := by decide +kernel
theorem dX8_readCommand_57 : decode cX8_readCommand 57 = .ok (.goto 4, 3) := by decide +kernel
theorem dX8_readCommand_60 : decode cX8_readCommand 60 = .ok (.iconst 0, 1) := by decide +kernel
theorem dX8_readCommand_61 : decode cX8_readCommand 61 = .ok (.invokevirtual 167, 3) := by decide +kernel
theorem dX8_readCommand_64 : decode cX8_readCommand 64 = .ok (.aload_n 0, 1) := by decide +kernel
theorem dX8_readCommand_65 : decode cX8_readCommand 65 = .ok (.getfield 158, 3) := by decide +kernel
theorem dX8_readCommand_68 : decode cX8_readCommand 68 = .ok (.ifCond .ne 4, 3) := by decide +kernel
theorem dX8_readCommand_71 : decode cX8_readCommand 71 = .ok (.return_, 1) := by decide +kernel
theorem dX8_readCommand_72 : decode cX8_readCommand 72 = .ok (.iload_n 1, 1) := by decide +kernel
theorem dX8_readCommand_73 : decode cX8_readCommand 73 = .ok (.bipush 109, 2) := by decide +kernel
theorem dX8_readCommand_75 : decode cX8_readCommand 75 = .ok (.if_icmp .ne 10, 3) := by decide +kernel
theorem dX8_readCommand_78 : decode cX8_readCommand 78 = .ok (.aload_n 0, 1) := by decide +kernel
theorem dX8_readCommand_79 : decode cX8_readCommand 79 = .ok (.invokevirtual 208, 3) := by decide +kernel
theorem dX8_readCommand_82 : decode cX8_readCommand 82 = .ok (.goto 34, 3) := by decide +kernel
theorem dX8_readCommand_85 : decode cX8_readCommand 85 = .ok (.iload_n 1, 1) := by decide +kernel
theorem dX8_readCommand_86 : decode cX8_readCommand 86 = .ok (.bipush 98, 2) := by decide +kernel
theorem dX8_readCommand_88 : decode cX8_readCommand 88 = .ok (.if_icmp .ne 10, 3) := by decide +kernel
theorem dX8_readCommand_91 : decode cX8_readCommand 91 = .ok (.aload_n 0, 1) := by decide +kernel
theorem dX8_readCommand_92 : decode cX8_readCommand 92 = .ok (.invokevirtual 211, 3) := by decide +kernel
theorem dX8_readCommand_95 : decode cX8_readCommand 95 = .ok (.goto 21, 3) := by decide +kernel
theorem dX8_readCommand_98 : decode cX8_readCommand 98 = .ok (.iload_n 1, 1) := by decide +kernel
theorem dX8_readCommand_99 : decode cX8_readCommand 99 = .ok (.bipush 119, 2) := by decide +kernel
theorem dX8_readCommand_101 : decode cX8_readCommand 101 = .ok (.if_icmp .ne 10, 3) := by decide +kernel
theorem dX8_readCommand_104 : decode cX8_readCommand 104 = .ok (.aload_n 0, 1) := by decide +kernel
theorem dX8_readCommand_105 : decode cX8_readCommand 105 = .ok (.invokevirtual 214, 3) := by decide +kernel
theorem dX8_readCommand_108 : decode cX8_readCommand 108 = .ok (.goto 8, 3) := by decide +kernel
theorem dX8_readCommand_111 : decode cX8_readCommand 111 = .ok (.aload_n 0, 1) := by decide +kernel
theorem dX8_readCommand_112 : decode cX8_readCommand 112 = .ok (.iload_n 1, 1) := by decide +kernel
theorem dX8_readCommand_113 : decode cX8_readCommand 113 = .ok (.invokevirtual 217, 3) := by decide +kernel
theorem dX8_readCommand_116 : decode cX8_readCommand 116 = .ok (.return_, 1) := by decide +kernel
set_option maxRecDepth 20000 in
theorem ggX8_readText_X8_clean : GoodIn wsX8_readText wsX8_clean := goodIn_r _ [9] (by decide +kernel) (by decide +kernel)
set_option maxRecDepth 20000 in
theorem gX8_readText_X8_clean : GoodIn wsX8_readText (va_wsS RX8 35 yX8_clean wsX8_clean) := goodIn_app (goodIn_of _ (by decide +kernel)) ggX8_readText_X8_clean
set_option maxRecDepth 20000 in
theorem ggX8_readText_X8_readCommand : GoodIn wsX8_readText wsX8_readCommand := goodIn_r _ [13, 1, 5, 14, 2, 15, 16, 17, 8, 18, 19, 20, 21, 22, 4, 23, 24, 25, 26, 27, 28, 29, 30, 31, 32, 33, 34, 35, 36, 37, 38, 39, 40, 41, 42, 3, 43, 44, 45, 46, 47, 48, 49, 50, 51, 52, 53, 54, 55, 56, 57, 58, 59, 60, 61, 62, 63, 64, 65, 66, 67, 68, 69, 70, 71, 72, 73, 74, 75, 76, 77, 78, 79, 80, 81, 82, 83, 84, 85, 86, 87, 88, 89, 90, 91, 92, 93, 94, 95, 96, 97, 98, 99, 100, 101, 102, 103, 104, 105, 106, 107, 108, 109, 110, 111, 112, 113, 114, 115, 116, 117, 118, 119, 120, 121, 122, 123, 124, 125, 126, 127, 128, 129, 130, 131, 132, 133, 134, 135, 136, 137, 138, 139, 140, 141, 142, 143, 144, 145, 146, 147, 148, 149, 150, 151, 152, 153, 154, 155, 156, 157, 158, 159, 160, 161, 162, 163, 164, 165, 166, 167, 168, 169, 170, 171, 172, 173, 174, 175, 176] (by decide +kernel) (by decide +kernel)
set_option maxRecDepth 20000 in
theorem gX8_readText_X8_readCommand : GoodIn wsX8_readText (wsV RX8 221 RX8 yX8_readCommand wsX8_readCommand) := goodIn_app (goodIn_of _ (by decide +kernel)) ggX8_readText_X8_readCommand
set_option maxRecDepth 20000 in
theorem ggX8_readText_X8_isNext : GoodIn wsX8_readText wsX8_isNext := goodIn_r _ [26, 1, 5, 14, 160, 161, 162, 163, 164, 165, 166, 167, 168, 169, 170, 171, 172, 173, 174, 175, 176] (by decide +kernel) (by decide +kernel)
set_option maxRecDepth 20000 in
theorem gX8_readText_X8_isNext : GoodIn wsX8_readText (wsV RX8 164 RX8 yX8_isNext wsX8_isNext) := goodIn_app (goodIn_of _ (by decide +kernel)) ggX8_readText_X8_isNext
set_option maxRecDepth 20000 in
theorem ggX8_readText_X8_accept : GoodIn wsX8_readText wsX8_accept := goodIn_r _ [18, 2, 1, 160, 161, 162, 163, 164, 165, 166, 167, 168, 169, 170, 171, 172, 173, 174, 175, 176] (by decide +kernel) (by decide +kernel)
set_option maxRecDepth 20000 in
theorem gX8_readText_X8_accept : GoodIn wsX8_readText (wsV RX8 167 RX8 yX8_accept wsX8_accept) := goodIn_app (goodIn_of _ (by decide +kernel)) ggX8_readText_X8_accept
theorem dX8_readText_0 : decode cX8_readText 0 = .ok (.aload_n 0, 1) := by decide +kernel
theorem dX8_readText_1 : decode cX8_readText 1 = .ok (.iconst 0, 1) := by decide +kernel
theorem dX8_readText_2 : decode cX8_readText 2 = .ok (.putfield 155, 3) := by decide +kernel
theorem dX8_readText_5 : decode cX8_readText 5 = .ok (.aload_n 0, 1) := by decide +kernel
theorem dX8_readText_6 : decode cX8_readText 6 = .ok (.iconst 1, 1) := by decide +kernel
theorem dX8_readText_7 : decode cX8_readText 7 = .ok (.putfield 158, 3) := by decide +kernel
theorem dX8_readText_10 : decode cX8_readText 10 = .ok (.aload_n 0, 1) := by decide +kernel
theorem dX8_readText_11 : decode cX8_readText 11 = .ok (.iconst 0, 1) := by decide +kernel
theorem dX8_readText_12 : decode cX8_readText 12 = .ok (.putfield 175, 3) := by decide +kernel
theorem dX8_readText_15 : decode cX8_readText 15 = .ok (.aload_n 0, 1) := by decide +kernel
theorem dX8_readText_16 : decode cX8_readText 16 = .ok (.getfield 13, 3) := by decide +kernel
theorem dX8_readText_19 : decode cX8_readText 19 = .ok (.invokestatic 35, 3) := by decide +kernel
theorem dX8_readText_22 : decode cX8_readText 22 = .ok (.aload_n 0, 1) := by decide +kernel
theorem dX8_readText_23 : decode cX8_readText 23 = .ok (.invokevirtual 221, 3) := by decide +kernel
theorem dX8_readText_26 : decode cX8_readText 26 = .ok (.aload_n 0, 1) := by decide +kernel
theorem dX8_readText_27 : decode cX8_readText 27 = .ok (.getfield 158, 3) := by decide +kernel
theorem dX8_readText_30 : decode cX8_readText 30 = .ok (.ifCond .eq 38, 3) := by decide +kernel
theorem dX8_readText_33 : decode cX8_readText 33 = .ok (.aload_n 0, 1) := by decide +kernel
theorem dX8_readText_34 : decode cX8_readText 34 = .ok (.getfield 155, 3) := by decide +kernel
theorem dX8_readText_37 : decode cX8_readText 37 = .ok (.aload_n 0, 1) := by decide +kernel
theorem dX8_readText_38 : decode cX8_readText 38 = .ok (.getfield 148, 3) := by decide +kernel
theorem dX8_readText_41 : decode cX8_readText 41 = .ok (.if_icmp .ge 27, 3) := by decide +kernel
theorem dX8_readText_44 : decode cX8_readText 44 = .ok (.aload_n 0, 1) := by decide +kernel
theorem dX8_readText_45 : decode cX8_readText 45 = .ok (.aload_n 0, 1) := by decide +kernel
theorem dX8_readText_46 : decode cX8_readText 46 = .ok (.bipush 59, 2) := by decide +kernel
theorem dX8_readText_48 : decode cX8_readText 48 = .ok (.invokevirtual 164, 3) := by decide +kernel
theorem dX8_readText_51 : decode cX8_readText 51 = .ok (.invokevirtual 167, 3) := by decide +kernel
theorem dX8_readText_54 : decode cX8_readText 54 = .ok (.aload_n 0, 1) := by decide +kernel
theorem dX8_readText_55 : decode cX8_readText 55 = .ok (.getfield 158, 3) := by decide +kernel
theorem dX8_readText_58 : decode cX8_readText 58 = .ok (.ifCond .eq (-32), 3) := by decide +kernel
theorem dX8_readText_61 : decode cX8_readText 61 = .ok (.aload_n 0, 1) := by decide +kernel
theorem dX8_readText_62 : decode cX8_readText 62 = .ok (.invokevirtual 221, 3) := by decide +kernel
theorem dX8_readText_65 : decode cX8_readText 65 = .ok (.goto (-39), 3) := by decide +kernel
theorem dX8_readText_68 : decode cX8_readText 68 = .ok (.aload_n 0, 1) := by decide +kernel
theorem dX8_readText_69 : decode cX8_readText 69 = .ok (.getfield 158, 3) := by decide +kernel
theorem dX8_readText_72 : decode cX8_readText 72 = .ok (.ifCond .eq 7, 3) := by decide +kernel
theorem dX8_readText_75 : decode cX8_readText 75 = .ok (.iconst (-1), 1) := by decide +kernel
theorem dX8_readText_76 : decode cX8_readText 76 = .ok (.goto 7, 3) := by decide +kernel
theorem dX8_readText_79 : decode cX8_readText 79 = .ok (.aload_n 0, 1) := by decide +kernel
theorem dX8_readText_80 : decode cX8_readText 80 = .ok (.getfield 155, 3) := by decide +kernel
theorem dX8_readText_83 : decode cX8_readText 83 = .ok (.ireturn, 1) := by decide +kernel
set_option maxRecDepth 20000 in
theorem ggX8_errorPosition_X8_readText : GoodIn wsX8_errorPosition wsX8_readText := goodIn_r _ [6, 7, 8, 9, 10, 11, 12, 13, 5, 14, 15, 16, 17, 18, 19, 20, 21, 22, 23, 24, 25, 26, 27, 28, 29, 30, 31, 32, 33, 34, 35, 36, 37, 38, 39, 40, 41, 42, 43, 44, 45, 46, 47, 48, 49, 50, 51, 52, 53, 54, 55, 56, 57, 58, 59, 60, 61, 62, 63, 64, 65, 66, 67, 68, 69, 70, 71, 72, 73, 74, 75, 76, 77, 78, 79, 80, 81, 82, 83, 84, 85, 86, 87, 88, 89, 90, 91, 92, 93, 94, 95, 96, 97, 98, 99, 100, 101, 102, 103, 104, 105, 106, 107, 108, 109, 110, 111, 112, 113, 114, 115, 116, 117, 118, 119, 120, 121, 122, 123, 124, 125, 126, 127, 128, 129, 130, 131, 132, 133, 134, 135, 136, 137, 138, 139, 140, 141, 142, 143, 144, 145, 146, 147, 148, 149, 150, 151, 152, 153, 154, 155, 156, 157, 158, 159, 160, 161, 162, 163, 164, 165, 166, 167, 168, 169, 170, 171, 172, 173, 174, 175, 176, 177, 178, 179, 180, 181] (by decide +kernel) (by decide +kernel)
set_option maxRecDepth 20000 in
theorem gX8_errorPosition_X8_readText : GoodIn wsX8_errorPosition (wsV RX8 224 RX8 yX8_readText wsX8_readText) := goodIn_app (goodIn_of _ (by decide +kernel)) ggX8_errorPosition_X8_readText
theorem dX8_errorPosition_0 : decode cX8_errorPosition 0 = .ok (.aload_n 0, 1) := by decide +kernel
theorem dX8_errorPosition_1 : decode cX8_errorPosition 1 = .ok (.iconst 0, 1) := by decide +kernel
theorem dX8_errorPosition_2 : decode cX8_errorPosition 2 = .ok (.putfield 39, 3) := by decide +kernel
theorem dX8_errorPosition_5 : decode cX8_errorPosition 5 = .ok (.aload_n 0, 1) := by decide +kernel
theorem dX8_errorPosition_6 : decode cX8_errorPosition 6 = .ok (.invokevirtual 224, 3) := by decide +kernel
theorem dX8_errorPosition_9 : decode cX8_errorPosition 9 = .ok (.ireturn, 1) := by decide +kernel
set_option maxRecDepth 20000 in
theorem ggX8_load_X8_readText : GoodIn wsX8_load wsX8_readText := goodIn_r _ [10, 11, 12, 5, 1, 13, 14, 15, 9, 16, 17, 18, 19, 20, 21, 22, 23, 24, 25, 26, 27, 28, 29, 30, 31, 32, 33, 34, 35, 36, 37, 38, 39, 40, 41, 42, 43, 44, 45, 46, 47, 48, 49, 50, 51, 52, 53, 54, 55, 56, 57, 58, 59, 60, 61, 62, 63, 64, 65, 66, 67, 68, 69, 70, 71, 72, 73, 74, 75, 76, 77, 78, 79, 80, 81, 82, 83, 84, 85, 86, 87, 88, 89, 90, 91, 92, 93, 94, 95, 96, 97, 98, 99, 100, 101, 102, 103, 104, 105, 106, 107, 108, 109, 110, 111, 112, 113, 114, 115, 116, 117, 118, 119, 120, 121, 122, 123, 124, 125, 126, 127, 128, 129, 130, 131, 132, 133, 134, 135, 136, 137, 138, 139, 140, 141, 142, 143, 144, 145, 146, 147, 148, 149, 150, 151, 152, 153, 154, 155, 156, 157, 158, 159, 160, 161, 162, 163, 164, 165, 166, 172, 173, 174, 175, 176, 177, 178, 179, 180, 181, 182, 183, 184, 185, 186, 187, 188] (by decide +kernel) (by decide +kernel)
set_option maxRecDepth 20000 in
theorem gX8_load_X8_readText : GoodIn wsX8_load (wsV RX8 224 RX8 yX8_readText wsX8_readText) := goodIn_app (goodIn_of _ (by decide +kernel)) ggX8_load_X8_readText
set_option maxRecDepth 20000 in
theorem ggX8_load_X8_refused : GoodIn wsX8_load wsX8_refused := goodIn_r _ [170, 171, 172, 173, 174, 175, 176, 177, 178, 179, 180, 181, 182, 183, 184, 185, 186, 187, 188] (by decide +kernel) (by decide +kernel)
set_option maxRecDepth 20000 in
theorem gX8_load_X8_refused : GoodIn wsX8_load (wsV RX8 151 RX8 yX8_refused wsX8_refused) := goodIn_app (goodIn_of _ (by decide +kernel)) ggX8_load_X8_refused
set_option maxRecDepth 20000 in
theorem ggX8_load_X8_copy : GoodIn wsX8_load wsX8_copy := goodIn_r _ [113] (by decide +kernel) (by decide +kernel)
set_option maxRecDepth 20000 in
theorem gX8_load_X8_copy : GoodIn wsX8_load (va_wsS RX8 48 yX8_copy wsX8_copy) := goodIn_app (goodIn_of _ (by decide +kernel)) ggX8_load_X8_copy
theorem dX8_load_0 : decode cX8_load 0 = .ok (.aload_n 0, 1) := by decide +kernel
theorem dX8_load_1 : decode cX8_load 1 = .ok (.aload_n 0, 1) := by decide +kernel
theorem dX8_load_2 : decode cX8_load 2 = .ok (.invokevirtual 224, 3) := by decide +kernel
theorem dX8_load_5 : decode cX8_load 5 = .ok (.iconst (-1), 1) := by decide +kernel
theorem dX8_load_6 : decode cX8_load 6 = .ok (.if_icmp .ne 7, 3) := by decide +kernel
theorem dX8_load_9 : decode cX8_load 9 = .ok (.iconst 0, 1) := by decide +kernel
theorem dX8_load_10 : decode cX8_load 10 = .ok (.goto 4, 3) := by decide +kernel
theorem dX8_load_13 : decode cX8_load 13 = .ok (.iconst 1, 1) := by decide +kernel
theorem dX8_load_14 : decode cX8_load 14 = .ok (.invokevirtual 151, 3) := by decide +kernel
theorem dX8_load_17 : decode cX8_load 17 = .ok (.ifCond .eq 5, 3) := by decide +kernel
theorem dX8_load_20 : decode cX8_load 20 = .ok (.iconst 0, 1) := by decide +kernel
theorem dX8_load_21 : decode cX8_load 21 = .ok (.ireturn, 1) := by decide +kernel
theorem dX8_load_22 : decode cX8_load 22 = .ok (.aload_n 0, 1) := by decide +kernel
theorem dX8_load_23 : decode cX8_load 23 = .ok (.getfield 13, 3) := by decide +kernel
theorem dX8_load_26 : decode cX8_load 26 = .ok (.iconst 0, 1) := by decide +kernel
theorem dX8_load_27 : decode cX8_load 27 = .ok (.aload_n 0, 1) := by decide +kernel
theorem dX8_load_28 : decode cX8_load 28 = .ok (.getfield 16, 3) := by decide +kernel
theorem dX8_load_31 : decode cX8_load 31 = .ok (.iconst 0, 1) := by decide +kernel
theorem dX8_load_32 : decode cX8_load 32 = .ok (.sipush 271, 3) := by decide +kernel
theorem dX8_load_35 : decode cX8_load 35 = .ok (.invokestatic 48, 3) := by decide +kernel
theorem dX8_load_38 : decode cX8_load 38 = .ok (.aload_n 0, 1) := by decide +kernel
theorem dX8_load_39 : decode cX8_load 39 = .ok (.iconst 0, 1) := by decide +kernel
theorem dX8_load_40 : decode cX8_load 40 = .ok (.putfield 45, 3) := by decide +kernel
theorem dX8_load_43 : decode cX8_load 43 = .ok (.aload_n 0, 1) := by decide +kernel
theorem dX8_load_44 : decode cX8_load 44 = .ok (.getfield 28, 3) := by decide +kernel
theorem dX8_load_47 : decode cX8_load 47 = .ok (.iconst 0, 1) := by decide +kernel
theorem dX8_load_48 : decode cX8_load 48 = .ok (.iconst 0, 1) := by decide +kernel
theorem dX8_load_49 : decode cX8_load 49 = .ok (.bastore, 1) := by decide +kernel
theorem dX8_load_50 : decode cX8_load 50 = .ok (.aload_n 0, 1) := by decide +kernel
theorem dX8_load_51 : decode cX8_load 51 = .ok (.getfield 28, 3) := by decide +kernel
theorem dX8_load_54 : decode cX8_load 54 = .ok (.iconst 1, 1) := by decide +kernel
theorem dX8_load_55 : decode cX8_load 55 = .ok (.iconst 0, 1) := by decide +kernel
theorem dX8_load_56 : decode cX8_load 56 = .ok (.bastore, 1) := by decide +kernel
theorem dX8_load_57 : decode cX8_load 57 = .ok (.aload_n 0, 1) := by decide +kernel
theorem dX8_load_58 : decode cX8_load 58 = .ok (.getfield 175, 3) := by decide +kernel
theorem dX8_load_61 : decode cX8_load 61 = .ok (.ireturn, 1) := by decide +kernel
set_option maxRecDepth 20000 in
theorem ggX8_banned_X8_isBanned : GoodIn wsX8_banned wsX8_isBanned := goodIn_r _ [5, 6, 7, 4, 8] (by decide +kernel) (by decide +kernel)
set_option maxRecDepth 20000 in
theorem gX8_banned_X8_isBanned : GoodIn wsX8_banned (va_wsS RX8 76 yX8_isBanned wsX8_isBanned) := goodIn_app (goodIn_of _ (by decide +kernel)) ggX8_banned_X8_isBanned
theorem dX8_banned_0 : decode cX8_banned 0 = .ok (.iconst 0, 1) := by decide +kernel
theorem dX8_banned_1 : decode cX8_banned 1 = .ok (.istore_n 1, 1) := by decide +kernel
theorem dX8_banned_2 : decode cX8_banned 2 = .ok (.iconst 0, 1) := by decide +kernel
theorem dX8_banned_3 : decode cX8_banned 3 = .ok (.istore_n 2, 1) := by decide +kernel
theorem dX8_banned_4 : decode cX8_banned 4 = .ok (.iload_n 2, 1) := by decide +kernel
theorem dX8_banned_5 : decode cX8_banned 5 = .ok (.bipush 10, 2) := by decide +kernel
theorem dX8_banned_7 : decode cX8_banned 7 = .ok (.if_icmp .ge 34, 3) := by decide +kernel
theorem dX8_banned_10 : decode cX8_banned 10 = .ok (.iload_n 1, 1) := by decide +kernel
theorem dX8_banned_11 : decode cX8_banned 11 = .ok (.aload_n 0, 1) := by decide +kernel
theorem dX8_banned_12 : decode cX8_banned 12 = .ok (.getfield 16, 3) := by decide +kernel
theorem dX8_banned_15 : decode cX8_banned 15 = .ok (.iload_n 2, 1) := by decide +kernel
theorem dX8_banned_16 : decode cX8_banned 16 = .ok (.aload_n 0, 1) := by decide +kernel
theorem dX8_banned_17 : decode cX8_banned 17 = .ok (.getfield 16, 3) := by decide +kernel
theorem dX8_banned_20 : decode cX8_banned 20 = .ok (.iconst 0, 1) := by decide +kernel
theorem dX8_banned_21 : decode cX8_banned 21 = .ok (.iaload, 1) := by decide +kernel
theorem dX8_banned_22 : decode cX8_banned 22 = .ok (.invokestatic 76, 3) := by decide +kernel
theorem dX8_banned_25 : decode cX8_banned 25 = .ok (.ifCond .eq 7, 3) := by decide +kernel
theorem dX8_banned_28 : decode cX8_banned 28 = .ok (.iconst 1, 1) := by decide +kernel
theorem dX8_banned_29 : decode cX8_banned 29 = .ok (.goto 4, 3) := by decide +kernel
theorem dX8_banned_32 : decode cX8_banned 32 = .ok (.iconst 0, 1) := by decide +kernel
theorem dX8_banned_33 : decode cX8_banned 33 = .ok (.iadd, 1) := by decide +kernel
theorem dX8_banned_34 : decode cX8_banned 34 = .ok (.istore_n 1, 1) := by decide +kernel
theorem dX8_banned_35 : decode cX8_banned 35 = .ok (.iinc 2 1, 3) := by decide +kernel
theorem dX8_banned_38 : decode cX8_banned 38 = .ok (.goto (-34), 3) := by decide +kernel
theorem dX8_banned_41 : decode cX8_banned 41 = .ok (.iload_n 1, 1) := by decide +kernel
theorem dX8_banned_42 : decode cX8_banned 42 = .ok (.ireturn, 1) := by decide +kernel
set_option maxRecDepth 20000 in
theorem ggX8_lost_X8_isLost : GoodIn wsX8_lost wsX8_isLost := goodIn_r _ [5, 6, 7, 4, 8] (by decide +kernel) (by decide +kernel)
set_option maxRecDepth 20000 in
theorem gX8_lost_X8_isLost : GoodIn wsX8_lost (va_wsS RX8 73 yX8_isLost wsX8_isLost) := goodIn_app (goodIn_of _ (by decide +kernel)) ggX8_lost_X8_isLost
theorem dX8_lost_0 : decode cX8_lost 0 = .ok (.iconst 0, 1) := by decide +kernel
theorem dX8_lost_1 : decode cX8_lost 1 = .ok (.istore_n 1, 1) := by decide +kernel
theorem dX8_lost_2 : decode cX8_lost 2 = .ok (.iconst 0, 1) := by decide +kernel
theorem dX8_lost_3 : decode cX8_lost 3 = .ok (.istore_n 2, 1) := by decide +kernel
theorem dX8_lost_4 : decode cX8_lost 4 = .ok (.iload_n 2, 1) := by decide +kernel
theorem dX8_lost_5 : decode cX8_lost 5 = .ok (.aload_n 0, 1) := by decide +kernel
theorem dX8_lost_6 : decode cX8_lost 6 = .ok (.getfield 16, 3) := by decide +kernel
theorem dX8_lost_9 : decode cX8_lost 9 = .ok (.iconst 1, 1) := by decide +kernel
theorem dX8_lost_10 : decode cX8_lost 10 = .ok (.iaload, 1) := by decide +kernel
theorem dX8_lost_11 : decode cX8_lost 11 = .ok (.if_icmp .ge 34, 3) := by decide +kernel
theorem dX8_lost_14 : decode cX8_lost 14 = .ok (.iload_n 1, 1) := by decide +kernel
theorem dX8_lost_15 : decode cX8_lost 15 = .ok (.aload_n 0, 1) := by decide +kernel
theorem dX8_lost_16 : decode cX8_lost 16 = .ok (.getfield 16, 3) := by decide +kernel
theorem dX8_lost_19 : decode cX8_lost 19 = .ok (.iload_n 2, 1) := by decide +kernel
theorem dX8_lost_20 : decode cX8_lost 20 = .ok (.aload_n 0, 1) := by decide +kernel
theorem dX8_lost_21 : decode cX8_lost 21 = .ok (.getfield 16, 3) := by decide +kernel
theorem dX8_lost_24 : decode cX8_lost 24 = .ok (.iconst 0, 1) := by decide +kernel
theorem dX8_lost_25 : decode cX8_lost 25 = .ok (.iaload, 1) := by decide +kernel
theorem dX8_lost_26 : decode cX8_lost 26 = .ok (.invokestatic 73, 3) := by decide +kernel
theorem dX8_lost_29 : decode cX8_lost 29 = .ok (.ifCond .eq 7, 3) := by decide +kernel
theorem dX8_lost_32 : decode cX8_lost 32 = .ok (.iconst 1, 1) := by decide +kernel
theorem dX8_lost_33 : decode cX8_lost 33 = .ok (.goto 4, 3) := by decide +kernel
theorem dX8_lost_36 : decode cX8_lost 36 = .ok (.iconst 0, 1) := by decide +kernel
theorem dX8_lost_37 : decode cX8_lost 37 = .ok (.iadd, 1) := by decide +kernel
theorem dX8_lost_38 : decode cX8_lost 38 = .ok (.istore_n 1, 1) := by decide +kernel
theorem dX8_lost_39 : decode cX8_lost 39 = .ok (.iinc 2 1, 3) := by decide +kernel
theorem dX8_lost_42 : decode cX8_lost 42 = .ok (.goto (-38), 3) := by decide +kernel
theorem dX8_lost_45 : decode cX8_lost 45 = .ok (.iload_n 1, 1) := by decide +kernel
theorem dX8_lost_46 : decode cX8_lost 46 = .ok (.ireturn, 1) := by decide +kernel
set_option maxRecDepth 20000 in
theorem ggX8_about_X8_in : GoodIn wsX8_about wsX8_in := goodIn_r _ [6] (by decide +kernel) (by decide +kernel)
set_option maxRecDepth 20000 in
theorem gX8_about_X8_in : GoodIn wsX8_about (va_wsS RX8 140 yX8_in wsX8_in) := goodIn_app (goodIn_of _ (by decide +kernel)) ggX8_about_X8_in
set_option maxRecDepth 20000 in
theorem ggX8_about_X8_refused : GoodIn wsX8_about wsX8_refused := goodIn_r _ [10, 11, 32, 33, 34, 35, 36, 37, 38, 39, 40, 41, 42, 43, 44, 45, 46, 47, 48] (by decide +kernel) (by decide +kernel)
set_option maxRecDepth 20000 in
theorem gX8_about_X8_refused : GoodIn wsX8_about (wsV RX8 151 RX8 yX8_refused wsX8_refused) := goodIn_app (goodIn_of _ (by decide +kernel)) ggX8_about_X8_refused
set_option maxRecDepth 20000 in
theorem ggX8_about_X8_banned : GoodIn wsX8_about wsX8_banned := goodIn_r _ [15, 2, 16, 17, 5, 18, 19, 20, 21, 32, 33, 34, 35, 36, 37, 38, 39, 40, 41, 42, 43, 44, 45, 46, 47, 48] (by decide +kernel) (by decide +kernel)
set_option maxRecDepth 20000 in
theorem gX8_about_X8_banned : GoodIn wsX8_about (wsV RX8 227 RX8 yX8_banned wsX8_banned) := goodIn_app (goodIn_of _ (by decide +kernel)) ggX8_about_X8_banned
set_option maxRecDepth 20000 in
theorem ggX8_about_X8_lost : GoodIn wsX8_about wsX8_lost := goodIn_r _ [25, 2, 26, 27, 5, 28, 29, 30, 31, 32, 33, 34, 35, 36, 37, 38, 39, 40, 41, 42, 43, 44, 45, 46, 47, 48] (by decide +kernel) (by decide +kernel)
set_option maxRecDepth 20000 in
theorem gX8_about_X8_lost : GoodIn wsX8_about (wsV RX8 230 RX8 yX8_lost wsX8_lost) := goodIn_app (goodIn_of _ (by decide +kernel)) ggX8_about_X8_lost
theorem dX8_about_0 : decode cX8_about 0 = .ok (.aload_n 0, 1) := by decide +kernel
theorem dX8_about_1 : decode cX8_about 1 = .ok (.iload_n 1, 1) := by decide +kernel
theorem dX8_about_2 : decode cX8_about 2 = .ok (.i2l, 1) := by decide +kernel
theorem dX8_about_3 : decode cX8_about 3 = .ok (.lconst 0, 1) := by decide +kernel
theorem dX8_about_4 : decode cX8_about 4 = .ok (.ldc2_w 43, 3) := by decide +kernel
theorem dX8_about_7 : decode cX8_about 7 = .ok (.invokestatic 140, 3) := by decide +kernel
theorem dX8_about_10 : decode cX8_about 10 = .ok (.ifCond .eq 7, 3) := by decide +kernel
theorem dX8_about_13 : decode cX8_about 13 = .ok (.iconst 0, 1) := by decide +kernel
theorem dX8_about_14 : decode cX8_about 14 = .ok (.goto 4, 3) := by decide +kernel
theorem dX8_about_17 : decode cX8_about 17 = .ok (.iconst 1, 1) := by decide +kernel
theorem dX8_about_18 : decode cX8_about 18 = .ok (.invokevirtual 151, 3) := by decide +kernel
theorem dX8_about_21 : decode cX8_about 21 = .ok (.ifCond .eq 5, 3) := by decide +kernel
theorem dX8_about_24 : decode cX8_about 24 = .ok (.iconst 0, 1) := by decide +kernel
theorem dX8_about_25 : decode cX8_about 25 = .ok (.ireturn, 1) := by decide +kernel
theorem dX8_about_26 : decode cX8_about 26 = .ok (.iload_n 1, 1) := by decide +kernel
theorem dX8_about_27 : decode cX8_about 27 = .ok (.tableswitch 95 0 10 #[57, 64, 71, 78, 95, 95, 95, 95, 95, 85, 90], 57) := by decide +kernel
theorem dX8_about_84 : decode cX8_about 84 = .ok (.aload_n 0, 1) := by decide +kernel
theorem dX8_about_85 : decode cX8_about 85 = .ok (.getfield 16, 3) := by decide +kernel
theorem dX8_about_88 : decode cX8_about 88 = .ok (.iconst 1, 1) := by decide +kernel
theorem dX8_about_89 : decode cX8_about 89 = .ok (.iaload, 1) := by decide +kernel
theorem dX8_about_90 : decode cX8_about 90 = .ok (.ireturn, 1) := by decide +kernel
theorem dX8_about_91 : decode cX8_about 91 = .ok (.aload_n 0, 1) := by decide +kernel
theorem dX8_about_92 : decode cX8_about 92 = .ok (.getfield 16, 3) := by decide +kernel
theorem dX8_about_95 : decode cX8_about 95 = .ok (.iconst 0, 1) := by decide +kernel
theorem dX8_about_96 : decode cX8_about 96 = .ok (.iaload, 1) := by decide +kernel
theorem dX8_about_97 : decode cX8_about 97 = .ok (.ireturn, 1) := by decide +kernel
theorem dX8_about_98 : decode cX8_about 98 = .ok (.aload_n 0, 1) := by decide +kernel
theorem dX8_about_99 : decode cX8_about 99 = .ok (.getfield 16, 3) := by decide +kernel
theorem dX8_about_102 : decode cX8_about 102 = .ok (.iconst 2, 1) := by decide +kernel
theorem dX8_about_103 : decode cX8_about 103 = .ok (.iaload, 1) := by decide +kernel
theorem dX8_about_104 : decode cX8_about 104 = .ok (.ireturn, 1) := by decide +kernel
theorem dX8_about_105 : decode cX8_about 105 = .ok (.aload_n 0, 1) := by decide +kernel
theorem dX8_about_106 : decode cX8_about 106 = .ok (.getfield 16, 3) := by decide +kernel
theorem dX8_about_109 : decode cX8_about 109 = .ok (.iconst 3, 1) := by decide +kernel
theorem dX8_about_110 : decode cX8_about 110 = .ok (.iaload, 1) := by decide +kernel
theorem dX8_about_111 : decode cX8_about 111 = .ok (.ireturn, 1) := by decide +kernel
theorem dX8_about_112 : decode cX8_about 112 = .ok (.aload_n 0, 1) := by decide +kernel
theorem dX8_about_113 : decode cX8_about 113 = .ok (.invokevirtual 227, 3) := by decide +kernel
theorem dX8_about_116 : decode cX8_about 116 = .ok (.ireturn, 1) := by decide +kernel
theorem dX8_about_117 : decode cX8_about 117 = .ok (.aload_n 0, 1) := by decide +kernel
theorem dX8_about_118 : decode cX8_about 118 = .ok (.invokevirtual 230, 3) := by decide +kernel
theorem dX8_about_121 : decode cX8_about 121 = .ok (.ireturn, 1) := by decide +kernel
theorem dX8_about_122 : decode cX8_about 122 = .ok (.aload_n 0, 1) := by decide +kernel
theorem dX8_about_123 : decode cX8_about 123 = .ok (.getfield 16, 3) := by decide +kernel
theorem dX8_about_126 : decode cX8_about 126 = .ok (.iload_n 1, 1) := by decide +kernel
theorem dX8_about_127 : decode cX8_about 127 = .ok (.iaload, 1) := by decide +kernel
theorem dX8_about_128 : decode cX8_about 128 = .ok (.ireturn, 1) := by decide +kernel
set_option maxRecDepth 20000 in
theorem ggX8_isPrisoner_X8_in : GoodIn wsX8_isPrisoner wsX8_in := goodIn_r _ [5] (by decide +kernel) (by decide +kernel)
set_option maxRecDepth 20000 in
theorem gX8_isPrisoner_X8_in : GoodIn wsX8_isPrisoner (va_wsS RX8 140 yX8_in wsX8_in) := goodIn_app (goodIn_of _ (by decide +kernel)) ggX8_isPrisoner_X8_in
theorem dX8_isPrisoner_0 : decode cX8_isPrisoner 0 = .ok (.iload_n 1, 1) := by decide +kernel
theorem dX8_isPrisoner_1 : decode cX8_isPrisoner 1 = .ok (.i2l, 1) := by decide +kernel
theorem dX8_isPrisoner_2 : decode cX8_isPrisoner 2 = .ok (.lconst 0, 1) := by decide +kernel
theorem dX8_isPrisoner_3 : decode cX8_isPrisoner 3 = .ok (.aload_n 0, 1) := by decide +kernel
theorem dX8_isPrisoner_4 : decode cX8_isPrisoner 4 = .ok (.getfield 16, 3) := by decide +kernel
theorem dX8_isPrisoner_7 : decode cX8_isPrisoner 7 = .ok (.iconst 1, 1) := by decide +kernel
theorem dX8_isPrisoner_8 : decode cX8_isPrisoner 8 = .ok (.iaload, 1) := by decide +kernel
theorem dX8_isPrisoner_9 : decode cX8_isPrisoner 9 = .ok (.iconst 1, 1) := by decide +kernel
theorem dX8_isPrisoner_10 : decode cX8_isPrisoner 10 = .ok (.isub, 1) := by decide +kernel
theorem dX8_isPrisoner_11 : decode cX8_isPrisoner 11 = .ok (.i2l, 1) := by decide +kernel
theorem dX8_isPrisoner_12 : decode cX8_isPrisoner 12 = .ok (.invokestatic 140, 3) := by decide +kernel
theorem dX8_isPrisoner_15 : decode cX8_isPrisoner 15 = .ok (.ireturn, 1) := by decide +kernel
set_option maxRecDepth 20000 in
theorem ggX8_isVisitor_X8_in : GoodIn wsX8_isVisitor wsX8_in := goodIn_r _ [5] (by decide +kernel) (by decide +kernel)
set_option maxRecDepth 20000 in
theorem gX8_isVisitor_X8_in : GoodIn wsX8_isVisitor (va_wsS RX8 140 yX8_in wsX8_in) := goodIn_app (goodIn_of _ (by decide +kernel)) ggX8_isVisitor_X8_in
theorem dX8_isVisitor_0 : decode cX8_isVisitor 0 = .ok (.iload_n 0, 1) := by decide +kernel
theorem dX8_isVisitor_1 : decode cX8_isVisitor 1 = .ok (.i2l, 1) := by decide +kernel
theorem dX8_isVisitor_2 : decode cX8_isVisitor 2 = .ok (.lconst 0, 1) := by decide +kernel
theorem dX8_isVisitor_3 : decode cX8_isVisitor 3 = .ok (.ldc2_w 162, 3) := by decide +kernel
theorem dX8_isVisitor_6 : decode cX8_isVisitor 6 = .ok (.invokestatic 140, 3) := by decide +kernel
theorem dX8_isVisitor_9 : decode cX8_isVisitor 9 = .ok (.ireturn, 1) := by decide +kernel
set_option maxRecDepth 20000 in
theorem ggX8_isBooking_X8_in : GoodIn wsX8_isBooking wsX8_in := goodIn_r _ [5] (by decide +kernel) (by decide +kernel)
set_option maxRecDepth 20000 in
theorem gX8_isBooking_X8_in : GoodIn wsX8_isBooking (va_wsS RX8 140 yX8_in wsX8_in) := goodIn_app (goodIn_of _ (by decide +kernel)) ggX8_isBooking_X8_in
theorem dX8_isBooking_0 : decode cX8_isBooking 0 = .ok (.iload_n 1, 1) := by decide +kernel
theorem dX8_isBooking_1 : decode cX8_isBooking 1 = .ok (.i2l, 1) := by decide +kernel
theorem dX8_isBooking_2 : decode cX8_isBooking 2 = .ok (.lconst 0, 1) := by decide +kernel
theorem dX8_isBooking_3 : decode cX8_isBooking 3 = .ok (.aload_n 0, 1) := by decide +kernel
theorem dX8_isBooking_4 : decode cX8_isBooking 4 = .ok (.getfield 16, 3) := by decide +kernel
theorem dX8_isBooking_7 : decode cX8_isBooking 7 = .ok (.iconst 2, 1) := by decide +kernel
theorem dX8_isBooking_8 : decode cX8_isBooking 8 = .ok (.iaload, 1) := by decide +kernel
theorem dX8_isBooking_9 : decode cX8_isBooking 9 = .ok (.iconst 1, 1) := by decide +kernel
theorem dX8_isBooking_10 : decode cX8_isBooking 10 = .ok (.isub, 1) := by decide +kernel
theorem dX8_isBooking_11 : decode cX8_isBooking 11 = .ok (.i2l, 1) := by decide +kernel
theorem dX8_isBooking_12 : decode cX8_isBooking 12 = .ok (.invokestatic 140, 3) := by decide +kernel
theorem dX8_isBooking_15 : decode cX8_isBooking 15 = .ok (.ireturn, 1) := by decide +kernel
set_option maxRecDepth 20000 in
theorem ggX8_bookingsOf_X8_bookingAt : GoodIn wsX8_bookingsOf wsX8_bookingAt := goodIn_r _ [5] (by decide +kernel) (by decide +kernel)
set_option maxRecDepth 20000 in
theorem gX8_bookingsOf_X8_bookingAt : GoodIn wsX8_bookingsOf (va_wsS RX8 62 yX8_bookingAt wsX8_bookingAt) := goodIn_app (goodIn_of _ (by decide +kernel)) ggX8_bookingsOf_X8_bookingAt
theorem dX8_bookingsOf_0 : decode cX8_bookingsOf 0 = .ok (.iconst 0, 1) := by decide +kernel
theorem dX8_bookingsOf_1 : decode cX8_bookingsOf 1 = .ok (.istore_n 3, 1) := by decide +kernel
theorem dX8_bookingsOf_2 : decode cX8_bookingsOf 2 = .ok (.iconst 0, 1) := by decide +kernel
theorem dX8_bookingsOf_3 : decode cX8_bookingsOf 3 = .ok (.istore 4, 2) := by decide +kernel
theorem dX8_bookingsOf_5 : decode cX8_bookingsOf 5 = .ok (.iload 4, 2) := by decide +kernel
theorem dX8_bookingsOf_7 : decode cX8_bookingsOf 7 = .ok (.aload_n 0, 1) := by decide +kernel
theorem dX8_bookingsOf_8 : decode cX8_bookingsOf 8 = .ok (.getfield 16, 3) := by decide +kernel
theorem dX8_bookingsOf_11 : decode cX8_bookingsOf 11 = .ok (.iconst 2, 1) := by decide +kernel
theorem dX8_bookingsOf_12 : decode cX8_bookingsOf 12 = .ok (.iaload, 1) := by decide +kernel
theorem dX8_bookingsOf_13 : decode cX8_bookingsOf 13 = .ok (.if_icmp .ge 32, 3) := by decide +kernel
theorem dX8_bookingsOf_16 : decode cX8_bookingsOf 16 = .ok (.iload_n 3, 1) := by decide +kernel
theorem dX8_bookingsOf_17 : decode cX8_bookingsOf 17 = .ok (.aload_n 0, 1) := by decide +kernel
theorem dX8_bookingsOf_18 : decode cX8_bookingsOf 18 = .ok (.getfield 16, 3) := by decide +kernel
theorem dX8_bookingsOf_21 : decode cX8_bookingsOf 21 = .ok (.iload 4, 2) := by decide +kernel
theorem dX8_bookingsOf_23 : decode cX8_bookingsOf 23 = .ok (.iload_n 1, 1) := by decide +kernel
theorem dX8_bookingsOf_24 : decode cX8_bookingsOf 24 = .ok (.invokestatic 62, 3) := by decide +kernel
theorem dX8_bookingsOf_27 : decode cX8_bookingsOf 27 = .ok (.iaload, 1) := by decide +kernel
theorem dX8_bookingsOf_28 : decode cX8_bookingsOf 28 = .ok (.iload_n 2, 1) := by decide +kernel
theorem dX8_bookingsOf_29 : decode cX8_bookingsOf 29 = .ok (.if_icmp .ne 7, 3) := by decide +kernel
theorem dX8_bookingsOf_32 : decode cX8_bookingsOf 32 = .ok (.iconst 1, 1) := by decide +kernel
theorem dX8_bookingsOf_33 : decode cX8_bookingsOf 33 = .ok (.goto 4, 3) := by decide +kernel
theorem dX8_bookingsOf_36 : decode cX8_bookingsOf 36 = .ok (.iconst 0, 1) := by decide +kernel
theorem dX8_bookingsOf_37 : decode cX8_bookingsOf 37 = .ok (.iadd, 1) := by decide +kernel
theorem dX8_bookingsOf_38 : decode cX8_bookingsOf 38 = .ok (.istore_n 3, 1) := by decide +kernel
theorem dX8_bookingsOf_39 : decode cX8_bookingsOf 39 = .ok (.iinc 4 1, 3) := by decide +kernel
theorem dX8_bookingsOf_42 : decode cX8_bookingsOf 42 = .ok (.goto (-37), 3) := by decide +kernel
theorem dX8_bookingsOf_45 : decode cX8_bookingsOf 45 = .ok (.iload_n 3, 1) := by decide +kernel
theorem dX8_bookingsOf_46 : decode cX8_bookingsOf 46 = .ok (.ireturn, 1) := by decide +kernel
theorem dX8_wishesOf_0 : decode cX8_wishesOf 0 = .ok (.iconst 0, 1) := by decide +kernel
theorem dX8_wishesOf_1 : decode cX8_wishesOf 1 = .ok (.istore_n 2, 1) := by decide +kernel
theorem dX8_wishesOf_2 : decode cX8_wishesOf 2 = .ok (.iconst 0, 1) := by decide +kernel
theorem dX8_wishesOf_3 : decode cX8_wishesOf 3 = .ok (.istore_n 3, 1) := by decide +kernel
theorem dX8_wishesOf_4 : decode cX8_wishesOf 4 = .ok (.iload_n 3, 1) := by decide +kernel
theorem dX8_wishesOf_5 : decode cX8_wishesOf 5 = .ok (.aload_n 0, 1) := by decide +kernel
theorem dX8_wishesOf_6 : decode cX8_wishesOf 6 = .ok (.getfield 16, 3) := by decide +kernel
theorem dX8_wishesOf_9 : decode cX8_wishesOf 9 = .ok (.iconst 3, 1) := by decide +kernel
theorem dX8_wishesOf_10 : decode cX8_wishesOf 10 = .ok (.iaload, 1) := by decide +kernel
theorem dX8_wishesOf_11 : decode cX8_wishesOf 11 = .ok (.if_icmp .ge 34, 3) := by decide +kernel
theorem dX8_wishesOf_14 : decode cX8_wishesOf 14 = .ok (.iload_n 2, 1) := by decide +kernel
theorem dX8_wishesOf_15 : decode cX8_wishesOf 15 = .ok (.aload_n 0, 1) := by decide +kernel
theorem dX8_wishesOf_16 : decode cX8_wishesOf 16 = .ok (.getfield 16, 3) := by decide +kernel
theorem dX8_wishesOf_19 : decode cX8_wishesOf 19 = .ok (.sipush 261, 3) := by decide +kernel
theorem dX8_wishesOf_22 : decode cX8_wishesOf 22 = .ok (.iload_n 3, 1) := by decide +kernel
theorem dX8_wishesOf_23 : decode cX8_wishesOf 23 = .ok (.iadd, 1) := by decide +kernel
theorem dX8_wishesOf_24 : decode cX8_wishesOf 24 = .ok (.iaload, 1) := by decide +kernel
theorem dX8_wishesOf_25 : decode cX8_wishesOf 25 = .ok (.bipush 10, 2) := by decide +kernel
theorem dX8_wishesOf_27 : decode cX8_wishesOf 27 = .ok (.idiv, 1) := by decide +kernel
theorem dX8_wishesOf_28 : decode cX8_wishesOf 28 = .ok (.iload_n 1, 1) := by decide +kernel
theorem dX8_wishesOf_29 : decode cX8_wishesOf 29 = .ok (.if_icmp .ne 7, 3) := by decide +kernel
theorem dX8_wishesOf_32 : decode cX8_wishesOf 32 = .ok (.iconst 1, 1) := by decide +kernel
theorem dX8_wishesOf_33 : decode cX8_wishesOf 33 = .ok (.goto 4, 3) := by decide +kernel
theorem dX8_wishesOf_36 : decode cX8_wishesOf 36 = .ok (.iconst 0, 1) := by decide +kernel
theorem dX8_wishesOf_37 : decode cX8_wishesOf 37 = .ok (.iadd, 1) := by decide +kernel
theorem dX8_wishesOf_38 : decode cX8_wishesOf 38 = .ok (.istore_n 2, 1) := by decide +kernel
theorem dX8_wishesOf_39 : decode cX8_wishesOf 39 = .ok (.iinc 3 1, 3) := by decide +kernel
theorem dX8_wishesOf_42 : decode cX8_wishesOf 42 = .ok (.goto (-38), 3) := by decide +kernel
theorem dX8_wishesOf_45 : decode cX8_wishesOf 45 = .ok (.iload_n 2, 1) := by decide +kernel
theorem dX8_wishesOf_46 : decode cX8_wishesOf 46 = .ok (.ireturn, 1) := by decide +kernel
set_option maxRecDepth 20000 in
theorem ggX8_prisoner_X8_isPrisoner : GoodIn wsX8_prisoner wsX8_isPrisoner := goodIn_r _ [7, 2, 8, 9, 6, 10, 33, 34, 35, 36, 37, 38, 39, 40, 41, 42, 43, 44, 45, 46, 47, 48, 49] (by decide +kernel) (by decide +kernel)
set_option maxRecDepth 20000 in
theorem gX8_prisoner_X8_isPrisoner : GoodIn wsX8_prisoner (wsV RX8 233 RX8 yX8_isPrisoner wsX8_isPrisoner) := goodIn_app (goodIn_of _ (by decide +kernel)) ggX8_prisoner_X8_isPrisoner
set_option maxRecDepth 20000 in
theorem ggX8_prisoner_X8_in : GoodIn wsX8_prisoner wsX8_in := goodIn_r _ [10] (by decide +kernel) (by decide +kernel)
set_option maxRecDepth 20000 in
theorem gX8_prisoner_X8_in : GoodIn wsX8_prisoner (va_wsS RX8 140 yX8_in wsX8_in) := goodIn_app (goodIn_of _ (by decide +kernel)) ggX8_prisoner_X8_in
set_option maxRecDepth 20000 in
theorem ggX8_prisoner_X8_refused : GoodIn wsX8_prisoner wsX8_refused := goodIn_r _ [14, 15, 33, 34, 35, 36, 37, 38, 39, 40, 41, 42, 43, 44, 45, 46, 47, 48, 49] (by decide +kernel) (by decide +kernel)
set_option maxRecDepth 20000 in
theorem gX8_prisoner_X8_refused : GoodIn wsX8_prisoner (wsV RX8 151 RX8 yX8_refused wsX8_refused) := goodIn_app (goodIn_of _ (by decide +kernel)) ggX8_prisoner_X8_refused
set_option maxRecDepth 20000 in
theorem ggX8_prisoner_X8_inWeek : GoodIn wsX8_prisoner wsX8_inWeek := goodIn_r _ [18, 19, 20, 6, 21, 22, 23, 24] (by decide +kernel) (by decide +kernel)
set_option maxRecDepth 20000 in
theorem gX8_prisoner_X8_inWeek : GoodIn wsX8_prisoner (va_wsS RX8 79 yX8_inWeek wsX8_inWeek) := goodIn_app (goodIn_of _ (by decide +kernel)) ggX8_prisoner_X8_inWeek
set_option maxRecDepth 20000 in
theorem ggX8_prisoner_X8_bookingsOf : GoodIn wsX8_prisoner wsX8_bookingsOf := goodIn_r _ [28, 2, 22, 23, 6, 24, 33, 34, 35, 36, 37, 38, 39, 40, 41, 42, 43, 44, 45, 46, 47, 48, 49] (by decide +kernel) (by decide +kernel)
set_option maxRecDepth 20000 in
theorem gX8_prisoner_X8_bookingsOf : GoodIn wsX8_prisoner (wsV RX8 236 RX8 yX8_bookingsOf wsX8_bookingsOf) := goodIn_app (goodIn_of _ (by decide +kernel)) ggX8_prisoner_X8_bookingsOf
set_option maxRecDepth 20000 in
theorem ggX8_prisoner_X8_wishesOf : GoodIn wsX8_prisoner wsX8_wishesOf := goodIn_r _ [32, 2, 33, 34, 35, 36, 37, 38, 39, 40, 41, 42, 43, 44, 45, 46, 47, 48, 49] (by decide +kernel) (by decide +kernel)
set_option maxRecDepth 20000 in
theorem gX8_prisoner_X8_wishesOf : GoodIn wsX8_prisoner (wsV RX8 239 RX8 yX8_wishesOf wsX8_wishesOf) := goodIn_app (goodIn_of _ (by decide +kernel)) ggX8_prisoner_X8_wishesOf
set_option maxRecDepth 20000 in
theorem ggX8_prisoner_X8_prisonerAt : GoodIn wsX8_prisoner wsX8_prisonerAt := goodIn_r _ [21] (by decide +kernel) (by decide +kernel)
set_option maxRecDepth 20000 in
theorem gX8_prisoner_X8_prisonerAt : GoodIn wsX8_prisoner (va_wsS RX8 55 yX8_prisonerAt wsX8_prisonerAt) := goodIn_app (goodIn_of _ (by decide +kernel)) ggX8_prisoner_X8_prisonerAt
theorem dX8_prisoner_0 : decode cX8_prisoner 0 = .ok (.aload_n 0, 1) := by decide +kernel
theorem dX8_prisoner_1 : decode cX8_prisoner 1 = .ok (.aload_n 0, 1) := by decide +kernel
theorem dX8_prisoner_2 : decode cX8_prisoner 2 = .ok (.iload_n 1, 1) := by decide +kernel
theorem dX8_prisoner_3 : decode cX8_prisoner 3 = .ok (.invokevirtual 233, 3) := by decide +kernel
theorem dX8_prisoner_6 : decode cX8_prisoner 6 = .ok (.ifCond .ne 7, 3) := by decide +kernel
theorem dX8_prisoner_9 : decode cX8_prisoner 9 = .ok (.iconst 1, 1) := by decide +kernel
theorem dX8_prisoner_10 : decode cX8_prisoner 10 = .ok (.goto 20, 3) := by decide +kernel
theorem dX8_prisoner_13 : decode cX8_prisoner 13 = .ok (.iload_n 2, 1) := by decide +kernel
theorem dX8_prisoner_14 : decode cX8_prisoner 14 = .ok (.i2l, 1) := by decide +kernel
theorem dX8_prisoner_15 : decode cX8_prisoner 15 = .ok (.lconst 0, 1) := by decide +kernel
theorem dX8_prisoner_16 : decode cX8_prisoner 16 = .ok (.ldc2_w 144, 3) := by decide +kernel
theorem dX8_prisoner_19 : decode cX8_prisoner 19 = .ok (.invokestatic 140, 3) := by decide +kernel
theorem dX8_prisoner_22 : decode cX8_prisoner 22 = .ok (.ifCond .eq 7, 3) := by decide +kernel
theorem dX8_prisoner_25 : decode cX8_prisoner 25 = .ok (.iconst 0, 1) := by decide +kernel
theorem dX8_prisoner_26 : decode cX8_prisoner 26 = .ok (.goto 4, 3) := by decide +kernel
theorem dX8_prisoner_29 : decode cX8_prisoner 29 = .ok (.iconst 2, 1) := by decide +kernel
theorem dX8_prisoner_30 : decode cX8_prisoner 30 = .ok (.invokevirtual 151, 3) := by decide +kernel
theorem dX8_prisoner_33 : decode cX8_prisoner 33 = .ok (.ifCond .eq 5, 3) := by decide +kernel
theorem dX8_prisoner_36 : decode cX8_prisoner 36 = .ok (.iconst 0, 1) := by decide +kernel
theorem dX8_prisoner_37 : decode cX8_prisoner 37 = .ok (.ireturn, 1) := by decide +kernel
theorem dX8_prisoner_38 : decode cX8_prisoner 38 = .ok (.iload_n 2, 1) := by decide +kernel
theorem dX8_prisoner_39 : decode cX8_prisoner 39 = .ok (.tableswitch 68 4 7 #[29, 44, 51, 57], 29) := by decide +kernel
theorem dX8_prisoner_68 : decode cX8_prisoner 68 = .ok (.aload_n 0, 1) := by decide +kernel
theorem dX8_prisoner_69 : decode cX8_prisoner 69 = .ok (.getfield 16, 3) := by decide +kernel
theorem dX8_prisoner_72 : decode cX8_prisoner 72 = .ok (.iload_n 1, 1) := by decide +kernel
theorem dX8_prisoner_73 : decode cX8_prisoner 73 = .ok (.aload_n 0, 1) := by decide +kernel
theorem dX8_prisoner_74 : decode cX8_prisoner 74 = .ok (.getfield 16, 3) := by decide +kernel
theorem dX8_prisoner_77 : decode cX8_prisoner 77 = .ok (.iconst 0, 1) := by decide +kernel
theorem dX8_prisoner_78 : decode cX8_prisoner 78 = .ok (.iaload, 1) := by decide +kernel
theorem dX8_prisoner_79 : decode cX8_prisoner 79 = .ok (.invokestatic 79, 3) := by decide +kernel
theorem dX8_prisoner_82 : decode cX8_prisoner 82 = .ok (.ireturn, 1) := by decide +kernel
theorem dX8_prisoner_83 : decode cX8_prisoner 83 = .ok (.aload_n 0, 1) := by decide +kernel
theorem dX8_prisoner_84 : decode cX8_prisoner 84 = .ok (.iconst 3, 1) := by decide +kernel
theorem dX8_prisoner_85 : decode cX8_prisoner 85 = .ok (.iload_n 1, 1) := by decide +kernel
theorem dX8_prisoner_86 : decode cX8_prisoner 86 = .ok (.invokevirtual 236, 3) := by decide +kernel
theorem dX8_prisoner_89 : decode cX8_prisoner 89 = .ok (.ireturn, 1) := by decide +kernel
theorem dX8_prisoner_90 : decode cX8_prisoner 90 = .ok (.aload_n 0, 1) := by decide +kernel
theorem dX8_prisoner_91 : decode cX8_prisoner 91 = .ok (.iload_n 1, 1) := by decide +kernel
theorem dX8_prisoner_92 : decode cX8_prisoner 92 = .ok (.invokevirtual 239, 3) := by decide +kernel
theorem dX8_prisoner_95 : decode cX8_prisoner 95 = .ok (.ireturn, 1) := by decide +kernel
theorem dX8_prisoner_96 : decode cX8_prisoner 96 = .ok (.aload_n 0, 1) := by decide +kernel
theorem dX8_prisoner_97 : decode cX8_prisoner 97 = .ok (.getfield 16, 3) := by decide +kernel
theorem dX8_prisoner_100 : decode cX8_prisoner 100 = .ok (.iload_n 1, 1) := by decide +kernel
theorem dX8_prisoner_101 : decode cX8_prisoner 101 = .ok (.iconst 5, 1) := by decide +kernel
theorem dX8_prisoner_102 : decode cX8_prisoner 102 = .ok (.invokestatic 55, 3) := by decide +kernel
theorem dX8_prisoner_105 : decode cX8_prisoner 105 = .ok (.iaload, 1) := by decide +kernel
theorem dX8_prisoner_106 : decode cX8_prisoner 106 = .ok (.ireturn, 1) := by decide +kernel
theorem dX8_prisoner_107 : decode cX8_prisoner 107 = .ok (.aload_n 0, 1) := by decide +kernel
theorem dX8_prisoner_108 : decode cX8_prisoner 108 = .ok (.getfield 16, 3) := by decide +kernel
theorem dX8_prisoner_111 : decode cX8_prisoner 111 = .ok (.iload_n 1, 1) := by decide +kernel
theorem dX8_prisoner_112 : decode cX8_prisoner 112 = .ok (.iload_n 2, 1) := by decide +kernel
theorem dX8_prisoner_113 : decode cX8_prisoner 113 = .ok (.invokestatic 55, 3) := by decide +kernel
theorem dX8_prisoner_116 : decode cX8_prisoner 116 = .ok (.iaload, 1) := by decide +kernel
theorem dX8_prisoner_117 : decode cX8_prisoner 117 = .ok (.ireturn, 1) := by decide +kernel
set_option maxRecDepth 20000 in
theorem ggX8_listsOf_X8_isListed : GoodIn wsX8_listsOf wsX8_isListed := goodIn_r _ [5, 6, 7, 4, 8] (by decide +kernel) (by decide +kernel)
set_option maxRecDepth 20000 in
theorem gX8_listsOf_X8_isListed : GoodIn wsX8_listsOf (va_wsS RX8 69 yX8_isListed wsX8_isListed) := goodIn_app (goodIn_of _ (by decide +kernel)) ggX8_listsOf_X8_isListed
theorem dX8_listsOf_0 : decode cX8_listsOf 0 = .ok (.iconst 0, 1) := by decide +kernel
theorem dX8_listsOf_1 : decode cX8_listsOf 1 = .ok (.istore_n 2, 1) := by decide +kernel
theorem dX8_listsOf_2 : decode cX8_listsOf 2 = .ok (.iconst 0, 1) := by decide +kernel
theorem dX8_listsOf_3 : decode cX8_listsOf 3 = .ok (.istore_n 3, 1) := by decide +kernel
theorem dX8_listsOf_4 : decode cX8_listsOf 4 = .ok (.iload_n 3, 1) := by decide +kernel
theorem dX8_listsOf_5 : decode cX8_listsOf 5 = .ok (.aload_n 0, 1) := by decide +kernel
theorem dX8_listsOf_6 : decode cX8_listsOf 6 = .ok (.getfield 16, 3) := by decide +kernel
theorem dX8_listsOf_9 : decode cX8_listsOf 9 = .ok (.iconst 1, 1) := by decide +kernel
theorem dX8_listsOf_10 : decode cX8_listsOf 10 = .ok (.iaload, 1) := by decide +kernel
theorem dX8_listsOf_11 : decode cX8_listsOf 11 = .ok (.if_icmp .ge 31, 3) := by decide +kernel
theorem dX8_listsOf_14 : decode cX8_listsOf 14 = .ok (.iload_n 2, 1) := by decide +kernel
theorem dX8_listsOf_15 : decode cX8_listsOf 15 = .ok (.aload_n 0, 1) := by decide +kernel
theorem dX8_listsOf_16 : decode cX8_listsOf 16 = .ok (.getfield 16, 3) := by decide +kernel
theorem dX8_listsOf_19 : decode cX8_listsOf 19 = .ok (.iload_n 3, 1) := by decide +kernel
theorem dX8_listsOf_20 : decode cX8_listsOf 20 = .ok (.iload_n 1, 1) := by decide +kernel
theorem dX8_listsOf_21 : decode cX8_listsOf 21 = .ok (.invokestatic 69, 3) := by decide +kernel
theorem dX8_listsOf_24 : decode cX8_listsOf 24 = .ok (.ifCond .eq 9, 3) := by decide +kernel
theorem dX8_listsOf_27 : decode cX8_listsOf 27 = .ok (.iconst 1, 1) := by decide +kernel
theorem dX8_listsOf_28 : decode cX8_listsOf 28 = .ok (.iload_n 3, 1) := by decide +kernel
theorem dX8_listsOf_29 : decode cX8_listsOf 29 = .ok (.ishl, 1) := by decide +kernel
theorem dX8_listsOf_30 : decode cX8_listsOf 30 = .ok (.goto 4, 3) := by decide +kernel
theorem dX8_listsOf_33 : decode cX8_listsOf 33 = .ok (.iconst 0, 1) := by decide +kernel
theorem dX8_listsOf_34 : decode cX8_listsOf 34 = .ok (.ior, 1) := by decide +kernel
theorem dX8_listsOf_35 : decode cX8_listsOf 35 = .ok (.istore_n 2, 1) := by decide +kernel
theorem dX8_listsOf_36 : decode cX8_listsOf 36 = .ok (.iinc 3 1, 3) := by decide +kernel
theorem dX8_listsOf_39 : decode cX8_listsOf 39 = .ok (.goto (-35), 3) := by decide +kernel
theorem dX8_listsOf_42 : decode cX8_listsOf 42 = .ok (.iload_n 2, 1) := by decide +kernel
theorem dX8_listsOf_43 : decode cX8_listsOf 43 = .ok (.ireturn, 1) := by decide +kernel
set_option maxRecDepth 20000 in
theorem ggX8_visitor_X8_isVisitor : GoodIn wsX8_visitor wsX8_isVisitor := goodIn_r _ [6, 7, 8, 9, 5, 10] (by decide +kernel) (by decide +kernel)
set_option maxRecDepth 20000 in
theorem gX8_visitor_X8_isVisitor : GoodIn wsX8_visitor (va_wsS RX8 243 yX8_isVisitor wsX8_isVisitor) := goodIn_app (goodIn_of _ (by decide +kernel)) ggX8_visitor_X8_isVisitor
set_option maxRecDepth 20000 in
theorem ggX8_visitor_X8_in : GoodIn wsX8_visitor wsX8_in := goodIn_r _ [10] (by decide +kernel) (by decide +kernel)
set_option maxRecDepth 20000 in
theorem gX8_visitor_X8_in : GoodIn wsX8_visitor (va_wsS RX8 140 yX8_in wsX8_in) := goodIn_app (goodIn_of _ (by decide +kernel)) ggX8_visitor_X8_in
set_option maxRecDepth 20000 in
theorem ggX8_visitor_X8_refused : GoodIn wsX8_visitor wsX8_refused := goodIn_r _ [14, 15, 36, 37, 38, 39, 40, 41, 42, 43, 44, 45, 46, 47, 48, 49, 50, 51, 52] (by decide +kernel) (by decide +kernel)
set_option maxRecDepth 20000 in
theorem gX8_visitor_X8_refused : GoodIn wsX8_visitor (wsV RX8 151 RX8 yX8_refused wsX8_refused) := goodIn_app (goodIn_of _ (by decide +kernel)) ggX8_visitor_X8_refused
set_option maxRecDepth 20000 in
theorem ggX8_visitor_X8_visitorAt : GoodIn wsX8_visitor wsX8_visitorAt := goodIn_r _ [18] (by decide +kernel) (by decide +kernel)
set_option maxRecDepth 20000 in
theorem gX8_visitor_X8_visitorAt : GoodIn wsX8_visitor (va_wsS RX8 59 yX8_visitorAt wsX8_visitorAt) := goodIn_app (goodIn_of _ (by decide +kernel)) ggX8_visitor_X8_visitorAt
set_option maxRecDepth 20000 in
theorem ggX8_visitor_X8_bookingsOf : GoodIn wsX8_visitor wsX8_bookingsOf := goodIn_r _ [22, 2, 23, 24, 5, 25, 36, 37, 38, 39, 40, 41, 42, 43, 44, 45, 46, 47, 48, 49, 50, 51, 52] (by decide +kernel) (by decide +kernel)
set_option maxRecDepth 20000 in
theorem gX8_visitor_X8_bookingsOf : GoodIn wsX8_visitor (wsV RX8 236 RX8 yX8_bookingsOf wsX8_bookingsOf) := goodIn_app (goodIn_of _ (by decide +kernel)) ggX8_visitor_X8_bookingsOf
set_option maxRecDepth 20000 in
theorem ggX8_visitor_X8_listsOf : GoodIn wsX8_visitor wsX8_listsOf := goodIn_r _ [29, 2, 30, 31, 5, 32, 33, 34, 35, 36, 37, 38, 39, 40, 41, 42, 43, 44, 45, 46, 47, 48, 49, 50, 51, 52] (by decide +kernel) (by decide +kernel)
set_option maxRecDepth 20000 in
theorem gX8_visitor_X8_listsOf : GoodIn wsX8_visitor (wsV RX8 248 RX8 yX8_listsOf wsX8_listsOf) := goodIn_app (goodIn_of _ (by decide +kernel)) ggX8_visitor_X8_listsOf
theorem dX8_visitor_0 : decode cX8_visitor 0 = .ok (.aload_n 0, 1) := by decide +kernel
theorem dX8_visitor_1 : decode cX8_visitor 1 = .ok (.iload_n 1, 1) := by decide +kernel
theorem dX8_visitor_2 : decode cX8_visitor 2 = .ok (.invokestatic 243, 3) := by decide +kernel
theorem dX8_visitor_5 : decode cX8_visitor 5 = .ok (.ifCond .ne 7, 3) := by decide +kernel
theorem dX8_visitor_8 : decode cX8_visitor 8 = .ok (.iconst 1, 1) := by decide +kernel
theorem dX8_visitor_9 : decode cX8_visitor 9 = .ok (.goto 20, 3) := by decide +kernel
theorem dX8_visitor_12 : decode cX8_visitor 12 = .ok (.iload_n 2, 1) := by decide +kernel
theorem dX8_visitor_13 : decode cX8_visitor 13 = .ok (.i2l, 1) := by decide +kernel
theorem dX8_visitor_14 : decode cX8_visitor 14 = .ok (.lconst 0, 1) := by decide +kernel
theorem dX8_visitor_15 : decode cX8_visitor 15 = .ok (.ldc2_w 246, 3) := by decide +kernel
theorem dX8_visitor_18 : decode cX8_visitor 18 = .ok (.invokestatic 140, 3) := by decide +kernel
theorem dX8_visitor_21 : decode cX8_visitor 21 = .ok (.ifCond .eq 7, 3) := by decide +kernel
theorem dX8_visitor_24 : decode cX8_visitor 24 = .ok (.iconst 0, 1) := by decide +kernel
theorem dX8_visitor_25 : decode cX8_visitor 25 = .ok (.goto 4, 3) := by decide +kernel
theorem dX8_visitor_28 : decode cX8_visitor 28 = .ok (.iconst 2, 1) := by decide +kernel
theorem dX8_visitor_29 : decode cX8_visitor 29 = .ok (.invokevirtual 151, 3) := by decide +kernel
theorem dX8_visitor_32 : decode cX8_visitor 32 = .ok (.ifCond .eq 5, 3) := by decide +kernel
theorem dX8_visitor_35 : decode cX8_visitor 35 = .ok (.iconst 0, 1) := by decide +kernel
theorem dX8_visitor_36 : decode cX8_visitor 36 = .ok (.ireturn, 1) := by decide +kernel
theorem dX8_visitor_37 : decode cX8_visitor 37 = .ok (.iload_n 2, 1) := by decide +kernel
theorem dX8_visitor_38 : decode cX8_visitor 38 = .ok (.iconst 3, 1) := by decide +kernel
theorem dX8_visitor_39 : decode cX8_visitor 39 = .ok (.if_icmp .ge 16, 3) := by decide +kernel
theorem dX8_visitor_42 : decode cX8_visitor 42 = .ok (.aload_n 0, 1) := by decide +kernel
theorem dX8_visitor_43 : decode cX8_visitor 43 = .ok (.getfield 16, 3) := by decide +kernel
theorem dX8_visitor_46 : decode cX8_visitor 46 = .ok (.iload_n 1, 1) := by decide +kernel
theorem dX8_visitor_47 : decode cX8_visitor 47 = .ok (.iload_n 2, 1) := by decide +kernel
theorem dX8_visitor_48 : decode cX8_visitor 48 = .ok (.invokestatic 59, 3) := by decide +kernel
theorem dX8_visitor_51 : decode cX8_visitor 51 = .ok (.iaload, 1) := by decide +kernel
theorem dX8_visitor_52 : decode cX8_visitor 52 = .ok (.goto 22, 3) := by decide +kernel
theorem dX8_visitor_55 : decode cX8_visitor 55 = .ok (.iload_n 2, 1) := by decide +kernel
theorem dX8_visitor_56 : decode cX8_visitor 56 = .ok (.iconst 3, 1) := by decide +kernel
theorem dX8_visitor_57 : decode cX8_visitor 57 = .ok (.if_icmp .ne 12, 3) := by decide +kernel
theorem dX8_visitor_60 : decode cX8_visitor 60 = .ok (.aload_n 0, 1) := by decide +kernel
theorem dX8_visitor_61 : decode cX8_visitor 61 = .ok (.iconst 4, 1) := by decide +kernel
theorem dX8_visitor_62 : decode cX8_visitor 62 = .ok (.iload_n 1, 1) := by decide +kernel
theorem dX8_visitor_63 : decode cX8_visitor 63 = .ok (.invokevirtual 236, 3) := by decide +kernel
theorem dX8_visitor_66 : decode cX8_visitor 66 = .ok (.goto 8, 3) := by decide +kernel
theorem dX8_visitor_69 : decode cX8_visitor 69 = .ok (.aload_n 0, 1) := by decide +kernel
theorem dX8_visitor_70 : decode cX8_visitor 70 = .ok (.iload_n 1, 1) := by decide +kernel
theorem dX8_visitor_71 : decode cX8_visitor 71 = .ok (.invokevirtual 248, 3) := by decide +kernel
theorem dX8_visitor_74 : decode cX8_visitor 74 = .ok (.ireturn, 1) := by decide +kernel
set_option maxRecDepth 20000 in
theorem ggX8_booking_X8_isBooking : GoodIn wsX8_booking wsX8_isBooking := goodIn_r _ [7, 2, 8, 9, 6, 10, 19, 20, 21, 22, 23, 24, 25, 26, 27, 28, 29, 30, 31, 32, 33, 34, 35] (by decide +kernel) (by decide +kernel)
set_option maxRecDepth 20000 in
theorem gX8_booking_X8_isBooking : GoodIn wsX8_booking (wsV RX8 251 RX8 yX8_isBooking wsX8_isBooking) := goodIn_app (goodIn_of _ (by decide +kernel)) ggX8_booking_X8_isBooking
set_option maxRecDepth 20000 in
theorem ggX8_booking_X8_in : GoodIn wsX8_booking wsX8_in := goodIn_r _ [10] (by decide +kernel) (by decide +kernel)
set_option maxRecDepth 20000 in
theorem gX8_booking_X8_in : GoodIn wsX8_booking (va_wsS RX8 140 yX8_in wsX8_in) := goodIn_app (goodIn_of _ (by decide +kernel)) ggX8_booking_X8_in
set_option maxRecDepth 20000 in
theorem ggX8_booking_X8_refused : GoodIn wsX8_booking wsX8_refused := goodIn_r _ [14, 15, 19, 20, 21, 22, 23, 24, 25, 26, 27, 28, 29, 30, 31, 32, 33, 34, 35] (by decide +kernel) (by decide +kernel)
set_option maxRecDepth 20000 in
theorem gX8_booking_X8_refused : GoodIn wsX8_booking (wsV RX8 151 RX8 yX8_refused wsX8_refused) := goodIn_app (goodIn_of _ (by decide +kernel)) ggX8_booking_X8_refused
set_option maxRecDepth 20000 in
theorem ggX8_booking_X8_bookingAt : GoodIn wsX8_booking wsX8_bookingAt := goodIn_r _ [18] (by decide +kernel) (by decide +kernel)
set_option maxRecDepth 20000 in
theorem gX8_booking_X8_bookingAt : GoodIn wsX8_booking (va_wsS RX8 62 yX8_bookingAt wsX8_bookingAt) := goodIn_app (goodIn_of _ (by decide +kernel)) ggX8_booking_X8_bookingAt
theorem dX8_booking_0 : decode cX8_booking 0 = .ok (.aload_n 0, 1) := by decide +kernel
theorem dX8_booking_1 : decode cX8_booking 1 = .ok (.aload_n 0, 1) := by decide +kernel
theorem dX8_booking_2 : decode cX8_booking 2 = .ok (.iload_n 1, 1) := by decide +kernel
theorem dX8_booking_3 : decode cX8_booking 3 = .ok (.invokevirtual 251, 3) := by decide +kernel
theorem dX8_booking_6 : decode cX8_booking 6 = .ok (.ifCond .ne 7, 3) := by decide +kernel
theorem dX8_booking_9 : decode cX8_booking 9 = .ok (.iconst 1, 1) := by decide +kernel
theorem dX8_booking_10 : decode cX8_booking 10 = .ok (.goto 20, 3) := by decide +kernel
theorem dX8_booking_13 : decode cX8_booking 13 = .ok (.iload_n 2, 1) := by decide +kernel
theorem dX8_booking_14 : decode cX8_booking 14 = .ok (.i2l, 1) := by decide +kernel
theorem dX8_booking_15 : decode cX8_booking 15 = .ok (.lconst 0, 1) := by decide +kernel
theorem dX8_booking_16 : decode cX8_booking 16 = .ok (.ldc2_w 254, 3) := by decide +kernel
theorem dX8_booking_19 : decode cX8_booking 19 = .ok (.invokestatic 140, 3) := by decide +kernel
theorem dX8_booking_22 : decode cX8_booking 22 = .ok (.ifCond .eq 7, 3) := by decide +kernel
theorem dX8_booking_25 : decode cX8_booking 25 = .ok (.iconst 0, 1) := by decide +kernel
theorem dX8_booking_26 : decode cX8_booking 26 = .ok (.goto 4, 3) := by decide +kernel
theorem dX8_booking_29 : decode cX8_booking 29 = .ok (.iconst 2, 1) := by decide +kernel
theorem dX8_booking_30 : decode cX8_booking 30 = .ok (.invokevirtual 151, 3) := by decide +kernel
theorem dX8_booking_33 : decode cX8_booking 33 = .ok (.ifCond .eq 5, 3) := by decide +kernel
theorem dX8_booking_36 : decode cX8_booking 36 = .ok (.iconst 0, 1) := by decide +kernel
theorem dX8_booking_37 : decode cX8_booking 37 = .ok (.ireturn, 1) := by decide +kernel
theorem dX8_booking_38 : decode cX8_booking 38 = .ok (.aload_n 0, 1) := by decide +kernel
theorem dX8_booking_39 : decode cX8_booking 39 = .ok (.getfield 16, 3) := by decide +kernel
theorem dX8_booking_42 : decode cX8_booking 42 = .ok (.iload_n 1, 1) := by decide +kernel
theorem dX8_booking_43 : decode cX8_booking 43 = .ok (.iload_n 2, 1) := by decide +kernel
theorem dX8_booking_44 : decode cX8_booking 44 = .ok (.invokestatic 62, 3) := by decide +kernel
theorem dX8_booking_47 : decode cX8_booking 47 = .ok (.iaload, 1) := by decide +kernel
theorem dX8_booking_48 : decode cX8_booking 48 = .ok (.ireturn, 1) := by decide +kernel
theorem dX8_put_0 : decode cX8_put 0 = .ok (.aload_n 0, 1) := by decide +kernel
theorem dX8_put_1 : decode cX8_put 1 = .ok (.aload_n 0, 1) := by decide +kernel
theorem dX8_put_2 : decode cX8_put 2 = .ok (.getfield 256, 3) := by decide +kernel
theorem dX8_put_5 : decode cX8_put 5 = .ok (.ifCond .ne 7, 3) := by decide +kernel
theorem dX8_put_8 : decode cX8_put 8 = .ok (.iload_n 1, 1) := by decide +kernel
theorem dX8_put_9 : decode cX8_put 9 = .ok (.goto 7, 3) := by decide +kernel
theorem dX8_put_12 : decode cX8_put 12 = .ok (.aload_n 0, 1) := by decide +kernel
theorem dX8_put_13 : decode cX8_put 13 = .ok (.getfield 259, 3) := by decide +kernel
theorem dX8_put_16 : decode cX8_put 16 = .ok (.putfield 259, 3) := by decide +kernel
theorem dX8_put_19 : decode cX8_put 19 = .ok (.aload_n 0, 1) := by decide +kernel
theorem dX8_put_20 : decode cX8_put 20 = .ok (.dup, 1) := by decide +kernel
theorem dX8_put_21 : decode cX8_put 21 = .ok (.getfield 256, 3) := by decide +kernel
theorem dX8_put_24 : decode cX8_put 24 = .ok (.iconst 1, 1) := by decide +kernel
theorem dX8_put_25 : decode cX8_put 25 = .ok (.isub, 1) := by decide +kernel
theorem dX8_put_26 : decode cX8_put 26 = .ok (.putfield 256, 3) := by decide +kernel
theorem dX8_put_29 : decode cX8_put 29 = .ok (.return_, 1) := by decide +kernel
set_option maxRecDepth 20000 in
theorem ggX8_putNumber_X8_tenTo : GoodIn wsX8_putNumber wsX8_tenTo := goodIn_r _ [5, 1] (by decide +kernel) (by decide +kernel)
set_option maxRecDepth 20000 in
theorem gX8_putNumber_X8_tenTo : GoodIn wsX8_putNumber (va_wsS RX8 262 yX8_tenTo wsX8_tenTo) := goodIn_app (goodIn_of _ (by decide +kernel)) ggX8_putNumber_X8_tenTo
set_option maxRecDepth 20000 in
theorem ggX8_putNumber_X8_put : GoodIn wsX8_putNumber wsX8_put := goodIn_r _ [9, 10, 11, 12, 13, 14, 15, 16, 17, 18, 19, 20, 21, 22, 23, 24, 25, 26, 27, 28] (by decide +kernel) (by decide +kernel)
set_option maxRecDepth 20000 in
theorem gX8_putNumber_X8_put : GoodIn wsX8_putNumber (wsV RX8 266 RX8 yX8_put wsX8_put) := goodIn_app (goodIn_of _ (by decide +kernel)) ggX8_putNumber_X8_put
theorem dX8_putNumber_0 : decode cX8_putNumber 0 = .ok (.iconst 1, 1) := by decide +kernel
theorem dX8_putNumber_1 : decode cX8_putNumber 1 = .ok (.istore_n 2, 1) := by decide +kernel
theorem dX8_putNumber_2 : decode cX8_putNumber 2 = .ok (.iload_n 1, 1) := by decide +kernel
theorem dX8_putNumber_3 : decode cX8_putNumber 3 = .ok (.i2l, 1) := by decide +kernel
theorem dX8_putNumber_4 : decode cX8_putNumber 4 = .ok (.iload_n 2, 1) := by decide +kernel
theorem dX8_putNumber_5 : decode cX8_putNumber 5 = .ok (.invokestatic 262, 3) := by decide +kernel
theorem dX8_putNumber_8 : decode cX8_putNumber 8 = .ok (.lcmp, 1) := by decide +kernel
theorem dX8_putNumber_9 : decode cX8_putNumber 9 = .ok (.ifCond .lt 9, 3) := by decide +kernel
theorem dX8_putNumber_12 : decode cX8_putNumber 12 = .ok (.iinc 2 1, 3) := by decide +kernel
theorem dX8_putNumber_15 : decode cX8_putNumber 15 = .ok (.goto (-13), 3) := by decide +kernel
theorem dX8_putNumber_18 : decode cX8_putNumber 18 = .ok (.iload_n 2, 1) := by decide +kernel
theorem dX8_putNumber_19 : decode cX8_putNumber 19 = .ok (.iconst 1, 1) := by decide +kernel
theorem dX8_putNumber_20 : decode cX8_putNumber 20 = .ok (.isub, 1) := by decide +kernel
theorem dX8_putNumber_21 : decode cX8_putNumber 21 = .ok (.istore_n 3, 1) := by decide +kernel
theorem dX8_putNumber_22 : decode cX8_putNumber 22 = .ok (.iload_n 3, 1) := by decide +kernel
theorem dX8_putNumber_23 : decode cX8_putNumber 23 = .ok (.ifCond .lt 28, 3) := by decide +kernel
theorem dX8_putNumber_26 : decode cX8_putNumber 26 = .ok (.aload_n 0, 1) := by decide +kernel
theorem dX8_putNumber_27 : decode cX8_putNumber 27 = .ok (.bipush 48, 2) := by decide +kernel
theorem dX8_putNumber_29 : decode cX8_putNumber 29 = .ok (.iload_n 1, 1) := by decide +kernel
theorem dX8_putNumber_30 : decode cX8_putNumber 30 = .ok (.i2l, 1) := by decide +kernel
theorem dX8_putNumber_31 : decode cX8_putNumber 31 = .ok (.iload_n 3, 1) := by decide +kernel
theorem dX8_putNumber_32 : decode cX8_putNumber 32 = .ok (.invokestatic 262, 3) := by decide +kernel
theorem dX8_putNumber_35 : decode cX8_putNumber 35 = .ok (.ldiv, 1) := by decide +kernel
theorem dX8_putNumber_36 : decode cX8_putNumber 36 = .ok (.ldc2_w 43, 3) := by decide +kernel
theorem dX8_putNumber_39 : decode cX8_putNumber 39 = .ok (.lrem, 1) := by decide +kernel
theorem dX8_putNumber_40 : decode cX8_putNumber 40 = .ok (.l2i, 1) := by decide +kernel
theorem dX8_putNumber_41 : decode cX8_putNumber 41 = .ok (.iadd, 1) := by decide +kernel
theorem dX8_putNumber_42 : decode cX8_putNumber 42 = .ok (.invokevirtual 266, 3) := by decide +kernel
theorem dX8_putNumber_45 : decode cX8_putNumber 45 = .ok (.iinc 3 (-1), 3) := by decide +kernel
theorem dX8_putNumber_48 : decode cX8_putNumber 48 = .ok (.goto (-26), 3) := by decide +kernel
theorem dX8_putNumber_51 : decode cX8_putNumber 51 = .ok (.return_, 1) := by decide +kernel
set_option maxRecDepth 20000 in
theorem ggX8_putTwo_X8_put : GoodIn wsX8_putTwo wsX8_put := goodIn_r _ [5, 6, 7, 8, 9, 10, 11, 12, 13, 14, 15, 16, 17, 18, 19, 20, 21, 22, 23, 24] (by decide +kernel) (by decide +kernel)
set_option maxRecDepth 20000 in
theorem gX8_putTwo_X8_put : GoodIn wsX8_putTwo (wsV RX8 266 RX8 yX8_put wsX8_put) := goodIn_app (goodIn_of _ (by decide +kernel)) ggX8_putTwo_X8_put
theorem dX8_putTwo_0 : decode cX8_putTwo 0 = .ok (.aload_n 0, 1) := by decide +kernel
theorem dX8_putTwo_1 : decode cX8_putTwo 1 = .ok (.iload_n 1, 1) := by decide +kernel
theorem dX8_putTwo_2 : decode cX8_putTwo 2 = .ok (.invokevirtual 266, 3) := by decide +kernel
theorem dX8_putTwo_5 : decode cX8_putTwo 5 = .ok (.aload_n 0, 1) := by decide +kernel
theorem dX8_putTwo_6 : decode cX8_putTwo 6 = .ok (.iload_n 2, 1) := by decide +kernel
theorem dX8_putTwo_7 : decode cX8_putTwo 7 = .ok (.invokevirtual 266, 3) := by decide +kernel
theorem dX8_putTwo_10 : decode cX8_putTwo 10 = .ok (.return_, 1) := by decide +kernel
set_option maxRecDepth 20000 in
theorem ggX8_line_X8_isBooking : GoodIn wsX8_line wsX8_isBooking := goodIn_r _ [8, 1, 9, 10, 7, 11, 48, 49, 50, 51, 52, 53, 54, 55, 56, 57, 58, 59, 60, 61, 62, 63, 64] (by decide +kernel) (by decide +kernel)
set_option maxRecDepth 20000 in
theorem gX8_line_X8_isBooking : GoodIn wsX8_line (wsV RX8 251 RX8 yX8_isBooking wsX8_isBooking) := goodIn_app (goodIn_of _ (by decide +kernel)) ggX8_line_X8_isBooking
set_option maxRecDepth 20000 in
theorem ggX8_line_X8_refused : GoodIn wsX8_line wsX8_refused := goodIn_r _ [15, 16, 48, 49, 50, 51, 52, 53, 54, 55, 56, 57, 58, 59, 60, 61, 62, 63, 64] (by decide +kernel) (by decide +kernel)
set_option maxRecDepth 20000 in
theorem gX8_line_X8_refused : GoodIn wsX8_line (wsV RX8 151 RX8 yX8_refused wsX8_refused) := goodIn_app (goodIn_of _ (by decide +kernel)) ggX8_line_X8_refused
set_option maxRecDepth 20000 in
theorem ggX8_line_X8_bookingAt : GoodIn wsX8_line wsX8_bookingAt := goodIn_r _ [19] (by decide +kernel) (by decide +kernel)
set_option maxRecDepth 20000 in
theorem gX8_line_X8_bookingAt : GoodIn wsX8_line (va_wsS RX8 62 yX8_bookingAt wsX8_bookingAt) := goodIn_app (goodIn_of _ (by decide +kernel)) ggX8_line_X8_bookingAt
set_option maxRecDepth 20000 in
theorem ggX8_line_X8_putNumber : GoodIn wsX8_line wsX8_putNumber := goodIn_r _ [23, 24, 25, 26, 7, 27, 28, 29, 30, 31, 2, 3, 48, 49, 50, 51, 52, 53, 54, 55, 56, 57, 58, 59, 60, 61, 62, 63, 64] (by decide +kernel) (by decide +kernel)
set_option maxRecDepth 20000 in
theorem gX8_line_X8_putNumber : GoodIn wsX8_line (wsV RX8 269 RX8 yX8_putNumber wsX8_putNumber) := goodIn_app (goodIn_of _ (by decide +kernel)) ggX8_line_X8_putNumber
set_option maxRecDepth 20000 in
theorem ggX8_line_X8_put : GoodIn wsX8_line wsX8_put := goodIn_r _ [31, 2, 3, 48, 49, 50, 51, 52, 53, 54, 55, 56, 57, 58, 59, 60, 61, 62, 63, 64] (by decide +kernel) (by decide +kernel)
set_option maxRecDepth 20000 in
theorem gX8_line_X8_put : GoodIn wsX8_line (wsV RX8 266 RX8 yX8_put wsX8_put) := goodIn_app (goodIn_of _ (by decide +kernel)) ggX8_line_X8_put
set_option maxRecDepth 20000 in
theorem ggX8_line_X8_putTwo : GoodIn wsX8_line wsX8_putTwo := goodIn_r _ [35, 28, 29, 30, 7, 31, 2, 3, 48, 49, 50, 51, 52, 53, 54, 55, 56, 57, 58, 59, 60, 61, 62, 63, 64] (by decide +kernel) (by decide +kernel)
set_option maxRecDepth 20000 in
theorem gX8_line_X8_putTwo : GoodIn wsX8_line (wsV RX8 272 RX8 yX8_putTwo wsX8_putTwo) := goodIn_app (goodIn_of _ (by decide +kernel)) ggX8_line_X8_putTwo
set_option maxRecDepth 20000 in
theorem ggX8_line_X8_isBanned : GoodIn wsX8_line wsX8_isBanned := goodIn_r _ [38, 39, 40, 7, 41] (by decide +kernel) (by decide +kernel)
set_option maxRecDepth 20000 in
theorem gX8_line_X8_isBanned : GoodIn wsX8_line (va_wsS RX8 76 yX8_isBanned wsX8_isBanned) := goodIn_app (goodIn_of _ (by decide +kernel)) ggX8_line_X8_isBanned
set_option maxRecDepth 20000 in
theorem ggX8_line_X8_isLost : GoodIn wsX8_line wsX8_isLost := goodIn_r _ [44, 45, 46, 7, 47] (by decide +kernel) (by decide +kernel)
set_option maxRecDepth 20000 in
theorem gX8_line_X8_isLost : GoodIn wsX8_line (va_wsS RX8 73 yX8_isLost wsX8_isLost) := goodIn_app (goodIn_of _ (by decide +kernel)) ggX8_line_X8_isLost
theorem dX8_line_0 : decode cX8_line 0 = .ok (.aload_n 0, 1) := by decide +kernel
theorem dX8_line_1 : decode cX8_line 1 = .ok (.aload_n 0, 1) := by decide +kernel
theorem dX8_line_2 : decode cX8_line 2 = .ok (.iload_n 1, 1) := by decide +kernel
theorem dX8_line_3 : decode cX8_line 3 = .ok (.invokevirtual 251, 3) := by decide +kernel
theorem dX8_line_6 : decode cX8_line 6 = .ok (.ifCond .ne 7, 3) := by decide +kernel
theorem dX8_line_9 : decode cX8_line 9 = .ok (.iconst 1, 1) := by decide +kernel
theorem dX8_line_10 : decode cX8_line 10 = .ok (.goto 12, 3) := by decide +kernel
theorem dX8_line_13 : decode cX8_line 13 = .ok (.iload_n 2, 1) := by decide +kernel
theorem dX8_line_14 : decode cX8_line 14 = .ok (.ifCond .ge 7, 3) := by decide +kernel
theorem dX8_line_17 : decode cX8_line 17 = .ok (.iconst 2, 1) := by decide +kernel
theorem dX8_line_18 : decode cX8_line 18 = .ok (.goto 4, 3) := by decide +kernel
theorem dX8_line_21 : decode cX8_line 21 = .ok (.iconst 0, 1) := by decide +kernel
theorem dX8_line_22 : decode cX8_line 22 = .ok (.invokevirtual 151, 3) := by decide +kernel
theorem dX8_line_25 : decode cX8_line 25 = .ok (.ifCond .eq 5, 3) := by decide +kernel
theorem dX8_line_28 : decode cX8_line 28 = .ok (.iconst 0, 1) := by decide +kernel
theorem dX8_line_29 : decode cX8_line 29 = .ok (.ireturn, 1) := by decide +kernel
theorem dX8_line_30 : decode cX8_line 30 = .ok (.aload_n 0, 1) := by decide +kernel
theorem dX8_line_31 : decode cX8_line 31 = .ok (.getfield 16, 3) := by decide +kernel
theorem dX8_line_34 : decode cX8_line 34 = .ok (.iload_n 1, 1) := by decide +kernel
theorem dX8_line_35 : decode cX8_line 35 = .ok (.iconst 0, 1) := by decide +kernel
theorem dX8_line_36 : decode cX8_line 36 = .ok (.invokestatic 62, 3) := by decide +kernel
theorem dX8_line_39 : decode cX8_line 39 = .ok (.iaload, 1) := by decide +kernel
theorem dX8_line_40 : decode cX8_line 40 = .ok (.istore_n 3, 1) := by decide +kernel
theorem dX8_line_41 : decode cX8_line 41 = .ok (.aload_n 0, 1) := by decide +kernel
theorem dX8_line_42 : decode cX8_line 42 = .ok (.getfield 16, 3) := by decide +kernel
theorem dX8_line_45 : decode cX8_line 45 = .ok (.iload_n 1, 1) := by decide +kernel
theorem dX8_line_46 : decode cX8_line 46 = .ok (.iconst 3, 1) := by decide +kernel
theorem dX8_line_47 : decode cX8_line 47 = .ok (.invokestatic 62, 3) := by decide +kernel
theorem dX8_line_50 : decode cX8_line 50 = .ok (.iaload, 1) := by decide +kernel
theorem dX8_line_51 : decode cX8_line 51 = .ok (.istore 4, 2) := by decide +kernel
theorem dX8_line_53 : decode cX8_line 53 = .ok (.aload_n 0, 1) := by decide +kernel
theorem dX8_line_54 : decode cX8_line 54 = .ok (.getfield 16, 3) := by decide +kernel
theorem dX8_line_57 : decode cX8_line 57 = .ok (.iload_n 1, 1) := by decide +kernel
theorem dX8_line_58 : decode cX8_line 58 = .ok (.iconst 4, 1) := by decide +kernel
theorem dX8_line_59 : decode cX8_line 59 = .ok (.invokestatic 62, 3) := by decide +kernel
theorem dX8_line_62 : decode cX8_line 62 = .ok (.iaload, 1) := by decide +kernel
theorem dX8_line_63 : decode cX8_line 63 = .ok (.istore 5, 2) := by decide +kernel
theorem dX8_line_65 : decode cX8_line 65 = .ok (.aload_n 0, 1) := by decide +kernel
theorem dX8_line_66 : decode cX8_line 66 = .ok (.iload_n 2, 1) := by decide +kernel
theorem dX8_line_67 : decode cX8_line 67 = .ok (.putfield 256, 3) := by decide +kernel
theorem dX8_line_70 : decode cX8_line 70 = .ok (.aload_n 0, 1) := by decide +kernel
theorem dX8_line_71 : decode cX8_line 71 = .ok (.iconst (-1), 1) := by decide +kernel
theorem dX8_line_72 : decode cX8_line 72 = .ok (.putfield 259, 3) := by decide +kernel
theorem dX8_line_75 : decode cX8_line 75 = .ok (.aload_n 0, 1) := by decide +kernel
theorem dX8_line_76 : decode cX8_line 76 = .ok (.iload_n 3, 1) := by decide +kernel
theorem dX8_line_77 : decode cX8_line 77 = .ok (.invokevirtual 269, 3) := by decide +kernel
theorem dX8_line_80 : decode cX8_line 80 = .ok (.aload_n 0, 1) := by decide +kernel
theorem dX8_line_81 : decode cX8_line 81 = .ok (.bipush 100, 2) := by decide +kernel
theorem dX8_line_83 : decode cX8_line 83 = .ok (.invokevirtual 266, 3) := by decide +kernel
theorem dX8_line_86 : decode cX8_line 86 = .ok (.aload_n 0, 1) := by decide +kernel
theorem dX8_line_87 : decode cX8_line 87 = .ok (.aload_n 0, 1) := by decide +kernel
theorem dX8_line_88 : decode cX8_line 88 = .ok (.getfield 16, 3) := by decide +kernel
theorem dX8_line_91 : decode cX8_line 91 = .ok (.iload_n 1, 1) := by decide +kernel
theorem dX8_line_92 : decode cX8_line 92 = .ok (.iconst 1, 1) := by decide +kernel
theorem dX8_line_93 : decode cX8_line 93 = .ok (.invokestatic 62, 3) := by decide +kernel
theorem dX8_line_96 : decode cX8_line 96 = .ok (.iaload, 1) := by decide +kernel
theorem dX8_line_97 : decode cX8_line 97 = .ok (.invokevirtual 269, 3) := by decide +kernel
theorem dX8_line_100 : decode cX8_line 100 = .ok (.aload_n 0, 1) := by decide +kernel
theorem dX8_line_101 : decode cX8_line 101 = .ok (.bipush 104, 2) := by decide +kernel
theorem dX8_line_103 : decode cX8_line 103 = .ok (.invokevirtual 266, 3) := by decide +kernel
theorem dX8_line_106 : decode cX8_line 106 = .ok (.aload_n 0, 1) := by decide +kernel
theorem dX8_line_107 : decode cX8_line 107 = .ok (.aload_n 0, 1) := by decide +kernel
theorem dX8_line_108 : decode cX8_line 108 = .ok (.getfield 16, 3) := by decide +kernel
theorem dX8_line_111 : decode cX8_line 111 = .ok (.iload_n 1, 1) := by decide +kernel
theorem dX8_line_112 : decode cX8_line 112 = .ok (.iconst 2, 1) := by decide +kernel
theorem dX8_line_113 : decode cX8_line 113 = .ok (.invokestatic 62, 3) := by decide +kernel
theorem dX8_line_116 : decode cX8_line 116 = .ok (.iaload, 1) := by decide +kernel
theorem dX8_line_117 : decode cX8_line 117 = .ok (.invokevirtual 269, 3) := by decide +kernel
theorem dX8_line_120 : decode cX8_line 120 = .ok (.aload_n 0, 1) := by decide +kernel
theorem dX8_line_121 : decode cX8_line 121 = .ok (.bipush 32, 2) := by decide +kernel
theorem dX8_line_123 : decode cX8_line 123 = .ok (.bipush 112, 2) := by decide +kernel
theorem dX8_line_125 : decode cX8_line 125 = .ok (.invokevirtual 272, 3) := by decide +kernel
theorem dX8_line_128 : decode cX8_line 128 = .ok (.aload_n 0, 1) := by decide +kernel
theorem dX8_line_129 : decode cX8_line 129 = .ok (.iload 4, 2) := by decide +kernel
theorem dX8_line_131 : decode cX8_line 131 = .ok (.invokevirtual 269, 3) := by decide +kernel
theorem dX8_line_134 : decode cX8_line 134 = .ok (.aload_n 0, 1) := by decide +kernel
theorem dX8_line_135 : decode cX8_line 135 = .ok (.bipush 32, 2) := by decide +kernel
theorem dX8_line_137 : decode cX8_line 137 = .ok (.bipush 118, 2) := by decide +kernel
theorem dX8_line_139 : decode cX8_line 139 = .ok (.invokevirtual 272, 3) := by decide +kernel
theorem dX8_line_142 : decode cX8_line 142 = .ok (.aload_n 0, 1) := by decide +kernel
theorem dX8_line_143 : decode cX8_line 143 = .ok (.iload 5, 2) := by decide +kernel
theorem dX8_line_145 : decode cX8_line 145 = .ok (.invokevirtual 269, 3) := by decide +kernel
theorem dX8_line_148 : decode cX8_line 148 = .ok (.aload_n 0, 1) := by decide +kernel
theorem dX8_line_149 : decode cX8_line 149 = .ok (.getfield 16, 3) := by decide +kernel
theorem dX8_line_152 : decode cX8_line 152 = .ok (.iload_n 1, 1) := by decide +kernel
theorem dX8_line_153 : decode cX8_line 153 = .ok (.iconst 5, 1) := by decide +kernel
theorem dX8_line_154 : decode cX8_line 154 = .ok (.invokestatic 62, 3) := by decide +kernel
theorem dX8_line_157 : decode cX8_line 157 = .ok (.iaload, 1) := by decide +kernel
theorem dX8_line_158 : decode cX8_line 158 = .ok (.ifCond .le 23, 3) := by decide +kernel
theorem dX8_line_161 : decode cX8_line 161 = .ok (.aload_n 0, 1) := by decide +kernel
theorem dX8_line_162 : decode cX8_line 162 = .ok (.bipush 43, 2) := by decide +kernel
theorem dX8_line_164 : decode cX8_line 164 = .ok (.invokevirtual 266, 3) := by decide +kernel
theorem dX8_line_167 : decode cX8_line 167 = .ok (.aload_n 0, 1) := by decide +kernel
theorem dX8_line_168 : decode cX8_line 168 = .ok (.aload_n 0, 1) := by decide +kernel
theorem dX8_line_169 : decode cX8_line 169 = .ok (.getfield 16, 3) := by decide +kernel
theorem dX8_line_172 : decode cX8_line 172 = .ok (.iload_n 1, 1) := by decide +kernel
theorem dX8_line_173 : decode cX8_line 173 = .ok (.iconst 5, 1) := by decide +kernel
theorem dX8_line_174 : decode cX8_line 174 = .ok (.invokestatic 62, 3) := by decide +kernel
theorem dX8_line_177 : decode cX8_line 177 = .ok (.iaload, 1) := by decide +kernel
theorem dX8_line_178 : decode cX8_line 178 = .ok (.invokevirtual 269, 3) := by decide +kernel
theorem dX8_line_181 : decode cX8_line 181 = .ok (.aload_n 0, 1) := by decide +kernel
theorem dX8_line_182 : decode cX8_line 182 = .ok (.getfield 16, 3) := by decide +kernel
theorem dX8_line_185 : decode cX8_line 185 = .ok (.iload 5, 2) := by decide +kernel
theorem dX8_line_187 : decode cX8_line 187 = .ok (.iload_n 3, 1) := by decide +kernel
theorem dX8_line_188 : decode cX8_line 188 = .ok (.invokestatic 76, 3) := by decide +kernel
theorem dX8_line_191 : decode cX8_line 191 = .ok (.ifCond .ne 16, 3) := by decide +kernel
theorem dX8_line_194 : decode cX8_line 194 = .ok (.aload_n 0, 1) := by decide +kernel
theorem dX8_line_195 : decode cX8_line 195 = .ok (.getfield 16, 3) := by decide +kernel
theorem dX8_line_198 : decode cX8_line 198 = .ok (.iload 4, 2) := by decide +kernel
theorem dX8_line_200 : decode cX8_line 200 = .ok (.iload_n 3, 1) := by decide +kernel
theorem dX8_line_201 : decode cX8_line 201 = .ok (.invokestatic 73, 3) := by decide +kernel
theorem dX8_line_204 : decode cX8_line 204 = .ok (.ifCond .eq 9, 3) := by decide +kernel
theorem dX8_line_207 : decode cX8_line 207 = .ok (.aload_n 0, 1) := by decide +kernel
theorem dX8_line_208 : decode cX8_line 208 = .ok (.bipush 33, 2) := by decide +kernel
theorem dX8_line_210 : decode cX8_line 210 = .ok (.invokevirtual 266, 3) := by decide +kernel
theorem dX8_line_213 : decode cX8_line 213 = .ok (.aload_n 0, 1) := by decide +kernel
theorem dX8_line_214 : decode cX8_line 214 = .ok (.getfield 259, 3) := by decide +kernel
theorem dX8_line_217 : decode cX8_line 217 = .ok (.ireturn, 1) := by decide +kernel
set_option maxRecDepth 20000 in
theorem ggX8_wishAt_X8_refused : GoodIn wsX8_wishAt wsX8_refused := goodIn_r _ [7, 8, 19, 20, 21, 22, 23, 24, 25, 26, 27, 28, 29, 30, 31, 32, 33, 34, 35] (by decide +kernel) (by decide +kernel)
set_option maxRecDepth 20000 in
theorem gX8_wishAt_X8_refused : GoodIn wsX8_wishAt (wsV RX8 151 RX8 yX8_refused wsX8_refused) := goodIn_app (goodIn_of _ (by decide +kernel)) ggX8_wishAt_X8_refused
set_option maxRecDepth 20000 in
theorem ggX8_wishAt_X8_layTurns : GoodIn wsX8_wishAt wsX8_layTurns := goodIn_r _ [12, 2, 13, 14, 6, 15, 16, 17, 18, 19, 20, 21, 22, 23, 24, 25, 26, 27, 28, 29, 30, 31, 32, 33, 34, 35] (by decide +kernel) (by decide +kernel)
set_option maxRecDepth 20000 in
theorem gX8_wishAt_X8_layTurns : GoodIn wsX8_wishAt (wsV RX8 104 RX8 yX8_layTurns wsX8_layTurns) := goodIn_app (goodIn_of _ (by decide +kernel)) ggX8_wishAt_X8_layTurns
theorem dX8_wishAt_0 : decode cX8_wishAt 0 = .ok (.aload_n 0, 1) := by decide +kernel
theorem dX8_wishAt_1 : decode cX8_wishAt 1 = .ok (.iload_n 1, 1) := by decide +kernel
theorem dX8_wishAt_2 : decode cX8_wishAt 2 = .ok (.ifCond .ge 7, 3) := by decide +kernel
theorem dX8_wishAt_5 : decode cX8_wishAt 5 = .ok (.iconst 1, 1) := by decide +kernel
theorem dX8_wishAt_6 : decode cX8_wishAt 6 = .ok (.goto 4, 3) := by decide +kernel
theorem dX8_wishAt_9 : decode cX8_wishAt 9 = .ok (.iconst 0, 1) := by decide +kernel
theorem dX8_wishAt_10 : decode cX8_wishAt 10 = .ok (.invokevirtual 151, 3) := by decide +kernel
theorem dX8_wishAt_13 : decode cX8_wishAt 13 = .ok (.ifCond .eq 5, 3) := by decide +kernel
theorem dX8_wishAt_16 : decode cX8_wishAt 16 = .ok (.iconst 0, 1) := by decide +kernel
theorem dX8_wishAt_17 : decode cX8_wishAt 17 = .ok (.ireturn, 1) := by decide +kernel
theorem dX8_wishAt_18 : decode cX8_wishAt 18 = .ok (.aload_n 0, 1) := by decide +kernel
theorem dX8_wishAt_19 : decode cX8_wishAt 19 = .ok (.aload_n 0, 1) := by decide +kernel
theorem dX8_wishAt_20 : decode cX8_wishAt 20 = .ok (.getfield 16, 3) := by decide +kernel
theorem dX8_wishAt_23 : decode cX8_wishAt 23 = .ok (.invokevirtual 104, 3) := by decide +kernel
theorem dX8_wishAt_26 : decode cX8_wishAt 26 = .ok (.iload_n 1, 1) := by decide +kernel
theorem dX8_wishAt_27 : decode cX8_wishAt 27 = .ok (.aload_n 0, 1) := by decide +kernel
theorem dX8_wishAt_28 : decode cX8_wishAt 28 = .ok (.getfield 16, 3) := by decide +kernel
theorem dX8_wishAt_31 : decode cX8_wishAt 31 = .ok (.iconst 3, 1) := by decide +kernel
theorem dX8_wishAt_32 : decode cX8_wishAt 32 = .ok (.iaload, 1) := by decide +kernel
theorem dX8_wishAt_33 : decode cX8_wishAt 33 = .ok (.if_icmp .ge 21, 3) := by decide +kernel
theorem dX8_wishAt_36 : decode cX8_wishAt 36 = .ok (.aload_n 0, 1) := by decide +kernel
theorem dX8_wishAt_37 : decode cX8_wishAt 37 = .ok (.getfield 16, 3) := by decide +kernel
theorem dX8_wishAt_40 : decode cX8_wishAt 40 = .ok (.sipush 261, 3) := by decide +kernel
theorem dX8_wishAt_43 : decode cX8_wishAt 43 = .ok (.aload_n 0, 1) := by decide +kernel
theorem dX8_wishAt_44 : decode cX8_wishAt 44 = .ok (.getfield 32, 3) := by decide +kernel
theorem dX8_wishAt_47 : decode cX8_wishAt 47 = .ok (.iload_n 1, 1) := by decide +kernel
theorem dX8_wishAt_48 : decode cX8_wishAt 48 = .ok (.iaload, 1) := by decide +kernel
theorem dX8_wishAt_49 : decode cX8_wishAt 49 = .ok (.iadd, 1) := by decide +kernel
theorem dX8_wishAt_50 : decode cX8_wishAt 50 = .ok (.iaload, 1) := by decide +kernel
theorem dX8_wishAt_51 : decode cX8_wishAt 51 = .ok (.goto 4, 3) := by decide +kernel
theorem dX8_wishAt_54 : decode cX8_wishAt 54 = .ok (.iconst (-1), 1) := by decide +kernel
theorem dX8_wishAt_55 : decode cX8_wishAt 55 = .ok (.ireturn, 1) := by decide +kernel
set_option maxRecDepth 20000 in
theorem ggX8_setting_X8_in : GoodIn wsX8_setting wsX8_in := goodIn_r _ [6] (by decide +kernel) (by decide +kernel)
set_option maxRecDepth 20000 in
theorem gX8_setting_X8_in : GoodIn wsX8_setting (va_wsS RX8 140 yX8_in wsX8_in) := goodIn_app (goodIn_of _ (by decide +kernel)) ggX8_setting_X8_in
set_option maxRecDepth 20000 in
theorem ggX8_setting_X8_refused : GoodIn wsX8_setting wsX8_refused := goodIn_r _ [10, 11, 12, 13, 14, 15, 16, 17, 18, 19, 20, 21, 22, 23, 24, 25, 26, 27, 28] (by decide +kernel) (by decide +kernel)
set_option maxRecDepth 20000 in
theorem gX8_setting_X8_refused : GoodIn wsX8_setting (wsV RX8 151 RX8 yX8_refused wsX8_refused) := goodIn_app (goodIn_of _ (by decide +kernel)) ggX8_setting_X8_refused
theorem dX8_setting_0 : decode cX8_setting 0 = .ok (.aload_n 0, 1) := by decide +kernel
theorem dX8_setting_1 : decode cX8_setting 1 = .ok (.iload_n 1, 1) := by decide +kernel
theorem dX8_setting_2 : decode cX8_setting 2 = .ok (.i2l, 1) := by decide +kernel
theorem dX8_setting_3 : decode cX8_setting 3 = .ok (.lconst 0, 1) := by decide +kernel
theorem dX8_setting_4 : decode cX8_setting 4 = .ok (.ldc2_w 254, 3) := by decide +kernel
theorem dX8_setting_7 : decode cX8_setting 7 = .ok (.invokestatic 140, 3) := by decide +kernel
theorem dX8_setting_10 : decode cX8_setting 10 = .ok (.ifCond .eq 7, 3) := by decide +kernel
theorem dX8_setting_13 : decode cX8_setting 13 = .ok (.iconst 0, 1) := by decide +kernel
theorem dX8_setting_14 : decode cX8_setting 14 = .ok (.goto 4, 3) := by decide +kernel
theorem dX8_setting_17 : decode cX8_setting 17 = .ok (.iconst 1, 1) := by decide +kernel
theorem dX8_setting_18 : decode cX8_setting 18 = .ok (.invokevirtual 151, 3) := by decide +kernel
theorem dX8_setting_21 : decode cX8_setting 21 = .ok (.ifCond .eq 5, 3) := by decide +kernel
theorem dX8_setting_24 : decode cX8_setting 24 = .ok (.iconst 0, 1) := by decide +kernel
theorem dX8_setting_25 : decode cX8_setting 25 = .ok (.ireturn, 1) := by decide +kernel
theorem dX8_setting_26 : decode cX8_setting 26 = .ok (.aload_n 0, 1) := by decide +kernel
theorem dX8_setting_27 : decode cX8_setting 27 = .ok (.getfield 16, 3) := by decide +kernel
theorem dX8_setting_30 : decode cX8_setting 30 = .ok (.bipush 9, 2) := by decide +kernel
theorem dX8_setting_32 : decode cX8_setting 32 = .ok (.iload_n 1, 1) := by decide +kernel
theorem dX8_setting_33 : decode cX8_setting 33 = .ok (.iadd, 1) := by decide +kernel
theorem dX8_setting_34 : decode cX8_setting 34 = .ok (.iaload, 1) := by decide +kernel
theorem dX8_setting_35 : decode cX8_setting 35 = .ok (.ireturn, 1) := by decide +kernel
set_option maxRecDepth 20000 in
theorem ggX8_isRank_X8_in : GoodIn wsX8_isRank wsX8_in := goodIn_r _ [5] (by decide +kernel) (by decide +kernel)
set_option maxRecDepth 20000 in
theorem gX8_isRank_X8_in : GoodIn wsX8_isRank (va_wsS RX8 140 yX8_in wsX8_in) := goodIn_app (goodIn_of _ (by decide +kernel)) ggX8_isRank_X8_in
theorem dX8_isRank_0 : decode cX8_isRank 0 = .ok (.iload_n 0, 1) := by decide +kernel
theorem dX8_isRank_1 : decode cX8_isRank 1 = .ok (.i2l, 1) := by decide +kernel
theorem dX8_isRank_2 : decode cX8_isRank 2 = .ok (.lconst 0, 1) := by decide +kernel
theorem dX8_isRank_3 : decode cX8_isRank 3 = .ok (.ldc2_w 276, 3) := by decide +kernel
theorem dX8_isRank_6 : decode cX8_isRank 6 = .ok (.invokestatic 140, 3) := by decide +kernel
theorem dX8_isRank_9 : decode cX8_isRank 9 = .ok (.ireturn, 1) := by decide +kernel
set_option maxRecDepth 20000 in
theorem ggX8_addPrisoner_X8_isRank : GoodIn wsX8_addPrisoner wsX8_isRank := goodIn_r _ [5, 6, 7, 8, 4, 9] (by decide +kernel) (by decide +kernel)
set_option maxRecDepth 20000 in
theorem gX8_addPrisoner_X8_isRank : GoodIn wsX8_addPrisoner (va_wsS RX8 278 yX8_isRank wsX8_isRank) := goodIn_app (goodIn_of _ (by decide +kernel)) ggX8_addPrisoner_X8_isRank
set_option maxRecDepth 20000 in
theorem ggX8_addPrisoner_X8_refused : GoodIn wsX8_addPrisoner wsX8_refused := goodIn_r _ [13, 14, 30, 31, 32, 33, 34, 35, 36, 37, 38, 39, 40, 41, 42, 43, 44, 45, 46] (by decide +kernel) (by decide +kernel)
set_option maxRecDepth 20000 in
theorem gX8_addPrisoner_X8_refused : GoodIn wsX8_addPrisoner (wsV RX8 151 RX8 yX8_refused wsX8_refused) := goodIn_app (goodIn_of _ (by decide +kernel)) ggX8_addPrisoner_X8_refused
set_option maxRecDepth 20000 in
theorem ggX8_addPrisoner_X8_remember : GoodIn wsX8_addPrisoner wsX8_remember := goodIn_r _ [18, 19, 20, 1, 21, 22, 4, 23, 30, 31, 32, 33, 34, 35, 36, 37, 38, 39, 40, 41, 42, 43, 44, 45, 46] (by decide +kernel) (by decide +kernel)
set_option maxRecDepth 20000 in
theorem gX8_addPrisoner_X8_remember : GoodIn wsX8_addPrisoner (wsV RX8 281 RX8 yX8_remember wsX8_remember) := goodIn_app (goodIn_of _ (by decide +kernel)) ggX8_addPrisoner_X8_remember
set_option maxRecDepth 20000 in
theorem ggX8_addPrisoner_X8_addIn : GoodIn wsX8_addPrisoner wsX8_addIn := goodIn_r _ [26, 27, 28, 4, 29] (by decide +kernel) (by decide +kernel)
set_option maxRecDepth 20000 in
theorem gX8_addPrisoner_X8_addIn : GoodIn wsX8_addPrisoner (va_wsS RX8 185 yX8_addIn wsX8_addIn) := goodIn_app (goodIn_of _ (by decide +kernel)) ggX8_addPrisoner_X8_addIn
theorem dX8_addPrisoner_0 : decode cX8_addPrisoner 0 = .ok (.aload_n 0, 1) := by decide +kernel
theorem dX8_addPrisoner_1 : decode cX8_addPrisoner 1 = .ok (.iload_n 1, 1) := by decide +kernel
theorem dX8_addPrisoner_2 : decode cX8_addPrisoner 2 = .ok (.invokestatic 278, 3) := by decide +kernel
theorem dX8_addPrisoner_5 : decode cX8_addPrisoner 5 = .ok (.ifCond .ne 7, 3) := by decide +kernel
theorem dX8_addPrisoner_8 : decode cX8_addPrisoner 8 = .ok (.iconst 1, 1) := by decide +kernel
theorem dX8_addPrisoner_9 : decode cX8_addPrisoner 9 = .ok (.goto 19, 3) := by decide +kernel
theorem dX8_addPrisoner_12 : decode cX8_addPrisoner 12 = .ok (.aload_n 0, 1) := by decide +kernel
theorem dX8_addPrisoner_13 : decode cX8_addPrisoner 13 = .ok (.getfield 16, 3) := by decide +kernel
theorem dX8_addPrisoner_16 : decode cX8_addPrisoner 16 = .ok (.iconst 1, 1) := by decide +kernel
theorem dX8_addPrisoner_17 : decode cX8_addPrisoner 17 = .ok (.iaload, 1) := by decide +kernel
theorem dX8_addPrisoner_18 : decode cX8_addPrisoner 18 = .ok (.bipush 8, 2) := by decide +kernel
theorem dX8_addPrisoner_20 : decode cX8_addPrisoner 20 = .ok (.if_icmp .ne 7, 3) := by decide +kernel
theorem dX8_addPrisoner_23 : decode cX8_addPrisoner 23 = .ok (.iconst 2, 1) := by decide +kernel
theorem dX8_addPrisoner_24 : decode cX8_addPrisoner 24 = .ok (.goto 4, 3) := by decide +kernel
theorem dX8_addPrisoner_27 : decode cX8_addPrisoner 27 = .ok (.iconst 0, 1) := by decide +kernel
theorem dX8_addPrisoner_28 : decode cX8_addPrisoner 28 = .ok (.invokevirtual 151, 3) := by decide +kernel
theorem dX8_addPrisoner_31 : decode cX8_addPrisoner 31 = .ok (.ifCond .eq 5, 3) := by decide +kernel
theorem dX8_addPrisoner_34 : decode cX8_addPrisoner 34 = .ok (.iconst 0, 1) := by decide +kernel
theorem dX8_addPrisoner_35 : decode cX8_addPrisoner 35 = .ok (.ireturn, 1) := by decide +kernel
theorem dX8_addPrisoner_36 : decode cX8_addPrisoner 36 = .ok (.aload_n 0, 1) := by decide +kernel
theorem dX8_addPrisoner_37 : decode cX8_addPrisoner 37 = .ok (.invokevirtual 281, 3) := by decide +kernel
theorem dX8_addPrisoner_40 : decode cX8_addPrisoner 40 = .ok (.aload_n 0, 1) := by decide +kernel
theorem dX8_addPrisoner_41 : decode cX8_addPrisoner 41 = .ok (.getfield 16, 3) := by decide +kernel
theorem dX8_addPrisoner_44 : decode cX8_addPrisoner 44 = .ok (.iload_n 1, 1) := by decide +kernel
theorem dX8_addPrisoner_45 : decode cX8_addPrisoner 45 = .ok (.invokestatic 185, 3) := by decide +kernel
theorem dX8_addPrisoner_48 : decode cX8_addPrisoner 48 = .ok (.ireturn, 1) := by decide +kernel
set_option maxRecDepth 20000 in
theorem ggX8_promote_X8_isPrisoner : GoodIn wsX8_promote wsX8_isPrisoner := goodIn_r _ [6, 1, 7, 8, 5, 9, 31, 32, 33, 34, 35, 36, 37, 38, 39, 40, 41, 42, 43, 44, 45, 46, 47] (by decide +kernel) (by decide +kernel)
set_option maxRecDepth 20000 in
theorem gX8_promote_X8_isPrisoner : GoodIn wsX8_promote (wsV RX8 233 RX8 yX8_isPrisoner wsX8_isPrisoner) := goodIn_app (goodIn_of _ (by decide +kernel)) ggX8_promote_X8_isPrisoner
set_option maxRecDepth 20000 in
theorem ggX8_promote_X8_isRank : GoodIn wsX8_promote wsX8_isRank := goodIn_r _ [12, 13, 7, 8, 5, 9] (by decide +kernel) (by decide +kernel)
set_option maxRecDepth 20000 in
theorem gX8_promote_X8_isRank : GoodIn wsX8_promote (va_wsS RX8 278 yX8_isRank wsX8_isRank) := goodIn_app (goodIn_of _ (by decide +kernel)) ggX8_promote_X8_isRank
set_option maxRecDepth 20000 in
theorem ggX8_promote_X8_refused : GoodIn wsX8_promote wsX8_refused := goodIn_r _ [17, 18, 31, 32, 33, 34, 35, 36, 37, 38, 39, 40, 41, 42, 43, 44, 45, 46, 47] (by decide +kernel) (by decide +kernel)
set_option maxRecDepth 20000 in
theorem gX8_promote_X8_refused : GoodIn wsX8_promote (wsV RX8 151 RX8 yX8_refused wsX8_refused) := goodIn_app (goodIn_of _ (by decide +kernel)) ggX8_promote_X8_refused
set_option maxRecDepth 20000 in
theorem ggX8_promote_X8_remember : GoodIn wsX8_promote wsX8_remember := goodIn_r _ [22, 23, 24, 1, 25, 26, 5, 27, 31, 32, 33, 34, 35, 36, 37, 38, 39, 40, 41, 42, 43, 44, 45, 46, 47] (by decide +kernel) (by decide +kernel)
set_option maxRecDepth 20000 in
theorem gX8_promote_X8_remember : GoodIn wsX8_promote (wsV RX8 281 RX8 yX8_remember wsX8_remember) := goodIn_app (goodIn_of _ (by decide +kernel)) ggX8_promote_X8_remember
set_option maxRecDepth 20000 in
theorem ggX8_promote_X8_prisonerAt : GoodIn wsX8_promote wsX8_prisonerAt := goodIn_r _ [30] (by decide +kernel) (by decide +kernel)
set_option maxRecDepth 20000 in
theorem gX8_promote_X8_prisonerAt : GoodIn wsX8_promote (va_wsS RX8 55 yX8_prisonerAt wsX8_prisonerAt) := goodIn_app (goodIn_of _ (by decide +kernel)) ggX8_promote_X8_prisonerAt
theorem dX8_promote_0 : decode cX8_promote 0 = .ok (.aload_n 0, 1) := by decide +kernel
theorem dX8_promote_1 : decode cX8_promote 1 = .ok (.aload_n 0, 1) := by decide +kernel
theorem dX8_promote_2 : decode cX8_promote 2 = .ok (.iload_n 1, 1) := by decide +kernel
theorem dX8_promote_3 : decode cX8_promote 3 = .ok (.invokevirtual 233, 3) := by decide +kernel
theorem dX8_promote_6 : decode cX8_promote 6 = .ok (.ifCond .ne 7, 3) := by decide +kernel
theorem dX8_promote_9 : decode cX8_promote 9 = .ok (.iconst 1, 1) := by decide +kernel
theorem dX8_promote_10 : decode cX8_promote 10 = .ok (.goto 15, 3) := by decide +kernel
theorem dX8_promote_13 : decode cX8_promote 13 = .ok (.iload_n 2, 1) := by decide +kernel
theorem dX8_promote_14 : decode cX8_promote 14 = .ok (.invokestatic 278, 3) := by decide +kernel
theorem dX8_promote_17 : decode cX8_promote 17 = .ok (.ifCond .eq 7, 3) := by decide +kernel
theorem dX8_promote_20 : decode cX8_promote 20 = .ok (.iconst 0, 1) := by decide +kernel
theorem dX8_promote_21 : decode cX8_promote 21 = .ok (.goto 4, 3) := by decide +kernel
theorem dX8_promote_24 : decode cX8_promote 24 = .ok (.iconst 2, 1) := by decide +kernel
theorem dX8_promote_25 : decode cX8_promote 25 = .ok (.invokevirtual 151, 3) := by decide +kernel
theorem dX8_promote_28 : decode cX8_promote 28 = .ok (.ifCond .eq 5, 3) := by decide +kernel
theorem dX8_promote_31 : decode cX8_promote 31 = .ok (.iconst 0, 1) := by decide +kernel
theorem dX8_promote_32 : decode cX8_promote 32 = .ok (.ireturn, 1) := by decide +kernel
theorem dX8_promote_33 : decode cX8_promote 33 = .ok (.aload_n 0, 1) := by decide +kernel
theorem dX8_promote_34 : decode cX8_promote 34 = .ok (.invokevirtual 281, 3) := by decide +kernel
theorem dX8_promote_37 : decode cX8_promote 37 = .ok (.aload_n 0, 1) := by decide +kernel
theorem dX8_promote_38 : decode cX8_promote 38 = .ok (.getfield 16, 3) := by decide +kernel
theorem dX8_promote_41 : decode cX8_promote 41 = .ok (.iload_n 1, 1) := by decide +kernel
theorem dX8_promote_42 : decode cX8_promote 42 = .ok (.iconst 0, 1) := by decide +kernel
theorem dX8_promote_43 : decode cX8_promote 43 = .ok (.invokestatic 55, 3) := by decide +kernel
theorem dX8_promote_46 : decode cX8_promote 46 = .ok (.iaload, 1) := by decide +kernel
theorem dX8_promote_47 : decode cX8_promote 47 = .ok (.istore_n 3, 1) := by decide +kernel
theorem dX8_promote_48 : decode cX8_promote 48 = .ok (.aload_n 0, 1) := by decide +kernel
theorem dX8_promote_49 : decode cX8_promote 49 = .ok (.getfield 16, 3) := by decide +kernel
theorem dX8_promote_52 : decode cX8_promote 52 = .ok (.iload_n 1, 1) := by decide +kernel
theorem dX8_promote_53 : decode cX8_promote 53 = .ok (.iconst 0, 1) := by decide +kernel
theorem dX8_promote_54 : decode cX8_promote 54 = .ok (.invokestatic 55, 3) := by decide +kernel
theorem dX8_promote_57 : decode cX8_promote 57 = .ok (.iload_n 2, 1) := by decide +kernel
theorem dX8_promote_58 : decode cX8_promote 58 = .ok (.iastore, 1) := by decide +kernel
theorem dX8_promote_59 : decode cX8_promote 59 = .ok (.iload_n 3, 1) := by decide +kernel
theorem dX8_promote_60 : decode cX8_promote 60 = .ok (.ireturn, 1) := by decide +kernel
set_option maxRecDepth 20000 in
theorem ggX8_list_X8_isPrisoner : GoodIn wsX8_list wsX8_isPrisoner := goodIn_r _ [6, 1, 7, 8, 5, 9, 34, 35, 36, 37, 38, 39, 40, 41, 42, 43, 44, 45, 46, 47, 48, 49, 50] (by decide +kernel) (by decide +kernel)
set_option maxRecDepth 20000 in
theorem gX8_list_X8_isPrisoner : GoodIn wsX8_list (wsV RX8 233 RX8 yX8_isPrisoner wsX8_isPrisoner) := goodIn_app (goodIn_of _ (by decide +kernel)) ggX8_list_X8_isPrisoner
set_option maxRecDepth 20000 in
theorem ggX8_list_X8_isVisitor : GoodIn wsX8_list wsX8_isVisitor := goodIn_r _ [12, 13, 7, 8, 5, 9] (by decide +kernel) (by decide +kernel)
set_option maxRecDepth 20000 in
theorem gX8_list_X8_isVisitor : GoodIn wsX8_list (va_wsS RX8 243 yX8_isVisitor wsX8_isVisitor) := goodIn_app (goodIn_of _ (by decide +kernel)) ggX8_list_X8_isVisitor
set_option maxRecDepth 20000 in
theorem ggX8_list_X8_refused : GoodIn wsX8_list wsX8_refused := goodIn_r _ [17, 18, 34, 35, 36, 37, 38, 39, 40, 41, 42, 43, 44, 45, 46, 47, 48, 49, 50] (by decide +kernel) (by decide +kernel)
set_option maxRecDepth 20000 in
theorem gX8_list_X8_refused : GoodIn wsX8_list (wsV RX8 151 RX8 yX8_refused wsX8_refused) := goodIn_app (goodIn_of _ (by decide +kernel)) ggX8_list_X8_refused
set_option maxRecDepth 20000 in
theorem ggX8_list_X8_remember : GoodIn wsX8_list wsX8_remember := goodIn_r _ [22, 23, 24, 1, 25, 26, 5, 27, 34, 35, 36, 37, 38, 39, 40, 41, 42, 43, 44, 45, 46, 47, 48, 49, 50] (by decide +kernel) (by decide +kernel)
set_option maxRecDepth 20000 in
theorem gX8_list_X8_remember : GoodIn wsX8_list (wsV RX8 281 RX8 yX8_remember wsX8_remember) := goodIn_app (goodIn_of _ (by decide +kernel)) ggX8_list_X8_remember
set_option maxRecDepth 20000 in
theorem ggX8_list_X8_listIn : GoodIn wsX8_list wsX8_listIn := goodIn_r _ [30, 31, 32, 5, 33] (by decide +kernel) (by decide +kernel)
set_option maxRecDepth 20000 in
theorem gX8_list_X8_listIn : GoodIn wsX8_list (va_wsS RX8 188 yX8_listIn wsX8_listIn) := goodIn_app (goodIn_of _ (by decide +kernel)) ggX8_list_X8_listIn
theorem dX8_list_0 : decode cX8_list 0 = .ok (.aload_n 0, 1) := by decide +kernel
theorem dX8_list_1 : decode cX8_list 1 = .ok (.aload_n 0, 1) := by decide +kernel
theorem dX8_list_2 : decode cX8_list 2 = .ok (.iload_n 1, 1) := by decide +kernel
theorem dX8_list_3 : decode cX8_list 3 = .ok (.invokevirtual 233, 3) := by decide +kernel
theorem dX8_list_6 : decode cX8_list 6 = .ok (.ifCond .eq 14, 3) := by decide +kernel
theorem dX8_list_9 : decode cX8_list 9 = .ok (.iload_n 2, 1) := by decide +kernel
theorem dX8_list_10 : decode cX8_list 10 = .ok (.invokestatic 243, 3) := by decide +kernel
theorem dX8_list_13 : decode cX8_list 13 = .ok (.ifCond .eq 7, 3) := by decide +kernel
theorem dX8_list_16 : decode cX8_list 16 = .ok (.iconst 0, 1) := by decide +kernel
theorem dX8_list_17 : decode cX8_list 17 = .ok (.goto 4, 3) := by decide +kernel
theorem dX8_list_20 : decode cX8_list 20 = .ok (.iconst 1, 1) := by decide +kernel
theorem dX8_list_21 : decode cX8_list 21 = .ok (.invokevirtual 151, 3) := by decide +kernel
theorem dX8_list_24 : decode cX8_list 24 = .ok (.ifCond .eq 5, 3) := by decide +kernel
theorem dX8_list_27 : decode cX8_list 27 = .ok (.iconst 0, 1) := by decide +kernel
theorem dX8_list_28 : decode cX8_list 28 = .ok (.ireturn, 1) := by decide +kernel
theorem dX8_list_29 : decode cX8_list 29 = .ok (.aload_n 0, 1) := by decide +kernel
theorem dX8_list_30 : decode cX8_list 30 = .ok (.invokevirtual 281, 3) := by decide +kernel
theorem dX8_list_33 : decode cX8_list 33 = .ok (.aload_n 0, 1) := by decide +kernel
theorem dX8_list_34 : decode cX8_list 34 = .ok (.getfield 16, 3) := by decide +kernel
theorem dX8_list_37 : decode cX8_list 37 = .ok (.iload_n 1, 1) := by decide +kernel
theorem dX8_list_38 : decode cX8_list 38 = .ok (.iload_n 2, 1) := by decide +kernel
theorem dX8_list_39 : decode cX8_list 39 = .ok (.iload_n 3, 1) := by decide +kernel
theorem dX8_list_40 : decode cX8_list 40 = .ok (.invokestatic 188, 3) := by decide +kernel
theorem dX8_list_43 : decode cX8_list 43 = .ok (.ireturn, 1) := by decide +kernel
set_option maxRecDepth 20000 in
theorem ggX8_keepApart_X8_isPrisoner : GoodIn wsX8_keepApart wsX8_isPrisoner := goodIn_r _ [6, 1, 7, 8, 5, 9, 30, 31, 32, 33, 34, 35, 36, 37, 38, 39, 40, 41, 42, 43, 44, 45, 46] (by decide +kernel) (by decide +kernel)
set_option maxRecDepth 20000 in
theorem gX8_keepApart_X8_isPrisoner : GoodIn wsX8_keepApart (wsV RX8 233 RX8 yX8_isPrisoner wsX8_isPrisoner) := goodIn_app (goodIn_of _ (by decide +kernel)) ggX8_keepApart_X8_isPrisoner
set_option maxRecDepth 20000 in
theorem ggX8_keepApart_X8_refused : GoodIn wsX8_keepApart wsX8_refused := goodIn_r _ [13, 14, 30, 31, 32, 33, 34, 35, 36, 37, 38, 39, 40, 41, 42, 43, 44, 45, 46] (by decide +kernel) (by decide +kernel)
set_option maxRecDepth 20000 in
theorem gX8_keepApart_X8_refused : GoodIn wsX8_keepApart (wsV RX8 151 RX8 yX8_refused wsX8_refused) := goodIn_app (goodIn_of _ (by decide +kernel)) ggX8_keepApart_X8_refused
set_option maxRecDepth 20000 in
theorem ggX8_keepApart_X8_remember : GoodIn wsX8_keepApart wsX8_remember := goodIn_r _ [18, 19, 20, 1, 21, 22, 5, 23, 30, 31, 32, 33, 34, 35, 36, 37, 38, 39, 40, 41, 42, 43, 44, 45, 46] (by decide +kernel) (by decide +kernel)
set_option maxRecDepth 20000 in
theorem gX8_keepApart_X8_remember : GoodIn wsX8_keepApart (wsV RX8 281 RX8 yX8_remember wsX8_remember) := goodIn_app (goodIn_of _ (by decide +kernel)) ggX8_keepApart_X8_remember
set_option maxRecDepth 20000 in
theorem ggX8_keepApart_X8_part : GoodIn wsX8_keepApart wsX8_part := goodIn_r _ [26, 27, 28, 5, 29] (by decide +kernel) (by decide +kernel)
set_option maxRecDepth 20000 in
theorem gX8_keepApart_X8_part : GoodIn wsX8_keepApart (va_wsS RX8 284 yX8_part wsX8_part) := goodIn_app (goodIn_of _ (by decide +kernel)) ggX8_keepApart_X8_part
set_option maxRecDepth 20000 in
theorem ggX8_keepApart_X8_prisonerAt : GoodIn wsX8_keepApart wsX8_prisonerAt := goodIn_r _ [29] (by decide +kernel) (by decide +kernel)
set_option maxRecDepth 20000 in
theorem gX8_keepApart_X8_prisonerAt : GoodIn wsX8_keepApart (va_wsS RX8 55 yX8_prisonerAt wsX8_prisonerAt) := goodIn_app (goodIn_of _ (by decide +kernel)) ggX8_keepApart_X8_prisonerAt
theorem dX8_keepApart_0 : decode cX8_keepApart 0 = .ok (.aload_n 0, 1) := by decide +kernel
theorem dX8_keepApart_1 : decode cX8_keepApart 1 = .ok (.aload_n 0, 1) := by decide +kernel
theorem dX8_keepApart_2 : decode cX8_keepApart 2 = .ok (.iload_n 1, 1) := by decide +kernel
theorem dX8_keepApart_3 : decode cX8_keepApart 3 = .ok (.invokevirtual 233, 3) := by decide +kernel
theorem dX8_keepApart_6 : decode cX8_keepApart 6 = .ok (.ifCond .eq 11, 3) := by decide +kernel
theorem dX8_keepApart_9 : decode cX8_keepApart 9 = .ok (.aload_n 0, 1) := by decide +kernel
theorem dX8_keepApart_10 : decode cX8_keepApart 10 = .ok (.iload_n 2, 1) := by decide +kernel
theorem dX8_keepApart_11 : decode cX8_keepApart 11 = .ok (.invokevirtual 233, 3) := by decide +kernel
theorem dX8_keepApart_14 : decode cX8_keepApart 14 = .ok (.ifCond .ne 7, 3) := by decide +kernel
theorem dX8_keepApart_17 : decode cX8_keepApart 17 = .ok (.iconst 1, 1) := by decide +kernel
theorem dX8_keepApart_18 : decode cX8_keepApart 18 = .ok (.goto 13, 3) := by decide +kernel
theorem dX8_keepApart_21 : decode cX8_keepApart 21 = .ok (.iload_n 1, 1) := by decide +kernel
theorem dX8_keepApart_22 : decode cX8_keepApart 22 = .ok (.iload_n 2, 1) := by decide +kernel
theorem dX8_keepApart_23 : decode cX8_keepApart 23 = .ok (.if_icmp .ne 7, 3) := by decide +kernel
theorem dX8_keepApart_26 : decode cX8_keepApart 26 = .ok (.iconst 2, 1) := by decide +kernel
theorem dX8_keepApart_27 : decode cX8_keepApart 27 = .ok (.goto 4, 3) := by decide +kernel
theorem dX8_keepApart_30 : decode cX8_keepApart 30 = .ok (.iconst 0, 1) := by decide +kernel
theorem dX8_keepApart_31 : decode cX8_keepApart 31 = .ok (.invokevirtual 151, 3) := by decide +kernel
theorem dX8_keepApart_34 : decode cX8_keepApart 34 = .ok (.ifCond .eq 5, 3) := by decide +kernel
theorem dX8_keepApart_37 : decode cX8_keepApart 37 = .ok (.iconst 0, 1) := by decide +kernel
theorem dX8_keepApart_38 : decode cX8_keepApart 38 = .ok (.ireturn, 1) := by decide +kernel
theorem dX8_keepApart_39 : decode cX8_keepApart 39 = .ok (.aload_n 0, 1) := by decide +kernel
theorem dX8_keepApart_40 : decode cX8_keepApart 40 = .ok (.invokevirtual 281, 3) := by decide +kernel
theorem dX8_keepApart_43 : decode cX8_keepApart 43 = .ok (.aload_n 0, 1) := by decide +kernel
theorem dX8_keepApart_44 : decode cX8_keepApart 44 = .ok (.getfield 16, 3) := by decide +kernel
theorem dX8_keepApart_47 : decode cX8_keepApart 47 = .ok (.iload_n 1, 1) := by decide +kernel
theorem dX8_keepApart_48 : decode cX8_keepApart 48 = .ok (.iload_n 2, 1) := by decide +kernel
theorem dX8_keepApart_49 : decode cX8_keepApart 49 = .ok (.iload_n 3, 1) := by decide +kernel
theorem dX8_keepApart_50 : decode cX8_keepApart 50 = .ok (.invokestatic 284, 3) := by decide +kernel
theorem dX8_keepApart_53 : decode cX8_keepApart 53 = .ok (.aload_n 0, 1) := by decide +kernel
theorem dX8_keepApart_54 : decode cX8_keepApart 54 = .ok (.getfield 16, 3) := by decide +kernel
theorem dX8_keepApart_57 : decode cX8_keepApart 57 = .ok (.iload_n 2, 1) := by decide +kernel
theorem dX8_keepApart_58 : decode cX8_keepApart 58 = .ok (.iload_n 1, 1) := by decide +kernel
theorem dX8_keepApart_59 : decode cX8_keepApart 59 = .ok (.iload_n 3, 1) := by decide +kernel
theorem dX8_keepApart_60 : decode cX8_keepApart 60 = .ok (.invokestatic 284, 3) := by decide +kernel
theorem dX8_keepApart_63 : decode cX8_keepApart 63 = .ok (.aload_n 0, 1) := by decide +kernel
theorem dX8_keepApart_64 : decode cX8_keepApart 64 = .ok (.getfield 16, 3) := by decide +kernel
theorem dX8_keepApart_67 : decode cX8_keepApart 67 = .ok (.iload_n 1, 1) := by decide +kernel
theorem dX8_keepApart_68 : decode cX8_keepApart 68 = .ok (.iconst 5, 1) := by decide +kernel
theorem dX8_keepApart_69 : decode cX8_keepApart 69 = .ok (.invokestatic 55, 3) := by decide +kernel
theorem dX8_keepApart_72 : decode cX8_keepApart 72 = .ok (.iaload, 1) := by decide +kernel
theorem dX8_keepApart_73 : decode cX8_keepApart 73 = .ok (.ireturn, 1) := by decide +kernel
set_option maxRecDepth 20000 in
theorem ggX8_book_X8_isPrisoner : GoodIn wsX8_book wsX8_isPrisoner := goodIn_r _ [6, 1, 7, 8, 5, 9, 75, 76, 77, 78, 79, 80, 81, 82, 83, 84, 85, 86, 87, 88, 89, 90, 91] (by decide +kernel) (by decide +kernel)
set_option maxRecDepth 20000 in
theorem gX8_book_X8_isPrisoner : GoodIn wsX8_book (wsV RX8 233 RX8 yX8_isPrisoner wsX8_isPrisoner) := goodIn_app (goodIn_of _ (by decide +kernel)) ggX8_book_X8_isPrisoner
set_option maxRecDepth 20000 in
theorem ggX8_book_X8_isVisitor : GoodIn wsX8_book wsX8_isVisitor := goodIn_r _ [12, 13, 7, 8, 5, 9] (by decide +kernel) (by decide +kernel)
set_option maxRecDepth 20000 in
theorem gX8_book_X8_isVisitor : GoodIn wsX8_book (va_wsS RX8 243 yX8_isVisitor wsX8_isVisitor) := goodIn_app (goodIn_of _ (by decide +kernel)) ggX8_book_X8_isVisitor
set_option maxRecDepth 20000 in
theorem ggX8_book_X8_isTime : GoodIn wsX8_book wsX8_isTime := goodIn_r _ [16, 17, 18, 7, 8, 5, 9] (by decide +kernel) (by decide +kernel)
set_option maxRecDepth 20000 in
theorem gX8_book_X8_isTime : GoodIn wsX8_book (va_wsS RX8 196 yX8_isTime wsX8_isTime) := goodIn_app (goodIn_of _ (by decide +kernel)) ggX8_book_X8_isTime
set_option maxRecDepth 20000 in
theorem ggX8_book_X8_why : GoodIn wsX8_book wsX8_why := goodIn_r _ [21, 22, 23, 5, 24, 25, 26, 27, 28, 29, 30, 31, 32, 33, 34, 35, 36, 37, 38, 39, 40, 41, 42, 43, 44, 45, 46, 47, 48, 49, 50, 51, 52, 53, 54] (by decide +kernel) (by decide +kernel)
set_option maxRecDepth 20000 in
theorem gX8_book_X8_why : GoodIn wsX8_book (va_wsS RX8 96 yX8_why wsX8_why) := goodIn_app (goodIn_of _ (by decide +kernel)) ggX8_book_X8_why
set_option maxRecDepth 20000 in
theorem ggX8_book_X8_refused : GoodIn wsX8_book wsX8_refused := goodIn_r _ [58, 59, 75, 76, 77, 78, 79, 80, 81, 82, 83, 84, 85, 86, 87, 88, 89, 90, 91] (by decide +kernel) (by decide +kernel)
set_option maxRecDepth 20000 in
theorem gX8_book_X8_refused : GoodIn wsX8_book (wsV RX8 151 RX8 yX8_refused wsX8_refused) := goodIn_app (goodIn_of _ (by decide +kernel)) ggX8_book_X8_refused
set_option maxRecDepth 20000 in
theorem ggX8_book_X8_remember : GoodIn wsX8_book wsX8_remember := goodIn_r _ [63, 64, 65, 1, 66, 67, 5, 68, 75, 76, 77, 78, 79, 80, 81, 82, 83, 84, 85, 86, 87, 88, 89, 90, 91] (by decide +kernel) (by decide +kernel)
set_option maxRecDepth 20000 in
theorem gX8_book_X8_remember : GoodIn wsX8_book (wsV RX8 281 RX8 yX8_remember wsX8_remember) := goodIn_app (goodIn_of _ (by decide +kernel)) ggX8_book_X8_remember
set_option maxRecDepth 20000 in
theorem ggX8_book_X8_bookIn : GoodIn wsX8_book wsX8_bookIn := goodIn_r _ [71, 52, 53, 5, 54, 46, 47, 48, 40, 41, 42, 72, 73, 74, 66, 67, 68] (by decide +kernel) (by decide +kernel)
set_option maxRecDepth 20000 in
theorem gX8_book_X8_bookIn : GoodIn wsX8_book (va_wsS RX8 111 yX8_bookIn wsX8_bookIn) := goodIn_app (goodIn_of _ (by decide +kernel)) ggX8_book_X8_bookIn
theorem dX8_book_0 : decode cX8_book 0 = .ok (.aload_n 0, 1) := by decide +kernel
theorem dX8_book_1 : decode cX8_book 1 = .ok (.aload_n 0, 1) := by decide +kernel
theorem dX8_book_2 : decode cX8_book 2 = .ok (.iload_n 1, 1) := by decide +kernel
theorem dX8_book_3 : decode cX8_book 3 = .ok (.invokevirtual 233, 3) := by decide +kernel
theorem dX8_book_6 : decode cX8_book 6 = .ok (.ifCond .eq 10, 3) := by decide +kernel
theorem dX8_book_9 : decode cX8_book 9 = .ok (.iload_n 2, 1) := by decide +kernel
theorem dX8_book_10 : decode cX8_book 10 = .ok (.invokestatic 243, 3) := by decide +kernel
theorem dX8_book_13 : decode cX8_book 13 = .ok (.ifCond .ne 7, 3) := by decide +kernel
theorem dX8_book_16 : decode cX8_book 16 = .ok (.iconst 1, 1) := by decide +kernel
theorem dX8_book_17 : decode cX8_book 17 = .ok (.goto 40, 3) := by decide +kernel
theorem dX8_book_20 : decode cX8_book 20 = .ok (.aload_n 0, 1) := by decide +kernel
theorem dX8_book_21 : decode cX8_book 21 = .ok (.getfield 16, 3) := by decide +kernel
theorem dX8_book_24 : decode cX8_book 24 = .ok (.iload_n 3, 1) := by decide +kernel
theorem dX8_book_25 : decode cX8_book 25 = .ok (.iload 4, 2) := by decide +kernel
theorem dX8_book_27 : decode cX8_book 27 = .ok (.invokestatic 196, 3) := by decide +kernel
theorem dX8_book_30 : decode cX8_book 30 = .ok (.ifCond .ne 7, 3) := by decide +kernel
theorem dX8_book_33 : decode cX8_book 33 = .ok (.iconst 2, 1) := by decide +kernel
theorem dX8_book_34 : decode cX8_book 34 = .ok (.goto 23, 3) := by decide +kernel
theorem dX8_book_37 : decode cX8_book 37 = .ok (.aload_n 0, 1) := by decide +kernel
theorem dX8_book_38 : decode cX8_book 38 = .ok (.getfield 16, 3) := by decide +kernel
theorem dX8_book_41 : decode cX8_book 41 = .ok (.iload_n 1, 1) := by decide +kernel
theorem dX8_book_42 : decode cX8_book 42 = .ok (.iload_n 2, 1) := by decide +kernel
theorem dX8_book_43 : decode cX8_book 43 = .ok (.iload_n 3, 1) := by decide +kernel
theorem dX8_book_44 : decode cX8_book 44 = .ok (.iload 4, 2) := by decide +kernel
theorem dX8_book_46 : decode cX8_book 46 = .ok (.invokestatic 96, 3) := by decide +kernel
theorem dX8_book_49 : decode cX8_book 49 = .ok (.ifCond .ne 7, 3) := by decide +kernel
theorem dX8_book_52 : decode cX8_book 52 = .ok (.iconst 0, 1) := by decide +kernel
theorem dX8_book_53 : decode cX8_book 53 = .ok (.goto 4, 3) := by decide +kernel
theorem dX8_book_56 : decode cX8_book 56 = .ok (.iconst 3, 1) := by decide +kernel
theorem dX8_book_57 : decode cX8_book 57 = .ok (.invokevirtual 151, 3) := by decide +kernel
theorem dX8_book_60 : decode cX8_book 60 = .ok (.ifCond .eq 5, 3) := by decide +kernel
theorem dX8_book_63 : decode cX8_book 63 = .ok (.iconst 0, 1) := by decide +kernel
theorem dX8_book_64 : decode cX8_book 64 = .ok (.ireturn, 1) := by decide +kernel
theorem dX8_book_65 : decode cX8_book 65 = .ok (.aload_n 0, 1) := by decide +kernel
theorem dX8_book_66 : decode cX8_book 66 = .ok (.invokevirtual 281, 3) := by decide +kernel
theorem dX8_book_69 : decode cX8_book 69 = .ok (.aload_n 0, 1) := by decide +kernel
theorem dX8_book_70 : decode cX8_book 70 = .ok (.getfield 16, 3) := by decide +kernel
theorem dX8_book_73 : decode cX8_book 73 = .ok (.iload_n 1, 1) := by decide +kernel
theorem dX8_book_74 : decode cX8_book 74 = .ok (.iload_n 2, 1) := by decide +kernel
theorem dX8_book_75 : decode cX8_book 75 = .ok (.iload_n 3, 1) := by decide +kernel
theorem dX8_book_76 : decode cX8_book 76 = .ok (.iload 4, 2) := by decide +kernel
theorem dX8_book_78 : decode cX8_book 78 = .ok (.invokestatic 111, 3) := by decide +kernel
theorem dX8_book_81 : decode cX8_book 81 = .ok (.ireturn, 1) := by decide +kernel
set_option maxRecDepth 20000 in
theorem ggX8_cancel_X8_isBooking : GoodIn wsX8_cancel wsX8_isBooking := goodIn_r _ [6, 1, 7, 8, 5, 9, 30, 31, 32, 33, 34, 35, 36, 37, 38, 39, 40, 41, 42, 43, 44, 45, 46] (by decide +kernel) (by decide +kernel)
set_option maxRecDepth 20000 in
theorem gX8_cancel_X8_isBooking : GoodIn wsX8_cancel (wsV RX8 251 RX8 yX8_isBooking wsX8_isBooking) := goodIn_app (goodIn_of _ (by decide +kernel)) ggX8_cancel_X8_isBooking
set_option maxRecDepth 20000 in
theorem ggX8_cancel_X8_refused : GoodIn wsX8_cancel wsX8_refused := goodIn_r _ [13, 14, 30, 31, 32, 33, 34, 35, 36, 37, 38, 39, 40, 41, 42, 43, 44, 45, 46] (by decide +kernel) (by decide +kernel)
set_option maxRecDepth 20000 in
theorem gX8_cancel_X8_refused : GoodIn wsX8_cancel (wsV RX8 151 RX8 yX8_refused wsX8_refused) := goodIn_app (goodIn_of _ (by decide +kernel)) ggX8_cancel_X8_refused
set_option maxRecDepth 20000 in
theorem ggX8_cancel_X8_remember : GoodIn wsX8_cancel wsX8_remember := goodIn_r _ [18, 19, 20, 1, 21, 22, 5, 23, 30, 31, 32, 33, 34, 35, 36, 37, 38, 39, 40, 41, 42, 43, 44, 45, 46] (by decide +kernel) (by decide +kernel)
set_option maxRecDepth 20000 in
theorem gX8_cancel_X8_remember : GoodIn wsX8_cancel (wsV RX8 281 RX8 yX8_remember wsX8_remember) := goodIn_app (goodIn_of _ (by decide +kernel)) ggX8_cancel_X8_remember
set_option maxRecDepth 20000 in
theorem ggX8_cancel_X8_cancelIn : GoodIn wsX8_cancel wsX8_cancelIn := goodIn_r _ [26, 27, 28, 5, 29, 21, 22, 23] (by decide +kernel) (by decide +kernel)
set_option maxRecDepth 20000 in
theorem gX8_cancel_X8_cancelIn : GoodIn wsX8_cancel (va_wsS RX8 132 yX8_cancelIn wsX8_cancelIn) := goodIn_app (goodIn_of _ (by decide +kernel)) ggX8_cancel_X8_cancelIn
theorem dX8_cancel_0 : decode cX8_cancel 0 = .ok (.aload_n 0, 1) := by decide +kernel
theorem dX8_cancel_1 : decode cX8_cancel 1 = .ok (.aload_n 0, 1) := by decide +kernel
theorem dX8_cancel_2 : decode cX8_cancel 2 = .ok (.iload_n 1, 1) := by decide +kernel
theorem dX8_cancel_3 : decode cX8_cancel 3 = .ok (.invokevirtual 251, 3) := by decide +kernel
theorem dX8_cancel_6 : decode cX8_cancel 6 = .ok (.ifCond .eq 7, 3) := by decide +kernel
theorem dX8_cancel_9 : decode cX8_cancel 9 = .ok (.iconst 0, 1) := by decide +kernel
theorem dX8_cancel_10 : decode cX8_cancel 10 = .ok (.goto 4, 3) := by decide +kernel
theorem dX8_cancel_13 : decode cX8_cancel 13 = .ok (.iconst 1, 1) := by decide +kernel
theorem dX8_cancel_14 : decode cX8_cancel 14 = .ok (.invokevirtual 151, 3) := by decide +kernel
theorem dX8_cancel_17 : decode cX8_cancel 17 = .ok (.ifCond .eq 5, 3) := by decide +kernel
theorem dX8_cancel_20 : decode cX8_cancel 20 = .ok (.iconst 0, 1) := by decide +kernel
theorem dX8_cancel_21 : decode cX8_cancel 21 = .ok (.ireturn, 1) := by decide +kernel
theorem dX8_cancel_22 : decode cX8_cancel 22 = .ok (.aload_n 0, 1) := by decide +kernel
theorem dX8_cancel_23 : decode cX8_cancel 23 = .ok (.invokevirtual 281, 3) := by decide +kernel
theorem dX8_cancel_26 : decode cX8_cancel 26 = .ok (.aload_n 0, 1) := by decide +kernel
theorem dX8_cancel_27 : decode cX8_cancel 27 = .ok (.getfield 16, 3) := by decide +kernel
theorem dX8_cancel_30 : decode cX8_cancel 30 = .ok (.iload_n 1, 1) := by decide +kernel
theorem dX8_cancel_31 : decode cX8_cancel 31 = .ok (.invokestatic 132, 3) := by decide +kernel
theorem dX8_cancel_34 : decode cX8_cancel 34 = .ok (.ireturn, 1) := by decide +kernel
set_option maxRecDepth 20000 in
theorem ggX8_late_X8_isBooking : GoodIn wsX8_late wsX8_isBooking := goodIn_r _ [7, 2, 8, 9, 6, 10, 28, 29, 30, 31, 32, 33, 34, 35, 36, 37, 38, 39, 40, 41, 42, 43, 44] (by decide +kernel) (by decide +kernel)
set_option maxRecDepth 20000 in
theorem gX8_late_X8_isBooking : GoodIn wsX8_late (wsV RX8 251 RX8 yX8_isBooking wsX8_isBooking) := goodIn_app (goodIn_of _ (by decide +kernel)) ggX8_late_X8_isBooking
set_option maxRecDepth 20000 in
theorem ggX8_late_X8_in : GoodIn wsX8_late wsX8_in := goodIn_r _ [10] (by decide +kernel) (by decide +kernel)
set_option maxRecDepth 20000 in
theorem gX8_late_X8_in : GoodIn wsX8_late (va_wsS RX8 140 yX8_in wsX8_in) := goodIn_app (goodIn_of _ (by decide +kernel)) ggX8_late_X8_in
set_option maxRecDepth 20000 in
theorem ggX8_late_X8_refused : GoodIn wsX8_late wsX8_refused := goodIn_r _ [14, 15, 28, 29, 30, 31, 32, 33, 34, 35, 36, 37, 38, 39, 40, 41, 42, 43, 44] (by decide +kernel) (by decide +kernel)
set_option maxRecDepth 20000 in
theorem gX8_late_X8_refused : GoodIn wsX8_late (wsV RX8 151 RX8 yX8_refused wsX8_refused) := goodIn_app (goodIn_of _ (by decide +kernel)) ggX8_late_X8_refused
set_option maxRecDepth 20000 in
theorem ggX8_late_X8_remember : GoodIn wsX8_late wsX8_remember := goodIn_r _ [19, 20, 21, 2, 22, 23, 6, 24, 28, 29, 30, 31, 32, 33, 34, 35, 36, 37, 38, 39, 40, 41, 42, 43, 44] (by decide +kernel) (by decide +kernel)
set_option maxRecDepth 20000 in
theorem gX8_late_X8_remember : GoodIn wsX8_late (wsV RX8 281 RX8 yX8_remember wsX8_remember) := goodIn_app (goodIn_of _ (by decide +kernel)) ggX8_late_X8_remember
set_option maxRecDepth 20000 in
theorem ggX8_late_X8_bookingAt : GoodIn wsX8_late wsX8_bookingAt := goodIn_r _ [27] (by decide +kernel) (by decide +kernel)
set_option maxRecDepth 20000 in
theorem gX8_late_X8_bookingAt : GoodIn wsX8_late (va_wsS RX8 62 yX8_bookingAt wsX8_bookingAt) := goodIn_app (goodIn_of _ (by decide +kernel)) ggX8_late_X8_bookingAt
theorem dX8_late_0 : decode cX8_late 0 = .ok (.aload_n 0, 1) := by decide +kernel
theorem dX8_late_1 : decode cX8_late 1 = .ok (.aload_n 0, 1) := by decide +kernel
theorem dX8_late_2 : decode cX8_late 2 = .ok (.iload_n 1, 1) := by decide +kernel
theorem dX8_late_3 : decode cX8_late 3 = .ok (.invokevirtual 251, 3) := by decide +kernel
theorem dX8_late_6 : decode cX8_late 6 = .ok (.ifCond .ne 7, 3) := by decide +kernel
theorem dX8_late_9 : decode cX8_late 9 = .ok (.iconst 1, 1) := by decide +kernel
theorem dX8_late_10 : decode cX8_late 10 = .ok (.goto 20, 3) := by decide +kernel
theorem dX8_late_13 : decode cX8_late 13 = .ok (.iload_n 2, 1) := by decide +kernel
theorem dX8_late_14 : decode cX8_late 14 = .ok (.i2l, 1) := by decide +kernel
theorem dX8_late_15 : decode cX8_late 15 = .ok (.lconst 0, 1) := by decide +kernel
theorem dX8_late_16 : decode cX8_late 16 = .ok (.ldc2_w 288, 3) := by decide +kernel
theorem dX8_late_19 : decode cX8_late 19 = .ok (.invokestatic 140, 3) := by decide +kernel
theorem dX8_late_22 : decode cX8_late 22 = .ok (.ifCond .eq 7, 3) := by decide +kernel
theorem dX8_late_25 : decode cX8_late 25 = .ok (.iconst 0, 1) := by decide +kernel
theorem dX8_late_26 : decode cX8_late 26 = .ok (.goto 4, 3) := by decide +kernel
theorem dX8_late_29 : decode cX8_late 29 = .ok (.iconst 2, 1) := by decide +kernel
theorem dX8_late_30 : decode cX8_late 30 = .ok (.invokevirtual 151, 3) := by decide +kernel
theorem dX8_late_33 : decode cX8_late 33 = .ok (.ifCond .eq 5, 3) := by decide +kernel
theorem dX8_late_36 : decode cX8_late 36 = .ok (.iconst 0, 1) := by decide +kernel
theorem dX8_late_37 : decode cX8_late 37 = .ok (.ireturn, 1) := by decide +kernel
theorem dX8_late_38 : decode cX8_late 38 = .ok (.aload_n 0, 1) := by decide +kernel
theorem dX8_late_39 : decode cX8_late 39 = .ok (.invokevirtual 281, 3) := by decide +kernel
theorem dX8_late_42 : decode cX8_late 42 = .ok (.aload_n 0, 1) := by decide +kernel
theorem dX8_late_43 : decode cX8_late 43 = .ok (.getfield 16, 3) := by decide +kernel
theorem dX8_late_46 : decode cX8_late 46 = .ok (.iload_n 1, 1) := by decide +kernel
theorem dX8_late_47 : decode cX8_late 47 = .ok (.iconst 5, 1) := by decide +kernel
theorem dX8_late_48 : decode cX8_late 48 = .ok (.invokestatic 62, 3) := by decide +kernel
theorem dX8_late_51 : decode cX8_late 51 = .ok (.iaload, 1) := by decide +kernel
theorem dX8_late_52 : decode cX8_late 52 = .ok (.istore_n 3, 1) := by decide +kernel
theorem dX8_late_53 : decode cX8_late 53 = .ok (.aload_n 0, 1) := by decide +kernel
theorem dX8_late_54 : decode cX8_late 54 = .ok (.getfield 16, 3) := by decide +kernel
theorem dX8_late_57 : decode cX8_late 57 = .ok (.iload_n 1, 1) := by decide +kernel
theorem dX8_late_58 : decode cX8_late 58 = .ok (.iconst 5, 1) := by decide +kernel
theorem dX8_late_59 : decode cX8_late 59 = .ok (.invokestatic 62, 3) := by decide +kernel
theorem dX8_late_62 : decode cX8_late 62 = .ok (.iload_n 2, 1) := by decide +kernel
theorem dX8_late_63 : decode cX8_late 63 = .ok (.iastore, 1) := by decide +kernel
theorem dX8_late_64 : decode cX8_late 64 = .ok (.iload_n 3, 1) := by decide +kernel
theorem dX8_late_65 : decode cX8_late 65 = .ok (.ireturn, 1) := by decide +kernel
set_option maxRecDepth 20000 in
theorem ggX8_carry_X8_isVisitor : GoodIn wsX8_carry wsX8_isVisitor := goodIn_r _ [5, 6, 7, 8, 4, 9] (by decide +kernel) (by decide +kernel)
set_option maxRecDepth 20000 in
theorem gX8_carry_X8_isVisitor : GoodIn wsX8_carry (va_wsS RX8 243 yX8_isVisitor wsX8_isVisitor) := goodIn_app (goodIn_of _ (by decide +kernel)) ggX8_carry_X8_isVisitor
set_option maxRecDepth 20000 in
theorem ggX8_carry_X8_refused : GoodIn wsX8_carry wsX8_refused := goodIn_r _ [13, 14, 30, 31, 32, 33, 34, 35, 36, 37, 38, 39, 40, 41, 42, 43, 44, 45, 46] (by decide +kernel) (by decide +kernel)
set_option maxRecDepth 20000 in
theorem gX8_carry_X8_refused : GoodIn wsX8_carry (wsV RX8 151 RX8 yX8_refused wsX8_refused) := goodIn_app (goodIn_of _ (by decide +kernel)) ggX8_carry_X8_refused
set_option maxRecDepth 20000 in
theorem ggX8_carry_X8_remember : GoodIn wsX8_carry wsX8_remember := goodIn_r _ [18, 19, 20, 1, 21, 22, 4, 23, 30, 31, 32, 33, 34, 35, 36, 37, 38, 39, 40, 41, 42, 43, 44, 45, 46] (by decide +kernel) (by decide +kernel)
set_option maxRecDepth 20000 in
theorem gX8_carry_X8_remember : GoodIn wsX8_carry (wsV RX8 281 RX8 yX8_remember wsX8_remember) := goodIn_app (goodIn_of _ (by decide +kernel)) ggX8_carry_X8_remember
set_option maxRecDepth 20000 in
theorem ggX8_carry_X8_visitorAt : GoodIn wsX8_carry wsX8_visitorAt := goodIn_r _ [26] (by decide +kernel) (by decide +kernel)
set_option maxRecDepth 20000 in
theorem gX8_carry_X8_visitorAt : GoodIn wsX8_carry (va_wsS RX8 59 yX8_visitorAt wsX8_visitorAt) := goodIn_app (goodIn_of _ (by decide +kernel)) ggX8_carry_X8_visitorAt
set_option maxRecDepth 20000 in
theorem ggX8_carry_X8_carriers : GoodIn wsX8_carry wsX8_carriers := goodIn_r _ [29, 24, 25, 4, 26] (by decide +kernel) (by decide +kernel)
set_option maxRecDepth 20000 in
theorem gX8_carry_X8_carriers : GoodIn wsX8_carry (va_wsS RX8 290 yX8_carriers wsX8_carriers) := goodIn_app (goodIn_of _ (by decide +kernel)) ggX8_carry_X8_carriers
theorem dX8_carry_0 : decode cX8_carry 0 = .ok (.aload_n 0, 1) := by decide +kernel
theorem dX8_carry_1 : decode cX8_carry 1 = .ok (.iload_n 1, 1) := by decide +kernel
theorem dX8_carry_2 : decode cX8_carry 2 = .ok (.invokestatic 243, 3) := by decide +kernel
theorem dX8_carry_5 : decode cX8_carry 5 = .ok (.ifCond .eq 7, 3) := by decide +kernel
theorem dX8_carry_8 : decode cX8_carry 8 = .ok (.iconst 0, 1) := by decide +kernel
theorem dX8_carry_9 : decode cX8_carry 9 = .ok (.goto 4, 3) := by decide +kernel
theorem dX8_carry_12 : decode cX8_carry 12 = .ok (.iconst 1, 1) := by decide +kernel
theorem dX8_carry_13 : decode cX8_carry 13 = .ok (.invokevirtual 151, 3) := by decide +kernel
theorem dX8_carry_16 : decode cX8_carry 16 = .ok (.ifCond .eq 5, 3) := by decide +kernel
theorem dX8_carry_19 : decode cX8_carry 19 = .ok (.iconst 0, 1) := by decide +kernel
theorem dX8_carry_20 : decode cX8_carry 20 = .ok (.ireturn, 1) := by decide +kernel
theorem dX8_carry_21 : decode cX8_carry 21 = .ok (.aload_n 0, 1) := by decide +kernel
theorem dX8_carry_22 : decode cX8_carry 22 = .ok (.invokevirtual 281, 3) := by decide +kernel
theorem dX8_carry_25 : decode cX8_carry 25 = .ok (.aload_n 0, 1) := by decide +kernel
theorem dX8_carry_26 : decode cX8_carry 26 = .ok (.getfield 16, 3) := by decide +kernel
theorem dX8_carry_29 : decode cX8_carry 29 = .ok (.iload_n 1, 1) := by decide +kernel
theorem dX8_carry_30 : decode cX8_carry 30 = .ok (.iconst 2, 1) := by decide +kernel
theorem dX8_carry_31 : decode cX8_carry 31 = .ok (.invokestatic 59, 3) := by decide +kernel
theorem dX8_carry_34 : decode cX8_carry 34 = .ok (.iload_n 2, 1) := by decide +kernel
theorem dX8_carry_35 : decode cX8_carry 35 = .ok (.ifCond .eq 7, 3) := by decide +kernel
theorem dX8_carry_38 : decode cX8_carry 38 = .ok (.iconst 1, 1) := by decide +kernel
theorem dX8_carry_39 : decode cX8_carry 39 = .ok (.goto 4, 3) := by decide +kernel
theorem dX8_carry_42 : decode cX8_carry 42 = .ok (.iconst 0, 1) := by decide +kernel
theorem dX8_carry_43 : decode cX8_carry 43 = .ok (.iastore, 1) := by decide +kernel
theorem dX8_carry_44 : decode cX8_carry 44 = .ok (.aload_n 0, 1) := by decide +kernel
theorem dX8_carry_45 : decode cX8_carry 45 = .ok (.getfield 16, 3) := by decide +kernel
theorem dX8_carry_48 : decode cX8_carry 48 = .ok (.invokestatic 290, 3) := by decide +kernel
theorem dX8_carry_51 : decode cX8_carry 51 = .ok (.ireturn, 1) := by decide +kernel
set_option maxRecDepth 20000 in
theorem ggX8_punish_X8_isPrisoner : GoodIn wsX8_punish wsX8_isPrisoner := goodIn_r _ [7, 2, 8, 9, 6, 10, 31, 32, 33, 34, 35, 36, 37, 38, 39, 40, 41, 42, 43, 44, 45, 46, 47] (by decide +kernel) (by decide +kernel)
set_option maxRecDepth 20000 in
theorem gX8_punish_X8_isPrisoner : GoodIn wsX8_punish (wsV RX8 233 RX8 yX8_isPrisoner wsX8_isPrisoner) := goodIn_app (goodIn_of _ (by decide +kernel)) ggX8_punish_X8_isPrisoner
set_option maxRecDepth 20000 in
theorem ggX8_punish_X8_in : GoodIn wsX8_punish wsX8_in := goodIn_r _ [10] (by decide +kernel) (by decide +kernel)
set_option maxRecDepth 20000 in
theorem gX8_punish_X8_in : GoodIn wsX8_punish (va_wsS RX8 140 yX8_in wsX8_in) := goodIn_app (goodIn_of _ (by decide +kernel)) ggX8_punish_X8_in
set_option maxRecDepth 20000 in
theorem ggX8_punish_X8_refused : GoodIn wsX8_punish wsX8_refused := goodIn_r _ [14, 15, 31, 32, 33, 34, 35, 36, 37, 38, 39, 40, 41, 42, 43, 44, 45, 46, 47] (by decide +kernel) (by decide +kernel)
set_option maxRecDepth 20000 in
theorem gX8_punish_X8_refused : GoodIn wsX8_punish (wsV RX8 151 RX8 yX8_refused wsX8_refused) := goodIn_app (goodIn_of _ (by decide +kernel)) ggX8_punish_X8_refused
set_option maxRecDepth 20000 in
theorem ggX8_punish_X8_remember : GoodIn wsX8_punish wsX8_remember := goodIn_r _ [19, 20, 21, 2, 22, 23, 6, 24, 31, 32, 33, 34, 35, 36, 37, 38, 39, 40, 41, 42, 43, 44, 45, 46, 47] (by decide +kernel) (by decide +kernel)
set_option maxRecDepth 20000 in
theorem gX8_punish_X8_remember : GoodIn wsX8_punish (wsV RX8 281 RX8 yX8_remember wsX8_remember) := goodIn_app (goodIn_of _ (by decide +kernel)) ggX8_punish_X8_remember
set_option maxRecDepth 20000 in
theorem ggX8_punish_X8_punishIn : GoodIn wsX8_punish wsX8_punishIn := goodIn_r _ [27, 28, 29, 6, 30] (by decide +kernel) (by decide +kernel)
set_option maxRecDepth 20000 in
theorem gX8_punish_X8_punishIn : GoodIn wsX8_punish (va_wsS RX8 295 yX8_punishIn wsX8_punishIn) := goodIn_app (goodIn_of _ (by decide +kernel)) ggX8_punish_X8_punishIn
theorem dX8_punish_0 : decode cX8_punish 0 = .ok (.aload_n 0, 1) := by decide +kernel
theorem dX8_punish_1 : decode cX8_punish 1 = .ok (.aload_n 0, 1) := by decide +kernel
theorem dX8_punish_2 : decode cX8_punish 2 = .ok (.iload_n 1, 1) := by decide +kernel
theorem dX8_punish_3 : decode cX8_punish 3 = .ok (.invokevirtual 233, 3) := by decide +kernel
theorem dX8_punish_6 : decode cX8_punish 6 = .ok (.ifCond .ne 7, 3) := by decide +kernel
theorem dX8_punish_9 : decode cX8_punish 9 = .ok (.iconst 1, 1) := by decide +kernel
theorem dX8_punish_10 : decode cX8_punish 10 = .ok (.goto 20, 3) := by decide +kernel
theorem dX8_punish_13 : decode cX8_punish 13 = .ok (.iload_n 2, 1) := by decide +kernel
theorem dX8_punish_14 : decode cX8_punish 14 = .ok (.i2l, 1) := by decide +kernel
theorem dX8_punish_15 : decode cX8_punish 15 = .ok (.lconst 0, 1) := by decide +kernel
theorem dX8_punish_16 : decode cX8_punish 16 = .ok (.ldc2_w 293, 3) := by decide +kernel
theorem dX8_punish_19 : decode cX8_punish 19 = .ok (.invokestatic 140, 3) := by decide +kernel
theorem dX8_punish_22 : decode cX8_punish 22 = .ok (.ifCond .eq 7, 3) := by decide +kernel
theorem dX8_punish_25 : decode cX8_punish 25 = .ok (.iconst 0, 1) := by decide +kernel
theorem dX8_punish_26 : decode cX8_punish 26 = .ok (.goto 4, 3) := by decide +kernel
theorem dX8_punish_29 : decode cX8_punish 29 = .ok (.iconst 2, 1) := by decide +kernel
theorem dX8_punish_30 : decode cX8_punish 30 = .ok (.invokevirtual 151, 3) := by decide +kernel
theorem dX8_punish_33 : decode cX8_punish 33 = .ok (.ifCond .eq 5, 3) := by decide +kernel
theorem dX8_punish_36 : decode cX8_punish 36 = .ok (.iconst 0, 1) := by decide +kernel
theorem dX8_punish_37 : decode cX8_punish 37 = .ok (.ireturn, 1) := by decide +kernel
theorem dX8_punish_38 : decode cX8_punish 38 = .ok (.aload_n 0, 1) := by decide +kernel
theorem dX8_punish_39 : decode cX8_punish 39 = .ok (.invokevirtual 281, 3) := by decide +kernel
theorem dX8_punish_42 : decode cX8_punish 42 = .ok (.aload_n 0, 1) := by decide +kernel
theorem dX8_punish_43 : decode cX8_punish 43 = .ok (.getfield 16, 3) := by decide +kernel
theorem dX8_punish_46 : decode cX8_punish 46 = .ok (.iload_n 1, 1) := by decide +kernel
theorem dX8_punish_47 : decode cX8_punish 47 = .ok (.iload_n 2, 1) := by decide +kernel
theorem dX8_punish_48 : decode cX8_punish 48 = .ok (.invokestatic 295, 3) := by decide +kernel
theorem dX8_punish_51 : decode cX8_punish 51 = .ok (.ireturn, 1) := by decide +kernel
set_option maxRecDepth 20000 in
theorem ggX8_wish_X8_isPrisoner : GoodIn wsX8_wish wsX8_isPrisoner := goodIn_r _ [6, 1, 7, 8, 5, 9, 40, 41, 42, 43, 44, 45, 46, 47, 48, 49, 50, 51, 52, 53, 54, 55, 56] (by decide +kernel) (by decide +kernel)
set_option maxRecDepth 20000 in
theorem gX8_wish_X8_isPrisoner : GoodIn wsX8_wish (wsV RX8 233 RX8 yX8_isPrisoner wsX8_isPrisoner) := goodIn_app (goodIn_of _ (by decide +kernel)) ggX8_wish_X8_isPrisoner
set_option maxRecDepth 20000 in
theorem ggX8_wish_X8_isVisitor : GoodIn wsX8_wish wsX8_isVisitor := goodIn_r _ [12, 13, 7, 8, 5, 9] (by decide +kernel) (by decide +kernel)
set_option maxRecDepth 20000 in
theorem gX8_wish_X8_isVisitor : GoodIn wsX8_wish (va_wsS RX8 243 yX8_isVisitor wsX8_isVisitor) := goodIn_app (goodIn_of _ (by decide +kernel)) ggX8_wish_X8_isVisitor
set_option maxRecDepth 20000 in
theorem ggX8_wish_X8_canWish : GoodIn wsX8_wish wsX8_canWish := goodIn_r _ [16, 17, 18, 5, 19, 20, 21, 22] (by decide +kernel) (by decide +kernel)
set_option maxRecDepth 20000 in
theorem gX8_wish_X8_canWish : GoodIn wsX8_wish (va_wsS RX8 199 yX8_canWish wsX8_canWish) := goodIn_app (goodIn_of _ (by decide +kernel)) ggX8_wish_X8_canWish
set_option maxRecDepth 20000 in
theorem ggX8_wish_X8_refused : GoodIn wsX8_wish wsX8_refused := goodIn_r _ [26, 27, 40, 41, 42, 43, 44, 45, 46, 47, 48, 49, 50, 51, 52, 53, 54, 55, 56] (by decide +kernel) (by decide +kernel)
set_option maxRecDepth 20000 in
theorem gX8_wish_X8_refused : GoodIn wsX8_wish (wsV RX8 151 RX8 yX8_refused wsX8_refused) := goodIn_app (goodIn_of _ (by decide +kernel)) ggX8_wish_X8_refused
set_option maxRecDepth 20000 in
theorem ggX8_wish_X8_remember : GoodIn wsX8_wish wsX8_remember := goodIn_r _ [31, 32, 33, 1, 34, 35, 5, 36, 40, 41, 42, 43, 44, 45, 46, 47, 48, 49, 50, 51, 52, 53, 54, 55, 56] (by decide +kernel) (by decide +kernel)
set_option maxRecDepth 20000 in
theorem gX8_wish_X8_remember : GoodIn wsX8_wish (wsV RX8 281 RX8 yX8_remember wsX8_remember) := goodIn_app (goodIn_of _ (by decide +kernel)) ggX8_wish_X8_remember
set_option maxRecDepth 20000 in
theorem ggX8_wish_X8_wishIn : GoodIn wsX8_wish wsX8_wishIn := goodIn_r _ [39] (by decide +kernel) (by decide +kernel)
set_option maxRecDepth 20000 in
theorem gX8_wish_X8_wishIn : GoodIn wsX8_wish (va_wsS RX8 202 yX8_wishIn wsX8_wishIn) := goodIn_app (goodIn_of _ (by decide +kernel)) ggX8_wish_X8_wishIn
theorem dX8_wish_0 : decode cX8_wish 0 = .ok (.aload_n 0, 1) := by decide +kernel
theorem dX8_wish_1 : decode cX8_wish 1 = .ok (.aload_n 0, 1) := by decide +kernel
theorem dX8_wish_2 : decode cX8_wish 2 = .ok (.iload_n 1, 1) := by decide +kernel
theorem dX8_wish_3 : decode cX8_wish 3 = .ok (.invokevirtual 233, 3) := by decide +kernel
theorem dX8_wish_6 : decode cX8_wish 6 = .ok (.ifCond .eq 10, 3) := by decide +kernel
theorem dX8_wish_9 : decode cX8_wish 9 = .ok (.iload_n 2, 1) := by decide +kernel
theorem dX8_wish_10 : decode cX8_wish 10 = .ok (.invokestatic 243, 3) := by decide +kernel
theorem dX8_wish_13 : decode cX8_wish 13 = .ok (.ifCond .ne 7, 3) := by decide +kernel
theorem dX8_wish_16 : decode cX8_wish 16 = .ok (.iconst 1, 1) := by decide +kernel
theorem dX8_wish_17 : decode cX8_wish 17 = .ok (.goto 20, 3) := by decide +kernel
theorem dX8_wish_20 : decode cX8_wish 20 = .ok (.aload_n 0, 1) := by decide +kernel
theorem dX8_wish_21 : decode cX8_wish 21 = .ok (.getfield 16, 3) := by decide +kernel
theorem dX8_wish_24 : decode cX8_wish 24 = .ok (.iload_n 1, 1) := by decide +kernel
theorem dX8_wish_25 : decode cX8_wish 25 = .ok (.iload_n 2, 1) := by decide +kernel
theorem dX8_wish_26 : decode cX8_wish 26 = .ok (.invokestatic 199, 3) := by decide +kernel
theorem dX8_wish_29 : decode cX8_wish 29 = .ok (.ifCond .eq 7, 3) := by decide +kernel
theorem dX8_wish_32 : decode cX8_wish 32 = .ok (.iconst 0, 1) := by decide +kernel
theorem dX8_wish_33 : decode cX8_wish 33 = .ok (.goto 4, 3) := by decide +kernel
theorem dX8_wish_36 : decode cX8_wish 36 = .ok (.iconst 2, 1) := by decide +kernel
theorem dX8_wish_37 : decode cX8_wish 37 = .ok (.invokevirtual 151, 3) := by decide +kernel
theorem dX8_wish_40 : decode cX8_wish 40 = .ok (.ifCond .eq 5, 3) := by decide +kernel
theorem dX8_wish_43 : decode cX8_wish 43 = .ok (.iconst 0, 1) := by decide +kernel
theorem dX8_wish_44 : decode cX8_wish 44 = .ok (.ireturn, 1) := by decide +kernel
theorem dX8_wish_45 : decode cX8_wish 45 = .ok (.aload_n 0, 1) := by decide +kernel
theorem dX8_wish_46 : decode cX8_wish 46 = .ok (.invokevirtual 281, 3) := by decide +kernel
theorem dX8_wish_49 : decode cX8_wish 49 = .ok (.aload_n 0, 1) := by decide +kernel
theorem dX8_wish_50 : decode cX8_wish 50 = .ok (.getfield 16, 3) := by decide +kernel
theorem dX8_wish_53 : decode cX8_wish 53 = .ok (.iload_n 1, 1) := by decide +kernel
theorem dX8_wish_54 : decode cX8_wish 54 = .ok (.iload_n 2, 1) := by decide +kernel
theorem dX8_wish_55 : decode cX8_wish 55 = .ok (.invokestatic 202, 3) := by decide +kernel
theorem dX8_wish_58 : decode cX8_wish 58 = .ok (.ireturn, 1) := by decide +kernel
set_option maxRecDepth 20000 in
theorem ggX8_isRun_X8_in : GoodIn wsX8_isRun wsX8_in := goodIn_r _ [5] (by decide +kernel) (by decide +kernel)
set_option maxRecDepth 20000 in
theorem gX8_isRun_X8_in : GoodIn wsX8_isRun (va_wsS RX8 140 yX8_in wsX8_in) := goodIn_app (goodIn_of _ (by decide +kernel)) ggX8_isRun_X8_in
theorem dX8_isRun_0 : decode cX8_isRun 0 = .ok (.iload_n 0, 1) := by decide +kernel
theorem dX8_isRun_1 : decode cX8_isRun 1 = .ok (.i2l, 1) := by decide +kernel
theorem dX8_isRun_2 : decode cX8_isRun 2 = .ok (.lconst 1, 1) := by decide +kernel
theorem dX8_isRun_3 : decode cX8_isRun 3 = .ok (.ldc2_w 298, 3) := by decide +kernel
theorem dX8_isRun_6 : decode cX8_isRun 6 = .ok (.invokestatic 140, 3) := by decide +kernel
theorem dX8_isRun_9 : decode cX8_isRun 9 = .ok (.ireturn, 1) := by decide +kernel
set_option maxRecDepth 20000 in
theorem ggX8_run_X8_isRun : GoodIn wsX8_run wsX8_isRun := goodIn_r _ [5, 6, 7, 8, 4, 9] (by decide +kernel) (by decide +kernel)
set_option maxRecDepth 20000 in
theorem gX8_run_X8_isRun : GoodIn wsX8_run (va_wsS RX8 300 yX8_isRun wsX8_isRun) := goodIn_app (goodIn_of _ (by decide +kernel)) ggX8_run_X8_isRun
set_option maxRecDepth 20000 in
theorem ggX8_run_X8_refused : GoodIn wsX8_run wsX8_refused := goodIn_r _ [13, 14, 105, 106, 107, 108, 109, 110, 111, 112, 113, 114, 115, 116, 117, 118, 119, 120, 121] (by decide +kernel) (by decide +kernel)
set_option maxRecDepth 20000 in
theorem gX8_run_X8_refused : GoodIn wsX8_run (wsV RX8 151 RX8 yX8_refused wsX8_refused) := goodIn_app (goodIn_of _ (by decide +kernel)) ggX8_run_X8_refused
set_option maxRecDepth 20000 in
theorem ggX8_run_X8_remember : GoodIn wsX8_run wsX8_remember := goodIn_r _ [18, 19, 20, 1, 21, 22, 4, 23, 105, 106, 107, 108, 109, 110, 111, 112, 113, 114, 115, 116, 117, 118, 119, 120, 121] (by decide +kernel) (by decide +kernel)
set_option maxRecDepth 20000 in
theorem gX8_run_X8_remember : GoodIn wsX8_run (wsV RX8 281 RX8 yX8_remember wsX8_remember) := goodIn_app (goodIn_of _ (by decide +kernel)) ggX8_run_X8_remember
set_option maxRecDepth 20000 in
theorem ggX8_run_X8_runIn : GoodIn wsX8_run wsX8_runIn := goodIn_r _ [27, 28, 29, 30, 4, 31, 32, 33, 34, 35, 36, 37, 38, 39, 40, 41, 42, 43, 44, 45, 46, 47, 48, 49, 50, 51, 52, 53, 54, 55, 56, 57, 58, 59, 60, 61, 62, 63, 64, 65, 66, 67, 68, 69, 70, 71, 72, 73, 74, 75, 76, 77, 78, 79, 80, 81, 82, 83, 84, 85, 86, 87, 88, 89, 21, 22, 23, 90, 91, 92, 93, 94, 95, 96, 97, 98, 99, 100, 101, 102, 103, 104, 105, 106, 107, 108, 109, 110, 111, 112, 113, 114, 115, 116, 117, 118, 119, 120, 121] (by decide +kernel) (by decide +kernel)
set_option maxRecDepth 20000 in
theorem gX8_run_X8_runIn : GoodIn wsX8_run (wsV RX8 205 RX8 yX8_runIn wsX8_runIn) := goodIn_app (goodIn_of _ (by decide +kernel)) ggX8_run_X8_runIn
theorem dX8_run_0 : decode cX8_run 0 = .ok (.aload_n 0, 1) := by decide +kernel
theorem dX8_run_1 : decode cX8_run 1 = .ok (.iload_n 1, 1) := by decide +kernel
theorem dX8_run_2 : decode cX8_run 2 = .ok (.invokestatic 300, 3) := by decide +kernel
theorem dX8_run_5 : decode cX8_run 5 = .ok (.ifCond .eq 7, 3) := by decide +kernel
theorem dX8_run_8 : decode cX8_run 8 = .ok (.iconst 0, 1) := by decide +kernel
theorem dX8_run_9 : decode cX8_run 9 = .ok (.goto 4, 3) := by decide +kernel
theorem dX8_run_12 : decode cX8_run 12 = .ok (.iconst 1, 1) := by decide +kernel
theorem dX8_run_13 : decode cX8_run 13 = .ok (.invokevirtual 151, 3) := by decide +kernel
theorem dX8_run_16 : decode cX8_run 16 = .ok (.ifCond .eq 5, 3) := by decide +kernel
theorem dX8_run_19 : decode cX8_run 19 = .ok (.iconst 0, 1) := by decide +kernel
theorem dX8_run_20 : decode cX8_run 20 = .ok (.ireturn, 1) := by decide +kernel
theorem dX8_run_21 : decode cX8_run 21 = .ok (.aload_n 0, 1) := by decide +kernel
theorem dX8_run_22 : decode cX8_run 22 = .ok (.invokevirtual 281, 3) := by decide +kernel
theorem dX8_run_25 : decode cX8_run 25 = .ok (.aload_n 0, 1) := by decide +kernel
theorem dX8_run_26 : decode cX8_run 26 = .ok (.aload_n 0, 1) := by decide +kernel
theorem dX8_run_27 : decode cX8_run 27 = .ok (.getfield 16, 3) := by decide +kernel
theorem dX8_run_30 : decode cX8_run 30 = .ok (.iload_n 1, 1) := by decide +kernel
theorem dX8_run_31 : decode cX8_run 31 = .ok (.invokevirtual 205, 3) := by decide +kernel
theorem dX8_run_34 : decode cX8_run 34 = .ok (.ireturn, 1) := by decide +kernel
set_option maxRecDepth 20000 in
theorem ggX8_isSetting_X8_in : GoodIn wsX8_isSetting wsX8_in := goodIn_r _ [5] (by decide +kernel) (by decide +kernel)
set_option maxRecDepth 20000 in
theorem gX8_isSetting_X8_in : GoodIn wsX8_isSetting (va_wsS RX8 140 yX8_in wsX8_in) := goodIn_app (goodIn_of _ (by decide +kernel)) ggX8_isSetting_X8_in
theorem dX8_isSetting_0 : decode cX8_isSetting 0 = .ok (.iload_n 0, 1) := by decide +kernel
theorem dX8_isSetting_1 : decode cX8_isSetting 1 = .ok (.ifCond .ne 7, 3) := by decide +kernel
theorem dX8_isSetting_4 : decode cX8_isSetting 4 = .ok (.iconst 4, 1) := by decide +kernel
theorem dX8_isSetting_5 : decode cX8_isSetting 5 = .ok (.goto 25, 3) := by decide +kernel
theorem dX8_isSetting_8 : decode cX8_isSetting 8 = .ok (.iload_n 0, 1) := by decide +kernel
theorem dX8_isSetting_9 : decode cX8_isSetting 9 = .ok (.iconst 1, 1) := by decide +kernel
theorem dX8_isSetting_10 : decode cX8_isSetting 10 = .ok (.if_icmp .ne 8, 3) := by decide +kernel
theorem dX8_isSetting_13 : decode cX8_isSetting 13 = .ok (.bipush 9, 2) := by decide +kernel
theorem dX8_isSetting_15 : decode cX8_isSetting 15 = .ok (.goto 15, 3) := by decide +kernel
theorem dX8_isSetting_18 : decode cX8_isSetting 18 = .ok (.iload_n 0, 1) := by decide +kernel
theorem dX8_isSetting_19 : decode cX8_isSetting 19 = .ok (.iconst 4, 1) := by decide +kernel
theorem dX8_isSetting_20 : decode cX8_isSetting 20 = .ok (.if_icmp .ne 8, 3) := by decide +kernel
theorem dX8_isSetting_23 : decode cX8_isSetting 23 = .ok (.bipush 59, 2) := by decide +kernel
theorem dX8_isSetting_25 : decode cX8_isSetting 25 = .ok (.goto 5, 3) := by decide +kernel
theorem dX8_isSetting_28 : decode cX8_isSetting 28 = .ok (.bipush 99, 2) := by decide +kernel
theorem dX8_isSetting_30 : decode cX8_isSetting 30 = .ok (.istore_n 2, 1) := by decide +kernel
theorem dX8_isSetting_31 : decode cX8_isSetting 31 = .ok (.iload_n 0, 1) := by decide +kernel
theorem dX8_isSetting_32 : decode cX8_isSetting 32 = .ok (.i2l, 1) := by decide +kernel
theorem dX8_isSetting_33 : decode cX8_isSetting 33 = .ok (.lconst 0, 1) := by decide +kernel
theorem dX8_isSetting_34 : decode cX8_isSetting 34 = .ok (.ldc2_w 254, 3) := by decide +kernel
theorem dX8_isSetting_37 : decode cX8_isSetting 37 = .ok (.invokestatic 140, 3) := by decide +kernel
theorem dX8_isSetting_40 : decode cX8_isSetting 40 = .ok (.ifCond .eq 27, 3) := by decide +kernel
theorem dX8_isSetting_43 : decode cX8_isSetting 43 = .ok (.iload_n 1, 1) := by decide +kernel
theorem dX8_isSetting_44 : decode cX8_isSetting 44 = .ok (.i2l, 1) := by decide +kernel
theorem dX8_isSetting_45 : decode cX8_isSetting 45 = .ok (.iload_n 0, 1) := by decide +kernel
theorem dX8_isSetting_46 : decode cX8_isSetting 46 = .ok (.iconst 4, 1) := by decide +kernel
theorem dX8_isSetting_47 : decode cX8_isSetting 47 = .ok (.if_icmp .ge 7, 3) := by decide +kernel
theorem dX8_isSetting_50 : decode cX8_isSetting 50 = .ok (.lconst 1, 1) := by decide +kernel
theorem dX8_isSetting_51 : decode cX8_isSetting 51 = .ok (.goto 4, 3) := by decide +kernel
theorem dX8_isSetting_54 : decode cX8_isSetting 54 = .ok (.lconst 0, 1) := by decide +kernel
theorem dX8_isSetting_55 : decode cX8_isSetting 55 = .ok (.iload_n 2, 1) := by decide +kernel
theorem dX8_isSetting_56 : decode cX8_isSetting 56 = .ok (.i2l, 1) := by decide +kernel
theorem dX8_isSetting_57 : decode cX8_isSetting 57 = .ok (.invokestatic 140, 3) := by decide +kernel
theorem dX8_isSetting_60 : decode cX8_isSetting 60 = .ok (.ifCond .eq 7, 3) := by decide +kernel
theorem dX8_isSetting_63 : decode cX8_isSetting 63 = .ok (.iconst 1, 1) := by decide +kernel
theorem dX8_isSetting_64 : decode cX8_isSetting 64 = .ok (.goto 4, 3) := by decide +kernel
theorem dX8_isSetting_67 : decode cX8_isSetting 67 = .ok (.iconst 0, 1) := by decide +kernel
theorem dX8_isSetting_68 : decode cX8_isSetting 68 = .ok (.ireturn, 1) := by decide +kernel
set_option maxRecDepth 20000 in
theorem ggX8_set_X8_isSetting : GoodIn wsX8_set wsX8_isSetting := goodIn_r _ [5, 6, 7, 8, 4, 9] (by decide +kernel) (by decide +kernel)
set_option maxRecDepth 20000 in
theorem gX8_set_X8_isSetting : GoodIn wsX8_set (va_wsS RX8 303 yX8_isSetting wsX8_isSetting) := goodIn_app (goodIn_of _ (by decide +kernel)) ggX8_set_X8_isSetting
set_option maxRecDepth 20000 in
theorem ggX8_set_X8_refused : GoodIn wsX8_set wsX8_refused := goodIn_r _ [13, 14, 24, 25, 26, 27, 28, 29, 30, 31, 32, 33, 34, 35, 36, 37, 38, 39, 40] (by decide +kernel) (by decide +kernel)
set_option maxRecDepth 20000 in
theorem gX8_set_X8_refused : GoodIn wsX8_set (wsV RX8 151 RX8 yX8_refused wsX8_refused) := goodIn_app (goodIn_of _ (by decide +kernel)) ggX8_set_X8_refused
set_option maxRecDepth 20000 in
theorem ggX8_set_X8_remember : GoodIn wsX8_set wsX8_remember := goodIn_r _ [18, 19, 20, 1, 21, 22, 4, 23, 24, 25, 26, 27, 28, 29, 30, 31, 32, 33, 34, 35, 36, 37, 38, 39, 40] (by decide +kernel) (by decide +kernel)
set_option maxRecDepth 20000 in
theorem gX8_set_X8_remember : GoodIn wsX8_set (wsV RX8 281 RX8 yX8_remember wsX8_remember) := goodIn_app (goodIn_of _ (by decide +kernel)) ggX8_set_X8_remember
theorem dX8_set_0 : decode cX8_set 0 = .ok (.aload_n 0, 1) := by decide +kernel
theorem dX8_set_1 : decode cX8_set 1 = .ok (.iload_n 1, 1) := by decide +kernel
theorem dX8_set_2 : decode cX8_set 2 = .ok (.iload_n 2, 1) := by decide +kernel
theorem dX8_set_3 : decode cX8_set 3 = .ok (.invokestatic 303, 3) := by decide +kernel
theorem dX8_set_6 : decode cX8_set 6 = .ok (.ifCond .eq 7, 3) := by decide +kernel
theorem dX8_set_9 : decode cX8_set 9 = .ok (.iconst 0, 1) := by decide +kernel
theorem dX8_set_10 : decode cX8_set 10 = .ok (.goto 4, 3) := by decide +kernel
theorem dX8_set_13 : decode cX8_set 13 = .ok (.iconst 1, 1) := by decide +kernel
theorem dX8_set_14 : decode cX8_set 14 = .ok (.invokevirtual 151, 3) := by decide +kernel
theorem dX8_set_17 : decode cX8_set 17 = .ok (.ifCond .eq 5, 3) := by decide +kernel
theorem dX8_set_20 : decode cX8_set 20 = .ok (.iconst 0, 1) := by decide +kernel
theorem dX8_set_21 : decode cX8_set 21 = .ok (.ireturn, 1) := by decide +kernel
theorem dX8_set_22 : decode cX8_set 22 = .ok (.aload_n 0, 1) := by decide +kernel
theorem dX8_set_23 : decode cX8_set 23 = .ok (.invokevirtual 281, 3) := by decide +kernel
theorem dX8_set_26 : decode cX8_set 26 = .ok (.aload_n 0, 1) := by decide +kernel
theorem dX8_set_27 : decode cX8_set 27 = .ok (.getfield 16, 3) := by decide +kernel
theorem dX8_set_30 : decode cX8_set 30 = .ok (.bipush 9, 2) := by decide +kernel
theorem dX8_set_32 : decode cX8_set 32 = .ok (.iload_n 1, 1) := by decide +kernel
theorem dX8_set_33 : decode cX8_set 33 = .ok (.iadd, 1) := by decide +kernel
theorem dX8_set_34 : decode cX8_set 34 = .ok (.iaload, 1) := by decide +kernel
theorem dX8_set_35 : decode cX8_set 35 = .ok (.istore_n 3, 1) := by decide +kernel
theorem dX8_set_36 : decode cX8_set 36 = .ok (.aload_n 0, 1) := by decide +kernel
theorem dX8_set_37 : decode cX8_set 37 = .ok (.getfield 16, 3) := by decide +kernel
theorem dX8_set_40 : decode cX8_set 40 = .ok (.bipush 9, 2) := by decide +kernel
theorem dX8_set_42 : decode cX8_set 42 = .ok (.iload_n 1, 1) := by decide +kernel
theorem dX8_set_43 : decode cX8_set 43 = .ok (.iadd, 1) := by decide +kernel
theorem dX8_set_44 : decode cX8_set 44 = .ok (.iload_n 2, 1) := by decide +kernel
theorem dX8_set_45 : decode cX8_set 45 = .ok (.iastore, 1) := by decide +kernel
theorem dX8_set_46 : decode cX8_set 46 = .ok (.iload_n 3, 1) := by decide +kernel
theorem dX8_set_47 : decode cX8_set 47 = .ok (.ireturn, 1) := by decide +kernel
set_option maxRecDepth 20000 in
theorem ggX8_undo_X8_refused : GoodIn wsX8_undo wsX8_refused := goodIn_r _ [8, 9, 13, 14, 15, 16, 17, 18, 19, 20, 21, 22, 23, 24, 25, 26, 27, 28, 29] (by decide +kernel) (by decide +kernel)
set_option maxRecDepth 20000 in
theorem gX8_undo_X8_refused : GoodIn wsX8_undo (wsV RX8 151 RX8 yX8_refused wsX8_refused) := goodIn_app (goodIn_of _ (by decide +kernel)) ggX8_undo_X8_refused
set_option maxRecDepth 20000 in
theorem ggX8_undo_X8_copy : GoodIn wsX8_undo wsX8_copy := goodIn_r _ [12] (by decide +kernel) (by decide +kernel)
set_option maxRecDepth 20000 in
theorem gX8_undo_X8_copy : GoodIn wsX8_undo (va_wsS RX8 48 yX8_copy wsX8_copy) := goodIn_app (goodIn_of _ (by decide +kernel)) ggX8_undo_X8_copy
theorem dX8_undo_0 : decode cX8_undo 0 = .ok (.aload_n 0, 1) := by decide +kernel
theorem dX8_undo_1 : decode cX8_undo 1 = .ok (.aload_n 0, 1) := by decide +kernel
theorem dX8_undo_2 : decode cX8_undo 2 = .ok (.getfield 45, 3) := by decide +kernel
theorem dX8_undo_5 : decode cX8_undo 5 = .ok (.ifCond .ne 7, 3) := by decide +kernel
theorem dX8_undo_8 : decode cX8_undo 8 = .ok (.iconst 1, 1) := by decide +kernel
theorem dX8_undo_9 : decode cX8_undo 9 = .ok (.goto 4, 3) := by decide +kernel
theorem dX8_undo_12 : decode cX8_undo 12 = .ok (.iconst 0, 1) := by decide +kernel
theorem dX8_undo_13 : decode cX8_undo 13 = .ok (.invokevirtual 151, 3) := by decide +kernel
theorem dX8_undo_16 : decode cX8_undo 16 = .ok (.ifCond .eq 5, 3) := by decide +kernel
theorem dX8_undo_19 : decode cX8_undo 19 = .ok (.iconst 0, 1) := by decide +kernel
theorem dX8_undo_20 : decode cX8_undo 20 = .ok (.ireturn, 1) := by decide +kernel
theorem dX8_undo_21 : decode cX8_undo 21 = .ok (.aload_n 0, 1) := by decide +kernel
theorem dX8_undo_22 : decode cX8_undo 22 = .ok (.dup, 1) := by decide +kernel
theorem dX8_undo_23 : decode cX8_undo 23 = .ok (.getfield 45, 3) := by decide +kernel
theorem dX8_undo_26 : decode cX8_undo 26 = .ok (.iconst 1, 1) := by decide +kernel
theorem dX8_undo_27 : decode cX8_undo 27 = .ok (.isub, 1) := by decide +kernel
theorem dX8_undo_28 : decode cX8_undo 28 = .ok (.putfield 45, 3) := by decide +kernel
theorem dX8_undo_31 : decode cX8_undo 31 = .ok (.aload_n 0, 1) := by decide +kernel
theorem dX8_undo_32 : decode cX8_undo 32 = .ok (.getfield 22, 3) := by decide +kernel
theorem dX8_undo_35 : decode cX8_undo 35 = .ok (.sipush 271, 3) := by decide +kernel
theorem dX8_undo_38 : decode cX8_undo 38 = .ok (.aload_n 0, 1) := by decide +kernel
theorem dX8_undo_39 : decode cX8_undo 39 = .ok (.getfield 45, 3) := by decide +kernel
theorem dX8_undo_42 : decode cX8_undo 42 = .ok (.imul, 1) := by decide +kernel
theorem dX8_undo_43 : decode cX8_undo 43 = .ok (.aload_n 0, 1) := by decide +kernel
theorem dX8_undo_44 : decode cX8_undo 44 = .ok (.getfield 16, 3) := by decide +kernel
theorem dX8_undo_47 : decode cX8_undo 47 = .ok (.iconst 0, 1) := by decide +kernel
theorem dX8_undo_48 : decode cX8_undo 48 = .ok (.sipush 271, 3) := by decide +kernel
theorem dX8_undo_51 : decode cX8_undo 51 = .ok (.invokestatic 48, 3) := by decide +kernel
theorem dX8_undo_54 : decode cX8_undo 54 = .ok (.aload_n 0, 1) := by decide +kernel
theorem dX8_undo_55 : decode cX8_undo 55 = .ok (.getfield 45, 3) := by decide +kernel
theorem dX8_undo_58 : decode cX8_undo 58 = .ok (.ireturn, 1) := by decide +kernel
set_option maxRecDepth 20000 in
theorem ggX8_whyNot_X8_isPrisoner : GoodIn wsX8_whyNot wsX8_isPrisoner := goodIn_r _ [6, 1, 7, 8, 5, 9, 60, 61, 62, 63, 64, 65, 66, 67, 68, 69, 70, 71, 72, 73, 74, 75, 76] (by decide +kernel) (by decide +kernel)
set_option maxRecDepth 20000 in
theorem gX8_whyNot_X8_isPrisoner : GoodIn wsX8_whyNot (wsV RX8 233 RX8 yX8_isPrisoner wsX8_isPrisoner) := goodIn_app (goodIn_of _ (by decide +kernel)) ggX8_whyNot_X8_isPrisoner
set_option maxRecDepth 20000 in
theorem ggX8_whyNot_X8_isVisitor : GoodIn wsX8_whyNot wsX8_isVisitor := goodIn_r _ [12, 13, 7, 8, 5, 9] (by decide +kernel) (by decide +kernel)
set_option maxRecDepth 20000 in
theorem gX8_whyNot_X8_isVisitor : GoodIn wsX8_whyNot (va_wsS RX8 243 yX8_isVisitor wsX8_isVisitor) := goodIn_app (goodIn_of _ (by decide +kernel)) ggX8_whyNot_X8_isVisitor
set_option maxRecDepth 20000 in
theorem ggX8_whyNot_X8_isTime : GoodIn wsX8_whyNot wsX8_isTime := goodIn_r _ [16, 17, 18, 7, 8, 5, 9] (by decide +kernel) (by decide +kernel)
set_option maxRecDepth 20000 in
theorem gX8_whyNot_X8_isTime : GoodIn wsX8_whyNot (va_wsS RX8 196 yX8_isTime wsX8_isTime) := goodIn_app (goodIn_of _ (by decide +kernel)) ggX8_whyNot_X8_isTime
set_option maxRecDepth 20000 in
theorem ggX8_whyNot_X8_refused : GoodIn wsX8_whyNot wsX8_refused := goodIn_r _ [22, 23, 60, 61, 62, 63, 64, 65, 66, 67, 68, 69, 70, 71, 72, 73, 74, 75, 76] (by decide +kernel) (by decide +kernel)
set_option maxRecDepth 20000 in
theorem gX8_whyNot_X8_refused : GoodIn wsX8_whyNot (wsV RX8 151 RX8 yX8_refused wsX8_refused) := goodIn_app (goodIn_of _ (by decide +kernel)) ggX8_whyNot_X8_refused
set_option maxRecDepth 20000 in
theorem ggX8_whyNot_X8_why : GoodIn wsX8_whyNot wsX8_why := goodIn_r _ [26, 27, 28, 5, 29, 30, 31, 32, 33, 34, 35, 36, 37, 38, 39, 40, 41, 42, 43, 44, 45, 46, 47, 48, 49, 50, 51, 52, 53, 54, 55, 56, 57, 58, 59] (by decide +kernel) (by decide +kernel)
set_option maxRecDepth 20000 in
theorem gX8_whyNot_X8_why : GoodIn wsX8_whyNot (va_wsS RX8 96 yX8_why wsX8_why) := goodIn_app (goodIn_of _ (by decide +kernel)) ggX8_whyNot_X8_why
theorem dX8_whyNot_0 : decode cX8_whyNot 0 = .ok (.aload_n 0, 1) := by decide +kernel
theorem dX8_whyNot_1 : decode cX8_whyNot 1 = .ok (.aload_n 0, 1) := by decide +kernel
theorem dX8_whyNot_2 : decode cX8_whyNot 2 = .ok (.iload_n 1, 1) := by decide +kernel
theorem dX8_whyNot_3 : decode cX8_whyNot 3 = .ok (.invokevirtual 233, 3) := by decide +kernel
theorem dX8_whyNot_6 : decode cX8_whyNot 6 = .ok (.ifCond .eq 10, 3) := by decide +kernel
theorem dX8_whyNot_9 : decode cX8_whyNot 9 = .ok (.iload_n 2, 1) := by decide +kernel
theorem dX8_whyNot_10 : decode cX8_whyNot 10 = .ok (.invokestatic 243, 3) := by decide +kernel
theorem dX8_whyNot_13 : decode cX8_whyNot 13 = .ok (.ifCond .ne 7, 3) := by decide +kernel
theorem dX8_whyNot_16 : decode cX8_whyNot 16 = .ok (.iconst 1, 1) := by decide +kernel
theorem dX8_whyNot_17 : decode cX8_whyNot 17 = .ok (.goto 21, 3) := by decide +kernel
theorem dX8_whyNot_20 : decode cX8_whyNot 20 = .ok (.aload_n 0, 1) := by decide +kernel
theorem dX8_whyNot_21 : decode cX8_whyNot 21 = .ok (.getfield 16, 3) := by decide +kernel
theorem dX8_whyNot_24 : decode cX8_whyNot 24 = .ok (.iload_n 3, 1) := by decide +kernel
theorem dX8_whyNot_25 : decode cX8_whyNot 25 = .ok (.iload 4, 2) := by decide +kernel
theorem dX8_whyNot_27 : decode cX8_whyNot 27 = .ok (.invokestatic 196, 3) := by decide +kernel
theorem dX8_whyNot_30 : decode cX8_whyNot 30 = .ok (.ifCond .eq 7, 3) := by decide +kernel
theorem dX8_whyNot_33 : decode cX8_whyNot 33 = .ok (.iconst 0, 1) := by decide +kernel
theorem dX8_whyNot_34 : decode cX8_whyNot 34 = .ok (.goto 4, 3) := by decide +kernel
theorem dX8_whyNot_37 : decode cX8_whyNot 37 = .ok (.iconst 2, 1) := by decide +kernel
theorem dX8_whyNot_38 : decode cX8_whyNot 38 = .ok (.invokevirtual 151, 3) := by decide +kernel
theorem dX8_whyNot_41 : decode cX8_whyNot 41 = .ok (.ifCond .eq 5, 3) := by decide +kernel
theorem dX8_whyNot_44 : decode cX8_whyNot 44 = .ok (.iconst 0, 1) := by decide +kernel
theorem dX8_whyNot_45 : decode cX8_whyNot 45 = .ok (.ireturn, 1) := by decide +kernel
theorem dX8_whyNot_46 : decode cX8_whyNot 46 = .ok (.aload_n 0, 1) := by decide +kernel
theorem dX8_whyNot_47 : decode cX8_whyNot 47 = .ok (.getfield 16, 3) := by decide +kernel
theorem dX8_whyNot_50 : decode cX8_whyNot 50 = .ok (.iload_n 1, 1) := by decide +kernel
theorem dX8_whyNot_51 : decode cX8_whyNot 51 = .ok (.iload_n 2, 1) := by decide +kernel
theorem dX8_whyNot_52 : decode cX8_whyNot 52 = .ok (.iload_n 3, 1) := by decide +kernel
theorem dX8_whyNot_53 : decode cX8_whyNot 53 = .ok (.iload 4, 2) := by decide +kernel
theorem dX8_whyNot_55 : decode cX8_whyNot 55 = .ok (.invokestatic 96, 3) := by decide +kernel
theorem dX8_whyNot_58 : decode cX8_whyNot 58 = .ok (.ireturn, 1) := by decide +kernel
set_option maxRecDepth 20000 in
theorem ggX8_firstTime_X8_isPrisoner : GoodIn wsX8_firstTime wsX8_isPrisoner := goodIn_r _ [6, 1, 7, 8, 5, 9, 58, 59, 60, 61, 62, 63, 64, 65, 66, 67, 68, 69, 70, 71, 72, 73, 74] (by decide +kernel) (by decide +kernel)
set_option maxRecDepth 20000 in
theorem gX8_firstTime_X8_isPrisoner : GoodIn wsX8_firstTime (wsV RX8 233 RX8 yX8_isPrisoner wsX8_isPrisoner) := goodIn_app (goodIn_of _ (by decide +kernel)) ggX8_firstTime_X8_isPrisoner
set_option maxRecDepth 20000 in
theorem ggX8_firstTime_X8_isVisitor : GoodIn wsX8_firstTime wsX8_isVisitor := goodIn_r _ [12, 13, 7, 8, 5, 9] (by decide +kernel) (by decide +kernel)
set_option maxRecDepth 20000 in
theorem gX8_firstTime_X8_isVisitor : GoodIn wsX8_firstTime (va_wsS RX8 243 yX8_isVisitor wsX8_isVisitor) := goodIn_app (goodIn_of _ (by decide +kernel)) ggX8_firstTime_X8_isVisitor
set_option maxRecDepth 20000 in
theorem ggX8_firstTime_X8_refused : GoodIn wsX8_firstTime wsX8_refused := goodIn_r _ [17, 18, 58, 59, 60, 61, 62, 63, 64, 65, 66, 67, 68, 69, 70, 71, 72, 73, 74] (by decide +kernel) (by decide +kernel)
set_option maxRecDepth 20000 in
theorem gX8_firstTime_X8_refused : GoodIn wsX8_firstTime (wsV RX8 151 RX8 yX8_refused wsX8_refused) := goodIn_app (goodIn_of _ (by decide +kernel)) ggX8_firstTime_X8_refused
set_option maxRecDepth 20000 in
theorem ggX8_firstTime_X8_firstIn : GoodIn wsX8_firstTime wsX8_firstIn := goodIn_r _ [21, 22, 23, 5, 24, 25, 26, 27, 28, 29, 30, 31, 32, 33, 34, 35, 36, 37, 38, 39, 40, 41, 42, 43, 44, 45, 46, 47, 48, 49, 50, 51, 52, 53, 54, 55, 56, 57] (by decide +kernel) (by decide +kernel)
set_option maxRecDepth 20000 in
theorem gX8_firstTime_X8_firstIn : GoodIn wsX8_firstTime (va_wsS RX8 107 yX8_firstIn wsX8_firstIn) := goodIn_app (goodIn_of _ (by decide +kernel)) ggX8_firstTime_X8_firstIn
theorem dX8_firstTime_0 : decode cX8_firstTime 0 = .ok (.aload_n 0, 1) := by decide +kernel
theorem dX8_firstTime_1 : decode cX8_firstTime 1 = .ok (.aload_n 0, 1) := by decide +kernel
theorem dX8_firstTime_2 : decode cX8_firstTime 2 = .ok (.iload_n 1, 1) := by decide +kernel
theorem dX8_firstTime_3 : decode cX8_firstTime 3 = .ok (.invokevirtual 233, 3) := by decide +kernel
theorem dX8_firstTime_6 : decode cX8_firstTime 6 = .ok (.ifCond .eq 14, 3) := by decide +kernel
theorem dX8_firstTime_9 : decode cX8_firstTime 9 = .ok (.iload_n 2, 1) := by decide +kernel
theorem dX8_firstTime_10 : decode cX8_firstTime 10 = .ok (.invokestatic 243, 3) := by decide +kernel
theorem dX8_firstTime_13 : decode cX8_firstTime 13 = .ok (.ifCond .eq 7, 3) := by decide +kernel
theorem dX8_firstTime_16 : decode cX8_firstTime 16 = .ok (.iconst 0, 1) := by decide +kernel
theorem dX8_firstTime_17 : decode cX8_firstTime 17 = .ok (.goto 4, 3) := by decide +kernel
theorem dX8_firstTime_20 : decode cX8_firstTime 20 = .ok (.iconst 1, 1) := by decide +kernel
theorem dX8_firstTime_21 : decode cX8_firstTime 21 = .ok (.invokevirtual 151, 3) := by decide +kernel
theorem dX8_firstTime_24 : decode cX8_firstTime 24 = .ok (.ifCond .eq 5, 3) := by decide +kernel
theorem dX8_firstTime_27 : decode cX8_firstTime 27 = .ok (.iconst 0, 1) := by decide +kernel
theorem dX8_firstTime_28 : decode cX8_firstTime 28 = .ok (.ireturn, 1) := by decide +kernel
theorem dX8_firstTime_29 : decode cX8_firstTime 29 = .ok (.aload_n 0, 1) := by decide +kernel
theorem dX8_firstTime_30 : decode cX8_firstTime 30 = .ok (.getfield 16, 3) := by decide +kernel
theorem dX8_firstTime_33 : decode cX8_firstTime 33 = .ok (.iload_n 1, 1) := by decide +kernel
theorem dX8_firstTime_34 : decode cX8_firstTime 34 = .ok (.iload_n 2, 1) := by decide +kernel
theorem dX8_firstTime_35 : decode cX8_firstTime 35 = .ok (.bipush 60, 2) := by decide +kernel
theorem dX8_firstTime_37 : decode cX8_firstTime 37 = .ok (.invokestatic 107, 3) := by decide +kernel
theorem dX8_firstTime_40 : decode cX8_firstTime 40 = .ok (.ireturn, 1) := by decide +kernel
set_option maxRecDepth 20000 in
theorem ggX8_isFar_X8_in : GoodIn wsX8_isFar wsX8_in := goodIn_r _ [5] (by decide +kernel) (by decide +kernel)
set_option maxRecDepth 20000 in
theorem gX8_isFar_X8_in : GoodIn wsX8_isFar (va_wsS RX8 140 yX8_in wsX8_in) := goodIn_app (goodIn_of _ (by decide +kernel)) ggX8_isFar_X8_in
theorem dX8_isFar_0 : decode cX8_isFar 0 = .ok (.iload_n 0, 1) := by decide +kernel
theorem dX8_isFar_1 : decode cX8_isFar 1 = .ok (.i2l, 1) := by decide +kernel
theorem dX8_isFar_2 : decode cX8_isFar 2 = .ok (.lconst 1, 1) := by decide +kernel
theorem dX8_isFar_3 : decode cX8_isFar 3 = .ok (.ldc2_w 307, 3) := by decide +kernel
theorem dX8_isFar_6 : decode cX8_isFar 6 = .ok (.invokestatic 140, 3) := by decide +kernel
theorem dX8_isFar_9 : decode cX8_isFar 9 = .ok (.ireturn, 1) := by decide +kernel
set_option maxRecDepth 20000 in
theorem ggX8_coming_X8_isFar : GoodIn wsX8_coming wsX8_isFar := goodIn_r _ [7, 8, 9, 10, 6, 11] (by decide +kernel) (by decide +kernel)
set_option maxRecDepth 20000 in
theorem gX8_coming_X8_isFar : GoodIn wsX8_coming (va_wsS RX8 309 yX8_isFar wsX8_isFar) := goodIn_app (goodIn_of _ (by decide +kernel)) ggX8_coming_X8_isFar
set_option maxRecDepth 20000 in
theorem ggX8_coming_X8_in : GoodIn wsX8_coming wsX8_in := goodIn_r _ [11] (by decide +kernel) (by decide +kernel)
set_option maxRecDepth 20000 in
theorem gX8_coming_X8_in : GoodIn wsX8_coming (va_wsS RX8 140 yX8_in wsX8_in) := goodIn_app (goodIn_of _ (by decide +kernel)) ggX8_coming_X8_in
set_option maxRecDepth 20000 in
theorem ggX8_coming_X8_refused : GoodIn wsX8_coming wsX8_refused := goodIn_r _ [15, 16, 105, 106, 107, 108, 109, 110, 111, 112, 113, 114, 115, 116, 117, 118, 119, 120, 121] (by decide +kernel) (by decide +kernel)
set_option maxRecDepth 20000 in
theorem gX8_coming_X8_refused : GoodIn wsX8_coming (wsV RX8 151 RX8 yX8_refused wsX8_refused) := goodIn_app (goodIn_of _ (by decide +kernel)) ggX8_coming_X8_refused
set_option maxRecDepth 20000 in
theorem ggX8_coming_X8_tryIt : GoodIn wsX8_coming wsX8_tryIt := goodIn_r _ [20, 3, 2, 21, 22, 23, 6, 24, 105, 106, 107, 108, 109, 110, 111, 112, 113, 114, 115, 116, 117, 118, 119, 120, 121] (by decide +kernel) (by decide +kernel)
set_option maxRecDepth 20000 in
theorem gX8_coming_X8_tryIt : GoodIn wsX8_coming (wsV RX8 312 RX8 yX8_tryIt wsX8_tryIt) := goodIn_app (goodIn_of _ (by decide +kernel)) ggX8_coming_X8_tryIt
set_option maxRecDepth 20000 in
theorem ggX8_coming_X8_runIn : GoodIn wsX8_coming wsX8_runIn := goodIn_r _ [28, 29, 30, 31, 6, 32, 21, 33, 34, 35, 36, 37, 38, 39, 40, 41, 42, 43, 44, 45, 46, 47, 48, 49, 50, 51, 52, 53, 54, 55, 56, 57, 58, 59, 60, 61, 62, 63, 64, 65, 66, 67, 68, 69, 70, 71, 72, 73, 74, 75, 76, 77, 78, 79, 80, 81, 82, 83, 84, 85, 86, 87, 88, 89, 22, 23, 24, 90, 91, 92, 93, 94, 95, 96, 97, 98, 99, 100, 101, 102, 103, 104, 105, 106, 107, 108, 109, 110, 111, 112, 113, 114, 115, 116, 117, 118, 119, 120, 121] (by decide +kernel) (by decide +kernel)
set_option maxRecDepth 20000 in
theorem gX8_coming_X8_runIn : GoodIn wsX8_coming (wsV RX8 205 RX8 yX8_runIn wsX8_runIn) := goodIn_app (goodIn_of _ (by decide +kernel)) ggX8_coming_X8_runIn
theorem dX8_coming_0 : decode cX8_coming 0 = .ok (.aload_n 0, 1) := by decide +kernel
theorem dX8_coming_1 : decode cX8_coming 1 = .ok (.iload_n 1, 1) := by decide +kernel
theorem dX8_coming_2 : decode cX8_coming 2 = .ok (.invokestatic 309, 3) := by decide +kernel
theorem dX8_coming_5 : decode cX8_coming 5 = .ok (.ifCond .eq 19, 3) := by decide +kernel
theorem dX8_coming_8 : decode cX8_coming 8 = .ok (.iload_n 2, 1) := by decide +kernel
theorem dX8_coming_9 : decode cX8_coming 9 = .ok (.i2l, 1) := by decide +kernel
theorem dX8_coming_10 : decode cX8_coming 10 = .ok (.lconst 0, 1) := by decide +kernel
theorem dX8_coming_11 : decode cX8_coming 11 = .ok (.ldc2_w 246, 3) := by decide +kernel
theorem dX8_coming_14 : decode cX8_coming 14 = .ok (.invokestatic 140, 3) := by decide +kernel
theorem dX8_coming_17 : decode cX8_coming 17 = .ok (.ifCond .eq 7, 3) := by decide +kernel
theorem dX8_coming_20 : decode cX8_coming 20 = .ok (.iconst 0, 1) := by decide +kernel
theorem dX8_coming_21 : decode cX8_coming 21 = .ok (.goto 4, 3) := by decide +kernel
theorem dX8_coming_24 : decode cX8_coming 24 = .ok (.iconst 1, 1) := by decide +kernel
theorem dX8_coming_25 : decode cX8_coming 25 = .ok (.invokevirtual 151, 3) := by decide +kernel
theorem dX8_coming_28 : decode cX8_coming 28 = .ok (.ifCond .eq 5, 3) := by decide +kernel
theorem dX8_coming_31 : decode cX8_coming 31 = .ok (.iconst 0, 1) := by decide +kernel
theorem dX8_coming_32 : decode cX8_coming 32 = .ok (.ireturn, 1) := by decide +kernel
theorem dX8_coming_33 : decode cX8_coming 33 = .ok (.aload_n 0, 1) := by decide +kernel
theorem dX8_coming_34 : decode cX8_coming 34 = .ok (.invokevirtual 312, 3) := by decide +kernel
theorem dX8_coming_37 : decode cX8_coming 37 = .ok (.aload_n 0, 1) := by decide +kernel
theorem dX8_coming_38 : decode cX8_coming 38 = .ok (.aload_n 0, 1) := by decide +kernel
theorem dX8_coming_39 : decode cX8_coming 39 = .ok (.getfield 19, 3) := by decide +kernel
theorem dX8_coming_42 : decode cX8_coming 42 = .ok (.iload_n 1, 1) := by decide +kernel
theorem dX8_coming_43 : decode cX8_coming 43 = .ok (.invokevirtual 205, 3) := by decide +kernel
theorem dX8_coming_46 : decode cX8_coming 46 = .ok (.pop, 1) := by decide +kernel
theorem dX8_coming_47 : decode cX8_coming 47 = .ok (.iload_n 2, 1) := by decide +kernel
theorem dX8_coming_48 : decode cX8_coming 48 = .ok (.iconst 4, 1) := by decide +kernel
theorem dX8_coming_49 : decode cX8_coming 49 = .ok (.if_icmp .ne 12, 3) := by decide +kernel
theorem dX8_coming_52 : decode cX8_coming 52 = .ok (.aload_n 0, 1) := by decide +kernel
theorem dX8_coming_53 : decode cX8_coming 53 = .ok (.getfield 19, 3) := by decide +kernel
theorem dX8_coming_56 : decode cX8_coming 56 = .ok (.iconst 3, 1) := by decide +kernel
theorem dX8_coming_57 : decode cX8_coming 57 = .ok (.iaload, 1) := by decide +kernel
theorem dX8_coming_58 : decode cX8_coming 58 = .ok (.goto 20, 3) := by decide +kernel
theorem dX8_coming_61 : decode cX8_coming 61 = .ok (.aload_n 0, 1) := by decide +kernel
theorem dX8_coming_62 : decode cX8_coming 62 = .ok (.getfield 19, 3) := by decide +kernel
theorem dX8_coming_65 : decode cX8_coming 65 = .ok (.iconst 4, 1) := by decide +kernel
theorem dX8_coming_66 : decode cX8_coming 66 = .ok (.iload_n 2, 1) := by decide +kernel
theorem dX8_coming_67 : decode cX8_coming 67 = .ok (.iadd, 1) := by decide +kernel
theorem dX8_coming_68 : decode cX8_coming 68 = .ok (.iaload, 1) := by decide +kernel
theorem dX8_coming_69 : decode cX8_coming 69 = .ok (.aload_n 0, 1) := by decide +kernel
theorem dX8_coming_70 : decode cX8_coming 70 = .ok (.getfield 16, 3) := by decide +kernel
theorem dX8_coming_73 : decode cX8_coming 73 = .ok (.iconst 4, 1) := by decide +kernel
theorem dX8_coming_74 : decode cX8_coming 74 = .ok (.iload_n 2, 1) := by decide +kernel
theorem dX8_coming_75 : decode cX8_coming 75 = .ok (.iadd, 1) := by decide +kernel
theorem dX8_coming_76 : decode cX8_coming 76 = .ok (.iaload, 1) := by decide +kernel
theorem dX8_coming_77 : decode cX8_coming 77 = .ok (.isub, 1) := by decide +kernel
theorem dX8_coming_78 : decode cX8_coming 78 = .ok (.ireturn, 1) := by decide +kernel
set_option maxRecDepth 20000 in
theorem ggX8_becomes_X8_isBooking : GoodIn wsX8_becomes wsX8_isBooking := goodIn_r _ [8, 1, 9, 10, 7, 11, 100, 101, 102, 103, 104, 105, 106, 107, 108, 109, 110, 111, 112, 113, 114, 115, 116] (by decide +kernel) (by decide +kernel)
set_option maxRecDepth 20000 in
theorem gX8_becomes_X8_isBooking : GoodIn wsX8_becomes (wsV RX8 251 RX8 yX8_isBooking wsX8_isBooking) := goodIn_app (goodIn_of _ (by decide +kernel)) ggX8_becomes_X8_isBooking
set_option maxRecDepth 20000 in
theorem ggX8_becomes_X8_bookingAt : GoodIn wsX8_becomes wsX8_bookingAt := goodIn_r _ [14] (by decide +kernel) (by decide +kernel)
set_option maxRecDepth 20000 in
theorem gX8_becomes_X8_bookingAt : GoodIn wsX8_becomes (va_wsS RX8 62 yX8_bookingAt wsX8_bookingAt) := goodIn_app (goodIn_of _ (by decide +kernel)) ggX8_becomes_X8_bookingAt
set_option maxRecDepth 20000 in
theorem ggX8_becomes_X8_refused : GoodIn wsX8_becomes wsX8_refused := goodIn_r _ [18, 19, 100, 101, 102, 103, 104, 105, 106, 107, 108, 109, 110, 111, 112, 113, 114, 115, 116] (by decide +kernel) (by decide +kernel)
set_option maxRecDepth 20000 in
theorem gX8_becomes_X8_refused : GoodIn wsX8_becomes (wsV RX8 151 RX8 yX8_refused wsX8_refused) := goodIn_app (goodIn_of _ (by decide +kernel)) ggX8_becomes_X8_refused
set_option maxRecDepth 20000 in
theorem ggX8_becomes_X8_tryIt : GoodIn wsX8_becomes wsX8_tryIt := goodIn_r _ [23, 1, 2, 3, 24, 25, 7, 26, 100, 101, 102, 103, 104, 105, 106, 107, 108, 109, 110, 111, 112, 113, 114, 115, 116] (by decide +kernel) (by decide +kernel)
set_option maxRecDepth 20000 in
theorem gX8_becomes_X8_tryIt : GoodIn wsX8_becomes (wsV RX8 312 RX8 yX8_tryIt wsX8_tryIt) := goodIn_app (goodIn_of _ (by decide +kernel)) ggX8_becomes_X8_tryIt
set_option maxRecDepth 20000 in
theorem ggX8_becomes_X8_dayIn : GoodIn wsX8_becomes wsX8_dayIn := goodIn_r _ [30, 3, 31, 32, 33, 7, 34, 35, 36, 37, 38, 39, 40, 41, 42, 43, 44, 45, 46, 47, 48, 49, 50, 51, 52, 53, 54, 55, 56, 57, 58, 59, 60, 61, 62, 63, 64, 65, 66, 12, 13, 14, 67, 68, 69, 70, 71, 72, 73, 74, 75, 76, 77, 78, 79, 80, 81, 82, 83, 84, 24, 25, 26, 85, 86, 87, 88, 89, 90, 91, 92, 93, 94, 95, 96, 97, 98, 99, 100, 101, 102, 103, 104, 105, 106, 107, 108, 109, 110, 111, 112, 113, 114, 115, 116] (by decide +kernel) (by decide +kernel)
set_option maxRecDepth 20000 in
theorem gX8_becomes_X8_dayIn : GoodIn wsX8_becomes (wsV RX8 135 RX8 yX8_dayIn wsX8_dayIn) := goodIn_app (goodIn_of _ (by decide +kernel)) ggX8_becomes_X8_dayIn
theorem dX8_becomes_0 : decode cX8_becomes 0 = .ok (.aload_n 0, 1) := by decide +kernel
theorem dX8_becomes_1 : decode cX8_becomes 1 = .ok (.aload_n 0, 1) := by decide +kernel
theorem dX8_becomes_2 : decode cX8_becomes 2 = .ok (.iload_n 1, 1) := by decide +kernel
theorem dX8_becomes_3 : decode cX8_becomes 3 = .ok (.invokevirtual 251, 3) := by decide +kernel
theorem dX8_becomes_6 : decode cX8_becomes 6 = .ok (.ifCond .ne 7, 3) := by decide +kernel
theorem dX8_becomes_9 : decode cX8_becomes 9 = .ok (.iconst 1, 1) := by decide +kernel
theorem dX8_becomes_10 : decode cX8_becomes 10 = .ok (.goto 32, 3) := by decide +kernel
theorem dX8_becomes_13 : decode cX8_becomes 13 = .ok (.aload_n 0, 1) := by decide +kernel
theorem dX8_becomes_14 : decode cX8_becomes 14 = .ok (.getfield 16, 3) := by decide +kernel
theorem dX8_becomes_17 : decode cX8_becomes 17 = .ok (.iload_n 1, 1) := by decide +kernel
theorem dX8_becomes_18 : decode cX8_becomes 18 = .ok (.iconst 0, 1) := by decide +kernel
theorem dX8_becomes_19 : decode cX8_becomes 19 = .ok (.invokestatic 62, 3) := by decide +kernel
theorem dX8_becomes_22 : decode cX8_becomes 22 = .ok (.iaload, 1) := by decide +kernel
theorem dX8_becomes_23 : decode cX8_becomes 23 = .ok (.aload_n 0, 1) := by decide +kernel
theorem dX8_becomes_24 : decode cX8_becomes 24 = .ok (.getfield 16, 3) := by decide +kernel
theorem dX8_becomes_27 : decode cX8_becomes 27 = .ok (.iconst 0, 1) := by decide +kernel
theorem dX8_becomes_28 : decode cX8_becomes 28 = .ok (.iaload, 1) := by decide +kernel
theorem dX8_becomes_29 : decode cX8_becomes 29 = .ok (.bipush 60, 2) := by decide +kernel
theorem dX8_becomes_31 : decode cX8_becomes 31 = .ok (.iadd, 1) := by decide +kernel
theorem dX8_becomes_32 : decode cX8_becomes 32 = .ok (.iconst 1, 1) := by decide +kernel
theorem dX8_becomes_33 : decode cX8_becomes 33 = .ok (.isub, 1) := by decide +kernel
theorem dX8_becomes_34 : decode cX8_becomes 34 = .ok (.if_icmp .le 7, 3) := by decide +kernel
theorem dX8_becomes_37 : decode cX8_becomes 37 = .ok (.iconst 2, 1) := by decide +kernel
theorem dX8_becomes_38 : decode cX8_becomes 38 = .ok (.goto 4, 3) := by decide +kernel
theorem dX8_becomes_41 : decode cX8_becomes 41 = .ok (.iconst 0, 1) := by decide +kernel
theorem dX8_becomes_42 : decode cX8_becomes 42 = .ok (.invokevirtual 151, 3) := by decide +kernel
theorem dX8_becomes_45 : decode cX8_becomes 45 = .ok (.ifCond .eq 5, 3) := by decide +kernel
theorem dX8_becomes_48 : decode cX8_becomes 48 = .ok (.iconst 0, 1) := by decide +kernel
theorem dX8_becomes_49 : decode cX8_becomes 49 = .ok (.ireturn, 1) := by decide +kernel
theorem dX8_becomes_50 : decode cX8_becomes 50 = .ok (.aload_n 0, 1) := by decide +kernel
theorem dX8_becomes_51 : decode cX8_becomes 51 = .ok (.invokevirtual 312, 3) := by decide +kernel
theorem dX8_becomes_54 : decode cX8_becomes 54 = .ok (.aload_n 0, 1) := by decide +kernel
theorem dX8_becomes_55 : decode cX8_becomes 55 = .ok (.getfield 19, 3) := by decide +kernel
theorem dX8_becomes_58 : decode cX8_becomes 58 = .ok (.iload_n 1, 1) := by decide +kernel
theorem dX8_becomes_59 : decode cX8_becomes 59 = .ok (.bipush 6, 2) := by decide +kernel
theorem dX8_becomes_61 : decode cX8_becomes 61 = .ok (.invokestatic 62, 3) := by decide +kernel
theorem dX8_becomes_64 : decode cX8_becomes 64 = .ok (.iconst 1, 1) := by decide +kernel
theorem dX8_becomes_65 : decode cX8_becomes 65 = .ok (.iastore, 1) := by decide +kernel
theorem dX8_becomes_66 : decode cX8_becomes 66 = .ok (.iconst 0, 1) := by decide +kernel
theorem dX8_becomes_67 : decode cX8_becomes 67 = .ok (.istore_n 2, 1) := by decide +kernel
theorem dX8_becomes_68 : decode cX8_becomes 68 = .ok (.iload_n 2, 1) := by decide +kernel
theorem dX8_becomes_69 : decode cX8_becomes 69 = .ok (.bipush 60, 2) := by decide +kernel
theorem dX8_becomes_71 : decode cX8_becomes 71 = .ok (.if_icmp .ge 25, 3) := by decide +kernel
theorem dX8_becomes_74 : decode cX8_becomes 74 = .ok (.aload_n 0, 1) := by decide +kernel
theorem dX8_becomes_75 : decode cX8_becomes 75 = .ok (.getfield 52, 3) := by decide +kernel
theorem dX8_becomes_78 : decode cX8_becomes 78 = .ok (.iconst (-1), 1) := by decide +kernel
theorem dX8_becomes_79 : decode cX8_becomes 79 = .ok (.if_icmp .ne 17, 3) := by decide +kernel
theorem dX8_becomes_82 : decode cX8_becomes 82 = .ok (.aload_n 0, 1) := by decide +kernel
theorem dX8_becomes_83 : decode cX8_becomes 83 = .ok (.aload_n 0, 1) := by decide +kernel
theorem dX8_becomes_84 : decode cX8_becomes 84 = .ok (.getfield 19, 3) := by decide +kernel
theorem dX8_becomes_87 : decode cX8_becomes 87 = .ok (.invokevirtual 135, 3) := by decide +kernel
theorem dX8_becomes_90 : decode cX8_becomes 90 = .ok (.iinc 2 1, 3) := by decide +kernel
theorem dX8_becomes_93 : decode cX8_becomes 93 = .ok (.goto (-25), 3) := by decide +kernel
theorem dX8_becomes_96 : decode cX8_becomes 96 = .ok (.aload_n 0, 1) := by decide +kernel
theorem dX8_becomes_97 : decode cX8_becomes 97 = .ok (.getfield 52, 3) := by decide +kernel
theorem dX8_becomes_100 : decode cX8_becomes 100 = .ok (.ireturn, 1) := by decide +kernel
set_option maxRecDepth 20000 in
theorem ggX8_isThere_X8_isVisitor : GoodIn wsX8_isThere wsX8_isVisitor := goodIn_r _ [5, 6, 7, 8, 4, 9] (by decide +kernel) (by decide +kernel)
set_option maxRecDepth 20000 in
theorem gX8_isThere_X8_isVisitor : GoodIn wsX8_isThere (va_wsS RX8 243 yX8_isVisitor wsX8_isVisitor) := goodIn_app (goodIn_of _ (by decide +kernel)) ggX8_isThere_X8_isVisitor
theorem dX8_isThere_0 : decode cX8_isThere 0 = .ok (.iload_n 1, 1) := by decide +kernel
theorem dX8_isThere_1 : decode cX8_isThere 1 = .ok (.aload_n 0, 1) := by decide +kernel
theorem dX8_isThere_2 : decode cX8_isThere 2 = .ok (.getfield 19, 3) := by decide +kernel
theorem dX8_isThere_5 : decode cX8_isThere 5 = .ok (.iconst 1, 1) := by decide +kernel
theorem dX8_isThere_6 : decode cX8_isThere 6 = .ok (.iaload, 1) := by decide +kernel
theorem dX8_isThere_7 : decode cX8_isThere 7 = .ok (.if_icmp .ge 14, 3) := by decide +kernel
theorem dX8_isThere_10 : decode cX8_isThere 10 = .ok (.iload_n 2, 1) := by decide +kernel
theorem dX8_isThere_11 : decode cX8_isThere 11 = .ok (.invokestatic 243, 3) := by decide +kernel
theorem dX8_isThere_14 : decode cX8_isThere 14 = .ok (.ifCond .eq 7, 3) := by decide +kernel
theorem dX8_isThere_17 : decode cX8_isThere 17 = .ok (.iconst 1, 1) := by decide +kernel
theorem dX8_isThere_18 : decode cX8_isThere 18 = .ok (.goto 4, 3) := by decide +kernel
theorem dX8_isThere_21 : decode cX8_isThere 21 = .ok (.iconst 0, 1) := by decide +kernel
theorem dX8_isThere_22 : decode cX8_isThere 22 = .ok (.ireturn, 1) := by decide +kernel
set_option maxRecDepth 20000 in
theorem ggX8_books_X8_isThere : GoodIn wsX8_books wsX8_isThere := goodIn_r _ [6, 1, 7, 8, 5, 9, 10, 11, 12, 13, 64, 65, 66, 67, 68, 69, 70, 71, 72, 73, 74, 75, 76, 77, 78, 79, 80] (by decide +kernel) (by decide +kernel)
set_option maxRecDepth 20000 in
theorem gX8_books_X8_isThere : GoodIn wsX8_books (wsV RX8 315 RX8 yX8_isThere wsX8_isThere) := goodIn_app (goodIn_of _ (by decide +kernel)) ggX8_books_X8_isThere
set_option maxRecDepth 20000 in
theorem ggX8_books_X8_isTime : GoodIn wsX8_books wsX8_isTime := goodIn_r _ [16, 17, 18, 11, 12, 5, 13] (by decide +kernel) (by decide +kernel)
set_option maxRecDepth 20000 in
theorem gX8_books_X8_isTime : GoodIn wsX8_books (va_wsS RX8 196 yX8_isTime wsX8_isTime) := goodIn_app (goodIn_of _ (by decide +kernel)) ggX8_books_X8_isTime
set_option maxRecDepth 20000 in
theorem ggX8_books_X8_why : GoodIn wsX8_books wsX8_why := goodIn_r _ [21, 22, 23, 5, 24, 25, 26, 27, 28, 29, 30, 31, 32, 33, 34, 35, 36, 37, 38, 39, 40, 41, 42, 43, 44, 45, 46, 47, 48, 49, 50, 51, 52, 53, 54] (by decide +kernel) (by decide +kernel)
set_option maxRecDepth 20000 in
theorem gX8_books_X8_why : GoodIn wsX8_books (va_wsS RX8 96 yX8_why wsX8_why) := goodIn_app (goodIn_of _ (by decide +kernel)) ggX8_books_X8_why
set_option maxRecDepth 20000 in
theorem ggX8_books_X8_bookIn : GoodIn wsX8_books wsX8_bookIn := goodIn_r _ [57, 52, 53, 5, 54, 46, 47, 48, 40, 41, 42, 58, 59, 60, 61, 62, 63] (by decide +kernel) (by decide +kernel)
set_option maxRecDepth 20000 in
theorem gX8_books_X8_bookIn : GoodIn wsX8_books (va_wsS RX8 111 yX8_bookIn wsX8_bookIn) := goodIn_app (goodIn_of _ (by decide +kernel)) ggX8_books_X8_bookIn
theorem dX8_books_0 : decode cX8_books 0 = .ok (.aload_n 0, 1) := by decide +kernel
theorem dX8_books_1 : decode cX8_books 1 = .ok (.iload_n 1, 1) := by decide +kernel
theorem dX8_books_2 : decode cX8_books 2 = .ok (.iload_n 2, 1) := by decide +kernel
theorem dX8_books_3 : decode cX8_books 3 = .ok (.invokevirtual 315, 3) := by decide +kernel
theorem dX8_books_6 : decode cX8_books 6 = .ok (.ifCond .eq 35, 3) := by decide +kernel
theorem dX8_books_9 : decode cX8_books 9 = .ok (.aload_n 0, 1) := by decide +kernel
theorem dX8_books_10 : decode cX8_books 10 = .ok (.getfield 19, 3) := by decide +kernel
theorem dX8_books_13 : decode cX8_books 13 = .ok (.iload_n 3, 1) := by decide +kernel
theorem dX8_books_14 : decode cX8_books 14 = .ok (.iload 4, 2) := by decide +kernel
theorem dX8_books_16 : decode cX8_books 16 = .ok (.invokestatic 196, 3) := by decide +kernel
theorem dX8_books_19 : decode cX8_books 19 = .ok (.ifCond .eq 22, 3) := by decide +kernel
theorem dX8_books_22 : decode cX8_books 22 = .ok (.aload_n 0, 1) := by decide +kernel
theorem dX8_books_23 : decode cX8_books 23 = .ok (.getfield 19, 3) := by decide +kernel
theorem dX8_books_26 : decode cX8_books 26 = .ok (.iload_n 1, 1) := by decide +kernel
theorem dX8_books_27 : decode cX8_books 27 = .ok (.iload_n 2, 1) := by decide +kernel
theorem dX8_books_28 : decode cX8_books 28 = .ok (.iload_n 3, 1) := by decide +kernel
theorem dX8_books_29 : decode cX8_books 29 = .ok (.iload 4, 2) := by decide +kernel
theorem dX8_books_31 : decode cX8_books 31 = .ok (.invokestatic 96, 3) := by decide +kernel
theorem dX8_books_34 : decode cX8_books 34 = .ok (.ifCond .ne 7, 3) := by decide +kernel
theorem dX8_books_37 : decode cX8_books 37 = .ok (.iconst 1, 1) := by decide +kernel
theorem dX8_books_38 : decode cX8_books 38 = .ok (.goto 4, 3) := by decide +kernel
theorem dX8_books_41 : decode cX8_books 41 = .ok (.iconst 0, 1) := by decide +kernel
theorem dX8_books_42 : decode cX8_books 42 = .ok (.istore 5, 2) := by decide +kernel
theorem dX8_books_44 : decode cX8_books 44 = .ok (.iload 5, 2) := by decide +kernel
theorem dX8_books_46 : decode cX8_books 46 = .ok (.ifCond .eq 16, 3) := by decide +kernel
theorem dX8_books_49 : decode cX8_books 49 = .ok (.aload_n 0, 1) := by decide +kernel
theorem dX8_books_50 : decode cX8_books 50 = .ok (.getfield 19, 3) := by decide +kernel
theorem dX8_books_53 : decode cX8_books 53 = .ok (.iload_n 1, 1) := by decide +kernel
theorem dX8_books_54 : decode cX8_books 54 = .ok (.iload_n 2, 1) := by decide +kernel
theorem dX8_books_55 : decode cX8_books 55 = .ok (.iload_n 3, 1) := by decide +kernel
theorem dX8_books_56 : decode cX8_books 56 = .ok (.iload 4, 2) := by decide +kernel
theorem dX8_books_58 : decode cX8_books 58 = .ok (.invokestatic 111, 3) := by decide +kernel
theorem dX8_books_61 : decode cX8_books 61 = .ok (.pop, 1) := by decide +kernel
theorem dX8_books_62 : decode cX8_books 62 = .ok (.iload 5, 2) := by decide +kernel
theorem dX8_books_64 : decode cX8_books 64 = .ok (.ireturn, 1) := by decide +kernel
set_option maxRecDepth 20000 in
theorem ggX8_wishes_X8_isThere : GoodIn wsX8_wishes wsX8_isThere := goodIn_r _ [6, 1, 7, 8, 5, 9, 10, 11, 12, 13, 26, 27, 28, 29, 30, 31, 32, 33, 34, 35, 36, 37, 38, 39, 40, 41, 42] (by decide +kernel) (by decide +kernel)
set_option maxRecDepth 20000 in
theorem gX8_wishes_X8_isThere : GoodIn wsX8_wishes (wsV RX8 315 RX8 yX8_isThere wsX8_isThere) := goodIn_app (goodIn_of _ (by decide +kernel)) ggX8_wishes_X8_isThere
set_option maxRecDepth 20000 in
theorem ggX8_wishes_X8_canWish : GoodIn wsX8_wishes wsX8_canWish := goodIn_r _ [16, 17, 18, 5, 19, 20, 21, 22] (by decide +kernel) (by decide +kernel)
set_option maxRecDepth 20000 in
theorem gX8_wishes_X8_canWish : GoodIn wsX8_wishes (va_wsS RX8 199 yX8_canWish wsX8_canWish) := goodIn_app (goodIn_of _ (by decide +kernel)) ggX8_wishes_X8_canWish
set_option maxRecDepth 20000 in
theorem ggX8_wishes_X8_wishIn : GoodIn wsX8_wishes wsX8_wishIn := goodIn_r _ [25] (by decide +kernel) (by decide +kernel)
set_option maxRecDepth 20000 in
theorem gX8_wishes_X8_wishIn : GoodIn wsX8_wishes (va_wsS RX8 202 yX8_wishIn wsX8_wishIn) := goodIn_app (goodIn_of _ (by decide +kernel)) ggX8_wishes_X8_wishIn
theorem dX8_wishes_0 : decode cX8_wishes 0 = .ok (.aload_n 0, 1) := by decide +kernel
theorem dX8_wishes_1 : decode cX8_wishes 1 = .ok (.iload_n 1, 1) := by decide +kernel
theorem dX8_wishes_2 : decode cX8_wishes 2 = .ok (.iload_n 2, 1) := by decide +kernel
theorem dX8_wishes_3 : decode cX8_wishes 3 = .ok (.invokevirtual 315, 3) := by decide +kernel
theorem dX8_wishes_6 : decode cX8_wishes 6 = .ok (.ifCond .eq 19, 3) := by decide +kernel
theorem dX8_wishes_9 : decode cX8_wishes 9 = .ok (.aload_n 0, 1) := by decide +kernel
theorem dX8_wishes_10 : decode cX8_wishes 10 = .ok (.getfield 19, 3) := by decide +kernel
theorem dX8_wishes_13 : decode cX8_wishes 13 = .ok (.iload_n 1, 1) := by decide +kernel
theorem dX8_wishes_14 : decode cX8_wishes 14 = .ok (.iload_n 2, 1) := by decide +kernel
theorem dX8_wishes_15 : decode cX8_wishes 15 = .ok (.invokestatic 199, 3) := by decide +kernel
theorem dX8_wishes_18 : decode cX8_wishes 18 = .ok (.ifCond .eq 7, 3) := by decide +kernel
theorem dX8_wishes_21 : decode cX8_wishes 21 = .ok (.iconst 1, 1) := by decide +kernel
theorem dX8_wishes_22 : decode cX8_wishes 22 = .ok (.goto 4, 3) := by decide +kernel
theorem dX8_wishes_25 : decode cX8_wishes 25 = .ok (.iconst 0, 1) := by decide +kernel
theorem dX8_wishes_26 : decode cX8_wishes 26 = .ok (.istore_n 3, 1) := by decide +kernel
theorem dX8_wishes_27 : decode cX8_wishes 27 = .ok (.iload_n 3, 1) := by decide +kernel
theorem dX8_wishes_28 : decode cX8_wishes 28 = .ok (.ifCond .eq 13, 3) := by decide +kernel
theorem dX8_wishes_31 : decode cX8_wishes 31 = .ok (.aload_n 0, 1) := by decide +kernel
theorem dX8_wishes_32 : decode cX8_wishes 32 = .ok (.getfield 19, 3) := by decide +kernel
theorem dX8_wishes_35 : decode cX8_wishes 35 = .ok (.iload_n 1, 1) := by decide +kernel
theorem dX8_wishes_36 : decode cX8_wishes 36 = .ok (.iload_n 2, 1) := by decide +kernel
theorem dX8_wishes_37 : decode cX8_wishes 37 = .ok (.invokestatic 202, 3) := by decide +kernel
theorem dX8_wishes_40 : decode cX8_wishes 40 = .ok (.pop, 1) := by decide +kernel
theorem dX8_wishes_41 : decode cX8_wishes 41 = .ok (.iload_n 3, 1) := by decide +kernel
theorem dX8_wishes_42 : decode cX8_wishes 42 = .ok (.ireturn, 1) := by decide +kernel
set_option maxRecDepth 20000 in
theorem ggX8_lists_X8_isThere : GoodIn wsX8_lists wsX8_isThere := goodIn_r _ [6, 1, 7, 8, 5, 9, 10, 11, 12, 13, 20, 21, 22, 23, 24, 25, 26, 27, 28, 29, 30, 31, 32, 33, 34, 35, 36] (by decide +kernel) (by decide +kernel)
set_option maxRecDepth 20000 in
theorem gX8_lists_X8_isThere : GoodIn wsX8_lists (wsV RX8 315 RX8 yX8_isThere wsX8_isThere) := goodIn_app (goodIn_of _ (by decide +kernel)) ggX8_lists_X8_isThere
set_option maxRecDepth 20000 in
theorem ggX8_lists_X8_listIn : GoodIn wsX8_lists wsX8_listIn := goodIn_r _ [16, 17, 18, 5, 19] (by decide +kernel) (by decide +kernel)
set_option maxRecDepth 20000 in
theorem gX8_lists_X8_listIn : GoodIn wsX8_lists (va_wsS RX8 188 yX8_listIn wsX8_listIn) := goodIn_app (goodIn_of _ (by decide +kernel)) ggX8_lists_X8_listIn
theorem dX8_lists_0 : decode cX8_lists 0 = .ok (.aload_n 0, 1) := by decide +kernel
theorem dX8_lists_1 : decode cX8_lists 1 = .ok (.iload_n 1, 1) := by decide +kernel
theorem dX8_lists_2 : decode cX8_lists 2 = .ok (.iload_n 2, 1) := by decide +kernel
theorem dX8_lists_3 : decode cX8_lists 3 = .ok (.invokevirtual 315, 3) := by decide +kernel
theorem dX8_lists_6 : decode cX8_lists 6 = .ok (.ifCond .eq 12, 3) := by decide +kernel
theorem dX8_lists_9 : decode cX8_lists 9 = .ok (.iload_n 3, 1) := by decide +kernel
theorem dX8_lists_10 : decode cX8_lists 10 = .ok (.iconst 2, 1) := by decide +kernel
theorem dX8_lists_11 : decode cX8_lists 11 = .ok (.if_icmp .ge 7, 3) := by decide +kernel
theorem dX8_lists_14 : decode cX8_lists 14 = .ok (.iconst 1, 1) := by decide +kernel
theorem dX8_lists_15 : decode cX8_lists 15 = .ok (.goto 4, 3) := by decide +kernel
theorem dX8_lists_18 : decode cX8_lists 18 = .ok (.iconst 0, 1) := by decide +kernel
theorem dX8_lists_19 : decode cX8_lists 19 = .ok (.istore 4, 2) := by decide +kernel
theorem dX8_lists_21 : decode cX8_lists 21 = .ok (.iload 4, 2) := by decide +kernel
theorem dX8_lists_23 : decode cX8_lists 23 = .ok (.ifCond .eq 23, 3) := by decide +kernel
theorem dX8_lists_26 : decode cX8_lists 26 = .ok (.aload_n 0, 1) := by decide +kernel
theorem dX8_lists_27 : decode cX8_lists 27 = .ok (.getfield 19, 3) := by decide +kernel
theorem dX8_lists_30 : decode cX8_lists 30 = .ok (.iload_n 1, 1) := by decide +kernel
theorem dX8_lists_31 : decode cX8_lists 31 = .ok (.iload_n 2, 1) := by decide +kernel
theorem dX8_lists_32 : decode cX8_lists 32 = .ok (.iload_n 3, 1) := by decide +kernel
theorem dX8_lists_33 : decode cX8_lists 33 = .ok (.iconst 1, 1) := by decide +kernel
theorem dX8_lists_34 : decode cX8_lists 34 = .ok (.if_icmp .ne 7, 3) := by decide +kernel
theorem dX8_lists_37 : decode cX8_lists 37 = .ok (.iconst 1, 1) := by decide +kernel
theorem dX8_lists_38 : decode cX8_lists 38 = .ok (.goto 4, 3) := by decide +kernel
theorem dX8_lists_41 : decode cX8_lists 41 = .ok (.iconst 0, 1) := by decide +kernel
theorem dX8_lists_42 : decode cX8_lists 42 = .ok (.invokestatic 188, 3) := by decide +kernel
theorem dX8_lists_45 : decode cX8_lists 45 = .ok (.pop, 1) := by decide +kernel
theorem dX8_lists_46 : decode cX8_lists 46 = .ok (.iload 4, 2) := by decide +kernel
theorem dX8_lists_48 : decode cX8_lists 48 = .ok (.ireturn, 1) := by decide +kernel
set_option maxRecDepth 20000 in
theorem ggX8_carries_X8_isVisitor : GoodIn wsX8_carries wsX8_isVisitor := goodIn_r _ [5, 6, 7, 8, 4, 9] (by decide +kernel) (by decide +kernel)
set_option maxRecDepth 20000 in
theorem gX8_carries_X8_isVisitor : GoodIn wsX8_carries (va_wsS RX8 243 yX8_isVisitor wsX8_isVisitor) := goodIn_app (goodIn_of _ (by decide +kernel)) ggX8_carries_X8_isVisitor
set_option maxRecDepth 20000 in
theorem ggX8_carries_X8_visitorAt : GoodIn wsX8_carries wsX8_visitorAt := goodIn_r _ [12] (by decide +kernel) (by decide +kernel)
set_option maxRecDepth 20000 in
theorem gX8_carries_X8_visitorAt : GoodIn wsX8_carries (va_wsS RX8 59 yX8_visitorAt wsX8_visitorAt) := goodIn_app (goodIn_of _ (by decide +kernel)) ggX8_carries_X8_visitorAt
theorem dX8_carries_0 : decode cX8_carries 0 = .ok (.iload_n 1, 1) := by decide +kernel
theorem dX8_carries_1 : decode cX8_carries 1 = .ok (.invokestatic 243, 3) := by decide +kernel
theorem dX8_carries_4 : decode cX8_carries 4 = .ok (.ifCond .eq 12, 3) := by decide +kernel
theorem dX8_carries_7 : decode cX8_carries 7 = .ok (.iload_n 2, 1) := by decide +kernel
theorem dX8_carries_8 : decode cX8_carries 8 = .ok (.iconst 2, 1) := by decide +kernel
theorem dX8_carries_9 : decode cX8_carries 9 = .ok (.if_icmp .ge 7, 3) := by decide +kernel
theorem dX8_carries_12 : decode cX8_carries 12 = .ok (.iconst 1, 1) := by decide +kernel
theorem dX8_carries_13 : decode cX8_carries 13 = .ok (.goto 4, 3) := by decide +kernel
theorem dX8_carries_16 : decode cX8_carries 16 = .ok (.iconst 0, 1) := by decide +kernel
theorem dX8_carries_17 : decode cX8_carries 17 = .ok (.istore_n 3, 1) := by decide +kernel
theorem dX8_carries_18 : decode cX8_carries 18 = .ok (.iload_n 3, 1) := by decide +kernel
theorem dX8_carries_19 : decode cX8_carries 19 = .ok (.ifCond .eq 14, 3) := by decide +kernel
theorem dX8_carries_22 : decode cX8_carries 22 = .ok (.aload_n 0, 1) := by decide +kernel
theorem dX8_carries_23 : decode cX8_carries 23 = .ok (.getfield 19, 3) := by decide +kernel
theorem dX8_carries_26 : decode cX8_carries 26 = .ok (.iload_n 1, 1) := by decide +kernel
theorem dX8_carries_27 : decode cX8_carries 27 = .ok (.iconst 2, 1) := by decide +kernel
theorem dX8_carries_28 : decode cX8_carries 28 = .ok (.invokestatic 59, 3) := by decide +kernel
theorem dX8_carries_31 : decode cX8_carries 31 = .ok (.iload_n 2, 1) := by decide +kernel
theorem dX8_carries_32 : decode cX8_carries 32 = .ok (.iastore, 1) := by decide +kernel
theorem dX8_carries_33 : decode cX8_carries 33 = .ok (.iload_n 3, 1) := by decide +kernel
theorem dX8_carries_34 : decode cX8_carries 34 = .ok (.ireturn, 1) := by decide +kernel
set_option maxRecDepth 20000 in
theorem ggX8_punishes_X8_isThere : GoodIn wsX8_punishes wsX8_isThere := goodIn_r _ [6, 1, 7, 8, 5, 9, 10, 11, 12, 13, 20, 21, 22, 23, 24, 25, 26, 27, 28, 29, 30, 31, 32, 33, 34, 35, 36] (by decide +kernel) (by decide +kernel)
set_option maxRecDepth 20000 in
theorem gX8_punishes_X8_isThere : GoodIn wsX8_punishes (wsV RX8 315 RX8 yX8_isThere wsX8_isThere) := goodIn_app (goodIn_of _ (by decide +kernel)) ggX8_punishes_X8_isThere
set_option maxRecDepth 20000 in
theorem ggX8_punishes_X8_punishIn : GoodIn wsX8_punishes wsX8_punishIn := goodIn_r _ [16, 17, 18, 5, 19] (by decide +kernel) (by decide +kernel)
set_option maxRecDepth 20000 in
theorem gX8_punishes_X8_punishIn : GoodIn wsX8_punishes (va_wsS RX8 295 yX8_punishIn wsX8_punishIn) := goodIn_app (goodIn_of _ (by decide +kernel)) ggX8_punishes_X8_punishIn
theorem dX8_punishes_0 : decode cX8_punishes 0 = .ok (.aload_n 0, 1) := by decide +kernel
theorem dX8_punishes_1 : decode cX8_punishes 1 = .ok (.iload_n 1, 1) := by decide +kernel
theorem dX8_punishes_2 : decode cX8_punishes 2 = .ok (.iconst 0, 1) := by decide +kernel
theorem dX8_punishes_3 : decode cX8_punishes 3 = .ok (.invokevirtual 315, 3) := by decide +kernel
theorem dX8_punishes_6 : decode cX8_punishes 6 = .ok (.istore_n 3, 1) := by decide +kernel
theorem dX8_punishes_7 : decode cX8_punishes 7 = .ok (.iload_n 3, 1) := by decide +kernel
theorem dX8_punishes_8 : decode cX8_punishes 8 = .ok (.ifCond .eq 13, 3) := by decide +kernel
theorem dX8_punishes_11 : decode cX8_punishes 11 = .ok (.aload_n 0, 1) := by decide +kernel
theorem dX8_punishes_12 : decode cX8_punishes 12 = .ok (.getfield 19, 3) := by decide +kernel
theorem dX8_punishes_15 : decode cX8_punishes 15 = .ok (.iload_n 1, 1) := by decide +kernel
theorem dX8_punishes_16 : decode cX8_punishes 16 = .ok (.iload_n 2, 1) := by decide +kernel
theorem dX8_punishes_17 : decode cX8_punishes 17 = .ok (.invokestatic 295, 3) := by decide +kernel
theorem dX8_punishes_20 : decode cX8_punishes 20 = .ok (.pop, 1) := by decide +kernel
theorem dX8_punishes_21 : decode cX8_punishes 21 = .ok (.iload_n 3, 1) := by decide +kernel
theorem dX8_punishes_22 : decode cX8_punishes 22 = .ok (.ireturn, 1) := by decide +kernel
set_option maxRecDepth 20000 in
theorem ggX8_runs_X8_isRun : GoodIn wsX8_runs wsX8_isRun := goodIn_r _ [5, 6, 7, 8, 4, 9] (by decide +kernel) (by decide +kernel)
set_option maxRecDepth 20000 in
theorem gX8_runs_X8_isRun : GoodIn wsX8_runs (va_wsS RX8 300 yX8_isRun wsX8_isRun) := goodIn_app (goodIn_of _ (by decide +kernel)) ggX8_runs_X8_isRun
set_option maxRecDepth 20000 in
theorem ggX8_runs_X8_runIn : GoodIn wsX8_runs wsX8_runIn := goodIn_r _ [13, 14, 15, 16, 4, 17, 18, 19, 20, 21, 22, 23, 24, 25, 26, 27, 28, 29, 30, 31, 32, 33, 34, 35, 36, 37, 38, 39, 40, 41, 42, 43, 44, 45, 46, 47, 48, 49, 50, 51, 52, 53, 54, 55, 56, 57, 58, 59, 60, 61, 62, 63, 64, 65, 66, 67, 68, 69, 70, 71, 72, 73, 74, 75, 76, 77, 78, 79, 80, 81, 82, 83, 84, 85, 86, 87, 88, 89, 90, 91, 92, 93, 94, 95, 96, 97, 98, 99, 100, 101, 102, 103, 104, 105, 106, 107, 108, 109, 110] (by decide +kernel) (by decide +kernel)
set_option maxRecDepth 20000 in
theorem gX8_runs_X8_runIn : GoodIn wsX8_runs (wsV RX8 205 RX8 yX8_runIn wsX8_runIn) := goodIn_app (goodIn_of _ (by decide +kernel)) ggX8_runs_X8_runIn
theorem dX8_runs_0 : decode cX8_runs 0 = .ok (.iload_n 1, 1) := by decide +kernel
theorem dX8_runs_1 : decode cX8_runs 1 = .ok (.invokestatic 300, 3) := by decide +kernel
theorem dX8_runs_4 : decode cX8_runs 4 = .ok (.ifCond .eq 13, 3) := by decide +kernel
theorem dX8_runs_7 : decode cX8_runs 7 = .ok (.aload_n 0, 1) := by decide +kernel
theorem dX8_runs_8 : decode cX8_runs 8 = .ok (.aload_n 0, 1) := by decide +kernel
theorem dX8_runs_9 : decode cX8_runs 9 = .ok (.getfield 19, 3) := by decide +kernel
theorem dX8_runs_12 : decode cX8_runs 12 = .ok (.iload_n 1, 1) := by decide +kernel
theorem dX8_runs_13 : decode cX8_runs 13 = .ok (.invokevirtual 205, 3) := by decide +kernel
theorem dX8_runs_16 : decode cX8_runs 16 = .ok (.pop, 1) := by decide +kernel
theorem dX8_runs_17 : decode cX8_runs 17 = .ok (.iload_n 1, 1) := by decide +kernel
theorem dX8_runs_18 : decode cX8_runs 18 = .ok (.invokestatic 300, 3) := by decide +kernel
theorem dX8_runs_21 : decode cX8_runs 21 = .ok (.ireturn, 1) := by decide +kernel
set_option maxRecDepth 20000 in
theorem ggX8_does_X8_books : GoodIn wsX8_does wsX8_books := goodIn_r _ [6, 1, 7, 8, 9, 5, 10, 11, 12, 13, 14, 15, 16, 17, 18, 19, 20, 21, 22, 23, 24, 25, 26, 27, 28, 29, 30, 31, 32, 33, 34, 35, 36, 37, 38, 39, 40, 41, 42, 43, 44, 45, 46, 47, 48, 49, 50, 51, 52, 53, 54, 55, 56, 57, 58, 59, 60, 61, 62, 63, 64, 65, 66, 67, 143, 144, 145, 146, 147, 148, 149, 150, 151, 152, 153, 154, 155, 156, 157, 158, 159] (by decide +kernel) (by decide +kernel)
set_option maxRecDepth 20000 in
theorem gX8_does_X8_books : GoodIn wsX8_does (wsV RX8 318 RX8 yX8_books wsX8_books) := goodIn_app (goodIn_of _ (by decide +kernel)) ggX8_does_X8_books
set_option maxRecDepth 20000 in
theorem ggX8_does_X8_wishes : GoodIn wsX8_does wsX8_wishes := goodIn_r _ [71, 1, 7, 8, 9, 5, 10, 11, 12, 13, 14, 15, 16, 17, 72, 73, 74, 26, 27, 28, 29, 30, 31, 75, 76, 77, 143, 144, 145, 146, 147, 148, 149, 150, 151, 152, 153, 154, 155, 156, 157, 158, 159] (by decide +kernel) (by decide +kernel)
set_option maxRecDepth 20000 in
theorem gX8_does_X8_wishes : GoodIn wsX8_does (wsV RX8 322 RX8 yX8_wishes wsX8_wishes) := goodIn_app (goodIn_of _ (by decide +kernel)) ggX8_does_X8_wishes
set_option maxRecDepth 20000 in
theorem ggX8_does_X8_lists : GoodIn wsX8_does wsX8_lists := goodIn_r _ [81, 1, 7, 8, 9, 5, 10, 11, 12, 13, 14, 15, 16, 17, 82, 83, 84, 29, 30, 31, 143, 144, 145, 146, 147, 148, 149, 150, 151, 152, 153, 154, 155, 156, 157, 158, 159] (by decide +kernel) (by decide +kernel)
set_option maxRecDepth 20000 in
theorem gX8_does_X8_lists : GoodIn wsX8_does (wsV RX8 325 RX8 yX8_lists wsX8_lists) := goodIn_app (goodIn_of _ (by decide +kernel)) ggX8_does_X8_lists
set_option maxRecDepth 20000 in
theorem ggX8_does_X8_carries : GoodIn wsX8_does wsX8_carries := goodIn_r _ [88, 1, 11, 12, 5, 13, 14, 15, 16, 17, 38, 39, 40, 143, 144, 145, 146, 147, 148, 149, 150, 151, 152, 153, 154, 155, 156, 157, 158, 159] (by decide +kernel) (by decide +kernel)
set_option maxRecDepth 20000 in
theorem gX8_does_X8_carries : GoodIn wsX8_does (wsV RX8 329 RX8 yX8_carries wsX8_carries) := goodIn_app (goodIn_of _ (by decide +kernel)) ggX8_does_X8_carries
set_option maxRecDepth 20000 in
theorem ggX8_does_X8_punishes : GoodIn wsX8_does wsX8_punishes := goodIn_r _ [92, 1, 7, 8, 9, 5, 10, 11, 12, 13, 14, 15, 16, 17, 93, 94, 95, 29, 30, 31, 143, 144, 145, 146, 147, 148, 149, 150, 151, 152, 153, 154, 155, 156, 157, 158, 159] (by decide +kernel) (by decide +kernel)
set_option maxRecDepth 20000 in
theorem gX8_does_X8_punishes : GoodIn wsX8_does (wsV RX8 332 RX8 yX8_punishes wsX8_punishes) := goodIn_app (goodIn_of _ (by decide +kernel)) ggX8_does_X8_punishes
set_option maxRecDepth 20000 in
theorem ggX8_does_X8_runs : GoodIn wsX8_does wsX8_runs := goodIn_r _ [99, 1, 100, 101, 5, 102, 103, 15, 16, 17, 104, 105, 106, 107, 108, 109, 110, 111, 112, 113, 114, 115, 116, 117, 118, 119, 120, 121, 122, 123, 124, 29, 30, 31, 125, 126, 127, 23, 24, 25, 26, 27, 28, 32, 33, 34, 35, 36, 37, 38, 39, 40, 41, 42, 43, 44, 45, 46, 47, 48, 49, 50, 51, 52, 53, 54, 55, 56, 57, 58, 59, 60, 61, 62, 63, 64, 65, 66, 67, 128, 129, 130, 131, 132, 133, 134, 135, 136, 137, 138, 139, 140, 141, 142, 143, 144, 145, 146, 147, 148, 149, 150, 151, 152, 153, 154, 155, 156, 157, 158, 159] (by decide +kernel) (by decide +kernel)
set_option maxRecDepth 20000 in
theorem gX8_does_X8_runs : GoodIn wsX8_does (wsV RX8 335 RX8 yX8_runs wsX8_runs) := goodIn_app (goodIn_of _ (by decide +kernel)) ggX8_does_X8_runs
set_option maxRecDepth 20000 in
theorem ggX8_does_X8_isThere : GoodIn wsX8_does wsX8_isThere := goodIn_r _ [10, 1, 11, 12, 5, 13, 14, 15, 16, 17, 143, 144, 145, 146, 147, 148, 149, 150, 151, 152, 153, 154, 155, 156, 157, 158, 159] (by decide +kernel) (by decide +kernel)
set_option maxRecDepth 20000 in
theorem gX8_does_X8_isThere : GoodIn wsX8_does (wsV RX8 315 RX8 yX8_isThere wsX8_isThere) := goodIn_app (goodIn_of _ (by decide +kernel)) ggX8_does_X8_isThere
set_option maxRecDepth 20000 in
theorem ggX8_does_X8_prisonerAt : GoodIn wsX8_does wsX8_prisonerAt := goodIn_r _ [31] (by decide +kernel) (by decide +kernel)
set_option maxRecDepth 20000 in
theorem gX8_does_X8_prisonerAt : GoodIn wsX8_does (va_wsS RX8 55 yX8_prisonerAt wsX8_prisonerAt) := goodIn_app (goodIn_of _ (by decide +kernel)) ggX8_does_X8_prisonerAt
set_option maxRecDepth 20000 in
theorem ggX8_does_X8_isVisitor : GoodIn wsX8_does wsX8_isVisitor := goodIn_r _ [13, 14, 15, 16, 5, 17] (by decide +kernel) (by decide +kernel)
set_option maxRecDepth 20000 in
theorem gX8_does_X8_isVisitor : GoodIn wsX8_does (va_wsS RX8 243 yX8_isVisitor wsX8_isVisitor) := goodIn_app (goodIn_of _ (by decide +kernel)) ggX8_does_X8_isVisitor
set_option maxRecDepth 20000 in
theorem ggX8_does_X8_isBanned : GoodIn wsX8_does wsX8_isBanned := goodIn_r _ [37, 38, 39, 5, 40] (by decide +kernel) (by decide +kernel)
set_option maxRecDepth 20000 in
theorem gX8_does_X8_isBanned : GoodIn wsX8_does (va_wsS RX8 76 yX8_isBanned wsX8_isBanned) := goodIn_app (goodIn_of _ (by decide +kernel)) ggX8_does_X8_isBanned
theorem dX8_does_0 : decode cX8_does 0 = .ok (.iload_n 1, 1) := by decide +kernel
theorem dX8_does_1 : decode cX8_does 1 = .ok (.sipush 10000, 3) := by decide +kernel
theorem dX8_does_4 : decode cX8_does 4 = .ok (.idiv, 1) := by decide +kernel
theorem dX8_does_5 : decode cX8_does 5 = .ok (.istore_n 2, 1) := by decide +kernel
theorem dX8_does_6 : decode cX8_does 6 = .ok (.iload_n 1, 1) := by decide +kernel
theorem dX8_does_7 : decode cX8_does 7 = .ok (.sipush 1000, 3) := by decide +kernel
theorem dX8_does_10 : decode cX8_does 10 = .ok (.idiv, 1) := by decide +kernel
theorem dX8_does_11 : decode cX8_does 11 = .ok (.bipush 10, 2) := by decide +kernel
theorem dX8_does_13 : decode cX8_does 13 = .ok (.irem, 1) := by decide +kernel
theorem dX8_does_14 : decode cX8_does 14 = .ok (.istore_n 3, 1) := by decide +kernel
theorem dX8_does_15 : decode cX8_does 15 = .ok (.iload_n 1, 1) := by decide +kernel
theorem dX8_does_16 : decode cX8_does 16 = .ok (.bipush 100, 2) := by decide +kernel
theorem dX8_does_18 : decode cX8_does 18 = .ok (.idiv, 1) := by decide +kernel
theorem dX8_does_19 : decode cX8_does 19 = .ok (.bipush 10, 2) := by decide +kernel
theorem dX8_does_21 : decode cX8_does 21 = .ok (.irem, 1) := by decide +kernel
theorem dX8_does_22 : decode cX8_does 22 = .ok (.istore 4, 2) := by decide +kernel
theorem dX8_does_24 : decode cX8_does 24 = .ok (.iload_n 1, 1) := by decide +kernel
theorem dX8_does_25 : decode cX8_does 25 = .ok (.bipush 10, 2) := by decide +kernel
theorem dX8_does_27 : decode cX8_does 27 = .ok (.idiv, 1) := by decide +kernel
theorem dX8_does_28 : decode cX8_does 28 = .ok (.bipush 10, 2) := by decide +kernel
theorem dX8_does_30 : decode cX8_does 30 = .ok (.irem, 1) := by decide +kernel
theorem dX8_does_31 : decode cX8_does 31 = .ok (.istore 5, 2) := by decide +kernel
theorem dX8_does_33 : decode cX8_does 33 = .ok (.iload_n 1, 1) := by decide +kernel
theorem dX8_does_34 : decode cX8_does 34 = .ok (.bipush 10, 2) := by decide +kernel
theorem dX8_does_36 : decode cX8_does 36 = .ok (.irem, 1) := by decide +kernel
theorem dX8_does_37 : decode cX8_does 37 = .ok (.istore 6, 2) := by decide +kernel
theorem dX8_does_39 : decode cX8_does 39 = .ok (.iload_n 1, 1) := by decide +kernel
theorem dX8_does_40 : decode cX8_does 40 = .ok (.bipush 100, 2) := by decide +kernel
theorem dX8_does_42 : decode cX8_does 42 = .ok (.irem, 1) := by decide +kernel
theorem dX8_does_43 : decode cX8_does 43 = .ok (.istore 7, 2) := by decide +kernel
theorem dX8_does_45 : decode cX8_does 45 = .ok (.iload_n 1, 1) := by decide +kernel
theorem dX8_does_46 : decode cX8_does 46 = .ok (.sipush 10000, 3) := by decide +kernel
theorem dX8_does_49 : decode cX8_does 49 = .ok (.irem, 1) := by decide +kernel
theorem dX8_does_50 : decode cX8_does 50 = .ok (.bipush 100, 2) := by decide +kernel
theorem dX8_does_52 : decode cX8_does 52 = .ok (.if_icmp .ge 7, 3) := by decide +kernel
theorem dX8_does_55 : decode cX8_does 55 = .ok (.iconst 1, 1) := by decide +kernel
theorem dX8_does_56 : decode cX8_does 56 = .ok (.goto 4, 3) := by decide +kernel
theorem dX8_does_59 : decode cX8_does 59 = .ok (.iconst 0, 1) := by decide +kernel
theorem dX8_does_60 : decode cX8_does 60 = .ok (.istore 8, 2) := by decide +kernel
theorem dX8_does_62 : decode cX8_does 62 = .ok (.iload_n 2, 1) := by decide +kernel
theorem dX8_does_63 : decode cX8_does 63 = .ok (.tableswitch 274 1 9 #[49, 68, 89, 112, 138, 159, 179, 214, 252], 49) := by decide +kernel
theorem dX8_does_112 : decode cX8_does 112 = .ok (.aload_n 0, 1) := by decide +kernel
theorem dX8_does_113 : decode cX8_does 113 = .ok (.iload_n 3, 1) := by decide +kernel
theorem dX8_does_114 : decode cX8_does 114 = .ok (.iload 4, 2) := by decide +kernel
theorem dX8_does_116 : decode cX8_does 116 = .ok (.aload_n 0, 1) := by decide +kernel
theorem dX8_does_117 : decode cX8_does 117 = .ok (.getfield 19, 3) := by decide +kernel
theorem dX8_does_120 : decode cX8_does 120 = .ok (.iconst 0, 1) := by decide +kernel
theorem dX8_does_121 : decode cX8_does 121 = .ok (.iaload, 1) := by decide +kernel
theorem dX8_does_122 : decode cX8_does 122 = .ok (.iload 5, 2) := by decide +kernel
theorem dX8_does_124 : decode cX8_does 124 = .ok (.iadd, 1) := by decide +kernel
theorem dX8_does_125 : decode cX8_does 125 = .ok (.iload 6, 2) := by decide +kernel
theorem dX8_does_127 : decode cX8_does 127 = .ok (.invokevirtual 318, 3) := by decide +kernel
theorem dX8_does_130 : decode cX8_does 130 = .ok (.ireturn, 1) := by decide +kernel
theorem dX8_does_131 : decode cX8_does 131 = .ok (.iload 7, 2) := by decide +kernel
theorem dX8_does_133 : decode cX8_does 133 = .ok (.ifCond .ne 17, 3) := by decide +kernel
theorem dX8_does_136 : decode cX8_does 136 = .ok (.aload_n 0, 1) := by decide +kernel
theorem dX8_does_137 : decode cX8_does 137 = .ok (.iload_n 3, 1) := by decide +kernel
theorem dX8_does_138 : decode cX8_does 138 = .ok (.iload 4, 2) := by decide +kernel
theorem dX8_does_140 : decode cX8_does 140 = .ok (.invokevirtual 322, 3) := by decide +kernel
theorem dX8_does_143 : decode cX8_does 143 = .ok (.ifCond .eq 7, 3) := by decide +kernel
theorem dX8_does_146 : decode cX8_does 146 = .ok (.iconst 1, 1) := by decide +kernel
theorem dX8_does_147 : decode cX8_does 147 = .ok (.goto 4, 3) := by decide +kernel
theorem dX8_does_150 : decode cX8_does 150 = .ok (.iconst 0, 1) := by decide +kernel
theorem dX8_does_151 : decode cX8_does 151 = .ok (.ireturn, 1) := by decide +kernel
theorem dX8_does_152 : decode cX8_does 152 = .ok (.iload 5, 2) := by decide +kernel
theorem dX8_does_154 : decode cX8_does 154 = .ok (.ifCond .ne 19, 3) := by decide +kernel
theorem dX8_does_157 : decode cX8_does 157 = .ok (.aload_n 0, 1) := by decide +kernel
theorem dX8_does_158 : decode cX8_does 158 = .ok (.iload_n 3, 1) := by decide +kernel
theorem dX8_does_159 : decode cX8_does 159 = .ok (.iload 4, 2) := by decide +kernel
theorem dX8_does_161 : decode cX8_does 161 = .ok (.iload 6, 2) := by decide +kernel
theorem dX8_does_163 : decode cX8_does 163 = .ok (.invokevirtual 325, 3) := by decide +kernel
theorem dX8_does_166 : decode cX8_does 166 = .ok (.ifCond .eq 7, 3) := by decide +kernel
theorem dX8_does_169 : decode cX8_does 169 = .ok (.iconst 1, 1) := by decide +kernel
theorem dX8_does_170 : decode cX8_does 170 = .ok (.goto 4, 3) := by decide +kernel
theorem dX8_does_173 : decode cX8_does 173 = .ok (.iconst 0, 1) := by decide +kernel
theorem dX8_does_174 : decode cX8_does 174 = .ok (.ireturn, 1) := by decide +kernel
theorem dX8_does_175 : decode cX8_does 175 = .ok (.iload 4, 2) := by decide +kernel
theorem dX8_does_177 : decode cX8_does 177 = .ok (.ifCond .ne 22, 3) := by decide +kernel
theorem dX8_does_180 : decode cX8_does 180 = .ok (.iload 5, 2) := by decide +kernel
theorem dX8_does_182 : decode cX8_does 182 = .ok (.ifCond .ne 17, 3) := by decide +kernel
theorem dX8_does_185 : decode cX8_does 185 = .ok (.aload_n 0, 1) := by decide +kernel
theorem dX8_does_186 : decode cX8_does 186 = .ok (.iload_n 3, 1) := by decide +kernel
theorem dX8_does_187 : decode cX8_does 187 = .ok (.iload 6, 2) := by decide +kernel
theorem dX8_does_189 : decode cX8_does 189 = .ok (.invokevirtual 329, 3) := by decide +kernel
theorem dX8_does_192 : decode cX8_does 192 = .ok (.ifCond .eq 7, 3) := by decide +kernel
theorem dX8_does_195 : decode cX8_does 195 = .ok (.iconst 1, 1) := by decide +kernel
theorem dX8_does_196 : decode cX8_does 196 = .ok (.goto 4, 3) := by decide +kernel
theorem dX8_does_199 : decode cX8_does 199 = .ok (.iconst 0, 1) := by decide +kernel
theorem dX8_does_200 : decode cX8_does 200 = .ok (.ireturn, 1) := by decide +kernel
theorem dX8_does_201 : decode cX8_does 201 = .ok (.iload 4, 2) := by decide +kernel
theorem dX8_does_203 : decode cX8_does 203 = .ok (.ifCond .ne 17, 3) := by decide +kernel
theorem dX8_does_206 : decode cX8_does 206 = .ok (.aload_n 0, 1) := by decide +kernel
theorem dX8_does_207 : decode cX8_does 207 = .ok (.iload_n 3, 1) := by decide +kernel
theorem dX8_does_208 : decode cX8_does 208 = .ok (.iload 7, 2) := by decide +kernel
theorem dX8_does_210 : decode cX8_does 210 = .ok (.invokevirtual 332, 3) := by decide +kernel
theorem dX8_does_213 : decode cX8_does 213 = .ok (.ifCond .eq 7, 3) := by decide +kernel
theorem dX8_does_216 : decode cX8_does 216 = .ok (.iconst 1, 1) := by decide +kernel
theorem dX8_does_217 : decode cX8_does 217 = .ok (.goto 4, 3) := by decide +kernel
theorem dX8_does_220 : decode cX8_does 220 = .ok (.iconst 0, 1) := by decide +kernel
theorem dX8_does_221 : decode cX8_does 221 = .ok (.ireturn, 1) := by decide +kernel
theorem dX8_does_222 : decode cX8_does 222 = .ok (.iload 8, 2) := by decide +kernel
theorem dX8_does_224 : decode cX8_does 224 = .ok (.ifCond .eq 16, 3) := by decide +kernel
theorem dX8_does_227 : decode cX8_does 227 = .ok (.aload_n 0, 1) := by decide +kernel
theorem dX8_does_228 : decode cX8_does 228 = .ok (.iload 7, 2) := by decide +kernel
theorem dX8_does_230 : decode cX8_does 230 = .ok (.invokevirtual 335, 3) := by decide +kernel
theorem dX8_does_233 : decode cX8_does 233 = .ok (.ifCond .eq 7, 3) := by decide +kernel
theorem dX8_does_236 : decode cX8_does 236 = .ok (.iconst 1, 1) := by decide +kernel
theorem dX8_does_237 : decode cX8_does 237 = .ok (.goto 4, 3) := by decide +kernel
theorem dX8_does_240 : decode cX8_does 240 = .ok (.iconst 0, 1) := by decide +kernel
theorem dX8_does_241 : decode cX8_does 241 = .ok (.ireturn, 1) := by decide +kernel
theorem dX8_does_242 : decode cX8_does 242 = .ok (.iload 4, 2) := by decide +kernel
theorem dX8_does_244 : decode cX8_does 244 = .ok (.ifCond .ne 31, 3) := by decide +kernel
theorem dX8_does_247 : decode cX8_does 247 = .ok (.aload_n 0, 1) := by decide +kernel
theorem dX8_does_248 : decode cX8_does 248 = .ok (.iload_n 3, 1) := by decide +kernel
theorem dX8_does_249 : decode cX8_does 249 = .ok (.iconst 0, 1) := by decide +kernel
theorem dX8_does_250 : decode cX8_does 250 = .ok (.invokevirtual 315, 3) := by decide +kernel
theorem dX8_does_253 : decode cX8_does 253 = .ok (.ifCond .eq 22, 3) := by decide +kernel
theorem dX8_does_256 : decode cX8_does 256 = .ok (.aload_n 0, 1) := by decide +kernel
theorem dX8_does_257 : decode cX8_does 257 = .ok (.getfield 19, 3) := by decide +kernel
theorem dX8_does_260 : decode cX8_does 260 = .ok (.iload_n 3, 1) := by decide +kernel
theorem dX8_does_261 : decode cX8_does 261 = .ok (.iconst 3, 1) := by decide +kernel
theorem dX8_does_262 : decode cX8_does 262 = .ok (.invokestatic 55, 3) := by decide +kernel
theorem dX8_does_265 : decode cX8_does 265 = .ok (.iaload, 1) := by decide +kernel
theorem dX8_does_266 : decode cX8_does 266 = .ok (.iload 7, 2) := by decide +kernel
theorem dX8_does_268 : decode cX8_does 268 = .ok (.if_icmp .lt 7, 3) := by decide +kernel
theorem dX8_does_271 : decode cX8_does 271 = .ok (.iconst 1, 1) := by decide +kernel
theorem dX8_does_272 : decode cX8_does 272 = .ok (.goto 4, 3) := by decide +kernel
theorem dX8_does_275 : decode cX8_does 275 = .ok (.iconst 0, 1) := by decide +kernel
theorem dX8_does_276 : decode cX8_does 276 = .ok (.ireturn, 1) := by decide +kernel
theorem dX8_does_277 : decode cX8_does 277 = .ok (.iload_n 1, 1) := by decide +kernel
theorem dX8_does_278 : decode cX8_does 278 = .ok (.sipush 1000, 3) := by decide +kernel
theorem dX8_does_281 : decode cX8_does 281 = .ok (.irem, 1) := by decide +kernel
theorem dX8_does_282 : decode cX8_does 282 = .ok (.ifCond .ne 31, 3) := by decide +kernel
theorem dX8_does_285 : decode cX8_does 285 = .ok (.iload_n 3, 1) := by decide +kernel
theorem dX8_does_286 : decode cX8_does 286 = .ok (.invokestatic 243, 3) := by decide +kernel
theorem dX8_does_289 : decode cX8_does 289 = .ok (.ifCond .eq 24, 3) := by decide +kernel
theorem dX8_does_292 : decode cX8_does 292 = .ok (.aload_n 0, 1) := by decide +kernel
theorem dX8_does_293 : decode cX8_does 293 = .ok (.getfield 19, 3) := by decide +kernel
theorem dX8_does_296 : decode cX8_does 296 = .ok (.iload_n 3, 1) := by decide +kernel
theorem dX8_does_297 : decode cX8_does 297 = .ok (.aload_n 0, 1) := by decide +kernel
theorem dX8_does_298 : decode cX8_does 298 = .ok (.getfield 19, 3) := by decide +kernel
theorem dX8_does_301 : decode cX8_does 301 = .ok (.iconst 0, 1) := by decide +kernel
theorem dX8_does_302 : decode cX8_does 302 = .ok (.iaload, 1) := by decide +kernel
theorem dX8_does_303 : decode cX8_does 303 = .ok (.invokestatic 76, 3) := by decide +kernel
theorem dX8_does_306 : decode cX8_does 306 = .ok (.ifCond .ne 7, 3) := by decide +kernel
theorem dX8_does_309 : decode cX8_does 309 = .ok (.iconst 1, 1) := by decide +kernel
theorem dX8_does_310 : decode cX8_does 310 = .ok (.goto 4, 3) := by decide +kernel
theorem dX8_does_313 : decode cX8_does 313 = .ok (.iconst 0, 1) := by decide +kernel
theorem dX8_does_314 : decode cX8_does 314 = .ok (.ireturn, 1) := by decide +kernel
theorem dX8_does_315 : decode cX8_does 315 = .ok (.iload 8, 2) := by decide +kernel
theorem dX8_does_317 : decode cX8_does 317 = .ok (.ifCond .eq 18, 3) := by decide +kernel
theorem dX8_does_320 : decode cX8_does 320 = .ok (.aload_n 0, 1) := by decide +kernel
theorem dX8_does_321 : decode cX8_does 321 = .ok (.getfield 19, 3) := by decide +kernel
theorem dX8_does_324 : decode cX8_does 324 = .ok (.iconst 2, 1) := by decide +kernel
theorem dX8_does_325 : decode cX8_does 325 = .ok (.iaload, 1) := by decide +kernel
theorem dX8_does_326 : decode cX8_does 326 = .ok (.iload 7, 2) := by decide +kernel
theorem dX8_does_328 : decode cX8_does 328 = .ok (.if_icmp .gt 7, 3) := by decide +kernel
theorem dX8_does_331 : decode cX8_does 331 = .ok (.iconst 1, 1) := by decide +kernel
theorem dX8_does_332 : decode cX8_does 332 = .ok (.goto 4, 3) := by decide +kernel
theorem dX8_does_335 : decode cX8_does 335 = .ok (.iconst 0, 1) := by decide +kernel
theorem dX8_does_336 : decode cX8_does 336 = .ok (.ireturn, 1) := by decide +kernel
theorem dX8_does_337 : decode cX8_does 337 = .ok (.iconst 0, 1) := by decide +kernel
theorem dX8_does_338 : decode cX8_does 338 = .ok (.ireturn, 1) := by decide +kernel
set_option maxRecDepth 20000 in
theorem ggX8_runScript_X8_in : GoodIn wsX8_runScript wsX8_in := goodIn_r _ [6] (by decide +kernel) (by decide +kernel)
set_option maxRecDepth 20000 in
theorem gX8_runScript_X8_in : GoodIn wsX8_runScript (va_wsS RX8 140 yX8_in wsX8_in) := goodIn_app (goodIn_of _ (by decide +kernel)) ggX8_runScript_X8_in
set_option maxRecDepth 20000 in
theorem ggX8_runScript_X8_tenTo : GoodIn wsX8_runScript wsX8_tenTo := goodIn_r _ [9, 10] (by decide +kernel) (by decide +kernel)
set_option maxRecDepth 20000 in
theorem gX8_runScript_X8_tenTo : GoodIn wsX8_runScript (va_wsS RX8 262 yX8_tenTo wsX8_tenTo) := goodIn_app (goodIn_of _ (by decide +kernel)) ggX8_runScript_X8_tenTo
set_option maxRecDepth 20000 in
theorem ggX8_runScript_X8_refused : GoodIn wsX8_runScript wsX8_refused := goodIn_r _ [14, 15, 163, 164, 165, 166, 167, 168, 169, 170, 171, 172, 173, 174, 175, 176, 177, 178, 179] (by decide +kernel) (by decide +kernel)
set_option maxRecDepth 20000 in
theorem gX8_runScript_X8_refused : GoodIn wsX8_runScript (wsV RX8 151 RX8 yX8_refused wsX8_refused) := goodIn_app (goodIn_of _ (by decide +kernel)) ggX8_runScript_X8_refused
set_option maxRecDepth 20000 in
theorem ggX8_runScript_X8_tryIt : GoodIn wsX8_runScript wsX8_tryIt := goodIn_r _ [19, 20, 21, 22, 23, 24, 5, 25, 163, 164, 165, 166, 167, 168, 169, 170, 171, 172, 173, 174, 175, 176, 177, 178, 179] (by decide +kernel) (by decide +kernel)
set_option maxRecDepth 20000 in
theorem gX8_runScript_X8_tryIt : GoodIn wsX8_runScript (wsV RX8 312 RX8 yX8_tryIt wsX8_tryIt) := goodIn_app (goodIn_of _ (by decide +kernel)) ggX8_runScript_X8_tryIt
set_option maxRecDepth 20000 in
theorem ggX8_runScript_X8_does : GoodIn wsX8_runScript wsX8_does := goodIn_r _ [29, 21, 30, 31, 32, 5, 33, 34, 35, 36, 37, 38, 39, 40, 41, 3, 4, 6, 42, 43, 44, 45, 46, 47, 48, 49, 50, 51, 52, 53, 54, 55, 56, 57, 58, 59, 60, 61, 62, 63, 64, 65, 66, 67, 68, 69, 70, 71, 72, 73, 74, 75, 76, 77, 78, 79, 80, 81, 82, 83, 84, 85, 86, 87, 88, 23, 24, 25, 89, 90, 91, 92, 93, 94, 95, 96, 97, 98, 99, 100, 101, 102, 103, 104, 105, 106, 107, 108, 109, 110, 111, 112, 113, 114, 115, 116, 117, 118, 119, 120, 121, 122, 123, 124, 125, 126, 127, 128, 129, 130, 131, 132, 22, 133, 134, 135, 136, 137, 138, 139, 140, 141, 142, 143, 144, 145, 146, 147, 148, 149, 150, 151, 152, 153, 154, 155, 156, 157, 158, 159, 160, 161, 162, 163, 164, 165, 166, 167, 168, 169, 170, 171, 172, 173, 174, 175, 176, 177, 178, 179] (by decide +kernel) (by decide +kernel)
set_option maxRecDepth 20000 in
theorem gX8_runScript_X8_does : GoodIn wsX8_runScript (wsV RX8 340 RX8 yX8_does wsX8_does) := goodIn_app (goodIn_of _ (by decide +kernel)) ggX8_runScript_X8_does
theorem dX8_runScript_0 : decode cX8_runScript 0 = .ok (.iload_n 1, 1) := by decide +kernel
theorem dX8_runScript_1 : decode cX8_runScript 1 = .ok (.i2l, 1) := by decide +kernel
theorem dX8_runScript_2 : decode cX8_runScript 2 = .ok (.lconst 1, 1) := by decide +kernel
theorem dX8_runScript_3 : decode cX8_runScript 3 = .ok (.ldc2_w 276, 3) := by decide +kernel
theorem dX8_runScript_6 : decode cX8_runScript 6 = .ok (.invokestatic 140, 3) := by decide +kernel
theorem dX8_runScript_9 : decode cX8_runScript 9 = .ok (.istore 4, 2) := by decide +kernel
theorem dX8_runScript_11 : decode cX8_runScript 11 = .ok (.aload_n 0, 1) := by decide +kernel
theorem dX8_runScript_12 : decode cX8_runScript 12 = .ok (.iload 4, 2) := by decide +kernel
theorem dX8_runScript_14 : decode cX8_runScript 14 = .ok (.ifCond .eq 32, 3) := by decide +kernel
theorem dX8_runScript_17 : decode cX8_runScript 17 = .ok (.lload_n 2, 1) := by decide +kernel
theorem dX8_runScript_18 : decode cX8_runScript 18 = .ok (.lconst 0, 1) := by decide +kernel
theorem dX8_runScript_19 : decode cX8_runScript 19 = .ok (.iload 4, 2) := by decide +kernel
theorem dX8_runScript_21 : decode cX8_runScript 21 = .ok (.ifCond .eq 9, 3) := by decide +kernel
theorem dX8_runScript_24 : decode cX8_runScript 24 = .ok (.iconst 5, 1) := by decide +kernel
theorem dX8_runScript_25 : decode cX8_runScript 25 = .ok (.iload_n 1, 1) := by decide +kernel
theorem dX8_runScript_26 : decode cX8_runScript 26 = .ok (.imul, 1) := by decide +kernel
theorem dX8_runScript_27 : decode cX8_runScript 27 = .ok (.goto 4, 3) := by decide +kernel
theorem dX8_runScript_30 : decode cX8_runScript 30 = .ok (.iconst 0, 1) := by decide +kernel
theorem dX8_runScript_31 : decode cX8_runScript 31 = .ok (.invokestatic 262, 3) := by decide +kernel
theorem dX8_runScript_34 : decode cX8_runScript 34 = .ok (.lconst 1, 1) := by decide +kernel
theorem dX8_runScript_35 : decode cX8_runScript 35 = .ok (.lsub, 1) := by decide +kernel
theorem dX8_runScript_36 : decode cX8_runScript 36 = .ok (.invokestatic 140, 3) := by decide +kernel
theorem dX8_runScript_39 : decode cX8_runScript 39 = .ok (.ifCond .eq 7, 3) := by decide +kernel
theorem dX8_runScript_42 : decode cX8_runScript 42 = .ok (.iconst 0, 1) := by decide +kernel
theorem dX8_runScript_43 : decode cX8_runScript 43 = .ok (.goto 4, 3) := by decide +kernel
theorem dX8_runScript_46 : decode cX8_runScript 46 = .ok (.iconst 1, 1) := by decide +kernel
theorem dX8_runScript_47 : decode cX8_runScript 47 = .ok (.invokevirtual 151, 3) := by decide +kernel
theorem dX8_runScript_50 : decode cX8_runScript 50 = .ok (.ifCond .eq 5, 3) := by decide +kernel
theorem dX8_runScript_53 : decode cX8_runScript 53 = .ok (.iconst 0, 1) := by decide +kernel
theorem dX8_runScript_54 : decode cX8_runScript 54 = .ok (.ireturn, 1) := by decide +kernel
theorem dX8_runScript_55 : decode cX8_runScript 55 = .ok (.aload_n 0, 1) := by decide +kernel
theorem dX8_runScript_56 : decode cX8_runScript 56 = .ok (.invokevirtual 312, 3) := by decide +kernel
theorem dX8_runScript_59 : decode cX8_runScript 59 = .ok (.iconst 0, 1) := by decide +kernel
theorem dX8_runScript_60 : decode cX8_runScript 60 = .ok (.istore 5, 2) := by decide +kernel
theorem dX8_runScript_62 : decode cX8_runScript 62 = .ok (.iload 5, 2) := by decide +kernel
theorem dX8_runScript_64 : decode cX8_runScript 64 = .ok (.iload_n 1, 1) := by decide +kernel
theorem dX8_runScript_65 : decode cX8_runScript 65 = .ok (.if_icmp .ge 37, 3) := by decide +kernel
theorem dX8_runScript_68 : decode cX8_runScript 68 = .ok (.aload_n 0, 1) := by decide +kernel
theorem dX8_runScript_69 : decode cX8_runScript 69 = .ok (.lload_n 2, 1) := by decide +kernel
theorem dX8_runScript_70 : decode cX8_runScript 70 = .ok (.iconst 5, 1) := by decide +kernel
theorem dX8_runScript_71 : decode cX8_runScript 71 = .ok (.iload_n 1, 1) := by decide +kernel
theorem dX8_runScript_72 : decode cX8_runScript 72 = .ok (.iconst 1, 1) := by decide +kernel
theorem dX8_runScript_73 : decode cX8_runScript 73 = .ok (.isub, 1) := by decide +kernel
theorem dX8_runScript_74 : decode cX8_runScript 74 = .ok (.iload 5, 2) := by decide +kernel
theorem dX8_runScript_76 : decode cX8_runScript 76 = .ok (.isub, 1) := by decide +kernel
theorem dX8_runScript_77 : decode cX8_runScript 77 = .ok (.imul, 1) := by decide +kernel
theorem dX8_runScript_78 : decode cX8_runScript 78 = .ok (.invokestatic 262, 3) := by decide +kernel
theorem dX8_runScript_81 : decode cX8_runScript 81 = .ok (.ldiv, 1) := by decide +kernel
theorem dX8_runScript_82 : decode cX8_runScript 82 = .ok (.ldc2_w 338, 3) := by decide +kernel
theorem dX8_runScript_85 : decode cX8_runScript 85 = .ok (.lrem, 1) := by decide +kernel
theorem dX8_runScript_86 : decode cX8_runScript 86 = .ok (.l2i, 1) := by decide +kernel
theorem dX8_runScript_87 : decode cX8_runScript 87 = .ok (.invokevirtual 340, 3) := by decide +kernel
theorem dX8_runScript_90 : decode cX8_runScript 90 = .ok (.ifCond .ne 6, 3) := by decide +kernel
theorem dX8_runScript_93 : decode cX8_runScript 93 = .ok (.iload 5, 2) := by decide +kernel
theorem dX8_runScript_95 : decode cX8_runScript 95 = .ok (.ireturn, 1) := by decide +kernel
theorem dX8_runScript_96 : decode cX8_runScript 96 = .ok (.iinc 5 1, 3) := by decide +kernel
theorem dX8_runScript_99 : decode cX8_runScript 99 = .ok (.goto (-37), 3) := by decide +kernel
theorem dX8_runScript_102 : decode cX8_runScript 102 = .ok (.iconst (-1), 1) := by decide +kernel
theorem dX8_runScript_103 : decode cX8_runScript 103 = .ok (.ireturn, 1) := by decide +kernel
set_option maxRecDepth 20000 in
theorem ggX8_stir_X8_books : GoodIn wsX8_stir wsX8_books := goodIn_r _ [6, 1, 7, 8, 9, 5, 10, 11, 12, 13, 14, 15, 16, 17, 18, 19, 20, 21, 22, 23, 24, 25, 26, 27, 28, 29, 30, 31, 32, 33, 34, 35, 36, 37, 38, 39, 40, 41, 42, 43, 44, 45, 46, 47, 48, 49, 50, 51, 52, 53, 54, 55, 56, 57, 58, 59, 60, 61, 62, 63, 64, 65, 66, 67, 128, 129, 130, 131, 132, 133, 134, 135, 136, 137, 138, 139, 140, 141, 142, 143, 144] (by decide +kernel) (by decide +kernel)
set_option maxRecDepth 20000 in
theorem gX8_stir_X8_books : GoodIn wsX8_stir (wsV RX8 318 RX8 yX8_books wsX8_books) := goodIn_app (goodIn_of _ (by decide +kernel)) ggX8_stir_X8_books
set_option maxRecDepth 20000 in
theorem ggX8_stir_X8_wishes : GoodIn wsX8_stir wsX8_wishes := goodIn_r _ [71, 1, 7, 8, 9, 5, 10, 11, 12, 13, 14, 15, 16, 17, 72, 73, 74, 26, 27, 28, 29, 30, 31, 75, 76, 77, 128, 129, 130, 131, 132, 133, 134, 135, 136, 137, 138, 139, 140, 141, 142, 143, 144] (by decide +kernel) (by decide +kernel)
set_option maxRecDepth 20000 in
theorem gX8_stir_X8_wishes : GoodIn wsX8_stir (wsV RX8 322 RX8 yX8_wishes wsX8_wishes) := goodIn_app (goodIn_of _ (by decide +kernel)) ggX8_stir_X8_wishes
set_option maxRecDepth 20000 in
theorem ggX8_stir_X8_lists : GoodIn wsX8_stir wsX8_lists := goodIn_r _ [81, 1, 7, 8, 9, 5, 10, 11, 12, 13, 14, 15, 16, 17, 82, 83, 84, 29, 30, 31, 128, 129, 130, 131, 132, 133, 134, 135, 136, 137, 138, 139, 140, 141, 142, 143, 144] (by decide +kernel) (by decide +kernel)
set_option maxRecDepth 20000 in
theorem gX8_stir_X8_lists : GoodIn wsX8_stir (wsV RX8 325 RX8 yX8_lists wsX8_lists) := goodIn_app (goodIn_of _ (by decide +kernel)) ggX8_stir_X8_lists
set_option maxRecDepth 20000 in
theorem ggX8_stir_X8_carries : GoodIn wsX8_stir wsX8_carries := goodIn_r _ [88, 1, 11, 12, 5, 13, 14, 15, 16, 17, 38, 39, 40, 128, 129, 130, 131, 132, 133, 134, 135, 136, 137, 138, 139, 140, 141, 142, 143, 144] (by decide +kernel) (by decide +kernel)
set_option maxRecDepth 20000 in
theorem gX8_stir_X8_carries : GoodIn wsX8_stir (wsV RX8 329 RX8 yX8_carries wsX8_carries) := goodIn_app (goodIn_of _ (by decide +kernel)) ggX8_stir_X8_carries
set_option maxRecDepth 20000 in
theorem ggX8_stir_X8_bookingAt : GoodIn wsX8_stir wsX8_bookingAt := goodIn_r _ [46] (by decide +kernel) (by decide +kernel)
set_option maxRecDepth 20000 in
theorem gX8_stir_X8_bookingAt : GoodIn wsX8_stir (va_wsS RX8 62 yX8_bookingAt wsX8_bookingAt) := goodIn_app (goodIn_of _ (by decide +kernel)) ggX8_stir_X8_bookingAt
set_option maxRecDepth 20000 in
theorem ggX8_stir_X8_runIn : GoodIn wsX8_stir wsX8_runIn := goodIn_r _ [92, 93, 94, 95, 5, 96, 97, 98, 99, 100, 101, 102, 103, 104, 105, 106, 107, 108, 109, 29, 30, 31, 110, 111, 112, 23, 24, 25, 26, 27, 28, 32, 33, 34, 35, 36, 37, 38, 39, 40, 41, 42, 43, 44, 45, 46, 47, 48, 49, 50, 51, 52, 53, 54, 55, 56, 57, 58, 59, 60, 61, 62, 63, 64, 65, 66, 67, 113, 114, 115, 116, 117, 118, 119, 120, 121, 122, 123, 124, 125, 126, 127, 128, 129, 130, 131, 132, 133, 134, 135, 136, 137, 138, 139, 140, 141, 142, 143, 144] (by decide +kernel) (by decide +kernel)
set_option maxRecDepth 20000 in
theorem gX8_stir_X8_runIn : GoodIn wsX8_stir (wsV RX8 205 RX8 yX8_runIn wsX8_runIn) := goodIn_app (goodIn_of _ (by decide +kernel)) ggX8_stir_X8_runIn
theorem dX8_stir_0 : decode cX8_stir 0 = .ok (.iload_n 1, 1) := by decide +kernel
theorem dX8_stir_1 : decode cX8_stir 1 = .ok (.bipush 8, 2) := by decide +kernel
theorem dX8_stir_3 : decode cX8_stir 3 = .ok (.idiv, 1) := by decide +kernel
theorem dX8_stir_4 : decode cX8_stir 4 = .ok (.bipush 8, 2) := by decide +kernel
theorem dX8_stir_6 : decode cX8_stir 6 = .ok (.irem, 1) := by decide +kernel
theorem dX8_stir_7 : decode cX8_stir 7 = .ok (.istore_n 2, 1) := by decide +kernel
theorem dX8_stir_8 : decode cX8_stir 8 = .ok (.iload_n 1, 1) := by decide +kernel
theorem dX8_stir_9 : decode cX8_stir 9 = .ok (.bipush 64, 2) := by decide +kernel
theorem dX8_stir_11 : decode cX8_stir 11 = .ok (.idiv, 1) := by decide +kernel
theorem dX8_stir_12 : decode cX8_stir 12 = .ok (.bipush 10, 2) := by decide +kernel
theorem dX8_stir_14 : decode cX8_stir 14 = .ok (.irem, 1) := by decide +kernel
theorem dX8_stir_15 : decode cX8_stir 15 = .ok (.istore_n 3, 1) := by decide +kernel
theorem dX8_stir_16 : decode cX8_stir 16 = .ok (.iload_n 1, 1) := by decide +kernel
theorem dX8_stir_17 : decode cX8_stir 17 = .ok (.bipush 8, 2) := by decide +kernel
theorem dX8_stir_19 : decode cX8_stir 19 = .ok (.irem, 1) := by decide +kernel
theorem dX8_stir_20 : decode cX8_stir 20 = .ok (.istore 4, 2) := by decide +kernel
theorem dX8_stir_22 : decode cX8_stir 22 = .ok (.iload 4, 2) := by decide +kernel
theorem dX8_stir_24 : decode cX8_stir 24 = .ok (.iconst 2, 1) := by decide +kernel
theorem dX8_stir_25 : decode cX8_stir 25 = .ok (.if_icmp .ge 35, 3) := by decide +kernel
theorem dX8_stir_28 : decode cX8_stir 28 = .ok (.aload_n 0, 1) := by decide +kernel
theorem dX8_stir_29 : decode cX8_stir 29 = .ok (.iload_n 2, 1) := by decide +kernel
theorem dX8_stir_30 : decode cX8_stir 30 = .ok (.iload_n 3, 1) := by decide +kernel
theorem dX8_stir_31 : decode cX8_stir 31 = .ok (.aload_n 0, 1) := by decide +kernel
theorem dX8_stir_32 : decode cX8_stir 32 = .ok (.getfield 19, 3) := by decide +kernel
theorem dX8_stir_35 : decode cX8_stir 35 = .ok (.iconst 0, 1) := by decide +kernel
theorem dX8_stir_36 : decode cX8_stir 36 = .ok (.iaload, 1) := by decide +kernel
theorem dX8_stir_37 : decode cX8_stir 37 = .ok (.iload_n 1, 1) := by decide +kernel
theorem dX8_stir_38 : decode cX8_stir 38 = .ok (.sipush 1024, 3) := by decide +kernel
theorem dX8_stir_41 : decode cX8_stir 41 = .ok (.idiv, 1) := by decide +kernel
theorem dX8_stir_42 : decode cX8_stir 42 = .ok (.iconst 5, 1) := by decide +kernel
theorem dX8_stir_43 : decode cX8_stir 43 = .ok (.irem, 1) := by decide +kernel
theorem dX8_stir_44 : decode cX8_stir 44 = .ok (.iadd, 1) := by decide +kernel
theorem dX8_stir_45 : decode cX8_stir 45 = .ok (.iload_n 1, 1) := by decide +kernel
theorem dX8_stir_46 : decode cX8_stir 46 = .ok (.sipush 8192, 3) := by decide +kernel
theorem dX8_stir_49 : decode cX8_stir 49 = .ok (.idiv, 1) := by decide +kernel
theorem dX8_stir_50 : decode cX8_stir 50 = .ok (.bipush 8, 2) := by decide +kernel
theorem dX8_stir_52 : decode cX8_stir 52 = .ok (.irem, 1) := by decide +kernel
theorem dX8_stir_53 : decode cX8_stir 53 = .ok (.invokevirtual 318, 3) := by decide +kernel
theorem dX8_stir_56 : decode cX8_stir 56 = .ok (.pop, 1) := by decide +kernel
theorem dX8_stir_57 : decode cX8_stir 57 = .ok (.goto 110, 3) := by decide +kernel
theorem dX8_stir_60 : decode cX8_stir 60 = .ok (.iload 4, 2) := by decide +kernel
theorem dX8_stir_62 : decode cX8_stir 62 = .ok (.iconst 2, 1) := by decide +kernel
theorem dX8_stir_63 : decode cX8_stir 63 = .ok (.if_icmp .ne 13, 3) := by decide +kernel
theorem dX8_stir_66 : decode cX8_stir 66 = .ok (.aload_n 0, 1) := by decide +kernel
theorem dX8_stir_67 : decode cX8_stir 67 = .ok (.iload_n 2, 1) := by decide +kernel
theorem dX8_stir_68 : decode cX8_stir 68 = .ok (.iload_n 3, 1) := by decide +kernel
theorem dX8_stir_69 : decode cX8_stir 69 = .ok (.invokevirtual 322, 3) := by decide +kernel
theorem dX8_stir_72 : decode cX8_stir 72 = .ok (.pop, 1) := by decide +kernel
theorem dX8_stir_73 : decode cX8_stir 73 = .ok (.goto 94, 3) := by decide +kernel
theorem dX8_stir_76 : decode cX8_stir 76 = .ok (.iload 4, 2) := by decide +kernel
theorem dX8_stir_78 : decode cX8_stir 78 = .ok (.iconst 3, 1) := by decide +kernel
theorem dX8_stir_79 : decode cX8_stir 79 = .ok (.if_icmp .ne 14, 3) := by decide +kernel
theorem dX8_stir_82 : decode cX8_stir 82 = .ok (.aload_n 0, 1) := by decide +kernel
theorem dX8_stir_83 : decode cX8_stir 83 = .ok (.iload_n 2, 1) := by decide +kernel
theorem dX8_stir_84 : decode cX8_stir 84 = .ok (.iload_n 3, 1) := by decide +kernel
theorem dX8_stir_85 : decode cX8_stir 85 = .ok (.iconst 1, 1) := by decide +kernel
theorem dX8_stir_86 : decode cX8_stir 86 = .ok (.invokevirtual 325, 3) := by decide +kernel
theorem dX8_stir_89 : decode cX8_stir 89 = .ok (.pop, 1) := by decide +kernel
theorem dX8_stir_90 : decode cX8_stir 90 = .ok (.goto 77, 3) := by decide +kernel
theorem dX8_stir_93 : decode cX8_stir 93 = .ok (.iload 4, 2) := by decide +kernel
theorem dX8_stir_95 : decode cX8_stir 95 = .ok (.iconst 4, 1) := by decide +kernel
theorem dX8_stir_96 : decode cX8_stir 96 = .ok (.if_icmp .ne 13, 3) := by decide +kernel
theorem dX8_stir_99 : decode cX8_stir 99 = .ok (.aload_n 0, 1) := by decide +kernel
theorem dX8_stir_100 : decode cX8_stir 100 = .ok (.iload_n 3, 1) := by decide +kernel
theorem dX8_stir_101 : decode cX8_stir 101 = .ok (.iconst 1, 1) := by decide +kernel
theorem dX8_stir_102 : decode cX8_stir 102 = .ok (.invokevirtual 329, 3) := by decide +kernel
theorem dX8_stir_105 : decode cX8_stir 105 = .ok (.pop, 1) := by decide +kernel
theorem dX8_stir_106 : decode cX8_stir 106 = .ok (.goto 61, 3) := by decide +kernel
theorem dX8_stir_109 : decode cX8_stir 109 = .ok (.iload 4, 2) := by decide +kernel
theorem dX8_stir_111 : decode cX8_stir 111 = .ok (.iconst 5, 1) := by decide +kernel
theorem dX8_stir_112 : decode cX8_stir 112 = .ok (.if_icmp .ne 45, 3) := by decide +kernel
theorem dX8_stir_115 : decode cX8_stir 115 = .ok (.iload_n 1, 1) := by decide +kernel
theorem dX8_stir_116 : decode cX8_stir 116 = .ok (.bipush 8, 2) := by decide +kernel
theorem dX8_stir_118 : decode cX8_stir 118 = .ok (.idiv, 1) := by decide +kernel
theorem dX8_stir_119 : decode cX8_stir 119 = .ok (.bipush 24, 2) := by decide +kernel
theorem dX8_stir_121 : decode cX8_stir 121 = .ok (.irem, 1) := by decide +kernel
theorem dX8_stir_122 : decode cX8_stir 122 = .ok (.istore 5, 2) := by decide +kernel
theorem dX8_stir_124 : decode cX8_stir 124 = .ok (.iload 5, 2) := by decide +kernel
theorem dX8_stir_126 : decode cX8_stir 126 = .ok (.aload_n 0, 1) := by decide +kernel
theorem dX8_stir_127 : decode cX8_stir 127 = .ok (.getfield 19, 3) := by decide +kernel
theorem dX8_stir_130 : decode cX8_stir 130 = .ok (.iconst 2, 1) := by decide +kernel
theorem dX8_stir_131 : decode cX8_stir 131 = .ok (.iaload, 1) := by decide +kernel
theorem dX8_stir_132 : decode cX8_stir 132 = .ok (.if_icmp .ge 22, 3) := by decide +kernel
theorem dX8_stir_135 : decode cX8_stir 135 = .ok (.aload_n 0, 1) := by decide +kernel
theorem dX8_stir_136 : decode cX8_stir 136 = .ok (.getfield 19, 3) := by decide +kernel
theorem dX8_stir_139 : decode cX8_stir 139 = .ok (.iload 5, 2) := by decide +kernel
theorem dX8_stir_141 : decode cX8_stir 141 = .ok (.iconst 5, 1) := by decide +kernel
theorem dX8_stir_142 : decode cX8_stir 142 = .ok (.invokestatic 62, 3) := by decide +kernel
theorem dX8_stir_145 : decode cX8_stir 145 = .ok (.iload_n 1, 1) := by decide +kernel
theorem dX8_stir_146 : decode cX8_stir 146 = .ok (.sipush 1024, 3) := by decide +kernel
theorem dX8_stir_149 : decode cX8_stir 149 = .ok (.idiv, 1) := by decide +kernel
theorem dX8_stir_150 : decode cX8_stir 150 = .ok (.bipush 40, 2) := by decide +kernel
theorem dX8_stir_152 : decode cX8_stir 152 = .ok (.irem, 1) := by decide +kernel
theorem dX8_stir_153 : decode cX8_stir 153 = .ok (.iastore, 1) := by decide +kernel
theorem dX8_stir_154 : decode cX8_stir 154 = .ok (.goto 13, 3) := by decide +kernel
theorem dX8_stir_157 : decode cX8_stir 157 = .ok (.aload_n 0, 1) := by decide +kernel
theorem dX8_stir_158 : decode cX8_stir 158 = .ok (.aload_n 0, 1) := by decide +kernel
theorem dX8_stir_159 : decode cX8_stir 159 = .ok (.getfield 19, 3) := by decide +kernel
theorem dX8_stir_162 : decode cX8_stir 162 = .ok (.iconst 1, 1) := by decide +kernel
theorem dX8_stir_163 : decode cX8_stir 163 = .ok (.invokevirtual 205, 3) := by decide +kernel
theorem dX8_stir_166 : decode cX8_stir 166 = .ok (.pop, 1) := by decide +kernel
theorem dX8_stir_167 : decode cX8_stir 167 = .ok (.return_, 1) := by decide +kernel
set_option maxRecDepth 20000 in
theorem ggX8_simulate_X8_in : GoodIn wsX8_simulate wsX8_in := goodIn_r _ [9] (by decide +kernel) (by decide +kernel)
set_option maxRecDepth 20000 in
theorem gX8_simulate_X8_in : GoodIn wsX8_simulate (va_wsS RX8 140 yX8_in wsX8_in) := goodIn_app (goodIn_of _ (by decide +kernel)) ggX8_simulate_X8_in
set_option maxRecDepth 20000 in
theorem ggX8_simulate_X8_refused : GoodIn wsX8_simulate wsX8_refused := goodIn_r _ [13, 14, 145, 146, 147, 148, 149, 150, 151, 152, 153, 154, 155, 156, 157, 158, 159, 160, 161] (by decide +kernel) (by decide +kernel)
set_option maxRecDepth 20000 in
theorem gX8_simulate_X8_refused : GoodIn wsX8_simulate (wsV RX8 151 RX8 yX8_refused wsX8_refused) := goodIn_app (goodIn_of _ (by decide +kernel)) ggX8_simulate_X8_refused
set_option maxRecDepth 20000 in
theorem ggX8_simulate_X8_tryIt : GoodIn wsX8_simulate wsX8_tryIt := goodIn_r _ [18, 5, 4, 19, 20, 21, 8, 22, 145, 146, 147, 148, 149, 150, 151, 152, 153, 154, 155, 156, 157, 158, 159, 160, 161] (by decide +kernel) (by decide +kernel)
set_option maxRecDepth 20000 in
theorem gX8_simulate_X8_tryIt : GoodIn wsX8_simulate (wsV RX8 312 RX8 yX8_tryIt wsX8_tryIt) := goodIn_app (goodIn_of _ (by decide +kernel)) ggX8_simulate_X8_tryIt
set_option maxRecDepth 20000 in
theorem ggX8_simulate_X8_stir : GoodIn wsX8_simulate wsX8_stir := goodIn_r _ [26, 4, 27, 28, 29, 8, 30, 31, 32, 33, 34, 35, 36, 37, 38, 6, 7, 9, 39, 40, 41, 42, 43, 44, 45, 46, 47, 48, 49, 50, 51, 52, 53, 54, 55, 56, 57, 58, 59, 60, 61, 62, 63, 64, 65, 66, 67, 68, 69, 70, 71, 72, 73, 74, 75, 76, 77, 78, 79, 80, 81, 82, 83, 84, 85, 20, 21, 22, 86, 87, 88, 89, 90, 91, 92, 93, 94, 95, 96, 97, 98, 99, 100, 101, 102, 103, 104, 105, 106, 107, 108, 109, 110, 111, 112, 113, 114, 19, 115, 116, 117, 118, 119, 120, 121, 122, 123, 124, 125, 126, 127, 128, 129, 130, 131, 132, 133, 134, 135, 136, 137, 138, 139, 140, 141, 142, 143, 144, 145, 146, 147, 148, 149, 150, 151, 152, 153, 154, 155, 156, 157, 158, 159, 160, 161] (by decide +kernel) (by decide +kernel)
set_option maxRecDepth 20000 in
theorem gX8_simulate_X8_stir : GoodIn wsX8_simulate (wsV RX8 347 RX8 yX8_stir wsX8_stir) := goodIn_app (goodIn_of _ (by decide +kernel)) ggX8_simulate_X8_stir
theorem dX8_simulate_0 : decode cX8_simulate 0 = .ok (.aload_n 0, 1) := by decide +kernel
theorem dX8_simulate_1 : decode cX8_simulate 1 = .ok (.iload_n 3, 1) := by decide +kernel
theorem dX8_simulate_2 : decode cX8_simulate 2 = .ok (.i2l, 1) := by decide +kernel
theorem dX8_simulate_3 : decode cX8_simulate 3 = .ok (.lconst 1, 1) := by decide +kernel
theorem dX8_simulate_4 : decode cX8_simulate 4 = .ok (.ldc2_w 307, 3) := by decide +kernel
theorem dX8_simulate_7 : decode cX8_simulate 7 = .ok (.invokestatic 140, 3) := by decide +kernel
theorem dX8_simulate_10 : decode cX8_simulate 10 = .ok (.ifCond .eq 7, 3) := by decide +kernel
theorem dX8_simulate_13 : decode cX8_simulate 13 = .ok (.iconst 0, 1) := by decide +kernel
theorem dX8_simulate_14 : decode cX8_simulate 14 = .ok (.goto 4, 3) := by decide +kernel
theorem dX8_simulate_17 : decode cX8_simulate 17 = .ok (.iconst 1, 1) := by decide +kernel
theorem dX8_simulate_18 : decode cX8_simulate 18 = .ok (.invokevirtual 151, 3) := by decide +kernel
theorem dX8_simulate_21 : decode cX8_simulate 21 = .ok (.ifCond .eq 5, 3) := by decide +kernel
theorem dX8_simulate_24 : decode cX8_simulate 24 = .ok (.iconst 0, 1) := by decide +kernel
theorem dX8_simulate_25 : decode cX8_simulate 25 = .ok (.ireturn, 1) := by decide +kernel
theorem dX8_simulate_26 : decode cX8_simulate 26 = .ok (.aload_n 0, 1) := by decide +kernel
theorem dX8_simulate_27 : decode cX8_simulate 27 = .ok (.invokevirtual 312, 3) := by decide +kernel
theorem dX8_simulate_30 : decode cX8_simulate 30 = .ok (.lload_n 1, 1) := by decide +kernel
theorem dX8_simulate_31 : decode cX8_simulate 31 = .ok (.lstore 4, 2) := by decide +kernel
theorem dX8_simulate_33 : decode cX8_simulate 33 = .ok (.iconst 0, 1) := by decide +kernel
theorem dX8_simulate_34 : decode cX8_simulate 34 = .ok (.istore 6, 2) := by decide +kernel
theorem dX8_simulate_36 : decode cX8_simulate 36 = .ok (.iload 6, 2) := by decide +kernel
theorem dX8_simulate_38 : decode cX8_simulate 38 = .ok (.iload_n 3, 1) := by decide +kernel
theorem dX8_simulate_39 : decode cX8_simulate 39 = .ok (.if_icmp .ge 31, 3) := by decide +kernel
theorem dX8_simulate_42 : decode cX8_simulate 42 = .ok (.lload 4, 2) := by decide +kernel
theorem dX8_simulate_44 : decode cX8_simulate 44 = .ok (.ldc2_w 343, 3) := by decide +kernel
theorem dX8_simulate_47 : decode cX8_simulate 47 = .ok (.lmul, 1) := by decide +kernel
theorem dX8_simulate_48 : decode cX8_simulate 48 = .ok (.ldc2_w 345, 3) := by decide +kernel
theorem dX8_simulate_51 : decode cX8_simulate 51 = .ok (.ladd, 1) := by decide +kernel
theorem dX8_simulate_52 : decode cX8_simulate 52 = .ok (.lstore 4, 2) := by decide +kernel
theorem dX8_simulate_54 : decode cX8_simulate 54 = .ok (.aload_n 0, 1) := by decide +kernel
theorem dX8_simulate_55 : decode cX8_simulate 55 = .ok (.lload 4, 2) := by decide +kernel
theorem dX8_simulate_57 : decode cX8_simulate 57 = .ok (.bipush 33, 2) := by decide +kernel
theorem dX8_simulate_59 : decode cX8_simulate 59 = .ok (.lushr, 1) := by decide +kernel
theorem dX8_simulate_60 : decode cX8_simulate 60 = .ok (.l2i, 1) := by decide +kernel
theorem dX8_simulate_61 : decode cX8_simulate 61 = .ok (.invokevirtual 347, 3) := by decide +kernel
theorem dX8_simulate_64 : decode cX8_simulate 64 = .ok (.iinc 6 1, 3) := by decide +kernel
theorem dX8_simulate_67 : decode cX8_simulate 67 = .ok (.goto (-31), 3) := by decide +kernel
theorem dX8_simulate_70 : decode cX8_simulate 70 = .ok (.bipush 100, 2) := by decide +kernel
theorem dX8_simulate_72 : decode cX8_simulate 72 = .ok (.aload_n 0, 1) := by decide +kernel
theorem dX8_simulate_73 : decode cX8_simulate 73 = .ok (.getfield 19, 3) := by decide +kernel
theorem dX8_simulate_76 : decode cX8_simulate 76 = .ok (.iconst 4, 1) := by decide +kernel
theorem dX8_simulate_77 : decode cX8_simulate 77 = .ok (.iaload, 1) := by decide +kernel
theorem dX8_simulate_78 : decode cX8_simulate 78 = .ok (.aload_n 0, 1) := by decide +kernel
theorem dX8_simulate_79 : decode cX8_simulate 79 = .ok (.getfield 16, 3) := by decide +kernel
theorem dX8_simulate_82 : decode cX8_simulate 82 = .ok (.iconst 4, 1) := by decide +kernel
theorem dX8_simulate_83 : decode cX8_simulate 83 = .ok (.iaload, 1) := by decide +kernel
theorem dX8_simulate_84 : decode cX8_simulate 84 = .ok (.isub, 1) := by decide +kernel
theorem dX8_simulate_85 : decode cX8_simulate 85 = .ok (.imul, 1) := by decide +kernel
theorem dX8_simulate_86 : decode cX8_simulate 86 = .ok (.aload_n 0, 1) := by decide +kernel
theorem dX8_simulate_87 : decode cX8_simulate 87 = .ok (.getfield 19, 3) := by decide +kernel
theorem dX8_simulate_90 : decode cX8_simulate 90 = .ok (.iconst 2, 1) := by decide +kernel
theorem dX8_simulate_91 : decode cX8_simulate 91 = .ok (.iaload, 1) := by decide +kernel
theorem dX8_simulate_92 : decode cX8_simulate 92 = .ok (.iadd, 1) := by decide +kernel
theorem dX8_simulate_93 : decode cX8_simulate 93 = .ok (.ireturn, 1) := by decide +kernel
set_option maxRecDepth 20000 in
theorem ggX8_save_X8_in : GoodIn wsX8_save wsX8_in := goodIn_r _ [7] (by decide +kernel) (by decide +kernel)
set_option maxRecDepth 20000 in
theorem gX8_save_X8_in : GoodIn wsX8_save (va_wsS RX8 140 yX8_in wsX8_in) := goodIn_app (goodIn_of _ (by decide +kernel)) ggX8_save_X8_in
set_option maxRecDepth 20000 in
theorem ggX8_save_X8_refused : GoodIn wsX8_save wsX8_refused := goodIn_r _ [11, 12, 16, 17, 18, 19, 20, 21, 22, 23, 24, 25, 26, 27, 28, 29, 30, 31, 32] (by decide +kernel) (by decide +kernel)
set_option maxRecDepth 20000 in
theorem gX8_save_X8_refused : GoodIn wsX8_save (wsV RX8 151 RX8 yX8_refused wsX8_refused) := goodIn_app (goodIn_of _ (by decide +kernel)) ggX8_save_X8_refused
set_option maxRecDepth 20000 in
theorem ggX8_save_X8_copy : GoodIn wsX8_save wsX8_copy := goodIn_r _ [15] (by decide +kernel) (by decide +kernel)
set_option maxRecDepth 20000 in
theorem gX8_save_X8_copy : GoodIn wsX8_save (va_wsS RX8 48 yX8_copy wsX8_copy) := goodIn_app (goodIn_of _ (by decide +kernel)) ggX8_save_X8_copy
theorem dX8_save_0 : decode cX8_save 0 = .ok (.aload_n 0, 1) := by decide +kernel
theorem dX8_save_1 : decode cX8_save 1 = .ok (.iload_n 1, 1) := by decide +kernel
theorem dX8_save_2 : decode cX8_save 2 = .ok (.i2l, 1) := by decide +kernel
theorem dX8_save_3 : decode cX8_save 3 = .ok (.lconst 0, 1) := by decide +kernel
theorem dX8_save_4 : decode cX8_save 4 = .ok (.lconst 1, 1) := by decide +kernel
theorem dX8_save_5 : decode cX8_save 5 = .ok (.invokestatic 140, 3) := by decide +kernel
theorem dX8_save_8 : decode cX8_save 8 = .ok (.ifCond .eq 7, 3) := by decide +kernel
theorem dX8_save_11 : decode cX8_save 11 = .ok (.iconst 0, 1) := by decide +kernel
theorem dX8_save_12 : decode cX8_save 12 = .ok (.goto 4, 3) := by decide +kernel
theorem dX8_save_15 : decode cX8_save 15 = .ok (.iconst 1, 1) := by decide +kernel
theorem dX8_save_16 : decode cX8_save 16 = .ok (.invokevirtual 151, 3) := by decide +kernel
theorem dX8_save_19 : decode cX8_save 19 = .ok (.ifCond .eq 5, 3) := by decide +kernel
theorem dX8_save_22 : decode cX8_save 22 = .ok (.iconst 0, 1) := by decide +kernel
theorem dX8_save_23 : decode cX8_save 23 = .ok (.ireturn, 1) := by decide +kernel
theorem dX8_save_24 : decode cX8_save 24 = .ok (.aload_n 0, 1) := by decide +kernel
theorem dX8_save_25 : decode cX8_save 25 = .ok (.getfield 16, 3) := by decide +kernel
theorem dX8_save_28 : decode cX8_save 28 = .ok (.iconst 0, 1) := by decide +kernel
theorem dX8_save_29 : decode cX8_save 29 = .ok (.aload_n 0, 1) := by decide +kernel
theorem dX8_save_30 : decode cX8_save 30 = .ok (.getfield 25, 3) := by decide +kernel
theorem dX8_save_33 : decode cX8_save 33 = .ok (.sipush 271, 3) := by decide +kernel
theorem dX8_save_36 : decode cX8_save 36 = .ok (.iload_n 1, 1) := by decide +kernel
theorem dX8_save_37 : decode cX8_save 37 = .ok (.imul, 1) := by decide +kernel
theorem dX8_save_38 : decode cX8_save 38 = .ok (.sipush 271, 3) := by decide +kernel
theorem dX8_save_41 : decode cX8_save 41 = .ok (.invokestatic 48, 3) := by decide +kernel
theorem dX8_save_44 : decode cX8_save 44 = .ok (.aload_n 0, 1) := by decide +kernel
theorem dX8_save_45 : decode cX8_save 45 = .ok (.getfield 28, 3) := by decide +kernel
theorem dX8_save_48 : decode cX8_save 48 = .ok (.iload_n 1, 1) := by decide +kernel
theorem dX8_save_49 : decode cX8_save 49 = .ok (.iconst 1, 1) := by decide +kernel
theorem dX8_save_50 : decode cX8_save 50 = .ok (.bastore, 1) := by decide +kernel
theorem dX8_save_51 : decode cX8_save 51 = .ok (.aload_n 0, 1) := by decide +kernel
theorem dX8_save_52 : decode cX8_save 52 = .ok (.getfield 16, 3) := by decide +kernel
theorem dX8_save_55 : decode cX8_save 55 = .ok (.iconst 0, 1) := by decide +kernel
theorem dX8_save_56 : decode cX8_save 56 = .ok (.iaload, 1) := by decide +kernel
theorem dX8_save_57 : decode cX8_save 57 = .ok (.ireturn, 1) := by decide +kernel
set_option maxRecDepth 20000 in
theorem ggX8_restore_X8_in : GoodIn wsX8_restore wsX8_in := goodIn_r _ [8] (by decide +kernel) (by decide +kernel)
set_option maxRecDepth 20000 in
theorem gX8_restore_X8_in : GoodIn wsX8_restore (va_wsS RX8 140 yX8_in wsX8_in) := goodIn_app (goodIn_of _ (by decide +kernel)) ggX8_restore_X8_in
set_option maxRecDepth 20000 in
theorem ggX8_restore_X8_refused : GoodIn wsX8_restore wsX8_refused := goodIn_r _ [12, 13, 17, 18, 19, 20, 21, 22, 23, 24, 25, 26, 27, 28, 29, 30, 31, 32, 33] (by decide +kernel) (by decide +kernel)
set_option maxRecDepth 20000 in
theorem gX8_restore_X8_refused : GoodIn wsX8_restore (wsV RX8 151 RX8 yX8_refused wsX8_refused) := goodIn_app (goodIn_of _ (by decide +kernel)) ggX8_restore_X8_refused
set_option maxRecDepth 20000 in
theorem ggX8_restore_X8_copy : GoodIn wsX8_restore wsX8_copy := goodIn_r _ [16] (by decide +kernel) (by decide +kernel)
set_option maxRecDepth 20000 in
theorem gX8_restore_X8_copy : GoodIn wsX8_restore (va_wsS RX8 48 yX8_copy wsX8_copy) := goodIn_app (goodIn_of _ (by decide +kernel)) ggX8_restore_X8_copy
theorem dX8_restore_0 : decode cX8_restore 0 = .ok (.aload_n 0, 1) := by decide +kernel
theorem dX8_restore_1 : decode cX8_restore 1 = .ok (.iload_n 1, 1) := by decide +kernel
theorem dX8_restore_2 : decode cX8_restore 2 = .ok (.i2l, 1) := by decide +kernel
theorem dX8_restore_3 : decode cX8_restore 3 = .ok (.lconst 0, 1) := by decide +kernel
theorem dX8_restore_4 : decode cX8_restore 4 = .ok (.lconst 1, 1) := by decide +kernel
theorem dX8_restore_5 : decode cX8_restore 5 = .ok (.invokestatic 140, 3) := by decide +kernel
theorem dX8_restore_8 : decode cX8_restore 8 = .ok (.ifCond .ne 7, 3) := by decide +kernel
theorem dX8_restore_11 : decode cX8_restore 11 = .ok (.iconst 1, 1) := by decide +kernel
theorem dX8_restore_12 : decode cX8_restore 12 = .ok (.goto 17, 3) := by decide +kernel
theorem dX8_restore_15 : decode cX8_restore 15 = .ok (.aload_n 0, 1) := by decide +kernel
theorem dX8_restore_16 : decode cX8_restore 16 = .ok (.getfield 28, 3) := by decide +kernel
theorem dX8_restore_19 : decode cX8_restore 19 = .ok (.iload_n 1, 1) := by decide +kernel
theorem dX8_restore_20 : decode cX8_restore 20 = .ok (.baload, 1) := by decide +kernel
theorem dX8_restore_21 : decode cX8_restore 21 = .ok (.ifCond .eq 7, 3) := by decide +kernel
theorem dX8_restore_24 : decode cX8_restore 24 = .ok (.iconst 0, 1) := by decide +kernel
theorem dX8_restore_25 : decode cX8_restore 25 = .ok (.goto 4, 3) := by decide +kernel
theorem dX8_restore_28 : decode cX8_restore 28 = .ok (.iconst 2, 1) := by decide +kernel
theorem dX8_restore_29 : decode cX8_restore 29 = .ok (.invokevirtual 151, 3) := by decide +kernel
theorem dX8_restore_32 : decode cX8_restore 32 = .ok (.ifCond .eq 5, 3) := by decide +kernel
theorem dX8_restore_35 : decode cX8_restore 35 = .ok (.iconst 0, 1) := by decide +kernel
theorem dX8_restore_36 : decode cX8_restore 36 = .ok (.ireturn, 1) := by decide +kernel
theorem dX8_restore_37 : decode cX8_restore 37 = .ok (.aload_n 0, 1) := by decide +kernel
theorem dX8_restore_38 : decode cX8_restore 38 = .ok (.getfield 25, 3) := by decide +kernel
theorem dX8_restore_41 : decode cX8_restore 41 = .ok (.sipush 271, 3) := by decide +kernel
theorem dX8_restore_44 : decode cX8_restore 44 = .ok (.iload_n 1, 1) := by decide +kernel
theorem dX8_restore_45 : decode cX8_restore 45 = .ok (.imul, 1) := by decide +kernel
theorem dX8_restore_46 : decode cX8_restore 46 = .ok (.aload_n 0, 1) := by decide +kernel
theorem dX8_restore_47 : decode cX8_restore 47 = .ok (.getfield 16, 3) := by decide +kernel
theorem dX8_restore_50 : decode cX8_restore 50 = .ok (.iconst 0, 1) := by decide +kernel
theorem dX8_restore_51 : decode cX8_restore 51 = .ok (.sipush 271, 3) := by decide +kernel
theorem dX8_restore_54 : decode cX8_restore 54 = .ok (.invokestatic 48, 3) := by decide +kernel
theorem dX8_restore_57 : decode cX8_restore 57 = .ok (.aload_n 0, 1) := by decide +kernel
theorem dX8_restore_58 : decode cX8_restore 58 = .ok (.iconst 0, 1) := by decide +kernel
theorem dX8_restore_59 : decode cX8_restore 59 = .ok (.putfield 45, 3) := by decide +kernel
theorem dX8_restore_62 : decode cX8_restore 62 = .ok (.aload_n 0, 1) := by decide +kernel
theorem dX8_restore_63 : decode cX8_restore 63 = .ok (.getfield 16, 3) := by decide +kernel
theorem dX8_restore_66 : decode cX8_restore 66 = .ok (.iconst 0, 1) := by decide +kernel
theorem dX8_restore_67 : decode cX8_restore 67 = .ok (.iaload, 1) := by decide +kernel
theorem dX8_restore_68 : decode cX8_restore 68 = .ok (.ireturn, 1) := by decide +kernel
set_option maxRecDepth 20000 in
theorem ggJ5_init_d00df_J2_newBytesFor_77867 : GoodIn wsJ5_init_d00df wsJ2_newBytesFor_77867 := goodIn_r _ [11, 5, 12, 13, 10, 14, 15] (by decide +kernel) (by decide +kernel)
set_option maxRecDepth 20000 in
theorem gJ5_init_d00df_J2_newBytesFor_77867 : GoodIn wsJ5_init_d00df (va_wsS RJ5 26 yJ2_newBytesFor_77867 wsJ2_newBytesFor_77867) := goodIn_app (goodIn_of _ (by decide +kernel)) ggJ5_init_d00df_J2_newBytesFor_77867
theorem dJ5_init_d00df_0 : decode cJ5_init_d00df 0 = .ok (.aload_n 0, 1) := by decide +kernel
theorem dJ5_init_d00df_1 : decode cJ5_init_d00df 1 = .ok (.invokespecial 3, 3) := by decide +kernel
theorem dJ5_init_d00df_4 : decode cJ5_init_d00df 4 = .ok (.getstatic 18, 3) := by decide +kernel
theorem dJ5_init_d00df_7 : decode cJ5_init_d00df 7 = .ok (.ifCond .eq 18, 3) := by decide +kernel
theorem dJ5_init_d00df_10 : decode cJ5_init_d00df 10 = .ok (.aload_n 0, 1) := by decide +kernel
theorem dJ5_init_d00df_11 : decode cJ5_init_d00df 11 = .ok (.iload_n 1, 1) := by decide +kernel
theorem dJ5_init_d00df_12 : decode cJ5_init_d00df 12 = .ok (.newarray .byte, 2) := by decide +kernel
theorem dJ5_init_d00df_14 : decode cJ5_init_d00df 14 = .ok (.putfield 15, 3) := by decide +kernel
theorem dJ5_init_d00df_17 : decode cJ5_init_d00df 17 = .ok (.aload_n 0, 1) := by decide +kernel
theorem dJ5_init_d00df_18 : decode cJ5_init_d00df 18 = .ok (.iconst 0, 1) := by decide +kernel
theorem dJ5_init_d00df_19 : decode cJ5_init_d00df 19 = .ok (.putfield 22, 3) := by decide +kernel
theorem dJ5_init_d00df_22 : decode cJ5_init_d00df 22 = .ok (.goto 16, 3) := by decide +kernel
theorem dJ5_init_d00df_25 : decode cJ5_init_d00df 25 = .ok (.aload_n 0, 1) := by decide +kernel
theorem dJ5_init_d00df_26 : decode cJ5_init_d00df 26 = .ok (.iload_n 1, 1) := by decide +kernel
theorem dJ5_init_d00df_27 : decode cJ5_init_d00df 27 = .ok (.invokestatic 26, 3) := by decide +kernel
theorem dJ5_init_d00df_30 : decode cJ5_init_d00df 30 = .ok (.putfield 15, 3) := by decide +kernel
theorem dJ5_init_d00df_33 : decode cJ5_init_d00df 33 = .ok (.aload_n 0, 1) := by decide +kernel
theorem dJ5_init_d00df_34 : decode cJ5_init_d00df 34 = .ok (.iconst 1, 1) := by decide +kernel
theorem dJ5_init_d00df_35 : decode cJ5_init_d00df 35 = .ok (.putfield 22, 3) := by decide +kernel
theorem dJ5_init_d00df_38 : decode cJ5_init_d00df 38 = .ok (.return_, 1) := by decide +kernel
theorem dJ5_length_8abf5_0 : decode cJ5_length_8abf5 0 = .ok (.aload_n 0, 1) := by decide +kernel
theorem dJ5_length_8abf5_1 : decode cJ5_length_8abf5 1 = .ok (.getfield 79, 3) := by decide +kernel
theorem dJ5_length_8abf5_4 : decode cJ5_length_8abf5 4 = .ok (.ireturn, 1) := by decide +kernel
set_option maxRecDepth 20000 in
theorem ggJ5_ensureCapacityInternal_d00df_J5_newCapacity_0f7a4 : GoodIn wsJ5_ensureCapacityInternal_d00df wsJ5_newCapacity_0f7a4 := goodIn_r _ [8, 1, 2, 9, 10, 11, 12, 13, 14, 15, 16, 17, 18, 19, 20, 21, 40, 41, 42, 43] (by decide +kernel) (by decide +kernel)
set_option maxRecDepth 20000 in
theorem gJ5_ensureCapacityInternal_d00df_J5_newCapacity_0f7a4_u104J4 : GoodIn wsJ5_ensureCapacityInternal_d00df (va_wsU RJ5 104 RJ4 "java/lang/AbstractStringBuilder" ⟨"java/lang/AbstractStringBuilder", "newCapacity", "(I)I"⟩ yJ5_newCapacity_0f7a4 wsJ5_newCapacity_0f7a4) := goodIn_app (goodIn_of _ (by decide +kernel)) ggJ5_ensureCapacityInternal_d00df_J5_newCapacity_0f7a4
set_option maxRecDepth 20000 in
theorem ggJ5_ensureCapacityInternal_d00df_J7_copyOf_9075b : GoodIn wsJ5_ensureCapacityInternal_d00df wsJ7_copyOf_9075b := goodIn_r _ [25, 26, 27, 28, 29, 30, 31, 32, 33, 34, 16, 35, 36, 37, 38, 39] (by decide +kernel) (by decide +kernel)
set_option maxRecDepth 20000 in
theorem gJ5_ensureCapacityInternal_d00df_J7_copyOf_9075b : GoodIn wsJ5_ensureCapacityInternal_d00df (va_wsS RJ5 108 yJ7_copyOf_9075b wsJ7_copyOf_9075b) := goodIn_app (goodIn_of _ (by decide +kernel)) ggJ5_ensureCapacityInternal_d00df_J7_copyOf_9075b
theorem dJ5_ensureCapacityInternal_d00df_0 : decode cJ5_ensureCapacityInternal_d00df 0 = .ok (.aload_n 0, 1) := by decide +kernel
theorem dJ5_ensureCapacityInternal_d00df_1 : decode cJ5_ensureCapacityInternal_d00df 1 = .ok (.getfield 15, 3) := by decide +kernel
theorem dJ5_ensureCapacityInternal_d00df_4 : decode cJ5_ensureCapacityInternal_d00df 4 = .ok (.arraylength, 1) := by decide +kernel
theorem dJ5_ensureCapacityInternal_d00df_5 : decode cJ5_ensureCapacityInternal_d00df 5 = .ok (.aload_n 0, 1) := by decide +kernel
theorem dJ5_ensureCapacityInternal_d00df_6 : decode cJ5_ensureCapacityInternal_d00df 6 = .ok (.getfield 22, 3) := by decide +kernel
theorem dJ5_ensureCapacityInternal_d00df_9 : decode cJ5_ensureCapacityInternal_d00df 9 = .ok (.ishr, 1) := by decide +kernel
theorem dJ5_ensureCapacityInternal_d00df_10 : decode cJ5_ensureCapacityInternal_d00df 10 = .ok (.istore_n 2, 1) := by decide +kernel
theorem dJ5_ensureCapacityInternal_d00df_11 : decode cJ5_ensureCapacityInternal_d00df 11 = .ok (.iload_n 1, 1) := by decide +kernel
theorem dJ5_ensureCapacityInternal_d00df_12 : decode cJ5_ensureCapacityInternal_d00df 12 = .ok (.iload_n 2, 1) := by decide +kernel
theorem dJ5_ensureCapacityInternal_d00df_13 : decode cJ5_ensureCapacityInternal_d00df 13 = .ok (.isub, 1) := by decide +kernel
theorem dJ5_ensureCapacityInternal_d00df_14 : decode cJ5_ensureCapacityInternal_d00df 14 = .ok (.ifCond .le 24, 3) := by decide +kernel
theorem dJ5_ensureCapacityInternal_d00df_17 : decode cJ5_ensureCapacityInternal_d00df 17 = .ok (.aload_n 0, 1) := by decide +kernel
theorem dJ5_ensureCapacityInternal_d00df_18 : decode cJ5_ensureCapacityInternal_d00df 18 = .ok (.aload_n 0, 1) := by decide +kernel
theorem dJ5_ensureCapacityInternal_d00df_19 : decode cJ5_ensureCapacityInternal_d00df 19 = .ok (.getfield 15, 3) := by decide +kernel
theorem dJ5_ensureCapacityInternal_d00df_22 : decode cJ5_ensureCapacityInternal_d00df 22 = .ok (.aload_n 0, 1) := by decide +kernel
theorem dJ5_ensureCapacityInternal_d00df_23 : decode cJ5_ensureCapacityInternal_d00df 23 = .ok (.iload_n 1, 1) := by decide +kernel
theorem dJ5_ensureCapacityInternal_d00df_24 : decode cJ5_ensureCapacityInternal_d00df 24 = .ok (.invokevirtual 104, 3) := by decide +kernel
theorem dJ5_ensureCapacityInternal_d00df_27 : decode cJ5_ensureCapacityInternal_d00df 27 = .ok (.aload_n 0, 1) := by decide +kernel
theorem dJ5_ensureCapacityInternal_d00df_28 : decode cJ5_ensureCapacityInternal_d00df 28 = .ok (.getfield 22, 3) := by decide +kernel
theorem dJ5_ensureCapacityInternal_d00df_31 : decode cJ5_ensureCapacityInternal_d00df 31 = .ok (.ishl, 1) := by decide +kernel
theorem dJ5_ensureCapacityInternal_d00df_32 : decode cJ5_ensureCapacityInternal_d00df 32 = .ok (.invokestatic 108, 3) := by decide +kernel
theorem dJ5_ensureCapacityInternal_d00df_35 : decode cJ5_ensureCapacityInternal_d00df 35 = .ok (.putfield 15, 3) := by decide +kernel
theorem dJ5_ensureCapacityInternal_d00df_38 : decode cJ5_ensureCapacityInternal_d00df 38 = .ok (.return_, 1) := by decide +kernel
set_option maxRecDepth 20000 in
theorem ggJ5_newCapacity_0f7a4_J8_newLength_cabcc : GoodIn wsJ5_newCapacity_0f7a4 wsJ8_newLength_cabcc := goodIn_r _ [7, 8, 9, 10, 11, 12, 13, 14, 6, 15] (by decide +kernel) (by decide +kernel)
set_option maxRecDepth 20000 in
theorem gJ5_newCapacity_0f7a4_J8_newLength_cabcc : GoodIn wsJ5_newCapacity_0f7a4 (va_wsS RJ5 114 yJ8_newLength_cabcc wsJ8_newLength_cabcc) := goodIn_app (goodIn_of _ (by decide +kernel)) ggJ5_newCapacity_0f7a4_J8_newLength_cabcc
theorem dJ5_newCapacity_0f7a4_0 : decode cJ5_newCapacity_0f7a4 0 = .ok (.aload_n 0, 1) := by decide +kernel
theorem dJ5_newCapacity_0f7a4_1 : decode cJ5_newCapacity_0f7a4 1 = .ok (.getfield 15, 3) := by decide +kernel
theorem dJ5_newCapacity_0f7a4_4 : decode cJ5_newCapacity_0f7a4 4 = .ok (.arraylength, 1) := by decide +kernel
theorem dJ5_newCapacity_0f7a4_5 : decode cJ5_newCapacity_0f7a4 5 = .ok (.istore_n 2, 1) := by decide +kernel
theorem dJ5_newCapacity_0f7a4_6 : decode cJ5_newCapacity_0f7a4 6 = .ok (.iload_n 1, 1) := by decide +kernel
theorem dJ5_newCapacity_0f7a4_7 : decode cJ5_newCapacity_0f7a4 7 = .ok (.aload_n 0, 1) := by decide +kernel
theorem dJ5_newCapacity_0f7a4_8 : decode cJ5_newCapacity_0f7a4 8 = .ok (.getfield 22, 3) := by decide +kernel
theorem dJ5_newCapacity_0f7a4_11 : decode cJ5_newCapacity_0f7a4 11 = .ok (.ishl, 1) := by decide +kernel
theorem dJ5_newCapacity_0f7a4_12 : decode cJ5_newCapacity_0f7a4 12 = .ok (.istore_n 3, 1) := by decide +kernel
theorem dJ5_newCapacity_0f7a4_13 : decode cJ5_newCapacity_0f7a4 13 = .ok (.iload_n 3, 1) := by decide +kernel
theorem dJ5_newCapacity_0f7a4_14 : decode cJ5_newCapacity_0f7a4 14 = .ok (.iload_n 2, 1) := by decide +kernel
theorem dJ5_newCapacity_0f7a4_15 : decode cJ5_newCapacity_0f7a4 15 = .ok (.isub, 1) := by decide +kernel
theorem dJ5_newCapacity_0f7a4_16 : decode cJ5_newCapacity_0f7a4 16 = .ok (.istore 4, 2) := by decide +kernel
theorem dJ5_newCapacity_0f7a4_18 : decode cJ5_newCapacity_0f7a4 18 = .ok (.iload_n 2, 1) := by decide +kernel
theorem dJ5_newCapacity_0f7a4_19 : decode cJ5_newCapacity_0f7a4 19 = .ok (.iload 4, 2) := by decide +kernel
theorem dJ5_newCapacity_0f7a4_21 : decode cJ5_newCapacity_0f7a4 21 = .ok (.iload_n 2, 1) := by decide +kernel
theorem dJ5_newCapacity_0f7a4_22 : decode cJ5_newCapacity_0f7a4 22 = .ok (.iconst 2, 1) := by decide +kernel
theorem dJ5_newCapacity_0f7a4_23 : decode cJ5_newCapacity_0f7a4 23 = .ok (.aload_n 0, 1) := by decide +kernel
theorem dJ5_newCapacity_0f7a4_24 : decode cJ5_newCapacity_0f7a4 24 = .ok (.getfield 22, 3) := by decide +kernel
theorem dJ5_newCapacity_0f7a4_27 : decode cJ5_newCapacity_0f7a4 27 = .ok (.ishl, 1) := by decide +kernel
theorem dJ5_newCapacity_0f7a4_28 : decode cJ5_newCapacity_0f7a4 28 = .ok (.iadd, 1) := by decide +kernel
theorem dJ5_newCapacity_0f7a4_29 : decode cJ5_newCapacity_0f7a4 29 = .ok (.invokestatic 114, 3) := by decide +kernel
theorem dJ5_newCapacity_0f7a4_32 : decode cJ5_newCapacity_0f7a4 32 = .ok (.istore 5, 2) := by decide +kernel
theorem dJ5_newCapacity_0f7a4_34 : decode cJ5_newCapacity_0f7a4 34 = .ok (.iload 5, 2) := by decide +kernel
theorem dJ5_newCapacity_0f7a4_36 : decode cJ5_newCapacity_0f7a4 36 = .ok (.ldc 39, 2) := by decide +kernel
theorem dJ5_newCapacity_0f7a4_38 : decode cJ5_newCapacity_0f7a4 38 = .ok (.if_icmp .ne 13, 3) := by decide +kernel
theorem dJ5_newCapacity_0f7a4_41 : decode cJ5_newCapacity_0f7a4 41 = .ok (.new 120, 3) := by decide +kernel
theorem dJ5_newCapacity_0f7a4_44 : decode cJ5_newCapacity_0f7a4 44 = .ok (.dup, 1) := by decide +kernel
theorem dJ5_newCapacity_0f7a4_45 : decode cJ5_newCapacity_0f7a4 45 = .ok (.ldc 122, 2) := by decide +kernel
theorem dJ5_newCapacity_0f7a4_47 : decode cJ5_newCapacity_0f7a4 47 = .ok (.invokespecial 124, 3) := by decide +kernel
theorem dJ5_newCapacity_0f7a4_50 : decode cJ5_newCapacity_0f7a4 50 = .ok (.athrow, 1) := by decide +kernel
theorem dJ5_newCapacity_0f7a4_51 : decode cJ5_newCapacity_0f7a4 51 = .ok (.iload 5, 2) := by decide +kernel
theorem dJ5_newCapacity_0f7a4_53 : decode cJ5_newCapacity_0f7a4 53 = .ok (.aload_n 0, 1) := by decide +kernel
theorem dJ5_newCapacity_0f7a4_54 : decode cJ5_newCapacity_0f7a4 54 = .ok (.getfield 22, 3) := by decide +kernel
theorem dJ5_newCapacity_0f7a4_57 : decode cJ5_newCapacity_0f7a4 57 = .ok (.ishr, 1) := by decide +kernel
theorem dJ5_newCapacity_0f7a4_58 : decode cJ5_newCapacity_0f7a4 58 = .ok (.ireturn, 1) := by decide +kernel
set_option maxRecDepth 20000 in
theorem ggJ5_inflate_da8c8_J5_isLatin1_aae02 : GoodIn wsJ5_inflate_da8c8 wsJ5_isLatin1_aae02 := goodIn_r _ [9, 10, 3, 48, 49, 50, 51] (by decide +kernel) (by decide +kernel)
set_option maxRecDepth 20000 in
theorem gJ5_inflate_da8c8_J5_isLatin1_aae02_u83J4 : GoodIn wsJ5_inflate_da8c8 (va_wsU RJ5 83 RJ4 "java/lang/AbstractStringBuilder" ⟨"java/lang/AbstractStringBuilder", "isLatin1", "()Z"⟩ yJ5_isLatin1_aae02 wsJ5_isLatin1_aae02) := goodIn_app (goodIn_of _ (by decide +kernel)) ggJ5_inflate_da8c8_J5_isLatin1_aae02
set_option maxRecDepth 20000 in
theorem ggJ5_inflate_da8c8_J2_newBytesFor_77867 : GoodIn wsJ5_inflate_da8c8 wsJ2_newBytesFor_77867 := goodIn_r _ [14, 15, 16, 17, 13, 18, 19] (by decide +kernel) (by decide +kernel)
set_option maxRecDepth 20000 in
theorem gJ5_inflate_da8c8_J2_newBytesFor_77867 : GoodIn wsJ5_inflate_da8c8 (va_wsS RJ5 26 yJ2_newBytesFor_77867 wsJ2_newBytesFor_77867) := goodIn_app (goodIn_of _ (by decide +kernel)) ggJ5_inflate_da8c8_J2_newBytesFor_77867
set_option maxRecDepth 20000 in
theorem ggJ5_inflate_da8c8_J1_inflate_0e8fd : GoodIn wsJ5_inflate_da8c8 wsJ1_inflate_0e8fd := goodIn_r _ [23, 24, 25, 13, 26, 27, 28, 29, 30, 31, 32, 33, 34, 35, 36, 37, 38, 39, 40, 41, 42, 43, 44, 45, 46, 47] (by decide +kernel) (by decide +kernel)
set_option maxRecDepth 20000 in
theorem gJ5_inflate_da8c8_J1_inflate_0e8fd : GoodIn wsJ5_inflate_da8c8 (va_wsS RJ5 125 yJ1_inflate_0e8fd wsJ1_inflate_0e8fd) := goodIn_app (goodIn_of _ (by decide +kernel)) ggJ5_inflate_da8c8_J1_inflate_0e8fd
theorem dJ5_inflate_da8c8_0 : decode cJ5_inflate_da8c8 0 = .ok (.aload_n 0, 1) := by decide +kernel
theorem dJ5_inflate_da8c8_1 : decode cJ5_inflate_da8c8 1 = .ok (.invokevirtual 83, 3) := by decide +kernel
theorem dJ5_inflate_da8c8_4 : decode cJ5_inflate_da8c8 4 = .ok (.ifCond .ne 4, 3) := by decide +kernel
theorem dJ5_inflate_da8c8_7 : decode cJ5_inflate_da8c8 7 = .ok (.return_, 1) := by decide +kernel
theorem dJ5_inflate_da8c8_8 : decode cJ5_inflate_da8c8 8 = .ok (.aload_n 0, 1) := by decide +kernel
theorem dJ5_inflate_da8c8_9 : decode cJ5_inflate_da8c8 9 = .ok (.getfield 15, 3) := by decide +kernel
theorem dJ5_inflate_da8c8_12 : decode cJ5_inflate_da8c8 12 = .ok (.arraylength, 1) := by decide +kernel
theorem dJ5_inflate_da8c8_13 : decode cJ5_inflate_da8c8 13 = .ok (.invokestatic 26, 3) := by decide +kernel
theorem dJ5_inflate_da8c8_16 : decode cJ5_inflate_da8c8 16 = .ok (.astore_n 1, 1) := by decide +kernel
theorem dJ5_inflate_da8c8_17 : decode cJ5_inflate_da8c8 17 = .ok (.aload_n 0, 1) := by decide +kernel
theorem dJ5_inflate_da8c8_18 : decode cJ5_inflate_da8c8 18 = .ok (.getfield 15, 3) := by decide +kernel
theorem dJ5_inflate_da8c8_21 : decode cJ5_inflate_da8c8 21 = .ok (.iconst 0, 1) := by decide +kernel
theorem dJ5_inflate_da8c8_22 : decode cJ5_inflate_da8c8 22 = .ok (.aload_n 1, 1) := by decide +kernel
theorem dJ5_inflate_da8c8_23 : decode cJ5_inflate_da8c8 23 = .ok (.iconst 0, 1) := by decide +kernel
theorem dJ5_inflate_da8c8_24 : decode cJ5_inflate_da8c8 24 = .ok (.aload_n 0, 1) := by decide +kernel
theorem dJ5_inflate_da8c8_25 : decode cJ5_inflate_da8c8 25 = .ok (.getfield 79, 3) := by decide +kernel
theorem dJ5_inflate_da8c8_28 : decode cJ5_inflate_da8c8 28 = .ok (.invokestatic 125, 3) := by decide +kernel
theorem dJ5_inflate_da8c8_31 : decode cJ5_inflate_da8c8 31 = .ok (.aload_n 0, 1) := by decide +kernel
theorem dJ5_inflate_da8c8_32 : decode cJ5_inflate_da8c8 32 = .ok (.aload_n 1, 1) := by decide +kernel
theorem dJ5_inflate_da8c8_33 : decode cJ5_inflate_da8c8 33 = .ok (.putfield 15, 3) := by decide +kernel
theorem dJ5_inflate_da8c8_36 : decode cJ5_inflate_da8c8 36 = .ok (.aload_n 0, 1) := by decide +kernel
theorem dJ5_inflate_da8c8_37 : decode cJ5_inflate_da8c8 37 = .ok (.iconst 1, 1) := by decide +kernel
theorem dJ5_inflate_da8c8_38 : decode cJ5_inflate_da8c8 38 = .ok (.putfield 22, 3) := by decide +kernel
theorem dJ5_inflate_da8c8_41 : decode cJ5_inflate_da8c8 41 = .ok (.return_, 1) := by decide +kernel
set_option maxRecDepth 20000 in
theorem ggJ5_charAt_5068e_J0_checkIndex_df160 : GoodIn wsJ5_charAt_5068e wsJ0_checkIndex_df160 := goodIn_r _ [11, 12, 13, 14, 15, 16] (by decide +kernel) (by decide +kernel)
set_option maxRecDepth 20000 in
theorem gJ5_charAt_5068e_J0_checkIndex_df160 : GoodIn wsJ5_charAt_5068e (va_wsS RJ5 144 yJ0_checkIndex_df160 wsJ0_checkIndex_df160) := goodIn_app (goodIn_of _ (by decide +kernel)) ggJ5_charAt_5068e_J0_checkIndex_df160
set_option maxRecDepth 20000 in
theorem ggJ5_charAt_5068e_J2_getChar_3b067 : GoodIn wsJ5_charAt_5068e wsJ2_getChar_3b067 := goodIn_r _ [20, 21, 22, 23, 24, 25, 19, 26] (by decide +kernel) (by decide +kernel)
set_option maxRecDepth 20000 in
theorem gJ5_charAt_5068e_J2_getChar_3b067 : GoodIn wsJ5_charAt_5068e (va_wsS RJ5 148 yJ2_getChar_3b067 wsJ2_getChar_3b067) := goodIn_app (goodIn_of _ (by decide +kernel)) ggJ5_charAt_5068e_J2_getChar_3b067
theorem dJ5_charAt_5068e_0 : decode cJ5_charAt_5068e 0 = .ok (.aload_n 0, 1) := by decide +kernel
theorem dJ5_charAt_5068e_1 : decode cJ5_charAt_5068e 1 = .ok (.getfield 22, 3) := by decide +kernel
theorem dJ5_charAt_5068e_4 : decode cJ5_charAt_5068e 4 = .ok (.istore_n 2, 1) := by decide +kernel
theorem dJ5_charAt_5068e_5 : decode cJ5_charAt_5068e 5 = .ok (.aload_n 0, 1) := by decide +kernel
theorem dJ5_charAt_5068e_6 : decode cJ5_charAt_5068e 6 = .ok (.getfield 15, 3) := by decide +kernel
theorem dJ5_charAt_5068e_9 : decode cJ5_charAt_5068e 9 = .ok (.astore_n 3, 1) := by decide +kernel
theorem dJ5_charAt_5068e_10 : decode cJ5_charAt_5068e 10 = .ok (.aload_n 0, 1) := by decide +kernel
theorem dJ5_charAt_5068e_11 : decode cJ5_charAt_5068e 11 = .ok (.getfield 79, 3) := by decide +kernel
theorem dJ5_charAt_5068e_14 : decode cJ5_charAt_5068e 14 = .ok (.aload_n 3, 1) := by decide +kernel
theorem dJ5_charAt_5068e_15 : decode cJ5_charAt_5068e 15 = .ok (.arraylength, 1) := by decide +kernel
theorem dJ5_charAt_5068e_16 : decode cJ5_charAt_5068e 16 = .ok (.iload_n 2, 1) := by decide +kernel
theorem dJ5_charAt_5068e_17 : decode cJ5_charAt_5068e 17 = .ok (.ishr, 1) := by decide +kernel
theorem dJ5_charAt_5068e_18 : decode cJ5_charAt_5068e 18 = .ok (.invokestatic 138, 3) := by decide +kernel
theorem dJ5_charAt_5068e_21 : decode cJ5_charAt_5068e 21 = .ok (.istore 4, 2) := by decide +kernel
theorem dJ5_charAt_5068e_23 : decode cJ5_charAt_5068e 23 = .ok (.iload_n 1, 1) := by decide +kernel
theorem dJ5_charAt_5068e_24 : decode cJ5_charAt_5068e 24 = .ok (.iload 4, 2) := by decide +kernel
theorem dJ5_charAt_5068e_26 : decode cJ5_charAt_5068e 26 = .ok (.invokestatic 144, 3) := by decide +kernel
theorem dJ5_charAt_5068e_29 : decode cJ5_charAt_5068e 29 = .ok (.iload_n 2, 1) := by decide +kernel
theorem dJ5_charAt_5068e_30 : decode cJ5_charAt_5068e 30 = .ok (.ifCond .ne 12, 3) := by decide +kernel
theorem dJ5_charAt_5068e_33 : decode cJ5_charAt_5068e 33 = .ok (.aload_n 3, 1) := by decide +kernel
theorem dJ5_charAt_5068e_34 : decode cJ5_charAt_5068e 34 = .ok (.iload_n 1, 1) := by decide +kernel
theorem dJ5_charAt_5068e_35 : decode cJ5_charAt_5068e 35 = .ok (.baload, 1) := by decide +kernel
theorem dJ5_charAt_5068e_36 : decode cJ5_charAt_5068e 36 = .ok (.sipush 255, 3) := by decide +kernel
theorem dJ5_charAt_5068e_39 : decode cJ5_charAt_5068e 39 = .ok (.iand, 1) := by decide +kernel
theorem dJ5_charAt_5068e_40 : decode cJ5_charAt_5068e 40 = .ok (.i2c, 1) := by decide +kernel
theorem dJ5_charAt_5068e_41 : decode cJ5_charAt_5068e 41 = .ok (.ireturn, 1) := by decide +kernel
theorem dJ5_charAt_5068e_42 : decode cJ5_charAt_5068e 42 = .ok (.aload_n 3, 1) := by decide +kernel
theorem dJ5_charAt_5068e_43 : decode cJ5_charAt_5068e 43 = .ok (.iload_n 1, 1) := by decide +kernel
theorem dJ5_charAt_5068e_44 : decode cJ5_charAt_5068e 44 = .ok (.invokestatic 148, 3) := by decide +kernel
theorem dJ5_charAt_5068e_47 : decode cJ5_charAt_5068e 47 = .ok (.ireturn, 1) := by decide +kernel
set_option maxRecDepth 20000 in
theorem ggJ5_append_cf1ce_J5_appendNull_278bc : GoodIn wsJ5_append_cf1ce wsJ5_appendNull_278bc := goodIn_r _ [7, 1, 8, 9, 10, 11, 12, 6, 13, 14, 15, 16, 17, 18, 19, 20, 21, 22, 23, 24, 25, 26, 27, 28, 29, 30, 31, 32, 33, 34, 35, 36, 37, 38, 39, 40, 41, 42, 43, 44, 45, 46, 47, 48, 49, 50, 51, 52, 53, 54, 55, 56, 57, 58, 59, 60, 61, 62, 63, 64, 65, 66, 67, 68, 69, 70, 71, 72, 73, 74, 75, 76, 77, 78, 79, 80, 81, 138, 139, 140, 141] (by decide +kernel) (by decide +kernel)
set_option maxRecDepth 20000 in
theorem gJ5_append_cf1ce_J5_appendNull_278bc_u204J4 : GoodIn wsJ5_append_cf1ce (va_wsU RJ5 204 RJ4 "java/lang/AbstractStringBuilder" ⟨"java/lang/AbstractStringBuilder", "appendNull", "()Ljava/lang/AbstractStringBuilder;"⟩ yJ5_appendNull_278bc wsJ5_appendNull_278bc) := goodIn_app (goodIn_of _ (by decide +kernel)) ggJ5_append_cf1ce_J5_appendNull_278bc
set_option maxRecDepth 20000 in
theorem ggJ5_append_cf1ce_J0_length_8abf5 : GoodIn wsJ5_append_cf1ce wsJ0_length_8abf5 := goodIn_r _ [85, 86, 87, 88, 89, 70, 90, 91, 92] (by decide +kernel) (by decide +kernel)
set_option maxRecDepth 20000 in
theorem gJ5_append_cf1ce_J0_length_8abf5 : GoodIn wsJ5_append_cf1ce (wsV RJ5 32 RJ0 yJ0_length_8abf5 wsJ0_length_8abf5) := goodIn_app (goodIn_of _ (by decide +kernel)) ggJ5_append_cf1ce_J0_length_8abf5
set_option maxRecDepth 20000 in
theorem ggJ5_append_cf1ce_J5_ensureCapacityInternal_d00df : GoodIn wsJ5_append_cf1ce wsJ5_ensureCapacityInternal_d00df := goodIn_r _ [13, 8, 14, 15, 16, 17, 18, 6, 19, 20, 21, 22, 23, 24, 25, 26, 27, 28, 29, 30, 31, 32, 33, 34, 35, 36, 37, 38, 39, 40, 41, 42, 43, 44, 45, 46, 47, 48, 49, 50, 138, 139, 140, 141] (by decide +kernel) (by decide +kernel)
set_option maxRecDepth 20000 in
theorem gJ5_append_cf1ce_J5_ensureCapacityInternal_d00df_u100J4 : GoodIn wsJ5_append_cf1ce (va_wsU RJ5 100 RJ4 "java/lang/AbstractStringBuilder" ⟨"java/lang/AbstractStringBuilder", "ensureCapacityInternal", "(I)V"⟩ yJ5_ensureCapacityInternal_d00df wsJ5_ensureCapacityInternal_d00df) := goodIn_app (goodIn_of _ (by decide +kernel)) ggJ5_append_cf1ce_J5_ensureCapacityInternal_d00df
set_option maxRecDepth 20000 in
theorem ggJ5_append_cf1ce_J5_putStringAt_47b60 : GoodIn wsJ5_append_cf1ce wsJ5_putStringAt_47b60 := goodIn_r _ [97, 8, 14, 98, 99, 100, 101, 6, 102, 56, 103, 88, 89, 70, 90, 91, 92, 104, 105, 106, 107, 108, 1, 51, 52, 53, 54, 55, 109, 110, 59, 111, 43, 112, 113, 114, 115, 116, 117, 118, 119, 120, 121, 122, 123, 124, 125, 65, 66, 67, 126, 127, 128, 72, 129, 130, 75, 131, 77, 78, 79, 61, 80, 81, 132, 133, 134, 135, 86, 136, 48, 49, 50, 87, 137, 138, 139, 140, 141] (by decide +kernel) (by decide +kernel)
set_option maxRecDepth 20000 in
theorem gJ5_append_cf1ce_J5_putStringAt_47b60_u208J4 : GoodIn wsJ5_append_cf1ce (va_wsU RJ5 208 RJ4 "java/lang/AbstractStringBuilder" ⟨"java/lang/AbstractStringBuilder", "putStringAt", "(ILjava/lang/String;)V"⟩ yJ5_putStringAt_47b60 wsJ5_putStringAt_47b60) := goodIn_app (goodIn_of _ (by decide +kernel)) ggJ5_append_cf1ce_J5_putStringAt_47b60
theorem dJ5_append_cf1ce_0 : decode cJ5_append_cf1ce 0 = .ok (.aload_n 1, 1) := by decide +kernel
theorem dJ5_append_cf1ce_1 : decode cJ5_append_cf1ce 1 = .ok (.ifnonnull 8, 3) := by decide +kernel
theorem dJ5_append_cf1ce_4 : decode cJ5_append_cf1ce 4 = .ok (.aload_n 0, 1) := by decide +kernel
theorem dJ5_append_cf1ce_5 : decode cJ5_append_cf1ce 5 = .ok (.invokevirtual 204, 3) := by decide +kernel
theorem dJ5_append_cf1ce_8 : decode cJ5_append_cf1ce 8 = .ok (.areturn, 1) := by decide +kernel
theorem dJ5_append_cf1ce_9 : decode cJ5_append_cf1ce 9 = .ok (.aload_n 1, 1) := by decide +kernel
theorem dJ5_append_cf1ce_10 : decode cJ5_append_cf1ce 10 = .ok (.invokevirtual 32, 3) := by decide +kernel
theorem dJ5_append_cf1ce_13 : decode cJ5_append_cf1ce 13 = .ok (.istore_n 2, 1) := by decide +kernel
theorem dJ5_append_cf1ce_14 : decode cJ5_append_cf1ce 14 = .ok (.aload_n 0, 1) := by decide +kernel
theorem dJ5_append_cf1ce_15 : decode cJ5_append_cf1ce 15 = .ok (.aload_n 0, 1) := by decide +kernel
theorem dJ5_append_cf1ce_16 : decode cJ5_append_cf1ce 16 = .ok (.getfield 79, 3) := by decide +kernel
theorem dJ5_append_cf1ce_19 : decode cJ5_append_cf1ce 19 = .ok (.iload_n 2, 1) := by decide +kernel
theorem dJ5_append_cf1ce_20 : decode cJ5_append_cf1ce 20 = .ok (.iadd, 1) := by decide +kernel
theorem dJ5_append_cf1ce_21 : decode cJ5_append_cf1ce 21 = .ok (.invokevirtual 100, 3) := by decide +kernel
theorem dJ5_append_cf1ce_24 : decode cJ5_append_cf1ce 24 = .ok (.aload_n 0, 1) := by decide +kernel
theorem dJ5_append_cf1ce_25 : decode cJ5_append_cf1ce 25 = .ok (.aload_n 0, 1) := by decide +kernel
theorem dJ5_append_cf1ce_26 : decode cJ5_append_cf1ce 26 = .ok (.getfield 79, 3) := by decide +kernel
theorem dJ5_append_cf1ce_29 : decode cJ5_append_cf1ce 29 = .ok (.aload_n 1, 1) := by decide +kernel
theorem dJ5_append_cf1ce_30 : decode cJ5_append_cf1ce 30 = .ok (.invokevirtual 208, 3) := by decide +kernel
theorem dJ5_append_cf1ce_33 : decode cJ5_append_cf1ce 33 = .ok (.aload_n 0, 1) := by decide +kernel
theorem dJ5_append_cf1ce_34 : decode cJ5_append_cf1ce 34 = .ok (.dup, 1) := by decide +kernel
theorem dJ5_append_cf1ce_35 : decode cJ5_append_cf1ce 35 = .ok (.getfield 79, 3) := by decide +kernel
theorem dJ5_append_cf1ce_38 : decode cJ5_append_cf1ce 38 = .ok (.iload_n 2, 1) := by decide +kernel
theorem dJ5_append_cf1ce_39 : decode cJ5_append_cf1ce 39 = .ok (.iadd, 1) := by decide +kernel
theorem dJ5_append_cf1ce_40 : decode cJ5_append_cf1ce 40 = .ok (.putfield 79, 3) := by decide +kernel
theorem dJ5_append_cf1ce_43 : decode cJ5_append_cf1ce 43 = .ok (.aload_n 0, 1) := by decide +kernel
theorem dJ5_append_cf1ce_44 : decode cJ5_append_cf1ce 44 = .ok (.areturn, 1) := by decide +kernel
set_option maxRecDepth 20000 in
theorem ggJ5_appendNull_278bc_J5_ensureCapacityInternal_d00df : GoodIn wsJ5_appendNull_278bc wsJ5_ensureCapacityInternal_d00df := goodIn_r _ [8, 2, 9, 10, 11, 12, 13, 7, 14, 15, 16, 17, 18, 19, 20, 21, 22, 23, 24, 25, 26, 27, 28, 29, 30, 31, 32, 33, 34, 35, 36, 37, 38, 39, 40, 41, 42, 43, 44, 45, 77, 78, 79, 80] (by decide +kernel) (by decide +kernel)
set_option maxRecDepth 20000 in
theorem gJ5_appendNull_278bc_J5_ensureCapacityInternal_d00df_u100J4 : GoodIn wsJ5_appendNull_278bc (va_wsU RJ5 100 RJ4 "java/lang/AbstractStringBuilder" ⟨"java/lang/AbstractStringBuilder", "ensureCapacityInternal", "(I)V"⟩ yJ5_ensureCapacityInternal_d00df wsJ5_ensureCapacityInternal_d00df) := goodIn_app (goodIn_of _ (by decide +kernel)) ggJ5_appendNull_278bc_J5_ensureCapacityInternal_d00df
set_option maxRecDepth 20000 in
theorem ggJ5_appendNull_278bc_J5_isLatin1_aae02 : GoodIn wsJ5_appendNull_278bc wsJ5_isLatin1_aae02 := goodIn_r _ [50, 51, 9, 77, 78, 79, 80] (by decide +kernel) (by decide +kernel)
set_option maxRecDepth 20000 in
theorem gJ5_appendNull_278bc_J5_isLatin1_aae02_u83J4 : GoodIn wsJ5_appendNull_278bc (va_wsU RJ5 83 RJ4 "java/lang/AbstractStringBuilder" ⟨"java/lang/AbstractStringBuilder", "isLatin1", "()Z"⟩ yJ5_isLatin1_aae02 wsJ5_isLatin1_aae02) := goodIn_app (goodIn_of _ (by decide +kernel)) ggJ5_appendNull_278bc_J5_isLatin1_aae02
set_option maxRecDepth 20000 in
theorem ggJ5_appendNull_278bc_J2_putCharsAt_cd4e5 : GoodIn wsJ5_appendNull_278bc wsJ2_putCharsAt_cd4e5 := goodIn_r _ [55, 56, 57, 58, 54, 59, 60, 61, 62, 63, 64, 65, 66, 67, 68, 69, 70, 71, 72, 73, 74, 75, 76] (by decide +kernel) (by decide +kernel)
set_option maxRecDepth 20000 in
theorem gJ5_appendNull_278bc_J2_putCharsAt_cd4e5 : GoodIn wsJ5_appendNull_278bc (va_wsS RJ5 226 yJ2_putCharsAt_cd4e5 wsJ2_putCharsAt_cd4e5) := goodIn_app (goodIn_of _ (by decide +kernel)) ggJ5_appendNull_278bc_J2_putCharsAt_cd4e5
theorem dJ5_appendNull_278bc_0 : decode cJ5_appendNull_278bc 0 = .ok (.aload_n 0, 1) := by decide +kernel
theorem dJ5_appendNull_278bc_1 : decode cJ5_appendNull_278bc 1 = .ok (.aload_n 0, 1) := by decide +kernel
theorem dJ5_appendNull_278bc_2 : decode cJ5_appendNull_278bc 2 = .ok (.getfield 79, 3) := by decide +kernel
theorem dJ5_appendNull_278bc_5 : decode cJ5_appendNull_278bc 5 = .ok (.iconst 4, 1) := by decide +kernel
theorem dJ5_appendNull_278bc_6 : decode cJ5_appendNull_278bc 6 = .ok (.iadd, 1) := by decide +kernel
theorem dJ5_appendNull_278bc_7 : decode cJ5_appendNull_278bc 7 = .ok (.invokevirtual 100, 3) := by decide +kernel
theorem dJ5_appendNull_278bc_10 : decode cJ5_appendNull_278bc 10 = .ok (.aload_n 0, 1) := by decide +kernel
theorem dJ5_appendNull_278bc_11 : decode cJ5_appendNull_278bc 11 = .ok (.getfield 79, 3) := by decide +kernel
theorem dJ5_appendNull_278bc_14 : decode cJ5_appendNull_278bc 14 = .ok (.istore_n 1, 1) := by decide +kernel
theorem dJ5_appendNull_278bc_15 : decode cJ5_appendNull_278bc 15 = .ok (.aload_n 0, 1) := by decide +kernel
theorem dJ5_appendNull_278bc_16 : decode cJ5_appendNull_278bc 16 = .ok (.getfield 15, 3) := by decide +kernel
