theorem dX0_init_0 : decode cX0_init 0 = .ok (.aload_n 0, 1) := by decide +kernel
theorem dX0_init_1 : decode cX0_init 1 = .ok (.invokespecial 3, 3) := by decide +kernel
theorem dX0_init_4 : decode cX0_init 4 = .ok (.aload_n 0, 1) := by decide +kernel
theorem dX0_init_5 : decode cX0_init 5 = .ok (.sipush 144, 3) := by decide +kernel
theorem dX0_init_8 : decode cX0_init 8 = .ok (.newarray .int, 2) := by decide +kernel
theorem dX0_init_10 : decode cX0_init 10 = .ok (.putfield 11, 3) := by decide +kernel
theorem dX0_init_13 : decode cX0_init 13 = .ok (.return_, 1) := by decide +kernel
theorem dX0_copyFrom_0 : decode cX0_copyFrom 0 = .ok (.aload_n 0, 1) := by decide +kernel
theorem dX0_copyFrom_1 : decode cX0_copyFrom 1 = .ok (.aload_n 1, 1) := by decide +kernel
theorem dX0_copyFrom_2 : decode cX0_copyFrom 2 = .ok (.getfield 15, 3) := by decide +kernel
theorem dX0_copyFrom_5 : decode cX0_copyFrom 5 = .ok (.putfield 15, 3) := by decide +kernel
theorem dX0_copyFrom_8 : decode cX0_copyFrom 8 = .ok (.aload_n 1, 1) := by decide +kernel
theorem dX0_copyFrom_9 : decode cX0_copyFrom 9 = .ok (.getfield 11, 3) := by decide +kernel
theorem dX0_copyFrom_12 : decode cX0_copyFrom 12 = .ok (.iconst 0, 1) := by decide +kernel
theorem dX0_copyFrom_13 : decode cX0_copyFrom 13 = .ok (.aload_n 0, 1) := by decide +kernel
theorem dX0_copyFrom_14 : decode cX0_copyFrom 14 = .ok (.getfield 11, 3) := by decide +kernel
theorem dX0_copyFrom_17 : decode cX0_copyFrom 17 = .ok (.iconst 0, 1) := by decide +kernel
theorem dX0_copyFrom_18 : decode cX0_copyFrom 18 = .ok (.aload_n 0, 1) := by decide +kernel
theorem dX0_copyFrom_19 : decode cX0_copyFrom 19 = .ok (.getfield 11, 3) := by decide +kernel
theorem dX0_copyFrom_22 : decode cX0_copyFrom 22 = .ok (.arraylength, 1) := by decide +kernel
theorem dX0_copyFrom_23 : decode cX0_copyFrom 23 = .ok (.invokestatic 19, 3) := by decide +kernel
theorem dX0_copyFrom_26 : decode cX0_copyFrom 26 = .ok (.return_, 1) := by decide +kernel
theorem dX0_has_0 : decode cX0_has 0 = .ok (.iload_n 1, 1) := by decide +kernel
theorem dX0_has_1 : decode cX0_has 1 = .ok (.ifCond .lt 21, 3) := by decide +kernel
theorem dX0_has_4 : decode cX0_has 4 = .ok (.iload_n 1, 1) := by decide +kernel
theorem dX0_has_5 : decode cX0_has 5 = .ok (.aload_n 0, 1) := by decide +kernel
theorem dX0_has_6 : decode cX0_has 6 = .ok (.getfield 15, 3) := by decide +kernel
theorem dX0_has_9 : decode cX0_has 9 = .ok (.if_icmp .ge 13, 3) := by decide +kernel
theorem dX0_has_12 : decode cX0_has 12 = .ok (.iload_n 1, 1) := by decide +kernel
theorem dX0_has_13 : decode cX0_has 13 = .ok (.bipush 24, 2) := by decide +kernel
theorem dX0_has_15 : decode cX0_has 15 = .ok (.if_icmp .ge 7, 3) := by decide +kernel
theorem dX0_has_18 : decode cX0_has 18 = .ok (.iconst 1, 1) := by decide +kernel
theorem dX0_has_19 : decode cX0_has 19 = .ok (.goto 4, 3) := by decide +kernel
theorem dX0_has_22 : decode cX0_has 22 = .ok (.iconst 0, 1) := by decide +kernel
theorem dX0_has_23 : decode cX0_has 23 = .ok (.ireturn, 1) := by decide +kernel
theorem dX0_isFull_0 : decode cX0_isFull 0 = .ok (.aload_n 0, 1) := by decide +kernel
theorem dX0_isFull_1 : decode cX0_isFull 1 = .ok (.getfield 15, 3) := by decide +kernel
theorem dX0_isFull_4 : decode cX0_isFull 4 = .ok (.bipush 24, 2) := by decide +kernel
theorem dX0_isFull_6 : decode cX0_isFull 6 = .ok (.if_icmp .lt 7, 3) := by decide +kernel
theorem dX0_isFull_9 : decode cX0_isFull 9 = .ok (.iconst 1, 1) := by decide +kernel
theorem dX0_isFull_10 : decode cX0_isFull 10 = .ok (.goto 4, 3) := by decide +kernel
theorem dX0_isFull_13 : decode cX0_isFull 13 = .ok (.iconst 0, 1) := by decide +kernel
theorem dX0_isFull_14 : decode cX0_isFull 14 = .ok (.ireturn, 1) := by decide +kernel
set_option maxRecDepth 20000 in
theorem ggX0_at_X0_has : GoodIn wsX0_at wsX0_has := goodIn_r _ [6, 7, 8, 9] (by decide +kernel) (by decide +kernel)
set_option maxRecDepth 20000 in
theorem gX0_at_X0_has : GoodIn wsX0_at (wsV RX0 25 RX0 yX0_has wsX0_has) := goodIn_app (goodIn_of _ (by decide +kernel)) ggX0_at_X0_has
theorem dX0_at_0 : decode cX0_at 0 = .ok (.aload_n 0, 1) := by decide +kernel
theorem dX0_at_1 : decode cX0_at 1 = .ok (.iload_n 1, 1) := by decide +kernel
theorem dX0_at_2 : decode cX0_at 2 = .ok (.invokevirtual 25, 3) := by decide +kernel
theorem dX0_at_5 : decode cX0_at 5 = .ok (.ifCond .eq 27, 3) := by decide +kernel
theorem dX0_at_8 : decode cX0_at 8 = .ok (.iload_n 2, 1) := by decide +kernel
theorem dX0_at_9 : decode cX0_at 9 = .ok (.ifCond .lt 23, 3) := by decide +kernel
theorem dX0_at_12 : decode cX0_at 12 = .ok (.iload_n 2, 1) := by decide +kernel
theorem dX0_at_13 : decode cX0_at 13 = .ok (.bipush 6, 2) := by decide +kernel
theorem dX0_at_15 : decode cX0_at 15 = .ok (.if_icmp .ge 17, 3) := by decide +kernel
theorem dX0_at_18 : decode cX0_at 18 = .ok (.aload_n 0, 1) := by decide +kernel
theorem dX0_at_19 : decode cX0_at 19 = .ok (.getfield 11, 3) := by decide +kernel
theorem dX0_at_22 : decode cX0_at 22 = .ok (.bipush 6, 2) := by decide +kernel
theorem dX0_at_24 : decode cX0_at 24 = .ok (.iload_n 1, 1) := by decide +kernel
theorem dX0_at_25 : decode cX0_at 25 = .ok (.imul, 1) := by decide +kernel
theorem dX0_at_26 : decode cX0_at 26 = .ok (.iload_n 2, 1) := by decide +kernel
theorem dX0_at_27 : decode cX0_at 27 = .ok (.iadd, 1) := by decide +kernel
theorem dX0_at_28 : decode cX0_at 28 = .ok (.iaload, 1) := by decide +kernel
theorem dX0_at_29 : decode cX0_at 29 = .ok (.goto 4, 3) := by decide +kernel
theorem dX0_at_32 : decode cX0_at 32 = .ok (.iconst (-1), 1) := by decide +kernel
theorem dX0_at_33 : decode cX0_at 33 = .ok (.ireturn, 1) := by decide +kernel
set_option maxRecDepth 20000 in
theorem ggX0_putMinutes_X0_has : GoodIn wsX0_putMinutes wsX0_has := goodIn_r _ [6, 7, 8, 9] (by decide +kernel) (by decide +kernel)
set_option maxRecDepth 20000 in
theorem gX0_putMinutes_X0_has : GoodIn wsX0_putMinutes (wsV RX0 25 RX0 yX0_has wsX0_has) := goodIn_app (goodIn_of _ (by decide +kernel)) ggX0_putMinutes_X0_has
theorem dX0_putMinutes_0 : decode cX0_putMinutes 0 = .ok (.aload_n 0, 1) := by decide +kernel
theorem dX0_putMinutes_1 : decode cX0_putMinutes 1 = .ok (.iload_n 1, 1) := by decide +kernel
theorem dX0_putMinutes_2 : decode cX0_putMinutes 2 = .ok (.invokevirtual 25, 3) := by decide +kernel
theorem dX0_putMinutes_5 : decode cX0_putMinutes 5 = .ok (.ifCond .eq 15, 3) := by decide +kernel
theorem dX0_putMinutes_8 : decode cX0_putMinutes 8 = .ok (.aload_n 0, 1) := by decide +kernel
theorem dX0_putMinutes_9 : decode cX0_putMinutes 9 = .ok (.getfield 11, 3) := by decide +kernel
theorem dX0_putMinutes_12 : decode cX0_putMinutes 12 = .ok (.bipush 6, 2) := by decide +kernel
theorem dX0_putMinutes_14 : decode cX0_putMinutes 14 = .ok (.iload_n 1, 1) := by decide +kernel
theorem dX0_putMinutes_15 : decode cX0_putMinutes 15 = .ok (.imul, 1) := by decide +kernel
theorem dX0_putMinutes_16 : decode cX0_putMinutes 16 = .ok (.iconst 5, 1) := by decide +kernel
theorem dX0_putMinutes_17 : decode cX0_putMinutes 17 = .ok (.iadd, 1) := by decide +kernel
theorem dX0_putMinutes_18 : decode cX0_putMinutes 18 = .ok (.iload_n 2, 1) := by decide +kernel
theorem dX0_putMinutes_19 : decode cX0_putMinutes 19 = .ok (.iastore, 1) := by decide +kernel
theorem dX0_putMinutes_20 : decode cX0_putMinutes 20 = .ok (.return_, 1) := by decide +kernel
set_option maxRecDepth 20000 in
theorem ggX0_add_X0_valuesInHour : GoodIn wsX0_add wsX0_valuesInHour := goodIn_r _ [11, 1, 2, 23, 24] (by decide +kernel) (by decide +kernel)
set_option maxRecDepth 20000 in
theorem gX0_add_X0_valuesInHour : GoodIn wsX0_add (wsV RX0 29 RX0 yX0_valuesInHour wsX0_valuesInHour) := goodIn_app (goodIn_of _ (by decide +kernel)) ggX0_add_X0_valuesInHour
set_option maxRecDepth 20000 in
theorem ggX0_add_X7_hasBit : GoodIn wsX0_add wsX7_hasBit := goodIn_r _ [14] (by decide +kernel) (by decide +kernel)
set_option maxRecDepth 20000 in
theorem gX0_add_X7_hasBit_n33 : GoodIn wsX0_add (wsX7_hasBit) := ggX0_add_X7_hasBit
set_option maxRecDepth 20000 in
theorem ggX0_add_X0_placeFor : GoodIn wsX0_add wsX0_placeFor := goodIn_r _ [18, 1, 19, 20, 21, 10, 22, 2, 23, 24] (by decide +kernel) (by decide +kernel)
set_option maxRecDepth 20000 in
theorem gX0_add_X0_placeFor : GoodIn wsX0_add (wsV RX0 37 RX0 yX0_placeFor wsX0_placeFor) := goodIn_app (goodIn_of _ (by decide +kernel)) ggX0_add_X0_placeFor
theorem dX0_add_0 : decode cX0_add 0 = .ok (.aload_n 0, 1) := by decide +kernel
theorem dX0_add_1 : decode cX0_add 1 = .ok (.getfield 15, 3) := by decide +kernel
theorem dX0_add_4 : decode cX0_add 4 = .ok (.ifCond .lt 12, 3) := by decide +kernel
theorem dX0_add_7 : decode cX0_add 7 = .ok (.aload_n 0, 1) := by decide +kernel
theorem dX0_add_8 : decode cX0_add 8 = .ok (.getfield 15, 3) := by decide +kernel
theorem dX0_add_11 : decode cX0_add 11 = .ok (.bipush 24, 2) := by decide +kernel
theorem dX0_add_13 : decode cX0_add 13 = .ok (.if_icmp .lt 6, 3) := by decide +kernel
theorem dX0_add_16 : decode cX0_add 16 = .ok (.bipush (-3), 2) := by decide +kernel
theorem dX0_add_18 : decode cX0_add 18 = .ok (.ireturn, 1) := by decide +kernel
theorem dX0_add_19 : decode cX0_add 19 = .ok (.aload_n 0, 1) := by decide +kernel
theorem dX0_add_20 : decode cX0_add 20 = .ok (.iconst 2, 1) := by decide +kernel
theorem dX0_add_21 : decode cX0_add 21 = .ok (.iload_n 3, 1) := by decide +kernel
theorem dX0_add_22 : decode cX0_add 22 = .ok (.iload 4, 2) := by decide +kernel
theorem dX0_add_24 : decode cX0_add 24 = .ok (.invokevirtual 29, 3) := by decide +kernel
theorem dX0_add_27 : decode cX0_add 27 = .ok (.istore 5, 2) := by decide +kernel
theorem dX0_add_29 : decode cX0_add 29 = .ok (.iconst 0, 1) := by decide +kernel
theorem dX0_add_30 : decode cX0_add 30 = .ok (.istore 6, 2) := by decide +kernel
theorem dX0_add_32 : decode cX0_add 32 = .ok (.iload 6, 2) := by decide +kernel
theorem dX0_add_34 : decode cX0_add 34 = .ok (.bipush 24, 2) := by decide +kernel
theorem dX0_add_36 : decode cX0_add 36 = .ok (.if_icmp .ge 19, 3) := by decide +kernel
theorem dX0_add_39 : decode cX0_add 39 = .ok (.iload 5, 2) := by decide +kernel
theorem dX0_add_41 : decode cX0_add 41 = .ok (.iload 6, 2) := by decide +kernel
theorem dX0_add_43 : decode cX0_add 43 = .ok (.invokestatic 33, 3) := by decide +kernel
theorem dX0_add_46 : decode cX0_add 46 = .ok (.ifCond .eq 9, 3) := by decide +kernel
theorem dX0_add_49 : decode cX0_add 49 = .ok (.iinc 6 1, 3) := by decide +kernel
theorem dX0_add_52 : decode cX0_add 52 = .ok (.goto (-20), 3) := by decide +kernel
theorem dX0_add_55 : decode cX0_add 55 = .ok (.bipush 6, 2) := by decide +kernel
theorem dX0_add_57 : decode cX0_add 57 = .ok (.aload_n 0, 1) := by decide +kernel
theorem dX0_add_58 : decode cX0_add 58 = .ok (.iload_n 3, 1) := by decide +kernel
theorem dX0_add_59 : decode cX0_add 59 = .ok (.iload 4, 2) := by decide +kernel
theorem dX0_add_61 : decode cX0_add 61 = .ok (.iload 6, 2) := by decide +kernel
theorem dX0_add_63 : decode cX0_add 63 = .ok (.invokevirtual 37, 3) := by decide +kernel
theorem dX0_add_66 : decode cX0_add 66 = .ok (.imul, 1) := by decide +kernel
theorem dX0_add_67 : decode cX0_add 67 = .ok (.istore 7, 2) := by decide +kernel
theorem dX0_add_69 : decode cX0_add 69 = .ok (.aload_n 0, 1) := by decide +kernel
theorem dX0_add_70 : decode cX0_add 70 = .ok (.getfield 11, 3) := by decide +kernel
theorem dX0_add_73 : decode cX0_add 73 = .ok (.iload 7, 2) := by decide +kernel
theorem dX0_add_75 : decode cX0_add 75 = .ok (.aload_n 0, 1) := by decide +kernel
theorem dX0_add_76 : decode cX0_add 76 = .ok (.getfield 11, 3) := by decide +kernel
theorem dX0_add_79 : decode cX0_add 79 = .ok (.iload 7, 2) := by decide +kernel
theorem dX0_add_81 : decode cX0_add 81 = .ok (.bipush 6, 2) := by decide +kernel
theorem dX0_add_83 : decode cX0_add 83 = .ok (.iadd, 1) := by decide +kernel
theorem dX0_add_84 : decode cX0_add 84 = .ok (.bipush 6, 2) := by decide +kernel
theorem dX0_add_86 : decode cX0_add 86 = .ok (.aload_n 0, 1) := by decide +kernel
theorem dX0_add_87 : decode cX0_add 87 = .ok (.getfield 15, 3) := by decide +kernel
theorem dX0_add_90 : decode cX0_add 90 = .ok (.imul, 1) := by decide +kernel
theorem dX0_add_91 : decode cX0_add 91 = .ok (.iload 7, 2) := by decide +kernel
theorem dX0_add_93 : decode cX0_add 93 = .ok (.isub, 1) := by decide +kernel
theorem dX0_add_94 : decode cX0_add 94 = .ok (.invokestatic 19, 3) := by decide +kernel
theorem dX0_add_97 : decode cX0_add 97 = .ok (.aload_n 0, 1) := by decide +kernel
theorem dX0_add_98 : decode cX0_add 98 = .ok (.dup, 1) := by decide +kernel
theorem dX0_add_99 : decode cX0_add 99 = .ok (.getfield 15, 3) := by decide +kernel
theorem dX0_add_102 : decode cX0_add 102 = .ok (.iconst 1, 1) := by decide +kernel
theorem dX0_add_103 : decode cX0_add 103 = .ok (.iadd, 1) := by decide +kernel
theorem dX0_add_104 : decode cX0_add 104 = .ok (.putfield 15, 3) := by decide +kernel
theorem dX0_add_107 : decode cX0_add 107 = .ok (.aload_n 0, 1) := by decide +kernel
theorem dX0_add_108 : decode cX0_add 108 = .ok (.getfield 11, 3) := by decide +kernel
theorem dX0_add_111 : decode cX0_add 111 = .ok (.iload 7, 2) := by decide +kernel
theorem dX0_add_113 : decode cX0_add 113 = .ok (.iconst 0, 1) := by decide +kernel
theorem dX0_add_114 : decode cX0_add 114 = .ok (.iadd, 1) := by decide +kernel
theorem dX0_add_115 : decode cX0_add 115 = .ok (.iload_n 3, 1) := by decide +kernel
theorem dX0_add_116 : decode cX0_add 116 = .ok (.iastore, 1) := by decide +kernel
theorem dX0_add_117 : decode cX0_add 117 = .ok (.aload_n 0, 1) := by decide +kernel
theorem dX0_add_118 : decode cX0_add 118 = .ok (.getfield 11, 3) := by decide +kernel
theorem dX0_add_121 : decode cX0_add 121 = .ok (.iload 7, 2) := by decide +kernel
theorem dX0_add_123 : decode cX0_add 123 = .ok (.iconst 1, 1) := by decide +kernel
theorem dX0_add_124 : decode cX0_add 124 = .ok (.iadd, 1) := by decide +kernel
theorem dX0_add_125 : decode cX0_add 125 = .ok (.iload 4, 2) := by decide +kernel
theorem dX0_add_127 : decode cX0_add 127 = .ok (.iastore, 1) := by decide +kernel
theorem dX0_add_128 : decode cX0_add 128 = .ok (.aload_n 0, 1) := by decide +kernel
theorem dX0_add_129 : decode cX0_add 129 = .ok (.getfield 11, 3) := by decide +kernel
theorem dX0_add_132 : decode cX0_add 132 = .ok (.iload 7, 2) := by decide +kernel
theorem dX0_add_134 : decode cX0_add 134 = .ok (.iconst 2, 1) := by decide +kernel
theorem dX0_add_135 : decode cX0_add 135 = .ok (.iadd, 1) := by decide +kernel
theorem dX0_add_136 : decode cX0_add 136 = .ok (.iload 6, 2) := by decide +kernel
theorem dX0_add_138 : decode cX0_add 138 = .ok (.iastore, 1) := by decide +kernel
theorem dX0_add_139 : decode cX0_add 139 = .ok (.aload_n 0, 1) := by decide +kernel
theorem dX0_add_140 : decode cX0_add 140 = .ok (.getfield 11, 3) := by decide +kernel
theorem dX0_add_143 : decode cX0_add 143 = .ok (.iload 7, 2) := by decide +kernel
theorem dX0_add_145 : decode cX0_add 145 = .ok (.iconst 3, 1) := by decide +kernel
theorem dX0_add_146 : decode cX0_add 146 = .ok (.iadd, 1) := by decide +kernel
theorem dX0_add_147 : decode cX0_add 147 = .ok (.iload_n 1, 1) := by decide +kernel
theorem dX0_add_148 : decode cX0_add 148 = .ok (.iastore, 1) := by decide +kernel
theorem dX0_add_149 : decode cX0_add 149 = .ok (.aload_n 0, 1) := by decide +kernel
theorem dX0_add_150 : decode cX0_add 150 = .ok (.getfield 11, 3) := by decide +kernel
theorem dX0_add_153 : decode cX0_add 153 = .ok (.iload 7, 2) := by decide +kernel
theorem dX0_add_155 : decode cX0_add 155 = .ok (.iconst 4, 1) := by decide +kernel
theorem dX0_add_156 : decode cX0_add 156 = .ok (.iadd, 1) := by decide +kernel
theorem dX0_add_157 : decode cX0_add 157 = .ok (.iload_n 2, 1) := by decide +kernel
theorem dX0_add_158 : decode cX0_add 158 = .ok (.iastore, 1) := by decide +kernel
theorem dX0_add_159 : decode cX0_add 159 = .ok (.aload_n 0, 1) := by decide +kernel
theorem dX0_add_160 : decode cX0_add 160 = .ok (.getfield 11, 3) := by decide +kernel
theorem dX0_add_163 : decode cX0_add 163 = .ok (.iload 7, 2) := by decide +kernel
theorem dX0_add_165 : decode cX0_add 165 = .ok (.iconst 5, 1) := by decide +kernel
theorem dX0_add_166 : decode cX0_add 166 = .ok (.iadd, 1) := by decide +kernel
theorem dX0_add_167 : decode cX0_add 167 = .ok (.iconst 0, 1) := by decide +kernel
theorem dX0_add_168 : decode cX0_add 168 = .ok (.iastore, 1) := by decide +kernel
theorem dX0_add_169 : decode cX0_add 169 = .ok (.iload 6, 2) := by decide +kernel
theorem dX0_add_171 : decode cX0_add 171 = .ok (.ireturn, 1) := by decide +kernel
set_option maxRecDepth 20000 in
theorem ggX0_placeFor_X0_isAhead : GoodIn wsX0_placeFor wsX0_isAhead := goodIn_r _ [6, 7, 8, 9] (by decide +kernel) (by decide +kernel)
set_option maxRecDepth 20000 in
theorem gX0_placeFor_X0_isAhead : GoodIn wsX0_placeFor (wsV RX0 40 RX0 yX0_isAhead wsX0_isAhead) := goodIn_app (goodIn_of _ (by decide +kernel)) ggX0_placeFor_X0_isAhead
theorem dX0_placeFor_0 : decode cX0_placeFor 0 = .ok (.iconst 0, 1) := by decide +kernel
theorem dX0_placeFor_1 : decode cX0_placeFor 1 = .ok (.istore 4, 2) := by decide +kernel
theorem dX0_placeFor_3 : decode cX0_placeFor 3 = .ok (.iload 4, 2) := by decide +kernel
theorem dX0_placeFor_5 : decode cX0_placeFor 5 = .ok (.aload_n 0, 1) := by decide +kernel
theorem dX0_placeFor_6 : decode cX0_placeFor 6 = .ok (.getfield 15, 3) := by decide +kernel
theorem dX0_placeFor_9 : decode cX0_placeFor 9 = .ok (.if_icmp .ge 21, 3) := by decide +kernel
theorem dX0_placeFor_12 : decode cX0_placeFor 12 = .ok (.aload_n 0, 1) := by decide +kernel
theorem dX0_placeFor_13 : decode cX0_placeFor 13 = .ok (.iload 4, 2) := by decide +kernel
theorem dX0_placeFor_15 : decode cX0_placeFor 15 = .ok (.iload_n 1, 1) := by decide +kernel
theorem dX0_placeFor_16 : decode cX0_placeFor 16 = .ok (.iload_n 2, 1) := by decide +kernel
theorem dX0_placeFor_17 : decode cX0_placeFor 17 = .ok (.iload_n 3, 1) := by decide +kernel
theorem dX0_placeFor_18 : decode cX0_placeFor 18 = .ok (.invokevirtual 40, 3) := by decide +kernel
theorem dX0_placeFor_21 : decode cX0_placeFor 21 = .ok (.ifCond .eq 9, 3) := by decide +kernel
theorem dX0_placeFor_24 : decode cX0_placeFor 24 = .ok (.iinc 4 1, 3) := by decide +kernel
theorem dX0_placeFor_27 : decode cX0_placeFor 27 = .ok (.goto (-24), 3) := by decide +kernel
theorem dX0_placeFor_30 : decode cX0_placeFor 30 = .ok (.iload 4, 2) := by decide +kernel
theorem dX0_placeFor_32 : decode cX0_placeFor 32 = .ok (.ireturn, 1) := by decide +kernel
theorem dX0_isAhead_0 : decode cX0_isAhead 0 = .ok (.iload_n 1, 1) := by decide +kernel
theorem dX0_isAhead_1 : decode cX0_isAhead 1 = .ok (.ifCond .lt 9, 3) := by decide +kernel
theorem dX0_isAhead_4 : decode cX0_isAhead 4 = .ok (.iload_n 1, 1) := by decide +kernel
theorem dX0_isAhead_5 : decode cX0_isAhead 5 = .ok (.bipush 24, 2) := by decide +kernel
theorem dX0_isAhead_7 : decode cX0_isAhead 7 = .ok (.if_icmp .lt 5, 3) := by decide +kernel
theorem dX0_isAhead_10 : decode cX0_isAhead 10 = .ok (.iconst 0, 1) := by decide +kernel
theorem dX0_isAhead_11 : decode cX0_isAhead 11 = .ok (.ireturn, 1) := by decide +kernel
theorem dX0_isAhead_12 : decode cX0_isAhead 12 = .ok (.bipush 6, 2) := by decide +kernel
theorem dX0_isAhead_14 : decode cX0_isAhead 14 = .ok (.iload_n 1, 1) := by decide +kernel
theorem dX0_isAhead_15 : decode cX0_isAhead 15 = .ok (.imul, 1) := by decide +kernel
theorem dX0_isAhead_16 : decode cX0_isAhead 16 = .ok (.istore 5, 2) := by decide +kernel
theorem dX0_isAhead_18 : decode cX0_isAhead 18 = .ok (.aload_n 0, 1) := by decide +kernel
theorem dX0_isAhead_19 : decode cX0_isAhead 19 = .ok (.getfield 11, 3) := by decide +kernel
theorem dX0_isAhead_22 : decode cX0_isAhead 22 = .ok (.iload 5, 2) := by decide +kernel
theorem dX0_isAhead_24 : decode cX0_isAhead 24 = .ok (.iconst 0, 1) := by decide +kernel
theorem dX0_isAhead_25 : decode cX0_isAhead 25 = .ok (.iadd, 1) := by decide +kernel
theorem dX0_isAhead_26 : decode cX0_isAhead 26 = .ok (.iaload, 1) := by decide +kernel
theorem dX0_isAhead_27 : decode cX0_isAhead 27 = .ok (.iload_n 2, 1) := by decide +kernel
theorem dX0_isAhead_28 : decode cX0_isAhead 28 = .ok (.if_icmp .eq 22, 3) := by decide +kernel
theorem dX0_isAhead_31 : decode cX0_isAhead 31 = .ok (.aload_n 0, 1) := by decide +kernel
theorem dX0_isAhead_32 : decode cX0_isAhead 32 = .ok (.getfield 11, 3) := by decide +kernel
theorem dX0_isAhead_35 : decode cX0_isAhead 35 = .ok (.iload 5, 2) := by decide +kernel
theorem dX0_isAhead_37 : decode cX0_isAhead 37 = .ok (.iconst 0, 1) := by decide +kernel
theorem dX0_isAhead_38 : decode cX0_isAhead 38 = .ok (.iadd, 1) := by decide +kernel
theorem dX0_isAhead_39 : decode cX0_isAhead 39 = .ok (.iaload, 1) := by decide +kernel
theorem dX0_isAhead_40 : decode cX0_isAhead 40 = .ok (.iload_n 2, 1) := by decide +kernel
theorem dX0_isAhead_41 : decode cX0_isAhead 41 = .ok (.if_icmp .ge 7, 3) := by decide +kernel
theorem dX0_isAhead_44 : decode cX0_isAhead 44 = .ok (.iconst 1, 1) := by decide +kernel
theorem dX0_isAhead_45 : decode cX0_isAhead 45 = .ok (.goto 4, 3) := by decide +kernel
theorem dX0_isAhead_48 : decode cX0_isAhead 48 = .ok (.iconst 0, 1) := by decide +kernel
theorem dX0_isAhead_49 : decode cX0_isAhead 49 = .ok (.ireturn, 1) := by decide +kernel
theorem dX0_isAhead_50 : decode cX0_isAhead 50 = .ok (.aload_n 0, 1) := by decide +kernel
theorem dX0_isAhead_51 : decode cX0_isAhead 51 = .ok (.getfield 11, 3) := by decide +kernel
theorem dX0_isAhead_54 : decode cX0_isAhead 54 = .ok (.iload 5, 2) := by decide +kernel
theorem dX0_isAhead_56 : decode cX0_isAhead 56 = .ok (.iconst 1, 1) := by decide +kernel
theorem dX0_isAhead_57 : decode cX0_isAhead 57 = .ok (.iadd, 1) := by decide +kernel
theorem dX0_isAhead_58 : decode cX0_isAhead 58 = .ok (.iaload, 1) := by decide +kernel
theorem dX0_isAhead_59 : decode cX0_isAhead 59 = .ok (.iload_n 3, 1) := by decide +kernel
theorem dX0_isAhead_60 : decode cX0_isAhead 60 = .ok (.if_icmp .eq 22, 3) := by decide +kernel
theorem dX0_isAhead_63 : decode cX0_isAhead 63 = .ok (.aload_n 0, 1) := by decide +kernel
theorem dX0_isAhead_64 : decode cX0_isAhead 64 = .ok (.getfield 11, 3) := by decide +kernel
theorem dX0_isAhead_67 : decode cX0_isAhead 67 = .ok (.iload 5, 2) := by decide +kernel
theorem dX0_isAhead_69 : decode cX0_isAhead 69 = .ok (.iconst 1, 1) := by decide +kernel
theorem dX0_isAhead_70 : decode cX0_isAhead 70 = .ok (.iadd, 1) := by decide +kernel
theorem dX0_isAhead_71 : decode cX0_isAhead 71 = .ok (.iaload, 1) := by decide +kernel
theorem dX0_isAhead_72 : decode cX0_isAhead 72 = .ok (.iload_n 3, 1) := by decide +kernel
theorem dX0_isAhead_73 : decode cX0_isAhead 73 = .ok (.if_icmp .ge 7, 3) := by decide +kernel
theorem dX0_isAhead_76 : decode cX0_isAhead 76 = .ok (.iconst 1, 1) := by decide +kernel
theorem dX0_isAhead_77 : decode cX0_isAhead 77 = .ok (.goto 4, 3) := by decide +kernel
theorem dX0_isAhead_80 : decode cX0_isAhead 80 = .ok (.iconst 0, 1) := by decide +kernel
theorem dX0_isAhead_81 : decode cX0_isAhead 81 = .ok (.ireturn, 1) := by decide +kernel
theorem dX0_isAhead_82 : decode cX0_isAhead 82 = .ok (.aload_n 0, 1) := by decide +kernel
theorem dX0_isAhead_83 : decode cX0_isAhead 83 = .ok (.getfield 11, 3) := by decide +kernel
theorem dX0_isAhead_86 : decode cX0_isAhead 86 = .ok (.iload 5, 2) := by decide +kernel
theorem dX0_isAhead_88 : decode cX0_isAhead 88 = .ok (.iconst 2, 1) := by decide +kernel
theorem dX0_isAhead_89 : decode cX0_isAhead 89 = .ok (.iadd, 1) := by decide +kernel
theorem dX0_isAhead_90 : decode cX0_isAhead 90 = .ok (.iaload, 1) := by decide +kernel
theorem dX0_isAhead_91 : decode cX0_isAhead 91 = .ok (.iload 4, 2) := by decide +kernel
theorem dX0_isAhead_93 : decode cX0_isAhead 93 = .ok (.if_icmp .ge 7, 3) := by decide +kernel
theorem dX0_isAhead_96 : decode cX0_isAhead 96 = .ok (.iconst 1, 1) := by decide +kernel
theorem dX0_isAhead_97 : decode cX0_isAhead 97 = .ok (.goto 4, 3) := by decide +kernel
theorem dX0_isAhead_100 : decode cX0_isAhead 100 = .ok (.iconst 0, 1) := by decide +kernel
theorem dX0_isAhead_101 : decode cX0_isAhead 101 = .ok (.ireturn, 1) := by decide +kernel
set_option maxRecDepth 20000 in
theorem ggX0_remove_X0_has : GoodIn wsX0_remove wsX0_has := goodIn_r _ [11, 1, 12, 13] (by decide +kernel) (by decide +kernel)
set_option maxRecDepth 20000 in
theorem gX0_remove_X0_has : GoodIn wsX0_remove (wsV RX0 25 RX0 yX0_has wsX0_has) := goodIn_app (goodIn_of _ (by decide +kernel)) ggX0_remove_X0_has
theorem dX0_remove_0 : decode cX0_remove 0 = .ok (.aload_n 0, 1) := by decide +kernel
theorem dX0_remove_1 : decode cX0_remove 1 = .ok (.iload_n 1, 1) := by decide +kernel
theorem dX0_remove_2 : decode cX0_remove 2 = .ok (.invokevirtual 25, 3) := by decide +kernel
theorem dX0_remove_5 : decode cX0_remove 5 = .ok (.ifCond .eq 54, 3) := by decide +kernel
theorem dX0_remove_8 : decode cX0_remove 8 = .ok (.aload_n 0, 1) := by decide +kernel
theorem dX0_remove_9 : decode cX0_remove 9 = .ok (.getfield 15, 3) := by decide +kernel
theorem dX0_remove_12 : decode cX0_remove 12 = .ok (.bipush 24, 2) := by decide +kernel
theorem dX0_remove_14 : decode cX0_remove 14 = .ok (.if_icmp .gt 45, 3) := by decide +kernel
theorem dX0_remove_17 : decode cX0_remove 17 = .ok (.bipush 6, 2) := by decide +kernel
theorem dX0_remove_19 : decode cX0_remove 19 = .ok (.iload_n 1, 1) := by decide +kernel
theorem dX0_remove_20 : decode cX0_remove 20 = .ok (.iconst 1, 1) := by decide +kernel
theorem dX0_remove_21 : decode cX0_remove 21 = .ok (.iadd, 1) := by decide +kernel
theorem dX0_remove_22 : decode cX0_remove 22 = .ok (.imul, 1) := by decide +kernel
theorem dX0_remove_23 : decode cX0_remove 23 = .ok (.istore_n 2, 1) := by decide +kernel
theorem dX0_remove_24 : decode cX0_remove 24 = .ok (.aload_n 0, 1) := by decide +kernel
theorem dX0_remove_25 : decode cX0_remove 25 = .ok (.getfield 11, 3) := by decide +kernel
theorem dX0_remove_28 : decode cX0_remove 28 = .ok (.iload_n 2, 1) := by decide +kernel
theorem dX0_remove_29 : decode cX0_remove 29 = .ok (.aload_n 0, 1) := by decide +kernel
theorem dX0_remove_30 : decode cX0_remove 30 = .ok (.getfield 11, 3) := by decide +kernel
theorem dX0_remove_33 : decode cX0_remove 33 = .ok (.iload_n 2, 1) := by decide +kernel
theorem dX0_remove_34 : decode cX0_remove 34 = .ok (.bipush 6, 2) := by decide +kernel
theorem dX0_remove_36 : decode cX0_remove 36 = .ok (.isub, 1) := by decide +kernel
theorem dX0_remove_37 : decode cX0_remove 37 = .ok (.bipush 6, 2) := by decide +kernel
theorem dX0_remove_39 : decode cX0_remove 39 = .ok (.aload_n 0, 1) := by decide +kernel
theorem dX0_remove_40 : decode cX0_remove 40 = .ok (.getfield 15, 3) := by decide +kernel
theorem dX0_remove_43 : decode cX0_remove 43 = .ok (.imul, 1) := by decide +kernel
theorem dX0_remove_44 : decode cX0_remove 44 = .ok (.iload_n 2, 1) := by decide +kernel
theorem dX0_remove_45 : decode cX0_remove 45 = .ok (.isub, 1) := by decide +kernel
theorem dX0_remove_46 : decode cX0_remove 46 = .ok (.invokestatic 19, 3) := by decide +kernel
theorem dX0_remove_49 : decode cX0_remove 49 = .ok (.aload_n 0, 1) := by decide +kernel
theorem dX0_remove_50 : decode cX0_remove 50 = .ok (.dup, 1) := by decide +kernel
theorem dX0_remove_51 : decode cX0_remove 51 = .ok (.getfield 15, 3) := by decide +kernel
theorem dX0_remove_54 : decode cX0_remove 54 = .ok (.iconst 1, 1) := by decide +kernel
theorem dX0_remove_55 : decode cX0_remove 55 = .ok (.isub, 1) := by decide +kernel
theorem dX0_remove_56 : decode cX0_remove 56 = .ok (.putfield 15, 3) := by decide +kernel
theorem dX0_remove_59 : decode cX0_remove 59 = .ok (.return_, 1) := by decide +kernel
set_option maxRecDepth 20000 in
theorem ggX0_countOf_X0_at : GoodIn wsX0_countOf wsX0_at := goodIn_r _ [6, 7, 8, 9, 10, 5, 11, 1, 12, 13] (by decide +kernel) (by decide +kernel)
set_option maxRecDepth 20000 in
theorem gX0_countOf_X0_at : GoodIn wsX0_countOf (wsV RX0 44 RX0 yX0_at wsX0_at) := goodIn_app (goodIn_of _ (by decide +kernel)) ggX0_countOf_X0_at
theorem dX0_countOf_0 : decode cX0_countOf 0 = .ok (.iconst 0, 1) := by decide +kernel
theorem dX0_countOf_1 : decode cX0_countOf 1 = .ok (.istore_n 3, 1) := by decide +kernel
theorem dX0_countOf_2 : decode cX0_countOf 2 = .ok (.iconst 0, 1) := by decide +kernel
theorem dX0_countOf_3 : decode cX0_countOf 3 = .ok (.istore 4, 2) := by decide +kernel
theorem dX0_countOf_5 : decode cX0_countOf 5 = .ok (.iload 4, 2) := by decide +kernel
theorem dX0_countOf_7 : decode cX0_countOf 7 = .ok (.aload_n 0, 1) := by decide +kernel
theorem dX0_countOf_8 : decode cX0_countOf 8 = .ok (.getfield 15, 3) := by decide +kernel
theorem dX0_countOf_11 : decode cX0_countOf 11 = .ok (.if_icmp .ge 23, 3) := by decide +kernel
theorem dX0_countOf_14 : decode cX0_countOf 14 = .ok (.aload_n 0, 1) := by decide +kernel
theorem dX0_countOf_15 : decode cX0_countOf 15 = .ok (.iload 4, 2) := by decide +kernel
theorem dX0_countOf_17 : decode cX0_countOf 17 = .ok (.iload_n 1, 1) := by decide +kernel
theorem dX0_countOf_18 : decode cX0_countOf 18 = .ok (.invokevirtual 44, 3) := by decide +kernel
theorem dX0_countOf_21 : decode cX0_countOf 21 = .ok (.iload_n 2, 1) := by decide +kernel
theorem dX0_countOf_22 : decode cX0_countOf 22 = .ok (.if_icmp .ne 6, 3) := by decide +kernel
theorem dX0_countOf_25 : decode cX0_countOf 25 = .ok (.iinc 3 1, 3) := by decide +kernel
theorem dX0_countOf_28 : decode cX0_countOf 28 = .ok (.iinc 4 1, 3) := by decide +kernel
theorem dX0_countOf_31 : decode cX0_countOf 31 = .ok (.goto (-26), 3) := by decide +kernel
theorem dX0_countOf_34 : decode cX0_countOf 34 = .ok (.iload_n 3, 1) := by decide +kernel
theorem dX0_countOf_35 : decode cX0_countOf 35 = .ok (.ireturn, 1) := by decide +kernel
theorem dX0_countInWeek_0 : decode cX0_countInWeek 0 = .ok (.iconst 0, 1) := by decide +kernel
theorem dX0_countInWeek_1 : decode cX0_countInWeek 1 = .ok (.istore_n 3, 1) := by decide +kernel
theorem dX0_countInWeek_2 : decode cX0_countInWeek 2 = .ok (.iconst 0, 1) := by decide +kernel
theorem dX0_countInWeek_3 : decode cX0_countInWeek 3 = .ok (.istore 4, 2) := by decide +kernel
theorem dX0_countInWeek_5 : decode cX0_countInWeek 5 = .ok (.iload 4, 2) := by decide +kernel
theorem dX0_countInWeek_7 : decode cX0_countInWeek 7 = .ok (.bipush 6, 2) := by decide +kernel
theorem dX0_countInWeek_9 : decode cX0_countInWeek 9 = .ok (.aload_n 0, 1) := by decide +kernel
theorem dX0_countInWeek_10 : decode cX0_countInWeek 10 = .ok (.getfield 15, 3) := by decide +kernel
theorem dX0_countInWeek_13 : decode cX0_countInWeek 13 = .ok (.imul, 1) := by decide +kernel
theorem dX0_countInWeek_14 : decode cX0_countInWeek 14 = .ok (.if_icmp .ge 54, 3) := by decide +kernel
theorem dX0_countInWeek_17 : decode cX0_countInWeek 17 = .ok (.iload 4, 2) := by decide +kernel
theorem dX0_countInWeek_19 : decode cX0_countInWeek 19 = .ok (.bipush 6, 2) := by decide +kernel
theorem dX0_countInWeek_21 : decode cX0_countInWeek 21 = .ok (.iadd, 1) := by decide +kernel
theorem dX0_countInWeek_22 : decode cX0_countInWeek 22 = .ok (.aload_n 0, 1) := by decide +kernel
theorem dX0_countInWeek_23 : decode cX0_countInWeek 23 = .ok (.getfield 11, 3) := by decide +kernel
theorem dX0_countInWeek_26 : decode cX0_countInWeek 26 = .ok (.arraylength, 1) := by decide +kernel
theorem dX0_countInWeek_27 : decode cX0_countInWeek 27 = .ok (.if_icmp .gt 41, 3) := by decide +kernel
theorem dX0_countInWeek_30 : decode cX0_countInWeek 30 = .ok (.aload_n 0, 1) := by decide +kernel
theorem dX0_countInWeek_31 : decode cX0_countInWeek 31 = .ok (.getfield 11, 3) := by decide +kernel
theorem dX0_countInWeek_34 : decode cX0_countInWeek 34 = .ok (.iload 4, 2) := by decide +kernel
theorem dX0_countInWeek_36 : decode cX0_countInWeek 36 = .ok (.iconst 3, 1) := by decide +kernel
theorem dX0_countInWeek_37 : decode cX0_countInWeek 37 = .ok (.iadd, 1) := by decide +kernel
theorem dX0_countInWeek_38 : decode cX0_countInWeek 38 = .ok (.iaload, 1) := by decide +kernel
theorem dX0_countInWeek_39 : decode cX0_countInWeek 39 = .ok (.iload_n 1, 1) := by decide +kernel
theorem dX0_countInWeek_40 : decode cX0_countInWeek 40 = .ok (.if_icmp .ne 22, 3) := by decide +kernel
theorem dX0_countInWeek_43 : decode cX0_countInWeek 43 = .ok (.aload_n 0, 1) := by decide +kernel
theorem dX0_countInWeek_44 : decode cX0_countInWeek 44 = .ok (.getfield 11, 3) := by decide +kernel
theorem dX0_countInWeek_47 : decode cX0_countInWeek 47 = .ok (.iload 4, 2) := by decide +kernel
theorem dX0_countInWeek_49 : decode cX0_countInWeek 49 = .ok (.iconst 0, 1) := by decide +kernel
theorem dX0_countInWeek_50 : decode cX0_countInWeek 50 = .ok (.iadd, 1) := by decide +kernel
theorem dX0_countInWeek_51 : decode cX0_countInWeek 51 = .ok (.iaload, 1) := by decide +kernel
theorem dX0_countInWeek_52 : decode cX0_countInWeek 52 = .ok (.bipush 7, 2) := by decide +kernel
theorem dX0_countInWeek_54 : decode cX0_countInWeek 54 = .ok (.idiv, 1) := by decide +kernel
theorem dX0_countInWeek_55 : decode cX0_countInWeek 55 = .ok (.iload_n 2, 1) := by decide +kernel
theorem dX0_countInWeek_56 : decode cX0_countInWeek 56 = .ok (.if_icmp .ne 6, 3) := by decide +kernel
theorem dX0_countInWeek_59 : decode cX0_countInWeek 59 = .ok (.iinc 3 1, 3) := by decide +kernel
theorem dX0_countInWeek_62 : decode cX0_countInWeek 62 = .ok (.iinc 4 6, 3) := by decide +kernel
theorem dX0_countInWeek_65 : decode cX0_countInWeek 65 = .ok (.goto (-60), 3) := by decide +kernel
theorem dX0_countInWeek_68 : decode cX0_countInWeek 68 = .ok (.iload_n 3, 1) := by decide +kernel
theorem dX0_countInWeek_69 : decode cX0_countInWeek 69 = .ok (.ireturn, 1) := by decide +kernel
theorem dX0_valuesInHour_0 : decode cX0_valuesInHour 0 = .ok (.iload_n 1, 1) := by decide +kernel
theorem dX0_valuesInHour_1 : decode cX0_valuesInHour 1 = .ok (.ifCond .lt 9, 3) := by decide +kernel
theorem dX0_valuesInHour_4 : decode cX0_valuesInHour 4 = .ok (.iload_n 1, 1) := by decide +kernel
theorem dX0_valuesInHour_5 : decode cX0_valuesInHour 5 = .ok (.bipush 6, 2) := by decide +kernel
theorem dX0_valuesInHour_7 : decode cX0_valuesInHour 7 = .ok (.if_icmp .lt 5, 3) := by decide +kernel
theorem dX0_valuesInHour_10 : decode cX0_valuesInHour 10 = .ok (.iconst 0, 1) := by decide +kernel
theorem dX0_valuesInHour_11 : decode cX0_valuesInHour 11 = .ok (.ireturn, 1) := by decide +kernel
theorem dX0_valuesInHour_12 : decode cX0_valuesInHour 12 = .ok (.iconst 0, 1) := by decide +kernel
theorem dX0_valuesInHour_13 : decode cX0_valuesInHour 13 = .ok (.istore 4, 2) := by decide +kernel
theorem dX0_valuesInHour_15 : decode cX0_valuesInHour 15 = .ok (.iconst 0, 1) := by decide +kernel
theorem dX0_valuesInHour_16 : decode cX0_valuesInHour 16 = .ok (.istore 5, 2) := by decide +kernel
theorem dX0_valuesInHour_18 : decode cX0_valuesInHour 18 = .ok (.iload 5, 2) := by decide +kernel
theorem dX0_valuesInHour_20 : decode cX0_valuesInHour 20 = .ok (.bipush 6, 2) := by decide +kernel
theorem dX0_valuesInHour_22 : decode cX0_valuesInHour 22 = .ok (.aload_n 0, 1) := by decide +kernel
theorem dX0_valuesInHour_23 : decode cX0_valuesInHour 23 = .ok (.getfield 15, 3) := by decide +kernel
theorem dX0_valuesInHour_26 : decode cX0_valuesInHour 26 = .ok (.imul, 1) := by decide +kernel
theorem dX0_valuesInHour_27 : decode cX0_valuesInHour 27 = .ok (.if_icmp .ge 64, 3) := by decide +kernel
theorem dX0_valuesInHour_30 : decode cX0_valuesInHour 30 = .ok (.iload 5, 2) := by decide +kernel
theorem dX0_valuesInHour_32 : decode cX0_valuesInHour 32 = .ok (.bipush 6, 2) := by decide +kernel
theorem dX0_valuesInHour_34 : decode cX0_valuesInHour 34 = .ok (.iadd, 1) := by decide +kernel
theorem dX0_valuesInHour_35 : decode cX0_valuesInHour 35 = .ok (.aload_n 0, 1) := by decide +kernel
theorem dX0_valuesInHour_36 : decode cX0_valuesInHour 36 = .ok (.getfield 11, 3) := by decide +kernel
theorem dX0_valuesInHour_39 : decode cX0_valuesInHour 39 = .ok (.arraylength, 1) := by decide +kernel
theorem dX0_valuesInHour_40 : decode cX0_valuesInHour 40 = .ok (.if_icmp .gt 51, 3) := by decide +kernel
theorem dX0_valuesInHour_43 : decode cX0_valuesInHour 43 = .ok (.aload_n 0, 1) := by decide +kernel
theorem dX0_valuesInHour_44 : decode cX0_valuesInHour 44 = .ok (.getfield 11, 3) := by decide +kernel
theorem dX0_valuesInHour_47 : decode cX0_valuesInHour 47 = .ok (.iload 5, 2) := by decide +kernel
theorem dX0_valuesInHour_49 : decode cX0_valuesInHour 49 = .ok (.iconst 0, 1) := by decide +kernel
theorem dX0_valuesInHour_50 : decode cX0_valuesInHour 50 = .ok (.iadd, 1) := by decide +kernel
theorem dX0_valuesInHour_51 : decode cX0_valuesInHour 51 = .ok (.iaload, 1) := by decide +kernel
theorem dX0_valuesInHour_52 : decode cX0_valuesInHour 52 = .ok (.iload_n 2, 1) := by decide +kernel
theorem dX0_valuesInHour_53 : decode cX0_valuesInHour 53 = .ok (.if_icmp .ne 32, 3) := by decide +kernel
theorem dX0_valuesInHour_56 : decode cX0_valuesInHour 56 = .ok (.aload_n 0, 1) := by decide +kernel
theorem dX0_valuesInHour_57 : decode cX0_valuesInHour 57 = .ok (.getfield 11, 3) := by decide +kernel
theorem dX0_valuesInHour_60 : decode cX0_valuesInHour 60 = .ok (.iload 5, 2) := by decide +kernel
theorem dX0_valuesInHour_62 : decode cX0_valuesInHour 62 = .ok (.iconst 1, 1) := by decide +kernel
theorem dX0_valuesInHour_63 : decode cX0_valuesInHour 63 = .ok (.iadd, 1) := by decide +kernel
theorem dX0_valuesInHour_64 : decode cX0_valuesInHour 64 = .ok (.iaload, 1) := by decide +kernel
theorem dX0_valuesInHour_65 : decode cX0_valuesInHour 65 = .ok (.iload_n 3, 1) := by decide +kernel
theorem dX0_valuesInHour_66 : decode cX0_valuesInHour 66 = .ok (.if_icmp .ne 19, 3) := by decide +kernel
theorem dX0_valuesInHour_69 : decode cX0_valuesInHour 69 = .ok (.iload 4, 2) := by decide +kernel
theorem dX0_valuesInHour_71 : decode cX0_valuesInHour 71 = .ok (.iconst 1, 1) := by decide +kernel
theorem dX0_valuesInHour_72 : decode cX0_valuesInHour 72 = .ok (.aload_n 0, 1) := by decide +kernel
theorem dX0_valuesInHour_73 : decode cX0_valuesInHour 73 = .ok (.getfield 11, 3) := by decide +kernel
theorem dX0_valuesInHour_76 : decode cX0_valuesInHour 76 = .ok (.iload 5, 2) := by decide +kernel
theorem dX0_valuesInHour_78 : decode cX0_valuesInHour 78 = .ok (.iload_n 1, 1) := by decide +kernel
theorem dX0_valuesInHour_79 : decode cX0_valuesInHour 79 = .ok (.iadd, 1) := by decide +kernel
theorem dX0_valuesInHour_80 : decode cX0_valuesInHour 80 = .ok (.iaload, 1) := by decide +kernel
theorem dX0_valuesInHour_81 : decode cX0_valuesInHour 81 = .ok (.ishl, 1) := by decide +kernel
theorem dX0_valuesInHour_82 : decode cX0_valuesInHour 82 = .ok (.ior, 1) := by decide +kernel
theorem dX0_valuesInHour_83 : decode cX0_valuesInHour 83 = .ok (.istore 4, 2) := by decide +kernel
theorem dX0_valuesInHour_85 : decode cX0_valuesInHour 85 = .ok (.iinc 5 6, 3) := by decide +kernel
theorem dX0_valuesInHour_88 : decode cX0_valuesInHour 88 = .ok (.goto (-70), 3) := by decide +kernel
theorem dX0_valuesInHour_91 : decode cX0_valuesInHour 91 = .ok (.iload 4, 2) := by decide +kernel
theorem dX0_valuesInHour_93 : decode cX0_valuesInHour 93 = .ok (.ireturn, 1) := by decide +kernel
set_option maxRecDepth 20000 in
theorem ggX1_init_X2_init : GoodIn wsX1_init wsX2_init := goodIn_r _ [9, 10, 2, 3, 11, 12, 13, 14, 15, 16, 17, 18, 19, 20, 21, 22, 23, 24, 25, 26, 27, 28, 29, 30, 31, 32, 33, 34, 35, 36, 37, 38, 39, 40, 41, 42, 43, 44, 48, 49, 50, 51, 52, 53, 54, 55, 56, 57, 58, 59, 60, 61, 62, 63, 64, 65, 66] (by decide +kernel) (by decide +kernel)
set_option maxRecDepth 20000 in
theorem gX1_init_X2_init_n15 : GoodIn wsX1_init (wsX2_init) := ggX1_init_X2_init
theorem dX1_init_0 : decode cX1_init 0 = .ok (.aload_n 0, 1) := by decide +kernel
theorem dX1_init_1 : decode cX1_init 1 = .ok (.invokespecial 3, 3) := by decide +kernel
theorem dX1_init_4 : decode cX1_init 4 = .ok (.aload_n 0, 1) := by decide +kernel
theorem dX1_init_5 : decode cX1_init 5 = .ok (.bipush 15, 2) := by decide +kernel
theorem dX1_init_7 : decode cX1_init 7 = .ok (.anewarray 9, 3) := by decide +kernel
theorem dX1_init_10 : decode cX1_init 10 = .ok (.putfield 11, 3) := by decide +kernel
theorem dX1_init_13 : decode cX1_init 13 = .ok (.iconst 0, 1) := by decide +kernel
theorem dX1_init_14 : decode cX1_init 14 = .ok (.istore_n 1, 1) := by decide +kernel
theorem dX1_init_15 : decode cX1_init 15 = .ok (.iload_n 1, 1) := by decide +kernel
theorem dX1_init_16 : decode cX1_init 16 = .ok (.bipush 15, 2) := by decide +kernel
theorem dX1_init_18 : decode cX1_init 18 = .ok (.if_icmp .ge 22, 3) := by decide +kernel
theorem dX1_init_21 : decode cX1_init 21 = .ok (.aload_n 0, 1) := by decide +kernel
theorem dX1_init_22 : decode cX1_init 22 = .ok (.getfield 11, 3) := by decide +kernel
theorem dX1_init_25 : decode cX1_init 25 = .ok (.iload_n 1, 1) := by decide +kernel
theorem dX1_init_26 : decode cX1_init 26 = .ok (.new 9, 3) := by decide +kernel
theorem dX1_init_29 : decode cX1_init 29 = .ok (.dup, 1) := by decide +kernel
theorem dX1_init_30 : decode cX1_init 30 = .ok (.invokespecial 15, 3) := by decide +kernel
theorem dX1_init_33 : decode cX1_init 33 = .ok (.aastore, 1) := by decide +kernel
theorem dX1_init_34 : decode cX1_init 34 = .ok (.iinc 1 1, 3) := by decide +kernel
theorem dX1_init_37 : decode cX1_init 37 = .ok (.goto (-22), 3) := by decide +kernel
theorem dX1_init_40 : decode cX1_init 40 = .ok (.return_, 1) := by decide +kernel
set_option maxRecDepth 20000 in
theorem ggX1_prepare_X1_rowAt : GoodIn wsX1_prepare wsX1_rowAt := goodIn_r _ [6, 7, 48, 49, 50] (by decide +kernel) (by decide +kernel)
set_option maxRecDepth 20000 in
theorem gX1_prepare_X1_rowAt : GoodIn wsX1_prepare (wsV RX1 20 RX1 yX1_rowAt wsX1_rowAt) := goodIn_app (goodIn_of _ (by decide +kernel)) ggX1_prepare_X1_rowAt
set_option maxRecDepth 20000 in
theorem ggX1_prepare_X2_copyFrom : GoodIn wsX1_prepare wsX2_copyFrom := goodIn_r _ [12, 13, 14, 15, 16, 17, 18, 19, 20, 21, 22, 23, 24, 25, 26, 27, 28, 29, 30, 31, 32, 33, 34, 35, 36, 37, 38, 39, 40, 41, 42, 43, 44, 45, 46, 47, 51, 52, 53, 54, 55, 56, 57, 58, 59, 60, 61, 62, 63, 64, 65, 66, 67, 68, 69] (by decide +kernel) (by decide +kernel)
set_option maxRecDepth 20000 in
theorem gX1_prepare_X2_copyFrom : GoodIn wsX1_prepare (wsV RX1 24 RX2 yX2_copyFrom wsX2_copyFrom) := goodIn_app (goodIn_of _ (by decide +kernel)) ggX1_prepare_X2_copyFrom
theorem dX1_prepare_0 : decode cX1_prepare 0 = .ok (.aload_n 0, 1) := by decide +kernel
theorem dX1_prepare_1 : decode cX1_prepare 1 = .ok (.aload_n 0, 1) := by decide +kernel
theorem dX1_prepare_2 : decode cX1_prepare 2 = .ok (.getfield 16, 3) := by decide +kernel
theorem dX1_prepare_5 : decode cX1_prepare 5 = .ok (.invokevirtual 20, 3) := by decide +kernel
theorem dX1_prepare_8 : decode cX1_prepare 8 = .ok (.astore_n 2, 1) := by decide +kernel
theorem dX1_prepare_9 : decode cX1_prepare 9 = .ok (.aload_n 2, 1) := by decide +kernel
theorem dX1_prepare_10 : decode cX1_prepare 10 = .ok (.ifnull 8, 3) := by decide +kernel
theorem dX1_prepare_13 : decode cX1_prepare 13 = .ok (.aload_n 2, 1) := by decide +kernel
theorem dX1_prepare_14 : decode cX1_prepare 14 = .ok (.aload_n 1, 1) := by decide +kernel
theorem dX1_prepare_15 : decode cX1_prepare 15 = .ok (.invokevirtual 24, 3) := by decide +kernel
theorem dX1_prepare_18 : decode cX1_prepare 18 = .ok (.return_, 1) := by decide +kernel
theorem dX1_keepPrepared_0 : decode cX1_keepPrepared 0 = .ok (.aload_n 0, 1) := by decide +kernel
theorem dX1_keepPrepared_1 : decode cX1_keepPrepared 1 = .ok (.aload_n 0, 1) := by decide +kernel
theorem dX1_keepPrepared_2 : decode cX1_keepPrepared 2 = .ok (.getfield 16, 3) := by decide +kernel
theorem dX1_keepPrepared_5 : decode cX1_keepPrepared 5 = .ok (.iconst 1, 1) := by decide +kernel
theorem dX1_keepPrepared_6 : decode cX1_keepPrepared 6 = .ok (.iadd, 1) := by decide +kernel
theorem dX1_keepPrepared_7 : decode cX1_keepPrepared 7 = .ok (.bipush 15, 2) := by decide +kernel
theorem dX1_keepPrepared_9 : decode cX1_keepPrepared 9 = .ok (.irem, 1) := by decide +kernel
theorem dX1_keepPrepared_10 : decode cX1_keepPrepared 10 = .ok (.putfield 16, 3) := by decide +kernel
theorem dX1_keepPrepared_13 : decode cX1_keepPrepared 13 = .ok (.aload_n 0, 1) := by decide +kernel
theorem dX1_keepPrepared_14 : decode cX1_keepPrepared 14 = .ok (.aload_n 0, 1) := by decide +kernel
theorem dX1_keepPrepared_15 : decode cX1_keepPrepared 15 = .ok (.getfield 28, 3) := by decide +kernel
theorem dX1_keepPrepared_18 : decode cX1_keepPrepared 18 = .ok (.iconst 1, 1) := by decide +kernel
theorem dX1_keepPrepared_19 : decode cX1_keepPrepared 19 = .ok (.iadd, 1) := by decide +kernel
theorem dX1_keepPrepared_20 : decode cX1_keepPrepared 20 = .ok (.bipush 14, 2) := by decide +kernel
theorem dX1_keepPrepared_22 : decode cX1_keepPrepared 22 = .ok (.invokestatic 31, 3) := by decide +kernel
theorem dX1_keepPrepared_25 : decode cX1_keepPrepared 25 = .ok (.putfield 28, 3) := by decide +kernel
theorem dX1_keepPrepared_28 : decode cX1_keepPrepared 28 = .ok (.return_, 1) := by decide +kernel
set_option maxRecDepth 20000 in
theorem ggX1_takeBack_X1_rowAt : GoodIn wsX1_takeBack wsX1_rowAt := goodIn_r _ [7, 8, 49, 50, 51] (by decide +kernel) (by decide +kernel)
set_option maxRecDepth 20000 in
theorem gX1_takeBack_X1_rowAt : GoodIn wsX1_takeBack (wsV RX1 20 RX1 yX1_rowAt wsX1_rowAt) := goodIn_app (goodIn_of _ (by decide +kernel)) ggX1_takeBack_X1_rowAt
set_option maxRecDepth 20000 in
theorem ggX1_takeBack_X2_copyFrom : GoodIn wsX1_takeBack wsX2_copyFrom := goodIn_r _ [13, 14, 15, 16, 17, 18, 19, 20, 21, 22, 23, 24, 25, 26, 27, 28, 29, 30, 31, 32, 33, 34, 35, 36, 37, 38, 39, 40, 41, 42, 43, 44, 45, 46, 47, 48, 52, 53, 54, 55, 56, 57, 58, 59, 60, 61, 62, 63, 64, 65, 66, 67, 68, 69, 70] (by decide +kernel) (by decide +kernel)
set_option maxRecDepth 20000 in
theorem gX1_takeBack_X2_copyFrom : GoodIn wsX1_takeBack (wsV RX1 24 RX2 yX2_copyFrom wsX2_copyFrom) := goodIn_app (goodIn_of _ (by decide +kernel)) ggX1_takeBack_X2_copyFrom
theorem dX1_takeBack_0 : decode cX1_takeBack 0 = .ok (.aload_n 0, 1) := by decide +kernel
theorem dX1_takeBack_1 : decode cX1_takeBack 1 = .ok (.getfield 16, 3) := by decide +kernel
theorem dX1_takeBack_4 : decode cX1_takeBack 4 = .ok (.bipush 14, 2) := by decide +kernel
theorem dX1_takeBack_6 : decode cX1_takeBack 6 = .ok (.iadd, 1) := by decide +kernel
theorem dX1_takeBack_7 : decode cX1_takeBack 7 = .ok (.bipush 15, 2) := by decide +kernel
theorem dX1_takeBack_9 : decode cX1_takeBack 9 = .ok (.irem, 1) := by decide +kernel
theorem dX1_takeBack_10 : decode cX1_takeBack 10 = .ok (.istore_n 2, 1) := by decide +kernel
theorem dX1_takeBack_11 : decode cX1_takeBack 11 = .ok (.aload_n 0, 1) := by decide +kernel
theorem dX1_takeBack_12 : decode cX1_takeBack 12 = .ok (.iload_n 2, 1) := by decide +kernel
theorem dX1_takeBack_13 : decode cX1_takeBack 13 = .ok (.invokevirtual 20, 3) := by decide +kernel
theorem dX1_takeBack_16 : decode cX1_takeBack 16 = .ok (.astore_n 3, 1) := by decide +kernel
theorem dX1_takeBack_17 : decode cX1_takeBack 17 = .ok (.aload_n 3, 1) := by decide +kernel
theorem dX1_takeBack_18 : decode cX1_takeBack 18 = .ok (.ifnull 30, 3) := by decide +kernel
theorem dX1_takeBack_21 : decode cX1_takeBack 21 = .ok (.aload_n 0, 1) := by decide +kernel
theorem dX1_takeBack_22 : decode cX1_takeBack 22 = .ok (.getfield 28, 3) := by decide +kernel
theorem dX1_takeBack_25 : decode cX1_takeBack 25 = .ok (.ifCond .le 23, 3) := by decide +kernel
theorem dX1_takeBack_28 : decode cX1_takeBack 28 = .ok (.aload_n 1, 1) := by decide +kernel
theorem dX1_takeBack_29 : decode cX1_takeBack 29 = .ok (.aload_n 3, 1) := by decide +kernel
theorem dX1_takeBack_30 : decode cX1_takeBack 30 = .ok (.invokevirtual 24, 3) := by decide +kernel
theorem dX1_takeBack_33 : decode cX1_takeBack 33 = .ok (.aload_n 0, 1) := by decide +kernel
theorem dX1_takeBack_34 : decode cX1_takeBack 34 = .ok (.iload_n 2, 1) := by decide +kernel
theorem dX1_takeBack_35 : decode cX1_takeBack 35 = .ok (.putfield 16, 3) := by decide +kernel
theorem dX1_takeBack_38 : decode cX1_takeBack 38 = .ok (.aload_n 0, 1) := by decide +kernel
theorem dX1_takeBack_39 : decode cX1_takeBack 39 = .ok (.dup, 1) := by decide +kernel
theorem dX1_takeBack_40 : decode cX1_takeBack 40 = .ok (.getfield 28, 3) := by decide +kernel
theorem dX1_takeBack_43 : decode cX1_takeBack 43 = .ok (.iconst 1, 1) := by decide +kernel
theorem dX1_takeBack_44 : decode cX1_takeBack 44 = .ok (.isub, 1) := by decide +kernel
theorem dX1_takeBack_45 : decode cX1_takeBack 45 = .ok (.putfield 28, 3) := by decide +kernel
theorem dX1_takeBack_48 : decode cX1_takeBack 48 = .ok (.return_, 1) := by decide +kernel
theorem dX1_forget_0 : decode cX1_forget 0 = .ok (.aload_n 0, 1) := by decide +kernel
theorem dX1_forget_1 : decode cX1_forget 1 = .ok (.iconst 0, 1) := by decide +kernel
theorem dX1_forget_2 : decode cX1_forget 2 = .ok (.putfield 28, 3) := by decide +kernel
theorem dX1_forget_5 : decode cX1_forget 5 = .ok (.return_, 1) := by decide +kernel
theorem dX1_rowAt_0 : decode cX1_rowAt 0 = .ok (.iload_n 1, 1) := by decide +kernel
theorem dX1_rowAt_1 : decode cX1_rowAt 1 = .ok (.ifCond .lt 18, 3) := by decide +kernel
theorem dX1_rowAt_4 : decode cX1_rowAt 4 = .ok (.iload_n 1, 1) := by decide +kernel
theorem dX1_rowAt_5 : decode cX1_rowAt 5 = .ok (.bipush 15, 2) := by decide +kernel
theorem dX1_rowAt_7 : decode cX1_rowAt 7 = .ok (.if_icmp .ge 12, 3) := by decide +kernel
theorem dX1_rowAt_10 : decode cX1_rowAt 10 = .ok (.aload_n 0, 1) := by decide +kernel
theorem dX1_rowAt_11 : decode cX1_rowAt 11 = .ok (.getfield 11, 3) := by decide +kernel
theorem dX1_rowAt_14 : decode cX1_rowAt 14 = .ok (.iload_n 1, 1) := by decide +kernel
theorem dX1_rowAt_15 : decode cX1_rowAt 15 = .ok (.aaload, 1) := by decide +kernel
theorem dX1_rowAt_16 : decode cX1_rowAt 16 = .ok (.goto 4, 3) := by decide +kernel
theorem dX1_rowAt_19 : decode cX1_rowAt 19 = .ok (.aconst_null, 1) := by decide +kernel
theorem dX1_rowAt_20 : decode cX1_rowAt 20 = .ok (.areturn, 1) := by decide +kernel
set_option maxRecDepth 20000 in
theorem ggX2_init_X0_init : GoodIn wsX2_init wsX0_init := goodIn_r _ [31, 32, 2, 3, 4, 33, 53, 54] (by decide +kernel) (by decide +kernel)
set_option maxRecDepth 20000 in
theorem gX2_init_X0_init_n38 : GoodIn wsX2_init (wsX0_init) := ggX2_init_X0_init
set_option maxRecDepth 20000 in
theorem ggX2_init_X6_init : GoodIn wsX2_init wsX6_init := goodIn_r _ [35, 36, 2, 3, 4, 37, 55, 56] (by decide +kernel) (by decide +kernel)
set_option maxRecDepth 20000 in
theorem gX2_init_X6_init_n45 : GoodIn wsX2_init (wsX6_init) := ggX2_init_X6_init
theorem dX2_init_0 : decode cX2_init 0 = .ok (.aload_n 0, 1) := by decide +kernel
theorem dX2_init_1 : decode cX2_init 1 = .ok (.invokespecial 3, 3) := by decide +kernel
theorem dX2_init_4 : decode cX2_init 4 = .ok (.aload_n 0, 1) := by decide +kernel
theorem dX2_init_5 : decode cX2_init 5 = .ok (.bipush 8, 2) := by decide +kernel
theorem dX2_init_7 : decode cX2_init 7 = .ok (.newarray .int, 2) := by decide +kernel
theorem dX2_init_9 : decode cX2_init 9 = .ok (.putfield 11, 3) := by decide +kernel
theorem dX2_init_12 : decode cX2_init 12 = .ok (.aload_n 0, 1) := by decide +kernel
theorem dX2_init_13 : decode cX2_init 13 = .ok (.bipush 8, 2) := by decide +kernel
theorem dX2_init_15 : decode cX2_init 15 = .ok (.newarray .int, 2) := by decide +kernel
theorem dX2_init_17 : decode cX2_init 17 = .ok (.putfield 15, 3) := by decide +kernel
theorem dX2_init_20 : decode cX2_init 20 = .ok (.aload_n 0, 1) := by decide +kernel
theorem dX2_init_21 : decode cX2_init 21 = .ok (.bipush 8, 2) := by decide +kernel
theorem dX2_init_23 : decode cX2_init 23 = .ok (.newarray .int, 2) := by decide +kernel
theorem dX2_init_25 : decode cX2_init 25 = .ok (.putfield 18, 3) := by decide +kernel
theorem dX2_init_28 : decode cX2_init 28 = .ok (.aload_n 0, 1) := by decide +kernel
theorem dX2_init_29 : decode cX2_init 29 = .ok (.bipush 8, 2) := by decide +kernel
theorem dX2_init_31 : decode cX2_init 31 = .ok (.newarray .int, 2) := by decide +kernel
theorem dX2_init_33 : decode cX2_init 33 = .ok (.putfield 21, 3) := by decide +kernel
theorem dX2_init_36 : decode cX2_init 36 = .ok (.aload_n 0, 1) := by decide +kernel
theorem dX2_init_37 : decode cX2_init 37 = .ok (.bipush 8, 2) := by decide +kernel
theorem dX2_init_39 : decode cX2_init 39 = .ok (.newarray .int, 2) := by decide +kernel
theorem dX2_init_41 : decode cX2_init 41 = .ok (.putfield 24, 3) := by decide +kernel
theorem dX2_init_44 : decode cX2_init 44 = .ok (.aload_n 0, 1) := by decide +kernel
theorem dX2_init_45 : decode cX2_init 45 = .ok (.bipush 8, 2) := by decide +kernel
theorem dX2_init_47 : decode cX2_init 47 = .ok (.newarray .int, 2) := by decide +kernel
theorem dX2_init_49 : decode cX2_init 49 = .ok (.putfield 27, 3) := by decide +kernel
theorem dX2_init_52 : decode cX2_init 52 = .ok (.aload_n 0, 1) := by decide +kernel
theorem dX2_init_53 : decode cX2_init 53 = .ok (.bipush 10, 2) := by decide +kernel
theorem dX2_init_55 : decode cX2_init 55 = .ok (.newarray .int, 2) := by decide +kernel
theorem dX2_init_57 : decode cX2_init 57 = .ok (.putfield 30, 3) := by decide +kernel
theorem dX2_init_60 : decode cX2_init 60 = .ok (.aload_n 0, 1) := by decide +kernel
theorem dX2_init_61 : decode cX2_init 61 = .ok (.bipush 10, 2) := by decide +kernel
theorem dX2_init_63 : decode cX2_init 63 = .ok (.newarray .int, 2) := by decide +kernel
theorem dX2_init_65 : decode cX2_init 65 = .ok (.putfield 33, 3) := by decide +kernel
theorem dX2_init_68 : decode cX2_init 68 = .ok (.aload_n 0, 1) := by decide +kernel
theorem dX2_init_69 : decode cX2_init 69 = .ok (.new 36, 3) := by decide +kernel
theorem dX2_init_72 : decode cX2_init 72 = .ok (.dup, 1) := by decide +kernel
theorem dX2_init_73 : decode cX2_init 73 = .ok (.invokespecial 38, 3) := by decide +kernel
theorem dX2_init_76 : decode cX2_init 76 = .ok (.putfield 39, 3) := by decide +kernel
theorem dX2_init_79 : decode cX2_init 79 = .ok (.aload_n 0, 1) := by decide +kernel
theorem dX2_init_80 : decode cX2_init 80 = .ok (.new 43, 3) := by decide +kernel
theorem dX2_init_83 : decode cX2_init 83 = .ok (.dup, 1) := by decide +kernel
theorem dX2_init_84 : decode cX2_init 84 = .ok (.invokespecial 45, 3) := by decide +kernel
theorem dX2_init_87 : decode cX2_init 87 = .ok (.putfield 46, 3) := by decide +kernel
theorem dX2_init_90 : decode cX2_init 90 = .ok (.aload_n 0, 1) := by decide +kernel
theorem dX2_init_91 : decode cX2_init 91 = .ok (.iconst 5, 1) := by decide +kernel
theorem dX2_init_92 : decode cX2_init 92 = .ok (.newarray .int, 2) := by decide +kernel
theorem dX2_init_94 : decode cX2_init 94 = .ok (.putfield 50, 3) := by decide +kernel
theorem dX2_init_97 : decode cX2_init 97 = .ok (.aload_n 0, 1) := by decide +kernel
theorem dX2_init_98 : decode cX2_init 98 = .ok (.getstatic 53, 3) := by decide +kernel
theorem dX2_init_101 : decode cX2_init 101 = .ok (.invokevirtual 56, 3) := by decide +kernel
theorem dX2_init_104 : decode cX2_init 104 = .ok (.checkcast 57, 3) := by decide +kernel
theorem dX2_init_107 : decode cX2_init 107 = .ok (.putfield 61, 3) := by decide +kernel
theorem dX2_init_110 : decode cX2_init 110 = .ok (.return_, 1) := by decide +kernel
set_option maxRecDepth 20000 in
theorem ggX2_copyFrom_X0_copyFrom : GoodIn wsX2_copyFrom wsX0_copyFrom := goodIn_r _ [24, 25, 26, 27, 5, 6, 7, 51, 52] (by decide +kernel) (by decide +kernel)
set_option maxRecDepth 20000 in
theorem gX2_copyFrom_X0_copyFrom : GoodIn wsX2_copyFrom (wsV RX2 80 RX0 yX0_copyFrom wsX0_copyFrom) := goodIn_app (goodIn_of _ (by decide +kernel)) ggX2_copyFrom_X0_copyFrom
set_option maxRecDepth 20000 in
theorem ggX2_copyFrom_X6_copyFrom : GoodIn wsX2_copyFrom wsX6_copyFrom := goodIn_r _ [32, 33, 34, 35, 5, 6, 7, 53, 54] (by decide +kernel) (by decide +kernel)
set_option maxRecDepth 20000 in
theorem gX2_copyFrom_X6_copyFrom : GoodIn wsX2_copyFrom (wsV RX2 84 RX6 yX6_copyFrom wsX6_copyFrom) := goodIn_app (goodIn_of _ (by decide +kernel)) ggX2_copyFrom_X6_copyFrom
theorem dX2_copyFrom_0 : decode cX2_copyFrom 0 = .ok (.aload_n 0, 1) := by decide +kernel
theorem dX2_copyFrom_1 : decode cX2_copyFrom 1 = .ok (.aload_n 1, 1) := by decide +kernel
theorem dX2_copyFrom_2 : decode cX2_copyFrom 2 = .ok (.getfield 64, 3) := by decide +kernel
theorem dX2_copyFrom_5 : decode cX2_copyFrom 5 = .ok (.putfield 64, 3) := by decide +kernel
theorem dX2_copyFrom_8 : decode cX2_copyFrom 8 = .ok (.aload_n 0, 1) := by decide +kernel
theorem dX2_copyFrom_9 : decode cX2_copyFrom 9 = .ok (.aload_n 1, 1) := by decide +kernel
theorem dX2_copyFrom_10 : decode cX2_copyFrom 10 = .ok (.getfield 68, 3) := by decide +kernel
theorem dX2_copyFrom_13 : decode cX2_copyFrom 13 = .ok (.putfield 68, 3) := by decide +kernel
theorem dX2_copyFrom_16 : decode cX2_copyFrom 16 = .ok (.aload_n 1, 1) := by decide +kernel
theorem dX2_copyFrom_17 : decode cX2_copyFrom 17 = .ok (.getfield 11, 3) := by decide +kernel
theorem dX2_copyFrom_20 : decode cX2_copyFrom 20 = .ok (.iconst 0, 1) := by decide +kernel
theorem dX2_copyFrom_21 : decode cX2_copyFrom 21 = .ok (.aload_n 0, 1) := by decide +kernel
theorem dX2_copyFrom_22 : decode cX2_copyFrom 22 = .ok (.getfield 11, 3) := by decide +kernel
theorem dX2_copyFrom_25 : decode cX2_copyFrom 25 = .ok (.iconst 0, 1) := by decide +kernel
theorem dX2_copyFrom_26 : decode cX2_copyFrom 26 = .ok (.bipush 8, 2) := by decide +kernel
theorem dX2_copyFrom_28 : decode cX2_copyFrom 28 = .ok (.invokestatic 71, 3) := by decide +kernel
theorem dX2_copyFrom_31 : decode cX2_copyFrom 31 = .ok (.aload_n 1, 1) := by decide +kernel
theorem dX2_copyFrom_32 : decode cX2_copyFrom 32 = .ok (.getfield 15, 3) := by decide +kernel
theorem dX2_copyFrom_35 : decode cX2_copyFrom 35 = .ok (.iconst 0, 1) := by decide +kernel
theorem dX2_copyFrom_36 : decode cX2_copyFrom 36 = .ok (.aload_n 0, 1) := by decide +kernel
theorem dX2_copyFrom_37 : decode cX2_copyFrom 37 = .ok (.getfield 15, 3) := by decide +kernel
theorem dX2_copyFrom_40 : decode cX2_copyFrom 40 = .ok (.iconst 0, 1) := by decide +kernel
theorem dX2_copyFrom_41 : decode cX2_copyFrom 41 = .ok (.bipush 8, 2) := by decide +kernel
theorem dX2_copyFrom_43 : decode cX2_copyFrom 43 = .ok (.invokestatic 71, 3) := by decide +kernel
theorem dX2_copyFrom_46 : decode cX2_copyFrom 46 = .ok (.aload_n 1, 1) := by decide +kernel
theorem dX2_copyFrom_47 : decode cX2_copyFrom 47 = .ok (.getfield 18, 3) := by decide +kernel
theorem dX2_copyFrom_50 : decode cX2_copyFrom 50 = .ok (.iconst 0, 1) := by decide +kernel
theorem dX2_copyFrom_51 : decode cX2_copyFrom 51 = .ok (.aload_n 0, 1) := by decide +kernel
theorem dX2_copyFrom_52 : decode cX2_copyFrom 52 = .ok (.getfield 18, 3) := by decide +kernel
theorem dX2_copyFrom_55 : decode cX2_copyFrom 55 = .ok (.iconst 0, 1) := by decide +kernel
theorem dX2_copyFrom_56 : decode cX2_copyFrom 56 = .ok (.bipush 8, 2) := by decide +kernel
theorem dX2_copyFrom_58 : decode cX2_copyFrom 58 = .ok (.invokestatic 71, 3) := by decide +kernel
theorem dX2_copyFrom_61 : decode cX2_copyFrom 61 = .ok (.aload_n 1, 1) := by decide +kernel
theorem dX2_copyFrom_62 : decode cX2_copyFrom 62 = .ok (.getfield 21, 3) := by decide +kernel
theorem dX2_copyFrom_65 : decode cX2_copyFrom 65 = .ok (.iconst 0, 1) := by decide +kernel
theorem dX2_copyFrom_66 : decode cX2_copyFrom 66 = .ok (.aload_n 0, 1) := by decide +kernel
theorem dX2_copyFrom_67 : decode cX2_copyFrom 67 = .ok (.getfield 21, 3) := by decide +kernel
theorem dX2_copyFrom_70 : decode cX2_copyFrom 70 = .ok (.iconst 0, 1) := by decide +kernel
theorem dX2_copyFrom_71 : decode cX2_copyFrom 71 = .ok (.bipush 8, 2) := by decide +kernel
theorem dX2_copyFrom_73 : decode cX2_copyFrom 73 = .ok (.invokestatic 71, 3) := by decide +kernel
theorem dX2_copyFrom_76 : decode cX2_copyFrom 76 = .ok (.aload_n 1, 1) := by decide +kernel
theorem dX2_copyFrom_77 : decode cX2_copyFrom 77 = .ok (.getfield 24, 3) := by decide +kernel
theorem dX2_copyFrom_80 : decode cX2_copyFrom 80 = .ok (.iconst 0, 1) := by decide +kernel
theorem dX2_copyFrom_81 : decode cX2_copyFrom 81 = .ok (.aload_n 0, 1) := by decide +kernel
theorem dX2_copyFrom_82 : decode cX2_copyFrom 82 = .ok (.getfield 24, 3) := by decide +kernel
theorem dX2_copyFrom_85 : decode cX2_copyFrom 85 = .ok (.iconst 0, 1) := by decide +kernel
theorem dX2_copyFrom_86 : decode cX2_copyFrom 86 = .ok (.bipush 8, 2) := by decide +kernel
theorem dX2_copyFrom_88 : decode cX2_copyFrom 88 = .ok (.invokestatic 71, 3) := by decide +kernel
theorem dX2_copyFrom_91 : decode cX2_copyFrom 91 = .ok (.aload_n 1, 1) := by decide +kernel
theorem dX2_copyFrom_92 : decode cX2_copyFrom 92 = .ok (.getfield 27, 3) := by decide +kernel
theorem dX2_copyFrom_95 : decode cX2_copyFrom 95 = .ok (.iconst 0, 1) := by decide +kernel
theorem dX2_copyFrom_96 : decode cX2_copyFrom 96 = .ok (.aload_n 0, 1) := by decide +kernel
theorem dX2_copyFrom_97 : decode cX2_copyFrom 97 = .ok (.getfield 27, 3) := by decide +kernel
theorem dX2_copyFrom_100 : decode cX2_copyFrom 100 = .ok (.iconst 0, 1) := by decide +kernel
theorem dX2_copyFrom_101 : decode cX2_copyFrom 101 = .ok (.bipush 8, 2) := by decide +kernel
theorem dX2_copyFrom_103 : decode cX2_copyFrom 103 = .ok (.invokestatic 71, 3) := by decide +kernel
theorem dX2_copyFrom_106 : decode cX2_copyFrom 106 = .ok (.aload_n 1, 1) := by decide +kernel
theorem dX2_copyFrom_107 : decode cX2_copyFrom 107 = .ok (.getfield 30, 3) := by decide +kernel
theorem dX2_copyFrom_110 : decode cX2_copyFrom 110 = .ok (.iconst 0, 1) := by decide +kernel
theorem dX2_copyFrom_111 : decode cX2_copyFrom 111 = .ok (.aload_n 0, 1) := by decide +kernel
theorem dX2_copyFrom_112 : decode cX2_copyFrom 112 = .ok (.getfield 30, 3) := by decide +kernel
theorem dX2_copyFrom_115 : decode cX2_copyFrom 115 = .ok (.iconst 0, 1) := by decide +kernel
theorem dX2_copyFrom_116 : decode cX2_copyFrom 116 = .ok (.bipush 10, 2) := by decide +kernel
theorem dX2_copyFrom_118 : decode cX2_copyFrom 118 = .ok (.invokestatic 71, 3) := by decide +kernel
theorem dX2_copyFrom_121 : decode cX2_copyFrom 121 = .ok (.aload_n 1, 1) := by decide +kernel
theorem dX2_copyFrom_122 : decode cX2_copyFrom 122 = .ok (.getfield 33, 3) := by decide +kernel
theorem dX2_copyFrom_125 : decode cX2_copyFrom 125 = .ok (.iconst 0, 1) := by decide +kernel
theorem dX2_copyFrom_126 : decode cX2_copyFrom 126 = .ok (.aload_n 0, 1) := by decide +kernel
theorem dX2_copyFrom_127 : decode cX2_copyFrom 127 = .ok (.getfield 33, 3) := by decide +kernel
theorem dX2_copyFrom_130 : decode cX2_copyFrom 130 = .ok (.iconst 0, 1) := by decide +kernel
theorem dX2_copyFrom_131 : decode cX2_copyFrom 131 = .ok (.bipush 10, 2) := by decide +kernel
theorem dX2_copyFrom_133 : decode cX2_copyFrom 133 = .ok (.invokestatic 71, 3) := by decide +kernel
theorem dX2_copyFrom_136 : decode cX2_copyFrom 136 = .ok (.aload_n 0, 1) := by decide +kernel
theorem dX2_copyFrom_137 : decode cX2_copyFrom 137 = .ok (.aload_n 1, 1) := by decide +kernel
theorem dX2_copyFrom_138 : decode cX2_copyFrom 138 = .ok (.getfield 77, 3) := by decide +kernel
theorem dX2_copyFrom_141 : decode cX2_copyFrom 141 = .ok (.putfield 77, 3) := by decide +kernel
theorem dX2_copyFrom_144 : decode cX2_copyFrom 144 = .ok (.aload_n 0, 1) := by decide +kernel
theorem dX2_copyFrom_145 : decode cX2_copyFrom 145 = .ok (.getfield 39, 3) := by decide +kernel
theorem dX2_copyFrom_148 : decode cX2_copyFrom 148 = .ok (.aload_n 1, 1) := by decide +kernel
theorem dX2_copyFrom_149 : decode cX2_copyFrom 149 = .ok (.getfield 39, 3) := by decide +kernel
theorem dX2_copyFrom_152 : decode cX2_copyFrom 152 = .ok (.invokevirtual 80, 3) := by decide +kernel
theorem dX2_copyFrom_155 : decode cX2_copyFrom 155 = .ok (.aload_n 0, 1) := by decide +kernel
theorem dX2_copyFrom_156 : decode cX2_copyFrom 156 = .ok (.getfield 46, 3) := by decide +kernel
theorem dX2_copyFrom_159 : decode cX2_copyFrom 159 = .ok (.aload_n 1, 1) := by decide +kernel
theorem dX2_copyFrom_160 : decode cX2_copyFrom 160 = .ok (.getfield 46, 3) := by decide +kernel
theorem dX2_copyFrom_163 : decode cX2_copyFrom 163 = .ok (.invokevirtual 84, 3) := by decide +kernel
theorem dX2_copyFrom_166 : decode cX2_copyFrom 166 = .ok (.aload_n 1, 1) := by decide +kernel
theorem dX2_copyFrom_167 : decode cX2_copyFrom 167 = .ok (.getfield 50, 3) := by decide +kernel
theorem dX2_copyFrom_170 : decode cX2_copyFrom 170 = .ok (.iconst 0, 1) := by decide +kernel
theorem dX2_copyFrom_171 : decode cX2_copyFrom 171 = .ok (.aload_n 0, 1) := by decide +kernel
theorem dX2_copyFrom_172 : decode cX2_copyFrom 172 = .ok (.getfield 50, 3) := by decide +kernel
theorem dX2_copyFrom_175 : decode cX2_copyFrom 175 = .ok (.iconst 0, 1) := by decide +kernel
theorem dX2_copyFrom_176 : decode cX2_copyFrom 176 = .ok (.aload_n 0, 1) := by decide +kernel
theorem dX2_copyFrom_177 : decode cX2_copyFrom 177 = .ok (.getfield 50, 3) := by decide +kernel
theorem dX2_copyFrom_180 : decode cX2_copyFrom 180 = .ok (.arraylength, 1) := by decide +kernel
theorem dX2_copyFrom_181 : decode cX2_copyFrom 181 = .ok (.invokestatic 71, 3) := by decide +kernel
theorem dX2_copyFrom_184 : decode cX2_copyFrom 184 = .ok (.aload_n 1, 1) := by decide +kernel
theorem dX2_copyFrom_185 : decode cX2_copyFrom 185 = .ok (.getfield 61, 3) := by decide +kernel
theorem dX2_copyFrom_188 : decode cX2_copyFrom 188 = .ok (.iconst 0, 1) := by decide +kernel
theorem dX2_copyFrom_189 : decode cX2_copyFrom 189 = .ok (.aload_n 0, 1) := by decide +kernel
theorem dX2_copyFrom_190 : decode cX2_copyFrom 190 = .ok (.getfield 61, 3) := by decide +kernel
theorem dX2_copyFrom_193 : decode cX2_copyFrom 193 = .ok (.iconst 0, 1) := by decide +kernel
theorem dX2_copyFrom_194 : decode cX2_copyFrom 194 = .ok (.aload_n 0, 1) := by decide +kernel
theorem dX2_copyFrom_195 : decode cX2_copyFrom 195 = .ok (.getfield 61, 3) := by decide +kernel
theorem dX2_copyFrom_198 : decode cX2_copyFrom 198 = .ok (.arraylength, 1) := by decide +kernel
theorem dX2_copyFrom_199 : decode cX2_copyFrom 199 = .ok (.invokestatic 71, 3) := by decide +kernel
theorem dX2_copyFrom_202 : decode cX2_copyFrom 202 = .ok (.return_, 1) := by decide +kernel
theorem dX2_hasPrisoner_0 : decode cX2_hasPrisoner 0 = .ok (.iload_n 1, 1) := by decide +kernel
theorem dX2_hasPrisoner_1 : decode cX2_hasPrisoner 1 = .ok (.ifCond .lt 21, 3) := by decide +kernel
theorem dX2_hasPrisoner_4 : decode cX2_hasPrisoner 4 = .ok (.iload_n 1, 1) := by decide +kernel
theorem dX2_hasPrisoner_5 : decode cX2_hasPrisoner 5 = .ok (.aload_n 0, 1) := by decide +kernel
theorem dX2_hasPrisoner_6 : decode cX2_hasPrisoner 6 = .ok (.getfield 68, 3) := by decide +kernel
theorem dX2_hasPrisoner_9 : decode cX2_hasPrisoner 9 = .ok (.if_icmp .ge 13, 3) := by decide +kernel
theorem dX2_hasPrisoner_12 : decode cX2_hasPrisoner 12 = .ok (.iload_n 1, 1) := by decide +kernel
theorem dX2_hasPrisoner_13 : decode cX2_hasPrisoner 13 = .ok (.bipush 8, 2) := by decide +kernel
theorem dX2_hasPrisoner_15 : decode cX2_hasPrisoner 15 = .ok (.if_icmp .ge 7, 3) := by decide +kernel
theorem dX2_hasPrisoner_18 : decode cX2_hasPrisoner 18 = .ok (.iconst 1, 1) := by decide +kernel
theorem dX2_hasPrisoner_19 : decode cX2_hasPrisoner 19 = .ok (.goto 4, 3) := by decide +kernel
theorem dX2_hasPrisoner_22 : decode cX2_hasPrisoner 22 = .ok (.iconst 0, 1) := by decide +kernel
theorem dX2_hasPrisoner_23 : decode cX2_hasPrisoner 23 = .ok (.ireturn, 1) := by decide +kernel
theorem dX2_hasVisitor_0 : decode cX2_hasVisitor 0 = .ok (.iload_n 0, 1) := by decide +kernel
theorem dX2_hasVisitor_1 : decode cX2_hasVisitor 1 = .ok (.ifCond .lt 13, 3) := by decide +kernel
theorem dX2_hasVisitor_4 : decode cX2_hasVisitor 4 = .ok (.iload_n 0, 1) := by decide +kernel
theorem dX2_hasVisitor_5 : decode cX2_hasVisitor 5 = .ok (.bipush 10, 2) := by decide +kernel
theorem dX2_hasVisitor_7 : decode cX2_hasVisitor 7 = .ok (.if_icmp .ge 7, 3) := by decide +kernel
theorem dX2_hasVisitor_10 : decode cX2_hasVisitor 10 = .ok (.iconst 1, 1) := by decide +kernel
theorem dX2_hasVisitor_11 : decode cX2_hasVisitor 11 = .ok (.goto 4, 3) := by decide +kernel
theorem dX2_hasVisitor_14 : decode cX2_hasVisitor 14 = .ok (.iconst 0, 1) := by decide +kernel
theorem dX2_hasVisitor_15 : decode cX2_hasVisitor 15 = .ok (.ireturn, 1) := by decide +kernel
set_option maxRecDepth 20000 in
theorem ggX2_hasPair_X2_hasPrisoner : GoodIn wsX2_hasPair wsX2_hasPrisoner := goodIn_r _ [5, 6, 10, 11, 12, 13, 14, 15, 16, 17, 18, 19, 20, 21, 22, 23, 24] (by decide +kernel) (by decide +kernel)
set_option maxRecDepth 20000 in
theorem gX2_hasPair_X2_hasPrisoner : GoodIn wsX2_hasPair (wsV RX2 87 RX2 yX2_hasPrisoner wsX2_hasPrisoner) := goodIn_app (goodIn_of _ (by decide +kernel)) ggX2_hasPair_X2_hasPrisoner
set_option maxRecDepth 20000 in
theorem ggX2_hasPair_X2_hasVisitor : GoodIn wsX2_hasPair wsX2_hasVisitor := goodIn_r _ [9] (by decide +kernel) (by decide +kernel)
set_option maxRecDepth 20000 in
theorem gX2_hasPair_X2_hasVisitor : GoodIn wsX2_hasPair (va_wsS RX2 91 yX2_hasVisitor wsX2_hasVisitor) := goodIn_app (goodIn_of _ (by decide +kernel)) ggX2_hasPair_X2_hasVisitor
theorem dX2_hasPair_0 : decode cX2_hasPair 0 = .ok (.aload_n 0, 1) := by decide +kernel
theorem dX2_hasPair_1 : decode cX2_hasPair 1 = .ok (.iload_n 1, 1) := by decide +kernel
theorem dX2_hasPair_2 : decode cX2_hasPair 2 = .ok (.invokevirtual 87, 3) := by decide +kernel
theorem dX2_hasPair_5 : decode cX2_hasPair 5 = .ok (.ifCond .eq 14, 3) := by decide +kernel
theorem dX2_hasPair_8 : decode cX2_hasPair 8 = .ok (.iload_n 2, 1) := by decide +kernel
theorem dX2_hasPair_9 : decode cX2_hasPair 9 = .ok (.invokestatic 91, 3) := by decide +kernel
theorem dX2_hasPair_12 : decode cX2_hasPair 12 = .ok (.ifCond .eq 7, 3) := by decide +kernel
theorem dX2_hasPair_15 : decode cX2_hasPair 15 = .ok (.iconst 1, 1) := by decide +kernel
theorem dX2_hasPair_16 : decode cX2_hasPair 16 = .ok (.goto 4, 3) := by decide +kernel
theorem dX2_hasPair_19 : decode cX2_hasPair 19 = .ok (.iconst 0, 1) := by decide +kernel
theorem dX2_hasPair_20 : decode cX2_hasPair 20 = .ok (.ireturn, 1) := by decide +kernel
theorem dX2_hasSetting_0 : decode cX2_hasSetting 0 = .ok (.iload_n 0, 1) := by decide +kernel
theorem dX2_hasSetting_1 : decode cX2_hasSetting 1 = .ok (.ifCond .lt 15, 3) := by decide +kernel
theorem dX2_hasSetting_4 : decode cX2_hasSetting 4 = .ok (.iload_n 0, 1) := by decide +kernel
theorem dX2_hasSetting_5 : decode cX2_hasSetting 5 = .ok (.getstatic 53, 3) := by decide +kernel
theorem dX2_hasSetting_8 : decode cX2_hasSetting 8 = .ok (.arraylength, 1) := by decide +kernel
theorem dX2_hasSetting_9 : decode cX2_hasSetting 9 = .ok (.if_icmp .ge 7, 3) := by decide +kernel
theorem dX2_hasSetting_12 : decode cX2_hasSetting 12 = .ok (.iconst 1, 1) := by decide +kernel
theorem dX2_hasSetting_13 : decode cX2_hasSetting 13 = .ok (.goto 4, 3) := by decide +kernel
theorem dX2_hasSetting_16 : decode cX2_hasSetting 16 = .ok (.iconst 0, 1) := by decide +kernel
theorem dX2_hasSetting_17 : decode cX2_hasSetting 17 = .ok (.ireturn, 1) := by decide +kernel
theorem dX2_isTime_0 : decode cX2_isTime 0 = .ok (.iload_n 1, 1) := by decide +kernel
theorem dX2_isTime_1 : decode cX2_isTime 1 = .ok (.aload_n 0, 1) := by decide +kernel
theorem dX2_isTime_2 : decode cX2_isTime 2 = .ok (.getfield 64, 3) := by decide +kernel
theorem dX2_isTime_5 : decode cX2_isTime 5 = .ok (.if_icmp .lt 24, 3) := by decide +kernel
theorem dX2_isTime_8 : decode cX2_isTime 8 = .ok (.iload_n 1, 1) := by decide +kernel
theorem dX2_isTime_9 : decode cX2_isTime 9 = .ok (.sipush 9999, 3) := by decide +kernel
theorem dX2_isTime_12 : decode cX2_isTime 12 = .ok (.if_icmp .gt 17, 3) := by decide +kernel
theorem dX2_isTime_15 : decode cX2_isTime 15 = .ok (.iload_n 2, 1) := by decide +kernel
theorem dX2_isTime_16 : decode cX2_isTime 16 = .ok (.ifCond .lt 13, 3) := by decide +kernel
theorem dX2_isTime_19 : decode cX2_isTime 19 = .ok (.iload_n 2, 1) := by decide +kernel
theorem dX2_isTime_20 : decode cX2_isTime 20 = .ok (.bipush 8, 2) := by decide +kernel
theorem dX2_isTime_22 : decode cX2_isTime 22 = .ok (.if_icmp .ge 7, 3) := by decide +kernel
theorem dX2_isTime_25 : decode cX2_isTime 25 = .ok (.iconst 1, 1) := by decide +kernel
theorem dX2_isTime_26 : decode cX2_isTime 26 = .ok (.goto 4, 3) := by decide +kernel
theorem dX2_isTime_29 : decode cX2_isTime 29 = .ok (.iconst 0, 1) := by decide +kernel
theorem dX2_isTime_30 : decode cX2_isTime 30 = .ok (.ireturn, 1) := by decide +kernel
theorem dX2_weekOf_0 : decode cX2_weekOf 0 = .ok (.iload_n 0, 1) := by decide +kernel
theorem dX2_weekOf_1 : decode cX2_weekOf 1 = .ok (.bipush 7, 2) := by decide +kernel
theorem dX2_weekOf_3 : decode cX2_weekOf 3 = .ok (.idiv, 1) := by decide +kernel
theorem dX2_weekOf_4 : decode cX2_weekOf 4 = .ok (.ireturn, 1) := by decide +kernel
set_option maxRecDepth 20000 in
theorem ggX2_numberOfAll_X2_aheadOfToday : GoodIn wsX2_numberOfAll wsX2_aheadOfToday := goodIn_r _ [14, 2, 15, 16, 17, 18, 19, 20, 21, 22, 23, 24, 25, 26, 27, 28, 29] (by decide +kernel) (by decide +kernel)
set_option maxRecDepth 20000 in
theorem gX2_numberOfAll_X2_aheadOfToday : GoodIn wsX2_numberOfAll (wsV RX2 98 RX2 yX2_aheadOfToday wsX2_aheadOfToday) := goodIn_app (goodIn_of _ (by decide +kernel)) ggX2_numberOfAll_X2_aheadOfToday
theorem dX2_numberOfAll_0 : decode cX2_numberOfAll 0 = .ok (.iload_n 1, 1) := by decide +kernel
theorem dX2_numberOfAll_1 : decode cX2_numberOfAll 1 = .ok (.tableswitch 125 0 9 #[55, 60, 65, 73, 81, 88, 95, 102, 109, 116], 55) := by decide +kernel
theorem dX2_numberOfAll_56 : decode cX2_numberOfAll 56 = .ok (.aload_n 0, 1) := by decide +kernel
theorem dX2_numberOfAll_57 : decode cX2_numberOfAll 57 = .ok (.getfield 68, 3) := by decide +kernel
theorem dX2_numberOfAll_60 : decode cX2_numberOfAll 60 = .ok (.ireturn, 1) := by decide +kernel
theorem dX2_numberOfAll_61 : decode cX2_numberOfAll 61 = .ok (.aload_n 0, 1) := by decide +kernel
theorem dX2_numberOfAll_62 : decode cX2_numberOfAll 62 = .ok (.getfield 64, 3) := by decide +kernel
theorem dX2_numberOfAll_65 : decode cX2_numberOfAll 65 = .ok (.ireturn, 1) := by decide +kernel
theorem dX2_numberOfAll_66 : decode cX2_numberOfAll 66 = .ok (.aload_n 0, 1) := by decide +kernel
theorem dX2_numberOfAll_67 : decode cX2_numberOfAll 67 = .ok (.getfield 39, 3) := by decide +kernel
theorem dX2_numberOfAll_70 : decode cX2_numberOfAll 70 = .ok (.getfield 94, 3) := by decide +kernel
theorem dX2_numberOfAll_73 : decode cX2_numberOfAll 73 = .ok (.ireturn, 1) := by decide +kernel
theorem dX2_numberOfAll_74 : decode cX2_numberOfAll 74 = .ok (.aload_n 0, 1) := by decide +kernel
theorem dX2_numberOfAll_75 : decode cX2_numberOfAll 75 = .ok (.getfield 46, 3) := by decide +kernel
theorem dX2_numberOfAll_78 : decode cX2_numberOfAll 78 = .ok (.getfield 97, 3) := by decide +kernel
theorem dX2_numberOfAll_81 : decode cX2_numberOfAll 81 = .ok (.ireturn, 1) := by decide +kernel
theorem dX2_numberOfAll_82 : decode cX2_numberOfAll 82 = .ok (.aload_n 0, 1) := by decide +kernel
theorem dX2_numberOfAll_83 : decode cX2_numberOfAll 83 = .ok (.getfield 50, 3) := by decide +kernel
theorem dX2_numberOfAll_86 : decode cX2_numberOfAll 86 = .ok (.iconst 0, 1) := by decide +kernel
theorem dX2_numberOfAll_87 : decode cX2_numberOfAll 87 = .ok (.iaload, 1) := by decide +kernel
theorem dX2_numberOfAll_88 : decode cX2_numberOfAll 88 = .ok (.ireturn, 1) := by decide +kernel
theorem dX2_numberOfAll_89 : decode cX2_numberOfAll 89 = .ok (.aload_n 0, 1) := by decide +kernel
theorem dX2_numberOfAll_90 : decode cX2_numberOfAll 90 = .ok (.getfield 50, 3) := by decide +kernel
theorem dX2_numberOfAll_93 : decode cX2_numberOfAll 93 = .ok (.iconst 1, 1) := by decide +kernel
theorem dX2_numberOfAll_94 : decode cX2_numberOfAll 94 = .ok (.iaload, 1) := by decide +kernel
theorem dX2_numberOfAll_95 : decode cX2_numberOfAll 95 = .ok (.ireturn, 1) := by decide +kernel
theorem dX2_numberOfAll_96 : decode cX2_numberOfAll 96 = .ok (.aload_n 0, 1) := by decide +kernel
theorem dX2_numberOfAll_97 : decode cX2_numberOfAll 97 = .ok (.getfield 50, 3) := by decide +kernel
theorem dX2_numberOfAll_100 : decode cX2_numberOfAll 100 = .ok (.iconst 2, 1) := by decide +kernel
theorem dX2_numberOfAll_101 : decode cX2_numberOfAll 101 = .ok (.iaload, 1) := by decide +kernel
theorem dX2_numberOfAll_102 : decode cX2_numberOfAll 102 = .ok (.ireturn, 1) := by decide +kernel
theorem dX2_numberOfAll_103 : decode cX2_numberOfAll 103 = .ok (.aload_n 0, 1) := by decide +kernel
theorem dX2_numberOfAll_104 : decode cX2_numberOfAll 104 = .ok (.getfield 50, 3) := by decide +kernel
theorem dX2_numberOfAll_107 : decode cX2_numberOfAll 107 = .ok (.iconst 3, 1) := by decide +kernel
theorem dX2_numberOfAll_108 : decode cX2_numberOfAll 108 = .ok (.iaload, 1) := by decide +kernel
theorem dX2_numberOfAll_109 : decode cX2_numberOfAll 109 = .ok (.ireturn, 1) := by decide +kernel
theorem dX2_numberOfAll_110 : decode cX2_numberOfAll 110 = .ok (.aload_n 0, 1) := by decide +kernel
theorem dX2_numberOfAll_111 : decode cX2_numberOfAll 111 = .ok (.getfield 50, 3) := by decide +kernel
theorem dX2_numberOfAll_114 : decode cX2_numberOfAll 114 = .ok (.iconst 4, 1) := by decide +kernel
theorem dX2_numberOfAll_115 : decode cX2_numberOfAll 115 = .ok (.iaload, 1) := by decide +kernel
theorem dX2_numberOfAll_116 : decode cX2_numberOfAll 116 = .ok (.ireturn, 1) := by decide +kernel
theorem dX2_numberOfAll_117 : decode cX2_numberOfAll 117 = .ok (.aload_n 0, 1) := by decide +kernel
theorem dX2_numberOfAll_118 : decode cX2_numberOfAll 118 = .ok (.aload_n 0, 1) := by decide +kernel
theorem dX2_numberOfAll_119 : decode cX2_numberOfAll 119 = .ok (.getfield 33, 3) := by decide +kernel
theorem dX2_numberOfAll_122 : decode cX2_numberOfAll 122 = .ok (.invokevirtual 98, 3) := by decide +kernel
theorem dX2_numberOfAll_125 : decode cX2_numberOfAll 125 = .ok (.ireturn, 1) := by decide +kernel
theorem dX2_numberOfAll_126 : decode cX2_numberOfAll 126 = .ok (.aload_n 0, 1) := by decide +kernel
theorem dX2_numberOfAll_127 : decode cX2_numberOfAll 127 = .ok (.aload_n 0, 1) := by decide +kernel
theorem dX2_numberOfAll_128 : decode cX2_numberOfAll 128 = .ok (.getfield 18, 3) := by decide +kernel
theorem dX2_numberOfAll_131 : decode cX2_numberOfAll 131 = .ok (.invokevirtual 98, 3) := by decide +kernel
theorem dX2_numberOfAll_134 : decode cX2_numberOfAll 134 = .ok (.ireturn, 1) := by decide +kernel
theorem dX2_aheadOfToday_0 : decode cX2_aheadOfToday 0 = .ok (.iconst 0, 1) := by decide +kernel
theorem dX2_aheadOfToday_1 : decode cX2_aheadOfToday 1 = .ok (.istore_n 2, 1) := by decide +kernel
theorem dX2_aheadOfToday_2 : decode cX2_aheadOfToday 2 = .ok (.aload_n 1, 1) := by decide +kernel
theorem dX2_aheadOfToday_3 : decode cX2_aheadOfToday 3 = .ok (.astore_n 3, 1) := by decide +kernel
theorem dX2_aheadOfToday_4 : decode cX2_aheadOfToday 4 = .ok (.aload_n 3, 1) := by decide +kernel
theorem dX2_aheadOfToday_5 : decode cX2_aheadOfToday 5 = .ok (.arraylength, 1) := by decide +kernel
theorem dX2_aheadOfToday_6 : decode cX2_aheadOfToday 6 = .ok (.istore 4, 2) := by decide +kernel
theorem dX2_aheadOfToday_8 : decode cX2_aheadOfToday 8 = .ok (.iconst 0, 1) := by decide +kernel
theorem dX2_aheadOfToday_9 : decode cX2_aheadOfToday 9 = .ok (.istore 5, 2) := by decide +kernel
theorem dX2_aheadOfToday_11 : decode cX2_aheadOfToday 11 = .ok (.iload 5, 2) := by decide +kernel
theorem dX2_aheadOfToday_13 : decode cX2_aheadOfToday 13 = .ok (.iload 4, 2) := by decide +kernel
theorem dX2_aheadOfToday_15 : decode cX2_aheadOfToday 15 = .ok (.if_icmp .ge 27, 3) := by decide +kernel
theorem dX2_aheadOfToday_18 : decode cX2_aheadOfToday 18 = .ok (.aload_n 3, 1) := by decide +kernel
theorem dX2_aheadOfToday_19 : decode cX2_aheadOfToday 19 = .ok (.iload 5, 2) := by decide +kernel
theorem dX2_aheadOfToday_21 : decode cX2_aheadOfToday 21 = .ok (.iaload, 1) := by decide +kernel
theorem dX2_aheadOfToday_22 : decode cX2_aheadOfToday 22 = .ok (.istore 6, 2) := by decide +kernel
theorem dX2_aheadOfToday_24 : decode cX2_aheadOfToday 24 = .ok (.aload_n 0, 1) := by decide +kernel
theorem dX2_aheadOfToday_25 : decode cX2_aheadOfToday 25 = .ok (.getfield 64, 3) := by decide +kernel
theorem dX2_aheadOfToday_28 : decode cX2_aheadOfToday 28 = .ok (.iload 6, 2) := by decide +kernel
theorem dX2_aheadOfToday_30 : decode cX2_aheadOfToday 30 = .ok (.if_icmp .ge 6, 3) := by decide +kernel
theorem dX2_aheadOfToday_33 : decode cX2_aheadOfToday 33 = .ok (.iinc 2 1, 3) := by decide +kernel
theorem dX2_aheadOfToday_36 : decode cX2_aheadOfToday 36 = .ok (.iinc 5 1, 3) := by decide +kernel
theorem dX2_aheadOfToday_39 : decode cX2_aheadOfToday 39 = .ok (.goto (-28), 3) := by decide +kernel
theorem dX2_aheadOfToday_42 : decode cX2_aheadOfToday 42 = .ok (.iload_n 2, 1) := by decide +kernel
theorem dX2_aheadOfToday_43 : decode cX2_aheadOfToday 43 = .ok (.ireturn, 1) := by decide +kernel
set_option maxRecDepth 20000 in
theorem ggX2_numberOfPrisoner_X2_hasPrisoner : GoodIn wsX2_numberOfPrisoner wsX2_hasPrisoner := goodIn_r _ [14, 15, 53, 54, 55, 56, 57, 58, 59, 60, 61, 62, 63, 64, 65, 66, 67] (by decide +kernel) (by decide +kernel)
set_option maxRecDepth 20000 in
theorem gX2_numberOfPrisoner_X2_hasPrisoner : GoodIn wsX2_numberOfPrisoner (wsV RX2 87 RX2 yX2_hasPrisoner wsX2_hasPrisoner) := goodIn_app (goodIn_of _ (by decide +kernel)) ggX2_numberOfPrisoner_X2_hasPrisoner
set_option maxRecDepth 20000 in
theorem ggX2_numberOfPrisoner_X2_weekOf : GoodIn wsX2_numberOfPrisoner wsX2_weekOf := goodIn_r _ [18] (by decide +kernel) (by decide +kernel)
set_option maxRecDepth 20000 in
theorem gX2_numberOfPrisoner_X2_weekOf : GoodIn wsX2_numberOfPrisoner (va_wsS RX2 102 yX2_weekOf wsX2_weekOf) := goodIn_app (goodIn_of _ (by decide +kernel)) ggX2_numberOfPrisoner_X2_weekOf
set_option maxRecDepth 20000 in
theorem ggX2_numberOfPrisoner_X0_countInWeek : GoodIn wsX2_numberOfPrisoner wsX0_countInWeek := goodIn_r _ [23, 24, 25, 68, 69] (by decide +kernel) (by decide +kernel)
set_option maxRecDepth 20000 in
theorem gX2_numberOfPrisoner_X0_countInWeek : GoodIn wsX2_numberOfPrisoner (wsV RX2 106 RX0 yX0_countInWeek wsX0_countInWeek) := goodIn_app (goodIn_of _ (by decide +kernel)) ggX2_numberOfPrisoner_X0_countInWeek
set_option maxRecDepth 20000 in
theorem ggX2_numberOfPrisoner_X0_countOf : GoodIn wsX2_numberOfPrisoner wsX0_countOf := goodIn_r _ [29, 24, 30, 31, 32, 22, 33, 25, 34, 35, 36, 37, 68, 69] (by decide +kernel) (by decide +kernel)
set_option maxRecDepth 20000 in
theorem gX2_numberOfPrisoner_X0_countOf : GoodIn wsX2_numberOfPrisoner (wsV RX2 110 RX0 yX0_countOf wsX0_countOf) := goodIn_app (goodIn_of _ (by decide +kernel)) ggX2_numberOfPrisoner_X0_countOf
set_option maxRecDepth 20000 in
theorem ggX2_numberOfPrisoner_X6_countOf : GoodIn wsX2_numberOfPrisoner wsX6_countOf := goodIn_r _ [42, 43, 44, 45, 46, 41, 47, 48, 49, 50, 51, 52, 70, 71] (by decide +kernel) (by decide +kernel)
set_option maxRecDepth 20000 in
theorem gX2_numberOfPrisoner_X6_countOf : GoodIn wsX2_numberOfPrisoner (wsV RX2 113 RX6 yX6_countOf wsX6_countOf) := goodIn_app (goodIn_of _ (by decide +kernel)) ggX2_numberOfPrisoner_X6_countOf
theorem dX2_numberOfPrisoner_0 : decode cX2_numberOfPrisoner 0 = .ok (.aload_n 0, 1) := by decide +kernel
theorem dX2_numberOfPrisoner_1 : decode cX2_numberOfPrisoner 1 = .ok (.iload_n 1, 1) := by decide +kernel
theorem dX2_numberOfPrisoner_2 : decode cX2_numberOfPrisoner 2 = .ok (.invokevirtual 87, 3) := by decide +kernel
theorem dX2_numberOfPrisoner_5 : decode cX2_numberOfPrisoner 5 = .ok (.ifCond .ne 5, 3) := by decide +kernel
theorem dX2_numberOfPrisoner_8 : decode cX2_numberOfPrisoner 8 = .ok (.iconst (-1), 1) := by decide +kernel
theorem dX2_numberOfPrisoner_9 : decode cX2_numberOfPrisoner 9 = .ok (.ireturn, 1) := by decide +kernel
theorem dX2_numberOfPrisoner_10 : decode cX2_numberOfPrisoner 10 = .ok (.iload_n 2, 1) := by decide +kernel
theorem dX2_numberOfPrisoner_11 : decode cX2_numberOfPrisoner 11 = .ok (.tableswitch 111 0 6 #[41, 48, 55, 62, 69, 92, 102], 41) := by decide +kernel
theorem dX2_numberOfPrisoner_52 : decode cX2_numberOfPrisoner 52 = .ok (.aload_n 0, 1) := by decide +kernel
theorem dX2_numberOfPrisoner_53 : decode cX2_numberOfPrisoner 53 = .ok (.getfield 11, 3) := by decide +kernel
theorem dX2_numberOfPrisoner_56 : decode cX2_numberOfPrisoner 56 = .ok (.iload_n 1, 1) := by decide +kernel
theorem dX2_numberOfPrisoner_57 : decode cX2_numberOfPrisoner 57 = .ok (.iaload, 1) := by decide +kernel
theorem dX2_numberOfPrisoner_58 : decode cX2_numberOfPrisoner 58 = .ok (.ireturn, 1) := by decide +kernel
theorem dX2_numberOfPrisoner_59 : decode cX2_numberOfPrisoner 59 = .ok (.aload_n 0, 1) := by decide +kernel
theorem dX2_numberOfPrisoner_60 : decode cX2_numberOfPrisoner 60 = .ok (.getfield 15, 3) := by decide +kernel
theorem dX2_numberOfPrisoner_63 : decode cX2_numberOfPrisoner 63 = .ok (.iload_n 1, 1) := by decide +kernel
theorem dX2_numberOfPrisoner_64 : decode cX2_numberOfPrisoner 64 = .ok (.iaload, 1) := by decide +kernel
theorem dX2_numberOfPrisoner_65 : decode cX2_numberOfPrisoner 65 = .ok (.ireturn, 1) := by decide +kernel
theorem dX2_numberOfPrisoner_66 : decode cX2_numberOfPrisoner 66 = .ok (.aload_n 0, 1) := by decide +kernel
theorem dX2_numberOfPrisoner_67 : decode cX2_numberOfPrisoner 67 = .ok (.getfield 18, 3) := by decide +kernel
theorem dX2_numberOfPrisoner_70 : decode cX2_numberOfPrisoner 70 = .ok (.iload_n 1, 1) := by decide +kernel
theorem dX2_numberOfPrisoner_71 : decode cX2_numberOfPrisoner 71 = .ok (.iaload, 1) := by decide +kernel
theorem dX2_numberOfPrisoner_72 : decode cX2_numberOfPrisoner 72 = .ok (.ireturn, 1) := by decide +kernel
theorem dX2_numberOfPrisoner_73 : decode cX2_numberOfPrisoner 73 = .ok (.aload_n 0, 1) := by decide +kernel
theorem dX2_numberOfPrisoner_74 : decode cX2_numberOfPrisoner 74 = .ok (.getfield 21, 3) := by decide +kernel
theorem dX2_numberOfPrisoner_77 : decode cX2_numberOfPrisoner 77 = .ok (.iload_n 1, 1) := by decide +kernel
theorem dX2_numberOfPrisoner_78 : decode cX2_numberOfPrisoner 78 = .ok (.iaload, 1) := by decide +kernel
theorem dX2_numberOfPrisoner_79 : decode cX2_numberOfPrisoner 79 = .ok (.ireturn, 1) := by decide +kernel
theorem dX2_numberOfPrisoner_80 : decode cX2_numberOfPrisoner 80 = .ok (.aload_n 0, 1) := by decide +kernel
theorem dX2_numberOfPrisoner_81 : decode cX2_numberOfPrisoner 81 = .ok (.getfield 39, 3) := by decide +kernel
theorem dX2_numberOfPrisoner_84 : decode cX2_numberOfPrisoner 84 = .ok (.iload_n 1, 1) := by decide +kernel
theorem dX2_numberOfPrisoner_85 : decode cX2_numberOfPrisoner 85 = .ok (.aload_n 0, 1) := by decide +kernel
theorem dX2_numberOfPrisoner_86 : decode cX2_numberOfPrisoner 86 = .ok (.getfield 64, 3) := by decide +kernel
theorem dX2_numberOfPrisoner_89 : decode cX2_numberOfPrisoner 89 = .ok (.invokestatic 102, 3) := by decide +kernel
theorem dX2_numberOfPrisoner_92 : decode cX2_numberOfPrisoner 92 = .ok (.invokevirtual 106, 3) := by decide +kernel
theorem dX2_numberOfPrisoner_95 : decode cX2_numberOfPrisoner 95 = .ok (.aload_n 0, 1) := by decide +kernel
theorem dX2_numberOfPrisoner_96 : decode cX2_numberOfPrisoner 96 = .ok (.getfield 24, 3) := by decide +kernel
theorem dX2_numberOfPrisoner_99 : decode cX2_numberOfPrisoner 99 = .ok (.iload_n 1, 1) := by decide +kernel
theorem dX2_numberOfPrisoner_100 : decode cX2_numberOfPrisoner 100 = .ok (.iaload, 1) := by decide +kernel
theorem dX2_numberOfPrisoner_101 : decode cX2_numberOfPrisoner 101 = .ok (.iadd, 1) := by decide +kernel
theorem dX2_numberOfPrisoner_102 : decode cX2_numberOfPrisoner 102 = .ok (.ireturn, 1) := by decide +kernel
theorem dX2_numberOfPrisoner_103 : decode cX2_numberOfPrisoner 103 = .ok (.aload_n 0, 1) := by decide +kernel
theorem dX2_numberOfPrisoner_104 : decode cX2_numberOfPrisoner 104 = .ok (.getfield 39, 3) := by decide +kernel
theorem dX2_numberOfPrisoner_107 : decode cX2_numberOfPrisoner 107 = .ok (.iconst 3, 1) := by decide +kernel
theorem dX2_numberOfPrisoner_108 : decode cX2_numberOfPrisoner 108 = .ok (.iload_n 1, 1) := by decide +kernel
theorem dX2_numberOfPrisoner_109 : decode cX2_numberOfPrisoner 109 = .ok (.invokevirtual 110, 3) := by decide +kernel
theorem dX2_numberOfPrisoner_112 : decode cX2_numberOfPrisoner 112 = .ok (.ireturn, 1) := by decide +kernel
theorem dX2_numberOfPrisoner_113 : decode cX2_numberOfPrisoner 113 = .ok (.aload_n 0, 1) := by decide +kernel
theorem dX2_numberOfPrisoner_114 : decode cX2_numberOfPrisoner 114 = .ok (.getfield 46, 3) := by decide +kernel
theorem dX2_numberOfPrisoner_117 : decode cX2_numberOfPrisoner 117 = .ok (.iload_n 1, 1) := by decide +kernel
theorem dX2_numberOfPrisoner_118 : decode cX2_numberOfPrisoner 118 = .ok (.invokevirtual 113, 3) := by decide +kernel
theorem dX2_numberOfPrisoner_121 : decode cX2_numberOfPrisoner 121 = .ok (.ireturn, 1) := by decide +kernel
theorem dX2_numberOfPrisoner_122 : decode cX2_numberOfPrisoner 122 = .ok (.aload_n 0, 1) := by decide +kernel
theorem dX2_numberOfPrisoner_123 : decode cX2_numberOfPrisoner 123 = .ok (.getfield 27, 3) := by decide +kernel
theorem dX2_numberOfPrisoner_126 : decode cX2_numberOfPrisoner 126 = .ok (.iload_n 1, 1) := by decide +kernel
theorem dX2_numberOfPrisoner_127 : decode cX2_numberOfPrisoner 127 = .ok (.iaload, 1) := by decide +kernel
theorem dX2_numberOfPrisoner_128 : decode cX2_numberOfPrisoner 128 = .ok (.ireturn, 1) := by decide +kernel
set_option maxRecDepth 20000 in
theorem ggX2_numberOfVisitor_X2_hasVisitor : GoodIn wsX2_numberOfVisitor wsX2_hasVisitor := goodIn_r _ [8] (by decide +kernel) (by decide +kernel)
set_option maxRecDepth 20000 in
theorem gX2_numberOfVisitor_X2_hasVisitor : GoodIn wsX2_numberOfVisitor (va_wsS RX2 91 yX2_hasVisitor wsX2_hasVisitor) := goodIn_app (goodIn_of _ (by decide +kernel)) ggX2_numberOfVisitor_X2_hasVisitor
set_option maxRecDepth 20000 in
theorem ggX2_numberOfVisitor_X7_hasBit : GoodIn wsX2_numberOfVisitor wsX7_hasBit := goodIn_r _ [11] (by decide +kernel) (by decide +kernel)
set_option maxRecDepth 20000 in
theorem gX2_numberOfVisitor_X7_hasBit_n115 : GoodIn wsX2_numberOfVisitor (wsX7_hasBit) := ggX2_numberOfVisitor_X7_hasBit
set_option maxRecDepth 20000 in
theorem ggX2_numberOfVisitor_X0_countOf : GoodIn wsX2_numberOfVisitor wsX0_countOf := goodIn_r _ [16, 17, 18, 19, 20, 15, 21, 22, 23, 24, 25, 26, 49, 50] (by decide +kernel) (by decide +kernel)
set_option maxRecDepth 20000 in
theorem gX2_numberOfVisitor_X0_countOf : GoodIn wsX2_numberOfVisitor (wsV RX2 110 RX0 yX0_countOf wsX0_countOf) := goodIn_app (goodIn_of _ (by decide +kernel)) ggX2_numberOfVisitor_X0_countOf
set_option maxRecDepth 20000 in
theorem ggX2_numberOfVisitor_X2_prisonersWhoList : GoodIn wsX2_numberOfVisitor wsX2_prisonersWhoList := goodIn_r _ [30, 31, 9, 10, 11, 32, 33, 34, 35, 36, 37, 38, 39, 40, 41, 42, 43, 44, 45, 46, 47, 48] (by decide +kernel) (by decide +kernel)
set_option maxRecDepth 20000 in
theorem gX2_numberOfVisitor_X2_prisonersWhoList : GoodIn wsX2_numberOfVisitor (wsV RX2 119 RX2 yX2_prisonersWhoList wsX2_prisonersWhoList) := goodIn_app (goodIn_of _ (by decide +kernel)) ggX2_numberOfVisitor_X2_prisonersWhoList
theorem dX2_numberOfVisitor_0 : decode cX2_numberOfVisitor 0 = .ok (.iload_n 1, 1) := by decide +kernel
theorem dX2_numberOfVisitor_1 : decode cX2_numberOfVisitor 1 = .ok (.invokestatic 91, 3) := by decide +kernel
theorem dX2_numberOfVisitor_4 : decode cX2_numberOfVisitor 4 = .ok (.ifCond .ne 5, 3) := by decide +kernel
theorem dX2_numberOfVisitor_7 : decode cX2_numberOfVisitor 7 = .ok (.iconst (-1), 1) := by decide +kernel
theorem dX2_numberOfVisitor_8 : decode cX2_numberOfVisitor 8 = .ok (.ireturn, 1) := by decide +kernel
theorem dX2_numberOfVisitor_9 : decode cX2_numberOfVisitor 9 = .ok (.iload_n 2, 1) := by decide +kernel
theorem dX2_numberOfVisitor_10 : decode cX2_numberOfVisitor 10 = .ok (.tableswitch 71 0 3 #[30, 37, 44, 61], 30) := by decide +kernel
theorem dX2_numberOfVisitor_40 : decode cX2_numberOfVisitor 40 = .ok (.aload_n 0, 1) := by decide +kernel
theorem dX2_numberOfVisitor_41 : decode cX2_numberOfVisitor 41 = .ok (.getfield 30, 3) := by decide +kernel
theorem dX2_numberOfVisitor_44 : decode cX2_numberOfVisitor 44 = .ok (.iload_n 1, 1) := by decide +kernel
theorem dX2_numberOfVisitor_45 : decode cX2_numberOfVisitor 45 = .ok (.iaload, 1) := by decide +kernel
theorem dX2_numberOfVisitor_46 : decode cX2_numberOfVisitor 46 = .ok (.ireturn, 1) := by decide +kernel
theorem dX2_numberOfVisitor_47 : decode cX2_numberOfVisitor 47 = .ok (.aload_n 0, 1) := by decide +kernel
theorem dX2_numberOfVisitor_48 : decode cX2_numberOfVisitor 48 = .ok (.getfield 33, 3) := by decide +kernel
theorem dX2_numberOfVisitor_51 : decode cX2_numberOfVisitor 51 = .ok (.iload_n 1, 1) := by decide +kernel
theorem dX2_numberOfVisitor_52 : decode cX2_numberOfVisitor 52 = .ok (.iaload, 1) := by decide +kernel
theorem dX2_numberOfVisitor_53 : decode cX2_numberOfVisitor 53 = .ok (.ireturn, 1) := by decide +kernel
theorem dX2_numberOfVisitor_54 : decode cX2_numberOfVisitor 54 = .ok (.aload_n 0, 1) := by decide +kernel
theorem dX2_numberOfVisitor_55 : decode cX2_numberOfVisitor 55 = .ok (.getfield 77, 3) := by decide +kernel
theorem dX2_numberOfVisitor_58 : decode cX2_numberOfVisitor 58 = .ok (.iload_n 1, 1) := by decide +kernel
theorem dX2_numberOfVisitor_59 : decode cX2_numberOfVisitor 59 = .ok (.invokestatic 115, 3) := by decide +kernel
theorem dX2_numberOfVisitor_62 : decode cX2_numberOfVisitor 62 = .ok (.ifCond .eq 7, 3) := by decide +kernel
theorem dX2_numberOfVisitor_65 : decode cX2_numberOfVisitor 65 = .ok (.iconst 1, 1) := by decide +kernel
theorem dX2_numberOfVisitor_66 : decode cX2_numberOfVisitor 66 = .ok (.goto 4, 3) := by decide +kernel
theorem dX2_numberOfVisitor_69 : decode cX2_numberOfVisitor 69 = .ok (.iconst 0, 1) := by decide +kernel
theorem dX2_numberOfVisitor_70 : decode cX2_numberOfVisitor 70 = .ok (.ireturn, 1) := by decide +kernel
theorem dX2_numberOfVisitor_71 : decode cX2_numberOfVisitor 71 = .ok (.aload_n 0, 1) := by decide +kernel
theorem dX2_numberOfVisitor_72 : decode cX2_numberOfVisitor 72 = .ok (.getfield 39, 3) := by decide +kernel
theorem dX2_numberOfVisitor_75 : decode cX2_numberOfVisitor 75 = .ok (.iconst 4, 1) := by decide +kernel
theorem dX2_numberOfVisitor_76 : decode cX2_numberOfVisitor 76 = .ok (.iload_n 1, 1) := by decide +kernel
theorem dX2_numberOfVisitor_77 : decode cX2_numberOfVisitor 77 = .ok (.invokevirtual 110, 3) := by decide +kernel
theorem dX2_numberOfVisitor_80 : decode cX2_numberOfVisitor 80 = .ok (.ireturn, 1) := by decide +kernel
theorem dX2_numberOfVisitor_81 : decode cX2_numberOfVisitor 81 = .ok (.aload_n 0, 1) := by decide +kernel
theorem dX2_numberOfVisitor_82 : decode cX2_numberOfVisitor 82 = .ok (.iload_n 1, 1) := by decide +kernel
theorem dX2_numberOfVisitor_83 : decode cX2_numberOfVisitor 83 = .ok (.invokevirtual 119, 3) := by decide +kernel
theorem dX2_numberOfVisitor_86 : decode cX2_numberOfVisitor 86 = .ok (.ireturn, 1) := by decide +kernel
set_option maxRecDepth 20000 in
theorem ggX2_prisonersWhoList_X7_hasBit : GoodIn wsX2_prisonersWhoList wsX7_hasBit := goodIn_r _ [4] (by decide +kernel) (by decide +kernel)
set_option maxRecDepth 20000 in
theorem gX2_prisonersWhoList_X7_hasBit_n115 : GoodIn wsX2_prisonersWhoList (wsX7_hasBit) := ggX2_prisonersWhoList_X7_hasBit
set_option maxRecDepth 20000 in
theorem ggX2_prisonersWhoList_X7_withBit : GoodIn wsX2_prisonersWhoList wsX7_withBit := goodIn_r _ [6] (by decide +kernel) (by decide +kernel)
set_option maxRecDepth 20000 in
theorem gX2_prisonersWhoList_X7_withBit_n122 : GoodIn wsX2_prisonersWhoList (wsX7_withBit) := ggX2_prisonersWhoList_X7_withBit
theorem dX2_prisonersWhoList_0 : decode cX2_prisonersWhoList 0 = .ok (.iconst 0, 1) := by decide +kernel
theorem dX2_prisonersWhoList_1 : decode cX2_prisonersWhoList 1 = .ok (.istore_n 2, 1) := by decide +kernel
theorem dX2_prisonersWhoList_2 : decode cX2_prisonersWhoList 2 = .ok (.iconst 0, 1) := by decide +kernel
theorem dX2_prisonersWhoList_3 : decode cX2_prisonersWhoList 3 = .ok (.istore_n 3, 1) := by decide +kernel
theorem dX2_prisonersWhoList_4 : decode cX2_prisonersWhoList 4 = .ok (.iload_n 3, 1) := by decide +kernel
theorem dX2_prisonersWhoList_5 : decode cX2_prisonersWhoList 5 = .ok (.bipush 8, 2) := by decide +kernel
theorem dX2_prisonersWhoList_7 : decode cX2_prisonersWhoList 7 = .ok (.if_icmp .ge 25, 3) := by decide +kernel
theorem dX2_prisonersWhoList_10 : decode cX2_prisonersWhoList 10 = .ok (.iload_n 2, 1) := by decide +kernel
theorem dX2_prisonersWhoList_11 : decode cX2_prisonersWhoList 11 = .ok (.iload_n 3, 1) := by decide +kernel
theorem dX2_prisonersWhoList_12 : decode cX2_prisonersWhoList 12 = .ok (.aload_n 0, 1) := by decide +kernel
theorem dX2_prisonersWhoList_13 : decode cX2_prisonersWhoList 13 = .ok (.getfield 15, 3) := by decide +kernel
theorem dX2_prisonersWhoList_16 : decode cX2_prisonersWhoList 16 = .ok (.iload_n 3, 1) := by decide +kernel
theorem dX2_prisonersWhoList_17 : decode cX2_prisonersWhoList 17 = .ok (.iaload, 1) := by decide +kernel
theorem dX2_prisonersWhoList_18 : decode cX2_prisonersWhoList 18 = .ok (.iload_n 1, 1) := by decide +kernel
theorem dX2_prisonersWhoList_19 : decode cX2_prisonersWhoList 19 = .ok (.invokestatic 115, 3) := by decide +kernel
theorem dX2_prisonersWhoList_22 : decode cX2_prisonersWhoList 22 = .ok (.invokestatic 122, 3) := by decide +kernel
theorem dX2_prisonersWhoList_25 : decode cX2_prisonersWhoList 25 = .ok (.istore_n 2, 1) := by decide +kernel
theorem dX2_prisonersWhoList_26 : decode cX2_prisonersWhoList 26 = .ok (.iinc 3 1, 3) := by decide +kernel
theorem dX2_prisonersWhoList_29 : decode cX2_prisonersWhoList 29 = .ok (.goto (-25), 3) := by decide +kernel
theorem dX2_prisonersWhoList_32 : decode cX2_prisonersWhoList 32 = .ok (.iload_n 2, 1) := by decide +kernel
theorem dX2_prisonersWhoList_33 : decode cX2_prisonersWhoList 33 = .ok (.ireturn, 1) := by decide +kernel
set_option maxRecDepth 20000 in
theorem ggX2_lineOf_J4_init_da8c8 : GoodIn wsX2_lineOf wsJ4_init_da8c8 := goodIn_r _ [7, 8, 9, 10, 11, 12, 13, 14, 15, 16, 17, 18, 19, 20, 21, 22, 23, 24, 25, 26, 238, 239, 240, 241] (by decide +kernel) (by decide +kernel)
set_option maxRecDepth 20000 in
theorem gX2_lineOf_J4_init_da8c8 : GoodIn wsX2_lineOf (wsJ4_init_da8c8) := ggX2_lineOf_J4_init_da8c8
set_option maxRecDepth 20000 in
theorem ggX2_lineOf_X0_at : GoodIn wsX2_lineOf wsX0_at := goodIn_r _ [31, 32, 33, 34, 35, 30, 36, 37, 257, 258] (by decide +kernel) (by decide +kernel)
set_option maxRecDepth 20000 in
theorem gX2_lineOf_X0_at : GoodIn wsX2_lineOf (wsV RX2 129 RX0 yX0_at wsX0_at) := goodIn_app (goodIn_of _ (by decide +kernel)) ggX2_lineOf_X0_at
set_option maxRecDepth 20000 in
theorem ggX2_lineOf_J4_append_bf812 : GoodIn wsX2_lineOf wsJ4_append_bf812 := goodIn_r _ [41, 42, 43, 44, 45, 10, 46, 47, 17, 48, 49, 50, 51, 52, 53, 54, 55, 56, 18, 57, 58, 59, 60, 61, 62, 63, 64, 65, 66, 67, 68, 69, 70, 71, 72, 73, 74, 75, 76, 77, 78, 79, 80, 81, 82, 83, 84, 16, 85, 86, 87, 88, 89, 90, 91, 92, 93, 94, 95, 96, 15, 97, 98, 99, 100, 101, 102, 103, 21, 104, 105, 106, 107, 108, 109, 110, 111, 112, 113, 114, 115, 116, 117, 118, 119, 120, 121, 122, 123, 124, 125, 126, 127, 128, 129, 130, 238, 239, 240, 241] (by decide +kernel) (by decide +kernel)
set_option maxRecDepth 20000 in
theorem gX2_lineOf_J4_append_bf812 : GoodIn wsX2_lineOf (wsV RX2 132 RJ4 yJ4_append_bf812 wsJ4_append_bf812) := goodIn_app (goodIn_of _ (by decide +kernel)) ggX2_lineOf_J4_append_bf812
set_option maxRecDepth 20000 in
theorem ggX2_lineOf_J4_append_cf468 : GoodIn wsX2_lineOf wsJ4_append_cf468 := goodIn_r _ [134, 135, 136, 44, 137, 10, 138, 47, 17, 52, 53, 54, 55, 56, 18, 57, 58, 59, 60, 61, 62, 63, 64, 65, 66, 67, 68, 69, 70, 71, 72, 73, 74, 75, 76, 77, 78, 79, 80, 81, 82, 83, 84, 16, 85, 86, 87, 88, 89, 90, 91, 92, 93, 94, 95, 96, 15, 139, 140, 141, 142, 143, 144, 145, 146, 147, 19, 20, 21, 22, 23, 24, 25, 26, 148, 149, 150, 151, 152, 153, 154, 155, 156, 109, 110, 111, 157, 158, 114, 159, 116, 160, 161, 119, 162, 126, 127, 128, 105, 129, 130, 163, 164, 165, 166, 167, 168, 169, 170, 171, 172, 173, 174, 238, 239, 240, 241] (by decide +kernel) (by decide +kernel)
set_option maxRecDepth 20000 in
theorem gX2_lineOf_J4_append_cf468 : GoodIn wsX2_lineOf (wsV RX2 136 RJ4 yJ4_append_cf468 wsJ4_append_cf468) := goodIn_app (goodIn_of _ (by decide +kernel)) ggX2_lineOf_J4_append_cf468
set_option maxRecDepth 20000 in
theorem ggX2_lineOf_J4_append_15ec4 : GoodIn wsX2_lineOf wsJ4_append_15ec4 := goodIn_r _ [178, 179, 180, 44, 181, 10, 182, 47, 183, 184, 185, 186, 187, 17, 52, 53, 54, 55, 56, 18, 57, 58, 59, 60, 61, 62, 63, 64, 65, 66, 67, 68, 69, 70, 71, 72, 73, 74, 75, 76, 77, 78, 79, 80, 81, 82, 83, 84, 16, 85, 86, 87, 88, 89, 90, 91, 92, 93, 94, 95, 96, 15, 188, 189, 21, 190, 105, 106, 107, 108, 109, 110, 111, 112, 113, 114, 115, 116, 117, 118, 119, 120, 126, 127, 128, 129, 130, 191, 192, 193, 194, 195, 196, 197, 198, 199, 200, 201, 202, 203, 204, 205, 206, 207, 208, 209, 210, 211, 212, 143, 144, 145, 146, 147, 19, 20, 22, 23, 24, 25, 26, 148, 149, 141, 150, 151, 152, 153, 154, 155, 156, 157, 158, 159, 160, 161, 162, 213, 214, 215, 216, 217, 218, 238, 239, 240, 241] (by decide +kernel) (by decide +kernel)
set_option maxRecDepth 20000 in
theorem gX2_lineOf_J4_append_15ec4 : GoodIn wsX2_lineOf (wsV RX2 141 RJ4 yJ4_append_15ec4 wsJ4_append_15ec4) := goodIn_app (goodIn_of _ (by decide +kernel)) ggX2_lineOf_J4_append_15ec4
set_option maxRecDepth 20000 in
theorem ggX2_lineOf_X2_isLost : GoodIn wsX2_lineOf wsX2_isLost := goodIn_r _ [223, 224, 225, 226, 227, 222, 228, 229, 242, 243, 244, 245, 246, 247, 248, 249, 250, 251, 252, 253, 254, 255, 256] (by decide +kernel) (by decide +kernel)
set_option maxRecDepth 20000 in
theorem gX2_lineOf_X2_isLost : GoodIn wsX2_lineOf (wsV RX2 146 RX2 yX2_isLost wsX2_isLost) := goodIn_app (goodIn_of _ (by decide +kernel)) ggX2_lineOf_X2_isLost
set_option maxRecDepth 20000 in
theorem ggX2_lineOf_X2_isBanned : GoodIn wsX2_lineOf wsX2_isBanned := goodIn_r _ [233, 234, 235, 236, 222, 237, 242, 243, 244, 245, 246, 247, 248, 249, 250, 251, 252, 253, 254, 255, 256] (by decide +kernel) (by decide +kernel)
set_option maxRecDepth 20000 in
theorem gX2_lineOf_X2_isBanned : GoodIn wsX2_lineOf (wsV RX2 149 RX2 yX2_isBanned wsX2_isBanned) := goodIn_app (goodIn_of _ (by decide +kernel)) ggX2_lineOf_X2_isBanned
theorem dX2_lineOf_0 : decode cX2_lineOf 0 = .ok (.new 126, 3) := by decide +kernel
theorem dX2_lineOf_3 : decode cX2_lineOf 3 = .ok (.dup, 1) := by decide +kernel
theorem dX2_lineOf_4 : decode cX2_lineOf 4 = .ok (.invokespecial 128, 3) := by decide +kernel
theorem dX2_lineOf_7 : decode cX2_lineOf 7 = .ok (.astore_n 2, 1) := by decide +kernel
theorem dX2_lineOf_8 : decode cX2_lineOf 8 = .ok (.aload_n 0, 1) := by decide +kernel
theorem dX2_lineOf_9 : decode cX2_lineOf 9 = .ok (.getfield 39, 3) := by decide +kernel
theorem dX2_lineOf_12 : decode cX2_lineOf 12 = .ok (.iload_n 1, 1) := by decide +kernel
theorem dX2_lineOf_13 : decode cX2_lineOf 13 = .ok (.iconst 0, 1) := by decide +kernel
theorem dX2_lineOf_14 : decode cX2_lineOf 14 = .ok (.invokevirtual 129, 3) := by decide +kernel
theorem dX2_lineOf_17 : decode cX2_lineOf 17 = .ok (.istore_n 3, 1) := by decide +kernel
theorem dX2_lineOf_18 : decode cX2_lineOf 18 = .ok (.aload_n 0, 1) := by decide +kernel
theorem dX2_lineOf_19 : decode cX2_lineOf 19 = .ok (.getfield 39, 3) := by decide +kernel
theorem dX2_lineOf_22 : decode cX2_lineOf 22 = .ok (.iload_n 1, 1) := by decide +kernel
theorem dX2_lineOf_23 : decode cX2_lineOf 23 = .ok (.iconst 3, 1) := by decide +kernel
theorem dX2_lineOf_24 : decode cX2_lineOf 24 = .ok (.invokevirtual 129, 3) := by decide +kernel
theorem dX2_lineOf_27 : decode cX2_lineOf 27 = .ok (.istore 4, 2) := by decide +kernel
theorem dX2_lineOf_29 : decode cX2_lineOf 29 = .ok (.aload_n 0, 1) := by decide +kernel
theorem dX2_lineOf_30 : decode cX2_lineOf 30 = .ok (.getfield 39, 3) := by decide +kernel
theorem dX2_lineOf_33 : decode cX2_lineOf 33 = .ok (.iload_n 1, 1) := by decide +kernel
theorem dX2_lineOf_34 : decode cX2_lineOf 34 = .ok (.iconst 4, 1) := by decide +kernel
theorem dX2_lineOf_35 : decode cX2_lineOf 35 = .ok (.invokevirtual 129, 3) := by decide +kernel
theorem dX2_lineOf_38 : decode cX2_lineOf 38 = .ok (.istore 5, 2) := by decide +kernel
theorem dX2_lineOf_40 : decode cX2_lineOf 40 = .ok (.aload_n 0, 1) := by decide +kernel
theorem dX2_lineOf_41 : decode cX2_lineOf 41 = .ok (.getfield 39, 3) := by decide +kernel
theorem dX2_lineOf_44 : decode cX2_lineOf 44 = .ok (.iload_n 1, 1) := by decide +kernel
theorem dX2_lineOf_45 : decode cX2_lineOf 45 = .ok (.iconst 5, 1) := by decide +kernel
theorem dX2_lineOf_46 : decode cX2_lineOf 46 = .ok (.invokevirtual 129, 3) := by decide +kernel
theorem dX2_lineOf_49 : decode cX2_lineOf 49 = .ok (.istore 6, 2) := by decide +kernel
theorem dX2_lineOf_51 : decode cX2_lineOf 51 = .ok (.aload_n 2, 1) := by decide +kernel
theorem dX2_lineOf_52 : decode cX2_lineOf 52 = .ok (.iload_n 3, 1) := by decide +kernel
theorem dX2_lineOf_53 : decode cX2_lineOf 53 = .ok (.invokevirtual 132, 3) := by decide +kernel
theorem dX2_lineOf_56 : decode cX2_lineOf 56 = .ok (.bipush 100, 2) := by decide +kernel
theorem dX2_lineOf_58 : decode cX2_lineOf 58 = .ok (.invokevirtual 136, 3) := by decide +kernel
theorem dX2_lineOf_61 : decode cX2_lineOf 61 = .ok (.pop, 1) := by decide +kernel
theorem dX2_lineOf_62 : decode cX2_lineOf 62 = .ok (.aload_n 2, 1) := by decide +kernel
theorem dX2_lineOf_63 : decode cX2_lineOf 63 = .ok (.aload_n 0, 1) := by decide +kernel
theorem dX2_lineOf_64 : decode cX2_lineOf 64 = .ok (.getfield 39, 3) := by decide +kernel
theorem dX2_lineOf_67 : decode cX2_lineOf 67 = .ok (.iload_n 1, 1) := by decide +kernel
theorem dX2_lineOf_68 : decode cX2_lineOf 68 = .ok (.iconst 1, 1) := by decide +kernel
theorem dX2_lineOf_69 : decode cX2_lineOf 69 = .ok (.invokevirtual 129, 3) := by decide +kernel
theorem dX2_lineOf_72 : decode cX2_lineOf 72 = .ok (.invokevirtual 132, 3) := by decide +kernel
theorem dX2_lineOf_75 : decode cX2_lineOf 75 = .ok (.bipush 104, 2) := by decide +kernel
theorem dX2_lineOf_77 : decode cX2_lineOf 77 = .ok (.invokevirtual 136, 3) := by decide +kernel
theorem dX2_lineOf_80 : decode cX2_lineOf 80 = .ok (.pop, 1) := by decide +kernel
theorem dX2_lineOf_81 : decode cX2_lineOf 81 = .ok (.aload_n 2, 1) := by decide +kernel
theorem dX2_lineOf_82 : decode cX2_lineOf 82 = .ok (.aload_n 0, 1) := by decide +kernel
theorem dX2_lineOf_83 : decode cX2_lineOf 83 = .ok (.getfield 39, 3) := by decide +kernel
theorem dX2_lineOf_86 : decode cX2_lineOf 86 = .ok (.iload_n 1, 1) := by decide +kernel
theorem dX2_lineOf_87 : decode cX2_lineOf 87 = .ok (.iconst 2, 1) := by decide +kernel
theorem dX2_lineOf_88 : decode cX2_lineOf 88 = .ok (.invokevirtual 129, 3) := by decide +kernel
theorem dX2_lineOf_91 : decode cX2_lineOf 91 = .ok (.invokevirtual 132, 3) := by decide +kernel
theorem dX2_lineOf_94 : decode cX2_lineOf 94 = .ok (.pop, 1) := by decide +kernel
theorem dX2_lineOf_95 : decode cX2_lineOf 95 = .ok (.aload_n 2, 1) := by decide +kernel
theorem dX2_lineOf_96 : decode cX2_lineOf 96 = .ok (.ldc 139, 2) := by decide +kernel
theorem dX2_lineOf_98 : decode cX2_lineOf 98 = .ok (.invokevirtual 141, 3) := by decide +kernel
theorem dX2_lineOf_101 : decode cX2_lineOf 101 = .ok (.iload 4, 2) := by decide +kernel
theorem dX2_lineOf_103 : decode cX2_lineOf 103 = .ok (.invokevirtual 132, 3) := by decide +kernel
theorem dX2_lineOf_106 : decode cX2_lineOf 106 = .ok (.ldc 144, 2) := by decide +kernel
theorem dX2_lineOf_108 : decode cX2_lineOf 108 = .ok (.invokevirtual 141, 3) := by decide +kernel
theorem dX2_lineOf_111 : decode cX2_lineOf 111 = .ok (.iload 5, 2) := by decide +kernel
theorem dX2_lineOf_113 : decode cX2_lineOf 113 = .ok (.invokevirtual 132, 3) := by decide +kernel
theorem dX2_lineOf_116 : decode cX2_lineOf 116 = .ok (.pop, 1) := by decide +kernel
theorem dX2_lineOf_117 : decode cX2_lineOf 117 = .ok (.iload 6, 2) := by decide +kernel
theorem dX2_lineOf_119 : decode cX2_lineOf 119 = .ok (.ifCond .le 15, 3) := by decide +kernel
theorem dX2_lineOf_122 : decode cX2_lineOf 122 = .ok (.aload_n 2, 1) := by decide +kernel
theorem dX2_lineOf_123 : decode cX2_lineOf 123 = .ok (.bipush 43, 2) := by decide +kernel
theorem dX2_lineOf_125 : decode cX2_lineOf 125 = .ok (.invokevirtual 136, 3) := by decide +kernel
theorem dX2_lineOf_128 : decode cX2_lineOf 128 = .ok (.iload 6, 2) := by decide +kernel
theorem dX2_lineOf_130 : decode cX2_lineOf 130 = .ok (.invokevirtual 132, 3) := by decide +kernel
theorem dX2_lineOf_133 : decode cX2_lineOf 133 = .ok (.pop, 1) := by decide +kernel
theorem dX2_lineOf_134 : decode cX2_lineOf 134 = .ok (.aload_n 0, 1) := by decide +kernel
theorem dX2_lineOf_135 : decode cX2_lineOf 135 = .ok (.iload 4, 2) := by decide +kernel
theorem dX2_lineOf_137 : decode cX2_lineOf 137 = .ok (.iload_n 3, 1) := by decide +kernel
theorem dX2_lineOf_138 : decode cX2_lineOf 138 = .ok (.invokevirtual 146, 3) := by decide +kernel
theorem dX2_lineOf_141 : decode cX2_lineOf 141 = .ok (.ifCond .ne 13, 3) := by decide +kernel
theorem dX2_lineOf_144 : decode cX2_lineOf 144 = .ok (.aload_n 0, 1) := by decide +kernel
theorem dX2_lineOf_145 : decode cX2_lineOf 145 = .ok (.iload 5, 2) := by decide +kernel
theorem dX2_lineOf_147 : decode cX2_lineOf 147 = .ok (.iload_n 3, 1) := by decide +kernel
theorem dX2_lineOf_148 : decode cX2_lineOf 148 = .ok (.invokevirtual 149, 3) := by decide +kernel
theorem dX2_lineOf_151 : decode cX2_lineOf 151 = .ok (.ifCond .eq 10, 3) := by decide +kernel
theorem dX2_lineOf_154 : decode cX2_lineOf 154 = .ok (.aload_n 2, 1) := by decide +kernel
theorem dX2_lineOf_155 : decode cX2_lineOf 155 = .ok (.bipush 33, 2) := by decide +kernel
theorem dX2_lineOf_157 : decode cX2_lineOf 157 = .ok (.invokevirtual 136, 3) := by decide +kernel
theorem dX2_lineOf_160 : decode cX2_lineOf 160 = .ok (.pop, 1) := by decide +kernel
theorem dX2_lineOf_161 : decode cX2_lineOf 161 = .ok (.aload_n 2, 1) := by decide +kernel
theorem dX2_lineOf_162 : decode cX2_lineOf 162 = .ok (.areturn, 1) := by decide +kernel
set_option maxRecDepth 20000 in
theorem ggX2_isLost_X2_hasPrisoner : GoodIn wsX2_isLost wsX2_hasPrisoner := goodIn_r _ [6, 7, 8, 9, 10, 11, 12, 13, 14, 15, 16, 17, 18, 19, 20, 21, 22] (by decide +kernel) (by decide +kernel)
set_option maxRecDepth 20000 in
theorem gX2_isLost_X2_hasPrisoner : GoodIn wsX2_isLost (wsV RX2 87 RX2 yX2_hasPrisoner wsX2_hasPrisoner) := goodIn_app (goodIn_of _ (by decide +kernel)) ggX2_isLost_X2_hasPrisoner
theorem dX2_isLost_0 : decode cX2_isLost 0 = .ok (.aload_n 0, 1) := by decide +kernel
theorem dX2_isLost_1 : decode cX2_isLost 1 = .ok (.iload_n 1, 1) := by decide +kernel
theorem dX2_isLost_2 : decode cX2_isLost 2 = .ok (.invokevirtual 87, 3) := by decide +kernel
theorem dX2_isLost_5 : decode cX2_isLost 5 = .ok (.ifCond .eq 17, 3) := by decide +kernel
theorem dX2_isLost_8 : decode cX2_isLost 8 = .ok (.iload_n 2, 1) := by decide +kernel
theorem dX2_isLost_9 : decode cX2_isLost 9 = .ok (.aload_n 0, 1) := by decide +kernel
theorem dX2_isLost_10 : decode cX2_isLost 10 = .ok (.getfield 18, 3) := by decide +kernel
theorem dX2_isLost_13 : decode cX2_isLost 13 = .ok (.iload_n 1, 1) := by decide +kernel
theorem dX2_isLost_14 : decode cX2_isLost 14 = .ok (.iaload, 1) := by decide +kernel
theorem dX2_isLost_15 : decode cX2_isLost 15 = .ok (.if_icmp .ge 7, 3) := by decide +kernel
theorem dX2_isLost_18 : decode cX2_isLost 18 = .ok (.iconst 1, 1) := by decide +kernel
theorem dX2_isLost_19 : decode cX2_isLost 19 = .ok (.goto 4, 3) := by decide +kernel
theorem dX2_isLost_22 : decode cX2_isLost 22 = .ok (.iconst 0, 1) := by decide +kernel
theorem dX2_isLost_23 : decode cX2_isLost 23 = .ok (.ireturn, 1) := by decide +kernel
set_option maxRecDepth 20000 in
theorem ggX2_isBanned_X2_hasVisitor : GoodIn wsX2_isBanned wsX2_hasVisitor := goodIn_r _ [5] (by decide +kernel) (by decide +kernel)
set_option maxRecDepth 20000 in
theorem gX2_isBanned_X2_hasVisitor : GoodIn wsX2_isBanned (va_wsS RX2 91 yX2_hasVisitor wsX2_hasVisitor) := goodIn_app (goodIn_of _ (by decide +kernel)) ggX2_isBanned_X2_hasVisitor
theorem dX2_isBanned_0 : decode cX2_isBanned 0 = .ok (.iload_n 1, 1) := by decide +kernel
theorem dX2_isBanned_1 : decode cX2_isBanned 1 = .ok (.invokestatic 91, 3) := by decide +kernel
theorem dX2_isBanned_4 : decode cX2_isBanned 4 = .ok (.ifCond .eq 17, 3) := by decide +kernel
theorem dX2_isBanned_7 : decode cX2_isBanned 7 = .ok (.iload_n 2, 1) := by decide +kernel
theorem dX2_isBanned_8 : decode cX2_isBanned 8 = .ok (.aload_n 0, 1) := by decide +kernel
theorem dX2_isBanned_9 : decode cX2_isBanned 9 = .ok (.getfield 33, 3) := by decide +kernel
theorem dX2_isBanned_12 : decode cX2_isBanned 12 = .ok (.iload_n 1, 1) := by decide +kernel
theorem dX2_isBanned_13 : decode cX2_isBanned 13 = .ok (.iaload, 1) := by decide +kernel
theorem dX2_isBanned_14 : decode cX2_isBanned 14 = .ok (.if_icmp .ge 7, 3) := by decide +kernel
theorem dX2_isBanned_17 : decode cX2_isBanned 17 = .ok (.iconst 1, 1) := by decide +kernel
theorem dX2_isBanned_18 : decode cX2_isBanned 18 = .ok (.goto 4, 3) := by decide +kernel
theorem dX2_isBanned_21 : decode cX2_isBanned 21 = .ok (.iconst 0, 1) := by decide +kernel
theorem dX2_isBanned_22 : decode cX2_isBanned 22 = .ok (.ireturn, 1) := by decide +kernel
set_option maxRecDepth 20000 in
theorem ggX2_reasonAgainst_X2_reasonOnDay : GoodIn wsX2_reasonAgainst wsX2_reasonOnDay := goodIn_r _ [5, 6, 7, 8, 9, 10, 11, 12, 13, 14, 15, 4, 16, 17, 18, 19, 20, 21, 22, 23, 24, 25, 26, 27, 28, 29, 30, 31, 32, 33, 48, 49, 50, 51, 52, 53, 54, 55, 56, 57, 58, 59, 60, 61, 62, 63, 64] (by decide +kernel) (by decide +kernel)
set_option maxRecDepth 20000 in
theorem gX2_reasonAgainst_X2_reasonOnDay : GoodIn wsX2_reasonAgainst (wsV RX2 152 RX2 yX2_reasonOnDay wsX2_reasonOnDay) := goodIn_app (goodIn_of _ (by decide +kernel)) ggX2_reasonAgainst_X2_reasonOnDay
set_option maxRecDepth 20000 in
theorem ggX2_reasonAgainst_X2_reasonInHour : GoodIn wsX2_reasonAgainst wsX2_reasonInHour := goodIn_r _ [37, 11, 38, 39, 40, 41, 42, 30, 43, 32, 33, 21, 22, 23, 13, 14, 15, 4, 16, 17, 44, 45, 46, 47, 48, 49, 50, 51, 52, 53, 54, 55, 56, 57, 58, 59, 60, 61, 62, 63, 64] (by decide +kernel) (by decide +kernel)
set_option maxRecDepth 20000 in
theorem gX2_reasonAgainst_X2_reasonInHour : GoodIn wsX2_reasonAgainst (wsV RX2 156 RX2 yX2_reasonInHour wsX2_reasonInHour) := goodIn_app (goodIn_of _ (by decide +kernel)) ggX2_reasonAgainst_X2_reasonInHour
theorem dX2_reasonAgainst_0 : decode cX2_reasonAgainst 0 = .ok (.aload_n 0, 1) := by decide +kernel
theorem dX2_reasonAgainst_1 : decode cX2_reasonAgainst 1 = .ok (.iload_n 1, 1) := by decide +kernel
theorem dX2_reasonAgainst_2 : decode cX2_reasonAgainst 2 = .ok (.iload_n 2, 1) := by decide +kernel
theorem dX2_reasonAgainst_3 : decode cX2_reasonAgainst 3 = .ok (.iload_n 3, 1) := by decide +kernel
theorem dX2_reasonAgainst_4 : decode cX2_reasonAgainst 4 = .ok (.invokevirtual 152, 3) := by decide +kernel
theorem dX2_reasonAgainst_7 : decode cX2_reasonAgainst 7 = .ok (.istore 5, 2) := by decide +kernel
theorem dX2_reasonAgainst_9 : decode cX2_reasonAgainst 9 = .ok (.iload 5, 2) := by decide +kernel
theorem dX2_reasonAgainst_11 : decode cX2_reasonAgainst 11 = .ok (.ifCond .eq 8, 3) := by decide +kernel
theorem dX2_reasonAgainst_14 : decode cX2_reasonAgainst 14 = .ok (.iload 5, 2) := by decide +kernel
theorem dX2_reasonAgainst_16 : decode cX2_reasonAgainst 16 = .ok (.goto 12, 3) := by decide +kernel
theorem dX2_reasonAgainst_19 : decode cX2_reasonAgainst 19 = .ok (.aload_n 0, 1) := by decide +kernel
theorem dX2_reasonAgainst_20 : decode cX2_reasonAgainst 20 = .ok (.iload_n 1, 1) := by decide +kernel
theorem dX2_reasonAgainst_21 : decode cX2_reasonAgainst 21 = .ok (.iload_n 2, 1) := by decide +kernel
theorem dX2_reasonAgainst_22 : decode cX2_reasonAgainst 22 = .ok (.iload_n 3, 1) := by decide +kernel
theorem dX2_reasonAgainst_23 : decode cX2_reasonAgainst 23 = .ok (.iload 4, 2) := by decide +kernel
theorem dX2_reasonAgainst_25 : decode cX2_reasonAgainst 25 = .ok (.invokevirtual 156, 3) := by decide +kernel
theorem dX2_reasonAgainst_28 : decode cX2_reasonAgainst 28 = .ok (.ireturn, 1) := by decide +kernel
set_option maxRecDepth 20000 in
theorem ggX2_reasonOnDay_X2_hasPrisoner : GoodIn wsX2_reasonOnDay wsX2_hasPrisoner := goodIn_r _ [12, 13, 30, 31, 32, 33, 34, 35, 36, 37, 38, 39, 40, 41, 42, 43, 44] (by decide +kernel) (by decide +kernel)
set_option maxRecDepth 20000 in
theorem gX2_reasonOnDay_X2_hasPrisoner : GoodIn wsX2_reasonOnDay (wsV RX2 87 RX2 yX2_hasPrisoner wsX2_hasPrisoner) := goodIn_app (goodIn_of _ (by decide +kernel)) ggX2_reasonOnDay_X2_hasPrisoner
set_option maxRecDepth 20000 in
theorem ggX2_reasonOnDay_X2_hasVisitor : GoodIn wsX2_reasonOnDay wsX2_hasVisitor := goodIn_r _ [16] (by decide +kernel) (by decide +kernel)
set_option maxRecDepth 20000 in
theorem gX2_reasonOnDay_X2_hasVisitor : GoodIn wsX2_reasonOnDay (va_wsS RX2 91 yX2_hasVisitor wsX2_hasVisitor) := goodIn_app (goodIn_of _ (by decide +kernel)) ggX2_reasonOnDay_X2_hasVisitor
set_option maxRecDepth 20000 in
theorem ggX2_reasonOnDay_X7_hasBit : GoodIn wsX2_reasonOnDay wsX7_hasBit := goodIn_r _ [19] (by decide +kernel) (by decide +kernel)
set_option maxRecDepth 20000 in
theorem gX2_reasonOnDay_X7_hasBit_n115 : GoodIn wsX2_reasonOnDay (wsX7_hasBit) := ggX2_reasonOnDay_X7_hasBit
set_option maxRecDepth 20000 in
theorem ggX2_reasonOnDay_X2_weekOf : GoodIn wsX2_reasonOnDay wsX2_weekOf := goodIn_r _ [22] (by decide +kernel) (by decide +kernel)
set_option maxRecDepth 20000 in
theorem gX2_reasonOnDay_X2_weekOf : GoodIn wsX2_reasonOnDay (va_wsS RX2 102 yX2_weekOf wsX2_weekOf) := goodIn_app (goodIn_of _ (by decide +kernel)) ggX2_reasonOnDay_X2_weekOf
set_option maxRecDepth 20000 in
theorem ggX2_reasonOnDay_X0_countInWeek : GoodIn wsX2_reasonOnDay wsX0_countInWeek := goodIn_r _ [27, 28, 29, 45, 46] (by decide +kernel) (by decide +kernel)
set_option maxRecDepth 20000 in
theorem gX2_reasonOnDay_X0_countInWeek : GoodIn wsX2_reasonOnDay (wsV RX2 106 RX0 yX0_countInWeek wsX0_countInWeek) := goodIn_app (goodIn_of _ (by decide +kernel)) ggX2_reasonOnDay_X0_countInWeek
theorem dX2_reasonOnDay_0 : decode cX2_reasonOnDay 0 = .ok (.aload_n 0, 1) := by decide +kernel
theorem dX2_reasonOnDay_1 : decode cX2_reasonOnDay 1 = .ok (.iload_n 1, 1) := by decide +kernel
theorem dX2_reasonOnDay_2 : decode cX2_reasonOnDay 2 = .ok (.invokevirtual 87, 3) := by decide +kernel
theorem dX2_reasonOnDay_5 : decode cX2_reasonOnDay 5 = .ok (.ifCond .eq 23, 3) := by decide +kernel
theorem dX2_reasonOnDay_8 : decode cX2_reasonOnDay 8 = .ok (.iload_n 2, 1) := by decide +kernel
theorem dX2_reasonOnDay_9 : decode cX2_reasonOnDay 9 = .ok (.invokestatic 91, 3) := by decide +kernel
theorem dX2_reasonOnDay_12 : decode cX2_reasonOnDay 12 = .ok (.ifCond .eq 16, 3) := by decide +kernel
theorem dX2_reasonOnDay_15 : decode cX2_reasonOnDay 15 = .ok (.aload_n 0, 1) := by decide +kernel
theorem dX2_reasonOnDay_16 : decode cX2_reasonOnDay 16 = .ok (.getfield 15, 3) := by decide +kernel
theorem dX2_reasonOnDay_19 : decode cX2_reasonOnDay 19 = .ok (.iload_n 1, 1) := by decide +kernel
theorem dX2_reasonOnDay_20 : decode cX2_reasonOnDay 20 = .ok (.iaload, 1) := by decide +kernel
theorem dX2_reasonOnDay_21 : decode cX2_reasonOnDay 21 = .ok (.iload_n 2, 1) := by decide +kernel
theorem dX2_reasonOnDay_22 : decode cX2_reasonOnDay 22 = .ok (.invokestatic 115, 3) := by decide +kernel
theorem dX2_reasonOnDay_25 : decode cX2_reasonOnDay 25 = .ok (.ifCond .ne 5, 3) := by decide +kernel
theorem dX2_reasonOnDay_28 : decode cX2_reasonOnDay 28 = .ok (.iconst 1, 1) := by decide +kernel
theorem dX2_reasonOnDay_29 : decode cX2_reasonOnDay 29 = .ok (.ireturn, 1) := by decide +kernel
theorem dX2_reasonOnDay_30 : decode cX2_reasonOnDay 30 = .ok (.iload_n 3, 1) := by decide +kernel
theorem dX2_reasonOnDay_31 : decode cX2_reasonOnDay 31 = .ok (.aload_n 0, 1) := by decide +kernel
theorem dX2_reasonOnDay_32 : decode cX2_reasonOnDay 32 = .ok (.getfield 18, 3) := by decide +kernel
theorem dX2_reasonOnDay_35 : decode cX2_reasonOnDay 35 = .ok (.iload_n 1, 1) := by decide +kernel
theorem dX2_reasonOnDay_36 : decode cX2_reasonOnDay 36 = .ok (.iaload, 1) := by decide +kernel
theorem dX2_reasonOnDay_37 : decode cX2_reasonOnDay 37 = .ok (.if_icmp .ge 5, 3) := by decide +kernel
theorem dX2_reasonOnDay_40 : decode cX2_reasonOnDay 40 = .ok (.iconst 2, 1) := by decide +kernel
theorem dX2_reasonOnDay_41 : decode cX2_reasonOnDay 41 = .ok (.ireturn, 1) := by decide +kernel
theorem dX2_reasonOnDay_42 : decode cX2_reasonOnDay 42 = .ok (.iload_n 3, 1) := by decide +kernel
theorem dX2_reasonOnDay_43 : decode cX2_reasonOnDay 43 = .ok (.aload_n 0, 1) := by decide +kernel
theorem dX2_reasonOnDay_44 : decode cX2_reasonOnDay 44 = .ok (.getfield 33, 3) := by decide +kernel
theorem dX2_reasonOnDay_47 : decode cX2_reasonOnDay 47 = .ok (.iload_n 2, 1) := by decide +kernel
theorem dX2_reasonOnDay_48 : decode cX2_reasonOnDay 48 = .ok (.iaload, 1) := by decide +kernel
theorem dX2_reasonOnDay_49 : decode cX2_reasonOnDay 49 = .ok (.if_icmp .ge 5, 3) := by decide +kernel
theorem dX2_reasonOnDay_52 : decode cX2_reasonOnDay 52 = .ok (.iconst 3, 1) := by decide +kernel
theorem dX2_reasonOnDay_53 : decode cX2_reasonOnDay 53 = .ok (.ireturn, 1) := by decide +kernel
theorem dX2_reasonOnDay_54 : decode cX2_reasonOnDay 54 = .ok (.iload_n 3, 1) := by decide +kernel
theorem dX2_reasonOnDay_55 : decode cX2_reasonOnDay 55 = .ok (.invokestatic 102, 3) := by decide +kernel
theorem dX2_reasonOnDay_58 : decode cX2_reasonOnDay 58 = .ok (.aload_n 0, 1) := by decide +kernel
theorem dX2_reasonOnDay_59 : decode cX2_reasonOnDay 59 = .ok (.getfield 64, 3) := by decide +kernel
theorem dX2_reasonOnDay_62 : decode cX2_reasonOnDay 62 = .ok (.invokestatic 102, 3) := by decide +kernel
theorem dX2_reasonOnDay_65 : decode cX2_reasonOnDay 65 = .ok (.if_icmp .ne 12, 3) := by decide +kernel
theorem dX2_reasonOnDay_68 : decode cX2_reasonOnDay 68 = .ok (.aload_n 0, 1) := by decide +kernel
theorem dX2_reasonOnDay_69 : decode cX2_reasonOnDay 69 = .ok (.getfield 24, 3) := by decide +kernel
theorem dX2_reasonOnDay_72 : decode cX2_reasonOnDay 72 = .ok (.iload_n 1, 1) := by decide +kernel
theorem dX2_reasonOnDay_73 : decode cX2_reasonOnDay 73 = .ok (.iaload, 1) := by decide +kernel
theorem dX2_reasonOnDay_74 : decode cX2_reasonOnDay 74 = .ok (.goto 4, 3) := by decide +kernel
theorem dX2_reasonOnDay_77 : decode cX2_reasonOnDay 77 = .ok (.iconst 0, 1) := by decide +kernel
theorem dX2_reasonOnDay_78 : decode cX2_reasonOnDay 78 = .ok (.istore 4, 2) := by decide +kernel
theorem dX2_reasonOnDay_80 : decode cX2_reasonOnDay 80 = .ok (.iload 4, 2) := by decide +kernel
theorem dX2_reasonOnDay_82 : decode cX2_reasonOnDay 82 = .ok (.aload_n 0, 1) := by decide +kernel
theorem dX2_reasonOnDay_83 : decode cX2_reasonOnDay 83 = .ok (.getfield 39, 3) := by decide +kernel
theorem dX2_reasonOnDay_86 : decode cX2_reasonOnDay 86 = .ok (.iload_n 1, 1) := by decide +kernel
theorem dX2_reasonOnDay_87 : decode cX2_reasonOnDay 87 = .ok (.iload_n 3, 1) := by decide +kernel
theorem dX2_reasonOnDay_88 : decode cX2_reasonOnDay 88 = .ok (.invokestatic 102, 3) := by decide +kernel
theorem dX2_reasonOnDay_91 : decode cX2_reasonOnDay 91 = .ok (.invokevirtual 106, 3) := by decide +kernel
theorem dX2_reasonOnDay_94 : decode cX2_reasonOnDay 94 = .ok (.iadd, 1) := by decide +kernel
theorem dX2_reasonOnDay_95 : decode cX2_reasonOnDay 95 = .ok (.aload_n 0, 1) := by decide +kernel
theorem dX2_reasonOnDay_96 : decode cX2_reasonOnDay 96 = .ok (.getfield 11, 3) := by decide +kernel
theorem dX2_reasonOnDay_99 : decode cX2_reasonOnDay 99 = .ok (.iload_n 1, 1) := by decide +kernel
theorem dX2_reasonOnDay_100 : decode cX2_reasonOnDay 100 = .ok (.iaload, 1) := by decide +kernel
theorem dX2_reasonOnDay_101 : decode cX2_reasonOnDay 101 = .ok (.if_icmp .le 7, 3) := by decide +kernel
theorem dX2_reasonOnDay_104 : decode cX2_reasonOnDay 104 = .ok (.iconst 4, 1) := by decide +kernel
theorem dX2_reasonOnDay_105 : decode cX2_reasonOnDay 105 = .ok (.goto 4, 3) := by decide +kernel
theorem dX2_reasonOnDay_108 : decode cX2_reasonOnDay 108 = .ok (.iconst 0, 1) := by decide +kernel
theorem dX2_reasonOnDay_109 : decode cX2_reasonOnDay 109 = .ok (.ireturn, 1) := by decide +kernel
set_option maxRecDepth 20000 in
theorem ggX2_reasonInHour_X0_valuesInHour : GoodIn wsX2_reasonInHour wsX0_valuesInHour := goodIn_r _ [8, 9, 10, 39, 40] (by decide +kernel) (by decide +kernel)
set_option maxRecDepth 20000 in
theorem gX2_reasonInHour_X0_valuesInHour : GoodIn wsX2_reasonInHour (wsV RX2 160 RX0 yX0_valuesInHour wsX0_valuesInHour) := goodIn_app (goodIn_of _ (by decide +kernel)) ggX2_reasonInHour_X0_valuesInHour
set_option maxRecDepth 20000 in
theorem ggX2_reasonInHour_X7_hasBit : GoodIn wsX2_reasonInHour wsX7_hasBit := goodIn_r _ [13] (by decide +kernel) (by decide +kernel)
set_option maxRecDepth 20000 in
theorem gX2_reasonInHour_X7_hasBit_n115 : GoodIn wsX2_reasonInHour (wsX7_hasBit) := ggX2_reasonInHour_X7_hasBit
set_option maxRecDepth 20000 in
theorem ggX2_reasonInHour_X2_hasPrisoner : GoodIn wsX2_reasonInHour wsX2_hasPrisoner := goodIn_r _ [18, 19, 24, 25, 26, 27, 28, 29, 30, 31, 32, 33, 34, 35, 36, 37, 38] (by decide +kernel) (by decide +kernel)
set_option maxRecDepth 20000 in
theorem gX2_reasonInHour_X2_hasPrisoner : GoodIn wsX2_reasonInHour (wsV RX2 87 RX2 yX2_hasPrisoner wsX2_hasPrisoner) := goodIn_app (goodIn_of _ (by decide +kernel)) ggX2_reasonInHour_X2_hasPrisoner
set_option maxRecDepth 20000 in
theorem ggX2_reasonInHour_X0_isFull : GoodIn wsX2_reasonInHour wsX0_isFull := goodIn_r _ [23, 9, 39, 40] (by decide +kernel) (by decide +kernel)
set_option maxRecDepth 20000 in
theorem gX2_reasonInHour_X0_isFull : GoodIn wsX2_reasonInHour (wsV RX2 163 RX0 yX0_isFull wsX0_isFull) := goodIn_app (goodIn_of _ (by decide +kernel)) ggX2_reasonInHour_X0_isFull
theorem dX2_reasonInHour_0 : decode cX2_reasonInHour 0 = .ok (.aload_n 0, 1) := by decide +kernel
theorem dX2_reasonInHour_1 : decode cX2_reasonInHour 1 = .ok (.getfield 39, 3) := by decide +kernel
theorem dX2_reasonInHour_4 : decode cX2_reasonInHour 4 = .ok (.iconst 3, 1) := by decide +kernel
theorem dX2_reasonInHour_5 : decode cX2_reasonInHour 5 = .ok (.iload_n 3, 1) := by decide +kernel
theorem dX2_reasonInHour_6 : decode cX2_reasonInHour 6 = .ok (.iload 4, 2) := by decide +kernel
theorem dX2_reasonInHour_8 : decode cX2_reasonInHour 8 = .ok (.invokevirtual 160, 3) := by decide +kernel
theorem dX2_reasonInHour_11 : decode cX2_reasonInHour 11 = .ok (.istore 5, 2) := by decide +kernel
theorem dX2_reasonInHour_13 : decode cX2_reasonInHour 13 = .ok (.aload_n 0, 1) := by decide +kernel
theorem dX2_reasonInHour_14 : decode cX2_reasonInHour 14 = .ok (.getfield 39, 3) := by decide +kernel
theorem dX2_reasonInHour_17 : decode cX2_reasonInHour 17 = .ok (.iconst 4, 1) := by decide +kernel
theorem dX2_reasonInHour_18 : decode cX2_reasonInHour 18 = .ok (.iload_n 3, 1) := by decide +kernel
theorem dX2_reasonInHour_19 : decode cX2_reasonInHour 19 = .ok (.iload 4, 2) := by decide +kernel
theorem dX2_reasonInHour_21 : decode cX2_reasonInHour 21 = .ok (.invokevirtual 160, 3) := by decide +kernel
theorem dX2_reasonInHour_24 : decode cX2_reasonInHour 24 = .ok (.istore 6, 2) := by decide +kernel
theorem dX2_reasonInHour_26 : decode cX2_reasonInHour 26 = .ok (.iload 5, 2) := by decide +kernel
theorem dX2_reasonInHour_28 : decode cX2_reasonInHour 28 = .ok (.iload_n 1, 1) := by decide +kernel
theorem dX2_reasonInHour_29 : decode cX2_reasonInHour 29 = .ok (.invokestatic 115, 3) := by decide +kernel
theorem dX2_reasonInHour_32 : decode cX2_reasonInHour 32 = .ok (.ifCond .ne 12, 3) := by decide +kernel
theorem dX2_reasonInHour_35 : decode cX2_reasonInHour 35 = .ok (.iload 6, 2) := by decide +kernel
theorem dX2_reasonInHour_37 : decode cX2_reasonInHour 37 = .ok (.iload_n 2, 1) := by decide +kernel
theorem dX2_reasonInHour_38 : decode cX2_reasonInHour 38 = .ok (.invokestatic 115, 3) := by decide +kernel
theorem dX2_reasonInHour_41 : decode cX2_reasonInHour 41 = .ok (.ifCond .eq 5, 3) := by decide +kernel
theorem dX2_reasonInHour_44 : decode cX2_reasonInHour 44 = .ok (.iconst 5, 1) := by decide +kernel
theorem dX2_reasonInHour_45 : decode cX2_reasonInHour 45 = .ok (.ireturn, 1) := by decide +kernel
theorem dX2_reasonInHour_46 : decode cX2_reasonInHour 46 = .ok (.aload_n 0, 1) := by decide +kernel
theorem dX2_reasonInHour_47 : decode cX2_reasonInHour 47 = .ok (.iload_n 1, 1) := by decide +kernel
theorem dX2_reasonInHour_48 : decode cX2_reasonInHour 48 = .ok (.invokevirtual 87, 3) := by decide +kernel
theorem dX2_reasonInHour_51 : decode cX2_reasonInHour 51 = .ok (.ifCond .eq 18, 3) := by decide +kernel
theorem dX2_reasonInHour_54 : decode cX2_reasonInHour 54 = .ok (.iload 5, 2) := by decide +kernel
theorem dX2_reasonInHour_56 : decode cX2_reasonInHour 56 = .ok (.aload_n 0, 1) := by decide +kernel
theorem dX2_reasonInHour_57 : decode cX2_reasonInHour 57 = .ok (.getfield 27, 3) := by decide +kernel
theorem dX2_reasonInHour_60 : decode cX2_reasonInHour 60 = .ok (.iload_n 1, 1) := by decide +kernel
theorem dX2_reasonInHour_61 : decode cX2_reasonInHour 61 = .ok (.iaload, 1) := by decide +kernel
theorem dX2_reasonInHour_62 : decode cX2_reasonInHour 62 = .ok (.iand, 1) := by decide +kernel
theorem dX2_reasonInHour_63 : decode cX2_reasonInHour 63 = .ok (.ifCond .eq 6, 3) := by decide +kernel
theorem dX2_reasonInHour_66 : decode cX2_reasonInHour 66 = .ok (.bipush 6, 2) := by decide +kernel
theorem dX2_reasonInHour_68 : decode cX2_reasonInHour 68 = .ok (.ireturn, 1) := by decide +kernel
theorem dX2_reasonInHour_69 : decode cX2_reasonInHour 69 = .ok (.iconst 1, 1) := by decide +kernel
theorem dX2_reasonInHour_70 : decode cX2_reasonInHour 70 = .ok (.aload_n 0, 1) := by decide +kernel
theorem dX2_reasonInHour_71 : decode cX2_reasonInHour 71 = .ok (.getfield 61, 3) := by decide +kernel
theorem dX2_reasonInHour_74 : decode cX2_reasonInHour 74 = .ok (.iconst 0, 1) := by decide +kernel
theorem dX2_reasonInHour_75 : decode cX2_reasonInHour 75 = .ok (.iaload, 1) := by decide +kernel
theorem dX2_reasonInHour_76 : decode cX2_reasonInHour 76 = .ok (.ishl, 1) := by decide +kernel
theorem dX2_reasonInHour_77 : decode cX2_reasonInHour 77 = .ok (.iconst 1, 1) := by decide +kernel
theorem dX2_reasonInHour_78 : decode cX2_reasonInHour 78 = .ok (.isub, 1) := by decide +kernel
theorem dX2_reasonInHour_79 : decode cX2_reasonInHour 79 = .ok (.istore 7, 2) := by decide +kernel
theorem dX2_reasonInHour_81 : decode cX2_reasonInHour 81 = .ok (.aload_n 0, 1) := by decide +kernel
theorem dX2_reasonInHour_82 : decode cX2_reasonInHour 82 = .ok (.getfield 39, 3) := by decide +kernel
theorem dX2_reasonInHour_85 : decode cX2_reasonInHour 85 = .ok (.iconst 2, 1) := by decide +kernel
theorem dX2_reasonInHour_86 : decode cX2_reasonInHour 86 = .ok (.iload_n 3, 1) := by decide +kernel
theorem dX2_reasonInHour_87 : decode cX2_reasonInHour 87 = .ok (.iload 4, 2) := by decide +kernel
theorem dX2_reasonInHour_89 : decode cX2_reasonInHour 89 = .ok (.invokevirtual 160, 3) := by decide +kernel
theorem dX2_reasonInHour_92 : decode cX2_reasonInHour 92 = .ok (.iload 7, 2) := by decide +kernel
theorem dX2_reasonInHour_94 : decode cX2_reasonInHour 94 = .ok (.iand, 1) := by decide +kernel
theorem dX2_reasonInHour_95 : decode cX2_reasonInHour 95 = .ok (.iload 7, 2) := by decide +kernel
theorem dX2_reasonInHour_97 : decode cX2_reasonInHour 97 = .ok (.if_icmp .ne 6, 3) := by decide +kernel
theorem dX2_reasonInHour_100 : decode cX2_reasonInHour 100 = .ok (.bipush 7, 2) := by decide +kernel
theorem dX2_reasonInHour_102 : decode cX2_reasonInHour 102 = .ok (.ireturn, 1) := by decide +kernel
theorem dX2_reasonInHour_103 : decode cX2_reasonInHour 103 = .ok (.aload_n 0, 1) := by decide +kernel
theorem dX2_reasonInHour_104 : decode cX2_reasonInHour 104 = .ok (.getfield 39, 3) := by decide +kernel
theorem dX2_reasonInHour_107 : decode cX2_reasonInHour 107 = .ok (.invokevirtual 163, 3) := by decide +kernel
theorem dX2_reasonInHour_110 : decode cX2_reasonInHour 110 = .ok (.ifCond .eq 8, 3) := by decide +kernel
theorem dX2_reasonInHour_113 : decode cX2_reasonInHour 113 = .ok (.bipush 8, 2) := by decide +kernel
theorem dX2_reasonInHour_115 : decode cX2_reasonInHour 115 = .ok (.goto 4, 3) := by decide +kernel
theorem dX2_reasonInHour_118 : decode cX2_reasonInHour 118 = .ok (.iconst 0, 1) := by decide +kernel
theorem dX2_reasonInHour_119 : decode cX2_reasonInHour 119 = .ok (.ireturn, 1) := by decide +kernel
set_option maxRecDepth 20000 in
theorem ggX2_earliest_X0_isFull : GoodIn wsX2_earliest wsX0_isFull := goodIn_r _ [7, 8, 63, 64] (by decide +kernel) (by decide +kernel)
set_option maxRecDepth 20000 in
theorem gX2_earliest_X0_isFull : GoodIn wsX2_earliest (wsV RX2 163 RX0 yX0_isFull wsX0_isFull) := goodIn_app (goodIn_of _ (by decide +kernel)) ggX2_earliest_X0_isFull
set_option maxRecDepth 20000 in
theorem ggX2_earliest_X2_reasonOnDay : GoodIn wsX2_earliest wsX2_reasonOnDay := goodIn_r _ [13, 14, 15, 16, 2, 17, 1, 18, 19, 20, 21, 12, 22, 23, 24, 25, 26, 27, 28, 29, 30, 31, 32, 33, 34, 35, 6, 36, 8, 37, 48, 49, 50, 51, 52, 53, 54, 55, 56, 57, 58, 59, 60, 61, 62, 63, 64] (by decide +kernel) (by decide +kernel)
set_option maxRecDepth 20000 in
theorem gX2_earliest_X2_reasonOnDay : GoodIn wsX2_earliest (wsV RX2 152 RX2 yX2_reasonOnDay wsX2_reasonOnDay) := goodIn_app (goodIn_of _ (by decide +kernel)) ggX2_earliest_X2_reasonOnDay
set_option maxRecDepth 20000 in
theorem ggX2_earliest_X2_reasonInHour : GoodIn wsX2_earliest wsX2_reasonInHour := goodIn_r _ [41, 1, 42, 43, 44, 45, 46, 6, 47, 8, 37, 27, 28, 29, 19, 20, 21, 12, 22, 23, 3, 4, 5, 7, 48, 49, 50, 51, 52, 53, 54, 55, 56, 57, 58, 59, 60, 61, 62, 63, 64] (by decide +kernel) (by decide +kernel)
set_option maxRecDepth 20000 in
theorem gX2_earliest_X2_reasonInHour : GoodIn wsX2_earliest (wsV RX2 156 RX2 yX2_reasonInHour wsX2_reasonInHour) := goodIn_app (goodIn_of _ (by decide +kernel)) ggX2_earliest_X2_reasonInHour
theorem dX2_earliest_0 : decode cX2_earliest 0 = .ok (.aload_n 0, 1) := by decide +kernel
theorem dX2_earliest_1 : decode cX2_earliest 1 = .ok (.getfield 39, 3) := by decide +kernel
theorem dX2_earliest_4 : decode cX2_earliest 4 = .ok (.invokevirtual 163, 3) := by decide +kernel
theorem dX2_earliest_7 : decode cX2_earliest 7 = .ok (.ifCond .eq 5, 3) := by decide +kernel
theorem dX2_earliest_10 : decode cX2_earliest 10 = .ok (.iconst (-1), 1) := by decide +kernel
theorem dX2_earliest_11 : decode cX2_earliest 11 = .ok (.ireturn, 1) := by decide +kernel
theorem dX2_earliest_12 : decode cX2_earliest 12 = .ok (.aload_n 0, 1) := by decide +kernel
theorem dX2_earliest_13 : decode cX2_earliest 13 = .ok (.getfield 64, 3) := by decide +kernel
theorem dX2_earliest_16 : decode cX2_earliest 16 = .ok (.istore 4, 2) := by decide +kernel
theorem dX2_earliest_18 : decode cX2_earliest 18 = .ok (.iload 4, 2) := by decide +kernel
theorem dX2_earliest_20 : decode cX2_earliest 20 = .ok (.aload_n 0, 1) := by decide +kernel
theorem dX2_earliest_21 : decode cX2_earliest 21 = .ok (.getfield 64, 3) := by decide +kernel
theorem dX2_earliest_24 : decode cX2_earliest 24 = .ok (.iload_n 3, 1) := by decide +kernel
theorem dX2_earliest_25 : decode cX2_earliest 25 = .ok (.iadd, 1) := by decide +kernel
theorem dX2_earliest_26 : decode cX2_earliest 26 = .ok (.if_icmp .ge 70, 3) := by decide +kernel
theorem dX2_earliest_29 : decode cX2_earliest 29 = .ok (.aload_n 0, 1) := by decide +kernel
theorem dX2_earliest_30 : decode cX2_earliest 30 = .ok (.iload_n 1, 1) := by decide +kernel
theorem dX2_earliest_31 : decode cX2_earliest 31 = .ok (.iload_n 2, 1) := by decide +kernel
theorem dX2_earliest_32 : decode cX2_earliest 32 = .ok (.iload 4, 2) := by decide +kernel
theorem dX2_earliest_34 : decode cX2_earliest 34 = .ok (.invokevirtual 152, 3) := by decide +kernel
theorem dX2_earliest_37 : decode cX2_earliest 37 = .ok (.ifCond .ne 7, 3) := by decide +kernel
theorem dX2_earliest_40 : decode cX2_earliest 40 = .ok (.iconst 1, 1) := by decide +kernel
theorem dX2_earliest_41 : decode cX2_earliest 41 = .ok (.goto 4, 3) := by decide +kernel
theorem dX2_earliest_44 : decode cX2_earliest 44 = .ok (.iconst 0, 1) := by decide +kernel
theorem dX2_earliest_45 : decode cX2_earliest 45 = .ok (.istore 5, 2) := by decide +kernel
theorem dX2_earliest_47 : decode cX2_earliest 47 = .ok (.iconst 0, 1) := by decide +kernel
theorem dX2_earliest_48 : decode cX2_earliest 48 = .ok (.istore 6, 2) := by decide +kernel
theorem dX2_earliest_50 : decode cX2_earliest 50 = .ok (.iload 5, 2) := by decide +kernel
theorem dX2_earliest_52 : decode cX2_earliest 52 = .ok (.ifCond .eq 38, 3) := by decide +kernel
theorem dX2_earliest_55 : decode cX2_earliest 55 = .ok (.iload 6, 2) := by decide +kernel
theorem dX2_earliest_57 : decode cX2_earliest 57 = .ok (.bipush 8, 2) := by decide +kernel
theorem dX2_earliest_59 : decode cX2_earliest 59 = .ok (.if_icmp .ge 31, 3) := by decide +kernel
theorem dX2_earliest_62 : decode cX2_earliest 62 = .ok (.aload_n 0, 1) := by decide +kernel
theorem dX2_earliest_63 : decode cX2_earliest 63 = .ok (.iload_n 1, 1) := by decide +kernel
theorem dX2_earliest_64 : decode cX2_earliest 64 = .ok (.iload_n 2, 1) := by decide +kernel
theorem dX2_earliest_65 : decode cX2_earliest 65 = .ok (.iload 4, 2) := by decide +kernel
theorem dX2_earliest_67 : decode cX2_earliest 67 = .ok (.iload 6, 2) := by decide +kernel
theorem dX2_earliest_69 : decode cX2_earliest 69 = .ok (.invokevirtual 156, 3) := by decide +kernel
theorem dX2_earliest_72 : decode cX2_earliest 72 = .ok (.ifCond .ne 12, 3) := by decide +kernel
theorem dX2_earliest_75 : decode cX2_earliest 75 = .ok (.bipush 8, 2) := by decide +kernel
theorem dX2_earliest_77 : decode cX2_earliest 77 = .ok (.iload 4, 2) := by decide +kernel
theorem dX2_earliest_79 : decode cX2_earliest 79 = .ok (.imul, 1) := by decide +kernel
theorem dX2_earliest_80 : decode cX2_earliest 80 = .ok (.iload 6, 2) := by decide +kernel
theorem dX2_earliest_82 : decode cX2_earliest 82 = .ok (.iadd, 1) := by decide +kernel
theorem dX2_earliest_83 : decode cX2_earliest 83 = .ok (.ireturn, 1) := by decide +kernel
theorem dX2_earliest_84 : decode cX2_earliest 84 = .ok (.iinc 6 1, 3) := by decide +kernel
theorem dX2_earliest_87 : decode cX2_earliest 87 = .ok (.goto (-37), 3) := by decide +kernel
theorem dX2_earliest_90 : decode cX2_earliest 90 = .ok (.iinc 4 1, 3) := by decide +kernel
theorem dX2_earliest_93 : decode cX2_earliest 93 = .ok (.goto (-75), 3) := by decide +kernel
theorem dX2_earliest_96 : decode cX2_earliest 96 = .ok (.iconst (-1), 1) := by decide +kernel
theorem dX2_earliest_97 : decode cX2_earliest 97 = .ok (.ireturn, 1) := by decide +kernel
set_option maxRecDepth 20000 in
theorem ggX2_tryAdd_X7_isBetween : GoodIn wsX2_tryAdd wsX7_isBetween := goodIn_r _ [5] (by decide +kernel) (by decide +kernel)
set_option maxRecDepth 20000 in
theorem gX2_tryAdd_X7_isBetween_n167 : GoodIn wsX2_tryAdd (wsX7_isBetween) := ggX2_tryAdd_X7_isBetween
theorem dX2_tryAdd_0 : decode cX2_tryAdd 0 = .ok (.iload_n 1, 1) := by decide +kernel
theorem dX2_tryAdd_1 : decode cX2_tryAdd 1 = .ok (.iconst 0, 1) := by decide +kernel
theorem dX2_tryAdd_2 : decode cX2_tryAdd 2 = .ok (.iconst 3, 1) := by decide +kernel
theorem dX2_tryAdd_3 : decode cX2_tryAdd 3 = .ok (.invokestatic 167, 3) := by decide +kernel
theorem dX2_tryAdd_6 : decode cX2_tryAdd 6 = .ok (.ifCond .ne 6, 3) := by decide +kernel
theorem dX2_tryAdd_9 : decode cX2_tryAdd 9 = .ok (.bipush (-2), 2) := by decide +kernel
theorem dX2_tryAdd_11 : decode cX2_tryAdd 11 = .ok (.ireturn, 1) := by decide +kernel
theorem dX2_tryAdd_12 : decode cX2_tryAdd 12 = .ok (.aload_n 0, 1) := by decide +kernel
theorem dX2_tryAdd_13 : decode cX2_tryAdd 13 = .ok (.getfield 68, 3) := by decide +kernel
theorem dX2_tryAdd_16 : decode cX2_tryAdd 16 = .ok (.ifCond .lt 12, 3) := by decide +kernel
theorem dX2_tryAdd_19 : decode cX2_tryAdd 19 = .ok (.aload_n 0, 1) := by decide +kernel
theorem dX2_tryAdd_20 : decode cX2_tryAdd 20 = .ok (.getfield 68, 3) := by decide +kernel
theorem dX2_tryAdd_23 : decode cX2_tryAdd 23 = .ok (.bipush 8, 2) := by decide +kernel
theorem dX2_tryAdd_25 : decode cX2_tryAdd 25 = .ok (.if_icmp .lt 6, 3) := by decide +kernel
theorem dX2_tryAdd_28 : decode cX2_tryAdd 28 = .ok (.bipush (-3), 2) := by decide +kernel
theorem dX2_tryAdd_30 : decode cX2_tryAdd 30 = .ok (.ireturn, 1) := by decide +kernel
theorem dX2_tryAdd_31 : decode cX2_tryAdd 31 = .ok (.aload_n 0, 1) := by decide +kernel
theorem dX2_tryAdd_32 : decode cX2_tryAdd 32 = .ok (.getfield 11, 3) := by decide +kernel
theorem dX2_tryAdd_35 : decode cX2_tryAdd 35 = .ok (.aload_n 0, 1) := by decide +kernel
theorem dX2_tryAdd_36 : decode cX2_tryAdd 36 = .ok (.getfield 68, 3) := by decide +kernel
theorem dX2_tryAdd_39 : decode cX2_tryAdd 39 = .ok (.iload_n 1, 1) := by decide +kernel
theorem dX2_tryAdd_40 : decode cX2_tryAdd 40 = .ok (.iastore, 1) := by decide +kernel
theorem dX2_tryAdd_41 : decode cX2_tryAdd 41 = .ok (.aload_n 0, 1) := by decide +kernel
theorem dX2_tryAdd_42 : decode cX2_tryAdd 42 = .ok (.dup, 1) := by decide +kernel
theorem dX2_tryAdd_43 : decode cX2_tryAdd 43 = .ok (.getfield 68, 3) := by decide +kernel
theorem dX2_tryAdd_46 : decode cX2_tryAdd 46 = .ok (.iconst 1, 1) := by decide +kernel
theorem dX2_tryAdd_47 : decode cX2_tryAdd 47 = .ok (.iadd, 1) := by decide +kernel
theorem dX2_tryAdd_48 : decode cX2_tryAdd 48 = .ok (.putfield 68, 3) := by decide +kernel
theorem dX2_tryAdd_51 : decode cX2_tryAdd 51 = .ok (.aload_n 0, 1) := by decide +kernel
theorem dX2_tryAdd_52 : decode cX2_tryAdd 52 = .ok (.getfield 68, 3) := by decide +kernel
theorem dX2_tryAdd_55 : decode cX2_tryAdd 55 = .ok (.iconst 1, 1) := by decide +kernel
theorem dX2_tryAdd_56 : decode cX2_tryAdd 56 = .ok (.isub, 1) := by decide +kernel
theorem dX2_tryAdd_57 : decode cX2_tryAdd 57 = .ok (.ireturn, 1) := by decide +kernel
set_option maxRecDepth 20000 in
theorem ggX2_tryPromote_X2_hasPrisoner : GoodIn wsX2_tryPromote wsX2_hasPrisoner := goodIn_r _ [6, 7, 11, 12, 13, 14, 15, 16, 17, 18, 19, 20, 21, 22, 23, 24, 25] (by decide +kernel) (by decide +kernel)
set_option maxRecDepth 20000 in
theorem gX2_tryPromote_X2_hasPrisoner : GoodIn wsX2_tryPromote (wsV RX2 87 RX2 yX2_hasPrisoner wsX2_hasPrisoner) := goodIn_app (goodIn_of _ (by decide +kernel)) ggX2_tryPromote_X2_hasPrisoner
set_option maxRecDepth 20000 in
theorem ggX2_tryPromote_X7_isBetween : GoodIn wsX2_tryPromote wsX7_isBetween := goodIn_r _ [10] (by decide +kernel) (by decide +kernel)
set_option maxRecDepth 20000 in
theorem gX2_tryPromote_X7_isBetween_n167 : GoodIn wsX2_tryPromote (wsX7_isBetween) := ggX2_tryPromote_X7_isBetween
theorem dX2_tryPromote_0 : decode cX2_tryPromote 0 = .ok (.aload_n 0, 1) := by decide +kernel
theorem dX2_tryPromote_1 : decode cX2_tryPromote 1 = .ok (.iload_n 1, 1) := by decide +kernel
theorem dX2_tryPromote_2 : decode cX2_tryPromote 2 = .ok (.invokevirtual 87, 3) := by decide +kernel
theorem dX2_tryPromote_5 : decode cX2_tryPromote 5 = .ok (.ifCond .ne 5, 3) := by decide +kernel
theorem dX2_tryPromote_8 : decode cX2_tryPromote 8 = .ok (.iconst (-1), 1) := by decide +kernel
theorem dX2_tryPromote_9 : decode cX2_tryPromote 9 = .ok (.ireturn, 1) := by decide +kernel
theorem dX2_tryPromote_10 : decode cX2_tryPromote 10 = .ok (.iload_n 2, 1) := by decide +kernel
theorem dX2_tryPromote_11 : decode cX2_tryPromote 11 = .ok (.iconst 0, 1) := by decide +kernel
theorem dX2_tryPromote_12 : decode cX2_tryPromote 12 = .ok (.iconst 3, 1) := by decide +kernel
theorem dX2_tryPromote_13 : decode cX2_tryPromote 13 = .ok (.invokestatic 167, 3) := by decide +kernel
theorem dX2_tryPromote_16 : decode cX2_tryPromote 16 = .ok (.ifCond .ne 6, 3) := by decide +kernel
theorem dX2_tryPromote_19 : decode cX2_tryPromote 19 = .ok (.bipush (-2), 2) := by decide +kernel
theorem dX2_tryPromote_21 : decode cX2_tryPromote 21 = .ok (.ireturn, 1) := by decide +kernel
theorem dX2_tryPromote_22 : decode cX2_tryPromote 22 = .ok (.aload_n 0, 1) := by decide +kernel
theorem dX2_tryPromote_23 : decode cX2_tryPromote 23 = .ok (.getfield 11, 3) := by decide +kernel
theorem dX2_tryPromote_26 : decode cX2_tryPromote 26 = .ok (.iload_n 1, 1) := by decide +kernel
theorem dX2_tryPromote_27 : decode cX2_tryPromote 27 = .ok (.iaload, 1) := by decide +kernel
theorem dX2_tryPromote_28 : decode cX2_tryPromote 28 = .ok (.istore_n 3, 1) := by decide +kernel
theorem dX2_tryPromote_29 : decode cX2_tryPromote 29 = .ok (.aload_n 0, 1) := by decide +kernel
theorem dX2_tryPromote_30 : decode cX2_tryPromote 30 = .ok (.getfield 11, 3) := by decide +kernel
theorem dX2_tryPromote_33 : decode cX2_tryPromote 33 = .ok (.iload_n 1, 1) := by decide +kernel
theorem dX2_tryPromote_34 : decode cX2_tryPromote 34 = .ok (.iload_n 2, 1) := by decide +kernel
theorem dX2_tryPromote_35 : decode cX2_tryPromote 35 = .ok (.iastore, 1) := by decide +kernel
theorem dX2_tryPromote_36 : decode cX2_tryPromote 36 = .ok (.iload_n 3, 1) := by decide +kernel
theorem dX2_tryPromote_37 : decode cX2_tryPromote 37 = .ok (.ireturn, 1) := by decide +kernel
set_option maxRecDepth 20000 in
theorem ggX2_tryList_X2_hasPair : GoodIn wsX2_tryList wsX2_hasPair := goodIn_r _ [6, 7, 8, 9, 5, 10, 11, 12, 13, 14, 18, 19, 20, 21, 22, 23, 24, 25, 26, 27, 28, 29, 30, 31, 32] (by decide +kernel) (by decide +kernel)
set_option maxRecDepth 20000 in
theorem gX2_tryList_X2_hasPair : GoodIn wsX2_tryList (wsV RX2 171 RX2 yX2_hasPair wsX2_hasPair) := goodIn_app (goodIn_of _ (by decide +kernel)) ggX2_tryList_X2_hasPair
set_option maxRecDepth 20000 in
theorem ggX2_tryList_X7_withBit : GoodIn wsX2_tryList wsX7_withBit := goodIn_r _ [17] (by decide +kernel) (by decide +kernel)
set_option maxRecDepth 20000 in
theorem gX2_tryList_X7_withBit_n122 : GoodIn wsX2_tryList (wsX7_withBit) := ggX2_tryList_X7_withBit
theorem dX2_tryList_0 : decode cX2_tryList 0 = .ok (.aload_n 0, 1) := by decide +kernel
theorem dX2_tryList_1 : decode cX2_tryList 1 = .ok (.iload_n 1, 1) := by decide +kernel
theorem dX2_tryList_2 : decode cX2_tryList 2 = .ok (.iload_n 2, 1) := by decide +kernel
theorem dX2_tryList_3 : decode cX2_tryList 3 = .ok (.invokevirtual 171, 3) := by decide +kernel
theorem dX2_tryList_6 : decode cX2_tryList 6 = .ok (.ifCond .ne 5, 3) := by decide +kernel
theorem dX2_tryList_9 : decode cX2_tryList 9 = .ok (.iconst (-1), 1) := by decide +kernel
theorem dX2_tryList_10 : decode cX2_tryList 10 = .ok (.ireturn, 1) := by decide +kernel
theorem dX2_tryList_11 : decode cX2_tryList 11 = .ok (.aload_n 0, 1) := by decide +kernel
theorem dX2_tryList_12 : decode cX2_tryList 12 = .ok (.getfield 15, 3) := by decide +kernel
theorem dX2_tryList_15 : decode cX2_tryList 15 = .ok (.iload_n 1, 1) := by decide +kernel
theorem dX2_tryList_16 : decode cX2_tryList 16 = .ok (.aload_n 0, 1) := by decide +kernel
theorem dX2_tryList_17 : decode cX2_tryList 17 = .ok (.getfield 15, 3) := by decide +kernel
theorem dX2_tryList_20 : decode cX2_tryList 20 = .ok (.iload_n 1, 1) := by decide +kernel
theorem dX2_tryList_21 : decode cX2_tryList 21 = .ok (.iaload, 1) := by decide +kernel
theorem dX2_tryList_22 : decode cX2_tryList 22 = .ok (.iload_n 2, 1) := by decide +kernel
theorem dX2_tryList_23 : decode cX2_tryList 23 = .ok (.iload_n 3, 1) := by decide +kernel
theorem dX2_tryList_24 : decode cX2_tryList 24 = .ok (.invokestatic 122, 3) := by decide +kernel
theorem dX2_tryList_27 : decode cX2_tryList 27 = .ok (.iastore, 1) := by decide +kernel
theorem dX2_tryList_28 : decode cX2_tryList 28 = .ok (.aload_n 0, 1) := by decide +kernel
theorem dX2_tryList_29 : decode cX2_tryList 29 = .ok (.getfield 15, 3) := by decide +kernel
theorem dX2_tryList_32 : decode cX2_tryList 32 = .ok (.iload_n 1, 1) := by decide +kernel
theorem dX2_tryList_33 : decode cX2_tryList 33 = .ok (.iaload, 1) := by decide +kernel
theorem dX2_tryList_34 : decode cX2_tryList 34 = .ok (.ireturn, 1) := by decide +kernel
set_option maxRecDepth 20000 in
theorem ggX2_tryKeepApart_X2_hasPrisoner : GoodIn wsX2_tryKeepApart wsX2_hasPrisoner := goodIn_r _ [6, 7, 11, 12, 13, 14, 15, 16, 17, 18, 19, 20, 21, 22, 23, 24, 25] (by decide +kernel) (by decide +kernel)
set_option maxRecDepth 20000 in
theorem gX2_tryKeepApart_X2_hasPrisoner : GoodIn wsX2_tryKeepApart (wsV RX2 87 RX2 yX2_hasPrisoner wsX2_hasPrisoner) := goodIn_app (goodIn_of _ (by decide +kernel)) ggX2_tryKeepApart_X2_hasPrisoner
set_option maxRecDepth 20000 in
theorem ggX2_tryKeepApart_X7_withBit : GoodIn wsX2_tryKeepApart wsX7_withBit := goodIn_r _ [10] (by decide +kernel) (by decide +kernel)
set_option maxRecDepth 20000 in
theorem gX2_tryKeepApart_X7_withBit_n122 : GoodIn wsX2_tryKeepApart (wsX7_withBit) := ggX2_tryKeepApart_X7_withBit
theorem dX2_tryKeepApart_0 : decode cX2_tryKeepApart 0 = .ok (.aload_n 0, 1) := by decide +kernel
theorem dX2_tryKeepApart_1 : decode cX2_tryKeepApart 1 = .ok (.iload_n 1, 1) := by decide +kernel
theorem dX2_tryKeepApart_2 : decode cX2_tryKeepApart 2 = .ok (.invokevirtual 87, 3) := by decide +kernel
theorem dX2_tryKeepApart_5 : decode cX2_tryKeepApart 5 = .ok (.ifCond .eq 11, 3) := by decide +kernel
theorem dX2_tryKeepApart_8 : decode cX2_tryKeepApart 8 = .ok (.aload_n 0, 1) := by decide +kernel
theorem dX2_tryKeepApart_9 : decode cX2_tryKeepApart 9 = .ok (.iload_n 2, 1) := by decide +kernel
theorem dX2_tryKeepApart_10 : decode cX2_tryKeepApart 10 = .ok (.invokevirtual 87, 3) := by decide +kernel
theorem dX2_tryKeepApart_13 : decode cX2_tryKeepApart 13 = .ok (.ifCond .ne 5, 3) := by decide +kernel
theorem dX2_tryKeepApart_16 : decode cX2_tryKeepApart 16 = .ok (.iconst (-1), 1) := by decide +kernel
theorem dX2_tryKeepApart_17 : decode cX2_tryKeepApart 17 = .ok (.ireturn, 1) := by decide +kernel
theorem dX2_tryKeepApart_18 : decode cX2_tryKeepApart 18 = .ok (.iload_n 1, 1) := by decide +kernel
theorem dX2_tryKeepApart_19 : decode cX2_tryKeepApart 19 = .ok (.iload_n 2, 1) := by decide +kernel
theorem dX2_tryKeepApart_20 : decode cX2_tryKeepApart 20 = .ok (.if_icmp .ne 6, 3) := by decide +kernel
theorem dX2_tryKeepApart_23 : decode cX2_tryKeepApart 23 = .ok (.bipush (-3), 2) := by decide +kernel
theorem dX2_tryKeepApart_25 : decode cX2_tryKeepApart 25 = .ok (.ireturn, 1) := by decide +kernel
theorem dX2_tryKeepApart_26 : decode cX2_tryKeepApart 26 = .ok (.aload_n 0, 1) := by decide +kernel
theorem dX2_tryKeepApart_27 : decode cX2_tryKeepApart 27 = .ok (.getfield 27, 3) := by decide +kernel
theorem dX2_tryKeepApart_30 : decode cX2_tryKeepApart 30 = .ok (.iload_n 1, 1) := by decide +kernel
theorem dX2_tryKeepApart_31 : decode cX2_tryKeepApart 31 = .ok (.aload_n 0, 1) := by decide +kernel
theorem dX2_tryKeepApart_32 : decode cX2_tryKeepApart 32 = .ok (.getfield 27, 3) := by decide +kernel
theorem dX2_tryKeepApart_35 : decode cX2_tryKeepApart 35 = .ok (.iload_n 1, 1) := by decide +kernel
theorem dX2_tryKeepApart_36 : decode cX2_tryKeepApart 36 = .ok (.iaload, 1) := by decide +kernel
theorem dX2_tryKeepApart_37 : decode cX2_tryKeepApart 37 = .ok (.iload_n 2, 1) := by decide +kernel
theorem dX2_tryKeepApart_38 : decode cX2_tryKeepApart 38 = .ok (.iload_n 3, 1) := by decide +kernel
theorem dX2_tryKeepApart_39 : decode cX2_tryKeepApart 39 = .ok (.invokestatic 122, 3) := by decide +kernel
theorem dX2_tryKeepApart_42 : decode cX2_tryKeepApart 42 = .ok (.iastore, 1) := by decide +kernel
theorem dX2_tryKeepApart_43 : decode cX2_tryKeepApart 43 = .ok (.aload_n 0, 1) := by decide +kernel
theorem dX2_tryKeepApart_44 : decode cX2_tryKeepApart 44 = .ok (.getfield 27, 3) := by decide +kernel
theorem dX2_tryKeepApart_47 : decode cX2_tryKeepApart 47 = .ok (.iload_n 2, 1) := by decide +kernel
theorem dX2_tryKeepApart_48 : decode cX2_tryKeepApart 48 = .ok (.aload_n 0, 1) := by decide +kernel
theorem dX2_tryKeepApart_49 : decode cX2_tryKeepApart 49 = .ok (.getfield 27, 3) := by decide +kernel
theorem dX2_tryKeepApart_52 : decode cX2_tryKeepApart 52 = .ok (.iload_n 2, 1) := by decide +kernel
theorem dX2_tryKeepApart_53 : decode cX2_tryKeepApart 53 = .ok (.iaload, 1) := by decide +kernel
theorem dX2_tryKeepApart_54 : decode cX2_tryKeepApart 54 = .ok (.iload_n 1, 1) := by decide +kernel
theorem dX2_tryKeepApart_55 : decode cX2_tryKeepApart 55 = .ok (.iload_n 3, 1) := by decide +kernel
theorem dX2_tryKeepApart_56 : decode cX2_tryKeepApart 56 = .ok (.invokestatic 122, 3) := by decide +kernel
theorem dX2_tryKeepApart_59 : decode cX2_tryKeepApart 59 = .ok (.iastore, 1) := by decide +kernel
theorem dX2_tryKeepApart_60 : decode cX2_tryKeepApart 60 = .ok (.aload_n 0, 1) := by decide +kernel
theorem dX2_tryKeepApart_61 : decode cX2_tryKeepApart 61 = .ok (.getfield 27, 3) := by decide +kernel
theorem dX2_tryKeepApart_64 : decode cX2_tryKeepApart 64 = .ok (.iload_n 1, 1) := by decide +kernel
theorem dX2_tryKeepApart_65 : decode cX2_tryKeepApart 65 = .ok (.iaload, 1) := by decide +kernel
theorem dX2_tryKeepApart_66 : decode cX2_tryKeepApart 66 = .ok (.ireturn, 1) := by decide +kernel
set_option maxRecDepth 20000 in
theorem ggX2_tryBook_X2_hasPair : GoodIn wsX2_tryBook wsX2_hasPair := goodIn_r _ [6, 7, 8, 9, 5, 10, 11, 12, 13, 14, 77, 78, 79, 80, 81, 82, 83, 84, 85, 86, 87, 88, 89, 90, 91] (by decide +kernel) (by decide +kernel)
set_option maxRecDepth 20000 in
theorem gX2_tryBook_X2_hasPair : GoodIn wsX2_tryBook (wsV RX2 171 RX2 yX2_hasPair wsX2_hasPair) := goodIn_app (goodIn_of _ (by decide +kernel)) ggX2_tryBook_X2_hasPair
set_option maxRecDepth 20000 in
theorem ggX2_tryBook_X2_isTime : GoodIn wsX2_tryBook wsX2_isTime := goodIn_r _ [18, 19, 77, 78, 79, 80, 81, 82, 83, 84, 85, 86, 87, 88, 89, 90, 91] (by decide +kernel) (by decide +kernel)
set_option maxRecDepth 20000 in
theorem gX2_tryBook_X2_isTime : GoodIn wsX2_tryBook (wsV RX2 174 RX2 yX2_isTime wsX2_isTime) := goodIn_app (goodIn_of _ (by decide +kernel)) ggX2_tryBook_X2_isTime
set_option maxRecDepth 20000 in
theorem ggX2_tryBook_X2_reasonAgainst : GoodIn wsX2_tryBook wsX2_reasonAgainst := goodIn_r _ [23, 24, 25, 26, 5, 27, 28, 29, 30, 19, 31, 1, 32, 7, 8, 9, 10, 11, 12, 13, 14, 33, 34, 35, 36, 37, 38, 39, 40, 41, 42, 43, 44, 45, 46, 47, 48, 49, 50, 51, 52, 53, 54, 55, 56, 57, 58, 59, 77, 78, 79, 80, 81, 82, 83, 84, 85, 86, 87, 88, 89, 90, 91, 92, 93] (by decide +kernel) (by decide +kernel)
set_option maxRecDepth 20000 in
theorem gX2_tryBook_X2_reasonAgainst : GoodIn wsX2_tryBook (wsV RX2 177 RX2 yX2_reasonAgainst wsX2_reasonAgainst) := goodIn_app (goodIn_of _ (by decide +kernel)) ggX2_tryBook_X2_reasonAgainst
set_option maxRecDepth 20000 in
theorem ggX2_tryBook_X0_add : GoodIn wsX2_tryBook wsX0_add := goodIn_r _ [63, 44, 45, 64, 65, 66, 67, 68, 53, 54, 42, 55, 33, 34, 35, 69, 70, 71, 72, 73, 74, 75, 76, 92, 93] (by decide +kernel) (by decide +kernel)
set_option maxRecDepth 20000 in
theorem gX2_tryBook_X0_add : GoodIn wsX2_tryBook (wsV RX2 180 RX0 yX0_add wsX0_add) := goodIn_app (goodIn_of _ (by decide +kernel)) ggX2_tryBook_X0_add
theorem dX2_tryBook_0 : decode cX2_tryBook 0 = .ok (.aload_n 0, 1) := by decide +kernel
theorem dX2_tryBook_1 : decode cX2_tryBook 1 = .ok (.iload_n 1, 1) := by decide +kernel
theorem dX2_tryBook_2 : decode cX2_tryBook 2 = .ok (.iload_n 2, 1) := by decide +kernel
theorem dX2_tryBook_3 : decode cX2_tryBook 3 = .ok (.invokevirtual 171, 3) := by decide +kernel
theorem dX2_tryBook_6 : decode cX2_tryBook 6 = .ok (.ifCond .ne 5, 3) := by decide +kernel
theorem dX2_tryBook_9 : decode cX2_tryBook 9 = .ok (.iconst (-1), 1) := by decide +kernel
theorem dX2_tryBook_10 : decode cX2_tryBook 10 = .ok (.ireturn, 1) := by decide +kernel
theorem dX2_tryBook_11 : decode cX2_tryBook 11 = .ok (.aload_n 0, 1) := by decide +kernel
theorem dX2_tryBook_12 : decode cX2_tryBook 12 = .ok (.iload_n 3, 1) := by decide +kernel
theorem dX2_tryBook_13 : decode cX2_tryBook 13 = .ok (.iload 4, 2) := by decide +kernel
theorem dX2_tryBook_15 : decode cX2_tryBook 15 = .ok (.invokevirtual 174, 3) := by decide +kernel
theorem dX2_tryBook_18 : decode cX2_tryBook 18 = .ok (.ifCond .ne 6, 3) := by decide +kernel
theorem dX2_tryBook_21 : decode cX2_tryBook 21 = .ok (.bipush (-2), 2) := by decide +kernel
theorem dX2_tryBook_23 : decode cX2_tryBook 23 = .ok (.ireturn, 1) := by decide +kernel
theorem dX2_tryBook_24 : decode cX2_tryBook 24 = .ok (.aload_n 0, 1) := by decide +kernel
theorem dX2_tryBook_25 : decode cX2_tryBook 25 = .ok (.iload_n 1, 1) := by decide +kernel
theorem dX2_tryBook_26 : decode cX2_tryBook 26 = .ok (.iload_n 2, 1) := by decide +kernel
theorem dX2_tryBook_27 : decode cX2_tryBook 27 = .ok (.iload_n 3, 1) := by decide +kernel
theorem dX2_tryBook_28 : decode cX2_tryBook 28 = .ok (.iload 4, 2) := by decide +kernel
theorem dX2_tryBook_30 : decode cX2_tryBook 30 = .ok (.invokevirtual 177, 3) := by decide +kernel
theorem dX2_tryBook_33 : decode cX2_tryBook 33 = .ok (.ifCond .eq 6, 3) := by decide +kernel
theorem dX2_tryBook_36 : decode cX2_tryBook 36 = .ok (.bipush (-3), 2) := by decide +kernel
theorem dX2_tryBook_38 : decode cX2_tryBook 38 = .ok (.ireturn, 1) := by decide +kernel
theorem dX2_tryBook_39 : decode cX2_tryBook 39 = .ok (.aload_n 0, 1) := by decide +kernel
theorem dX2_tryBook_40 : decode cX2_tryBook 40 = .ok (.getfield 39, 3) := by decide +kernel
theorem dX2_tryBook_43 : decode cX2_tryBook 43 = .ok (.iload_n 1, 1) := by decide +kernel
theorem dX2_tryBook_44 : decode cX2_tryBook 44 = .ok (.iload_n 2, 1) := by decide +kernel
theorem dX2_tryBook_45 : decode cX2_tryBook 45 = .ok (.iload_n 3, 1) := by decide +kernel
theorem dX2_tryBook_46 : decode cX2_tryBook 46 = .ok (.iload 4, 2) := by decide +kernel
theorem dX2_tryBook_48 : decode cX2_tryBook 48 = .ok (.invokevirtual 180, 3) := by decide +kernel
theorem dX2_tryBook_51 : decode cX2_tryBook 51 = .ok (.ireturn, 1) := by decide +kernel
set_option maxRecDepth 20000 in
theorem ggX2_tryCancel_X0_has : GoodIn wsX2_tryCancel wsX0_has := goodIn_r _ [7, 8, 34, 35] (by decide +kernel) (by decide +kernel)
set_option maxRecDepth 20000 in
theorem gX2_tryCancel_X0_has : GoodIn wsX2_tryCancel (wsV RX2 183 RX0 yX0_has wsX0_has) := goodIn_app (goodIn_of _ (by decide +kernel)) ggX2_tryCancel_X0_has
set_option maxRecDepth 20000 in
theorem ggX2_tryCancel_X0_remove : GoodIn wsX2_tryCancel wsX0_remove := goodIn_r _ [12, 8, 13, 14, 15, 16, 17, 18, 4, 5, 6, 7, 34, 35] (by decide +kernel) (by decide +kernel)
set_option maxRecDepth 20000 in
theorem gX2_tryCancel_X0_remove : GoodIn wsX2_tryCancel (wsV RX2 186 RX0 yX0_remove wsX0_remove) := goodIn_app (goodIn_of _ (by decide +kernel)) ggX2_tryCancel_X0_remove
theorem dX2_tryCancel_0 : decode cX2_tryCancel 0 = .ok (.aload_n 0, 1) := by decide +kernel
theorem dX2_tryCancel_1 : decode cX2_tryCancel 1 = .ok (.getfield 39, 3) := by decide +kernel
theorem dX2_tryCancel_4 : decode cX2_tryCancel 4 = .ok (.iload_n 1, 1) := by decide +kernel
theorem dX2_tryCancel_5 : decode cX2_tryCancel 5 = .ok (.invokevirtual 183, 3) := by decide +kernel
theorem dX2_tryCancel_8 : decode cX2_tryCancel 8 = .ok (.ifCond .ne 5, 3) := by decide +kernel
theorem dX2_tryCancel_11 : decode cX2_tryCancel 11 = .ok (.iconst (-1), 1) := by decide +kernel
theorem dX2_tryCancel_12 : decode cX2_tryCancel 12 = .ok (.ireturn, 1) := by decide +kernel
theorem dX2_tryCancel_13 : decode cX2_tryCancel 13 = .ok (.aload_n 0, 1) := by decide +kernel
theorem dX2_tryCancel_14 : decode cX2_tryCancel 14 = .ok (.getfield 39, 3) := by decide +kernel
theorem dX2_tryCancel_17 : decode cX2_tryCancel 17 = .ok (.iload_n 1, 1) := by decide +kernel
theorem dX2_tryCancel_18 : decode cX2_tryCancel 18 = .ok (.invokevirtual 186, 3) := by decide +kernel
theorem dX2_tryCancel_21 : decode cX2_tryCancel 21 = .ok (.aload_n 0, 1) := by decide +kernel
theorem dX2_tryCancel_22 : decode cX2_tryCancel 22 = .ok (.getfield 39, 3) := by decide +kernel
theorem dX2_tryCancel_25 : decode cX2_tryCancel 25 = .ok (.getfield 94, 3) := by decide +kernel
theorem dX2_tryCancel_28 : decode cX2_tryCancel 28 = .ok (.ireturn, 1) := by decide +kernel
set_option maxRecDepth 20000 in
theorem ggX2_tryLate_X0_has : GoodIn wsX2_tryLate wsX0_has := goodIn_r _ [6, 7, 36, 37] (by decide +kernel) (by decide +kernel)
set_option maxRecDepth 20000 in
theorem gX2_tryLate_X0_has : GoodIn wsX2_tryLate (wsV RX2 183 RX0 yX0_has wsX0_has) := goodIn_app (goodIn_of _ (by decide +kernel)) ggX2_tryLate_X0_has
set_option maxRecDepth 20000 in
theorem ggX2_tryLate_X7_isBetween : GoodIn wsX2_tryLate wsX7_isBetween := goodIn_r _ [10] (by decide +kernel) (by decide +kernel)
set_option maxRecDepth 20000 in
theorem gX2_tryLate_X7_isBetween_n167 : GoodIn wsX2_tryLate (wsX7_isBetween) := ggX2_tryLate_X7_isBetween
set_option maxRecDepth 20000 in
theorem ggX2_tryLate_X0_at : GoodIn wsX2_tryLate wsX0_at := goodIn_r _ [14, 15, 16, 3, 4, 5, 6, 7, 36, 37] (by decide +kernel) (by decide +kernel)
set_option maxRecDepth 20000 in
theorem gX2_tryLate_X0_at : GoodIn wsX2_tryLate (wsV RX2 129 RX0 yX0_at wsX0_at) := goodIn_app (goodIn_of _ (by decide +kernel)) ggX2_tryLate_X0_at
set_option maxRecDepth 20000 in
theorem ggX2_tryLate_X0_putMinutes : GoodIn wsX2_tryLate wsX0_putMinutes := goodIn_r _ [20, 15, 16, 3, 4, 5, 6, 7, 36, 37] (by decide +kernel) (by decide +kernel)
set_option maxRecDepth 20000 in
theorem gX2_tryLate_X0_putMinutes : GoodIn wsX2_tryLate (wsV RX2 190 RX0 yX0_putMinutes wsX0_putMinutes) := goodIn_app (goodIn_of _ (by decide +kernel)) ggX2_tryLate_X0_putMinutes
theorem dX2_tryLate_0 : decode cX2_tryLate 0 = .ok (.aload_n 0, 1) := by decide +kernel
theorem dX2_tryLate_1 : decode cX2_tryLate 1 = .ok (.getfield 39, 3) := by decide +kernel
theorem dX2_tryLate_4 : decode cX2_tryLate 4 = .ok (.iload_n 1, 1) := by decide +kernel
theorem dX2_tryLate_5 : decode cX2_tryLate 5 = .ok (.invokevirtual 183, 3) := by decide +kernel
theorem dX2_tryLate_8 : decode cX2_tryLate 8 = .ok (.ifCond .ne 5, 3) := by decide +kernel
theorem dX2_tryLate_11 : decode cX2_tryLate 11 = .ok (.iconst (-1), 1) := by decide +kernel
theorem dX2_tryLate_12 : decode cX2_tryLate 12 = .ok (.ireturn, 1) := by decide +kernel
theorem dX2_tryLate_13 : decode cX2_tryLate 13 = .ok (.iload_n 2, 1) := by decide +kernel
theorem dX2_tryLate_14 : decode cX2_tryLate 14 = .ok (.iconst 0, 1) := by decide +kernel
theorem dX2_tryLate_15 : decode cX2_tryLate 15 = .ok (.bipush 59, 2) := by decide +kernel
theorem dX2_tryLate_17 : decode cX2_tryLate 17 = .ok (.invokestatic 167, 3) := by decide +kernel
theorem dX2_tryLate_20 : decode cX2_tryLate 20 = .ok (.ifCond .ne 6, 3) := by decide +kernel
theorem dX2_tryLate_23 : decode cX2_tryLate 23 = .ok (.bipush (-2), 2) := by decide +kernel
theorem dX2_tryLate_25 : decode cX2_tryLate 25 = .ok (.ireturn, 1) := by decide +kernel
theorem dX2_tryLate_26 : decode cX2_tryLate 26 = .ok (.aload_n 0, 1) := by decide +kernel
theorem dX2_tryLate_27 : decode cX2_tryLate 27 = .ok (.getfield 39, 3) := by decide +kernel
theorem dX2_tryLate_30 : decode cX2_tryLate 30 = .ok (.iload_n 1, 1) := by decide +kernel
theorem dX2_tryLate_31 : decode cX2_tryLate 31 = .ok (.iconst 5, 1) := by decide +kernel
theorem dX2_tryLate_32 : decode cX2_tryLate 32 = .ok (.invokevirtual 129, 3) := by decide +kernel
theorem dX2_tryLate_35 : decode cX2_tryLate 35 = .ok (.istore_n 3, 1) := by decide +kernel
theorem dX2_tryLate_36 : decode cX2_tryLate 36 = .ok (.aload_n 0, 1) := by decide +kernel
theorem dX2_tryLate_37 : decode cX2_tryLate 37 = .ok (.getfield 39, 3) := by decide +kernel
theorem dX2_tryLate_40 : decode cX2_tryLate 40 = .ok (.iload_n 1, 1) := by decide +kernel
theorem dX2_tryLate_41 : decode cX2_tryLate 41 = .ok (.iload_n 2, 1) := by decide +kernel
theorem dX2_tryLate_42 : decode cX2_tryLate 42 = .ok (.invokevirtual 190, 3) := by decide +kernel
theorem dX2_tryLate_45 : decode cX2_tryLate 45 = .ok (.iload_n 3, 1) := by decide +kernel
theorem dX2_tryLate_46 : decode cX2_tryLate 46 = .ok (.ireturn, 1) := by decide +kernel
set_option maxRecDepth 20000 in
theorem ggX2_tryCarry_X2_hasVisitor : GoodIn wsX2_tryCarry wsX2_hasVisitor := goodIn_r _ [5] (by decide +kernel) (by decide +kernel)
set_option maxRecDepth 20000 in
theorem gX2_tryCarry_X2_hasVisitor : GoodIn wsX2_tryCarry (va_wsS RX2 91 yX2_hasVisitor wsX2_hasVisitor) := goodIn_app (goodIn_of _ (by decide +kernel)) ggX2_tryCarry_X2_hasVisitor
set_option maxRecDepth 20000 in
theorem ggX2_tryCarry_X7_withBit : GoodIn wsX2_tryCarry wsX7_withBit := goodIn_r _ [8] (by decide +kernel) (by decide +kernel)
set_option maxRecDepth 20000 in
theorem gX2_tryCarry_X7_withBit_n122 : GoodIn wsX2_tryCarry (wsX7_withBit) := ggX2_tryCarry_X7_withBit
theorem dX2_tryCarry_0 : decode cX2_tryCarry 0 = .ok (.iload_n 1, 1) := by decide +kernel
theorem dX2_tryCarry_1 : decode cX2_tryCarry 1 = .ok (.invokestatic 91, 3) := by decide +kernel
theorem dX2_tryCarry_4 : decode cX2_tryCarry 4 = .ok (.ifCond .ne 5, 3) := by decide +kernel
theorem dX2_tryCarry_7 : decode cX2_tryCarry 7 = .ok (.iconst (-1), 1) := by decide +kernel
theorem dX2_tryCarry_8 : decode cX2_tryCarry 8 = .ok (.ireturn, 1) := by decide +kernel
theorem dX2_tryCarry_9 : decode cX2_tryCarry 9 = .ok (.aload_n 0, 1) := by decide +kernel
theorem dX2_tryCarry_10 : decode cX2_tryCarry 10 = .ok (.aload_n 0, 1) := by decide +kernel
theorem dX2_tryCarry_11 : decode cX2_tryCarry 11 = .ok (.getfield 77, 3) := by decide +kernel
theorem dX2_tryCarry_14 : decode cX2_tryCarry 14 = .ok (.iload_n 1, 1) := by decide +kernel
theorem dX2_tryCarry_15 : decode cX2_tryCarry 15 = .ok (.iload_n 2, 1) := by decide +kernel
theorem dX2_tryCarry_16 : decode cX2_tryCarry 16 = .ok (.invokestatic 122, 3) := by decide +kernel
theorem dX2_tryCarry_19 : decode cX2_tryCarry 19 = .ok (.putfield 77, 3) := by decide +kernel
theorem dX2_tryCarry_22 : decode cX2_tryCarry 22 = .ok (.aload_n 0, 1) := by decide +kernel
theorem dX2_tryCarry_23 : decode cX2_tryCarry 23 = .ok (.getfield 77, 3) := by decide +kernel
theorem dX2_tryCarry_26 : decode cX2_tryCarry 26 = .ok (.ireturn, 1) := by decide +kernel
set_option maxRecDepth 20000 in
theorem ggX2_tryPunish_X2_hasPrisoner : GoodIn wsX2_tryPunish wsX2_hasPrisoner := goodIn_r _ [7, 8, 12, 13, 14, 15, 16, 17, 18, 19, 20, 21, 22, 23, 24, 25, 26] (by decide +kernel) (by decide +kernel)
set_option maxRecDepth 20000 in
theorem gX2_tryPunish_X2_hasPrisoner : GoodIn wsX2_tryPunish (wsV RX2 87 RX2 yX2_hasPrisoner wsX2_hasPrisoner) := goodIn_app (goodIn_of _ (by decide +kernel)) ggX2_tryPunish_X2_hasPrisoner
set_option maxRecDepth 20000 in
theorem ggX2_tryPunish_X7_isBetween : GoodIn wsX2_tryPunish wsX7_isBetween := goodIn_r _ [11] (by decide +kernel) (by decide +kernel)
set_option maxRecDepth 20000 in
theorem gX2_tryPunish_X7_isBetween_n167 : GoodIn wsX2_tryPunish (wsX7_isBetween) := ggX2_tryPunish_X7_isBetween
theorem dX2_tryPunish_0 : decode cX2_tryPunish 0 = .ok (.aload_n 0, 1) := by decide +kernel
theorem dX2_tryPunish_1 : decode cX2_tryPunish 1 = .ok (.iload_n 1, 1) := by decide +kernel
theorem dX2_tryPunish_2 : decode cX2_tryPunish 2 = .ok (.invokevirtual 87, 3) := by decide +kernel
theorem dX2_tryPunish_5 : decode cX2_tryPunish 5 = .ok (.ifCond .ne 5, 3) := by decide +kernel
theorem dX2_tryPunish_8 : decode cX2_tryPunish 8 = .ok (.iconst (-1), 1) := by decide +kernel
theorem dX2_tryPunish_9 : decode cX2_tryPunish 9 = .ok (.ireturn, 1) := by decide +kernel
theorem dX2_tryPunish_10 : decode cX2_tryPunish 10 = .ok (.iload_n 2, 1) := by decide +kernel
theorem dX2_tryPunish_11 : decode cX2_tryPunish 11 = .ok (.iconst 0, 1) := by decide +kernel
theorem dX2_tryPunish_12 : decode cX2_tryPunish 12 = .ok (.bipush 99, 2) := by decide +kernel
theorem dX2_tryPunish_14 : decode cX2_tryPunish 14 = .ok (.invokestatic 167, 3) := by decide +kernel
theorem dX2_tryPunish_17 : decode cX2_tryPunish 17 = .ok (.ifCond .ne 6, 3) := by decide +kernel
theorem dX2_tryPunish_20 : decode cX2_tryPunish 20 = .ok (.bipush (-2), 2) := by decide +kernel
theorem dX2_tryPunish_22 : decode cX2_tryPunish 22 = .ok (.ireturn, 1) := by decide +kernel
theorem dX2_tryPunish_23 : decode cX2_tryPunish 23 = .ok (.aload_n 0, 1) := by decide +kernel
theorem dX2_tryPunish_24 : decode cX2_tryPunish 24 = .ok (.getfield 18, 3) := by decide +kernel
theorem dX2_tryPunish_27 : decode cX2_tryPunish 27 = .ok (.iload_n 1, 1) := by decide +kernel
theorem dX2_tryPunish_28 : decode cX2_tryPunish 28 = .ok (.iaload, 1) := by decide +kernel
theorem dX2_tryPunish_29 : decode cX2_tryPunish 29 = .ok (.istore_n 3, 1) := by decide +kernel
theorem dX2_tryPunish_30 : decode cX2_tryPunish 30 = .ok (.aload_n 0, 1) := by decide +kernel
theorem dX2_tryPunish_31 : decode cX2_tryPunish 31 = .ok (.getfield 18, 3) := by decide +kernel
theorem dX2_tryPunish_34 : decode cX2_tryPunish 34 = .ok (.iload_n 1, 1) := by decide +kernel
theorem dX2_tryPunish_35 : decode cX2_tryPunish 35 = .ok (.aload_n 0, 1) := by decide +kernel
theorem dX2_tryPunish_36 : decode cX2_tryPunish 36 = .ok (.getfield 64, 3) := by decide +kernel
theorem dX2_tryPunish_39 : decode cX2_tryPunish 39 = .ok (.iload_n 2, 1) := by decide +kernel
theorem dX2_tryPunish_40 : decode cX2_tryPunish 40 = .ok (.iadd, 1) := by decide +kernel
theorem dX2_tryPunish_41 : decode cX2_tryPunish 41 = .ok (.iastore, 1) := by decide +kernel
theorem dX2_tryPunish_42 : decode cX2_tryPunish 42 = .ok (.iload_n 3, 1) := by decide +kernel
theorem dX2_tryPunish_43 : decode cX2_tryPunish 43 = .ok (.ireturn, 1) := by decide +kernel
set_option maxRecDepth 20000 in
theorem ggX2_tryWish_X2_hasPair : GoodIn wsX2_tryWish wsX2_hasPair := goodIn_r _ [8, 9, 10, 11, 7, 12, 13, 14, 15, 16, 31, 32, 33, 34, 35, 36, 37, 38, 39, 40, 41, 42, 43, 44, 45] (by decide +kernel) (by decide +kernel)
set_option maxRecDepth 20000 in
theorem gX2_tryWish_X2_hasPair : GoodIn wsX2_tryWish (wsV RX2 171 RX2 yX2_hasPair wsX2_hasPair) := goodIn_app (goodIn_of _ (by decide +kernel)) ggX2_tryWish_X2_hasPair
set_option maxRecDepth 20000 in
theorem ggX2_tryWish_X7_hasBit : GoodIn wsX2_tryWish wsX7_hasBit := goodIn_r _ [19] (by decide +kernel) (by decide +kernel)
set_option maxRecDepth 20000 in
theorem gX2_tryWish_X7_hasBit_n115 : GoodIn wsX2_tryWish (wsX7_hasBit) := ggX2_tryWish_X7_hasBit
set_option maxRecDepth 20000 in
theorem ggX2_tryWish_X6_isFull : GoodIn wsX2_tryWish wsX6_isFull := goodIn_r _ [24, 25, 46, 47] (by decide +kernel) (by decide +kernel)
set_option maxRecDepth 20000 in
theorem gX2_tryWish_X6_isFull : GoodIn wsX2_tryWish (wsV RX2 194 RX6 yX6_isFull wsX6_isFull) := goodIn_app (goodIn_of _ (by decide +kernel)) ggX2_tryWish_X6_isFull
set_option maxRecDepth 20000 in
theorem ggX2_tryWish_X6_add : GoodIn wsX2_tryWish wsX6_add := goodIn_r _ [29, 25, 30, 46, 47] (by decide +kernel) (by decide +kernel)
set_option maxRecDepth 20000 in
theorem gX2_tryWish_X6_add : GoodIn wsX2_tryWish (wsV RX2 195 RX6 yX6_add wsX6_add) := goodIn_app (goodIn_of _ (by decide +kernel)) ggX2_tryWish_X6_add
theorem dX2_tryWish_0 : decode cX2_tryWish 0 = .ok (.aload_n 0, 1) := by decide +kernel
theorem dX2_tryWish_1 : decode cX2_tryWish 1 = .ok (.iload_n 1, 1) := by decide +kernel
theorem dX2_tryWish_2 : decode cX2_tryWish 2 = .ok (.iload_n 2, 1) := by decide +kernel
theorem dX2_tryWish_3 : decode cX2_tryWish 3 = .ok (.invokevirtual 171, 3) := by decide +kernel
theorem dX2_tryWish_6 : decode cX2_tryWish 6 = .ok (.ifCond .ne 5, 3) := by decide +kernel
theorem dX2_tryWish_9 : decode cX2_tryWish 9 = .ok (.iconst (-1), 1) := by decide +kernel
theorem dX2_tryWish_10 : decode cX2_tryWish 10 = .ok (.ireturn, 1) := by decide +kernel
theorem dX2_tryWish_11 : decode cX2_tryWish 11 = .ok (.aload_n 0, 1) := by decide +kernel
theorem dX2_tryWish_12 : decode cX2_tryWish 12 = .ok (.getfield 15, 3) := by decide +kernel
theorem dX2_tryWish_15 : decode cX2_tryWish 15 = .ok (.iload_n 1, 1) := by decide +kernel
theorem dX2_tryWish_16 : decode cX2_tryWish 16 = .ok (.iaload, 1) := by decide +kernel
theorem dX2_tryWish_17 : decode cX2_tryWish 17 = .ok (.iload_n 2, 1) := by decide +kernel
theorem dX2_tryWish_18 : decode cX2_tryWish 18 = .ok (.invokestatic 115, 3) := by decide +kernel
theorem dX2_tryWish_21 : decode cX2_tryWish 21 = .ok (.ifCond .eq 13, 3) := by decide +kernel
theorem dX2_tryWish_24 : decode cX2_tryWish 24 = .ok (.aload_n 0, 1) := by decide +kernel
theorem dX2_tryWish_25 : decode cX2_tryWish 25 = .ok (.getfield 46, 3) := by decide +kernel
theorem dX2_tryWish_28 : decode cX2_tryWish 28 = .ok (.invokevirtual 194, 3) := by decide +kernel
theorem dX2_tryWish_31 : decode cX2_tryWish 31 = .ok (.ifCond .eq 6, 3) := by decide +kernel
theorem dX2_tryWish_34 : decode cX2_tryWish 34 = .ok (.bipush (-3), 2) := by decide +kernel
theorem dX2_tryWish_36 : decode cX2_tryWish 36 = .ok (.ireturn, 1) := by decide +kernel
theorem dX2_tryWish_37 : decode cX2_tryWish 37 = .ok (.aload_n 0, 1) := by decide +kernel
theorem dX2_tryWish_38 : decode cX2_tryWish 38 = .ok (.getfield 46, 3) := by decide +kernel
theorem dX2_tryWish_41 : decode cX2_tryWish 41 = .ok (.iload_n 1, 1) := by decide +kernel
theorem dX2_tryWish_42 : decode cX2_tryWish 42 = .ok (.iload_n 2, 1) := by decide +kernel
theorem dX2_tryWish_43 : decode cX2_tryWish 43 = .ok (.invokevirtual 195, 3) := by decide +kernel
theorem dX2_tryWish_46 : decode cX2_tryWish 46 = .ok (.aload_n 0, 1) := by decide +kernel
theorem dX2_tryWish_47 : decode cX2_tryWish 47 = .ok (.getfield 46, 3) := by decide +kernel
theorem dX2_tryWish_50 : decode cX2_tryWish 50 = .ok (.getfield 97, 3) := by decide +kernel
theorem dX2_tryWish_53 : decode cX2_tryWish 53 = .ok (.ireturn, 1) := by decide +kernel
set_option maxRecDepth 20000 in
theorem ggX2_trySet_X2_hasSetting : GoodIn wsX2_trySet wsX2_hasSetting := goodIn_r _ [7, 8] (by decide +kernel) (by decide +kernel)
set_option maxRecDepth 20000 in
theorem gX2_trySet_X2_hasSetting : GoodIn wsX2_trySet (va_wsS RX2 197 yX2_hasSetting wsX2_hasSetting) := goodIn_app (goodIn_of _ (by decide +kernel)) ggX2_trySet_X2_hasSetting
set_option maxRecDepth 20000 in
theorem ggX2_trySet_X7_isBetween : GoodIn wsX2_trySet wsX7_isBetween := goodIn_r _ [11] (by decide +kernel) (by decide +kernel)
set_option maxRecDepth 20000 in
theorem gX2_trySet_X7_isBetween_n167 : GoodIn wsX2_trySet (wsX7_isBetween) := ggX2_trySet_X7_isBetween
theorem dX2_trySet_0 : decode cX2_trySet 0 = .ok (.iload_n 1, 1) := by decide +kernel
theorem dX2_trySet_1 : decode cX2_trySet 1 = .ok (.invokestatic 197, 3) := by decide +kernel
theorem dX2_trySet_4 : decode cX2_trySet 4 = .ok (.ifCond .eq 20, 3) := by decide +kernel
theorem dX2_trySet_7 : decode cX2_trySet 7 = .ok (.iload_n 2, 1) := by decide +kernel
theorem dX2_trySet_8 : decode cX2_trySet 8 = .ok (.getstatic 200, 3) := by decide +kernel
theorem dX2_trySet_11 : decode cX2_trySet 11 = .ok (.iload_n 1, 1) := by decide +kernel
theorem dX2_trySet_12 : decode cX2_trySet 12 = .ok (.iaload, 1) := by decide +kernel
theorem dX2_trySet_13 : decode cX2_trySet 13 = .ok (.getstatic 203, 3) := by decide +kernel
theorem dX2_trySet_16 : decode cX2_trySet 16 = .ok (.iload_n 1, 1) := by decide +kernel
theorem dX2_trySet_17 : decode cX2_trySet 17 = .ok (.iaload, 1) := by decide +kernel
theorem dX2_trySet_18 : decode cX2_trySet 18 = .ok (.invokestatic 167, 3) := by decide +kernel
theorem dX2_trySet_21 : decode cX2_trySet 21 = .ok (.ifCond .ne 6, 3) := by decide +kernel
theorem dX2_trySet_24 : decode cX2_trySet 24 = .ok (.bipush (-2), 2) := by decide +kernel
theorem dX2_trySet_26 : decode cX2_trySet 26 = .ok (.ireturn, 1) := by decide +kernel
theorem dX2_trySet_27 : decode cX2_trySet 27 = .ok (.aload_n 0, 1) := by decide +kernel
theorem dX2_trySet_28 : decode cX2_trySet 28 = .ok (.getfield 61, 3) := by decide +kernel
theorem dX2_trySet_31 : decode cX2_trySet 31 = .ok (.iload_n 1, 1) := by decide +kernel
theorem dX2_trySet_32 : decode cX2_trySet 32 = .ok (.iaload, 1) := by decide +kernel
theorem dX2_trySet_33 : decode cX2_trySet 33 = .ok (.istore_n 3, 1) := by decide +kernel
theorem dX2_trySet_34 : decode cX2_trySet 34 = .ok (.aload_n 0, 1) := by decide +kernel
theorem dX2_trySet_35 : decode cX2_trySet 35 = .ok (.getfield 61, 3) := by decide +kernel
theorem dX2_trySet_38 : decode cX2_trySet 38 = .ok (.iload_n 1, 1) := by decide +kernel
theorem dX2_trySet_39 : decode cX2_trySet 39 = .ok (.iload_n 2, 1) := by decide +kernel
theorem dX2_trySet_40 : decode cX2_trySet 40 = .ok (.iastore, 1) := by decide +kernel
theorem dX2_trySet_41 : decode cX2_trySet 41 = .ok (.iload_n 3, 1) := by decide +kernel
theorem dX2_trySet_42 : decode cX2_trySet 42 = .ok (.ireturn, 1) := by decide +kernel
set_option maxRecDepth 20000 in
theorem ggX2_letDaysPass_X2_grantWishes : GoodIn wsX2_letDaysPass wsX2_grantWishes := goodIn_r _ [9, 10, 11, 12, 2, 13, 14, 15, 16, 17, 18, 19, 20, 21, 22, 23, 24, 25, 26, 27, 28, 29, 30, 31, 32, 33, 34, 35, 36, 37, 38, 39, 40, 41, 42, 8, 43, 4, 44, 45, 46, 47, 48, 49, 50, 51, 52, 53, 54, 55, 56, 57, 58, 59, 60, 61, 62, 63, 64, 65, 66, 67, 68, 69, 70, 71, 72, 73, 74, 75, 76, 77, 78, 79, 80, 81, 82, 83, 84, 85, 86, 87, 88, 89, 90, 91, 92, 93, 94, 95, 96, 97, 98, 99, 100, 101, 102, 103, 104, 105, 106, 107, 108, 109, 166, 167, 168, 169, 170, 171, 172, 173, 174, 175, 176, 177, 178, 179, 180, 183, 184, 181, 182] (by decide +kernel) (by decide +kernel)
set_option maxRecDepth 20000 in
theorem gX2_letDaysPass_X2_grantWishes : GoodIn wsX2_letDaysPass (wsV RX2 206 RX2 yX2_grantWishes wsX2_grantWishes) := goodIn_app (goodIn_of _ (by decide +kernel)) ggX2_letDaysPass_X2_grantWishes
set_option maxRecDepth 20000 in
theorem ggX2_letDaysPass_X0_at : GoodIn wsX2_letDaysPass wsX0_at := goodIn_r _ [113, 77, 114, 115, 116, 47, 117, 49, 181, 182] (by decide +kernel) (by decide +kernel)
set_option maxRecDepth 20000 in
theorem gX2_letDaysPass_X0_at : GoodIn wsX2_letDaysPass (wsV RX2 129 RX0 yX0_at wsX0_at) := goodIn_app (goodIn_of _ (by decide +kernel)) ggX2_letDaysPass_X0_at
set_option maxRecDepth 20000 in
theorem ggX2_letDaysPass_X2_lookAtFirst : GoodIn wsX2_letDaysPass wsX2_lookAtFirst := goodIn_r _ [121, 2, 1, 12, 57, 110, 111, 112, 47, 113, 77, 114, 115, 116, 117, 49, 122, 123, 124, 125, 92, 93, 94, 95, 126, 127, 128, 8, 129, 59, 60, 61, 62, 63, 64, 65, 66, 130, 131, 132, 133, 4, 134, 83, 135, 136, 137, 138, 55, 139, 140, 141, 142, 56, 143, 144, 145, 146, 147, 67, 68, 69, 148, 149, 150, 151, 152, 153, 154, 155, 156, 157, 158, 159, 160, 161, 166, 167, 168, 169, 170, 171, 172, 173, 174, 175, 176, 177, 178, 179, 180, 181, 182] (by decide +kernel) (by decide +kernel)
set_option maxRecDepth 20000 in
theorem gX2_letDaysPass_X2_lookAtFirst : GoodIn wsX2_letDaysPass (wsV RX2 209 RX2 yX2_lookAtFirst wsX2_lookAtFirst) := goodIn_app (goodIn_of _ (by decide +kernel)) ggX2_letDaysPass_X2_lookAtFirst
set_option maxRecDepth 20000 in
theorem ggX2_letDaysPass_X2_beginNextDay : GoodIn wsX2_letDaysPass wsX2_beginNextDay := goodIn_r _ [165, 4, 57, 70, 71, 8, 72, 166, 167, 168, 169, 170, 171, 172, 173, 174, 175, 176, 177, 178, 179, 180] (by decide +kernel) (by decide +kernel)
set_option maxRecDepth 20000 in
theorem gX2_letDaysPass_X2_beginNextDay : GoodIn wsX2_letDaysPass (wsV RX2 213 RX2 yX2_beginNextDay wsX2_beginNextDay) := goodIn_app (goodIn_of _ (by decide +kernel)) ggX2_letDaysPass_X2_beginNextDay
theorem dX2_letDaysPass_0 : decode cX2_letDaysPass 0 = .ok (.aload_n 0, 1) := by decide +kernel
theorem dX2_letDaysPass_1 : decode cX2_letDaysPass 1 = .ok (.getfield 50, 3) := by decide +kernel
theorem dX2_letDaysPass_4 : decode cX2_letDaysPass 4 = .ok (.iconst 0, 1) := by decide +kernel
theorem dX2_letDaysPass_5 : decode cX2_letDaysPass 5 = .ok (.iaload, 1) := by decide +kernel
theorem dX2_letDaysPass_6 : decode cX2_letDaysPass 6 = .ok (.istore_n 2, 1) := by decide +kernel
theorem dX2_letDaysPass_7 : decode cX2_letDaysPass 7 = .ok (.iconst 0, 1) := by decide +kernel
theorem dX2_letDaysPass_8 : decode cX2_letDaysPass 8 = .ok (.istore_n 3, 1) := by decide +kernel
theorem dX2_letDaysPass_9 : decode cX2_letDaysPass 9 = .ok (.iload_n 3, 1) := by decide +kernel
theorem dX2_letDaysPass_10 : decode cX2_letDaysPass 10 = .ok (.iload_n 1, 1) := by decide +kernel
theorem dX2_letDaysPass_11 : decode cX2_letDaysPass 11 = .ok (.if_icmp .ge 58, 3) := by decide +kernel
theorem dX2_letDaysPass_14 : decode cX2_letDaysPass 14 = .ok (.aload_n 0, 1) := by decide +kernel
theorem dX2_letDaysPass_15 : decode cX2_letDaysPass 15 = .ok (.invokevirtual 206, 3) := by decide +kernel
theorem dX2_letDaysPass_18 : decode cX2_letDaysPass 18 = .ok (.aload_n 0, 1) := by decide +kernel
theorem dX2_letDaysPass_19 : decode cX2_letDaysPass 19 = .ok (.getfield 39, 3) := by decide +kernel
theorem dX2_letDaysPass_22 : decode cX2_letDaysPass 22 = .ok (.getfield 94, 3) := by decide +kernel
theorem dX2_letDaysPass_25 : decode cX2_letDaysPass 25 = .ok (.istore 4, 2) := by decide +kernel
theorem dX2_letDaysPass_27 : decode cX2_letDaysPass 27 = .ok (.iload 4, 2) := by decide +kernel
theorem dX2_letDaysPass_29 : decode cX2_letDaysPass 29 = .ok (.ifCond .le 30, 3) := by decide +kernel
theorem dX2_letDaysPass_32 : decode cX2_letDaysPass 32 = .ok (.aload_n 0, 1) := by decide +kernel
theorem dX2_letDaysPass_33 : decode cX2_letDaysPass 33 = .ok (.getfield 39, 3) := by decide +kernel
theorem dX2_letDaysPass_36 : decode cX2_letDaysPass 36 = .ok (.iconst 0, 1) := by decide +kernel
theorem dX2_letDaysPass_37 : decode cX2_letDaysPass 37 = .ok (.iconst 0, 1) := by decide +kernel
theorem dX2_letDaysPass_38 : decode cX2_letDaysPass 38 = .ok (.invokevirtual 129, 3) := by decide +kernel
theorem dX2_letDaysPass_41 : decode cX2_letDaysPass 41 = .ok (.aload_n 0, 1) := by decide +kernel
theorem dX2_letDaysPass_42 : decode cX2_letDaysPass 42 = .ok (.getfield 64, 3) := by decide +kernel
theorem dX2_letDaysPass_45 : decode cX2_letDaysPass 45 = .ok (.if_icmp .ne 14, 3) := by decide +kernel
theorem dX2_letDaysPass_48 : decode cX2_letDaysPass 48 = .ok (.aload_n 0, 1) := by decide +kernel
theorem dX2_letDaysPass_49 : decode cX2_letDaysPass 49 = .ok (.invokevirtual 209, 3) := by decide +kernel
theorem dX2_letDaysPass_52 : decode cX2_letDaysPass 52 = .ok (.pop, 1) := by decide +kernel
theorem dX2_letDaysPass_53 : decode cX2_letDaysPass 53 = .ok (.iinc 4 (-1), 3) := by decide +kernel
theorem dX2_letDaysPass_56 : decode cX2_letDaysPass 56 = .ok (.goto (-29), 3) := by decide +kernel
theorem dX2_letDaysPass_59 : decode cX2_letDaysPass 59 = .ok (.aload_n 0, 1) := by decide +kernel
theorem dX2_letDaysPass_60 : decode cX2_letDaysPass 60 = .ok (.invokevirtual 213, 3) := by decide +kernel
theorem dX2_letDaysPass_63 : decode cX2_letDaysPass 63 = .ok (.iinc 3 1, 3) := by decide +kernel
theorem dX2_letDaysPass_66 : decode cX2_letDaysPass 66 = .ok (.goto (-57), 3) := by decide +kernel
theorem dX2_letDaysPass_69 : decode cX2_letDaysPass 69 = .ok (.aload_n 0, 1) := by decide +kernel
theorem dX2_letDaysPass_70 : decode cX2_letDaysPass 70 = .ok (.getfield 50, 3) := by decide +kernel
theorem dX2_letDaysPass_73 : decode cX2_letDaysPass 73 = .ok (.iconst 0, 1) := by decide +kernel
theorem dX2_letDaysPass_74 : decode cX2_letDaysPass 74 = .ok (.iaload, 1) := by decide +kernel
theorem dX2_letDaysPass_75 : decode cX2_letDaysPass 75 = .ok (.iload_n 2, 1) := by decide +kernel
theorem dX2_letDaysPass_76 : decode cX2_letDaysPass 76 = .ok (.isub, 1) := by decide +kernel
theorem dX2_letDaysPass_77 : decode cX2_letDaysPass 77 = .ok (.ireturn, 1) := by decide +kernel
set_option maxRecDepth 20000 in
theorem ggX2_fateOf_X0_at : GoodIn wsX2_fateOf wsX0_at := goodIn_r _ [8, 9, 10, 11, 12, 7, 13, 14, 185, 186] (by decide +kernel) (by decide +kernel)
set_option maxRecDepth 20000 in
theorem gX2_fateOf_X0_at : GoodIn wsX2_fateOf (wsV RX2 129 RX0 yX0_at wsX0_at) := goodIn_app (goodIn_of _ (by decide +kernel)) ggX2_fateOf_X0_at
set_option maxRecDepth 20000 in
theorem ggX2_fateOf_X2_letDaysPass : GoodIn wsX2_fateOf wsX2_letDaysPass := goodIn_r _ [19, 20, 1, 3, 2, 21, 22, 23, 18, 24, 25, 26, 27, 28, 29, 30, 31, 32, 33, 34, 35, 36, 37, 38, 39, 40, 41, 42, 43, 44, 45, 46, 47, 48, 49, 50, 51, 52, 53, 54, 55, 56, 57, 58, 59, 60, 61, 7, 62, 14, 63, 64, 65, 66, 67, 68, 69, 70, 71, 72, 73, 74, 75, 76, 77, 78, 79, 80, 81, 82, 83, 84, 85, 86, 87, 88, 89, 9, 90, 91, 92, 93, 94, 95, 96, 97, 98, 99, 100, 101, 102, 103, 104, 105, 106, 107, 108, 109, 110, 111, 112, 113, 114, 115, 116, 117, 118, 119, 120, 121, 4, 5, 6, 8, 10, 11, 12, 13, 122, 123, 124, 125, 126, 127, 128, 129, 130, 131, 132, 133, 134, 135, 136, 137, 138, 139, 140, 141, 142, 143, 144, 145, 146, 147, 148, 149, 150, 151, 152, 153, 154, 155, 156, 157, 158, 159, 160, 161, 162, 163, 164, 165, 166, 167, 168, 169, 170, 171, 172, 173, 174, 175, 176, 177, 178, 179, 180, 181, 182, 183, 184, 185, 186, 187, 188] (by decide +kernel) (by decide +kernel)
set_option maxRecDepth 20000 in
theorem gX2_fateOf_X2_letDaysPass : GoodIn wsX2_fateOf (wsV RX2 216 RX2 yX2_letDaysPass wsX2_letDaysPass) := goodIn_app (goodIn_of _ (by decide +kernel)) ggX2_fateOf_X2_letDaysPass
set_option maxRecDepth 20000 in
theorem ggX2_fateOf_X2_grantWishes : GoodIn wsX2_fateOf wsX2_grantWishes := goodIn_r _ [24, 25, 26, 27, 1, 28, 29, 30, 31, 32, 33, 34, 35, 36, 37, 38, 39, 40, 41, 42, 43, 44, 45, 46, 47, 48, 49, 50, 51, 52, 53, 54, 55, 56, 57, 18, 58, 2, 59, 60, 61, 7, 62, 14, 63, 64, 65, 66, 67, 68, 69, 70, 71, 72, 73, 74, 75, 76, 77, 78, 79, 80, 81, 82, 83, 84, 85, 86, 87, 88, 89, 9, 90, 91, 92, 93, 94, 95, 96, 97, 98, 99, 100, 101, 102, 103, 104, 105, 106, 107, 108, 109, 110, 111, 112, 113, 114, 115, 116, 117, 118, 119, 120, 121, 170, 171, 172, 173, 174, 175, 176, 177, 178, 179, 180, 181, 182, 183, 184, 187, 188, 185, 186] (by decide +kernel) (by decide +kernel)
set_option maxRecDepth 20000 in
theorem gX2_fateOf_X2_grantWishes : GoodIn wsX2_fateOf (wsV RX2 206 RX2 yX2_grantWishes wsX2_grantWishes) := goodIn_app (goodIn_of _ (by decide +kernel)) ggX2_fateOf_X2_grantWishes
set_option maxRecDepth 20000 in
theorem ggX2_fateOf_X2_lookAtFirst : GoodIn wsX2_fateOf wsX2_lookAtFirst := goodIn_r _ [125, 1, 20, 27, 70, 4, 5, 6, 7, 8, 9, 10, 11, 12, 13, 14, 126, 127, 128, 129, 104, 105, 106, 107, 130, 131, 132, 18, 133, 72, 73, 74, 75, 76, 77, 78, 79, 134, 135, 136, 137, 2, 138, 95, 139, 140, 141, 142, 68, 143, 144, 145, 146, 69, 147, 148, 149, 150, 151, 80, 81, 82, 152, 153, 154, 155, 156, 157, 158, 159, 160, 161, 162, 163, 164, 165, 170, 171, 172, 173, 174, 175, 176, 177, 178, 179, 180, 181, 182, 183, 184, 185, 186] (by decide +kernel) (by decide +kernel)
set_option maxRecDepth 20000 in
theorem gX2_fateOf_X2_lookAtFirst : GoodIn wsX2_fateOf (wsV RX2 209 RX2 yX2_lookAtFirst wsX2_lookAtFirst) := goodIn_app (goodIn_of _ (by decide +kernel)) ggX2_fateOf_X2_lookAtFirst
theorem dX2_fateOf_0 : decode cX2_fateOf 0 = .ok (.aload_n 0, 1) := by decide +kernel
theorem dX2_fateOf_1 : decode cX2_fateOf 1 = .ok (.getfield 39, 3) := by decide +kernel
theorem dX2_fateOf_4 : decode cX2_fateOf 4 = .ok (.iload_n 1, 1) := by decide +kernel
theorem dX2_fateOf_5 : decode cX2_fateOf 5 = .ok (.iconst 0, 1) := by decide +kernel
theorem dX2_fateOf_6 : decode cX2_fateOf 6 = .ok (.invokevirtual 129, 3) := by decide +kernel
theorem dX2_fateOf_9 : decode cX2_fateOf 9 = .ok (.istore_n 2, 1) := by decide +kernel
theorem dX2_fateOf_10 : decode cX2_fateOf 10 = .ok (.aload_n 0, 1) := by decide +kernel
theorem dX2_fateOf_11 : decode cX2_fateOf 11 = .ok (.getfield 39, 3) := by decide +kernel
theorem dX2_fateOf_14 : decode cX2_fateOf 14 = .ok (.iload_n 1, 1) := by decide +kernel
theorem dX2_fateOf_15 : decode cX2_fateOf 15 = .ok (.iconst 1, 1) := by decide +kernel
theorem dX2_fateOf_16 : decode cX2_fateOf 16 = .ok (.invokevirtual 129, 3) := by decide +kernel
theorem dX2_fateOf_19 : decode cX2_fateOf 19 = .ok (.istore_n 3, 1) := by decide +kernel
theorem dX2_fateOf_20 : decode cX2_fateOf 20 = .ok (.aload_n 0, 1) := by decide +kernel
theorem dX2_fateOf_21 : decode cX2_fateOf 21 = .ok (.getfield 39, 3) := by decide +kernel
theorem dX2_fateOf_24 : decode cX2_fateOf 24 = .ok (.iload_n 1, 1) := by decide +kernel
theorem dX2_fateOf_25 : decode cX2_fateOf 25 = .ok (.iconst 2, 1) := by decide +kernel
theorem dX2_fateOf_26 : decode cX2_fateOf 26 = .ok (.invokevirtual 129, 3) := by decide +kernel
theorem dX2_fateOf_29 : decode cX2_fateOf 29 = .ok (.istore 4, 2) := by decide +kernel
theorem dX2_fateOf_31 : decode cX2_fateOf 31 = .ok (.aload_n 0, 1) := by decide +kernel
theorem dX2_fateOf_32 : decode cX2_fateOf 32 = .ok (.iload_n 2, 1) := by decide +kernel
theorem dX2_fateOf_33 : decode cX2_fateOf 33 = .ok (.aload_n 0, 1) := by decide +kernel
theorem dX2_fateOf_34 : decode cX2_fateOf 34 = .ok (.getfield 64, 3) := by decide +kernel
theorem dX2_fateOf_37 : decode cX2_fateOf 37 = .ok (.isub, 1) := by decide +kernel
theorem dX2_fateOf_38 : decode cX2_fateOf 38 = .ok (.invokevirtual 216, 3) := by decide +kernel
theorem dX2_fateOf_41 : decode cX2_fateOf 41 = .ok (.pop, 1) := by decide +kernel
theorem dX2_fateOf_42 : decode cX2_fateOf 42 = .ok (.aload_n 0, 1) := by decide +kernel
theorem dX2_fateOf_43 : decode cX2_fateOf 43 = .ok (.invokevirtual 206, 3) := by decide +kernel
theorem dX2_fateOf_46 : decode cX2_fateOf 46 = .ok (.aload_n 0, 1) := by decide +kernel
theorem dX2_fateOf_47 : decode cX2_fateOf 47 = .ok (.getfield 39, 3) := by decide +kernel
theorem dX2_fateOf_50 : decode cX2_fateOf 50 = .ok (.getfield 94, 3) := by decide +kernel
theorem dX2_fateOf_53 : decode cX2_fateOf 53 = .ok (.istore 5, 2) := by decide +kernel
theorem dX2_fateOf_55 : decode cX2_fateOf 55 = .ok (.iload 5, 2) := by decide +kernel
theorem dX2_fateOf_57 : decode cX2_fateOf 57 = .ok (.ifCond .le 57, 3) := by decide +kernel
theorem dX2_fateOf_60 : decode cX2_fateOf 60 = .ok (.aload_n 0, 1) := by decide +kernel
theorem dX2_fateOf_61 : decode cX2_fateOf 61 = .ok (.getfield 39, 3) := by decide +kernel
theorem dX2_fateOf_64 : decode cX2_fateOf 64 = .ok (.iconst 0, 1) := by decide +kernel
theorem dX2_fateOf_65 : decode cX2_fateOf 65 = .ok (.iconst 1, 1) := by decide +kernel
theorem dX2_fateOf_66 : decode cX2_fateOf 66 = .ok (.invokevirtual 129, 3) := by decide +kernel
theorem dX2_fateOf_69 : decode cX2_fateOf 69 = .ok (.iload_n 3, 1) := by decide +kernel
theorem dX2_fateOf_70 : decode cX2_fateOf 70 = .ok (.if_icmp .ne 21, 3) := by decide +kernel
theorem dX2_fateOf_73 : decode cX2_fateOf 73 = .ok (.aload_n 0, 1) := by decide +kernel
theorem dX2_fateOf_74 : decode cX2_fateOf 74 = .ok (.getfield 39, 3) := by decide +kernel
theorem dX2_fateOf_77 : decode cX2_fateOf 77 = .ok (.iconst 0, 1) := by decide +kernel
theorem dX2_fateOf_78 : decode cX2_fateOf 78 = .ok (.iconst 2, 1) := by decide +kernel
theorem dX2_fateOf_79 : decode cX2_fateOf 79 = .ok (.invokevirtual 129, 3) := by decide +kernel
theorem dX2_fateOf_82 : decode cX2_fateOf 82 = .ok (.iload 4, 2) := by decide +kernel
theorem dX2_fateOf_84 : decode cX2_fateOf 84 = .ok (.if_icmp .ne 7, 3) := by decide +kernel
theorem dX2_fateOf_87 : decode cX2_fateOf 87 = .ok (.iconst 1, 1) := by decide +kernel
theorem dX2_fateOf_88 : decode cX2_fateOf 88 = .ok (.goto 4, 3) := by decide +kernel
theorem dX2_fateOf_91 : decode cX2_fateOf 91 = .ok (.iconst 0, 1) := by decide +kernel
theorem dX2_fateOf_92 : decode cX2_fateOf 92 = .ok (.istore 6, 2) := by decide +kernel
theorem dX2_fateOf_94 : decode cX2_fateOf 94 = .ok (.aload_n 0, 1) := by decide +kernel
theorem dX2_fateOf_95 : decode cX2_fateOf 95 = .ok (.invokevirtual 209, 3) := by decide +kernel
theorem dX2_fateOf_98 : decode cX2_fateOf 98 = .ok (.istore 7, 2) := by decide +kernel
theorem dX2_fateOf_100 : decode cX2_fateOf 100 = .ok (.iload 6, 2) := by decide +kernel
theorem dX2_fateOf_102 : decode cX2_fateOf 102 = .ok (.ifCond .eq 6, 3) := by decide +kernel
theorem dX2_fateOf_105 : decode cX2_fateOf 105 = .ok (.iload 7, 2) := by decide +kernel
theorem dX2_fateOf_107 : decode cX2_fateOf 107 = .ok (.ireturn, 1) := by decide +kernel
theorem dX2_fateOf_108 : decode cX2_fateOf 108 = .ok (.iinc 5 (-1), 3) := by decide +kernel
theorem dX2_fateOf_111 : decode cX2_fateOf 111 = .ok (.goto (-56), 3) := by decide +kernel
theorem dX2_fateOf_114 : decode cX2_fateOf 114 = .ok (.iconst (-1), 1) := by decide +kernel
theorem dX2_fateOf_115 : decode cX2_fateOf 115 = .ok (.ireturn, 1) := by decide +kernel
set_option maxRecDepth 20000 in
theorem ggX2_grantWishes_X6_inTurn : GoodIn wsX2_grantWishes wsX6_inTurn := goodIn_r _ [9, 10, 11, 12, 13, 8, 14, 15, 16, 17, 18, 19, 119, 120] (by decide +kernel) (by decide +kernel)
set_option maxRecDepth 20000 in
theorem gX2_grantWishes_X6_inTurn : GoodIn wsX2_grantWishes (wsV RX2 219 RX6 yX6_inTurn wsX6_inTurn) := goodIn_app (goodIn_of _ (by decide +kernel)) ggX2_grantWishes_X6_inTurn
set_option maxRecDepth 20000 in
theorem ggX2_grantWishes_X6_prisonerOf : GoodIn wsX2_grantWishes wsX6_prisonerOf := goodIn_r _ [23, 24, 25, 26, 8, 27, 10, 19, 119, 120] (by decide +kernel) (by decide +kernel)
set_option maxRecDepth 20000 in
theorem gX2_grantWishes_X6_prisonerOf : GoodIn wsX2_grantWishes (wsV RX2 223 RX6 yX6_prisonerOf wsX6_prisonerOf) := goodIn_app (goodIn_of _ (by decide +kernel)) ggX2_grantWishes_X6_prisonerOf
set_option maxRecDepth 20000 in
theorem ggX2_grantWishes_X6_visitorOf : GoodIn wsX2_grantWishes wsX6_visitorOf := goodIn_r _ [31, 24, 25, 26, 8, 27, 10, 19, 119, 120] (by decide +kernel) (by decide +kernel)
set_option maxRecDepth 20000 in
theorem gX2_grantWishes_X6_visitorOf : GoodIn wsX2_grantWishes (wsV RX2 226 RX6 yX6_visitorOf wsX6_visitorOf) := goodIn_app (goodIn_of _ (by decide +kernel)) ggX2_grantWishes_X6_visitorOf
set_option maxRecDepth 20000 in
theorem ggX2_grantWishes_X2_earliest : GoodIn wsX2_grantWishes wsX2_earliest := goodIn_r _ [36, 4, 37, 38, 39, 40, 41, 42, 43, 44, 45, 46, 35, 47, 48, 49, 50, 51, 52, 53, 54, 55, 56, 57, 58, 59, 60, 61, 62, 63, 64, 65, 66, 67, 68, 69, 70, 71, 72, 73, 74, 75, 76, 77, 78, 79, 80, 81, 104, 105, 106, 107, 108, 109, 110, 111, 112, 113, 114, 115, 116, 117, 118, 121, 122] (by decide +kernel) (by decide +kernel)
set_option maxRecDepth 20000 in
theorem gX2_grantWishes_X2_earliest : GoodIn wsX2_grantWishes (wsV RX2 229 RX2 yX2_earliest wsX2_earliest) := goodIn_app (goodIn_of _ (by decide +kernel)) ggX2_grantWishes_X2_earliest
set_option maxRecDepth 20000 in
theorem ggX2_grantWishes_X0_add : GoodIn wsX2_grantWishes wsX0_add := goodIn_r _ [85, 43, 71, 86, 87, 88, 89, 90, 79, 80, 41, 81, 61, 62, 63, 91, 92, 93, 94, 95, 96, 97, 98, 121, 122] (by decide +kernel) (by decide +kernel)
set_option maxRecDepth 20000 in
theorem gX2_grantWishes_X0_add : GoodIn wsX2_grantWishes (wsV RX2 180 RX0 yX0_add wsX0_add) := goodIn_app (goodIn_of _ (by decide +kernel)) ggX2_grantWishes_X0_add
set_option maxRecDepth 20000 in
theorem ggX2_grantWishes_X6_remove : GoodIn wsX2_grantWishes wsX6_remove := goodIn_r _ [102, 10, 19, 103, 87, 88, 89, 119, 120] (by decide +kernel) (by decide +kernel)
set_option maxRecDepth 20000 in
theorem gX2_grantWishes_X6_remove : GoodIn wsX2_grantWishes (wsV RX2 232 RX6 yX6_remove wsX6_remove) := goodIn_app (goodIn_of _ (by decide +kernel)) ggX2_grantWishes_X6_remove
theorem dX2_grantWishes_0 : decode cX2_grantWishes 0 = .ok (.iconst 0, 1) := by decide +kernel
theorem dX2_grantWishes_1 : decode cX2_grantWishes 1 = .ok (.istore_n 1, 1) := by decide +kernel
theorem dX2_grantWishes_2 : decode cX2_grantWishes 2 = .ok (.aload_n 0, 1) := by decide +kernel
theorem dX2_grantWishes_3 : decode cX2_grantWishes 3 = .ok (.getfield 46, 3) := by decide +kernel
theorem dX2_grantWishes_6 : decode cX2_grantWishes 6 = .ok (.getfield 97, 3) := by decide +kernel
theorem dX2_grantWishes_9 : decode cX2_grantWishes 9 = .ok (.istore_n 2, 1) := by decide +kernel
theorem dX2_grantWishes_10 : decode cX2_grantWishes 10 = .ok (.iload_n 2, 1) := by decide +kernel
theorem dX2_grantWishes_11 : decode cX2_grantWishes 11 = .ok (.ifCond .le 96, 3) := by decide +kernel
theorem dX2_grantWishes_14 : decode cX2_grantWishes 14 = .ok (.aload_n 0, 1) := by decide +kernel
theorem dX2_grantWishes_15 : decode cX2_grantWishes 15 = .ok (.getfield 46, 3) := by decide +kernel
theorem dX2_grantWishes_18 : decode cX2_grantWishes 18 = .ok (.iload_n 1, 1) := by decide +kernel
theorem dX2_grantWishes_19 : decode cX2_grantWishes 19 = .ok (.aload_n 0, 1) := by decide +kernel
theorem dX2_grantWishes_20 : decode cX2_grantWishes 20 = .ok (.getfield 21, 3) := by decide +kernel
theorem dX2_grantWishes_23 : decode cX2_grantWishes 23 = .ok (.invokevirtual 219, 3) := by decide +kernel
theorem dX2_grantWishes_26 : decode cX2_grantWishes 26 = .ok (.istore_n 3, 1) := by decide +kernel
theorem dX2_grantWishes_27 : decode cX2_grantWishes 27 = .ok (.aload_n 0, 1) := by decide +kernel
theorem dX2_grantWishes_28 : decode cX2_grantWishes 28 = .ok (.getfield 46, 3) := by decide +kernel
theorem dX2_grantWishes_31 : decode cX2_grantWishes 31 = .ok (.iload_n 3, 1) := by decide +kernel
theorem dX2_grantWishes_32 : decode cX2_grantWishes 32 = .ok (.invokevirtual 223, 3) := by decide +kernel
theorem dX2_grantWishes_35 : decode cX2_grantWishes 35 = .ok (.istore 4, 2) := by decide +kernel
theorem dX2_grantWishes_37 : decode cX2_grantWishes 37 = .ok (.aload_n 0, 1) := by decide +kernel
theorem dX2_grantWishes_38 : decode cX2_grantWishes 38 = .ok (.getfield 46, 3) := by decide +kernel
theorem dX2_grantWishes_41 : decode cX2_grantWishes 41 = .ok (.iload_n 3, 1) := by decide +kernel
theorem dX2_grantWishes_42 : decode cX2_grantWishes 42 = .ok (.invokevirtual 226, 3) := by decide +kernel
theorem dX2_grantWishes_45 : decode cX2_grantWishes 45 = .ok (.istore 5, 2) := by decide +kernel
theorem dX2_grantWishes_47 : decode cX2_grantWishes 47 = .ok (.aload_n 0, 1) := by decide +kernel
theorem dX2_grantWishes_48 : decode cX2_grantWishes 48 = .ok (.iload 4, 2) := by decide +kernel
theorem dX2_grantWishes_50 : decode cX2_grantWishes 50 = .ok (.iload 5, 2) := by decide +kernel
theorem dX2_grantWishes_52 : decode cX2_grantWishes 52 = .ok (.bipush 7, 2) := by decide +kernel
theorem dX2_grantWishes_54 : decode cX2_grantWishes 54 = .ok (.invokevirtual 229, 3) := by decide +kernel
theorem dX2_grantWishes_57 : decode cX2_grantWishes 57 = .ok (.istore 6, 2) := by decide +kernel
theorem dX2_grantWishes_59 : decode cX2_grantWishes 59 = .ok (.iload 6, 2) := by decide +kernel
theorem dX2_grantWishes_61 : decode cX2_grantWishes 61 = .ok (.iconst (-1), 1) := by decide +kernel
theorem dX2_grantWishes_62 : decode cX2_grantWishes 62 = .ok (.if_icmp .ne 9, 3) := by decide +kernel
theorem dX2_grantWishes_65 : decode cX2_grantWishes 65 = .ok (.iinc 1 1, 3) := by decide +kernel
theorem dX2_grantWishes_68 : decode cX2_grantWishes 68 = .ok (.goto 33, 3) := by decide +kernel
theorem dX2_grantWishes_71 : decode cX2_grantWishes 71 = .ok (.aload_n 0, 1) := by decide +kernel
theorem dX2_grantWishes_72 : decode cX2_grantWishes 72 = .ok (.getfield 39, 3) := by decide +kernel
theorem dX2_grantWishes_75 : decode cX2_grantWishes 75 = .ok (.iload 4, 2) := by decide +kernel
theorem dX2_grantWishes_77 : decode cX2_grantWishes 77 = .ok (.iload 5, 2) := by decide +kernel
theorem dX2_grantWishes_79 : decode cX2_grantWishes 79 = .ok (.iload 6, 2) := by decide +kernel
theorem dX2_grantWishes_81 : decode cX2_grantWishes 81 = .ok (.bipush 8, 2) := by decide +kernel
theorem dX2_grantWishes_83 : decode cX2_grantWishes 83 = .ok (.idiv, 1) := by decide +kernel
theorem dX2_grantWishes_84 : decode cX2_grantWishes 84 = .ok (.iload 6, 2) := by decide +kernel
theorem dX2_grantWishes_86 : decode cX2_grantWishes 86 = .ok (.bipush 8, 2) := by decide +kernel
theorem dX2_grantWishes_88 : decode cX2_grantWishes 88 = .ok (.irem, 1) := by decide +kernel
theorem dX2_grantWishes_89 : decode cX2_grantWishes 89 = .ok (.invokevirtual 180, 3) := by decide +kernel
theorem dX2_grantWishes_92 : decode cX2_grantWishes 92 = .ok (.pop, 1) := by decide +kernel
theorem dX2_grantWishes_93 : decode cX2_grantWishes 93 = .ok (.aload_n 0, 1) := by decide +kernel
theorem dX2_grantWishes_94 : decode cX2_grantWishes 94 = .ok (.getfield 46, 3) := by decide +kernel
theorem dX2_grantWishes_97 : decode cX2_grantWishes 97 = .ok (.iload_n 3, 1) := by decide +kernel
theorem dX2_grantWishes_98 : decode cX2_grantWishes 98 = .ok (.invokevirtual 232, 3) := by decide +kernel
theorem dX2_grantWishes_101 : decode cX2_grantWishes 101 = .ok (.iinc 2 (-1), 3) := by decide +kernel
theorem dX2_grantWishes_104 : decode cX2_grantWishes 104 = .ok (.goto (-94), 3) := by decide +kernel
theorem dX2_grantWishes_107 : decode cX2_grantWishes 107 = .ok (.return_, 1) := by decide +kernel
set_option maxRecDepth 20000 in
theorem ggX2_lookAtFirst_X0_at : GoodIn wsX2_lookAtFirst wsX0_at := goodIn_r _ [9, 10, 11, 12, 13, 8, 14, 15, 91, 92] (by decide +kernel) (by decide +kernel)
set_option maxRecDepth 20000 in
theorem gX2_lookAtFirst_X0_at : GoodIn wsX2_lookAtFirst (wsV RX2 129 RX0 yX0_at wsX0_at) := goodIn_app (goodIn_of _ (by decide +kernel)) ggX2_lookAtFirst_X0_at
set_option maxRecDepth 20000 in
theorem ggX2_lookAtFirst_X0_remove : GoodIn wsX2_lookAtFirst wsX0_remove := goodIn_r _ [19, 15, 10, 20, 21, 22, 23, 11, 12, 13, 8, 14, 91, 92] (by decide +kernel) (by decide +kernel)
set_option maxRecDepth 20000 in
theorem gX2_lookAtFirst_X0_remove : GoodIn wsX2_lookAtFirst (wsV RX2 186 RX0 yX0_remove wsX0_remove) := goodIn_app (goodIn_of _ (by decide +kernel)) ggX2_lookAtFirst_X0_remove
set_option maxRecDepth 20000 in
theorem ggX2_lookAtFirst_X2_hasPair : GoodIn wsX2_lookAtFirst wsX2_hasPair := goodIn_r _ [28, 29, 30, 31, 27, 32, 33, 34, 35, 36, 76, 77, 78, 79, 80, 81, 82, 83, 84, 85, 86, 87, 88, 89, 90] (by decide +kernel) (by decide +kernel)
set_option maxRecDepth 20000 in
theorem gX2_lookAtFirst_X2_hasPair : GoodIn wsX2_lookAtFirst (wsV RX2 171 RX2 yX2_hasPair wsX2_hasPair) := goodIn_app (goodIn_of _ (by decide +kernel)) ggX2_lookAtFirst_X2_hasPair
set_option maxRecDepth 20000 in
theorem ggX2_lookAtFirst_X2_judge : GoodIn wsX2_lookAtFirst wsX2_judge := goodIn_r _ [40, 41, 42, 43, 44, 45, 46, 27, 47, 48, 29, 30, 31, 32, 33, 49, 50, 51, 52, 53, 34, 35, 36, 54, 55, 56, 57, 2, 58, 59, 60, 61, 62, 63, 64, 65, 66, 67, 68, 69, 70, 71, 72, 73, 74, 75, 76, 77, 78, 79, 80, 81, 82, 83, 84, 85, 86, 87, 88, 89, 90] (by decide +kernel) (by decide +kernel)
set_option maxRecDepth 20000 in
theorem gX2_lookAtFirst_X2_judge : GoodIn wsX2_lookAtFirst (wsV RX2 233 RX2 yX2_judge wsX2_judge) := goodIn_app (goodIn_of _ (by decide +kernel)) ggX2_lookAtFirst_X2_judge
theorem dX2_lookAtFirst_0 : decode cX2_lookAtFirst 0 = .ok (.aload_n 0, 1) := by decide +kernel
theorem dX2_lookAtFirst_1 : decode cX2_lookAtFirst 1 = .ok (.getfield 39, 3) := by decide +kernel
theorem dX2_lookAtFirst_4 : decode cX2_lookAtFirst 4 = .ok (.iconst 0, 1) := by decide +kernel
theorem dX2_lookAtFirst_5 : decode cX2_lookAtFirst 5 = .ok (.iconst 3, 1) := by decide +kernel
theorem dX2_lookAtFirst_6 : decode cX2_lookAtFirst 6 = .ok (.invokevirtual 129, 3) := by decide +kernel
theorem dX2_lookAtFirst_9 : decode cX2_lookAtFirst 9 = .ok (.istore_n 1, 1) := by decide +kernel
theorem dX2_lookAtFirst_10 : decode cX2_lookAtFirst 10 = .ok (.aload_n 0, 1) := by decide +kernel
theorem dX2_lookAtFirst_11 : decode cX2_lookAtFirst 11 = .ok (.getfield 39, 3) := by decide +kernel
theorem dX2_lookAtFirst_14 : decode cX2_lookAtFirst 14 = .ok (.iconst 0, 1) := by decide +kernel
theorem dX2_lookAtFirst_15 : decode cX2_lookAtFirst 15 = .ok (.iconst 4, 1) := by decide +kernel
theorem dX2_lookAtFirst_16 : decode cX2_lookAtFirst 16 = .ok (.invokevirtual 129, 3) := by decide +kernel
theorem dX2_lookAtFirst_19 : decode cX2_lookAtFirst 19 = .ok (.istore_n 2, 1) := by decide +kernel
theorem dX2_lookAtFirst_20 : decode cX2_lookAtFirst 20 = .ok (.aload_n 0, 1) := by decide +kernel
theorem dX2_lookAtFirst_21 : decode cX2_lookAtFirst 21 = .ok (.getfield 39, 3) := by decide +kernel
theorem dX2_lookAtFirst_24 : decode cX2_lookAtFirst 24 = .ok (.iconst 0, 1) := by decide +kernel
theorem dX2_lookAtFirst_25 : decode cX2_lookAtFirst 25 = .ok (.iconst 5, 1) := by decide +kernel
theorem dX2_lookAtFirst_26 : decode cX2_lookAtFirst 26 = .ok (.invokevirtual 129, 3) := by decide +kernel
theorem dX2_lookAtFirst_29 : decode cX2_lookAtFirst 29 = .ok (.istore_n 3, 1) := by decide +kernel
theorem dX2_lookAtFirst_30 : decode cX2_lookAtFirst 30 = .ok (.aload_n 0, 1) := by decide +kernel
theorem dX2_lookAtFirst_31 : decode cX2_lookAtFirst 31 = .ok (.getfield 39, 3) := by decide +kernel
theorem dX2_lookAtFirst_34 : decode cX2_lookAtFirst 34 = .ok (.iconst 0, 1) := by decide +kernel
theorem dX2_lookAtFirst_35 : decode cX2_lookAtFirst 35 = .ok (.invokevirtual 186, 3) := by decide +kernel
theorem dX2_lookAtFirst_38 : decode cX2_lookAtFirst 38 = .ok (.aload_n 0, 1) := by decide +kernel
theorem dX2_lookAtFirst_39 : decode cX2_lookAtFirst 39 = .ok (.iload_n 1, 1) := by decide +kernel
theorem dX2_lookAtFirst_40 : decode cX2_lookAtFirst 40 = .ok (.iload_n 2, 1) := by decide +kernel
theorem dX2_lookAtFirst_41 : decode cX2_lookAtFirst 41 = .ok (.invokevirtual 171, 3) := by decide +kernel
theorem dX2_lookAtFirst_44 : decode cX2_lookAtFirst 44 = .ok (.ifCond .ne 5, 3) := by decide +kernel
theorem dX2_lookAtFirst_47 : decode cX2_lookAtFirst 47 = .ok (.iconst (-1), 1) := by decide +kernel
theorem dX2_lookAtFirst_48 : decode cX2_lookAtFirst 48 = .ok (.ireturn, 1) := by decide +kernel
theorem dX2_lookAtFirst_49 : decode cX2_lookAtFirst 49 = .ok (.aload_n 0, 1) := by decide +kernel
theorem dX2_lookAtFirst_50 : decode cX2_lookAtFirst 50 = .ok (.getfield 50, 3) := by decide +kernel
theorem dX2_lookAtFirst_53 : decode cX2_lookAtFirst 53 = .ok (.iconst 4, 1) := by decide +kernel
theorem dX2_lookAtFirst_54 : decode cX2_lookAtFirst 54 = .ok (.dup2, 1) := by decide +kernel
theorem dX2_lookAtFirst_55 : decode cX2_lookAtFirst 55 = .ok (.iaload, 1) := by decide +kernel
theorem dX2_lookAtFirst_56 : decode cX2_lookAtFirst 56 = .ok (.iconst 1, 1) := by decide +kernel
theorem dX2_lookAtFirst_57 : decode cX2_lookAtFirst 57 = .ok (.iadd, 1) := by decide +kernel
theorem dX2_lookAtFirst_58 : decode cX2_lookAtFirst 58 = .ok (.iastore, 1) := by decide +kernel
theorem dX2_lookAtFirst_59 : decode cX2_lookAtFirst 59 = .ok (.aload_n 0, 1) := by decide +kernel
theorem dX2_lookAtFirst_60 : decode cX2_lookAtFirst 60 = .ok (.iload_n 1, 1) := by decide +kernel
theorem dX2_lookAtFirst_61 : decode cX2_lookAtFirst 61 = .ok (.iload_n 2, 1) := by decide +kernel
theorem dX2_lookAtFirst_62 : decode cX2_lookAtFirst 62 = .ok (.iload_n 3, 1) := by decide +kernel
theorem dX2_lookAtFirst_63 : decode cX2_lookAtFirst 63 = .ok (.invokevirtual 233, 3) := by decide +kernel
theorem dX2_lookAtFirst_66 : decode cX2_lookAtFirst 66 = .ok (.istore 4, 2) := by decide +kernel
theorem dX2_lookAtFirst_68 : decode cX2_lookAtFirst 68 = .ok (.iload 4, 2) := by decide +kernel
theorem dX2_lookAtFirst_70 : decode cX2_lookAtFirst 70 = .ok (.ifCond .lt 20, 3) := by decide +kernel
theorem dX2_lookAtFirst_73 : decode cX2_lookAtFirst 73 = .ok (.iload 4, 2) := by decide +kernel
theorem dX2_lookAtFirst_75 : decode cX2_lookAtFirst 75 = .ok (.iconst 4, 1) := by decide +kernel
theorem dX2_lookAtFirst_76 : decode cX2_lookAtFirst 76 = .ok (.if_icmp .ge 14, 3) := by decide +kernel
theorem dX2_lookAtFirst_79 : decode cX2_lookAtFirst 79 = .ok (.aload_n 0, 1) := by decide +kernel
theorem dX2_lookAtFirst_80 : decode cX2_lookAtFirst 80 = .ok (.getfield 50, 3) := by decide +kernel
theorem dX2_lookAtFirst_83 : decode cX2_lookAtFirst 83 = .ok (.iload 4, 2) := by decide +kernel
theorem dX2_lookAtFirst_85 : decode cX2_lookAtFirst 85 = .ok (.dup2, 1) := by decide +kernel
theorem dX2_lookAtFirst_86 : decode cX2_lookAtFirst 86 = .ok (.iaload, 1) := by decide +kernel
theorem dX2_lookAtFirst_87 : decode cX2_lookAtFirst 87 = .ok (.iconst 1, 1) := by decide +kernel
theorem dX2_lookAtFirst_88 : decode cX2_lookAtFirst 88 = .ok (.iadd, 1) := by decide +kernel
theorem dX2_lookAtFirst_89 : decode cX2_lookAtFirst 89 = .ok (.iastore, 1) := by decide +kernel
theorem dX2_lookAtFirst_90 : decode cX2_lookAtFirst 90 = .ok (.iload 4, 2) := by decide +kernel
theorem dX2_lookAtFirst_92 : decode cX2_lookAtFirst 92 = .ok (.ifCond .ne 23, 3) := by decide +kernel
theorem dX2_lookAtFirst_95 : decode cX2_lookAtFirst 95 = .ok (.aload_n 0, 1) := by decide +kernel
theorem dX2_lookAtFirst_96 : decode cX2_lookAtFirst 96 = .ok (.getfield 21, 3) := by decide +kernel
theorem dX2_lookAtFirst_99 : decode cX2_lookAtFirst 99 = .ok (.iload_n 1, 1) := by decide +kernel
theorem dX2_lookAtFirst_100 : decode cX2_lookAtFirst 100 = .ok (.dup2, 1) := by decide +kernel
theorem dX2_lookAtFirst_101 : decode cX2_lookAtFirst 101 = .ok (.iaload, 1) := by decide +kernel
theorem dX2_lookAtFirst_102 : decode cX2_lookAtFirst 102 = .ok (.iconst 1, 1) := by decide +kernel
theorem dX2_lookAtFirst_103 : decode cX2_lookAtFirst 103 = .ok (.iadd, 1) := by decide +kernel
theorem dX2_lookAtFirst_104 : decode cX2_lookAtFirst 104 = .ok (.iastore, 1) := by decide +kernel
theorem dX2_lookAtFirst_105 : decode cX2_lookAtFirst 105 = .ok (.aload_n 0, 1) := by decide +kernel
theorem dX2_lookAtFirst_106 : decode cX2_lookAtFirst 106 = .ok (.getfield 24, 3) := by decide +kernel
theorem dX2_lookAtFirst_109 : decode cX2_lookAtFirst 109 = .ok (.iload_n 1, 1) := by decide +kernel
theorem dX2_lookAtFirst_110 : decode cX2_lookAtFirst 110 = .ok (.dup2, 1) := by decide +kernel
theorem dX2_lookAtFirst_111 : decode cX2_lookAtFirst 111 = .ok (.iaload, 1) := by decide +kernel
theorem dX2_lookAtFirst_112 : decode cX2_lookAtFirst 112 = .ok (.iconst 1, 1) := by decide +kernel
theorem dX2_lookAtFirst_113 : decode cX2_lookAtFirst 113 = .ok (.iadd, 1) := by decide +kernel
theorem dX2_lookAtFirst_114 : decode cX2_lookAtFirst 114 = .ok (.iastore, 1) := by decide +kernel
theorem dX2_lookAtFirst_115 : decode cX2_lookAtFirst 115 = .ok (.iload 4, 2) := by decide +kernel
theorem dX2_lookAtFirst_117 : decode cX2_lookAtFirst 117 = .ok (.ireturn, 1) := by decide +kernel
set_option maxRecDepth 20000 in
theorem ggX2_judge_X2_isLost : GoodIn wsX2_judge wsX2_isLost := goodIn_r _ [8, 9, 10, 11, 12, 7, 13, 14, 46, 47, 48, 49, 50, 51, 52, 53, 54, 55, 56, 57, 58, 59, 60] (by decide +kernel) (by decide +kernel)
set_option maxRecDepth 20000 in
theorem gX2_judge_X2_isLost : GoodIn wsX2_judge (wsV RX2 146 RX2 yX2_isLost wsX2_isLost) := goodIn_app (goodIn_of _ (by decide +kernel)) ggX2_judge_X2_isLost
set_option maxRecDepth 20000 in
theorem ggX2_judge_X2_isBanned : GoodIn wsX2_judge wsX2_isBanned := goodIn_r _ [18, 19, 20, 21, 7, 22, 46, 47, 48, 49, 50, 51, 52, 53, 54, 55, 56, 57, 58, 59, 60] (by decide +kernel) (by decide +kernel)
set_option maxRecDepth 20000 in
theorem gX2_judge_X2_isBanned : GoodIn wsX2_judge (wsV RX2 149 RX2 yX2_isBanned wsX2_isBanned) := goodIn_app (goodIn_of _ (by decide +kernel)) ggX2_judge_X2_isBanned
set_option maxRecDepth 20000 in
theorem ggX2_judge_X2_isSearched : GoodIn wsX2_judge wsX2_isSearched := goodIn_r _ [26, 3, 27, 28, 20, 21, 7, 22, 46, 47, 48, 49, 50, 51, 52, 53, 54, 55, 56, 57, 58, 59, 60] (by decide +kernel) (by decide +kernel)
set_option maxRecDepth 20000 in
theorem gX2_judge_X2_isSearched : GoodIn wsX2_judge (wsV RX2 236 RX2 yX2_isSearched wsX2_isSearched) := goodIn_app (goodIn_of _ (by decide +kernel)) ggX2_judge_X2_isSearched
set_option maxRecDepth 20000 in
theorem ggX2_judge_X7_hasBit : GoodIn wsX2_judge wsX7_hasBit := goodIn_r _ [31] (by decide +kernel) (by decide +kernel)
set_option maxRecDepth 20000 in
theorem gX2_judge_X7_hasBit_n115 : GoodIn wsX2_judge (wsX7_hasBit) := ggX2_judge_X7_hasBit
set_option maxRecDepth 20000 in
theorem ggX2_judge_X7_withBit : GoodIn wsX2_judge wsX7_withBit := goodIn_r _ [33] (by decide +kernel) (by decide +kernel)
set_option maxRecDepth 20000 in
theorem gX2_judge_X7_withBit_n122 : GoodIn wsX2_judge (wsX7_withBit) := ggX2_judge_X7_withBit
set_option maxRecDepth 20000 in
theorem ggX2_judge_X2_ban : GoodIn wsX2_judge wsX2_ban := goodIn_r _ [37, 1, 3, 19, 20, 21, 7, 22, 46, 47, 48, 49, 50, 51, 52, 53, 54, 55, 56, 57, 58, 59, 60] (by decide +kernel) (by decide +kernel)
set_option maxRecDepth 20000 in
theorem gX2_judge_X2_ban : GoodIn wsX2_judge (wsV RX2 239 RX2 yX2_ban wsX2_ban) := goodIn_app (goodIn_of _ (by decide +kernel)) ggX2_judge_X2_ban
set_option maxRecDepth 20000 in
theorem ggX2_judge_X2_takePrivileges : GoodIn wsX2_judge wsX2_takePrivileges := goodIn_r _ [41, 1, 3, 9, 10, 11, 12, 7, 13, 14, 46, 47, 48, 49, 50, 51, 52, 53, 54, 55, 56, 57, 58, 59, 60] (by decide +kernel) (by decide +kernel)
set_option maxRecDepth 20000 in
theorem gX2_judge_X2_takePrivileges : GoodIn wsX2_judge (wsV RX2 242 RX2 yX2_takePrivileges wsX2_takePrivileges) := goodIn_app (goodIn_of _ (by decide +kernel)) ggX2_judge_X2_takePrivileges
set_option maxRecDepth 20000 in
theorem ggX2_judge_X2_getsThirdStrike : GoodIn wsX2_judge wsX2_getsThirdStrike := goodIn_r _ [45, 28, 20, 21, 7, 22, 46, 47, 48, 49, 50, 51, 52, 53, 54, 55, 56, 57, 58, 59, 60] (by decide +kernel) (by decide +kernel)
set_option maxRecDepth 20000 in
theorem gX2_judge_X2_getsThirdStrike : GoodIn wsX2_judge (wsV RX2 245 RX2 yX2_getsThirdStrike wsX2_getsThirdStrike) := goodIn_app (goodIn_of _ (by decide +kernel)) ggX2_judge_X2_getsThirdStrike
theorem dX2_judge_0 : decode cX2_judge 0 = .ok (.aload_n 0, 1) := by decide +kernel
theorem dX2_judge_1 : decode cX2_judge 1 = .ok (.iload_n 1, 1) := by decide +kernel
theorem dX2_judge_2 : decode cX2_judge 2 = .ok (.aload_n 0, 1) := by decide +kernel
theorem dX2_judge_3 : decode cX2_judge 3 = .ok (.getfield 64, 3) := by decide +kernel
theorem dX2_judge_6 : decode cX2_judge 6 = .ok (.invokevirtual 146, 3) := by decide +kernel
theorem dX2_judge_9 : decode cX2_judge 9 = .ok (.ifCond .ne 15, 3) := by decide +kernel
theorem dX2_judge_12 : decode cX2_judge 12 = .ok (.aload_n 0, 1) := by decide +kernel
theorem dX2_judge_13 : decode cX2_judge 13 = .ok (.iload_n 2, 1) := by decide +kernel
theorem dX2_judge_14 : decode cX2_judge 14 = .ok (.aload_n 0, 1) := by decide +kernel
theorem dX2_judge_15 : decode cX2_judge 15 = .ok (.getfield 64, 3) := by decide +kernel
theorem dX2_judge_18 : decode cX2_judge 18 = .ok (.invokevirtual 149, 3) := by decide +kernel
theorem dX2_judge_21 : decode cX2_judge 21 = .ok (.ifCond .eq 5, 3) := by decide +kernel
theorem dX2_judge_24 : decode cX2_judge 24 = .ok (.iconst 1, 1) := by decide +kernel
theorem dX2_judge_25 : decode cX2_judge 25 = .ok (.ireturn, 1) := by decide +kernel
theorem dX2_judge_26 : decode cX2_judge 26 = .ok (.aload_n 0, 1) := by decide +kernel
theorem dX2_judge_27 : decode cX2_judge 27 = .ok (.iload_n 2, 1) := by decide +kernel
theorem dX2_judge_28 : decode cX2_judge 28 = .ok (.invokevirtual 236, 3) := by decide +kernel
theorem dX2_judge_31 : decode cX2_judge 31 = .ok (.istore 4, 2) := by decide +kernel
theorem dX2_judge_33 : decode cX2_judge 33 = .ok (.iload 4, 2) := by decide +kernel
theorem dX2_judge_35 : decode cX2_judge 35 = .ok (.ifCond .eq 39, 3) := by decide +kernel
theorem dX2_judge_38 : decode cX2_judge 38 = .ok (.aload_n 0, 1) := by decide +kernel
theorem dX2_judge_39 : decode cX2_judge 39 = .ok (.getfield 77, 3) := by decide +kernel
theorem dX2_judge_42 : decode cX2_judge 42 = .ok (.iload_n 2, 1) := by decide +kernel
theorem dX2_judge_43 : decode cX2_judge 43 = .ok (.invokestatic 115, 3) := by decide +kernel
theorem dX2_judge_46 : decode cX2_judge 46 = .ok (.ifCond .eq 28, 3) := by decide +kernel
theorem dX2_judge_49 : decode cX2_judge 49 = .ok (.aload_n 0, 1) := by decide +kernel
theorem dX2_judge_50 : decode cX2_judge 50 = .ok (.aload_n 0, 1) := by decide +kernel
theorem dX2_judge_51 : decode cX2_judge 51 = .ok (.getfield 77, 3) := by decide +kernel
theorem dX2_judge_54 : decode cX2_judge 54 = .ok (.iload_n 2, 1) := by decide +kernel
theorem dX2_judge_55 : decode cX2_judge 55 = .ok (.iconst 0, 1) := by decide +kernel
theorem dX2_judge_56 : decode cX2_judge 56 = .ok (.invokestatic 122, 3) := by decide +kernel
theorem dX2_judge_59 : decode cX2_judge 59 = .ok (.putfield 77, 3) := by decide +kernel
theorem dX2_judge_62 : decode cX2_judge 62 = .ok (.aload_n 0, 1) := by decide +kernel
theorem dX2_judge_63 : decode cX2_judge 63 = .ok (.iload_n 2, 1) := by decide +kernel
theorem dX2_judge_64 : decode cX2_judge 64 = .ok (.invokevirtual 239, 3) := by decide +kernel
theorem dX2_judge_67 : decode cX2_judge 67 = .ok (.aload_n 0, 1) := by decide +kernel
theorem dX2_judge_68 : decode cX2_judge 68 = .ok (.iload_n 1, 1) := by decide +kernel
theorem dX2_judge_69 : decode cX2_judge 69 = .ok (.invokevirtual 242, 3) := by decide +kernel
theorem dX2_judge_72 : decode cX2_judge 72 = .ok (.iconst 2, 1) := by decide +kernel
theorem dX2_judge_73 : decode cX2_judge 73 = .ok (.ireturn, 1) := by decide +kernel
theorem dX2_judge_74 : decode cX2_judge 74 = .ok (.iload_n 3, 1) := by decide +kernel
theorem dX2_judge_75 : decode cX2_judge 75 = .ok (.iload 4, 2) := by decide +kernel
theorem dX2_judge_77 : decode cX2_judge 77 = .ok (.ifCond .eq 12, 3) := by decide +kernel
theorem dX2_judge_80 : decode cX2_judge 80 = .ok (.aload_n 0, 1) := by decide +kernel
theorem dX2_judge_81 : decode cX2_judge 81 = .ok (.getfield 61, 3) := by decide +kernel
theorem dX2_judge_84 : decode cX2_judge 84 = .ok (.iconst 4, 1) := by decide +kernel
theorem dX2_judge_85 : decode cX2_judge 85 = .ok (.iaload, 1) := by decide +kernel
theorem dX2_judge_86 : decode cX2_judge 86 = .ok (.goto 4, 3) := by decide +kernel
theorem dX2_judge_89 : decode cX2_judge 89 = .ok (.iconst 0, 1) := by decide +kernel
theorem dX2_judge_90 : decode cX2_judge 90 = .ok (.iadd, 1) := by decide +kernel
theorem dX2_judge_91 : decode cX2_judge 91 = .ok (.aload_n 0, 1) := by decide +kernel
theorem dX2_judge_92 : decode cX2_judge 92 = .ok (.getfield 61, 3) := by decide +kernel
theorem dX2_judge_95 : decode cX2_judge 95 = .ok (.iconst 5, 1) := by decide +kernel
theorem dX2_judge_96 : decode cX2_judge 96 = .ok (.iaload, 1) := by decide +kernel
theorem dX2_judge_97 : decode cX2_judge 97 = .ok (.if_icmp .le 18, 3) := by decide +kernel
theorem dX2_judge_100 : decode cX2_judge 100 = .ok (.aload_n 0, 1) := by decide +kernel
theorem dX2_judge_101 : decode cX2_judge 101 = .ok (.iload_n 2, 1) := by decide +kernel
theorem dX2_judge_102 : decode cX2_judge 102 = .ok (.invokevirtual 245, 3) := by decide +kernel
theorem dX2_judge_105 : decode cX2_judge 105 = .ok (.ifCond .eq 8, 3) := by decide +kernel
theorem dX2_judge_108 : decode cX2_judge 108 = .ok (.aload_n 0, 1) := by decide +kernel
theorem dX2_judge_109 : decode cX2_judge 109 = .ok (.iload_n 2, 1) := by decide +kernel
theorem dX2_judge_110 : decode cX2_judge 110 = .ok (.invokevirtual 239, 3) := by decide +kernel
theorem dX2_judge_113 : decode cX2_judge 113 = .ok (.iconst 3, 1) := by decide +kernel
theorem dX2_judge_114 : decode cX2_judge 114 = .ok (.ireturn, 1) := by decide +kernel
theorem dX2_judge_115 : decode cX2_judge 115 = .ok (.iconst 0, 1) := by decide +kernel
theorem dX2_judge_116 : decode cX2_judge 116 = .ok (.ireturn, 1) := by decide +kernel
set_option maxRecDepth 20000 in
theorem ggX2_isSearched_X2_hasVisitor : GoodIn wsX2_isSearched wsX2_hasVisitor := goodIn_r _ [7] (by decide +kernel) (by decide +kernel)
set_option maxRecDepth 20000 in
theorem gX2_isSearched_X2_hasVisitor : GoodIn wsX2_isSearched (va_wsS RX2 91 yX2_hasVisitor wsX2_hasVisitor) := goodIn_app (goodIn_of _ (by decide +kernel)) ggX2_isSearched_X2_hasVisitor
theorem dX2_isSearched_0 : decode cX2_isSearched 0 = .ok (.aload_n 0, 1) := by decide +kernel
theorem dX2_isSearched_1 : decode cX2_isSearched 1 = .ok (.getfield 61, 3) := by decide +kernel
theorem dX2_isSearched_4 : decode cX2_isSearched 4 = .ok (.iconst 1, 1) := by decide +kernel
theorem dX2_isSearched_5 : decode cX2_isSearched 5 = .ok (.iaload, 1) := by decide +kernel
theorem dX2_isSearched_6 : decode cX2_isSearched 6 = .ok (.istore_n 2, 1) := by decide +kernel
theorem dX2_isSearched_7 : decode cX2_isSearched 7 = .ok (.iload_n 2, 1) := by decide +kernel
theorem dX2_isSearched_8 : decode cX2_isSearched 8 = .ok (.ifCond .le 18, 3) := by decide +kernel
theorem dX2_isSearched_11 : decode cX2_isSearched 11 = .ok (.aload_n 0, 1) := by decide +kernel
theorem dX2_isSearched_12 : decode cX2_isSearched 12 = .ok (.getfield 50, 3) := by decide +kernel
theorem dX2_isSearched_15 : decode cX2_isSearched 15 = .ok (.iconst 4, 1) := by decide +kernel
theorem dX2_isSearched_16 : decode cX2_isSearched 16 = .ok (.iaload, 1) := by decide +kernel
theorem dX2_isSearched_17 : decode cX2_isSearched 17 = .ok (.iload_n 2, 1) := by decide +kernel
theorem dX2_isSearched_18 : decode cX2_isSearched 18 = .ok (.irem, 1) := by decide +kernel
theorem dX2_isSearched_19 : decode cX2_isSearched 19 = .ok (.ifCond .ne 7, 3) := by decide +kernel
theorem dX2_isSearched_22 : decode cX2_isSearched 22 = .ok (.iconst 1, 1) := by decide +kernel
theorem dX2_isSearched_23 : decode cX2_isSearched 23 = .ok (.goto 4, 3) := by decide +kernel
theorem dX2_isSearched_26 : decode cX2_isSearched 26 = .ok (.iconst 0, 1) := by decide +kernel
theorem dX2_isSearched_27 : decode cX2_isSearched 27 = .ok (.istore_n 3, 1) := by decide +kernel
theorem dX2_isSearched_28 : decode cX2_isSearched 28 = .ok (.iload_n 3, 1) := by decide +kernel
theorem dX2_isSearched_29 : decode cX2_isSearched 29 = .ok (.ifCond .ne 19, 3) := by decide +kernel
theorem dX2_isSearched_32 : decode cX2_isSearched 32 = .ok (.iload_n 1, 1) := by decide +kernel
theorem dX2_isSearched_33 : decode cX2_isSearched 33 = .ok (.invokestatic 91, 3) := by decide +kernel
theorem dX2_isSearched_36 : decode cX2_isSearched 36 = .ok (.ifCond .eq 16, 3) := by decide +kernel
theorem dX2_isSearched_39 : decode cX2_isSearched 39 = .ok (.aload_n 0, 1) := by decide +kernel
theorem dX2_isSearched_40 : decode cX2_isSearched 40 = .ok (.getfield 30, 3) := by decide +kernel
theorem dX2_isSearched_43 : decode cX2_isSearched 43 = .ok (.iload_n 1, 1) := by decide +kernel
theorem dX2_isSearched_44 : decode cX2_isSearched 44 = .ok (.iaload, 1) := by decide +kernel
theorem dX2_isSearched_45 : decode cX2_isSearched 45 = .ok (.ifCond .le 7, 3) := by decide +kernel
theorem dX2_isSearched_48 : decode cX2_isSearched 48 = .ok (.iconst 1, 1) := by decide +kernel
theorem dX2_isSearched_49 : decode cX2_isSearched 49 = .ok (.goto 4, 3) := by decide +kernel
theorem dX2_isSearched_52 : decode cX2_isSearched 52 = .ok (.iconst 0, 1) := by decide +kernel
theorem dX2_isSearched_53 : decode cX2_isSearched 53 = .ok (.ireturn, 1) := by decide +kernel
set_option maxRecDepth 20000 in
theorem ggX2_getsThirdStrike_X2_hasVisitor : GoodIn wsX2_getsThirdStrike wsX2_hasVisitor := goodIn_r _ [5] (by decide +kernel) (by decide +kernel)
set_option maxRecDepth 20000 in
theorem gX2_getsThirdStrike_X2_hasVisitor : GoodIn wsX2_getsThirdStrike (va_wsS RX2 91 yX2_hasVisitor wsX2_hasVisitor) := goodIn_app (goodIn_of _ (by decide +kernel)) ggX2_getsThirdStrike_X2_hasVisitor
theorem dX2_getsThirdStrike_0 : decode cX2_getsThirdStrike 0 = .ok (.iload_n 1, 1) := by decide +kernel
theorem dX2_getsThirdStrike_1 : decode cX2_getsThirdStrike 1 = .ok (.invokestatic 91, 3) := by decide +kernel
theorem dX2_getsThirdStrike_4 : decode cX2_getsThirdStrike 4 = .ok (.ifCond .ne 5, 3) := by decide +kernel
theorem dX2_getsThirdStrike_7 : decode cX2_getsThirdStrike 7 = .ok (.iconst 0, 1) := by decide +kernel
theorem dX2_getsThirdStrike_8 : decode cX2_getsThirdStrike 8 = .ok (.ireturn, 1) := by decide +kernel
theorem dX2_getsThirdStrike_9 : decode cX2_getsThirdStrike 9 = .ok (.aload_n 0, 1) := by decide +kernel
theorem dX2_getsThirdStrike_10 : decode cX2_getsThirdStrike 10 = .ok (.getfield 30, 3) := by decide +kernel
theorem dX2_getsThirdStrike_13 : decode cX2_getsThirdStrike 13 = .ok (.iload_n 1, 1) := by decide +kernel
theorem dX2_getsThirdStrike_14 : decode cX2_getsThirdStrike 14 = .ok (.dup2, 1) := by decide +kernel
theorem dX2_getsThirdStrike_15 : decode cX2_getsThirdStrike 15 = .ok (.iaload, 1) := by decide +kernel
theorem dX2_getsThirdStrike_16 : decode cX2_getsThirdStrike 16 = .ok (.iconst 1, 1) := by decide +kernel
theorem dX2_getsThirdStrike_17 : decode cX2_getsThirdStrike 17 = .ok (.iadd, 1) := by decide +kernel
theorem dX2_getsThirdStrike_18 : decode cX2_getsThirdStrike 18 = .ok (.iastore, 1) := by decide +kernel
theorem dX2_getsThirdStrike_19 : decode cX2_getsThirdStrike 19 = .ok (.aload_n 0, 1) := by decide +kernel
theorem dX2_getsThirdStrike_20 : decode cX2_getsThirdStrike 20 = .ok (.getfield 30, 3) := by decide +kernel
theorem dX2_getsThirdStrike_23 : decode cX2_getsThirdStrike 23 = .ok (.iload_n 1, 1) := by decide +kernel
theorem dX2_getsThirdStrike_24 : decode cX2_getsThirdStrike 24 = .ok (.iaload, 1) := by decide +kernel
theorem dX2_getsThirdStrike_25 : decode cX2_getsThirdStrike 25 = .ok (.iconst 3, 1) := by decide +kernel
theorem dX2_getsThirdStrike_26 : decode cX2_getsThirdStrike 26 = .ok (.if_icmp .lt 7, 3) := by decide +kernel
theorem dX2_getsThirdStrike_29 : decode cX2_getsThirdStrike 29 = .ok (.iconst 1, 1) := by decide +kernel
theorem dX2_getsThirdStrike_30 : decode cX2_getsThirdStrike 30 = .ok (.goto 4, 3) := by decide +kernel
theorem dX2_getsThirdStrike_33 : decode cX2_getsThirdStrike 33 = .ok (.iconst 0, 1) := by decide +kernel
theorem dX2_getsThirdStrike_34 : decode cX2_getsThirdStrike 34 = .ok (.istore_n 2, 1) := by decide +kernel
theorem dX2_getsThirdStrike_35 : decode cX2_getsThirdStrike 35 = .ok (.iload_n 2, 1) := by decide +kernel
theorem dX2_getsThirdStrike_36 : decode cX2_getsThirdStrike 36 = .ok (.ifCond .eq 10, 3) := by decide +kernel
theorem dX2_getsThirdStrike_39 : decode cX2_getsThirdStrike 39 = .ok (.aload_n 0, 1) := by decide +kernel
theorem dX2_getsThirdStrike_40 : decode cX2_getsThirdStrike 40 = .ok (.getfield 30, 3) := by decide +kernel
theorem dX2_getsThirdStrike_43 : decode cX2_getsThirdStrike 43 = .ok (.iload_n 1, 1) := by decide +kernel
theorem dX2_getsThirdStrike_44 : decode cX2_getsThirdStrike 44 = .ok (.iconst 0, 1) := by decide +kernel
theorem dX2_getsThirdStrike_45 : decode cX2_getsThirdStrike 45 = .ok (.iastore, 1) := by decide +kernel
theorem dX2_getsThirdStrike_46 : decode cX2_getsThirdStrike 46 = .ok (.iload_n 2, 1) := by decide +kernel
theorem dX2_getsThirdStrike_47 : decode cX2_getsThirdStrike 47 = .ok (.ireturn, 1) := by decide +kernel
set_option maxRecDepth 20000 in
theorem ggX2_ban_X2_hasVisitor : GoodIn wsX2_ban wsX2_hasVisitor := goodIn_r _ [7] (by decide +kernel) (by decide +kernel)
set_option maxRecDepth 20000 in
theorem gX2_ban_X2_hasVisitor : GoodIn wsX2_ban (va_wsS RX2 91 yX2_hasVisitor wsX2_hasVisitor) := goodIn_app (goodIn_of _ (by decide +kernel)) ggX2_ban_X2_hasVisitor
theorem dX2_ban_0 : decode cX2_ban 0 = .ok (.aload_n 0, 1) := by decide +kernel
theorem dX2_ban_1 : decode cX2_ban 1 = .ok (.getfield 64, 3) := by decide +kernel
theorem dX2_ban_4 : decode cX2_ban 4 = .ok (.iconst 1, 1) := by decide +kernel
theorem dX2_ban_5 : decode cX2_ban 5 = .ok (.iadd, 1) := by decide +kernel
theorem dX2_ban_6 : decode cX2_ban 6 = .ok (.aload_n 0, 1) := by decide +kernel
theorem dX2_ban_7 : decode cX2_ban 7 = .ok (.getfield 61, 3) := by decide +kernel
theorem dX2_ban_10 : decode cX2_ban 10 = .ok (.iconst 2, 1) := by decide +kernel
theorem dX2_ban_11 : decode cX2_ban 11 = .ok (.iaload, 1) := by decide +kernel
theorem dX2_ban_12 : decode cX2_ban 12 = .ok (.iadd, 1) := by decide +kernel
theorem dX2_ban_13 : decode cX2_ban 13 = .ok (.istore_n 2, 1) := by decide +kernel
theorem dX2_ban_14 : decode cX2_ban 14 = .ok (.iload_n 1, 1) := by decide +kernel
theorem dX2_ban_15 : decode cX2_ban 15 = .ok (.invokestatic 91, 3) := by decide +kernel
theorem dX2_ban_18 : decode cX2_ban 18 = .ok (.ifCond .eq 20, 3) := by decide +kernel
theorem dX2_ban_21 : decode cX2_ban 21 = .ok (.iload_n 2, 1) := by decide +kernel
theorem dX2_ban_22 : decode cX2_ban 22 = .ok (.aload_n 0, 1) := by decide +kernel
theorem dX2_ban_23 : decode cX2_ban 23 = .ok (.getfield 33, 3) := by decide +kernel
theorem dX2_ban_26 : decode cX2_ban 26 = .ok (.iload_n 1, 1) := by decide +kernel
theorem dX2_ban_27 : decode cX2_ban 27 = .ok (.iaload, 1) := by decide +kernel
theorem dX2_ban_28 : decode cX2_ban 28 = .ok (.if_icmp .le 10, 3) := by decide +kernel
theorem dX2_ban_31 : decode cX2_ban 31 = .ok (.aload_n 0, 1) := by decide +kernel
theorem dX2_ban_32 : decode cX2_ban 32 = .ok (.getfield 33, 3) := by decide +kernel
theorem dX2_ban_35 : decode cX2_ban 35 = .ok (.iload_n 1, 1) := by decide +kernel
theorem dX2_ban_36 : decode cX2_ban 36 = .ok (.iload_n 2, 1) := by decide +kernel
theorem dX2_ban_37 : decode cX2_ban 37 = .ok (.iastore, 1) := by decide +kernel
theorem dX2_ban_38 : decode cX2_ban 38 = .ok (.return_, 1) := by decide +kernel
set_option maxRecDepth 20000 in
theorem ggX2_takePrivileges_X2_hasPrisoner : GoodIn wsX2_takePrivileges wsX2_hasPrisoner := goodIn_r _ [8, 9, 10, 11, 12, 13, 14, 15, 16, 17, 18, 19, 20, 21, 22, 23, 24] (by decide +kernel) (by decide +kernel)
set_option maxRecDepth 20000 in
theorem gX2_takePrivileges_X2_hasPrisoner : GoodIn wsX2_takePrivileges (wsV RX2 87 RX2 yX2_hasPrisoner wsX2_hasPrisoner) := goodIn_app (goodIn_of _ (by decide +kernel)) ggX2_takePrivileges_X2_hasPrisoner
theorem dX2_takePrivileges_0 : decode cX2_takePrivileges 0 = .ok (.aload_n 0, 1) := by decide +kernel
theorem dX2_takePrivileges_1 : decode cX2_takePrivileges 1 = .ok (.getfield 64, 3) := by decide +kernel
theorem dX2_takePrivileges_4 : decode cX2_takePrivileges 4 = .ok (.iconst 1, 1) := by decide +kernel
theorem dX2_takePrivileges_5 : decode cX2_takePrivileges 5 = .ok (.iadd, 1) := by decide +kernel
theorem dX2_takePrivileges_6 : decode cX2_takePrivileges 6 = .ok (.aload_n 0, 1) := by decide +kernel
theorem dX2_takePrivileges_7 : decode cX2_takePrivileges 7 = .ok (.getfield 61, 3) := by decide +kernel
theorem dX2_takePrivileges_10 : decode cX2_takePrivileges 10 = .ok (.iconst 3, 1) := by decide +kernel
theorem dX2_takePrivileges_11 : decode cX2_takePrivileges 11 = .ok (.iaload, 1) := by decide +kernel
theorem dX2_takePrivileges_12 : decode cX2_takePrivileges 12 = .ok (.iadd, 1) := by decide +kernel
theorem dX2_takePrivileges_13 : decode cX2_takePrivileges 13 = .ok (.istore_n 2, 1) := by decide +kernel
theorem dX2_takePrivileges_14 : decode cX2_takePrivileges 14 = .ok (.aload_n 0, 1) := by decide +kernel
theorem dX2_takePrivileges_15 : decode cX2_takePrivileges 15 = .ok (.iload_n 1, 1) := by decide +kernel
theorem dX2_takePrivileges_16 : decode cX2_takePrivileges 16 = .ok (.invokevirtual 87, 3) := by decide +kernel
theorem dX2_takePrivileges_19 : decode cX2_takePrivileges 19 = .ok (.ifCond .eq 20, 3) := by decide +kernel
theorem dX2_takePrivileges_22 : decode cX2_takePrivileges 22 = .ok (.iload_n 2, 1) := by decide +kernel
theorem dX2_takePrivileges_23 : decode cX2_takePrivileges 23 = .ok (.aload_n 0, 1) := by decide +kernel
theorem dX2_takePrivileges_24 : decode cX2_takePrivileges 24 = .ok (.getfield 18, 3) := by decide +kernel
theorem dX2_takePrivileges_27 : decode cX2_takePrivileges 27 = .ok (.iload_n 1, 1) := by decide +kernel
theorem dX2_takePrivileges_28 : decode cX2_takePrivileges 28 = .ok (.iaload, 1) := by decide +kernel
theorem dX2_takePrivileges_29 : decode cX2_takePrivileges 29 = .ok (.if_icmp .le 10, 3) := by decide +kernel
theorem dX2_takePrivileges_32 : decode cX2_takePrivileges 32 = .ok (.aload_n 0, 1) := by decide +kernel
theorem dX2_takePrivileges_33 : decode cX2_takePrivileges 33 = .ok (.getfield 18, 3) := by decide +kernel
theorem dX2_takePrivileges_36 : decode cX2_takePrivileges 36 = .ok (.iload_n 1, 1) := by decide +kernel
theorem dX2_takePrivileges_37 : decode cX2_takePrivileges 37 = .ok (.iload_n 2, 1) := by decide +kernel
theorem dX2_takePrivileges_38 : decode cX2_takePrivileges 38 = .ok (.iastore, 1) := by decide +kernel
theorem dX2_takePrivileges_39 : decode cX2_takePrivileges 39 = .ok (.return_, 1) := by decide +kernel
set_option maxRecDepth 20000 in
theorem ggX2_beginNextDay_X2_weekOf : GoodIn wsX2_beginNextDay wsX2_weekOf := goodIn_r _ [6] (by decide +kernel) (by decide +kernel)
set_option maxRecDepth 20000 in
theorem gX2_beginNextDay_X2_weekOf : GoodIn wsX2_beginNextDay (va_wsS RX2 102 yX2_weekOf wsX2_weekOf) := goodIn_app (goodIn_of _ (by decide +kernel)) ggX2_beginNextDay_X2_weekOf
theorem dX2_beginNextDay_0 : decode cX2_beginNextDay 0 = .ok (.aload_n 0, 1) := by decide +kernel
theorem dX2_beginNextDay_1 : decode cX2_beginNextDay 1 = .ok (.getfield 64, 3) := by decide +kernel
theorem dX2_beginNextDay_4 : decode cX2_beginNextDay 4 = .ok (.invokestatic 102, 3) := by decide +kernel
theorem dX2_beginNextDay_7 : decode cX2_beginNextDay 7 = .ok (.istore_n 1, 1) := by decide +kernel
theorem dX2_beginNextDay_8 : decode cX2_beginNextDay 8 = .ok (.aload_n 0, 1) := by decide +kernel
theorem dX2_beginNextDay_9 : decode cX2_beginNextDay 9 = .ok (.dup, 1) := by decide +kernel
theorem dX2_beginNextDay_10 : decode cX2_beginNextDay 10 = .ok (.getfield 64, 3) := by decide +kernel
theorem dX2_beginNextDay_13 : decode cX2_beginNextDay 13 = .ok (.iconst 1, 1) := by decide +kernel
theorem dX2_beginNextDay_14 : decode cX2_beginNextDay 14 = .ok (.iadd, 1) := by decide +kernel
theorem dX2_beginNextDay_15 : decode cX2_beginNextDay 15 = .ok (.putfield 64, 3) := by decide +kernel
theorem dX2_beginNextDay_18 : decode cX2_beginNextDay 18 = .ok (.aload_n 0, 1) := by decide +kernel
theorem dX2_beginNextDay_19 : decode cX2_beginNextDay 19 = .ok (.getfield 64, 3) := by decide +kernel
theorem dX2_beginNextDay_22 : decode cX2_beginNextDay 22 = .ok (.invokestatic 102, 3) := by decide +kernel
theorem dX2_beginNextDay_25 : decode cX2_beginNextDay 25 = .ok (.iload_n 1, 1) := by decide +kernel
theorem dX2_beginNextDay_26 : decode cX2_beginNextDay 26 = .ok (.if_icmp .eq 24, 3) := by decide +kernel
theorem dX2_beginNextDay_29 : decode cX2_beginNextDay 29 = .ok (.iconst 0, 1) := by decide +kernel
theorem dX2_beginNextDay_30 : decode cX2_beginNextDay 30 = .ok (.istore_n 2, 1) := by decide +kernel
theorem dX2_beginNextDay_31 : decode cX2_beginNextDay 31 = .ok (.iload_n 2, 1) := by decide +kernel
theorem dX2_beginNextDay_32 : decode cX2_beginNextDay 32 = .ok (.bipush 8, 2) := by decide +kernel
theorem dX2_beginNextDay_34 : decode cX2_beginNextDay 34 = .ok (.if_icmp .ge 16, 3) := by decide +kernel
theorem dX2_beginNextDay_37 : decode cX2_beginNextDay 37 = .ok (.aload_n 0, 1) := by decide +kernel
theorem dX2_beginNextDay_38 : decode cX2_beginNextDay 38 = .ok (.getfield 24, 3) := by decide +kernel
theorem dX2_beginNextDay_41 : decode cX2_beginNextDay 41 = .ok (.iload_n 2, 1) := by decide +kernel
theorem dX2_beginNextDay_42 : decode cX2_beginNextDay 42 = .ok (.iconst 0, 1) := by decide +kernel
theorem dX2_beginNextDay_43 : decode cX2_beginNextDay 43 = .ok (.iastore, 1) := by decide +kernel
theorem dX2_beginNextDay_44 : decode cX2_beginNextDay 44 = .ok (.iinc 2 1, 3) := by decide +kernel
theorem dX2_beginNextDay_47 : decode cX2_beginNextDay 47 = .ok (.goto (-16), 3) := by decide +kernel
theorem dX2_beginNextDay_50 : decode cX2_beginNextDay 50 = .ok (.return_, 1) := by decide +kernel
theorem dX3_withoutLast_0 : decode cX3_withoutLast 0 = .ok (.lload_n 0, 1) := by decide +kernel
theorem dX3_withoutLast_1 : decode cX3_withoutLast 1 = .ok (.lstore_n 3, 1) := by decide +kernel
theorem dX3_withoutLast_2 : decode cX3_withoutLast 2 = .ok (.iconst 0, 1) := by decide +kernel
theorem dX3_withoutLast_3 : decode cX3_withoutLast 3 = .ok (.istore 5, 2) := by decide +kernel
theorem dX3_withoutLast_5 : decode cX3_withoutLast 5 = .ok (.iload 5, 2) := by decide +kernel
theorem dX3_withoutLast_7 : decode cX3_withoutLast 7 = .ok (.iload_n 2, 1) := by decide +kernel
theorem dX3_withoutLast_8 : decode cX3_withoutLast 8 = .ok (.if_icmp .ge 15, 3) := by decide +kernel
theorem dX3_withoutLast_11 : decode cX3_withoutLast 11 = .ok (.lload_n 3, 1) := by decide +kernel
theorem dX3_withoutLast_12 : decode cX3_withoutLast 12 = .ok (.ldc2_w 11, 3) := by decide +kernel
theorem dX3_withoutLast_15 : decode cX3_withoutLast 15 = .ok (.ldiv, 1) := by decide +kernel
theorem dX3_withoutLast_16 : decode cX3_withoutLast 16 = .ok (.lstore_n 3, 1) := by decide +kernel
theorem dX3_withoutLast_17 : decode cX3_withoutLast 17 = .ok (.iinc 5 1, 3) := by decide +kernel
theorem dX3_withoutLast_20 : decode cX3_withoutLast 20 = .ok (.goto (-15), 3) := by decide +kernel
theorem dX3_withoutLast_23 : decode cX3_withoutLast 23 = .ok (.lload_n 3, 1) := by decide +kernel
theorem dX3_withoutLast_24 : decode cX3_withoutLast 24 = .ok (.lreturn, 1) := by decide +kernel
set_option maxRecDepth 20000 in
theorem ggX3_succeeds_X2_tryBook : GoodIn wsX3_succeeds wsX2_tryBook := goodIn_r _ [9, 10, 11, 12, 13, 8, 14, 15, 16, 17, 18, 19, 20, 21, 22, 23, 24, 25, 26, 27, 28, 29, 30, 31, 32, 33, 34, 35, 36, 37, 38, 39, 40, 41, 42, 43, 44, 45, 46, 47, 48, 49, 50, 51, 52, 53, 54, 55, 56, 57, 58, 59, 60, 61, 62, 63, 64, 65, 66, 67, 68, 69, 70, 71, 72, 73, 74, 75, 76, 77, 78, 79, 80, 81, 82, 83, 84, 214, 215, 216, 217, 218, 219, 220, 221, 222, 223, 224, 225, 226, 227, 228, 229, 230] (by decide +kernel) (by decide +kernel)
set_option maxRecDepth 20000 in
theorem gX3_succeeds_X2_tryBook : GoodIn wsX3_succeeds (wsV RX3 19 RX2 yX2_tryBook wsX2_tryBook) := goodIn_app (goodIn_of _ (by decide +kernel)) ggX3_succeeds_X2_tryBook
set_option maxRecDepth 20000 in
theorem ggX3_succeeds_X2_tryWish : GoodIn wsX3_succeeds wsX2_tryWish := goodIn_r _ [88, 36, 89, 90, 11, 12, 13, 8, 14, 15, 16, 17, 18, 19, 20, 21, 22, 41, 42, 43, 91, 92, 93, 94, 95, 96, 97, 98, 99, 100, 101, 214, 215, 216, 217, 218, 219, 220, 221, 222, 223, 224, 225, 226, 227, 228, 231, 232] (by decide +kernel) (by decide +kernel)
set_option maxRecDepth 20000 in
theorem gX3_succeeds_X2_tryWish : GoodIn wsX3_succeeds (wsV RX3 23 RX2 yX2_tryWish wsX2_tryWish) := goodIn_app (goodIn_of _ (by decide +kernel)) ggX3_succeeds_X2_tryWish
set_option maxRecDepth 20000 in
theorem ggX3_succeeds_X2_tryList : GoodIn wsX3_succeeds wsX2_tryList := goodIn_r _ [105, 36, 11, 12, 13, 8, 14, 15, 16, 17, 18, 19, 20, 21, 22, 106, 42, 107, 214, 215, 216, 217, 218, 219, 220, 221, 222, 223, 224, 225, 226, 227, 228] (by decide +kernel) (by decide +kernel)
set_option maxRecDepth 20000 in
theorem gX3_succeeds_X2_tryList : GoodIn wsX3_succeeds (wsV RX3 27 RX2 yX2_tryList wsX2_tryList) := goodIn_app (goodIn_of _ (by decide +kernel)) ggX3_succeeds_X2_tryList
set_option maxRecDepth 20000 in
theorem ggX3_succeeds_X2_tryCarry : GoodIn wsX3_succeeds wsX2_tryCarry := goodIn_r _ [111, 112, 20, 21, 8, 22, 106, 42, 107, 214, 215, 216, 217, 218, 219, 220, 221, 222, 223, 224, 225, 226, 227, 228] (by decide +kernel) (by decide +kernel)
set_option maxRecDepth 20000 in
theorem gX3_succeeds_X2_tryCarry : GoodIn wsX3_succeeds (wsV RX3 31 RX2 yX2_tryCarry wsX2_tryCarry) := goodIn_app (goodIn_of _ (by decide +kernel)) ggX3_succeeds_X2_tryCarry
set_option maxRecDepth 20000 in
theorem ggX3_succeeds_X2_tryPunish : GoodIn wsX3_succeeds wsX2_tryPunish := goodIn_r _ [116, 37, 27, 15, 16, 17, 8, 18, 19, 117, 42, 118, 214, 215, 216, 217, 218, 219, 220, 221, 222, 223, 224, 225, 226, 227, 228] (by decide +kernel) (by decide +kernel)
set_option maxRecDepth 20000 in
theorem gX3_succeeds_X2_tryPunish : GoodIn wsX3_succeeds (wsV RX3 35 RX2 yX2_tryPunish wsX2_tryPunish) := goodIn_app (goodIn_of _ (by decide +kernel)) ggX3_succeeds_X2_tryPunish
set_option maxRecDepth 20000 in
theorem ggX3_succeeds_X7_isBetween : GoodIn wsX3_succeeds wsX7_isBetween := goodIn_r _ [118] (by decide +kernel) (by decide +kernel)
set_option maxRecDepth 20000 in
theorem gX3_succeeds_X7_isBetween_n38 : GoodIn wsX3_succeeds (wsX7_isBetween) := ggX3_succeeds_X7_isBetween
set_option maxRecDepth 20000 in
theorem ggX3_succeeds_X2_letDaysPass : GoodIn wsX3_succeeds wsX2_letDaysPass := goodIn_r _ [122, 123, 10, 124, 27, 125, 126, 127, 8, 128, 89, 90, 129, 130, 131, 132, 94, 133, 96, 134, 135, 136, 137, 138, 139, 140, 141, 101, 142, 143, 144, 145, 146, 147, 148, 149, 150, 151, 152, 153, 154, 155, 156, 157, 64, 65, 66, 50, 67, 52, 32, 33, 34, 35, 36, 37, 38, 39, 40, 15, 16, 17, 18, 19, 20, 21, 22, 41, 42, 43, 44, 45, 46, 47, 48, 49, 51, 53, 54, 55, 56, 57, 58, 59, 60, 61, 62, 63, 68, 69, 70, 71, 72, 73, 74, 75, 76, 77, 78, 79, 80, 81, 82, 83, 84, 158, 159, 160, 161, 162, 163, 164, 165, 166, 167, 168, 169, 170, 171, 172, 173, 174, 175, 176, 177, 178, 11, 12, 13, 14, 179, 180, 181, 182, 112, 183, 184, 185, 186, 187, 188, 189, 190, 191, 192, 193, 194, 195, 106, 107, 196, 197, 198, 199, 200, 201, 202, 203, 204, 205, 206, 207, 208, 209, 210, 211, 214, 215, 216, 217, 218, 219, 220, 221, 222, 223, 224, 225, 226, 227, 228, 229, 230, 231, 232] (by decide +kernel) (by decide +kernel)
set_option maxRecDepth 20000 in
theorem gX3_succeeds_X2_letDaysPass : GoodIn wsX3_succeeds (wsV RX3 42 RX2 yX2_letDaysPass wsX2_letDaysPass) := goodIn_app (goodIn_of _ (by decide +kernel)) ggX3_succeeds_X2_letDaysPass
set_option maxRecDepth 20000 in
theorem ggX3_succeeds_X2_hasPrisoner : GoodIn wsX3_succeeds wsX2_hasPrisoner := goodIn_r _ [18, 19, 214, 215, 216, 217, 218, 219, 220, 221, 222, 223, 224, 225, 226, 227, 228] (by decide +kernel) (by decide +kernel)
set_option maxRecDepth 20000 in
theorem gX3_succeeds_X2_hasPrisoner : GoodIn wsX3_succeeds (wsV RX3 46 RX2 yX2_hasPrisoner wsX2_hasPrisoner) := goodIn_app (goodIn_of _ (by decide +kernel)) ggX3_succeeds_X2_hasPrisoner
set_option maxRecDepth 20000 in
theorem ggX3_succeeds_X2_isBanned : GoodIn wsX3_succeeds wsX2_isBanned := goodIn_r _ [190, 38, 20, 21, 8, 22, 214, 215, 216, 217, 218, 219, 220, 221, 222, 223, 224, 225, 226, 227, 228] (by decide +kernel) (by decide +kernel)
set_option maxRecDepth 20000 in
theorem gX3_succeeds_X2_isBanned : GoodIn wsX3_succeeds (wsV RX3 54 RX2 yX2_isBanned wsX2_isBanned) := goodIn_app (goodIn_of _ (by decide +kernel)) ggX3_succeeds_X2_isBanned
theorem dX3_succeeds_0 : decode cX3_succeeds 0 = .ok (.iload_n 1, 1) := by decide +kernel
theorem dX3_succeeds_1 : decode cX3_succeeds 1 = .ok (.sipush 1000, 3) := by decide +kernel
theorem dX3_succeeds_4 : decode cX3_succeeds 4 = .ok (.idiv, 1) := by decide +kernel
theorem dX3_succeeds_5 : decode cX3_succeeds 5 = .ok (.bipush 10, 2) := by decide +kernel
theorem dX3_succeeds_7 : decode cX3_succeeds 7 = .ok (.irem, 1) := by decide +kernel
theorem dX3_succeeds_8 : decode cX3_succeeds 8 = .ok (.istore_n 2, 1) := by decide +kernel
theorem dX3_succeeds_9 : decode cX3_succeeds 9 = .ok (.iload_n 1, 1) := by decide +kernel
theorem dX3_succeeds_10 : decode cX3_succeeds 10 = .ok (.bipush 100, 2) := by decide +kernel
theorem dX3_succeeds_12 : decode cX3_succeeds 12 = .ok (.idiv, 1) := by decide +kernel
theorem dX3_succeeds_13 : decode cX3_succeeds 13 = .ok (.bipush 10, 2) := by decide +kernel
theorem dX3_succeeds_15 : decode cX3_succeeds 15 = .ok (.irem, 1) := by decide +kernel
theorem dX3_succeeds_16 : decode cX3_succeeds 16 = .ok (.istore_n 3, 1) := by decide +kernel
theorem dX3_succeeds_17 : decode cX3_succeeds 17 = .ok (.iload_n 1, 1) := by decide +kernel
theorem dX3_succeeds_18 : decode cX3_succeeds 18 = .ok (.bipush 10, 2) := by decide +kernel
theorem dX3_succeeds_20 : decode cX3_succeeds 20 = .ok (.idiv, 1) := by decide +kernel
theorem dX3_succeeds_21 : decode cX3_succeeds 21 = .ok (.bipush 10, 2) := by decide +kernel
theorem dX3_succeeds_23 : decode cX3_succeeds 23 = .ok (.irem, 1) := by decide +kernel
theorem dX3_succeeds_24 : decode cX3_succeeds 24 = .ok (.istore 4, 2) := by decide +kernel
theorem dX3_succeeds_26 : decode cX3_succeeds 26 = .ok (.iload_n 1, 1) := by decide +kernel
theorem dX3_succeeds_27 : decode cX3_succeeds 27 = .ok (.bipush 10, 2) := by decide +kernel
theorem dX3_succeeds_29 : decode cX3_succeeds 29 = .ok (.irem, 1) := by decide +kernel
theorem dX3_succeeds_30 : decode cX3_succeeds 30 = .ok (.istore 5, 2) := by decide +kernel
theorem dX3_succeeds_32 : decode cX3_succeeds 32 = .ok (.iload_n 1, 1) := by decide +kernel
theorem dX3_succeeds_33 : decode cX3_succeeds 33 = .ok (.bipush 100, 2) := by decide +kernel
theorem dX3_succeeds_35 : decode cX3_succeeds 35 = .ok (.irem, 1) := by decide +kernel
theorem dX3_succeeds_36 : decode cX3_succeeds 36 = .ok (.istore 6, 2) := by decide +kernel
theorem dX3_succeeds_38 : decode cX3_succeeds 38 = .ok (.iload_n 1, 1) := by decide +kernel
theorem dX3_succeeds_39 : decode cX3_succeeds 39 = .ok (.sipush 10000, 3) := by decide +kernel
theorem dX3_succeeds_42 : decode cX3_succeeds 42 = .ok (.idiv, 1) := by decide +kernel
theorem dX3_succeeds_43 : decode cX3_succeeds 43 = .ok (.tableswitch 316 1 9 #[49, 73, 98, 135, 175, 195, 229, 258, 290], 49) := by decide +kernel
theorem dX3_succeeds_92 : decode cX3_succeeds 92 = .ok (.aload_n 0, 1) := by decide +kernel
theorem dX3_succeeds_93 : decode cX3_succeeds 93 = .ok (.iload_n 2, 1) := by decide +kernel
theorem dX3_succeeds_94 : decode cX3_succeeds 94 = .ok (.iload_n 3, 1) := by decide +kernel
theorem dX3_succeeds_95 : decode cX3_succeeds 95 = .ok (.aload_n 0, 1) := by decide +kernel
theorem dX3_succeeds_96 : decode cX3_succeeds 96 = .ok (.getfield 13, 3) := by decide +kernel
theorem dX3_succeeds_99 : decode cX3_succeeds 99 = .ok (.iload 4, 2) := by decide +kernel
theorem dX3_succeeds_101 : decode cX3_succeeds 101 = .ok (.iadd, 1) := by decide +kernel
theorem dX3_succeeds_102 : decode cX3_succeeds 102 = .ok (.iload 5, 2) := by decide +kernel
theorem dX3_succeeds_104 : decode cX3_succeeds 104 = .ok (.invokevirtual 19, 3) := by decide +kernel
theorem dX3_succeeds_107 : decode cX3_succeeds 107 = .ok (.ifCond .lt 7, 3) := by decide +kernel
theorem dX3_succeeds_110 : decode cX3_succeeds 110 = .ok (.iconst 1, 1) := by decide +kernel
theorem dX3_succeeds_111 : decode cX3_succeeds 111 = .ok (.goto 4, 3) := by decide +kernel
theorem dX3_succeeds_114 : decode cX3_succeeds 114 = .ok (.iconst 0, 1) := by decide +kernel
theorem dX3_succeeds_115 : decode cX3_succeeds 115 = .ok (.ireturn, 1) := by decide +kernel
theorem dX3_succeeds_116 : decode cX3_succeeds 116 = .ok (.iload 4, 2) := by decide +kernel
theorem dX3_succeeds_118 : decode cX3_succeeds 118 = .ok (.ifCond .ne 21, 3) := by decide +kernel
theorem dX3_succeeds_121 : decode cX3_succeeds 121 = .ok (.iload 5, 2) := by decide +kernel
theorem dX3_succeeds_123 : decode cX3_succeeds 123 = .ok (.ifCond .ne 16, 3) := by decide +kernel
theorem dX3_succeeds_126 : decode cX3_succeeds 126 = .ok (.aload_n 0, 1) := by decide +kernel
theorem dX3_succeeds_127 : decode cX3_succeeds 127 = .ok (.iload_n 2, 1) := by decide +kernel
theorem dX3_succeeds_128 : decode cX3_succeeds 128 = .ok (.iload_n 3, 1) := by decide +kernel
theorem dX3_succeeds_129 : decode cX3_succeeds 129 = .ok (.invokevirtual 23, 3) := by decide +kernel
theorem dX3_succeeds_132 : decode cX3_succeeds 132 = .ok (.ifCond .lt 7, 3) := by decide +kernel
theorem dX3_succeeds_135 : decode cX3_succeeds 135 = .ok (.iconst 1, 1) := by decide +kernel
theorem dX3_succeeds_136 : decode cX3_succeeds 136 = .ok (.goto 4, 3) := by decide +kernel
theorem dX3_succeeds_139 : decode cX3_succeeds 139 = .ok (.iconst 0, 1) := by decide +kernel
theorem dX3_succeeds_140 : decode cX3_succeeds 140 = .ok (.ireturn, 1) := by decide +kernel
theorem dX3_succeeds_141 : decode cX3_succeeds 141 = .ok (.iload 4, 2) := by decide +kernel
theorem dX3_succeeds_143 : decode cX3_succeeds 143 = .ok (.ifCond .ne 33, 3) := by decide +kernel
theorem dX3_succeeds_146 : decode cX3_succeeds 146 = .ok (.iload 5, 2) := by decide +kernel
theorem dX3_succeeds_148 : decode cX3_succeeds 148 = .ok (.iconst 1, 1) := by decide +kernel
theorem dX3_succeeds_149 : decode cX3_succeeds 149 = .ok (.if_icmp .gt 27, 3) := by decide +kernel
theorem dX3_succeeds_152 : decode cX3_succeeds 152 = .ok (.aload_n 0, 1) := by decide +kernel
theorem dX3_succeeds_153 : decode cX3_succeeds 153 = .ok (.iload_n 2, 1) := by decide +kernel
theorem dX3_succeeds_154 : decode cX3_succeeds 154 = .ok (.iload_n 3, 1) := by decide +kernel
theorem dX3_succeeds_155 : decode cX3_succeeds 155 = .ok (.iload 5, 2) := by decide +kernel
theorem dX3_succeeds_157 : decode cX3_succeeds 157 = .ok (.iconst 1, 1) := by decide +kernel
theorem dX3_succeeds_158 : decode cX3_succeeds 158 = .ok (.if_icmp .ne 7, 3) := by decide +kernel
theorem dX3_succeeds_161 : decode cX3_succeeds 161 = .ok (.iconst 1, 1) := by decide +kernel
theorem dX3_succeeds_162 : decode cX3_succeeds 162 = .ok (.goto 4, 3) := by decide +kernel
theorem dX3_succeeds_165 : decode cX3_succeeds 165 = .ok (.iconst 0, 1) := by decide +kernel
theorem dX3_succeeds_166 : decode cX3_succeeds 166 = .ok (.invokevirtual 27, 3) := by decide +kernel
theorem dX3_succeeds_169 : decode cX3_succeeds 169 = .ok (.ifCond .lt 7, 3) := by decide +kernel
theorem dX3_succeeds_172 : decode cX3_succeeds 172 = .ok (.iconst 1, 1) := by decide +kernel
theorem dX3_succeeds_173 : decode cX3_succeeds 173 = .ok (.goto 4, 3) := by decide +kernel
theorem dX3_succeeds_176 : decode cX3_succeeds 176 = .ok (.iconst 0, 1) := by decide +kernel
theorem dX3_succeeds_177 : decode cX3_succeeds 177 = .ok (.ireturn, 1) := by decide +kernel
theorem dX3_succeeds_178 : decode cX3_succeeds 178 = .ok (.iload_n 3, 1) := by decide +kernel
theorem dX3_succeeds_179 : decode cX3_succeeds 179 = .ok (.ifCond .ne 37, 3) := by decide +kernel
theorem dX3_succeeds_182 : decode cX3_succeeds 182 = .ok (.iload 4, 2) := by decide +kernel
theorem dX3_succeeds_184 : decode cX3_succeeds 184 = .ok (.ifCond .ne 32, 3) := by decide +kernel
theorem dX3_succeeds_187 : decode cX3_succeeds 187 = .ok (.iload 5, 2) := by decide +kernel
theorem dX3_succeeds_189 : decode cX3_succeeds 189 = .ok (.iconst 1, 1) := by decide +kernel
theorem dX3_succeeds_190 : decode cX3_succeeds 190 = .ok (.if_icmp .gt 26, 3) := by decide +kernel
theorem dX3_succeeds_193 : decode cX3_succeeds 193 = .ok (.aload_n 0, 1) := by decide +kernel
theorem dX3_succeeds_194 : decode cX3_succeeds 194 = .ok (.iload_n 2, 1) := by decide +kernel
theorem dX3_succeeds_195 : decode cX3_succeeds 195 = .ok (.iload 5, 2) := by decide +kernel
theorem dX3_succeeds_197 : decode cX3_succeeds 197 = .ok (.iconst 1, 1) := by decide +kernel
theorem dX3_succeeds_198 : decode cX3_succeeds 198 = .ok (.if_icmp .ne 7, 3) := by decide +kernel
theorem dX3_succeeds_201 : decode cX3_succeeds 201 = .ok (.iconst 1, 1) := by decide +kernel
theorem dX3_succeeds_202 : decode cX3_succeeds 202 = .ok (.goto 4, 3) := by decide +kernel
theorem dX3_succeeds_205 : decode cX3_succeeds 205 = .ok (.iconst 0, 1) := by decide +kernel
theorem dX3_succeeds_206 : decode cX3_succeeds 206 = .ok (.invokevirtual 31, 3) := by decide +kernel
theorem dX3_succeeds_209 : decode cX3_succeeds 209 = .ok (.ifCond .lt 7, 3) := by decide +kernel
theorem dX3_succeeds_212 : decode cX3_succeeds 212 = .ok (.iconst 1, 1) := by decide +kernel
theorem dX3_succeeds_213 : decode cX3_succeeds 213 = .ok (.goto 4, 3) := by decide +kernel
theorem dX3_succeeds_216 : decode cX3_succeeds 216 = .ok (.iconst 0, 1) := by decide +kernel
theorem dX3_succeeds_217 : decode cX3_succeeds 217 = .ok (.ireturn, 1) := by decide +kernel
theorem dX3_succeeds_218 : decode cX3_succeeds 218 = .ok (.iload_n 3, 1) := by decide +kernel
theorem dX3_succeeds_219 : decode cX3_succeeds 219 = .ok (.ifCond .ne 17, 3) := by decide +kernel
theorem dX3_succeeds_222 : decode cX3_succeeds 222 = .ok (.aload_n 0, 1) := by decide +kernel
theorem dX3_succeeds_223 : decode cX3_succeeds 223 = .ok (.iload_n 2, 1) := by decide +kernel
theorem dX3_succeeds_224 : decode cX3_succeeds 224 = .ok (.iload 6, 2) := by decide +kernel
theorem dX3_succeeds_226 : decode cX3_succeeds 226 = .ok (.invokevirtual 35, 3) := by decide +kernel
theorem dX3_succeeds_229 : decode cX3_succeeds 229 = .ok (.ifCond .lt 7, 3) := by decide +kernel
theorem dX3_succeeds_232 : decode cX3_succeeds 232 = .ok (.iconst 1, 1) := by decide +kernel
theorem dX3_succeeds_233 : decode cX3_succeeds 233 = .ok (.goto 4, 3) := by decide +kernel
theorem dX3_succeeds_236 : decode cX3_succeeds 236 = .ok (.iconst 0, 1) := by decide +kernel
theorem dX3_succeeds_237 : decode cX3_succeeds 237 = .ok (.ireturn, 1) := by decide +kernel
theorem dX3_succeeds_238 : decode cX3_succeeds 238 = .ok (.iload_n 2, 1) := by decide +kernel
theorem dX3_succeeds_239 : decode cX3_succeeds 239 = .ok (.ifCond .ne 31, 3) := by decide +kernel
theorem dX3_succeeds_242 : decode cX3_succeeds 242 = .ok (.iload_n 3, 1) := by decide +kernel
theorem dX3_succeeds_243 : decode cX3_succeeds 243 = .ok (.ifCond .ne 27, 3) := by decide +kernel
theorem dX3_succeeds_246 : decode cX3_succeeds 246 = .ok (.iload 6, 2) := by decide +kernel
theorem dX3_succeeds_248 : decode cX3_succeeds 248 = .ok (.iconst 1, 1) := by decide +kernel
theorem dX3_succeeds_249 : decode cX3_succeeds 249 = .ok (.bipush 30, 2) := by decide +kernel
theorem dX3_succeeds_251 : decode cX3_succeeds 251 = .ok (.invokestatic 38, 3) := by decide +kernel
theorem dX3_succeeds_254 : decode cX3_succeeds 254 = .ok (.ifCond .eq 16, 3) := by decide +kernel
theorem dX3_succeeds_257 : decode cX3_succeeds 257 = .ok (.aload_n 0, 1) := by decide +kernel
theorem dX3_succeeds_258 : decode cX3_succeeds 258 = .ok (.iload 6, 2) := by decide +kernel
theorem dX3_succeeds_260 : decode cX3_succeeds 260 = .ok (.invokevirtual 42, 3) := by decide +kernel
theorem dX3_succeeds_263 : decode cX3_succeeds 263 = .ok (.ifCond .lt 7, 3) := by decide +kernel
theorem dX3_succeeds_266 : decode cX3_succeeds 266 = .ok (.iconst 1, 1) := by decide +kernel
theorem dX3_succeeds_267 : decode cX3_succeeds 267 = .ok (.goto 4, 3) := by decide +kernel
theorem dX3_succeeds_270 : decode cX3_succeeds 270 = .ok (.iconst 0, 1) := by decide +kernel
theorem dX3_succeeds_271 : decode cX3_succeeds 271 = .ok (.ireturn, 1) := by decide +kernel
theorem dX3_succeeds_272 : decode cX3_succeeds 272 = .ok (.iload_n 3, 1) := by decide +kernel
theorem dX3_succeeds_273 : decode cX3_succeeds 273 = .ok (.ifCond .ne 26, 3) := by decide +kernel
theorem dX3_succeeds_276 : decode cX3_succeeds 276 = .ok (.aload_n 0, 1) := by decide +kernel
theorem dX3_succeeds_277 : decode cX3_succeeds 277 = .ok (.iload_n 2, 1) := by decide +kernel
theorem dX3_succeeds_278 : decode cX3_succeeds 278 = .ok (.invokevirtual 46, 3) := by decide +kernel
theorem dX3_succeeds_281 : decode cX3_succeeds 281 = .ok (.ifCond .eq 18, 3) := by decide +kernel
theorem dX3_succeeds_284 : decode cX3_succeeds 284 = .ok (.aload_n 0, 1) := by decide +kernel
theorem dX3_succeeds_285 : decode cX3_succeeds 285 = .ok (.getfield 50, 3) := by decide +kernel
theorem dX3_succeeds_288 : decode cX3_succeeds 288 = .ok (.iload_n 2, 1) := by decide +kernel
theorem dX3_succeeds_289 : decode cX3_succeeds 289 = .ok (.iaload, 1) := by decide +kernel
theorem dX3_succeeds_290 : decode cX3_succeeds 290 = .ok (.iload 6, 2) := by decide +kernel
theorem dX3_succeeds_292 : decode cX3_succeeds 292 = .ok (.if_icmp .lt 7, 3) := by decide +kernel
theorem dX3_succeeds_295 : decode cX3_succeeds 295 = .ok (.iconst 1, 1) := by decide +kernel
theorem dX3_succeeds_296 : decode cX3_succeeds 296 = .ok (.goto 4, 3) := by decide +kernel
theorem dX3_succeeds_299 : decode cX3_succeeds 299 = .ok (.iconst 0, 1) := by decide +kernel
theorem dX3_succeeds_300 : decode cX3_succeeds 300 = .ok (.ireturn, 1) := by decide +kernel
theorem dX3_succeeds_301 : decode cX3_succeeds 301 = .ok (.iload_n 3, 1) := by decide +kernel
theorem dX3_succeeds_302 : decode cX3_succeeds 302 = .ok (.ifCond .ne 29, 3) := by decide +kernel
theorem dX3_succeeds_305 : decode cX3_succeeds 305 = .ok (.iload 4, 2) := by decide +kernel
theorem dX3_succeeds_307 : decode cX3_succeeds 307 = .ok (.ifCond .ne 24, 3) := by decide +kernel
theorem dX3_succeeds_310 : decode cX3_succeeds 310 = .ok (.iload 5, 2) := by decide +kernel
theorem dX3_succeeds_312 : decode cX3_succeeds 312 = .ok (.ifCond .ne 19, 3) := by decide +kernel
theorem dX3_succeeds_315 : decode cX3_succeeds 315 = .ok (.aload_n 0, 1) := by decide +kernel
theorem dX3_succeeds_316 : decode cX3_succeeds 316 = .ok (.iload_n 2, 1) := by decide +kernel
theorem dX3_succeeds_317 : decode cX3_succeeds 317 = .ok (.aload_n 0, 1) := by decide +kernel
theorem dX3_succeeds_318 : decode cX3_succeeds 318 = .ok (.getfield 13, 3) := by decide +kernel
theorem dX3_succeeds_321 : decode cX3_succeeds 321 = .ok (.invokevirtual 54, 3) := by decide +kernel
theorem dX3_succeeds_324 : decode cX3_succeeds 324 = .ok (.ifCond .ne 7, 3) := by decide +kernel
theorem dX3_succeeds_327 : decode cX3_succeeds 327 = .ok (.iconst 1, 1) := by decide +kernel
theorem dX3_succeeds_328 : decode cX3_succeeds 328 = .ok (.goto 4, 3) := by decide +kernel
theorem dX3_succeeds_331 : decode cX3_succeeds 331 = .ok (.iconst 0, 1) := by decide +kernel
theorem dX3_succeeds_332 : decode cX3_succeeds 332 = .ok (.ireturn, 1) := by decide +kernel
theorem dX3_succeeds_333 : decode cX3_succeeds 333 = .ok (.iload_n 2, 1) := by decide +kernel
theorem dX3_succeeds_334 : decode cX3_succeeds 334 = .ok (.ifCond .ne 23, 3) := by decide +kernel
theorem dX3_succeeds_337 : decode cX3_succeeds 337 = .ok (.iload_n 3, 1) := by decide +kernel
theorem dX3_succeeds_338 : decode cX3_succeeds 338 = .ok (.ifCond .ne 19, 3) := by decide +kernel
theorem dX3_succeeds_341 : decode cX3_succeeds 341 = .ok (.aload_n 0, 1) := by decide +kernel
theorem dX3_succeeds_342 : decode cX3_succeeds 342 = .ok (.getfield 58, 3) := by decide +kernel
theorem dX3_succeeds_345 : decode cX3_succeeds 345 = .ok (.getfield 62, 3) := by decide +kernel
theorem dX3_succeeds_348 : decode cX3_succeeds 348 = .ok (.iload 6, 2) := by decide +kernel
theorem dX3_succeeds_350 : decode cX3_succeeds 350 = .ok (.if_icmp .gt 7, 3) := by decide +kernel
theorem dX3_succeeds_353 : decode cX3_succeeds 353 = .ok (.iconst 1, 1) := by decide +kernel
theorem dX3_succeeds_354 : decode cX3_succeeds 354 = .ok (.goto 4, 3) := by decide +kernel
theorem dX3_succeeds_357 : decode cX3_succeeds 357 = .ok (.iconst 0, 1) := by decide +kernel
theorem dX3_succeeds_358 : decode cX3_succeeds 358 = .ok (.ireturn, 1) := by decide +kernel
theorem dX3_succeeds_359 : decode cX3_succeeds 359 = .ok (.iconst 0, 1) := by decide +kernel
theorem dX3_succeeds_360 : decode cX3_succeeds 360 = .ok (.ireturn, 1) := by decide +kernel
set_option maxRecDepth 20000 in
theorem ggX3_takeTurn_X2_tryBook : GoodIn wsX3_takeTurn wsX2_tryBook := goodIn_r _ [6, 7, 8, 9, 10, 5, 11, 12, 13, 14, 15, 16, 17, 18, 19, 20, 21, 22, 23, 24, 25, 26, 27, 28, 29, 30, 31, 32, 33, 34, 35, 36, 37, 38, 39, 40, 41, 42, 43, 44, 45, 46, 47, 48, 49, 50, 51, 52, 53, 54, 55, 56, 57, 58, 59, 60, 61, 62, 63, 64, 65, 66, 67, 68, 69, 70, 71, 72, 73, 74, 75, 76, 77, 78, 79, 80, 81, 214, 215, 216, 217, 218, 219, 220, 221, 222, 223, 224, 225, 226, 227, 228, 229, 230] (by decide +kernel) (by decide +kernel)
set_option maxRecDepth 20000 in
theorem gX3_takeTurn_X2_tryBook : GoodIn wsX3_takeTurn (wsV RX3 19 RX2 yX2_tryBook wsX2_tryBook) := goodIn_app (goodIn_of _ (by decide +kernel)) ggX3_takeTurn_X2_tryBook
set_option maxRecDepth 20000 in
theorem ggX3_takeTurn_X2_tryWish : GoodIn wsX3_takeTurn wsX2_tryWish := goodIn_r _ [85, 33, 86, 87, 8, 9, 10, 5, 11, 12, 13, 14, 15, 16, 17, 18, 19, 38, 39, 40, 88, 89, 90, 91, 92, 93, 94, 95, 96, 97, 98, 214, 215, 216, 217, 218, 219, 220, 221, 222, 223, 224, 225, 226, 227, 228, 231, 232] (by decide +kernel) (by decide +kernel)
set_option maxRecDepth 20000 in
theorem gX3_takeTurn_X2_tryWish : GoodIn wsX3_takeTurn (wsV RX3 23 RX2 yX2_tryWish wsX2_tryWish) := goodIn_app (goodIn_of _ (by decide +kernel)) ggX3_takeTurn_X2_tryWish
set_option maxRecDepth 20000 in
theorem ggX3_takeTurn_X2_tryList : GoodIn wsX3_takeTurn wsX2_tryList := goodIn_r _ [102, 33, 8, 9, 10, 5, 11, 12, 13, 14, 15, 16, 17, 18, 19, 103, 39, 104, 214, 215, 216, 217, 218, 219, 220, 221, 222, 223, 224, 225, 226, 227, 228] (by decide +kernel) (by decide +kernel)
set_option maxRecDepth 20000 in
theorem gX3_takeTurn_X2_tryList : GoodIn wsX3_takeTurn (wsV RX3 27 RX2 yX2_tryList wsX2_tryList) := goodIn_app (goodIn_of _ (by decide +kernel)) ggX3_takeTurn_X2_tryList
set_option maxRecDepth 20000 in
theorem ggX3_takeTurn_X2_tryCarry : GoodIn wsX3_takeTurn wsX2_tryCarry := goodIn_r _ [108, 109, 17, 18, 5, 19, 103, 39, 104, 214, 215, 216, 217, 218, 219, 220, 221, 222, 223, 224, 225, 226, 227, 228] (by decide +kernel) (by decide +kernel)
set_option maxRecDepth 20000 in
theorem gX3_takeTurn_X2_tryCarry : GoodIn wsX3_takeTurn (wsV RX3 31 RX2 yX2_tryCarry wsX2_tryCarry) := goodIn_app (goodIn_of _ (by decide +kernel)) ggX3_takeTurn_X2_tryCarry
set_option maxRecDepth 20000 in
theorem ggX3_takeTurn_X2_tryLate : GoodIn wsX3_takeTurn wsX2_tryLate := goodIn_r _ [113, 7, 114, 115, 116, 47, 117, 49, 118, 39, 119, 120, 121, 122, 123, 50, 124, 125, 126, 127, 128, 214, 215, 216, 217, 218, 219, 220, 221, 222, 223, 224, 225, 226, 227, 228, 229, 230] (by decide +kernel) (by decide +kernel)
set_option maxRecDepth 20000 in
theorem gX3_takeTurn_X2_tryLate : GoodIn wsX3_takeTurn (wsV RX3 67 RX2 yX2_tryLate wsX2_tryLate) := goodIn_app (goodIn_of _ (by decide +kernel)) ggX3_takeTurn_X2_tryLate
set_option maxRecDepth 20000 in
theorem ggX3_takeTurn_X2_letDaysPass : GoodIn wsX3_takeTurn wsX2_letDaysPass := goodIn_r _ [132, 133, 7, 134, 24, 135, 136, 137, 5, 138, 86, 87, 139, 140, 141, 142, 91, 143, 93, 144, 145, 146, 147, 148, 149, 150, 151, 98, 152, 153, 154, 155, 156, 157, 158, 159, 160, 161, 162, 163, 164, 165, 166, 167, 61, 62, 63, 47, 64, 49, 29, 30, 31, 32, 33, 34, 35, 36, 37, 12, 13, 14, 15, 16, 17, 18, 19, 38, 39, 40, 41, 42, 43, 44, 45, 46, 48, 50, 51, 52, 53, 54, 55, 56, 57, 58, 59, 60, 65, 66, 67, 68, 69, 70, 71, 72, 73, 74, 75, 76, 77, 78, 79, 80, 81, 168, 169, 170, 171, 172, 120, 121, 122, 123, 124, 115, 116, 117, 173, 174, 175, 176, 177, 178, 179, 180, 8, 9, 10, 11, 181, 182, 183, 184, 109, 185, 186, 187, 188, 189, 190, 191, 192, 193, 194, 195, 196, 197, 103, 104, 198, 199, 200, 201, 202, 203, 204, 205, 206, 207, 208, 209, 210, 211, 212, 213, 214, 215, 216, 217, 218, 219, 220, 221, 222, 223, 224, 225, 226, 227, 228, 229, 230, 231, 232] (by decide +kernel) (by decide +kernel)
set_option maxRecDepth 20000 in
theorem gX3_takeTurn_X2_letDaysPass : GoodIn wsX3_takeTurn (wsV RX3 42 RX2 yX2_letDaysPass wsX2_letDaysPass) := goodIn_app (goodIn_of _ (by decide +kernel)) ggX3_takeTurn_X2_letDaysPass
theorem dX3_takeTurn_0 : decode cX3_takeTurn 0 = .ok (.iload_n 1, 1) := by decide +kernel
theorem dX3_takeTurn_1 : decode cX3_takeTurn 1 = .ok (.bipush 8, 2) := by decide +kernel
theorem dX3_takeTurn_3 : decode cX3_takeTurn 3 = .ok (.idiv, 1) := by decide +kernel
theorem dX3_takeTurn_4 : decode cX3_takeTurn 4 = .ok (.bipush 8, 2) := by decide +kernel
theorem dX3_takeTurn_6 : decode cX3_takeTurn 6 = .ok (.irem, 1) := by decide +kernel
theorem dX3_takeTurn_7 : decode cX3_takeTurn 7 = .ok (.istore_n 2, 1) := by decide +kernel
theorem dX3_takeTurn_8 : decode cX3_takeTurn 8 = .ok (.iload_n 1, 1) := by decide +kernel
theorem dX3_takeTurn_9 : decode cX3_takeTurn 9 = .ok (.bipush 64, 2) := by decide +kernel
theorem dX3_takeTurn_11 : decode cX3_takeTurn 11 = .ok (.idiv, 1) := by decide +kernel
theorem dX3_takeTurn_12 : decode cX3_takeTurn 12 = .ok (.bipush 10, 2) := by decide +kernel
theorem dX3_takeTurn_14 : decode cX3_takeTurn 14 = .ok (.irem, 1) := by decide +kernel
theorem dX3_takeTurn_15 : decode cX3_takeTurn 15 = .ok (.istore_n 3, 1) := by decide +kernel
theorem dX3_takeTurn_16 : decode cX3_takeTurn 16 = .ok (.iload_n 1, 1) := by decide +kernel
theorem dX3_takeTurn_17 : decode cX3_takeTurn 17 = .ok (.bipush 8, 2) := by decide +kernel
theorem dX3_takeTurn_19 : decode cX3_takeTurn 19 = .ok (.irem, 1) := by decide +kernel
theorem dX3_takeTurn_20 : decode cX3_takeTurn 20 = .ok (.tableswitch 124 0 5 #[40, 40, 70, 80, 91, 101], 40) := by decide +kernel
theorem dX3_takeTurn_60 : decode cX3_takeTurn 60 = .ok (.aload_n 0, 1) := by decide +kernel
theorem dX3_takeTurn_61 : decode cX3_takeTurn 61 = .ok (.iload_n 2, 1) := by decide +kernel
theorem dX3_takeTurn_62 : decode cX3_takeTurn 62 = .ok (.iload_n 3, 1) := by decide +kernel
theorem dX3_takeTurn_63 : decode cX3_takeTurn 63 = .ok (.aload_n 0, 1) := by decide +kernel
theorem dX3_takeTurn_64 : decode cX3_takeTurn 64 = .ok (.getfield 13, 3) := by decide +kernel
theorem dX3_takeTurn_67 : decode cX3_takeTurn 67 = .ok (.iload_n 1, 1) := by decide +kernel
theorem dX3_takeTurn_68 : decode cX3_takeTurn 68 = .ok (.sipush 1024, 3) := by decide +kernel
theorem dX3_takeTurn_71 : decode cX3_takeTurn 71 = .ok (.idiv, 1) := by decide +kernel
theorem dX3_takeTurn_72 : decode cX3_takeTurn 72 = .ok (.iconst 5, 1) := by decide +kernel
theorem dX3_takeTurn_73 : decode cX3_takeTurn 73 = .ok (.irem, 1) := by decide +kernel
theorem dX3_takeTurn_74 : decode cX3_takeTurn 74 = .ok (.iadd, 1) := by decide +kernel
theorem dX3_takeTurn_75 : decode cX3_takeTurn 75 = .ok (.iload_n 1, 1) := by decide +kernel
theorem dX3_takeTurn_76 : decode cX3_takeTurn 76 = .ok (.sipush 8192, 3) := by decide +kernel
theorem dX3_takeTurn_79 : decode cX3_takeTurn 79 = .ok (.idiv, 1) := by decide +kernel
theorem dX3_takeTurn_80 : decode cX3_takeTurn 80 = .ok (.bipush 8, 2) := by decide +kernel
theorem dX3_takeTurn_82 : decode cX3_takeTurn 82 = .ok (.irem, 1) := by decide +kernel
theorem dX3_takeTurn_83 : decode cX3_takeTurn 83 = .ok (.invokevirtual 19, 3) := by decide +kernel
theorem dX3_takeTurn_86 : decode cX3_takeTurn 86 = .ok (.pop, 1) := by decide +kernel
theorem dX3_takeTurn_87 : decode cX3_takeTurn 87 = .ok (.goto 63, 3) := by decide +kernel
theorem dX3_takeTurn_90 : decode cX3_takeTurn 90 = .ok (.aload_n 0, 1) := by decide +kernel
theorem dX3_takeTurn_91 : decode cX3_takeTurn 91 = .ok (.iload_n 2, 1) := by decide +kernel
theorem dX3_takeTurn_92 : decode cX3_takeTurn 92 = .ok (.iload_n 3, 1) := by decide +kernel
theorem dX3_takeTurn_93 : decode cX3_takeTurn 93 = .ok (.invokevirtual 23, 3) := by decide +kernel
theorem dX3_takeTurn_96 : decode cX3_takeTurn 96 = .ok (.pop, 1) := by decide +kernel
theorem dX3_takeTurn_97 : decode cX3_takeTurn 97 = .ok (.goto 53, 3) := by decide +kernel
theorem dX3_takeTurn_100 : decode cX3_takeTurn 100 = .ok (.aload_n 0, 1) := by decide +kernel
theorem dX3_takeTurn_101 : decode cX3_takeTurn 101 = .ok (.iload_n 2, 1) := by decide +kernel
theorem dX3_takeTurn_102 : decode cX3_takeTurn 102 = .ok (.iload_n 3, 1) := by decide +kernel
theorem dX3_takeTurn_103 : decode cX3_takeTurn 103 = .ok (.iconst 1, 1) := by decide +kernel
theorem dX3_takeTurn_104 : decode cX3_takeTurn 104 = .ok (.invokevirtual 27, 3) := by decide +kernel
theorem dX3_takeTurn_107 : decode cX3_takeTurn 107 = .ok (.pop, 1) := by decide +kernel
theorem dX3_takeTurn_108 : decode cX3_takeTurn 108 = .ok (.goto 42, 3) := by decide +kernel
theorem dX3_takeTurn_111 : decode cX3_takeTurn 111 = .ok (.aload_n 0, 1) := by decide +kernel
theorem dX3_takeTurn_112 : decode cX3_takeTurn 112 = .ok (.iload_n 3, 1) := by decide +kernel
theorem dX3_takeTurn_113 : decode cX3_takeTurn 113 = .ok (.iconst 1, 1) := by decide +kernel
theorem dX3_takeTurn_114 : decode cX3_takeTurn 114 = .ok (.invokevirtual 31, 3) := by decide +kernel
theorem dX3_takeTurn_117 : decode cX3_takeTurn 117 = .ok (.pop, 1) := by decide +kernel
theorem dX3_takeTurn_118 : decode cX3_takeTurn 118 = .ok (.goto 32, 3) := by decide +kernel
theorem dX3_takeTurn_121 : decode cX3_takeTurn 121 = .ok (.aload_n 0, 1) := by decide +kernel
theorem dX3_takeTurn_122 : decode cX3_takeTurn 122 = .ok (.iload_n 1, 1) := by decide +kernel
theorem dX3_takeTurn_123 : decode cX3_takeTurn 123 = .ok (.bipush 8, 2) := by decide +kernel
theorem dX3_takeTurn_125 : decode cX3_takeTurn 125 = .ok (.idiv, 1) := by decide +kernel
theorem dX3_takeTurn_126 : decode cX3_takeTurn 126 = .ok (.bipush 24, 2) := by decide +kernel
theorem dX3_takeTurn_128 : decode cX3_takeTurn 128 = .ok (.irem, 1) := by decide +kernel
theorem dX3_takeTurn_129 : decode cX3_takeTurn 129 = .ok (.iload_n 1, 1) := by decide +kernel
theorem dX3_takeTurn_130 : decode cX3_takeTurn 130 = .ok (.sipush 1024, 3) := by decide +kernel
theorem dX3_takeTurn_133 : decode cX3_takeTurn 133 = .ok (.idiv, 1) := by decide +kernel
theorem dX3_takeTurn_134 : decode cX3_takeTurn 134 = .ok (.bipush 40, 2) := by decide +kernel
theorem dX3_takeTurn_136 : decode cX3_takeTurn 136 = .ok (.irem, 1) := by decide +kernel
theorem dX3_takeTurn_137 : decode cX3_takeTurn 137 = .ok (.invokevirtual 67, 3) := by decide +kernel
theorem dX3_takeTurn_140 : decode cX3_takeTurn 140 = .ok (.pop, 1) := by decide +kernel
theorem dX3_takeTurn_141 : decode cX3_takeTurn 141 = .ok (.goto 9, 3) := by decide +kernel
theorem dX3_takeTurn_144 : decode cX3_takeTurn 144 = .ok (.aload_n 0, 1) := by decide +kernel
theorem dX3_takeTurn_145 : decode cX3_takeTurn 145 = .ok (.iconst 1, 1) := by decide +kernel
theorem dX3_takeTurn_146 : decode cX3_takeTurn 146 = .ok (.invokevirtual 42, 3) := by decide +kernel
theorem dX3_takeTurn_149 : decode cX3_takeTurn 149 = .ok (.pop, 1) := by decide +kernel
theorem dX3_takeTurn_150 : decode cX3_takeTurn 150 = .ok (.return_, 1) := by decide +kernel
set_option maxRecDepth 20000 in
theorem ggX4_init_X2_init : GoodIn wsX4_init wsX2_init := goodIn_r _ [9, 10, 2, 3, 11, 12, 13, 14, 15, 16, 17, 18, 19, 20, 21, 22, 23, 24, 25, 26, 27, 28, 29, 30, 31, 32, 33, 34, 35, 36, 37, 38, 39, 40, 41, 42, 43, 44, 45, 46, 47, 48, 49, 50, 51, 52, 53, 54, 55, 56, 57, 58, 59, 62, 63, 64, 65] (by decide +kernel) (by decide +kernel)
set_option maxRecDepth 20000 in
theorem gX4_init_X2_init_n9 : GoodIn wsX4_init (wsX2_init) := ggX4_init_X2_init
theorem dX4_init_0 : decode cX4_init 0 = .ok (.aload_n 0, 1) := by decide +kernel
theorem dX4_init_1 : decode cX4_init 1 = .ok (.invokespecial 1, 3) := by decide +kernel
theorem dX4_init_4 : decode cX4_init 4 = .ok (.aload_n 0, 1) := by decide +kernel
theorem dX4_init_5 : decode cX4_init 5 = .ok (.new 7, 3) := by decide +kernel
theorem dX4_init_8 : decode cX4_init 8 = .ok (.dup, 1) := by decide +kernel
theorem dX4_init_9 : decode cX4_init 9 = .ok (.invokespecial 9, 3) := by decide +kernel
theorem dX4_init_12 : decode cX4_init 12 = .ok (.putfield 10, 3) := by decide +kernel
theorem dX4_init_15 : decode cX4_init 15 = .ok (.return_, 1) := by decide +kernel
theorem dX5_init_0 : decode cX5_init 0 = .ok (.aload_n 0, 1) := by decide +kernel
theorem dX5_init_1 : decode cX5_init 1 = .ok (.invokespecial 3, 3) := by decide +kernel
theorem dX5_init_4 : decode cX5_init 4 = .ok (.aload_n 0, 1) := by decide +kernel
theorem dX5_init_5 : decode cX5_init 5 = .ok (.bipush 120, 2) := by decide +kernel
theorem dX5_init_7 : decode cX5_init 7 = .ok (.newarray .char, 2) := by decide +kernel
theorem dX5_init_9 : decode cX5_init 9 = .ok (.putfield 11, 3) := by decide +kernel
theorem dX5_init_12 : decode cX5_init 12 = .ok (.aload_n 0, 1) := by decide +kernel
theorem dX5_init_13 : decode cX5_init 13 = .ok (.iconst 4, 1) := by decide +kernel
theorem dX5_init_14 : decode cX5_init 14 = .ok (.newarray .int, 2) := by decide +kernel
theorem dX5_init_16 : decode cX5_init 16 = .ok (.putfield 15, 3) := by decide +kernel
theorem dX5_init_19 : decode cX5_init 19 = .ok (.return_, 1) := by decide +kernel
theorem dX5_isFull_0 : decode cX5_isFull 0 = .ok (.aload_n 0, 1) := by decide +kernel
theorem dX5_isFull_1 : decode cX5_isFull 1 = .ok (.getfield 19, 3) := by decide +kernel
theorem dX5_isFull_4 : decode cX5_isFull 4 = .ok (.bipush 120, 2) := by decide +kernel
theorem dX5_isFull_6 : decode cX5_isFull 6 = .ok (.if_icmp .lt 7, 3) := by decide +kernel
theorem dX5_isFull_9 : decode cX5_isFull 9 = .ok (.iconst 1, 1) := by decide +kernel
theorem dX5_isFull_10 : decode cX5_isFull 10 = .ok (.goto 4, 3) := by decide +kernel
theorem dX5_isFull_13 : decode cX5_isFull 13 = .ok (.iconst 0, 1) := by decide +kernel
theorem dX5_isFull_14 : decode cX5_isFull 14 = .ok (.ireturn, 1) := by decide +kernel
theorem dX5_add_0 : decode cX5_add 0 = .ok (.aload_n 0, 1) := by decide +kernel
theorem dX5_add_1 : decode cX5_add 1 = .ok (.getfield 19, 3) := by decide +kernel
theorem dX5_add_4 : decode cX5_add 4 = .ok (.ifCond .lt 33, 3) := by decide +kernel
theorem dX5_add_7 : decode cX5_add 7 = .ok (.aload_n 0, 1) := by decide +kernel
theorem dX5_add_8 : decode cX5_add 8 = .ok (.getfield 19, 3) := by decide +kernel
theorem dX5_add_11 : decode cX5_add 11 = .ok (.bipush 120, 2) := by decide +kernel
theorem dX5_add_13 : decode cX5_add 13 = .ok (.if_icmp .ge 24, 3) := by decide +kernel
theorem dX5_add_16 : decode cX5_add 16 = .ok (.aload_n 0, 1) := by decide +kernel
theorem dX5_add_17 : decode cX5_add 17 = .ok (.getfield 11, 3) := by decide +kernel
theorem dX5_add_20 : decode cX5_add 20 = .ok (.aload_n 0, 1) := by decide +kernel
theorem dX5_add_21 : decode cX5_add 21 = .ok (.getfield 19, 3) := by decide +kernel
theorem dX5_add_24 : decode cX5_add 24 = .ok (.iload_n 1, 1) := by decide +kernel
theorem dX5_add_25 : decode cX5_add 25 = .ok (.i2c, 1) := by decide +kernel
theorem dX5_add_26 : decode cX5_add 26 = .ok (.castore, 1) := by decide +kernel
theorem dX5_add_27 : decode cX5_add 27 = .ok (.aload_n 0, 1) := by decide +kernel
theorem dX5_add_28 : decode cX5_add 28 = .ok (.dup, 1) := by decide +kernel
theorem dX5_add_29 : decode cX5_add 29 = .ok (.getfield 19, 3) := by decide +kernel
theorem dX5_add_32 : decode cX5_add 32 = .ok (.iconst 1, 1) := by decide +kernel
theorem dX5_add_33 : decode cX5_add 33 = .ok (.iadd, 1) := by decide +kernel
theorem dX5_add_34 : decode cX5_add 34 = .ok (.putfield 19, 3) := by decide +kernel
theorem dX5_add_37 : decode cX5_add 37 = .ok (.aload_n 0, 1) := by decide +kernel
theorem dX5_add_38 : decode cX5_add 38 = .ok (.getfield 19, 3) := by decide +kernel
theorem dX5_add_41 : decode cX5_add 41 = .ok (.ireturn, 1) := by decide +kernel
theorem dX5_drop_0 : decode cX5_drop 0 = .ok (.aload_n 0, 1) := by decide +kernel
theorem dX5_drop_1 : decode cX5_drop 1 = .ok (.getfield 19, 3) := by decide +kernel
theorem dX5_drop_4 : decode cX5_drop 4 = .ok (.istore_n 1, 1) := by decide +kernel
theorem dX5_drop_5 : decode cX5_drop 5 = .ok (.aload_n 0, 1) := by decide +kernel
theorem dX5_drop_6 : decode cX5_drop 6 = .ok (.iconst 0, 1) := by decide +kernel
theorem dX5_drop_7 : decode cX5_drop 7 = .ok (.putfield 19, 3) := by decide +kernel
theorem dX5_drop_10 : decode cX5_drop 10 = .ok (.iload_n 1, 1) := by decide +kernel
theorem dX5_drop_11 : decode cX5_drop 11 = .ok (.ireturn, 1) := by decide +kernel
set_option maxRecDepth 20000 in
theorem ggX5_errorIndex_X5_startReading : GoodIn wsX5_errorIndex wsX5_startReading := goodIn_r _ [7, 1, 106, 107, 108, 109, 110] (by decide +kernel) (by decide +kernel)
set_option maxRecDepth 20000 in
theorem gX5_errorIndex_X5_startReading : GoodIn wsX5_errorIndex (wsV RX5 23 RX5 yX5_startReading wsX5_startReading) := goodIn_app (goodIn_of _ (by decide +kernel)) ggX5_errorIndex_X5_startReading
set_option maxRecDepth 20000 in
theorem ggX5_errorIndex_X5_readCommand : GoodIn wsX5_errorIndex wsX5_readCommand := goodIn_r _ [11, 12, 13, 14, 15, 6, 16, 1, 17, 18, 19, 20, 21, 22, 23, 24, 25, 26, 27, 28, 29, 30, 31, 32, 33, 34, 35, 36, 37, 38, 39, 40, 41, 42, 43, 2, 44, 45, 46, 47, 48, 49, 50, 51, 52, 53, 54, 55, 56, 57, 58, 59, 60, 61, 62, 63, 64, 65, 66, 67, 68, 69, 70, 71, 72, 73, 74, 75, 76, 77, 78, 79, 80, 81, 82, 83, 84, 85, 86, 87, 88, 89, 90, 91, 92, 93, 94, 95, 96, 97, 98, 99, 100, 101, 102, 103, 104, 105, 106, 107, 108, 109, 110] (by decide +kernel) (by decide +kernel)
set_option maxRecDepth 20000 in
theorem gX5_errorIndex_X5_readCommand : GoodIn wsX5_errorIndex (wsV RX5 26 RX5 yX5_readCommand wsX5_readCommand) := goodIn_app (goodIn_of _ (by decide +kernel)) ggX5_errorIndex_X5_readCommand
set_option maxRecDepth 20000 in
theorem ggX5_errorIndex_X5_readSign : GoodIn wsX5_errorIndex wsX5_readSign := goodIn_r _ [88, 1, 40, 41, 42, 6, 43, 2, 44, 106, 107, 108, 109, 110] (by decide +kernel) (by decide +kernel)
set_option maxRecDepth 20000 in
theorem gX5_errorIndex_X5_readSign : GoodIn wsX5_errorIndex (wsV RX5 33 RX5 yX5_readSign wsX5_readSign) := goodIn_app (goodIn_of _ (by decide +kernel)) ggX5_errorIndex_X5_readSign
theorem dX5_errorIndex_0 : decode cX5_errorIndex 0 = .ok (.aload_n 0, 1) := by decide +kernel
theorem dX5_errorIndex_1 : decode cX5_errorIndex 1 = .ok (.invokevirtual 23, 3) := by decide +kernel
theorem dX5_errorIndex_4 : decode cX5_errorIndex 4 = .ok (.bipush 120, 2) := by decide +kernel
theorem dX5_errorIndex_6 : decode cX5_errorIndex 6 = .ok (.istore_n 1, 1) := by decide +kernel
theorem dX5_errorIndex_7 : decode cX5_errorIndex 7 = .ok (.iload_n 1, 1) := by decide +kernel
theorem dX5_errorIndex_8 : decode cX5_errorIndex 8 = .ok (.ifCond .le 48, 3) := by decide +kernel
theorem dX5_errorIndex_11 : decode cX5_errorIndex 11 = .ok (.aload_n 0, 1) := by decide +kernel
theorem dX5_errorIndex_12 : decode cX5_errorIndex 12 = .ok (.invokevirtual 26, 3) := by decide +kernel
theorem dX5_errorIndex_15 : decode cX5_errorIndex 15 = .ok (.ifCond .ne 8, 3) := by decide +kernel
theorem dX5_errorIndex_18 : decode cX5_errorIndex 18 = .ok (.aload_n 0, 1) := by decide +kernel
theorem dX5_errorIndex_19 : decode cX5_errorIndex 19 = .ok (.getfield 30, 3) := by decide +kernel
theorem dX5_errorIndex_22 : decode cX5_errorIndex 22 = .ok (.ireturn, 1) := by decide +kernel
theorem dX5_errorIndex_23 : decode cX5_errorIndex 23 = .ok (.aload_n 0, 1) := by decide +kernel
theorem dX5_errorIndex_24 : decode cX5_errorIndex 24 = .ok (.getfield 30, 3) := by decide +kernel
theorem dX5_errorIndex_27 : decode cX5_errorIndex 27 = .ok (.aload_n 0, 1) := by decide +kernel
theorem dX5_errorIndex_28 : decode cX5_errorIndex 28 = .ok (.getfield 19, 3) := by decide +kernel
theorem dX5_errorIndex_31 : decode cX5_errorIndex 31 = .ok (.if_icmp .lt 5, 3) := by decide +kernel
theorem dX5_errorIndex_34 : decode cX5_errorIndex 34 = .ok (.iconst (-1), 1) := by decide +kernel
theorem dX5_errorIndex_35 : decode cX5_errorIndex 35 = .ok (.ireturn, 1) := by decide +kernel
theorem dX5_errorIndex_36 : decode cX5_errorIndex 36 = .ok (.aload_n 0, 1) := by decide +kernel
theorem dX5_errorIndex_37 : decode cX5_errorIndex 37 = .ok (.bipush 59, 2) := by decide +kernel
theorem dX5_errorIndex_39 : decode cX5_errorIndex 39 = .ok (.invokevirtual 33, 3) := by decide +kernel
theorem dX5_errorIndex_42 : decode cX5_errorIndex 42 = .ok (.ifCond .ne 8, 3) := by decide +kernel
theorem dX5_errorIndex_45 : decode cX5_errorIndex 45 = .ok (.aload_n 0, 1) := by decide +kernel
theorem dX5_errorIndex_46 : decode cX5_errorIndex 46 = .ok (.getfield 30, 3) := by decide +kernel
theorem dX5_errorIndex_49 : decode cX5_errorIndex 49 = .ok (.ireturn, 1) := by decide +kernel
theorem dX5_errorIndex_50 : decode cX5_errorIndex 50 = .ok (.iinc 1 (-1), 3) := by decide +kernel
theorem dX5_errorIndex_53 : decode cX5_errorIndex 53 = .ok (.goto (-46), 3) := by decide +kernel
theorem dX5_errorIndex_56 : decode cX5_errorIndex 56 = .ok (.aload_n 0, 1) := by decide +kernel
theorem dX5_errorIndex_57 : decode cX5_errorIndex 57 = .ok (.getfield 30, 3) := by decide +kernel
theorem dX5_errorIndex_60 : decode cX5_errorIndex 60 = .ok (.ireturn, 1) := by decide +kernel
theorem dX5_startReading_0 : decode cX5_startReading 0 = .ok (.aload_n 0, 1) := by decide +kernel
theorem dX5_startReading_1 : decode cX5_startReading 1 = .ok (.iconst 0, 1) := by decide +kernel
theorem dX5_startReading_2 : decode cX5_startReading 2 = .ok (.putfield 30, 3) := by decide +kernel
theorem dX5_startReading_5 : decode cX5_startReading 5 = .ok (.return_, 1) := by decide +kernel
set_option maxRecDepth 20000 in
theorem ggX5_readCommand_X5_readWord : GoodIn wsX5_readCommand wsX5_readWord := goodIn_r _ [6, 1, 7, 8, 9, 10, 11, 12, 13, 5, 14, 15, 16, 17, 18, 19, 20, 21, 22, 23, 24, 25, 26, 27, 28, 29, 30, 31, 32, 33, 34, 35, 36, 37, 38, 39, 40, 41, 42, 43, 44, 45, 46, 47, 48, 49, 50, 51, 52, 53, 54, 55, 56, 57, 58, 59, 60, 61, 62, 63, 64, 65, 66, 67, 68, 69, 70, 71, 72, 73, 98, 99, 100, 101, 102] (by decide +kernel) (by decide +kernel)
set_option maxRecDepth 20000 in
theorem gX5_readCommand_X5_readWord : GoodIn wsX5_readCommand (wsV RX5 37 RX5 yX5_readWord wsX5_readWord) := goodIn_app (goodIn_of _ (by decide +kernel)) ggX5_readCommand_X5_readWord
set_option maxRecDepth 20000 in
theorem ggX5_readCommand_X5_kindsOf : GoodIn wsX5_readCommand wsX5_kindsOf := goodIn_r _ [76] (by decide +kernel) (by decide +kernel)
set_option maxRecDepth 20000 in
theorem gX5_readCommand_X5_kindsOf : GoodIn wsX5_readCommand (va_wsS RX5 43 yX5_kindsOf wsX5_kindsOf) := goodIn_app (goodIn_of _ (by decide +kernel)) ggX5_readCommand_X5_kindsOf
set_option maxRecDepth 20000 in
theorem ggX5_readCommand_J0_length_8abf5 : GoodIn wsX5_readCommand wsJ0_length_8abf5 := goodIn_r _ [23, 24, 25, 26, 27, 22, 28, 29, 30] (by decide +kernel) (by decide +kernel)
set_option maxRecDepth 20000 in
theorem gX5_readCommand_J0_length_8abf5 : GoodIn wsX5_readCommand (wsV RX5 47 RJ0 yJ0_length_8abf5 wsJ0_length_8abf5) := goodIn_app (goodIn_of _ (by decide +kernel)) ggX5_readCommand_J0_length_8abf5
set_option maxRecDepth 20000 in
theorem ggX5_readCommand_X5_readSign : GoodIn wsX5_readCommand wsX5_readSign := goodIn_r _ [80, 7, 31, 32, 33, 5, 34, 35, 36, 98, 99, 100, 101, 102] (by decide +kernel) (by decide +kernel)
set_option maxRecDepth 20000 in
theorem gX5_readCommand_X5_readSign : GoodIn wsX5_readCommand (wsV RX5 33 RX5 yX5_readSign wsX5_readSign) := goodIn_app (goodIn_of _ (by decide +kernel)) ggX5_readCommand_X5_readSign
set_option maxRecDepth 20000 in
theorem ggX5_readCommand_J0_charAt_5068e : GoodIn wsX5_readCommand wsJ0_charAt_5068e := goodIn_r _ [40, 24, 41, 42, 43, 22, 44, 29, 30, 45, 46, 47, 48, 49, 50, 51, 52, 53, 54, 55, 56, 57, 58, 59, 60, 61, 62, 63, 64, 65, 66, 67, 68, 69, 70, 71, 72, 73] (by decide +kernel) (by decide +kernel)
set_option maxRecDepth 20000 in
theorem gX5_readCommand_J0_charAt_5068e : GoodIn wsX5_readCommand (wsV RX5 52 RJ0 yJ0_charAt_5068e wsJ0_charAt_5068e) := goodIn_app (goodIn_of _ (by decide +kernel)) ggX5_readCommand_J0_charAt_5068e
set_option maxRecDepth 20000 in
theorem ggX5_readCommand_X5_readNumber : GoodIn wsX5_readCommand wsX5_readNumber := goodIn_r _ [84, 7, 35, 85, 31, 32, 33, 5, 34, 36, 86, 87, 88, 89, 90, 91, 92, 93, 94, 95, 96, 97, 98, 99, 100, 101, 102] (by decide +kernel) (by decide +kernel)
set_option maxRecDepth 20000 in
theorem gX5_readCommand_X5_readNumber : GoodIn wsX5_readCommand (wsV RX5 56 RX5 yX5_readNumber wsX5_readNumber) := goodIn_app (goodIn_of _ (by decide +kernel)) ggX5_readCommand_X5_readNumber
theorem dX5_readCommand_0 : decode cX5_readCommand 0 = .ok (.aload_n 0, 1) := by decide +kernel
theorem dX5_readCommand_1 : decode cX5_readCommand 1 = .ok (.invokevirtual 37, 3) := by decide +kernel
theorem dX5_readCommand_4 : decode cX5_readCommand 4 = .ok (.ifCond .ne 5, 3) := by decide +kernel
theorem dX5_readCommand_7 : decode cX5_readCommand 7 = .ok (.iconst 0, 1) := by decide +kernel
theorem dX5_readCommand_8 : decode cX5_readCommand 8 = .ok (.ireturn, 1) := by decide +kernel
theorem dX5_readCommand_9 : decode cX5_readCommand 9 = .ok (.aload_n 0, 1) := by decide +kernel
theorem dX5_readCommand_10 : decode cX5_readCommand 10 = .ok (.getfield 40, 3) := by decide +kernel
theorem dX5_readCommand_13 : decode cX5_readCommand 13 = .ok (.invokestatic 43, 3) := by decide +kernel
theorem dX5_readCommand_16 : decode cX5_readCommand 16 = .ok (.astore_n 1, 1) := by decide +kernel
theorem dX5_readCommand_17 : decode cX5_readCommand 17 = .ok (.iconst 0, 1) := by decide +kernel
theorem dX5_readCommand_18 : decode cX5_readCommand 18 = .ok (.istore_n 2, 1) := by decide +kernel
theorem dX5_readCommand_19 : decode cX5_readCommand 19 = .ok (.iload_n 2, 1) := by decide +kernel
theorem dX5_readCommand_20 : decode cX5_readCommand 20 = .ok (.aload_n 1, 1) := by decide +kernel
theorem dX5_readCommand_21 : decode cX5_readCommand 21 = .ok (.invokevirtual 47, 3) := by decide +kernel
theorem dX5_readCommand_24 : decode cX5_readCommand 24 = .ok (.if_icmp .ge 33, 3) := by decide +kernel
theorem dX5_readCommand_27 : decode cX5_readCommand 27 = .ok (.aload_n 0, 1) := by decide +kernel
theorem dX5_readCommand_28 : decode cX5_readCommand 28 = .ok (.bipush 44, 2) := by decide +kernel
theorem dX5_readCommand_30 : decode cX5_readCommand 30 = .ok (.invokevirtual 33, 3) := by decide +kernel
theorem dX5_readCommand_33 : decode cX5_readCommand 33 = .ok (.ifCond .eq 16, 3) := by decide +kernel
theorem dX5_readCommand_36 : decode cX5_readCommand 36 = .ok (.aload_n 0, 1) := by decide +kernel
theorem dX5_readCommand_37 : decode cX5_readCommand 37 = .ok (.iload_n 2, 1) := by decide +kernel
theorem dX5_readCommand_38 : decode cX5_readCommand 38 = .ok (.aload_n 1, 1) := by decide +kernel
theorem dX5_readCommand_39 : decode cX5_readCommand 39 = .ok (.iload_n 2, 1) := by decide +kernel
theorem dX5_readCommand_40 : decode cX5_readCommand 40 = .ok (.invokevirtual 52, 3) := by decide +kernel
theorem dX5_readCommand_43 : decode cX5_readCommand 43 = .ok (.invokevirtual 56, 3) := by decide +kernel
theorem dX5_readCommand_46 : decode cX5_readCommand 46 = .ok (.ifCond .ne 5, 3) := by decide +kernel
theorem dX5_readCommand_49 : decode cX5_readCommand 49 = .ok (.iconst 0, 1) := by decide +kernel
theorem dX5_readCommand_50 : decode cX5_readCommand 50 = .ok (.ireturn, 1) := by decide +kernel
theorem dX5_readCommand_51 : decode cX5_readCommand 51 = .ok (.iinc 2 1, 3) := by decide +kernel
theorem dX5_readCommand_54 : decode cX5_readCommand 54 = .ok (.goto (-35), 3) := by decide +kernel
theorem dX5_readCommand_57 : decode cX5_readCommand 57 = .ok (.iconst 1, 1) := by decide +kernel
theorem dX5_readCommand_58 : decode cX5_readCommand 58 = .ok (.ireturn, 1) := by decide +kernel
set_option maxRecDepth 20000 in
theorem ggX5_readSign_X5_signAt : GoodIn wsX5_readSign wsX5_signAt := goodIn_r _ [6, 7, 8, 9, 10, 11, 12, 13] (by decide +kernel) (by decide +kernel)
set_option maxRecDepth 20000 in
theorem gX5_readSign_X5_signAt : GoodIn wsX5_readSign (wsV RX5 60 RX5 yX5_signAt wsX5_signAt) := goodIn_app (goodIn_of _ (by decide +kernel)) ggX5_readSign_X5_signAt
theorem dX5_readSign_0 : decode cX5_readSign 0 = .ok (.aload_n 0, 1) := by decide +kernel
theorem dX5_readSign_1 : decode cX5_readSign 1 = .ok (.aload_n 0, 1) := by decide +kernel
theorem dX5_readSign_2 : decode cX5_readSign 2 = .ok (.getfield 30, 3) := by decide +kernel
theorem dX5_readSign_5 : decode cX5_readSign 5 = .ok (.invokevirtual 60, 3) := by decide +kernel
theorem dX5_readSign_8 : decode cX5_readSign 8 = .ok (.iload_n 1, 1) := by decide +kernel
theorem dX5_readSign_9 : decode cX5_readSign 9 = .ok (.if_icmp .eq 5, 3) := by decide +kernel
theorem dX5_readSign_12 : decode cX5_readSign 12 = .ok (.iconst 0, 1) := by decide +kernel
theorem dX5_readSign_13 : decode cX5_readSign 13 = .ok (.ireturn, 1) := by decide +kernel
theorem dX5_readSign_14 : decode cX5_readSign 14 = .ok (.aload_n 0, 1) := by decide +kernel
theorem dX5_readSign_15 : decode cX5_readSign 15 = .ok (.dup, 1) := by decide +kernel
theorem dX5_readSign_16 : decode cX5_readSign 16 = .ok (.getfield 30, 3) := by decide +kernel
theorem dX5_readSign_19 : decode cX5_readSign 19 = .ok (.iconst 1, 1) := by decide +kernel
theorem dX5_readSign_20 : decode cX5_readSign 20 = .ok (.iadd, 1) := by decide +kernel
theorem dX5_readSign_21 : decode cX5_readSign 21 = .ok (.putfield 30, 3) := by decide +kernel
theorem dX5_readSign_24 : decode cX5_readSign 24 = .ok (.iconst 1, 1) := by decide +kernel
theorem dX5_readSign_25 : decode cX5_readSign 25 = .ok (.ireturn, 1) := by decide +kernel
theorem dX5_signAt_0 : decode cX5_signAt 0 = .ok (.iload_n 1, 1) := by decide +kernel
theorem dX5_signAt_1 : decode cX5_signAt 1 = .ok (.ifCond .lt 26, 3) := by decide +kernel
theorem dX5_signAt_4 : decode cX5_signAt 4 = .ok (.iload_n 1, 1) := by decide +kernel
theorem dX5_signAt_5 : decode cX5_signAt 5 = .ok (.aload_n 0, 1) := by decide +kernel
theorem dX5_signAt_6 : decode cX5_signAt 6 = .ok (.getfield 19, 3) := by decide +kernel
theorem dX5_signAt_9 : decode cX5_signAt 9 = .ok (.if_icmp .ge 18, 3) := by decide +kernel
theorem dX5_signAt_12 : decode cX5_signAt 12 = .ok (.iload_n 1, 1) := by decide +kernel
theorem dX5_signAt_13 : decode cX5_signAt 13 = .ok (.bipush 120, 2) := by decide +kernel
theorem dX5_signAt_15 : decode cX5_signAt 15 = .ok (.if_icmp .ge 12, 3) := by decide +kernel
theorem dX5_signAt_18 : decode cX5_signAt 18 = .ok (.aload_n 0, 1) := by decide +kernel
theorem dX5_signAt_19 : decode cX5_signAt 19 = .ok (.getfield 11, 3) := by decide +kernel
theorem dX5_signAt_22 : decode cX5_signAt 22 = .ok (.iload_n 1, 1) := by decide +kernel
theorem dX5_signAt_23 : decode cX5_signAt 23 = .ok (.caload, 1) := by decide +kernel
theorem dX5_signAt_24 : decode cX5_signAt 24 = .ok (.goto 4, 3) := by decide +kernel
theorem dX5_signAt_27 : decode cX5_signAt 27 = .ok (.iconst (-1), 1) := by decide +kernel
theorem dX5_signAt_28 : decode cX5_signAt 28 = .ok (.ireturn, 1) := by decide +kernel
set_option maxRecDepth 20000 in
theorem ggX5_readWord_X5_spellingOf : GoodIn wsX5_readWord wsX5_spellingOf := goodIn_r _ [10] (by decide +kernel) (by decide +kernel)
set_option maxRecDepth 20000 in
theorem gX5_readWord_X5_spellingOf : GoodIn wsX5_readWord (va_wsS RX5 64 yX5_spellingOf wsX5_spellingOf) := goodIn_app (goodIn_of _ (by decide +kernel)) ggX5_readWord_X5_spellingOf
set_option maxRecDepth 20000 in
theorem ggX5_readWord_X5_sameSigns : GoodIn wsX5_readWord wsX5_sameSigns := goodIn_r _ [14, 2, 15, 16, 17, 18, 19, 20, 21, 22, 23, 24, 25, 26, 27, 28, 29, 9, 30, 31, 32, 33, 34, 35, 36, 37, 38, 39, 40, 41, 42, 43, 44, 45, 46, 47, 48, 49, 50, 51, 52, 53, 54, 55, 56, 57, 58, 59, 60, 61, 62, 63, 64, 65, 66, 67, 68, 69, 70, 71, 72, 73, 74] (by decide +kernel) (by decide +kernel)
set_option maxRecDepth 20000 in
theorem gX5_readWord_X5_sameSigns : GoodIn wsX5_readWord (wsV RX5 67 RX5 yX5_sameSigns wsX5_sameSigns) := goodIn_app (goodIn_of _ (by decide +kernel)) ggX5_readWord_X5_sameSigns
set_option maxRecDepth 20000 in
theorem ggX5_readWord_J0_length_8abf5 : GoodIn wsX5_readWord wsJ0_length_8abf5 := goodIn_r _ [19, 20, 21, 22, 23, 18, 24, 25, 26] (by decide +kernel) (by decide +kernel)
set_option maxRecDepth 20000 in
theorem gX5_readWord_J0_length_8abf5 : GoodIn wsX5_readWord (wsV RX5 47 RJ0 yJ0_length_8abf5 wsJ0_length_8abf5) := goodIn_app (goodIn_of _ (by decide +kernel)) ggX5_readWord_J0_length_8abf5
theorem dX5_readWord_0 : decode cX5_readWord 0 = .ok (.iconst 0, 1) := by decide +kernel
theorem dX5_readWord_1 : decode cX5_readWord 1 = .ok (.istore_n 1, 1) := by decide +kernel
theorem dX5_readWord_2 : decode cX5_readWord 2 = .ok (.iconst 0, 1) := by decide +kernel
theorem dX5_readWord_3 : decode cX5_readWord 3 = .ok (.istore_n 2, 1) := by decide +kernel
theorem dX5_readWord_4 : decode cX5_readWord 4 = .ok (.iload_n 2, 1) := by decide +kernel
theorem dX5_readWord_5 : decode cX5_readWord 5 = .ok (.bipush 6, 2) := by decide +kernel
theorem dX5_readWord_7 : decode cX5_readWord 7 = .ok (.if_icmp .ge 55, 3) := by decide +kernel
theorem dX5_readWord_10 : decode cX5_readWord 10 = .ok (.iload_n 2, 1) := by decide +kernel
theorem dX5_readWord_11 : decode cX5_readWord 11 = .ok (.invokestatic 64, 3) := by decide +kernel
theorem dX5_readWord_14 : decode cX5_readWord 14 = .ok (.astore_n 3, 1) := by decide +kernel
theorem dX5_readWord_15 : decode cX5_readWord 15 = .ok (.aload_n 0, 1) := by decide +kernel
theorem dX5_readWord_16 : decode cX5_readWord 16 = .ok (.aload_n 3, 1) := by decide +kernel
theorem dX5_readWord_17 : decode cX5_readWord 17 = .ok (.invokevirtual 67, 3) := by decide +kernel
theorem dX5_readWord_20 : decode cX5_readWord 20 = .ok (.istore 4, 2) := by decide +kernel
theorem dX5_readWord_22 : decode cX5_readWord 22 = .ok (.iload 4, 2) := by decide +kernel
theorem dX5_readWord_24 : decode cX5_readWord 24 = .ok (.aload_n 3, 1) := by decide +kernel
theorem dX5_readWord_25 : decode cX5_readWord 25 = .ok (.invokevirtual 47, 3) := by decide +kernel
theorem dX5_readWord_28 : decode cX5_readWord 28 = .ok (.if_icmp .ne 21, 3) := by decide +kernel
theorem dX5_readWord_31 : decode cX5_readWord 31 = .ok (.aload_n 0, 1) := by decide +kernel
theorem dX5_readWord_32 : decode cX5_readWord 32 = .ok (.iload_n 2, 1) := by decide +kernel
theorem dX5_readWord_33 : decode cX5_readWord 33 = .ok (.putfield 40, 3) := by decide +kernel
theorem dX5_readWord_36 : decode cX5_readWord 36 = .ok (.aload_n 0, 1) := by decide +kernel
theorem dX5_readWord_37 : decode cX5_readWord 37 = .ok (.dup, 1) := by decide +kernel
theorem dX5_readWord_38 : decode cX5_readWord 38 = .ok (.getfield 30, 3) := by decide +kernel
theorem dX5_readWord_41 : decode cX5_readWord 41 = .ok (.iload 4, 2) := by decide +kernel
theorem dX5_readWord_43 : decode cX5_readWord 43 = .ok (.iadd, 1) := by decide +kernel
theorem dX5_readWord_44 : decode cX5_readWord 44 = .ok (.putfield 30, 3) := by decide +kernel
theorem dX5_readWord_47 : decode cX5_readWord 47 = .ok (.iconst 1, 1) := by decide +kernel
theorem dX5_readWord_48 : decode cX5_readWord 48 = .ok (.ireturn, 1) := by decide +kernel
theorem dX5_readWord_49 : decode cX5_readWord 49 = .ok (.iload_n 1, 1) := by decide +kernel
theorem dX5_readWord_50 : decode cX5_readWord 50 = .ok (.iload 4, 2) := by decide +kernel
theorem dX5_readWord_52 : decode cX5_readWord 52 = .ok (.invokestatic 71, 3) := by decide +kernel
theorem dX5_readWord_55 : decode cX5_readWord 55 = .ok (.istore_n 1, 1) := by decide +kernel
theorem dX5_readWord_56 : decode cX5_readWord 56 = .ok (.iinc 2 1, 3) := by decide +kernel
theorem dX5_readWord_59 : decode cX5_readWord 59 = .ok (.goto (-55), 3) := by decide +kernel
theorem dX5_readWord_62 : decode cX5_readWord 62 = .ok (.aload_n 0, 1) := by decide +kernel
theorem dX5_readWord_63 : decode cX5_readWord 63 = .ok (.dup, 1) := by decide +kernel
theorem dX5_readWord_64 : decode cX5_readWord 64 = .ok (.getfield 30, 3) := by decide +kernel
theorem dX5_readWord_67 : decode cX5_readWord 67 = .ok (.iload_n 1, 1) := by decide +kernel
theorem dX5_readWord_68 : decode cX5_readWord 68 = .ok (.iadd, 1) := by decide +kernel
theorem dX5_readWord_69 : decode cX5_readWord 69 = .ok (.putfield 30, 3) := by decide +kernel
theorem dX5_readWord_72 : decode cX5_readWord 72 = .ok (.iconst 0, 1) := by decide +kernel
theorem dX5_readWord_73 : decode cX5_readWord 73 = .ok (.ireturn, 1) := by decide +kernel
set_option maxRecDepth 20000 in
theorem ggX5_sameSigns_J0_length_8abf5 : GoodIn wsX5_sameSigns wsJ0_length_8abf5 := goodIn_r _ [6, 7, 8, 9, 10, 5, 11, 12, 13] (by decide +kernel) (by decide +kernel)
set_option maxRecDepth 20000 in
theorem gX5_sameSigns_J0_length_8abf5 : GoodIn wsX5_sameSigns (wsV RX5 47 RJ0 yJ0_length_8abf5 wsJ0_length_8abf5) := goodIn_app (goodIn_of _ (by decide +kernel)) ggX5_sameSigns_J0_length_8abf5
set_option maxRecDepth 20000 in
theorem ggX5_sameSigns_X5_signAt : GoodIn wsX5_sameSigns wsX5_signAt := goodIn_r _ [18, 19, 20, 58, 59, 60, 61, 62] (by decide +kernel) (by decide +kernel)
set_option maxRecDepth 20000 in
theorem gX5_sameSigns_X5_signAt : GoodIn wsX5_sameSigns (wsV RX5 60 RX5 yX5_signAt wsX5_signAt) := goodIn_app (goodIn_of _ (by decide +kernel)) ggX5_sameSigns_X5_signAt
set_option maxRecDepth 20000 in
theorem ggX5_sameSigns_J0_charAt_5068e : GoodIn wsX5_sameSigns wsJ0_charAt_5068e := goodIn_r _ [24, 7, 25, 26, 27, 5, 28, 12, 13, 29, 30, 31, 32, 33, 34, 35, 36, 37, 38, 39, 40, 41, 42, 43, 44, 45, 46, 47, 48, 49, 50, 51, 52, 53, 54, 55, 56, 57] (by decide +kernel) (by decide +kernel)
set_option maxRecDepth 20000 in
theorem gX5_sameSigns_J0_charAt_5068e : GoodIn wsX5_sameSigns (wsV RX5 52 RJ0 yJ0_charAt_5068e wsJ0_charAt_5068e) := goodIn_app (goodIn_of _ (by decide +kernel)) ggX5_sameSigns_J0_charAt_5068e
theorem dX5_sameSigns_0 : decode cX5_sameSigns 0 = .ok (.iconst 0, 1) := by decide +kernel
theorem dX5_sameSigns_1 : decode cX5_sameSigns 1 = .ok (.istore_n 2, 1) := by decide +kernel
theorem dX5_sameSigns_2 : decode cX5_sameSigns 2 = .ok (.iload_n 2, 1) := by decide +kernel
theorem dX5_sameSigns_3 : decode cX5_sameSigns 3 = .ok (.aload_n 1, 1) := by decide +kernel
theorem dX5_sameSigns_4 : decode cX5_sameSigns 4 = .ok (.invokevirtual 47, 3) := by decide +kernel
theorem dX5_sameSigns_7 : decode cX5_sameSigns 7 = .ok (.if_icmp .ge 27, 3) := by decide +kernel
theorem dX5_sameSigns_10 : decode cX5_sameSigns 10 = .ok (.aload_n 0, 1) := by decide +kernel
theorem dX5_sameSigns_11 : decode cX5_sameSigns 11 = .ok (.aload_n 0, 1) := by decide +kernel
theorem dX5_sameSigns_12 : decode cX5_sameSigns 12 = .ok (.getfield 30, 3) := by decide +kernel
theorem dX5_sameSigns_15 : decode cX5_sameSigns 15 = .ok (.iload_n 2, 1) := by decide +kernel
theorem dX5_sameSigns_16 : decode cX5_sameSigns 16 = .ok (.iadd, 1) := by decide +kernel
theorem dX5_sameSigns_17 : decode cX5_sameSigns 17 = .ok (.invokevirtual 60, 3) := by decide +kernel
theorem dX5_sameSigns_20 : decode cX5_sameSigns 20 = .ok (.aload_n 1, 1) := by decide +kernel
theorem dX5_sameSigns_21 : decode cX5_sameSigns 21 = .ok (.iload_n 2, 1) := by decide +kernel
theorem dX5_sameSigns_22 : decode cX5_sameSigns 22 = .ok (.invokevirtual 52, 3) := by decide +kernel
theorem dX5_sameSigns_25 : decode cX5_sameSigns 25 = .ok (.if_icmp .ne 9, 3) := by decide +kernel
theorem dX5_sameSigns_28 : decode cX5_sameSigns 28 = .ok (.iinc 2 1, 3) := by decide +kernel
theorem dX5_sameSigns_31 : decode cX5_sameSigns 31 = .ok (.goto (-29), 3) := by decide +kernel
theorem dX5_sameSigns_34 : decode cX5_sameSigns 34 = .ok (.iload_n 2, 1) := by decide +kernel
theorem dX5_sameSigns_35 : decode cX5_sameSigns 35 = .ok (.ireturn, 1) := by decide +kernel
set_option maxRecDepth 20000 in
theorem ggX5_readNumber_X5_signAt : GoodIn wsX5_readNumber wsX5_signAt := goodIn_r _ [8, 2, 9, 22, 23, 24, 25, 26] (by decide +kernel) (by decide +kernel)
set_option maxRecDepth 20000 in
theorem gX5_readNumber_X5_signAt : GoodIn wsX5_readNumber (wsV RX5 60 RX5 yX5_signAt wsX5_signAt) := goodIn_app (goodIn_of _ (by decide +kernel)) ggX5_readNumber_X5_signAt
set_option maxRecDepth 20000 in
theorem ggX5_readNumber_X5_withDigit : GoodIn wsX5_readNumber wsX5_withDigit := goodIn_r _ [12] (by decide +kernel) (by decide +kernel)
set_option maxRecDepth 20000 in
theorem gX5_readNumber_X5_withDigit : GoodIn wsX5_readNumber (va_wsS RX5 77 yX5_withDigit wsX5_withDigit) := goodIn_app (goodIn_of _ (by decide +kernel)) ggX5_readNumber_X5_withDigit
set_option maxRecDepth 20000 in
theorem ggX5_readNumber_X5_leastOf : GoodIn wsX5_readNumber wsX5_leastOf := goodIn_r _ [15] (by decide +kernel) (by decide +kernel)
set_option maxRecDepth 20000 in
theorem gX5_readNumber_X5_leastOf : GoodIn wsX5_readNumber (va_wsS RX5 80 yX5_leastOf wsX5_leastOf) := goodIn_app (goodIn_of _ (by decide +kernel)) ggX5_readNumber_X5_leastOf
set_option maxRecDepth 20000 in
theorem ggX5_readNumber_X5_mostOf : GoodIn wsX5_readNumber wsX5_mostOf := goodIn_r _ [18] (by decide +kernel) (by decide +kernel)
set_option maxRecDepth 20000 in
theorem gX5_readNumber_X5_mostOf : GoodIn wsX5_readNumber (va_wsS RX5 84 yX5_mostOf wsX5_mostOf) := goodIn_app (goodIn_of _ (by decide +kernel)) ggX5_readNumber_X5_mostOf
set_option maxRecDepth 20000 in
theorem ggX5_readNumber_X7_isBetween : GoodIn wsX5_readNumber wsX7_isBetween := goodIn_r _ [21] (by decide +kernel) (by decide +kernel)
set_option maxRecDepth 20000 in
theorem gX5_readNumber_X7_isBetween_n87 : GoodIn wsX5_readNumber (wsX7_isBetween) := ggX5_readNumber_X7_isBetween
theorem dX5_readNumber_0 : decode cX5_readNumber 0 = .ok (.iconst (-1), 1) := by decide +kernel
theorem dX5_readNumber_1 : decode cX5_readNumber 1 = .ok (.istore_n 3, 1) := by decide +kernel
theorem dX5_readNumber_2 : decode cX5_readNumber 2 = .ok (.aload_n 0, 1) := by decide +kernel
theorem dX5_readNumber_3 : decode cX5_readNumber 3 = .ok (.getfield 30, 3) := by decide +kernel
theorem dX5_readNumber_6 : decode cX5_readNumber 6 = .ok (.aload_n 0, 1) := by decide +kernel
theorem dX5_readNumber_7 : decode cX5_readNumber 7 = .ok (.getfield 19, 3) := by decide +kernel
theorem dX5_readNumber_10 : decode cX5_readNumber 10 = .ok (.if_icmp .ge 52, 3) := by decide +kernel
theorem dX5_readNumber_13 : decode cX5_readNumber 13 = .ok (.iload_n 3, 1) := by decide +kernel
theorem dX5_readNumber_14 : decode cX5_readNumber 14 = .ok (.aload_n 0, 1) := by decide +kernel
theorem dX5_readNumber_15 : decode cX5_readNumber 15 = .ok (.aload_n 0, 1) := by decide +kernel
theorem dX5_readNumber_16 : decode cX5_readNumber 16 = .ok (.getfield 30, 3) := by decide +kernel
theorem dX5_readNumber_19 : decode cX5_readNumber 19 = .ok (.invokevirtual 60, 3) := by decide +kernel
theorem dX5_readNumber_22 : decode cX5_readNumber 22 = .ok (.invokestatic 77, 3) := by decide +kernel
theorem dX5_readNumber_25 : decode cX5_readNumber 25 = .ok (.istore 4, 2) := by decide +kernel
theorem dX5_readNumber_27 : decode cX5_readNumber 27 = .ok (.iload 4, 2) := by decide +kernel
theorem dX5_readNumber_29 : decode cX5_readNumber 29 = .ok (.iload_n 2, 1) := by decide +kernel
theorem dX5_readNumber_30 : decode cX5_readNumber 30 = .ok (.invokestatic 80, 3) := by decide +kernel
theorem dX5_readNumber_33 : decode cX5_readNumber 33 = .ok (.iload_n 2, 1) := by decide +kernel
theorem dX5_readNumber_34 : decode cX5_readNumber 34 = .ok (.invokestatic 84, 3) := by decide +kernel
theorem dX5_readNumber_37 : decode cX5_readNumber 37 = .ok (.invokestatic 87, 3) := by decide +kernel
theorem dX5_readNumber_40 : decode cX5_readNumber 40 = .ok (.ifCond .ne 6, 3) := by decide +kernel
theorem dX5_readNumber_43 : decode cX5_readNumber 43 = .ok (.goto 19, 3) := by decide +kernel
theorem dX5_readNumber_46 : decode cX5_readNumber 46 = .ok (.iload 4, 2) := by decide +kernel
theorem dX5_readNumber_48 : decode cX5_readNumber 48 = .ok (.istore_n 3, 1) := by decide +kernel
theorem dX5_readNumber_49 : decode cX5_readNumber 49 = .ok (.aload_n 0, 1) := by decide +kernel
theorem dX5_readNumber_50 : decode cX5_readNumber 50 = .ok (.dup, 1) := by decide +kernel
theorem dX5_readNumber_51 : decode cX5_readNumber 51 = .ok (.getfield 30, 3) := by decide +kernel
theorem dX5_readNumber_54 : decode cX5_readNumber 54 = .ok (.iconst 1, 1) := by decide +kernel
theorem dX5_readNumber_55 : decode cX5_readNumber 55 = .ok (.iadd, 1) := by decide +kernel
theorem dX5_readNumber_56 : decode cX5_readNumber 56 = .ok (.putfield 30, 3) := by decide +kernel
theorem dX5_readNumber_59 : decode cX5_readNumber 59 = .ok (.goto (-57), 3) := by decide +kernel
theorem dX5_readNumber_62 : decode cX5_readNumber 62 = .ok (.iload_n 3, 1) := by decide +kernel
theorem dX5_readNumber_63 : decode cX5_readNumber 63 = .ok (.iconst (-1), 1) := by decide +kernel
theorem dX5_readNumber_64 : decode cX5_readNumber 64 = .ok (.if_icmp .eq 16, 3) := by decide +kernel
theorem dX5_readNumber_67 : decode cX5_readNumber 67 = .ok (.iload_n 1, 1) := by decide +kernel
theorem dX5_readNumber_68 : decode cX5_readNumber 68 = .ok (.ifCond .lt 12, 3) := by decide +kernel
theorem dX5_readNumber_71 : decode cX5_readNumber 71 = .ok (.iload_n 1, 1) := by decide +kernel
theorem dX5_readNumber_72 : decode cX5_readNumber 72 = .ok (.aload_n 0, 1) := by decide +kernel
theorem dX5_readNumber_73 : decode cX5_readNumber 73 = .ok (.getfield 15, 3) := by decide +kernel
theorem dX5_readNumber_76 : decode cX5_readNumber 76 = .ok (.arraylength, 1) := by decide +kernel
theorem dX5_readNumber_77 : decode cX5_readNumber 77 = .ok (.if_icmp .lt 5, 3) := by decide +kernel
theorem dX5_readNumber_80 : decode cX5_readNumber 80 = .ok (.iconst 0, 1) := by decide +kernel
theorem dX5_readNumber_81 : decode cX5_readNumber 81 = .ok (.ireturn, 1) := by decide +kernel
theorem dX5_readNumber_82 : decode cX5_readNumber 82 = .ok (.aload_n 0, 1) := by decide +kernel
theorem dX5_readNumber_83 : decode cX5_readNumber 83 = .ok (.getfield 15, 3) := by decide +kernel
theorem dX5_readNumber_86 : decode cX5_readNumber 86 = .ok (.iload_n 1, 1) := by decide +kernel
theorem dX5_readNumber_87 : decode cX5_readNumber 87 = .ok (.iload_n 3, 1) := by decide +kernel
theorem dX5_readNumber_88 : decode cX5_readNumber 88 = .ok (.iastore, 1) := by decide +kernel
theorem dX5_readNumber_89 : decode cX5_readNumber 89 = .ok (.iconst 1, 1) := by decide +kernel
theorem dX5_readNumber_90 : decode cX5_readNumber 90 = .ok (.ireturn, 1) := by decide +kernel
theorem dX5_withDigit_0 : decode cX5_withDigit 0 = .ok (.iload_n 1, 1) := by decide +kernel
theorem dX5_withDigit_1 : decode cX5_withDigit 1 = .ok (.bipush 48, 2) := by decide +kernel
theorem dX5_withDigit_3 : decode cX5_withDigit 3 = .ok (.if_icmp .lt 13, 3) := by decide +kernel
theorem dX5_withDigit_6 : decode cX5_withDigit 6 = .ok (.iload_n 1, 1) := by decide +kernel
theorem dX5_withDigit_7 : decode cX5_withDigit 7 = .ok (.bipush 57, 2) := by decide +kernel
theorem dX5_withDigit_9 : decode cX5_withDigit 9 = .ok (.if_icmp .gt 7, 3) := by decide +kernel
theorem dX5_withDigit_12 : decode cX5_withDigit 12 = .ok (.iload_n 0, 1) := by decide +kernel
theorem dX5_withDigit_13 : decode cX5_withDigit 13 = .ok (.ifCond .ne 5, 3) := by decide +kernel
theorem dX5_withDigit_16 : decode cX5_withDigit 16 = .ok (.iconst (-1), 1) := by decide +kernel
theorem dX5_withDigit_17 : decode cX5_withDigit 17 = .ok (.ireturn, 1) := by decide +kernel
theorem dX5_withDigit_18 : decode cX5_withDigit 18 = .ok (.iload_n 0, 1) := by decide +kernel
theorem dX5_withDigit_19 : decode cX5_withDigit 19 = .ok (.iconst (-1), 1) := by decide +kernel
theorem dX5_withDigit_20 : decode cX5_withDigit 20 = .ok (.if_icmp .ne 7, 3) := by decide +kernel
theorem dX5_withDigit_23 : decode cX5_withDigit 23 = .ok (.iconst 0, 1) := by decide +kernel
theorem dX5_withDigit_24 : decode cX5_withDigit 24 = .ok (.goto 7, 3) := by decide +kernel
theorem dX5_withDigit_27 : decode cX5_withDigit 27 = .ok (.bipush 10, 2) := by decide +kernel
theorem dX5_withDigit_29 : decode cX5_withDigit 29 = .ok (.iload_n 0, 1) := by decide +kernel
theorem dX5_withDigit_30 : decode cX5_withDigit 30 = .ok (.imul, 1) := by decide +kernel
theorem dX5_withDigit_31 : decode cX5_withDigit 31 = .ok (.iload_n 1, 1) := by decide +kernel
theorem dX5_withDigit_32 : decode cX5_withDigit 32 = .ok (.iadd, 1) := by decide +kernel
theorem dX5_withDigit_33 : decode cX5_withDigit 33 = .ok (.bipush 48, 2) := by decide +kernel
theorem dX5_withDigit_35 : decode cX5_withDigit 35 = .ok (.isub, 1) := by decide +kernel
theorem dX5_withDigit_36 : decode cX5_withDigit 36 = .ok (.ireturn, 1) := by decide +kernel
theorem dX5_spellingOf_0 : decode cX5_spellingOf 0 = .ok (.iload_n 0, 1) := by decide +kernel
theorem dX5_spellingOf_1 : decode cX5_spellingOf 1 = .ok (.tableswitch 50 0 4 #[35, 38, 41, 44, 47], 35) := by decide +kernel
theorem dX5_spellingOf_36 : decode cX5_spellingOf 36 = .ok (.ldc 91, 2) := by decide +kernel
theorem dX5_spellingOf_38 : decode cX5_spellingOf 38 = .ok (.areturn, 1) := by decide +kernel
theorem dX5_spellingOf_39 : decode cX5_spellingOf 39 = .ok (.ldc 93, 2) := by decide +kernel
theorem dX5_spellingOf_41 : decode cX5_spellingOf 41 = .ok (.areturn, 1) := by decide +kernel
theorem dX5_spellingOf_42 : decode cX5_spellingOf 42 = .ok (.ldc 95, 2) := by decide +kernel
theorem dX5_spellingOf_44 : decode cX5_spellingOf 44 = .ok (.areturn, 1) := by decide +kernel
theorem dX5_spellingOf_45 : decode cX5_spellingOf 45 = .ok (.ldc 97, 2) := by decide +kernel
theorem dX5_spellingOf_47 : decode cX5_spellingOf 47 = .ok (.areturn, 1) := by decide +kernel
theorem dX5_spellingOf_48 : decode cX5_spellingOf 48 = .ok (.ldc 99, 2) := by decide +kernel
theorem dX5_spellingOf_50 : decode cX5_spellingOf 50 = .ok (.areturn, 1) := by decide +kernel
theorem dX5_spellingOf_51 : decode cX5_spellingOf 51 = .ok (.ldc 101, 2) := by decide +kernel
theorem dX5_spellingOf_53 : decode cX5_spellingOf 53 = .ok (.areturn, 1) := by decide +kernel
theorem dX5_kindsOf_0 : decode cX5_kindsOf 0 = .ok (.iload_n 0, 1) := by decide +kernel
theorem dX5_kindsOf_1 : decode cX5_kindsOf 1 = .ok (.tableswitch 50 0 4 #[35, 38, 41, 44, 47], 35) := by decide +kernel
theorem dX5_kindsOf_36 : decode cX5_kindsOf 36 = .ok (.ldc 103, 2) := by decide +kernel
theorem dX5_kindsOf_38 : decode cX5_kindsOf 38 = .ok (.areturn, 1) := by decide +kernel
theorem dX5_kindsOf_39 : decode cX5_kindsOf 39 = .ok (.ldc 105, 2) := by decide +kernel
theorem dX5_kindsOf_41 : decode cX5_kindsOf 41 = .ok (.areturn, 1) := by decide +kernel
theorem dX5_kindsOf_42 : decode cX5_kindsOf 42 = .ok (.ldc 107, 2) := by decide +kernel
theorem dX5_kindsOf_44 : decode cX5_kindsOf 44 = .ok (.areturn, 1) := by decide +kernel
theorem dX5_kindsOf_45 : decode cX5_kindsOf 45 = .ok (.ldc 105, 2) := by decide +kernel
theorem dX5_kindsOf_47 : decode cX5_kindsOf 47 = .ok (.areturn, 1) := by decide +kernel
theorem dX5_kindsOf_48 : decode cX5_kindsOf 48 = .ok (.ldc 109, 2) := by decide +kernel
theorem dX5_kindsOf_50 : decode cX5_kindsOf 50 = .ok (.areturn, 1) := by decide +kernel
theorem dX5_kindsOf_51 : decode cX5_kindsOf 51 = .ok (.ldc 111, 2) := by decide +kernel
theorem dX5_kindsOf_53 : decode cX5_kindsOf 53 = .ok (.areturn, 1) := by decide +kernel
theorem dX5_leastOf_0 : decode cX5_leastOf 0 = .ok (.iload_n 0, 1) := by decide +kernel
theorem dX5_leastOf_1 : decode cX5_leastOf 1 = .ok (.bipush 110, 2) := by decide +kernel
theorem dX5_leastOf_3 : decode cX5_leastOf 3 = .ok (.if_icmp .ne 7, 3) := by decide +kernel
theorem dX5_leastOf_6 : decode cX5_leastOf 6 = .ok (.iconst 1, 1) := by decide +kernel
theorem dX5_leastOf_7 : decode cX5_leastOf 7 = .ok (.goto 4, 3) := by decide +kernel
theorem dX5_leastOf_10 : decode cX5_leastOf 10 = .ok (.iconst 0, 1) := by decide +kernel
theorem dX5_leastOf_11 : decode cX5_leastOf 11 = .ok (.ireturn, 1) := by decide +kernel
theorem dX5_mostOf_0 : decode cX5_mostOf 0 = .ok (.iload_n 0, 1) := by decide +kernel
theorem dX5_mostOf_1 : decode cX5_mostOf 1 = .ok (.lookupswitch 65 #[(100, 59), (104, 62), (112, 53), (114, 51), (118, 56)], 51) := by decide +kernel
theorem dX5_mostOf_52 : decode cX5_mostOf 52 = .ok (.iconst 3, 1) := by decide +kernel
theorem dX5_mostOf_53 : decode cX5_mostOf 53 = .ok (.ireturn, 1) := by decide +kernel
theorem dX5_mostOf_54 : decode cX5_mostOf 54 = .ok (.bipush 7, 2) := by decide +kernel
theorem dX5_mostOf_56 : decode cX5_mostOf 56 = .ok (.ireturn, 1) := by decide +kernel
theorem dX5_mostOf_57 : decode cX5_mostOf 57 = .ok (.bipush 9, 2) := by decide +kernel
theorem dX5_mostOf_59 : decode cX5_mostOf 59 = .ok (.ireturn, 1) := by decide +kernel
theorem dX5_mostOf_60 : decode cX5_mostOf 60 = .ok (.bipush 99, 2) := by decide +kernel
theorem dX5_mostOf_62 : decode cX5_mostOf 62 = .ok (.ireturn, 1) := by decide +kernel
theorem dX5_mostOf_63 : decode cX5_mostOf 63 = .ok (.bipush 7, 2) := by decide +kernel
theorem dX5_mostOf_65 : decode cX5_mostOf 65 = .ok (.ireturn, 1) := by decide +kernel
theorem dX5_mostOf_66 : decode cX5_mostOf 66 = .ok (.bipush 30, 2) := by decide +kernel
theorem dX5_mostOf_68 : decode cX5_mostOf 68 = .ok (.ireturn, 1) := by decide +kernel
set_option maxRecDepth 20000 in
theorem ggX5_doCommand_X2_tryAdd : GoodIn wsX5_doCommand wsX2_tryAdd := goodIn_r _ [7, 8, 9, 10, 11, 12, 215, 216, 217, 218, 219, 220, 221, 222, 223, 224, 225, 226, 227, 228, 229] (by decide +kernel) (by decide +kernel)
set_option maxRecDepth 20000 in
theorem gX5_doCommand_X2_tryAdd : GoodIn wsX5_doCommand (wsV RX5 113 RX2 yX2_tryAdd wsX2_tryAdd) := goodIn_app (goodIn_of _ (by decide +kernel)) ggX5_doCommand_X2_tryAdd
set_option maxRecDepth 20000 in
theorem ggX5_doCommand_X2_tryList : GoodIn wsX5_doCommand wsX2_tryList := goodIn_r _ [16, 17, 18, 19, 20, 6, 21, 22, 23, 24, 25, 8, 26, 27, 28, 29, 11, 30, 215, 216, 217, 218, 219, 220, 221, 222, 223, 224, 225, 226, 227, 228, 229] (by decide +kernel) (by decide +kernel)
set_option maxRecDepth 20000 in
theorem gX5_doCommand_X2_tryList : GoodIn wsX5_doCommand (wsV RX5 118 RX2 yX2_tryList wsX2_tryList) := goodIn_app (goodIn_of _ (by decide +kernel)) ggX5_doCommand_X2_tryList
set_option maxRecDepth 20000 in
theorem ggX5_doCommand_X2_tryBook : GoodIn wsX5_doCommand wsX2_tryBook := goodIn_r _ [34, 35, 18, 19, 20, 6, 21, 22, 23, 24, 25, 8, 26, 27, 28, 36, 37, 38, 39, 40, 41, 42, 43, 44, 45, 46, 47, 48, 17, 49, 50, 51, 9, 52, 11, 53, 54, 55, 56, 57, 58, 59, 60, 61, 62, 63, 64, 65, 66, 67, 68, 69, 70, 71, 72, 73, 74, 75, 76, 77, 78, 79, 80, 81, 82, 83, 84, 85, 86, 87, 88, 89, 90, 91, 92, 93, 94, 215, 216, 217, 218, 219, 220, 221, 222, 223, 224, 225, 226, 227, 228, 229, 230, 231] (by decide +kernel) (by decide +kernel)
set_option maxRecDepth 20000 in
theorem gX5_doCommand_X2_tryBook : GoodIn wsX5_doCommand (wsV RX5 122 RX2 yX2_tryBook wsX2_tryBook) := goodIn_app (goodIn_of _ (by decide +kernel)) ggX5_doCommand_X2_tryBook
set_option maxRecDepth 20000 in
theorem ggX5_doCommand_X2_tryWish : GoodIn wsX5_doCommand wsX2_tryWish := goodIn_r _ [98, 17, 99, 100, 18, 19, 20, 6, 21, 22, 23, 24, 25, 8, 26, 27, 28, 52, 11, 53, 101, 102, 103, 104, 105, 106, 107, 108, 109, 110, 111, 215, 216, 217, 218, 219, 220, 221, 222, 223, 224, 225, 226, 227, 228, 229, 232, 233] (by decide +kernel) (by decide +kernel)
set_option maxRecDepth 20000 in
theorem gX5_doCommand_X2_tryWish : GoodIn wsX5_doCommand (wsV RX5 126 RX2 yX2_tryWish wsX2_tryWish) := goodIn_app (goodIn_of _ (by decide +kernel)) ggX5_doCommand_X2_tryWish
set_option maxRecDepth 20000 in
theorem ggX5_doCommand_X2_tryCarry : GoodIn wsX5_doCommand wsX2_tryCarry := goodIn_r _ [115, 116, 26, 27, 6, 28, 29, 11, 30, 215, 216, 217, 218, 219, 220, 221, 222, 223, 224, 225, 226, 227, 228, 229] (by decide +kernel) (by decide +kernel)
set_option maxRecDepth 20000 in
theorem gX5_doCommand_X2_tryCarry : GoodIn wsX5_doCommand (wsV RX5 129 RX2 yX2_tryCarry wsX2_tryCarry) := goodIn_app (goodIn_of _ (by decide +kernel)) ggX5_doCommand_X2_tryCarry
set_option maxRecDepth 20000 in
theorem ggX5_doCommand_X2_letDaysPass : GoodIn wsX5_doCommand wsX2_letDaysPass := goodIn_r _ [120, 121, 35, 122, 40, 123, 124, 125, 6, 126, 99, 100, 127, 128, 129, 130, 104, 131, 106, 132, 133, 134, 135, 136, 137, 138, 139, 111, 140, 141, 142, 143, 144, 145, 146, 147, 148, 149, 150, 151, 152, 153, 154, 155, 74, 75, 76, 60, 77, 62, 45, 46, 47, 48, 17, 49, 50, 51, 9, 22, 23, 24, 25, 8, 26, 27, 28, 52, 11, 53, 54, 55, 56, 57, 58, 59, 61, 63, 64, 65, 66, 67, 68, 69, 70, 71, 72, 73, 78, 79, 80, 81, 82, 83, 84, 85, 86, 87, 88, 89, 90, 91, 92, 93, 94, 156, 157, 158, 159, 160, 161, 162, 163, 164, 165, 166, 167, 168, 169, 170, 171, 172, 173, 174, 175, 176, 18, 19, 20, 21, 177, 178, 179, 180, 116, 181, 182, 183, 184, 185, 186, 187, 188, 189, 190, 191, 192, 193, 29, 30, 194, 195, 196, 197, 198, 199, 200, 201, 202, 203, 204, 205, 206, 207, 208, 209, 215, 216, 217, 218, 219, 220, 221, 222, 223, 224, 225, 226, 227, 228, 229, 230, 231, 232, 233] (by decide +kernel) (by decide +kernel)
set_option maxRecDepth 20000 in
theorem gX5_doCommand_X2_letDaysPass : GoodIn wsX5_doCommand (wsV RX5 133 RX2 yX2_letDaysPass wsX2_letDaysPass) := goodIn_app (goodIn_of _ (by decide +kernel)) ggX5_doCommand_X2_letDaysPass
theorem dX5_doCommand_0 : decode cX5_doCommand 0 = .ok (.aload_n 0, 1) := by decide +kernel
theorem dX5_doCommand_1 : decode cX5_doCommand 1 = .ok (.getfield 40, 3) := by decide +kernel
theorem dX5_doCommand_4 : decode cX5_doCommand 4 = .ok (.tableswitch 138 0 5 #[40, 51, 69, 98, 115, 127], 40) := by decide +kernel
theorem dX5_doCommand_44 : decode cX5_doCommand 44 = .ok (.aload_n 1, 1) := by decide +kernel
theorem dX5_doCommand_45 : decode cX5_doCommand 45 = .ok (.aload_n 0, 1) := by decide +kernel
theorem dX5_doCommand_46 : decode cX5_doCommand 46 = .ok (.getfield 15, 3) := by decide +kernel
theorem dX5_doCommand_49 : decode cX5_doCommand 49 = .ok (.iconst 0, 1) := by decide +kernel
theorem dX5_doCommand_50 : decode cX5_doCommand 50 = .ok (.iaload, 1) := by decide +kernel
theorem dX5_doCommand_51 : decode cX5_doCommand 51 = .ok (.invokevirtual 113, 3) := by decide +kernel
theorem dX5_doCommand_54 : decode cX5_doCommand 54 = .ok (.ireturn, 1) := by decide +kernel
theorem dX5_doCommand_55 : decode cX5_doCommand 55 = .ok (.aload_n 1, 1) := by decide +kernel
theorem dX5_doCommand_56 : decode cX5_doCommand 56 = .ok (.aload_n 0, 1) := by decide +kernel
theorem dX5_doCommand_57 : decode cX5_doCommand 57 = .ok (.getfield 15, 3) := by decide +kernel
theorem dX5_doCommand_60 : decode cX5_doCommand 60 = .ok (.iconst 0, 1) := by decide +kernel
theorem dX5_doCommand_61 : decode cX5_doCommand 61 = .ok (.iaload, 1) := by decide +kernel
theorem dX5_doCommand_62 : decode cX5_doCommand 62 = .ok (.aload_n 0, 1) := by decide +kernel
theorem dX5_doCommand_63 : decode cX5_doCommand 63 = .ok (.getfield 15, 3) := by decide +kernel
theorem dX5_doCommand_66 : decode cX5_doCommand 66 = .ok (.iconst 1, 1) := by decide +kernel
theorem dX5_doCommand_67 : decode cX5_doCommand 67 = .ok (.iaload, 1) := by decide +kernel
theorem dX5_doCommand_68 : decode cX5_doCommand 68 = .ok (.iconst 1, 1) := by decide +kernel
theorem dX5_doCommand_69 : decode cX5_doCommand 69 = .ok (.invokevirtual 118, 3) := by decide +kernel
theorem dX5_doCommand_72 : decode cX5_doCommand 72 = .ok (.ireturn, 1) := by decide +kernel
theorem dX5_doCommand_73 : decode cX5_doCommand 73 = .ok (.aload_n 1, 1) := by decide +kernel
theorem dX5_doCommand_74 : decode cX5_doCommand 74 = .ok (.aload_n 0, 1) := by decide +kernel
theorem dX5_doCommand_75 : decode cX5_doCommand 75 = .ok (.getfield 15, 3) := by decide +kernel
theorem dX5_doCommand_78 : decode cX5_doCommand 78 = .ok (.iconst 0, 1) := by decide +kernel
theorem dX5_doCommand_79 : decode cX5_doCommand 79 = .ok (.iaload, 1) := by decide +kernel
theorem dX5_doCommand_80 : decode cX5_doCommand 80 = .ok (.aload_n 0, 1) := by decide +kernel
theorem dX5_doCommand_81 : decode cX5_doCommand 81 = .ok (.getfield 15, 3) := by decide +kernel
theorem dX5_doCommand_84 : decode cX5_doCommand 84 = .ok (.iconst 1, 1) := by decide +kernel
theorem dX5_doCommand_85 : decode cX5_doCommand 85 = .ok (.iaload, 1) := by decide +kernel
theorem dX5_doCommand_86 : decode cX5_doCommand 86 = .ok (.aload_n 0, 1) := by decide +kernel
theorem dX5_doCommand_87 : decode cX5_doCommand 87 = .ok (.getfield 15, 3) := by decide +kernel
theorem dX5_doCommand_90 : decode cX5_doCommand 90 = .ok (.iconst 2, 1) := by decide +kernel
theorem dX5_doCommand_91 : decode cX5_doCommand 91 = .ok (.iaload, 1) := by decide +kernel
theorem dX5_doCommand_92 : decode cX5_doCommand 92 = .ok (.aload_n 0, 1) := by decide +kernel
theorem dX5_doCommand_93 : decode cX5_doCommand 93 = .ok (.getfield 15, 3) := by decide +kernel
theorem dX5_doCommand_96 : decode cX5_doCommand 96 = .ok (.iconst 3, 1) := by decide +kernel
theorem dX5_doCommand_97 : decode cX5_doCommand 97 = .ok (.iaload, 1) := by decide +kernel
theorem dX5_doCommand_98 : decode cX5_doCommand 98 = .ok (.invokevirtual 122, 3) := by decide +kernel
theorem dX5_doCommand_101 : decode cX5_doCommand 101 = .ok (.ireturn, 1) := by decide +kernel
theorem dX5_doCommand_102 : decode cX5_doCommand 102 = .ok (.aload_n 1, 1) := by decide +kernel
theorem dX5_doCommand_103 : decode cX5_doCommand 103 = .ok (.aload_n 0, 1) := by decide +kernel
theorem dX5_doCommand_104 : decode cX5_doCommand 104 = .ok (.getfield 15, 3) := by decide +kernel
theorem dX5_doCommand_107 : decode cX5_doCommand 107 = .ok (.iconst 0, 1) := by decide +kernel
theorem dX5_doCommand_108 : decode cX5_doCommand 108 = .ok (.iaload, 1) := by decide +kernel
theorem dX5_doCommand_109 : decode cX5_doCommand 109 = .ok (.aload_n 0, 1) := by decide +kernel
theorem dX5_doCommand_110 : decode cX5_doCommand 110 = .ok (.getfield 15, 3) := by decide +kernel
theorem dX5_doCommand_113 : decode cX5_doCommand 113 = .ok (.iconst 1, 1) := by decide +kernel
theorem dX5_doCommand_114 : decode cX5_doCommand 114 = .ok (.iaload, 1) := by decide +kernel
theorem dX5_doCommand_115 : decode cX5_doCommand 115 = .ok (.invokevirtual 126, 3) := by decide +kernel
theorem dX5_doCommand_118 : decode cX5_doCommand 118 = .ok (.ireturn, 1) := by decide +kernel
theorem dX5_doCommand_119 : decode cX5_doCommand 119 = .ok (.aload_n 1, 1) := by decide +kernel
theorem dX5_doCommand_120 : decode cX5_doCommand 120 = .ok (.aload_n 0, 1) := by decide +kernel
theorem dX5_doCommand_121 : decode cX5_doCommand 121 = .ok (.getfield 15, 3) := by decide +kernel
theorem dX5_doCommand_124 : decode cX5_doCommand 124 = .ok (.iconst 0, 1) := by decide +kernel
theorem dX5_doCommand_125 : decode cX5_doCommand 125 = .ok (.iaload, 1) := by decide +kernel
theorem dX5_doCommand_126 : decode cX5_doCommand 126 = .ok (.iconst 1, 1) := by decide +kernel
theorem dX5_doCommand_127 : decode cX5_doCommand 127 = .ok (.invokevirtual 129, 3) := by decide +kernel
theorem dX5_doCommand_130 : decode cX5_doCommand 130 = .ok (.ireturn, 1) := by decide +kernel
theorem dX5_doCommand_131 : decode cX5_doCommand 131 = .ok (.aload_n 1, 1) := by decide +kernel
theorem dX5_doCommand_132 : decode cX5_doCommand 132 = .ok (.aload_n 0, 1) := by decide +kernel
theorem dX5_doCommand_133 : decode cX5_doCommand 133 = .ok (.getfield 15, 3) := by decide +kernel
theorem dX5_doCommand_136 : decode cX5_doCommand 136 = .ok (.iconst 0, 1) := by decide +kernel
theorem dX5_doCommand_137 : decode cX5_doCommand 137 = .ok (.iaload, 1) := by decide +kernel
theorem dX5_doCommand_138 : decode cX5_doCommand 138 = .ok (.invokevirtual 133, 3) := by decide +kernel
theorem dX5_doCommand_141 : decode cX5_doCommand 141 = .ok (.ireturn, 1) := by decide +kernel
theorem dX5_doCommand_142 : decode cX5_doCommand 142 = .ok (.bipush (-3), 2) := by decide +kernel
theorem dX5_doCommand_144 : decode cX5_doCommand 144 = .ok (.ireturn, 1) := by decide +kernel
theorem dX6_init_0 : decode cX6_init 0 = .ok (.aload_n 0, 1) := by decide +kernel
theorem dX6_init_1 : decode cX6_init 1 = .ok (.invokespecial 3, 3) := by decide +kernel
theorem dX6_init_4 : decode cX6_init 4 = .ok (.aload_n 0, 1) := by decide +kernel
theorem dX6_init_5 : decode cX6_init 5 = .ok (.bipush 10, 2) := by decide +kernel
theorem dX6_init_7 : decode cX6_init 7 = .ok (.newarray .int, 2) := by decide +kernel
theorem dX6_init_9 : decode cX6_init 9 = .ok (.putfield 11, 3) := by decide +kernel
theorem dX6_init_12 : decode cX6_init 12 = .ok (.return_, 1) := by decide +kernel
theorem dX6_copyFrom_0 : decode cX6_copyFrom 0 = .ok (.aload_n 0, 1) := by decide +kernel
theorem dX6_copyFrom_1 : decode cX6_copyFrom 1 = .ok (.aload_n 1, 1) := by decide +kernel
theorem dX6_copyFrom_2 : decode cX6_copyFrom 2 = .ok (.getfield 15, 3) := by decide +kernel
theorem dX6_copyFrom_5 : decode cX6_copyFrom 5 = .ok (.putfield 15, 3) := by decide +kernel
theorem dX6_copyFrom_8 : decode cX6_copyFrom 8 = .ok (.aload_n 1, 1) := by decide +kernel
theorem dX6_copyFrom_9 : decode cX6_copyFrom 9 = .ok (.getfield 11, 3) := by decide +kernel
theorem dX6_copyFrom_12 : decode cX6_copyFrom 12 = .ok (.iconst 0, 1) := by decide +kernel
theorem dX6_copyFrom_13 : decode cX6_copyFrom 13 = .ok (.aload_n 0, 1) := by decide +kernel
theorem dX6_copyFrom_14 : decode cX6_copyFrom 14 = .ok (.getfield 11, 3) := by decide +kernel
theorem dX6_copyFrom_17 : decode cX6_copyFrom 17 = .ok (.iconst 0, 1) := by decide +kernel
theorem dX6_copyFrom_18 : decode cX6_copyFrom 18 = .ok (.bipush 10, 2) := by decide +kernel
theorem dX6_copyFrom_20 : decode cX6_copyFrom 20 = .ok (.invokestatic 19, 3) := by decide +kernel
