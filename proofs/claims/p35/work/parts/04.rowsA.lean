theorem dX0_init_0 : decode cX0_init 0 = .ok (.aload_n 0, 1) := by decide +kernel
theorem dX0_init_1 : decode cX0_init 1 = .ok (.invokespecial 3, 3) := by decide +kernel
theorem dX0_init_4 : decode cX0_init 4 = .ok (.aload_n 0, 1) := by decide +kernel
theorem dX0_init_5 : decode cX0_init 5 = .ok (.sipush 144, 3) := by decide +kernel
theorem dX0_init_8 : decode cX0_init 8 = .ok (.newarray .int, 2) := by decide +kernel
theorem dX0_init_10 : decode cX0_init 10 = .ok (.putfield 11, 3) := by decide +kernel
theorem dX0_init_13 : decode cX0_init 13 = .ok (.return_, 1) := by decide +kernel
theorem dX0_copyFrom_0 : decode cX0_copyFrom 0 = .ok (.aload_n 0, 1) := by decide +kernel
theorem dX0_copyFrom_1 : decode cX0_copyFrom 1 = .ok (.aload_n 1, 1) := by decide +kernel
theorem dX0_copyFrom_2 : decode cX0_copyFrom 2 = .ok (.getfield 15, 3) := by decide +kernel
theorem dX0_copyFrom_5 : decode cX0_copyFrom 5 = .ok (.putfield 15, 3) := by decide +kernel
theorem dX0_copyFrom_8 : decode cX0_copyFrom 8 = .ok (.aload_n 1, 1) := by decide +kernel
theorem dX0_copyFrom_9 : decode cX0_copyFrom 9 = .ok (.getfield 11, 3) := by decide +kernel
theorem dX0_copyFrom_12 : decode cX0_copyFrom 12 = .ok (.iconst 0, 1) := by decide +kernel
theorem dX0_copyFrom_13 : decode cX0_copyFrom 13 = .ok (.aload_n 0, 1) := by decide +kernel
theorem dX0_copyFrom_14 : decode cX0_copyFrom 14 = .ok (.getfield 11, 3) := by decide +kernel
theorem dX0_copyFrom_17 : decode cX0_copyFrom 17 = .ok (.iconst 0, 1) := by decide +kernel
theorem dX0_copyFrom_18 : decode cX0_copyFrom 18 = .ok (.aload_n 0, 1) := by decide +kernel
theorem dX0_copyFrom_19 : decode cX0_copyFrom 19 = .ok (.getfield 11, 3) := by decide +kernel
theorem dX0_copyFrom_22 : decode cX0_copyFrom 22 = .ok (.arraylength, 1) := by decide +kernel
theorem dX0_copyFrom_23 : decode cX0_copyFrom 23 = .ok (.invokestatic 19, 3) := by decide +kernel
theorem dX0_copyFrom_26 : decode cX0_copyFrom 26 = .ok (.return_, 1) := by decide +kernel
theorem dX0_has_0 : decode cX0_has 0 = .ok (.iload_n 1, 1) := by decide +kernel
theorem dX0_has_1 : decode cX0_has 1 = .ok (.ifCond .lt 21, 3) := by decide +kernel
theorem dX0_has_4 : decode cX0_has 4 = .ok (.iload_n 1, 1) := by decide +kernel
theorem dX0_has_5 : decode cX0_has 5 = .ok (.aload_n 0, 1) := by decide +kernel
theorem dX0_has_6 : decode cX0_has 6 = .ok (.getfield 15, 3) := by decide +kernel
theorem dX0_has_9 : decode cX0_has 9 = .ok (.if_icmp .ge 13, 3) := by decide +kernel
theorem dX0_has_12 : decode cX0_has 12 = .ok (.iload_n 1, 1) := by decide +kernel
theorem dX0_has_13 : decode cX0_has 13 = .ok (.bipush 24, 2) := by decide +kernel
theorem dX0_has_15 : decode cX0_has 15 = .ok (.if_icmp .ge 7, 3) := by decide +kernel
theorem dX0_has_18 : decode cX0_has 18 = .ok (.iconst 1, 1) := by decide +kernel
theorem dX0_has_19 : decode cX0_has 19 = .ok (.goto 4, 3) := by decide +kernel
theorem dX0_has_22 : decode cX0_has 22 = .ok (.iconst 0, 1) := by decide +kernel
theorem dX0_has_23 : decode cX0_has 23 = .ok (.ireturn, 1) := by decide +kernel
theorem dX0_isFull_0 : decode cX0_isFull 0 = .ok (.aload_n 0, 1) := by decide +kernel
theorem dX0_isFull_1 : decode cX0_isFull 1 = .ok (.getfield 15, 3) := by decide +kernel
theorem dX0_isFull_4 : decode cX0_isFull 4 = .ok (.bipush 24, 2) := by decide +kernel
theorem dX0_isFull_6 : decode cX0_isFull 6 = .ok (.if_icmp .lt 7, 3) := by decide +kernel
theorem dX0_isFull_9 : decode cX0_isFull 9 = .ok (.iconst 1, 1) := by decide +kernel
theorem dX0_isFull_10 : decode cX0_isFull 10 = .ok (.goto 4, 3) := by decide +kernel
theorem dX0_isFull_13 : decode cX0_isFull 13 = .ok (.iconst 0, 1) := by decide +kernel
theorem dX0_isFull_14 : decode cX0_isFull 14 = .ok (.ireturn, 1) := by decide +kernel
set_option maxRecDepth 20000 in
theorem ggX0_at_X0_has : GoodIn wsX0_at wsX0_has := goodIn_r _ [6, 7, 8, 9] (by decide +kernel) (by decide +kernel)
set_option maxRecDepth 20000 in
theorem gX0_at_X0_has : GoodIn wsX0_at (wsV RX0 25 RX0 yX0_has wsX0_has) := goodIn_app (goodIn_of _ (by decide +kernel)) ggX0_at_X0_has
theorem dX0_at_0 : decode cX0_at 0 = .ok (.aload_n 0, 1) := by decide +kernel
theorem dX0_at_1 : decode cX0_at 1 = .ok (.iload_n 1, 1) := by decide +kernel
theorem dX0_at_2 : decode cX0_at 2 = .ok (.invokevirtual 25, 3) := by decide +kernel
theorem dX0_at_5 : decode cX0_at 5 = .ok (.ifCond .eq 27, 3) := by decide +kernel
theorem dX0_at_8 : decode cX0_at 8 = .ok (.iload_n 2, 1) := by decide +kernel
theorem dX0_at_9 : decode cX0_at 9 = .ok (.ifCond .lt 23, 3) := by decide +kernel
theorem dX0_at_12 : decode cX0_at 12 = .ok (.iload_n 2, 1) := by decide +kernel
theorem dX0_at_13 : decode cX0_at 13 = .ok (.bipush 6, 2) := by decide +kernel
theorem dX0_at_15 : decode cX0_at 15 = .ok (.if_icmp .ge 17, 3) := by decide +kernel
theorem dX0_at_18 : decode cX0_at 18 = .ok (.aload_n 0, 1) := by decide +kernel
theorem dX0_at_19 : decode cX0_at 19 = .ok (.getfield 11, 3) := by decide +kernel
theorem dX0_at_22 : decode cX0_at 22 = .ok (.bipush 6, 2) := by decide +kernel
theorem dX0_at_24 : decode cX0_at 24 = .ok (.iload_n 1, 1) := by decide +kernel
theorem dX0_at_25 : decode cX0_at 25 = .ok (.imul, 1) := by decide +kernel
theorem dX0_at_26 : decode cX0_at 26 = .ok (.iload_n 2, 1) := by decide +kernel
theorem dX0_at_27 : decode cX0_at 27 = .ok (.iadd, 1) := by decide +kernel
theorem dX0_at_28 : decode cX0_at 28 = .ok (.iaload, 1) := by decide +kernel
theorem dX0_at_29 : decode cX0_at 29 = .ok (.goto 4, 3) := by decide +kernel
theorem dX0_at_33 : decode cX0_at 33 = .ok (.ireturn, 1) := by decide +kernel
set_option maxRecDepth 20000 in
theorem ggX0_putMinutes_X0_has : GoodIn wsX0_putMinutes wsX0_has := goodIn_r _ [6, 7, 8, 9] (by decide +kernel) (by decide +kernel)
set_option maxRecDepth 20000 in
theorem gX0_putMinutes_X0_has : GoodIn wsX0_putMinutes (wsV RX0 25 RX0 yX0_has wsX0_has) := goodIn_app (goodIn_of _ (by decide +kernel)) ggX0_putMinutes_X0_has
theorem dX0_putMinutes_0 : decode cX0_putMinutes 0 = .ok (.aload_n 0, 1) := by decide +kernel
theorem dX0_putMinutes_1 : decode cX0_putMinutes 1 = .ok (.iload_n 1, 1) := by decide +kernel
theorem dX0_putMinutes_2 : decode cX0_putMinutes 2 = .ok (.invokevirtual 25, 3) := by decide +kernel
theorem dX0_putMinutes_5 : decode cX0_putMinutes 5 = .ok (.ifCond .eq 15, 3) := by decide +kernel
theorem dX0_putMinutes_8 : decode cX0_putMinutes 8 = .ok (.aload_n 0, 1) := by decide +kernel
theorem dX0_putMinutes_9 : decode cX0_putMinutes 9 = .ok (.getfield 11, 3) := by decide +kernel
theorem dX0_putMinutes_12 : decode cX0_putMinutes 12 = .ok (.bipush 6, 2) := by decide +kernel
theorem dX0_putMinutes_14 : decode cX0_putMinutes 14 = .ok (.iload_n 1, 1) := by decide +kernel
theorem dX0_putMinutes_15 : decode cX0_putMinutes 15 = .ok (.imul, 1) := by decide +kernel
theorem dX0_putMinutes_16 : decode cX0_putMinutes 16 = .ok (.iconst 5, 1) := by decide +kernel
theorem dX0_putMinutes_17 : decode cX0_putMinutes 17 = .ok (.iadd, 1) := by decide +kernel
theorem dX0_putMinutes_18 : decode cX0_putMinutes 18 = .ok (.iload_n 2, 1) := by decide +kernel
theorem dX0_putMinutes_19 : decode cX0_putMinutes 19 = .ok (.iastore, 1) := by decide +kernel
theorem dX0_putMinutes_20 : decode cX0_putMinutes 20 = .ok (.return_, 1) := by decide +kernel
set_option maxRecDepth 20000 in
theorem ggX0_add_X0_valuesInHour : GoodIn wsX0_add wsX0_valuesInHour := goodIn_r _ [11, 1, 2, 23, 24] (by decide +kernel) (by decide +kernel)
set_option maxRecDepth 20000 in
theorem gX0_add_X0_valuesInHour : GoodIn wsX0_add (wsV RX0 29 RX0 yX0_valuesInHour wsX0_valuesInHour) := goodIn_app (goodIn_of _ (by decide +kernel)) ggX0_add_X0_valuesInHour
set_option maxRecDepth 20000 in
theorem ggX0_add_X7_hasBit : GoodIn wsX0_add wsX7_hasBit := goodIn_r _ [14] (by decide +kernel) (by decide +kernel)
set_option maxRecDepth 20000 in
theorem gX0_add_X7_hasBit_n33 : GoodIn wsX0_add (wsX7_hasBit) := ggX0_add_X7_hasBit
set_option maxRecDepth 20000 in
theorem ggX0_add_X0_placeFor : GoodIn wsX0_add wsX0_placeFor := goodIn_r _ [18, 1, 19, 20, 21, 10, 22, 2, 23, 24] (by decide +kernel) (by decide +kernel)
set_option maxRecDepth 20000 in
theorem gX0_add_X0_placeFor : GoodIn wsX0_add (wsV RX0 37 RX0 yX0_placeFor wsX0_placeFor) := goodIn_app (goodIn_of _ (by decide +kernel)) ggX0_add_X0_placeFor
theorem dX0_add_0 : decode cX0_add 0 = .ok (.aload_n 0, 1) := by decide +kernel
theorem dX0_add_1 : decode cX0_add 1 = .ok (.getfield 15, 3) := by decide +kernel
theorem dX0_add_4 : decode cX0_add 4 = .ok (.ifCond .lt 12, 3) := by decide +kernel
theorem dX0_add_7 : decode cX0_add 7 = .ok (.aload_n 0, 1) := by decide +kernel
theorem dX0_add_8 : decode cX0_add 8 = .ok (.getfield 15, 3) := by decide +kernel
theorem dX0_add_11 : decode cX0_add 11 = .ok (.bipush 24, 2) := by decide +kernel
theorem dX0_add_13 : decode cX0_add 13 = .ok (.if_icmp .lt 6, 3) := by decide +kernel
theorem dX0_add_19 : decode cX0_add 19 = .ok (.aload_n 0, 1) := by decide +kernel
theorem dX0_add_20 : decode cX0_add 20 = .ok (.iconst 2, 1) := by decide +kernel
theorem dX0_add_21 : decode cX0_add 21 = .ok (.iload_n 3, 1) := by decide +kernel
theorem dX0_add_22 : decode cX0_add 22 = .ok (.iload 4, 2) := by decide +kernel
theorem dX0_add_24 : decode cX0_add 24 = .ok (.invokevirtual 29, 3) := by decide +kernel
theorem dX0_add_27 : decode cX0_add 27 = .ok (.istore 5, 2) := by decide +kernel
theorem dX0_add_29 : decode cX0_add 29 = .ok (.iconst 0, 1) := by decide +kernel
theorem dX0_add_30 : decode cX0_add 30 = .ok (.istore 6, 2) := by decide +kernel
theorem dX0_add_32 : decode cX0_add 32 = .ok (.iload 6, 2) := by decide +kernel
theorem dX0_add_34 : decode cX0_add 34 = .ok (.bipush 24, 2) := by decide +kernel
theorem dX0_add_36 : decode cX0_add 36 = .ok (.if_icmp .ge 19, 3) := by decide +kernel
theorem dX0_add_39 : decode cX0_add 39 = .ok (.iload 5, 2) := by decide +kernel
theorem dX0_add_41 : decode cX0_add 41 = .ok (.iload 6, 2) := by decide +kernel
theorem dX0_add_43 : decode cX0_add 43 = .ok (.invokestatic 33, 3) := by decide +kernel
theorem dX0_add_46 : decode cX0_add 46 = .ok (.ifCond .eq 9, 3) := by decide +kernel
theorem dX0_add_49 : decode cX0_add 49 = .ok (.iinc 6 1, 3) := by decide +kernel
theorem dX0_add_52 : decode cX0_add 52 = .ok (.goto (-20), 3) := by decide +kernel
theorem dX0_add_55 : decode cX0_add 55 = .ok (.bipush 6, 2) := by decide +kernel
theorem dX0_add_57 : decode cX0_add 57 = .ok (.aload_n 0, 1) := by decide +kernel
theorem dX0_add_58 : decode cX0_add 58 = .ok (.iload_n 3, 1) := by decide +kernel
theorem dX0_add_59 : decode cX0_add 59 = .ok (.iload 4, 2) := by decide +kernel
theorem dX0_add_61 : decode cX0_add 61 = .ok (.iload 6, 2) := by decide +kernel
theorem dX0_add_63 : decode cX0_add 63 = .ok (.invokevirtual 37, 3) := by decide +kernel
theorem dX0_add_66 : decode cX0_add 66 = .ok (.imul, 1) := by decide +kernel
theorem dX0_add_67 : decode cX0_add 67 = .ok (.istore 7, 2) := by decide +kernel
theorem dX0_add_69 : decode cX0_add 69 = .ok (.aload_n 0, 1) := by decide +kernel
theorem dX0_add_70 : decode cX0_add 70 = .ok (.getfield 11, 3) := by decide +kernel
theorem dX0_add_73 : decode cX0_add 73 = .ok (.iload 7, 2) := by decide +kernel
theorem dX0_add_75 : decode cX0_add 75 = .ok (.aload_n 0, 1) := by decide +kernel
theorem dX0_add_76 : decode cX0_add 76 = .ok (.getfield 11, 3) := by decide +kernel
theorem dX0_add_79 : decode cX0_add 79 = .ok (.iload 7, 2) := by decide +kernel
theorem dX0_add_81 : decode cX0_add 81 = .ok (.bipush 6, 2) := by decide +kernel
theorem dX0_add_83 : decode cX0_add 83 = .ok (.iadd, 1) := by decide +kernel
theorem dX0_add_84 : decode cX0_add 84 = .ok (.bipush 6, 2) := by decide +kernel
theorem dX0_add_86 : decode cX0_add 86 = .ok (.aload_n 0, 1) := by decide +kernel
theorem dX0_add_87 : decode cX0_add 87 = .ok (.getfield 15, 3) := by decide +kernel
theorem dX0_add_90 : decode cX0_add 90 = .ok (.imul, 1) := by decide +kernel
theorem dX0_add_91 : decode cX0_add 91 = .ok (.iload 7, 2) := by decide +kernel
theorem dX0_add_93 : decode cX0_add 93 = .ok (.isub, 1) := by decide +kernel
theorem dX0_add_94 : decode cX0_add 94 = .ok (.invokestatic 19, 3) := by decide +kernel
theorem dX0_add_97 : decode cX0_add 97 = .ok (.aload_n 0, 1) := by decide +kernel
theorem dX0_add_98 : decode cX0_add 98 = .ok (.dup, 1) := by decide +kernel
theorem dX0_add_99 : decode cX0_add 99 = .ok (.getfield 15, 3) := by decide +kernel
theorem dX0_add_102 : decode cX0_add 102 = .ok (.iconst 1, 1) := by decide +kernel
theorem dX0_add_103 : decode cX0_add 103 = .ok (.iadd, 1) := by decide +kernel
theorem dX0_add_104 : decode cX0_add 104 = .ok (.putfield 15, 3) := by decide +kernel
theorem dX0_add_107 : decode cX0_add 107 = .ok (.aload_n 0, 1) := by decide +kernel
theorem dX0_add_108 : decode cX0_add 108 = .ok (.getfield 11, 3) := by decide +kernel
theorem dX0_add_111 : decode cX0_add 111 = .ok (.iload 7, 2) := by decide +kernel
theorem dX0_add_113 : decode cX0_add 113 = .ok (.iconst 0, 1) := by decide +kernel
theorem dX0_add_114 : decode cX0_add 114 = .ok (.iadd, 1) := by decide +kernel
theorem dX0_add_115 : decode cX0_add 115 = .ok (.iload_n 3, 1) := by decide +kernel
theorem dX0_add_116 : decode cX0_add 116 = .ok (.iastore, 1) := by decide +kernel
theorem dX0_add_117 : decode cX0_add 117 = .ok (.aload_n 0, 1) := by decide +kernel
theorem dX0_add_118 : decode cX0_add 118 = .ok (.getfield 11, 3) := by decide +kernel
theorem dX0_add_121 : decode cX0_add 121 = .ok (.iload 7, 2) := by decide +kernel
theorem dX0_add_123 : decode cX0_add 123 = .ok (.iconst 1, 1) := by decide +kernel
theorem dX0_add_124 : decode cX0_add 124 = .ok (.iadd, 1) := by decide +kernel
theorem dX0_add_125 : decode cX0_add 125 = .ok (.iload 4, 2) := by decide +kernel
theorem dX0_add_127 : decode cX0_add 127 = .ok (.iastore, 1) := by decide +kernel
theorem dX0_add_128 : decode cX0_add 128 = .ok (.aload_n 0, 1) := by decide +kernel
theorem dX0_add_129 : decode cX0_add 129 = .ok (.getfield 11, 3) := by decide +kernel
theorem dX0_add_132 : decode cX0_add 132 = .ok (.iload 7, 2) := by decide +kernel
theorem dX0_add_134 : decode cX0_add 134 = .ok (.iconst 2, 1) := by decide +kernel
theorem dX0_add_135 : decode cX0_add 135 = .ok (.iadd, 1) := by decide +kernel
theorem dX0_add_136 : decode cX0_add 136 = .ok (.iload 6, 2) := by decide +kernel
theorem dX0_add_138 : decode cX0_add 138 = .ok (.iastore, 1) := by decide +kernel
theorem dX0_add_139 : decode cX0_add 139 = .ok (.aload_n 0, 1) := by decide +kernel
theorem dX0_add_140 : decode cX0_add 140 = .ok (.getfield 11, 3) := by decide +kernel
theorem dX0_add_143 : decode cX0_add 143 = .ok (.iload 7, 2) := by decide +kernel
theorem dX0_add_145 : decode cX0_add 145 = .ok (.iconst 3, 1) := by decide +kernel
theorem dX0_add_146 : decode cX0_add 146 = .ok (.iadd, 1) := by decide +kernel
theorem dX0_add_147 : decode cX0_add 147 = .ok (.iload_n 1, 1) := by decide +kernel
theorem dX0_add_148 : decode cX0_add 148 = .ok (.iastore, 1) := by decide +kernel
theorem dX0_add_149 : decode cX0_add 149 = .ok (.aload_n 0, 1) := by decide +kernel
theorem dX0_add_150 : decode cX0_add 150 = .ok (.getfield 11, 3) := by decide +kernel
theorem dX0_add_153 : decode cX0_add 153 = .ok (.iload 7, 2) := by decide +kernel
theorem dX0_add_155 : decode cX0_add 155 = .ok (.iconst 4, 1) := by decide +kernel
theorem dX0_add_156 : decode cX0_add 156 = .ok (.iadd, 1) := by decide +kernel
theorem dX0_add_157 : decode cX0_add 157 = .ok (.iload_n 2, 1) := by decide +kernel
theorem dX0_add_158 : decode cX0_add 158 = .ok (.iastore, 1) := by decide +kernel
theorem dX0_add_159 : decode cX0_add 159 = .ok (.aload_n 0, 1) := by decide +kernel
theorem dX0_add_160 : decode cX0_add 160 = .ok (.getfield 11, 3) := by decide +kernel
theorem dX0_add_163 : decode cX0_add 163 = .ok (.iload 7, 2) := by decide +kernel
theorem dX0_add_165 : decode cX0_add 165 = .ok (.iconst 5, 1) := by decide +kernel
theorem dX0_add_166 : decode cX0_add 166 = .ok (.iadd, 1) := by decide +kernel
theorem dX0_add_167 : decode cX0_add 167 = .ok (.iconst 0, 1) := by decide +kernel
theorem dX0_add_168 : decode cX0_add 168 = .ok (.iastore, 1) := by decide +kernel
theorem dX0_add_169 : decode cX0_add 169 = .ok (.iload 6, 2) := by decide +kernel
theorem dX0_add_171 : decode cX0_add 171 = .ok (.ireturn, 1) := by decide +kernel
set_option maxRecDepth 20000 in
theorem ggX0_placeFor_X0_isAhead : GoodIn wsX0_placeFor wsX0_isAhead := goodIn_r _ [6, 7, 8, 9] (by decide +kernel) (by decide +kernel)
set_option maxRecDepth 20000 in
theorem gX0_placeFor_X0_isAhead : GoodIn wsX0_placeFor (wsV RX0 40 RX0 yX0_isAhead wsX0_isAhead) := goodIn_app (goodIn_of _ (by decide +kernel)) ggX0_placeFor_X0_isAhead
theorem dX0_placeFor_0 : decode cX0_placeFor 0 = .ok (.iconst 0, 1) := by decide +kernel
theorem dX0_placeFor_1 : decode cX0_placeFor 1 = .ok (.istore 4, 2) := by decide +kernel
theorem dX0_placeFor_3 : decode cX0_placeFor 3 = .ok (.iload 4, 2) := by decide +kernel
theorem dX0_placeFor_5 : decode cX0_placeFor 5 = .ok (.aload_n 0, 1) := by decide +kernel
theorem dX0_placeFor_6 : decode cX0_placeFor 6 = .ok (.getfield 15, 3) := by decide +kernel
theorem dX0_placeFor_9 : decode cX0_placeFor 9 = .ok (.if_icmp .ge 21, 3) := by decide +kernel
theorem dX0_placeFor_12 : decode cX0_placeFor 12 = .ok (.aload_n 0, 1) := by decide +kernel
theorem dX0_placeFor_13 : decode cX0_placeFor 13 = .ok (.iload 4, 2) := by decide +kernel
theorem dX0_placeFor_15 : decode cX0_placeFor 15 = .ok (.iload_n 1, 1) := by decide +kernel
theorem dX0_placeFor_16 : decode cX0_placeFor 16 = .ok (.iload_n 2, 1) := by decide +kernel
theorem dX0_placeFor_17 : decode cX0_placeFor 17 = .ok (.iload_n 3, 1) := by decide +kernel
theorem dX0_placeFor_18 : decode cX0_placeFor 18 = .ok (.invokevirtual 40, 3) := by decide +kernel
theorem dX0_placeFor_21 : decode cX0_placeFor 21 = .ok (.ifCond .eq 9, 3) := by decide +kernel
theorem dX0_placeFor_24 : decode cX0_placeFor 24 = .ok (.iinc 4 1, 3) := by decide +kernel
theorem dX0_placeFor_27 : decode cX0_placeFor 27 = .ok (.goto (-24), 3) := by decide +kernel
theorem dX0_placeFor_30 : decode cX0_placeFor 30 = .ok (.iload 4, 2) := by decide +kernel
theorem dX0_placeFor_32 : decode cX0_placeFor 32 = .ok (.ireturn, 1) := by decide +kernel
theorem dX0_isAhead_0 : decode cX0_isAhead 0 = .ok (.iload_n 1, 1) := by decide +kernel
theorem dX0_isAhead_1 : decode cX0_isAhead 1 = .ok (.ifCond .lt 9, 3) := by decide +kernel
theorem dX0_isAhead_4 : decode cX0_isAhead 4 = .ok (.iload_n 1, 1) := by decide +kernel
theorem dX0_isAhead_5 : decode cX0_isAhead 5 = .ok (.bipush 24, 2) := by decide +kernel
theorem dX0_isAhead_7 : decode cX0_isAhead 7 = .ok (.if_icmp .lt 5, 3) := by decide +kernel
theorem dX0_isAhead_12 : decode cX0_isAhead 12 = .ok (.bipush 6, 2) := by decide +kernel
theorem dX0_isAhead_14 : decode cX0_isAhead 14 = .ok (.iload_n 1, 1) := by decide +kernel
theorem dX0_isAhead_15 : decode cX0_isAhead 15 = .ok (.imul, 1) := by decide +kernel
theorem dX0_isAhead_16 : decode cX0_isAhead 16 = .ok (.istore 5, 2) := by decide +kernel
theorem dX0_isAhead_18 : decode cX0_isAhead 18 = .ok (.aload_n 0, 1) := by decide +kernel
theorem dX0_isAhead_19 : decode cX0_isAhead 19 = .ok (.getfield 11, 3) := by decide +kernel
theorem dX0_isAhead_22 : decode cX0_isAhead 22 = .ok (.iload 5, 2) := by decide +kernel
theorem dX0_isAhead_24 : decode cX0_isAhead 24 = .ok (.iconst 0, 1) := by decide +kernel
theorem dX0_isAhead_25 : decode cX0_isAhead 25 = .ok (.iadd, 1) := by decide +kernel
theorem dX0_isAhead_26 : decode cX0_isAhead 26 = .ok (.iaload, 1) := by decide +kernel
theorem dX0_isAhead_27 : decode cX0_isAhead 27 = .ok (.iload_n 2, 1) := by decide +kernel
theorem dX0_isAhead_28 : decode cX0_isAhead 28 = .ok (.if_icmp .eq 22, 3) := by decide +kernel
theorem dX0_isAhead_31 : decode cX0_isAhead 31 = .ok (.aload_n 0, 1) := by decide +kernel
theorem dX0_isAhead_32 : decode cX0_isAhead 32 = .ok (.getfield 11, 3) := by decide +kernel
theorem dX0_isAhead_35 : decode cX0_isAhead 35 = .ok (.iload 5, 2) := by decide +kernel
theorem dX0_isAhead_37 : decode cX0_isAhead 37 = .ok (.iconst 0, 1) := by decide +kernel
theorem dX0_isAhead_38 : decode cX0_isAhead 38 = .ok (.iadd, 1) := by decide +kernel
theorem dX0_isAhead_39 : decode cX0_isAhead 39 = .ok (.iaload, 1) := by decide +kernel
theorem dX0_isAhead_40 : decode cX0_isAhead 40 = .ok (.iload_n 2, 1) := by decide +kernel
theorem dX0_isAhead_41 : decode cX0_isAhead 41 = .ok (.if_icmp .ge 7, 3) := by decide +kernel
theorem dX0_isAhead_44 : decode cX0_isAhead 44 = .ok (.iconst 1, 1) := by decide +kernel
theorem dX0_isAhead_45 : decode cX0_isAhead 45 = .ok (.goto 4, 3) := by decide +kernel
theorem dX0_isAhead_48 : decode cX0_isAhead 48 = .ok (.iconst 0, 1) := by decide +kernel
theorem dX0_isAhead_49 : decode cX0_isAhead 49 = .ok (.ireturn, 1) := by decide +kernel
theorem dX0_isAhead_50 : decode cX0_isAhead 50 = .ok (.aload_n 0, 1) := by decide +kernel
theorem dX0_isAhead_51 : decode cX0_isAhead 51 = .ok (.getfield 11, 3) := by decide +kernel
theorem dX0_isAhead_54 : decode cX0_isAhead 54 = .ok (.iload 5, 2) := by decide +kernel
theorem dX0_isAhead_56 : decode cX0_isAhead 56 = .ok (.iconst 1, 1) := by decide +kernel
theorem dX0_isAhead_57 : decode cX0_isAhead 57 = .ok (.iadd, 1) := by decide +kernel
theorem dX0_isAhead_58 : decode cX0_isAhead 58 = .ok (.iaload, 1) := by decide +kernel
theorem dX0_isAhead_59 : decode cX0_isAhead 59 = .ok (.iload_n 3, 1) := by decide +kernel
theorem dX0_isAhead_60 : decode cX0_isAhead 60 = .ok (.if_icmp .eq 22, 3) := by decide +kernel
theorem dX0_isAhead_63 : decode cX0_isAhead 63 = .ok (.aload_n 0, 1) := by decide +kernel
theorem dX0_isAhead_64 : decode cX0_isAhead 64 = .ok (.getfield 11, 3) := by decide +kernel
theorem dX0_isAhead_67 : decode cX0_isAhead 67 = .ok (.iload 5, 2) := by decide +kernel
theorem dX0_isAhead_69 : decode cX0_isAhead 69 = .ok (.iconst 1, 1) := by decide +kernel
theorem dX0_isAhead_70 : decode cX0_isAhead 70 = .ok (.iadd, 1) := by decide +kernel
theorem dX0_isAhead_71 : decode cX0_isAhead 71 = .ok (.iaload, 1) := by decide +kernel
theorem dX0_isAhead_72 : decode cX0_isAhead 72 = .ok (.iload_n 3, 1) := by decide +kernel
theorem dX0_isAhead_73 : decode cX0_isAhead 73 = .ok (.if_icmp .ge 7, 3) := by decide +kernel
theorem dX0_isAhead_76 : decode cX0_isAhead 76 = .ok (.iconst 1, 1) := by decide +kernel
theorem dX0_isAhead_77 : decode cX0_isAhead 77 = .ok (.goto 4, 3) := by decide +kernel
theorem dX0_isAhead_80 : decode cX0_isAhead 80 = .ok (.iconst 0, 1) := by decide +kernel
theorem dX0_isAhead_81 : decode cX0_isAhead 81 = .ok (.ireturn, 1) := by decide +kernel
theorem dX0_isAhead_82 : decode cX0_isAhead 82 = .ok (.aload_n 0, 1) := by decide +kernel
theorem dX0_isAhead_83 : decode cX0_isAhead 83 = .ok (.getfield 11, 3) := by decide +kernel
theorem dX0_isAhead_86 : decode cX0_isAhead 86 = .ok (.iload 5, 2) := by decide +kernel
theorem dX0_isAhead_88 : decode cX0_isAhead 88 = .ok (.iconst 2, 1) := by decide +kernel
theorem dX0_isAhead_89 : decode cX0_isAhead 89 = .ok (.iadd, 1) := by decide +kernel
theorem dX0_isAhead_90 : decode cX0_isAhead 90 = .ok (.iaload, 1) := by decide +kernel
theorem dX0_isAhead_91 : decode cX0_isAhead 91 = .ok (.iload 4, 2) := by decide +kernel
theorem dX0_isAhead_93 : decode cX0_isAhead 93 = .ok (.if_icmp .ge 7, 3) := by decide +kernel
theorem dX0_isAhead_96 : decode cX0_isAhead 96 = .ok (.iconst 1, 1) := by decide +kernel
theorem dX0_isAhead_97 : decode cX0_isAhead 97 = .ok (.goto 4, 3) := by decide +kernel
theorem dX0_isAhead_100 : decode cX0_isAhead 100 = .ok (.iconst 0, 1) := by decide +kernel
theorem dX0_isAhead_101 : decode cX0_isAhead 101 = .ok (.ireturn, 1) := by decide +kernel
set_option maxRecDepth 20000 in
theorem ggX0_remove_X0_has : GoodIn wsX0_remove wsX0_has := goodIn_r _ [11, 1, 12, 13] (by decide +kernel) (by decide +kernel)
set_option maxRecDepth 20000 in
theorem gX0_remove_X0_has : GoodIn wsX0_remove (wsV RX0 25 RX0 yX0_has wsX0_has) := goodIn_app (goodIn_of _ (by decide +kernel)) ggX0_remove_X0_has
theorem dX0_remove_0 : decode cX0_remove 0 = .ok (.aload_n 0, 1) := by decide +kernel
theorem dX0_remove_1 : decode cX0_remove 1 = .ok (.iload_n 1, 1) := by decide +kernel
theorem dX0_remove_2 : decode cX0_remove 2 = .ok (.invokevirtual 25, 3) := by decide +kernel
theorem dX0_remove_5 : decode cX0_remove 5 = .ok (.ifCond .eq 54, 3) := by decide +kernel
theorem dX0_remove_8 : decode cX0_remove 8 = .ok (.aload_n 0, 1) := by decide +kernel
theorem dX0_remove_9 : decode cX0_remove 9 = .ok (.getfield 15, 3) := by decide +kernel
theorem dX0_remove_12 : decode cX0_remove 12 = .ok (.bipush 24, 2) := by decide +kernel
theorem dX0_remove_14 : decode cX0_remove 14 = .ok (.if_icmp .gt 45, 3) := by decide +kernel
theorem dX0_remove_17 : decode cX0_remove 17 = .ok (.bipush 6, 2) := by decide +kernel
theorem dX0_remove_19 : decode cX0_remove 19 = .ok (.iload_n 1, 1) := by decide +kernel
theorem dX0_remove_20 : decode cX0_remove 20 = .ok (.iconst 1, 1) := by decide +kernel
theorem dX0_remove_21 : decode cX0_remove 21 = .ok (.iadd, 1) := by decide +kernel
theorem dX0_remove_22 : decode cX0_remove 22 = .ok (.imul, 1) := by decide +kernel
theorem dX0_remove_23 : decode cX0_remove 23 = .ok (.istore_n 2, 1) := by decide +kernel
theorem dX0_remove_24 : decode cX0_remove 24 = .ok (.aload_n 0, 1) := by decide +kernel
theorem dX0_remove_25 : decode cX0_remove 25 = .ok (.getfield 11, 3) := by decide +kernel
theorem dX0_remove_28 : decode cX0_remove 28 = .ok (.iload_n 2, 1) := by decide +kernel
theorem dX0_remove_29 : decode cX0_remove 29 = .ok (.aload_n 0, 1) := by decide +kernel
theorem dX0_remove_30 : decode cX0_remove 30 = .ok (.getfield 11, 3) := by decide +kernel
theorem dX0_remove_33 : decode cX0_remove 33 = .ok (.iload_n 2, 1) := by decide +kernel
theorem dX0_remove_34 : decode cX0_remove 34 = .ok (.bipush 6, 2) := by decide +kernel
theorem dX0_remove_36 : decode cX0_remove 36 = .ok (.isub, 1) := by decide +kernel
theorem dX0_remove_37 : decode cX0_remove 37 = .ok (.bipush 6, 2) := by decide +kernel
theorem dX0_remove_39 : decode cX0_remove 39 = .ok (.aload_n 0, 1) := by decide +kernel
theorem dX0_remove_40 : decode cX0_remove 40 = .ok (.getfield 15, 3) := by decide +kernel
theorem dX0_remove_43 : decode cX0_remove 43 = .ok (.imul, 1) := by decide +kernel
theorem dX0_remove_44 : decode cX0_remove 44 = .ok (.iload_n 2, 1) := by decide +kernel
theorem dX0_remove_45 : decode cX0_remove 45 = .ok (.isub, 1) := by decide +kernel
theorem dX0_remove_46 : decode cX0_remove 46 = .ok (.invokestatic 19, 3) := by decide +kernel
theorem dX0_remove_49 : decode cX0_remove 49 = .ok (.aload_n 0, 1) := by decide +kernel
theorem dX0_remove_50 : decode cX0_remove 50 = .ok (.dup, 1) := by decide +kernel
theorem dX0_remove_51 : decode cX0_remove 51 = .ok (.getfield 15, 3) := by decide +kernel
theorem dX0_remove_54 : decode cX0_remove 54 = .ok (.iconst 1, 1) := by decide +kernel
theorem dX0_remove_55 : decode cX0_remove 55 = .ok (.isub, 1) := by decide +kernel
theorem dX0_remove_56 : decode cX0_remove 56 = .ok (.putfield 15, 3) := by decide +kernel
theorem dX0_remove_59 : decode cX0_remove 59 = .ok (.return_, 1) := by decide +kernel
set_option maxRecDepth 20000 in
theorem ggX0_countOf_X0_at : GoodIn wsX0_countOf wsX0_at := goodIn_r _ [6, 7, 8, 9, 10, 5, 11, 1, 12, 13] (by decide +kernel) (by decide +kernel)
set_option maxRecDepth 20000 in
theorem gX0_countOf_X0_at : GoodIn wsX0_countOf (wsV RX0 44 RX0 yX0_at wsX0_at) := goodIn_app (goodIn_of _ (by decide +kernel)) ggX0_countOf_X0_at
theorem dX0_countOf_0 : decode cX0_countOf 0 = .ok (.iconst 0, 1) := by decide +kernel
theorem dX0_countOf_1 : decode cX0_countOf 1 = .ok (.istore_n 3, 1) := by decide +kernel
theorem dX0_countOf_2 : decode cX0_countOf 2 = .ok (.iconst 0, 1) := by decide +kernel
theorem dX0_countOf_3 : decode cX0_countOf 3 = .ok (.istore 4, 2) := by decide +kernel
theorem dX0_countOf_5 : decode cX0_countOf 5 = .ok (.iload 4, 2) := by decide +kernel
theorem dX0_countOf_7 : decode cX0_countOf 7 = .ok (.aload_n 0, 1) := by decide +kernel
theorem dX0_countOf_8 : decode cX0_countOf 8 = .ok (.getfield 15, 3) := by decide +kernel
theorem dX0_countOf_11 : decode cX0_countOf 11 = .ok (.if_icmp .ge 23, 3) := by decide +kernel
theorem dX0_countOf_14 : decode cX0_countOf 14 = .ok (.aload_n 0, 1) := by decide +kernel
theorem dX0_countOf_15 : decode cX0_countOf 15 = .ok (.iload 4, 2) := by decide +kernel
theorem dX0_countOf_17 : decode cX0_countOf 17 = .ok (.iload_n 1, 1) := by decide +kernel
theorem dX0_countOf_18 : decode cX0_countOf 18 = .ok (.invokevirtual 44, 3) := by decide +kernel
theorem dX0_countOf_21 : decode cX0_countOf 21 = .ok (.iload_n 2, 1) := by decide +kernel
theorem dX0_countOf_22 : decode cX0_countOf 22 = .ok (.if_icmp .ne 6, 3) := by decide +kernel
theorem dX0_countOf_25 : decode cX0_countOf 25 = .ok (.iinc 3 1, 3) := by decide +kernel
theorem dX0_countOf_28 : decode cX0_countOf 28 = .ok (.iinc 4 1, 3) := by decide +kernel
theorem dX0_countOf_31 : decode cX0_countOf 31 = .ok (.goto (-26), 3) := by decide +kernel
theorem dX0_countOf_34 : decode cX0_countOf 34 = .ok (.iload_n 3, 1) := by decide +kernel
theorem dX0_countOf_35 : decode cX0_countOf 35 = .ok (.ireturn, 1) := by decide +kernel
theorem dX0_countInWeek_0 : decode cX0_countInWeek 0 = .ok (.iconst 0, 1) := by decide +kernel
theorem dX0_countInWeek_1 : decode cX0_countInWeek 1 = .ok (.istore_n 3, 1) := by decide +kernel
theorem dX0_countInWeek_2 : decode cX0_countInWeek 2 = .ok (.iconst 0, 1) := by decide +kernel
theorem dX0_countInWeek_3 : decode cX0_countInWeek 3 = .ok (.istore 4, 2) := by decide +kernel
theorem dX0_countInWeek_5 : decode cX0_countInWeek 5 = .ok (.iload 4, 2) := by decide +kernel
theorem dX0_countInWeek_7 : decode cX0_countInWeek 7 = .ok (.bipush 6, 2) := by decide +kernel
theorem dX0_countInWeek_9 : decode cX0_countInWeek 9 = .ok (.aload_n 0, 1) := by decide +kernel
theorem dX0_countInWeek_10 : decode cX0_countInWeek 10 = .ok (.getfield 15, 3) := by decide +kernel
theorem dX0_countInWeek_13 : decode cX0_countInWeek 13 = .ok (.imul, 1) := by decide +kernel
theorem dX0_countInWeek_14 : decode cX0_countInWeek 14 = .ok (.if_icmp .ge 54, 3) := by decide +kernel
theorem dX0_countInWeek_17 : decode cX0_countInWeek 17 = .ok (.iload 4, 2) := by decide +kernel
theorem dX0_countInWeek_19 : decode cX0_countInWeek 19 = .ok (.bipush 6, 2) := by decide +kernel
theorem dX0_countInWeek_21 : decode cX0_countInWeek 21 = .ok (.iadd, 1) := by decide +kernel
theorem dX0_countInWeek_22 : decode cX0_countInWeek 22 = .ok (.aload_n 0, 1) := by decide +kernel
theorem dX0_countInWeek_23 : decode cX0_countInWeek 23 = .ok (.getfield 11, 3) := by decide +kernel
theorem dX0_countInWeek_26 : decode cX0_countInWeek 26 = .ok (.arraylength, 1) := by decide +kernel
theorem dX0_countInWeek_27 : decode cX0_countInWeek 27 = .ok (.if_icmp .gt 41, 3) := by decide +kernel
theorem dX0_countInWeek_30 : decode cX0_countInWeek 30 = .ok (.aload_n 0, 1) := by decide +kernel
theorem dX0_countInWeek_31 : decode cX0_countInWeek 31 = .ok (.getfield 11, 3) := by decide +kernel
theorem dX0_countInWeek_34 : decode cX0_countInWeek 34 = .ok (.iload 4, 2) := by decide +kernel
theorem dX0_countInWeek_36 : decode cX0_countInWeek 36 = .ok (.iconst 3, 1) := by decide +kernel
theorem dX0_countInWeek_37 : decode cX0_countInWeek 37 = .ok (.iadd, 1) := by decide +kernel
theorem dX0_countInWeek_38 : decode cX0_countInWeek 38 = .ok (.iaload, 1) := by decide +kernel
theorem dX0_countInWeek_39 : decode cX0_countInWeek 39 = .ok (.iload_n 1, 1) := by decide +kernel
theorem dX0_countInWeek_40 : decode cX0_countInWeek 40 = .ok (.if_icmp .ne 22, 3) := by decide +kernel
theorem dX0_countInWeek_43 : decode cX0_countInWeek 43 = .ok (.aload_n 0, 1) := by decide +kernel
theorem dX0_countInWeek_44 : decode cX0_countInWeek 44 = .ok (.getfield 11, 3) := by decide +kernel
theorem dX0_countInWeek_47 : decode cX0_countInWeek 47 = .ok (.iload 4, 2) := by decide +kernel
theorem dX0_countInWeek_49 : decode cX0_countInWeek 49 = .ok (.iconst 0, 1) := by decide +kernel
theorem dX0_countInWeek_50 : decode cX0_countInWeek 50 = .ok (.iadd, 1) := by decide +kernel
theorem dX0_countInWeek_51 : decode cX0_countInWeek 51 = .ok (.iaload, 1) := by decide +kernel
theorem dX0_countInWeek_52 : decode cX0_countInWeek 52 = .ok (.bipush 7, 2) := by decide +kernel
theorem dX0_countInWeek_54 : decode cX0_countInWeek 54 = .ok (.idiv, 1) := by decide +kernel
theorem dX0_countInWeek_55 : decode cX0_countInWeek 55 = .ok (.iload_n 2, 1) := by decide +kernel
theorem dX0_countInWeek_56 : decode cX0_countInWeek 56 = .ok (.if_icmp .ne 6, 3) := by decide +kernel
theorem dX0_countInWeek_59 : decode cX0_countInWeek 59 = .ok (.iinc 3 1, 3) := by decide +kernel
theorem dX0_countInWeek_62 : decode cX0_countInWeek 62 = .ok (.iinc 4 6, 3) := by decide +kernel
theorem dX0_countInWeek_65 : decode cX0_countInWeek 65 = .ok (.goto (-60), 3) := by decide +kernel
theorem dX0_countInWeek_68 : decode cX0_countInWeek 68 = .ok (.iload_n 3, 1) := by decide +kernel
theorem dX0_countInWeek_69 : decode cX0_countInWeek 69 = .ok (.ireturn, 1) := by decide +kernel
theorem dX0_valuesInHour_0 : decode cX0_valuesInHour 0 = .ok (.iload_n 1, 1) := by decide +kernel
theorem dX0_valuesInHour_1 : decode cX0_valuesInHour 1 = .ok (.ifCond .lt 9, 3) := by decide +kernel
theorem dX0_valuesInHour_4 : decode cX0_valuesInHour 4 = .ok (.iload_n 1, 1) := by decide +kernel
theorem dX0_valuesInHour_5 : decode cX0_valuesInHour 5 = .ok (.bipush 6, 2) := by decide +kernel
theorem dX0_valuesInHour_7 : decode cX0_valuesInHour 7 = .ok (.if_icmp .lt 5, 3) := by decide +kernel
theorem dX0_valuesInHour_12 : decode cX0_valuesInHour 12 = .ok (.iconst 0, 1) := by decide +kernel
theorem dX0_valuesInHour_13 : decode cX0_valuesInHour 13 = .ok (.istore 4, 2) := by decide +kernel
theorem dX0_valuesInHour_15 : decode cX0_valuesInHour 15 = .ok (.iconst 0, 1) := by decide +kernel
theorem dX0_valuesInHour_16 : decode cX0_valuesInHour 16 = .ok (.istore 5, 2) := by decide +kernel
theorem dX0_valuesInHour_18 : decode cX0_valuesInHour 18 = .ok (.iload 5, 2) := by decide +kernel
theorem dX0_valuesInHour_20 : decode cX0_valuesInHour 20 = .ok (.bipush 6, 2) := by decide +kernel
theorem dX0_valuesInHour_22 : decode cX0_valuesInHour 22 = .ok (.aload_n 0, 1) := by decide +kernel
theorem dX0_valuesInHour_23 : decode cX0_valuesInHour 23 = .ok (.getfield 15, 3) := by decide +kernel
theorem dX0_valuesInHour_26 : decode cX0_valuesInHour 26 = .ok (.imul, 1) := by decide +kernel
theorem dX0_valuesInHour_27 : decode cX0_valuesInHour 27 = .ok (.if_icmp .ge 64, 3) := by decide +kernel
theorem dX0_valuesInHour_30 : decode cX0_valuesInHour 30 = .ok (.iload 5, 2) := by decide +kernel
theorem dX0_valuesInHour_32 : decode cX0_valuesInHour 32 = .ok (.bipush 6, 2) := by decide +kernel
theorem dX0_valuesInHour_34 : decode cX0_valuesInHour 34 = .ok (.iadd, 1) := by decide +kernel
theorem dX0_valuesInHour_35 : decode cX0_valuesInHour 35 = .ok (.aload_n 0, 1) := by decide +kernel
theorem dX0_valuesInHour_36 : decode cX0_valuesInHour 36 = .ok (.getfield 11, 3) := by decide +kernel
theorem dX0_valuesInHour_39 : decode cX0_valuesInHour 39 = .ok (.arraylength, 1) := by decide +kernel
theorem dX0_valuesInHour_40 : decode cX0_valuesInHour 40 = .ok (.if_icmp .gt 51, 3) := by decide +kernel
theorem dX0_valuesInHour_43 : decode cX0_valuesInHour 43 = .ok (.aload_n 0, 1) := by decide +kernel
theorem dX0_valuesInHour_44 : decode cX0_valuesInHour 44 = .ok (.getfield 11, 3) := by decide +kernel
theorem dX0_valuesInHour_47 : decode cX0_valuesInHour 47 = .ok (.iload 5, 2) := by decide +kernel
theorem dX0_valuesInHour_49 : decode cX0_valuesInHour 49 = .ok (.iconst 0, 1) := by decide +kernel
theorem dX0_valuesInHour_50 : decode cX0_valuesInHour 50 = .ok (.iadd, 1) := by decide +kernel
theorem dX0_valuesInHour_51 : decode cX0_valuesInHour 51 = .ok (.iaload, 1) := by decide +kernel
theorem dX0_valuesInHour_52 : decode cX0_valuesInHour 52 = .ok (.iload_n 2, 1) := by decide +kernel
theorem dX0_valuesInHour_53 : decode cX0_valuesInHour 53 = .ok (.if_icmp .ne 32, 3) := by decide +kernel
theorem dX0_valuesInHour_56 : decode cX0_valuesInHour 56 = .ok (.aload_n 0, 1) := by decide +kernel
theorem dX0_valuesInHour_57 : decode cX0_valuesInHour 57 = .ok (.getfield 11, 3) := by decide +kernel
theorem dX0_valuesInHour_60 : decode cX0_valuesInHour 60 = .ok (.iload 5, 2) := by decide +kernel
theorem dX0_valuesInHour_62 : decode cX0_valuesInHour 62 = .ok (.iconst 1, 1) := by decide +kernel
theorem dX0_valuesInHour_63 : decode cX0_valuesInHour 63 = .ok (.iadd, 1) := by decide +kernel
theorem dX0_valuesInHour_64 : decode cX0_valuesInHour 64 = .ok (.iaload, 1) := by decide +kernel
theorem dX0_valuesInHour_65 : decode cX0_valuesInHour 65 = .ok (.iload_n 3, 1) := by decide +kernel
theorem dX0_valuesInHour_66 : decode cX0_valuesInHour 66 = .ok (.if_icmp .ne 19, 3) := by decide +kernel
theorem dX0_valuesInHour_69 : decode cX0_valuesInHour 69 = .ok (.iload 4, 2) := by decide +kernel
theorem dX0_valuesInHour_71 : decode cX0_valuesInHour 71 = .ok (.iconst 1, 1) := by decide +kernel
theorem dX0_valuesInHour_72 : decode cX0_valuesInHour 72 = .ok (.aload_n 0, 1) := by decide +kernel
theorem dX0_valuesInHour_73 : decode cX0_valuesInHour 73 = .ok (.getfield 11, 3) := by decide +kernel
theorem dX0_valuesInHour_76 : decode cX0_valuesInHour 76 = .ok (.iload 5, 2) := by decide +kernel
theorem dX0_valuesInHour_78 : decode cX0_valuesInHour 78 = .ok (.iload_n 1, 1) := by decide +kernel
theorem dX0_valuesInHour_79 : decode cX0_valuesInHour 79 = .ok (.iadd, 1) := by decide +kernel
theorem dX0_valuesInHour_80 : decode cX0_valuesInHour 80 = .ok (.iaload, 1) := by decide +kernel
theorem dX0_valuesInHour_81 : decode cX0_valuesInHour 81 = .ok (.ishl, 1) := by decide +kernel
theorem dX0_valuesInHour_82 : decode cX0_valuesInHour 82 = .ok (.ior, 1) := by decide +kernel
theorem dX0_valuesInHour_83 : decode cX0_valuesInHour 83 = .ok (.istore 4, 2) := by decide +kernel
theorem dX0_valuesInHour_85 : decode cX0_valuesInHour 85 = .ok (.iinc 5 6, 3) := by decide +kernel
theorem dX0_valuesInHour_88 : decode cX0_valuesInHour 88 = .ok (.goto (-70), 3) := by decide +kernel
theorem dX0_valuesInHour_91 : decode cX0_valuesInHour 91 = .ok (.iload 4, 2) := by decide +kernel
theorem dX0_valuesInHour_93 : decode cX0_valuesInHour 93 = .ok (.ireturn, 1) := by decide +kernel
set_option maxRecDepth 20000 in
theorem ggX1_init_X2_init : GoodIn wsX1_init wsX2_init := goodIn_r _ [9, 10, 2, 3, 11, 12, 13, 14, 15, 16, 17, 18, 19, 20, 21, 22, 23, 24, 25, 26, 27, 28, 29, 30, 31, 32, 33, 34, 35, 36, 37, 38, 39, 40, 41, 42, 43, 44, 48, 49, 50, 51, 52, 53, 54, 55, 56, 57, 58, 59, 60, 61, 62, 63, 64, 65, 66] (by decide +kernel) (by decide +kernel)
set_option maxRecDepth 20000 in
theorem gX1_init_X2_init_n15 : GoodIn wsX1_init (wsX2_init) := ggX1_init_X2_init
theorem dX1_init_0 : decode cX1_init 0 = .ok (.aload_n 0, 1) := by decide +kernel
theorem dX1_init_1 : decode cX1_init 1 = .ok (.invokespecial 3, 3) := by decide +kernel
theorem dX1_init_4 : decode cX1_init 4 = .ok (.aload_n 0, 1) := by decide +kernel
theorem dX1_init_5 : decode cX1_init 5 = .ok (.bipush 15, 2) := by decide +kernel
theorem dX1_init_7 : decode cX1_init 7 = .ok (.anewarray 9, 3) := by decide +kernel
theorem dX1_init_10 : decode cX1_init 10 = .ok (.putfield 11, 3) := by decide +kernel
theorem dX1_init_13 : decode cX1_init 13 = .ok (.iconst 0, 1) := by decide +kernel
theorem dX1_init_14 : decode cX1_init 14 = .ok (.istore_n 1, 1) := by decide +kernel
theorem dX1_init_15 : decode cX1_init 15 = .ok (.iload_n 1, 1) := by decide +kernel
theorem dX1_init_16 : decode cX1_init 16 = .ok (.bipush 15, 2) := by decide +kernel
theorem dX1_init_18 : decode cX1_init 18 = .ok (.if_icmp .ge 22, 3) := by decide +kernel
theorem dX1_init_21 : decode cX1_init 21 = .ok (.aload_n 0, 1) := by decide +kernel
theorem dX1_init_22 : decode cX1_init 22 = .ok (.getfield 11, 3) := by decide +kernel
theorem dX1_init_25 : decode cX1_init 25 = .ok (.iload_n 1, 1) := by decide +kernel
theorem dX1_init_26 : decode cX1_init 26 = .ok (.new 9, 3) := by decide +kernel
theorem dX1_init_29 : decode cX1_init 29 = .ok (.dup, 1) := by decide +kernel
theorem dX1_init_30 : decode cX1_init 30 = .ok (.invokespecial 15, 3) := by decide +kernel
theorem dX1_init_33 : decode cX1_init 33 = .ok (.aastore, 1) := by decide +kernel
theorem dX1_init_34 : decode cX1_init 34 = .ok (.iinc 1 1, 3) := by decide +kernel
theorem dX1_init_37 : decode cX1_init 37 = .ok (.goto (-22), 3) := by decide +kernel
theorem dX1_init_40 : decode cX1_init 40 = .ok (.return_, 1) := by decide +kernel
set_option maxRecDepth 20000 in
theorem ggX1_prepare_X1_rowAt : GoodIn wsX1_prepare wsX1_rowAt := goodIn_r _ [6, 7, 48, 49, 50] (by decide +kernel) (by decide +kernel)
set_option maxRecDepth 20000 in
theorem gX1_prepare_X1_rowAt : GoodIn wsX1_prepare (wsV RX1 20 RX1 yX1_rowAt wsX1_rowAt) := goodIn_app (goodIn_of _ (by decide +kernel)) ggX1_prepare_X1_rowAt
set_option maxRecDepth 20000 in
theorem ggX1_prepare_X2_copyFrom : GoodIn wsX1_prepare wsX2_copyFrom := goodIn_r _ [12, 13, 14, 15, 16, 17, 18, 19, 20, 21, 22, 23, 24, 25, 26, 27, 28, 29, 30, 31, 32, 33, 34, 35, 36, 37, 38, 39, 40, 41, 42, 43, 44, 45, 46, 47, 51, 52, 53, 54, 55, 56, 57, 58, 59, 60, 61, 62, 63, 64, 65, 66, 67, 68, 69] (by decide +kernel) (by decide +kernel)
set_option maxRecDepth 20000 in
theorem gX1_prepare_X2_copyFrom : GoodIn wsX1_prepare (wsV RX1 24 RX2 yX2_copyFrom wsX2_copyFrom) := goodIn_app (goodIn_of _ (by decide +kernel)) ggX1_prepare_X2_copyFrom
theorem dX1_prepare_0 : decode cX1_prepare 0 = .ok (.aload_n 0, 1) := by decide +kernel
theorem dX1_prepare_1 : decode cX1_prepare 1 = .ok (.aload_n 0, 1) := by decide +kernel
theorem dX1_prepare_2 : decode cX1_prepare 2 = .ok (.getfield 16, 3) := by decide +kernel
theorem dX1_prepare_5 : decode cX1_prepare 5 = .ok (.invokevirtual 20, 3) := by decide +kernel
theorem dX1_prepare_8 : decode cX1_prepare 8 = .ok (.astore_n 2, 1) := by decide +kernel
theorem dX1_prepare_9 : decode cX1_prepare 9 = .ok (.aload_n 2, 1) := by decide +kernel
theorem dX1_prepare_10 : decode cX1_prepare 10 = .ok (.ifnull 8, 3) := by decide +kernel
theorem dX1_prepare_13 : decode cX1_prepare 13 = .ok (.aload_n 2, 1) := by decide +kernel
theorem dX1_prepare_14 : decode cX1_prepare 14 = .ok (.aload_n 1, 1) := by decide +kernel
theorem dX1_prepare_15 : decode cX1_prepare 15 = .ok (.invokevirtual 24, 3) := by decide +kernel
theorem dX1_prepare_18 : decode cX1_prepare 18 = .ok (.return_, 1) := by decide +kernel
theorem dX1_keepPrepared_0 : decode cX1_keepPrepared 0 = .ok (.aload_n 0, 1) := by decide +kernel
theorem dX1_keepPrepared_1 : decode cX1_keepPrepared 1 = .ok (.aload_n 0, 1) := by decide +kernel
theorem dX1_keepPrepared_2 : decode cX1_keepPrepared 2 = .ok (.getfield 16, 3) := by decide +kernel
theorem dX1_keepPrepared_5 : decode cX1_keepPrepared 5 = .ok (.iconst 1, 1) := by decide +kernel
theorem dX1_keepPrepared_6 : decode cX1_keepPrepared 6 = .ok (.iadd, 1) := by decide +kernel
theorem dX1_keepPrepared_7 : decode cX1_keepPrepared 7 = .ok (.bipush 15, 2) := by decide +kernel
theorem dX1_keepPrepared_9 : decode cX1_keepPrepared 9 = .ok (.irem, 1) := by decide +kernel
theorem dX1_keepPrepared_10 : decode cX1_keepPrepared 10 = .ok (.putfield 16, 3) := by decide +kernel
theorem dX1_keepPrepared_13 : decode cX1_keepPrepared 13 = .ok (.aload_n 0, 1) := by decide +kernel
theorem dX1_keepPrepared_14 : decode cX1_keepPrepared 14 = .ok (.aload_n 0, 1) := by decide +kernel
theorem dX1_keepPrepared_15 : decode cX1_keepPrepared 15 = .ok (.getfield 28, 3) := by decide +kernel
theorem dX1_keepPrepared_18 : decode cX1_keepPrepared 18 = .ok (.iconst 1, 1) := by decide +kernel
theorem dX1_keepPrepared_19 : decode cX1_keepPrepared 19 = .ok (.iadd, 1) := by decide +kernel
theorem dX1_keepPrepared_20 : decode cX1_keepPrepared 20 = .ok (.bipush 14, 2) := by decide +kernel
theorem dX1_keepPrepared_22 : decode cX1_keepPrepared 22 = .ok (.invokestatic 31, 3) := by decide +kernel
theorem dX1_keepPrepared_25 : decode cX1_keepPrepared 25 = .ok (.putfield 28, 3) := by decide +kernel
theorem dX1_keepPrepared_28 : decode cX1_keepPrepared 28 = .ok (.return_, 1) := by decide +kernel
set_option maxRecDepth 20000 in
theorem ggX1_takeBack_X1_rowAt : GoodIn wsX1_takeBack wsX1_rowAt := goodIn_r _ [7, 8, 49, 50, 51] (by decide +kernel) (by decide +kernel)
set_option maxRecDepth 20000 in
theorem gX1_takeBack_X1_rowAt : GoodIn wsX1_takeBack (wsV RX1 20 RX1 yX1_rowAt wsX1_rowAt) := goodIn_app (goodIn_of _ (by decide +kernel)) ggX1_takeBack_X1_rowAt
set_option maxRecDepth 20000 in
theorem ggX1_takeBack_X2_copyFrom : GoodIn wsX1_takeBack wsX2_copyFrom := goodIn_r _ [13, 14, 15, 16, 17, 18, 19, 20, 21, 22, 23, 24, 25, 26, 27, 28, 29, 30, 31, 32, 33, 34, 35, 36, 37, 38, 39, 40, 41, 42, 43, 44, 45, 46, 47, 48, 52, 53, 54, 55, 56, 57, 58, 59, 60, 61, 62, 63, 64, 65, 66, 67, 68, 69, 70] (by decide +kernel) (by decide +kernel)
set_option maxRecDepth 20000 in
theorem gX1_takeBack_X2_copyFrom : GoodIn wsX1_takeBack (wsV RX1 24 RX2 yX2_copyFrom wsX2_copyFrom) := goodIn_app (goodIn_of _ (by decide +kernel)) ggX1_takeBack_X2_copyFrom
theorem dX1_takeBack_0 : decode cX1_takeBack 0 = .ok (.aload_n 0, 1) := by decide +kernel
theorem dX1_takeBack_1 : decode cX1_takeBack 1 = .ok (.getfield 16, 3) := by decide +kernel
theorem dX1_takeBack_4 : decode cX1_takeBack 4 = .ok (.bipush 14, 2) := by decide +kernel
theorem dX1_takeBack_6 : decode cX1_takeBack 6 = .ok (.iadd, 1) := by decide +kernel
theorem dX1_takeBack_7 : decode cX1_takeBack 7 = .ok (.bipush 15, 2) := by decide +kernel
theorem dX1_takeBack_9 : decode cX1_takeBack 9 = .ok (.irem, 1) := by decide +kernel
theorem dX1_takeBack_10 : decode cX1_takeBack 10 = .ok (.istore_n 2, 1) := by decide +kernel
theorem dX1_takeBack_11 : decode cX1_takeBack 11 = .ok (.aload_n 0, 1) := by decide +kernel
theorem dX1_takeBack_12 : decode cX1_takeBack 12 = .ok (.iload_n 2, 1) := by decide +kernel
theorem dX1_takeBack_13 : decode cX1_takeBack 13 = .ok (.invokevirtual 20, 3) := by decide +kernel
theorem dX1_takeBack_16 : decode cX1_takeBack 16 = .ok (.astore_n 3, 1) := by decide +kernel
theorem dX1_takeBack_17 : decode cX1_takeBack 17 = .ok (.aload_n 3, 1) := by decide +kernel
theorem dX1_takeBack_18 : decode cX1_takeBack 18 = .ok (.ifnull 30, 3) := by decide +kernel
theorem dX1_takeBack_21 : decode cX1_takeBack 21 = .ok (.aload_n 0, 1) := by decide +kernel
theorem dX1_takeBack_22 : decode cX1_takeBack 22 = .ok (.getfield 28, 3) := by decide +kernel
theorem dX1_takeBack_25 : decode cX1_takeBack 25 = .ok (.ifCond .le 23, 3) := by decide +kernel
theorem dX1_takeBack_28 : decode cX1_takeBack 28 = .ok (.aload_n 1, 1) := by decide +kernel
theorem dX1_takeBack_29 : decode cX1_takeBack 29 = .ok (.aload_n 3, 1) := by decide +kernel
theorem dX1_takeBack_30 : decode cX1_takeBack 30 = .ok (.invokevirtual 24, 3) := by decide +kernel
theorem dX1_takeBack_33 : decode cX1_takeBack 33 = .ok (.aload_n 0, 1) := by decide +kernel
theorem dX1_takeBack_34 : decode cX1_takeBack 34 = .ok (.iload_n 2, 1) := by decide +kernel
theorem dX1_takeBack_35 : decode cX1_takeBack 35 = .ok (.putfield 16, 3) := by decide +kernel
theorem dX1_takeBack_38 : decode cX1_takeBack 38 = .ok (.aload_n 0, 1) := by decide +kernel
theorem dX1_takeBack_39 : decode cX1_takeBack 39 = .ok (.dup, 1) := by decide +kernel
theorem dX1_takeBack_40 : decode cX1_takeBack 40 = .ok (.getfield 28, 3) := by decide +kernel
theorem dX1_takeBack_43 : decode cX1_takeBack 43 = .ok (.iconst 1, 1) := by decide +kernel
theorem dX1_takeBack_44 : decode cX1_takeBack 44 = .ok (.isub, 1) := by decide +kernel
theorem dX1_takeBack_45 : decode cX1_takeBack 45 = .ok (.putfield 28, 3) := by decide +kernel
theorem dX1_takeBack_48 : decode cX1_takeBack 48 = .ok (.return_, 1) := by decide +kernel
theorem dX1_forget_0 : decode cX1_forget 0 = .ok (.aload_n 0, 1) := by decide +kernel
theorem dX1_forget_1 : decode cX1_forget 1 = .ok (.iconst 0, 1) := by decide +kernel
theorem dX1_forget_2 : decode cX1_forget 2 = .ok (.putfield 28, 3) := by decide +kernel
theorem dX1_forget_5 : decode cX1_forget 5 = .ok (.return_, 1) := by decide +kernel
theorem dX1_rowAt_0 : decode cX1_rowAt 0 = .ok (.iload_n 1, 1) := by decide +kernel
theorem dX1_rowAt_1 : decode cX1_rowAt 1 = .ok (.ifCond .lt 18, 3) := by decide +kernel
theorem dX1_rowAt_4 : decode cX1_rowAt 4 = .ok (.iload_n 1, 1) := by decide +kernel
theorem dX1_rowAt_5 : decode cX1_rowAt 5 = .ok (.bipush 15, 2) := by decide +kernel
theorem dX1_rowAt_7 : decode cX1_rowAt 7 = .ok (.if_icmp .ge 12, 3) := by decide +kernel
theorem dX1_rowAt_10 : decode cX1_rowAt 10 = .ok (.aload_n 0, 1) := by decide +kernel
theorem dX1_rowAt_11 : decode cX1_rowAt 11 = .ok (.getfield 11, 3) := by decide +kernel
theorem dX1_rowAt_14 : decode cX1_rowAt 14 = .ok (.iload_n 1, 1) := by decide +kernel
theorem dX1_rowAt_15 : decode cX1_rowAt 15 = .ok (.aaload, 1) := by decide +kernel
theorem dX1_rowAt_16 : decode cX1_rowAt 16 = .ok (.goto 4, 3) := by decide +kernel
theorem dX1_rowAt_20 : decode cX1_rowAt 20 = .ok (.areturn, 1) := by decide +kernel
set_option maxRecDepth 20000 in
theorem ggX2_init_X0_init : GoodIn wsX2_init wsX0_init := goodIn_r _ [31, 32, 2, 3, 4, 33, 53, 54] (by decide +kernel) (by decide +kernel)
set_option maxRecDepth 20000 in
theorem gX2_init_X0_init_n38 : GoodIn wsX2_init (wsX0_init) := ggX2_init_X0_init
set_option maxRecDepth 20000 in
theorem ggX2_init_X6_init : GoodIn wsX2_init wsX6_init := goodIn_r _ [35, 36, 2, 3, 4, 37, 55, 56] (by decide +kernel) (by decide +kernel)
set_option maxRecDepth 20000 in
theorem gX2_init_X6_init_n45 : GoodIn wsX2_init (wsX6_init) := ggX2_init_X6_init
theorem dX2_init_0 : decode cX2_init 0 = .ok (.aload_n 0, 1) := by decide +kernel
theorem dX2_init_1 : decode cX2_init 1 = .ok (.invokespecial 3, 3) := by decide +kernel
theorem dX2_init_4 : decode cX2_init 4 = .ok (.aload_n 0, 1) := by decide +kernel
theorem dX2_init_5 : decode cX2_init 5 = .ok (.bipush 8, 2) := by decide +kernel
theorem dX2_init_7 : decode cX2_init 7 = .ok (.newarray .int, 2) := by decide +kernel
theorem dX2_init_9 : decode cX2_init 9 = .ok (.putfield 11, 3) := by decide +kernel
theorem dX2_init_12 : decode cX2_init 12 = .ok (.aload_n 0, 1) := by decide +kernel
theorem dX2_init_13 : decode cX2_init 13 = .ok (.bipush 8, 2) := by decide +kernel
theorem dX2_init_15 : decode cX2_init 15 = .ok (.newarray .int, 2) := by decide +kernel
theorem dX2_init_17 : decode cX2_init 17 = .ok (.putfield 15, 3) := by decide +kernel
theorem dX2_init_20 : decode cX2_init 20 = .ok (.aload_n 0, 1) := by decide +kernel
theorem dX2_init_21 : decode cX2_init 21 = .ok (.bipush 8, 2) := by decide +kernel
theorem dX2_init_23 : decode cX2_init 23 = .ok (.newarray .int, 2) := by decide +kernel
theorem dX2_init_25 : decode cX2_init 25 = .ok (.putfield 18, 3) := by decide +kernel
theorem dX2_init_28 : decode cX2_init 28 = .ok (.aload_n 0, 1) := by decide +kernel
theorem dX2_init_29 : decode cX2_init 29 = .ok (.bipush 8, 2) := by decide +kernel
theorem dX2_init_31 : decode cX2_init 31 = .ok (.newarray .int, 2) := by decide +kernel
theorem dX2_init_33 : decode cX2_init 33 = .ok (.putfield 21, 3) := by decide +kernel
theorem dX2_init_36 : decode cX2_init 36 = .ok (.aload_n 0, 1) := by decide +kernel
theorem dX2_init_37 : decode cX2_init 37 = .ok (.bipush 8, 2) := by decide +kernel
theorem dX2_init_39 : decode cX2_init 39 = .ok (.newarray .int, 2) := by decide +kernel
theorem dX2_init_41 : decode cX2_init 41 = .ok (.putfield 24, 3) := by decide +kernel
theorem dX2_init_44 : decode cX2_init 44 = .ok (.aload_n 0, 1) := by decide +kernel
theorem dX2_init_45 : decode cX2_init 45 = .ok (.bipush 8, 2) := by decide +kernel
theorem dX2_init_47 : decode cX2_init 47 = .ok (.newarray .int, 2) := by decide +kernel
theorem dX2_init_49 : decode cX2_init 49 = .ok (.putfield 27, 3) := by decide +kernel
theorem dX2_init_52 : decode cX2_init 52 = .ok (.aload_n 0, 1) := by decide +kernel
theorem dX2_init_53 : decode cX2_init 53 = .ok (.bipush 10, 2) := by decide +kernel
theorem dX2_init_55 : decode cX2_init 55 = .ok (.newarray .int, 2) := by decide +kernel
theorem dX2_init_57 : decode cX2_init 57 = .ok (.putfield 30, 3) := by decide +kernel
theorem dX2_init_60 : decode cX2_init 60 = .ok (.aload_n 0, 1) := by decide +kernel
theorem dX2_init_61 : decode cX2_init 61 = .ok (.bipush 10, 2) := by decide +kernel
theorem dX2_init_63 : decode cX2_init 63 = .ok (.newarray .int, 2) := by decide +kernel
theorem dX2_init_65 : decode cX2_init 65 = .ok (.putfield 33, 3) := by decide +kernel
theorem dX2_init_68 : decode cX2_init 68 = .ok (.aload_n 0, 1) := by decide +kernel
theorem dX2_init_69 : decode cX2_init 69 = .ok (.new 36, 3) := by decide +kernel
theorem dX2_init_72 : decode cX2_init 72 = .ok (.dup, 1) := by decide +kernel
theorem dX2_init_73 : decode cX2_init 73 = .ok (.invokespecial 38, 3) := by decide +kernel
theorem dX2_init_76 : decode cX2_init 76 = .ok (.putfield 39, 3) := by decide +kernel
theorem dX2_init_79 : decode cX2_init 79 = .ok (.aload_n 0, 1) := by decide +kernel
theorem dX2_init_80 : decode cX2_init 80 = .ok (.new 43, 3) := by decide +kernel
theorem dX2_init_83 : decode cX2_init 83 = .ok (.dup, 1) := by decide +kernel
theorem dX2_init_84 : decode cX2_init 84 = .ok (.invokespecial 45, 3) := by decide +kernel
theorem dX2_init_87 : decode cX2_init 87 = .ok (.putfield 46, 3) := by decide +kernel
theorem dX2_init_90 : decode cX2_init 90 = .ok (.aload_n 0, 1) := by decide +kernel
theorem dX2_init_91 : decode cX2_init 91 = .ok (.iconst 5, 1) := by decide +kernel
theorem dX2_init_92 : decode cX2_init 92 = .ok (.newarray .int, 2) := by decide +kernel
theorem dX2_init_94 : decode cX2_init 94 = .ok (.putfield 50, 3) := by decide +kernel
theorem dX2_init_97 : decode cX2_init 97 = .ok (.aload_n 0, 1) := by decide +kernel
theorem dX2_init_98 : decode cX2_init 98 = .ok (.getstatic 53, 3) := by decide +kernel
theorem dX2_init_101 : decode cX2_init 101 = .ok (.invokevirtual 56, 3) := by decide +kernel
theorem dX2_init_104 : decode cX2_init 104 = .ok (.checkcast 57, 3) := by decide +kernel
theorem dX2_init_107 : decode cX2_init 107 = .ok (.putfield 61, 3) := by decide +kernel
theorem dX2_init_110 : decode cX2_init 110 = .ok (.return_, 1) := by decide +kernel
set_option maxRecDepth 20000 in
theorem ggX2_copyFrom_X0_copyFrom : GoodIn wsX2_copyFrom wsX0_copyFrom := goodIn_r _ [24, 25, 26, 27, 5, 6, 7, 51, 52] (by decide +kernel) (by decide +kernel)
set_option maxRecDepth 20000 in
theorem gX2_copyFrom_X0_copyFrom : GoodIn wsX2_copyFrom (wsV RX2 80 RX0 yX0_copyFrom wsX0_copyFrom) := goodIn_app (goodIn_of _ (by decide +kernel)) ggX2_copyFrom_X0_copyFrom
set_option maxRecDepth 20000 in
theorem ggX2_copyFrom_X6_copyFrom : GoodIn wsX2_copyFrom wsX6_copyFrom := goodIn_r _ [32, 33, 34, 35, 5, 6, 7, 53, 54] (by decide +kernel) (by decide +kernel)
set_option maxRecDepth 20000 in
theorem gX2_copyFrom_X6_copyFrom : GoodIn wsX2_copyFrom (wsV RX2 84 RX6 yX6_copyFrom wsX6_copyFrom) := goodIn_app (goodIn_of _ (by decide +kernel)) ggX2_copyFrom_X6_copyFrom
theorem dX2_copyFrom_0 : decode cX2_copyFrom 0 = .ok (.aload_n 0, 1) := by decide +kernel
theorem dX2_copyFrom_1 : decode cX2_copyFrom 1 = .ok (.aload_n 1, 1) := by decide +kernel
theorem dX2_copyFrom_2 : decode cX2_copyFrom 2 = .ok (.getfield 64, 3) := by decide +kernel
theorem dX2_copyFrom_5 : decode cX2_copyFrom 5 = .ok (.putfield 64, 3) := by decide +kernel
theorem dX2_copyFrom_8 : decode cX2_copyFrom 8 = .ok (.aload_n 0, 1) := by decide +kernel
theorem dX2_copyFrom_9 : decode cX2_copyFrom 9 = .ok (.aload_n 1, 1) := by decide +kernel
theorem dX2_copyFrom_10 : decode cX2_copyFrom 10 = .ok (.getfield 68, 3) := by decide +kernel
theorem dX2_copyFrom_13 : decode cX2_copyFrom 13 = .ok (.putfield 68, 3) := by decide +kernel
theorem dX2_copyFrom_16 : decode cX2_copyFrom 16 = .ok (.aload_n 1, 1) := by decide +kernel
theorem dX2_copyFrom_17 : decode cX2_copyFrom 17 = .ok (.getfield 11, 3) := by decide +kernel
theorem dX2_copyFrom_20 : decode cX2_copyFrom 20 = .ok (.iconst 0, 1) := by decide +kernel
theorem dX2_copyFrom_21 : decode cX2_copyFrom 21 = .ok (.aload_n 0, 1) := by decide +kernel
theorem dX2_copyFrom_22 : decode cX2_copyFrom 22 = .ok (.getfield 11, 3) := by decide +kernel
theorem dX2_copyFrom_25 : decode cX2_copyFrom 25 = .ok (.iconst 0, 1) := by decide +kernel
theorem dX2_copyFrom_26 : decode cX2_copyFrom 26 = .ok (.bipush 8, 2) := by decide +kernel
theorem dX2_copyFrom_28 : decode cX2_copyFrom 28 = .ok (.invokestatic 71, 3) := by decide +kernel
theorem dX2_copyFrom_31 : decode cX2_copyFrom 31 = .ok (.aload_n 1, 1) := by decide +kernel
theorem dX2_copyFrom_32 : decode cX2_copyFrom 32 = .ok (.getfield 15, 3) := by decide +kernel
theorem dX2_copyFrom_35 : decode cX2_copyFrom 35 = .ok (.iconst 0, 1) := by decide +kernel
theorem dX2_copyFrom_36 : decode cX2_copyFrom 36 = .ok (.aload_n 0, 1) := by decide +kernel
theorem dX2_copyFrom_37 : decode cX2_copyFrom 37 = .ok (.getfield 15, 3) := by decide +kernel
theorem dX2_copyFrom_40 : decode cX2_copyFrom 40 = .ok (.iconst 0, 1) := by decide +kernel
theorem dX2_copyFrom_41 : decode cX2_copyFrom 41 = .ok (.bipush 8, 2) := by decide +kernel
theorem dX2_copyFrom_43 : decode cX2_copyFrom 43 = .ok (.invokestatic 71, 3) := by decide +kernel
theorem dX2_copyFrom_46 : decode cX2_copyFrom 46 = .ok (.aload_n 1, 1) := by decide +kernel
theorem dX2_copyFrom_47 : decode cX2_copyFrom 47 = .ok (.getfield 18, 3) := by decide +kernel
theorem dX2_copyFrom_50 : decode cX2_copyFrom 50 = .ok (.iconst 0, 1) := by decide +kernel
theorem dX2_copyFrom_51 : decode cX2_copyFrom 51 = .ok (.aload_n 0, 1) := by decide +kernel
theorem dX2_copyFrom_52 : decode cX2_copyFrom 52 = .ok (.getfield 18, 3) := by decide +kernel
theorem dX2_copyFrom_55 : decode cX2_copyFrom 55 = .ok (.iconst 0, 1) := by decide +kernel
theorem dX2_copyFrom_56 : decode cX2_copyFrom 56 = .ok (.bipush 8, 2) := by decide +kernel
theorem dX2_copyFrom_58 : decode cX2_copyFrom 58 = .ok (.invokestatic 71, 3) := by decide +kernel
theorem dX2_copyFrom_61 : decode cX2_copyFrom 61 = .ok (.aload_n 1, 1) := by decide +kernel
theorem dX2_copyFrom_62 : decode cX2_copyFrom 62 = .ok (.getfield 21, 3) := by decide +kernel
theorem dX2_copyFrom_65 : decode cX2_copyFrom 65 = .ok (.iconst 0, 1) := by decide +kernel
theorem dX2_copyFrom_66 : decode cX2_copyFrom 66 = .ok (.aload_n 0, 1) := by decide +kernel
theorem dX2_copyFrom_67 : decode cX2_copyFrom 67 = .ok (.getfield 21, 3) := by decide +kernel
theorem dX2_copyFrom_70 : decode cX2_copyFrom 70 = .ok (.iconst 0, 1) := by decide +kernel
theorem dX2_copyFrom_71 : decode cX2_copyFrom 71 = .ok (.bipush 8, 2) := by decide +kernel
theorem dX2_copyFrom_73 : decode cX2_copyFrom 73 = .ok (.invokestatic 71, 3) := by decide +kernel
theorem dX2_copyFrom_76 : decode cX2_copyFrom 76 = .ok (.aload_n 1, 1) := by decide +kernel
theorem dX2_copyFrom_77 : decode cX2_copyFrom 77 = .ok (.getfield 24, 3) := by decide +kernel
theorem dX2_copyFrom_80 : decode cX2_copyFrom 80 = .ok (.iconst 0, 1) := by decide +kernel
theorem dX2_copyFrom_81 : decode cX2_copyFrom 81 = .ok (.aload_n 0, 1) := by decide +kernel
theorem dX2_copyFrom_82 : decode cX2_copyFrom 82 = .ok (.getfield 24, 3) := by decide +kernel
theorem dX2_copyFrom_85 : decode cX2_copyFrom 85 = .ok (.iconst 0, 1) := by decide +kernel
theorem dX2_copyFrom_86 : decode cX2_copyFrom 86 = .ok (.bipush 8, 2) := by decide +kernel
theorem dX2_copyFrom_88 : decode cX2_copyFrom 88 = .ok (.invokestatic 71, 3) := by decide +kernel
theorem dX2_copyFrom_91 : decode cX2_copyFrom 91 = .ok (.aload_n 1, 1) := by decide +kernel
theorem dX2_copyFrom_92 : decode cX2_copyFrom 92 = .ok (.getfield 27, 3) := by decide +kernel
theorem dX2_copyFrom_95 : decode cX2_copyFrom 95 = .ok (.iconst 0, 1) := by decide +kernel
theorem dX2_copyFrom_96 : decode cX2_copyFrom 96 = .ok (.aload_n 0, 1) := by decide +kernel
theorem dX2_copyFrom_97 : decode cX2_copyFrom 97 = .ok (.getfield 27, 3) := by decide +kernel
theorem dX2_copyFrom_100 : decode cX2_copyFrom 100 = .ok (.iconst 0, 1) := by decide +kernel
theorem dX2_copyFrom_101 : decode cX2_copyFrom 101 = .ok (.bipush 8, 2) := by decide +kernel
theorem dX2_copyFrom_103 : decode cX2_copyFrom 103 = .ok (.invokestatic 71, 3) := by decide +kernel
theorem dX2_copyFrom_106 : decode cX2_copyFrom 106 = .ok (.aload_n 1, 1) := by decide +kernel
theorem dX2_copyFrom_107 : decode cX2_copyFrom 107 = .ok (.getfield 30, 3) := by decide +kernel
theorem dX2_copyFrom_110 : decode cX2_copyFrom 110 = .ok (.iconst 0, 1) := by decide +kernel
theorem dX2_copyFrom_111 : decode cX2_copyFrom 111 = .ok (.aload_n 0, 1) := by decide +kernel
theorem dX2_copyFrom_112 : decode cX2_copyFrom 112 = .ok (.getfield 30, 3) := by decide +kernel
theorem dX2_copyFrom_115 : decode cX2_copyFrom 115 = .ok (.iconst 0, 1) := by decide +kernel
theorem dX2_copyFrom_116 : decode cX2_copyFrom 116 = .ok (.bipush 10, 2) := by decide +kernel
theorem dX2_copyFrom_118 : decode cX2_copyFrom 118 = .ok (.invokestatic 71, 3) := by decide +kernel
theorem dX2_copyFrom_121 : decode cX2_copyFrom 121 = .ok (.aload_n 1, 1) := by decide +kernel
theorem dX2_copyFrom_122 : decode cX2_copyFrom 122 = .ok (.getfield 33, 3) := by decide +kernel
theorem dX2_copyFrom_125 : decode cX2_copyFrom 125 = .ok (.iconst 0, 1) := by decide +kernel
theorem dX2_copyFrom_126 : decode cX2_copyFrom 126 = .ok (.aload_n 0, 1) := by decide +kernel
theorem dX2_copyFrom_127 : decode cX2_copyFrom 127 = .ok (.getfield 33, 3) := by decide +kernel
theorem dX2_copyFrom_130 : decode cX2_copyFrom 130 = .ok (.iconst 0, 1) := by decide +kernel
theorem dX2_copyFrom_131 : decode cX2_copyFrom 131 = .ok (.bipush 10, 2) := by decide +kernel
theorem dX2_copyFrom_133 : decode cX2_copyFrom 133 = .ok (.invokestatic 71, 3) := by decide +kernel
theorem dX2_copyFrom_136 : decode cX2_copyFrom 136 = .ok (.aload_n 0, 1) := by decide +kernel
theorem dX2_copyFrom_137 : decode cX2_copyFrom 137 = .ok (.aload_n 1, 1) := by decide +kernel
theorem dX2_copyFrom_138 : decode cX2_copyFrom 138 = .ok (.getfield 77, 3) := by decide +kernel
theorem dX2_copyFrom_141 : decode cX2_copyFrom 141 = .ok (.putfield 77, 3) := by decide +kernel
theorem dX2_copyFrom_144 : decode cX2_copyFrom 144 = .ok (.aload_n 0, 1) := by decide +kernel
theorem dX2_copyFrom_145 : decode cX2_copyFrom 145 = .ok (.getfield 39, 3) := by decide +kernel
theorem dX2_copyFrom_148 : decode cX2_copyFrom 148 = .ok (.aload_n 1, 1) := by decide +kernel
theorem dX2_copyFrom_149 : decode cX2_copyFrom 149 = .ok (.getfield 39, 3) := by decide +kernel
theorem dX2_copyFrom_152 : decode cX2_copyFrom 152 = .ok (.invokevirtual 80, 3) := by decide +kernel
theorem dX2_copyFrom_155 : decode cX2_copyFrom 155 = .ok (.aload_n 0, 1) := by decide +kernel
theorem dX2_copyFrom_156 : decode cX2_copyFrom 156 = .ok (.getfield 46, 3) := by decide +kernel
theorem dX2_copyFrom_159 : decode cX2_copyFrom 159 = .ok (.aload_n 1, 1) := by decide +kernel
theorem dX2_copyFrom_160 : decode cX2_copyFrom 160 = .ok (.getfield 46, 3) := by decide +kernel
theorem dX2_copyFrom_163 : decode cX2_copyFrom 163 = .ok (.invokevirtual 84, 3) := by decide +kernel
theorem dX2_copyFrom_166 : decode cX2_copyFrom 166 = .ok (.aload_n 1, 1) := by decide +kernel
theorem dX2_copyFrom_167 : decode cX2_copyFrom 167 = .ok (.getfield 50, 3) := by decide +kernel
theorem dX2_copyFrom_170 : decode cX2_copyFrom 170 = .ok (.iconst 0, 1) := by decide +kernel
theorem dX2_copyFrom_171 : decode cX2_copyFrom 171 = .ok (.aload_n 0, 1) := by decide +kernel
theorem dX2_copyFrom_172 : decode cX2_copyFrom 172 = .ok (.getfield 50, 3) := by decide +kernel
theorem dX2_copyFrom_175 : decode cX2_copyFrom 175 = .ok (.iconst 0, 1) := by decide +kernel
theorem dX2_copyFrom_176 : decode cX2_copyFrom 176 = .ok (.aload_n 0, 1) := by decide +kernel
theorem dX2_copyFrom_177 : decode cX2_copyFrom 177 = .ok (.getfield 50, 3) := by decide +kernel
theorem dX2_copyFrom_180 : decode cX2_copyFrom 180 = .ok (.arraylength, 1) := by decide +kernel
theorem dX2_copyFrom_181 : decode cX2_copyFrom 181 = .ok (.invokestatic 71, 3) := by decide +kernel
theorem dX2_copyFrom_184 : decode cX2_copyFrom 184 = .ok (.aload_n 1, 1) := by decide +kernel
theorem dX2_copyFrom_185 : decode cX2_copyFrom 185 = .ok (.getfield 61, 3) := by decide +kernel
theorem dX2_copyFrom_188 : decode cX2_copyFrom 188 = .ok (.iconst 0, 1) := by decide +kernel
theorem dX2_copyFrom_189 : decode cX2_copyFrom 189 = .ok (.aload_n 0, 1) := by decide +kernel
theorem dX2_copyFrom_190 : decode cX2_copyFrom 190 = .ok (.getfield 61, 3) := by decide +kernel
theorem dX2_copyFrom_193 : decode cX2_copyFrom 193 = .ok (.iconst 0, 1) := by decide +kernel
theorem dX2_copyFrom_194 : decode cX2_copyFrom 194 = .ok (.aload_n 0, 1) := by decide +kernel
theorem dX2_copyFrom_195 : decode cX2_copyFrom 195 = .ok (.getfield 61, 3) := by decide +kernel
theorem dX2_copyFrom_198 : decode cX2_copyFrom 198 = .ok (.arraylength, 1) := by decide +kernel
theorem dX2_copyFrom_199 : decode cX2_copyFrom 199 = .ok (.invokestatic 71, 3) := by decide +kernel
theorem dX2_copyFrom_202 : decode cX2_copyFrom 202 = .ok (.return_, 1) := by decide +kernel
theorem dX2_hasPrisoner_0 : decode cX2_hasPrisoner 0 = .ok (.iload_n 1, 1) := by decide +kernel
theorem dX2_hasPrisoner_1 : decode cX2_hasPrisoner 1 = .ok (.ifCond .lt 21, 3) := by decide +kernel
theorem dX2_hasPrisoner_4 : decode cX2_hasPrisoner 4 = .ok (.iload_n 1, 1) := by decide +kernel
theorem dX2_hasPrisoner_5 : decode cX2_hasPrisoner 5 = .ok (.aload_n 0, 1) := by decide +kernel
theorem dX2_hasPrisoner_6 : decode cX2_hasPrisoner 6 = .ok (.getfield 68, 3) := by decide +kernel
theorem dX2_hasPrisoner_9 : decode cX2_hasPrisoner 9 = .ok (.if_icmp .ge 13, 3) := by decide +kernel
theorem dX2_hasPrisoner_12 : decode cX2_hasPrisoner 12 = .ok (.iload_n 1, 1) := by decide +kernel
theorem dX2_hasPrisoner_13 : decode cX2_hasPrisoner 13 = .ok (.bipush 8, 2) := by decide +kernel
theorem dX2_hasPrisoner_15 : decode cX2_hasPrisoner 15 = .ok (.if_icmp .ge 7, 3) := by decide +kernel
theorem dX2_hasPrisoner_18 : decode cX2_hasPrisoner 18 = .ok (.iconst 1, 1) := by decide +kernel
theorem dX2_hasPrisoner_19 : decode cX2_hasPrisoner 19 = .ok (.goto 4, 3) := by decide +kernel
theorem dX2_hasPrisoner_22 : decode cX2_hasPrisoner 22 = .ok (.iconst 0, 1) := by decide +kernel
theorem dX2_hasPrisoner_23 : decode cX2_hasPrisoner 23 = .ok (.ireturn, 1) := by decide +kernel
theorem dX2_hasVisitor_0 : decode cX2_hasVisitor 0 = .ok (.iload_n 0, 1) := by decide +kernel
theorem dX2_hasVisitor_1 : decode cX2_hasVisitor 1 = .ok (.ifCond .lt 13, 3) := by decide +kernel
theorem dX2_hasVisitor_4 : decode cX2_hasVisitor 4 = .ok (.iload_n 0, 1) := by decide +kernel
theorem dX2_hasVisitor_5 : decode cX2_hasVisitor 5 = .ok (.bipush 10, 2) := by decide +kernel
theorem dX2_hasVisitor_7 : decode cX2_hasVisitor 7 = .ok (.if_icmp .ge 7, 3) := by decide +kernel
theorem dX2_hasVisitor_10 : decode cX2_hasVisitor 10 = .ok (.iconst 1, 1) := by decide +kernel
theorem dX2_hasVisitor_11 : decode cX2_hasVisitor 11 = .ok (.goto 4, 3) := by decide +kernel
theorem dX2_hasVisitor_14 : decode cX2_hasVisitor 14 = .ok (.iconst 0, 1) := by decide +kernel
theorem dX2_hasVisitor_15 : decode cX2_hasVisitor 15 = .ok (.ireturn, 1) := by decide +kernel
set_option maxRecDepth 20000 in
theorem ggX2_hasPair_X2_hasPrisoner : GoodIn wsX2_hasPair wsX2_hasPrisoner := goodIn_r _ [5, 6, 10, 11, 12, 13, 14, 15, 16, 17, 18, 19, 20, 21, 22, 23, 24] (by decide +kernel) (by decide +kernel)
set_option maxRecDepth 20000 in
theorem gX2_hasPair_X2_hasPrisoner : GoodIn wsX2_hasPair (wsV RX2 87 RX2 yX2_hasPrisoner wsX2_hasPrisoner) := goodIn_app (goodIn_of _ (by decide +kernel)) ggX2_hasPair_X2_hasPrisoner
set_option maxRecDepth 20000 in
theorem ggX2_hasPair_X2_hasVisitor : GoodIn wsX2_hasPair wsX2_hasVisitor := goodIn_r _ [9] (by decide +kernel) (by decide +kernel)
set_option maxRecDepth 20000 in
theorem gX2_hasPair_X2_hasVisitor : GoodIn wsX2_hasPair (va_wsS RX2 91 yX2_hasVisitor wsX2_hasVisitor) := goodIn_app (goodIn_of _ (by decide +kernel)) ggX2_hasPair_X2_hasVisitor
theorem dX2_hasPair_0 : decode cX2_hasPair 0 = .ok (.aload_n 0, 1) := by decide +kernel
theorem dX2_hasPair_1 : decode cX2_hasPair 1 = .ok (.iload_n 1, 1) := by decide +kernel
theorem dX2_hasPair_2 : decode cX2_hasPair 2 = .ok (.invokevirtual 87, 3) := by decide +kernel
theorem dX2_hasPair_5 : decode cX2_hasPair 5 = .ok (.ifCond .eq 14, 3) := by decide +kernel
theorem dX2_hasPair_8 : decode cX2_hasPair 8 = .ok (.iload_n 2, 1) := by decide +kernel
theorem dX2_hasPair_9 : decode cX2_hasPair 9 = .ok (.invokestatic 91, 3) := by decide +kernel
theorem dX2_hasPair_12 : decode cX2_hasPair 12 = .ok (.ifCond .eq 7, 3) := by decide +kernel
theorem dX2_hasPair_15 : decode cX2_hasPair 15 = .ok (.iconst 1, 1) := by decide +kernel
theorem dX2_hasPair_16 : decode cX2_hasPair 16 = .ok (.goto 4, 3) := by decide +kernel
theorem dX2_hasPair_19 : decode cX2_hasPair 19 = .ok (.iconst 0, 1) := by decide +kernel
theorem dX2_hasPair_20 : decode cX2_hasPair 20 = .ok (.ireturn, 1) := by decide +kernel
theorem dX2_hasSetting_0 : decode cX2_hasSetting 0 = .ok (.iload_n 0, 1) := by decide +kernel
theorem dX2_hasSetting_1 : decode cX2_hasSetting 1 = .ok (.ifCond .lt 15, 3) := by decide +kernel
theorem dX2_hasSetting_4 : decode cX2_hasSetting 4 = .ok (.iload_n 0, 1) := by decide +kernel
theorem dX2_hasSetting_5 : decode cX2_hasSetting 5 = .ok (.getstatic 53, 3) := by decide +kernel
theorem dX2_hasSetting_8 : decode cX2_hasSetting 8 = .ok (.arraylength, 1) := by decide +kernel
theorem dX2_hasSetting_9 : decode cX2_hasSetting 9 = .ok (.if_icmp .ge 7, 3) := by decide +kernel
theorem dX2_hasSetting_12 : decode cX2_hasSetting 12 = .ok (.iconst 1, 1) := by decide +kernel
theorem dX2_hasSetting_13 : decode cX2_hasSetting 13 = .ok (.goto 4, 3) := by decide +kernel
theorem dX2_hasSetting_16 : decode cX2_hasSetting 16 = .ok (.iconst 0, 1) := by decide +kernel
theorem dX2_hasSetting_17 : decode cX2_hasSetting 17 = .ok (.ireturn, 1) := by decide +kernel
theorem dX2_isTime_0 : decode cX2_isTime 0 = .ok (.iload_n 1, 1) := by decide +kernel
theorem dX2_isTime_1 : decode cX2_isTime 1 = .ok (.aload_n 0, 1) := by decide +kernel
theorem dX2_isTime_2 : decode cX2_isTime 2 = .ok (.getfield 64, 3) := by decide +kernel
theorem dX2_isTime_5 : decode cX2_isTime 5 = .ok (.if_icmp .lt 24, 3) := by decide +kernel
theorem dX2_isTime_8 : decode cX2_isTime 8 = .ok (.iload_n 1, 1) := by decide +kernel
theorem dX2_isTime_9 : decode cX2_isTime 9 = .ok (.sipush 9999, 3) := by decide +kernel
theorem dX2_isTime_12 : decode cX2_isTime 12 = .ok (.if_icmp .gt 17, 3) := by decide +kernel
theorem dX2_isTime_15 : decode cX2_isTime 15 = .ok (.iload_n 2, 1) := by decide +kernel
theorem dX2_isTime_16 : decode cX2_isTime 16 = .ok (.ifCond .lt 13, 3) := by decide +kernel
theorem dX2_isTime_19 : decode cX2_isTime 19 = .ok (.iload_n 2, 1) := by decide +kernel
theorem dX2_isTime_20 : decode cX2_isTime 20 = .ok (.bipush 8, 2) := by decide +kernel
theorem dX2_isTime_22 : decode cX2_isTime 22 = .ok (.if_icmp .ge 7, 3) := by decide +kernel
theorem dX2_isTime_25 : decode cX2_isTime 25 = .ok (.iconst 1, 1) := by decide +kernel
theorem dX2_isTime_26 : decode cX2_isTime 26 = .ok (.goto 4, 3) := by decide +kernel
theorem dX2_isTime_29 : decode cX2_isTime 29 = .ok (.iconst 0, 1) := by decide +kernel
theorem dX2_isTime_30 : decode cX2_isTime 30 = .ok (.ireturn, 1) := by decide +kernel
theorem dX2_weekOf_0 : decode cX2_weekOf 0 = .ok (.iload_n 0, 1) := by decide +kernel
theorem dX2_weekOf_1 : decode cX2_weekOf 1 = .ok (.bipush 7, 2) := by decide +kernel
theorem dX2_weekOf_3 : decode cX2_weekOf 3 = .ok (.idiv, 1) := by decide +kernel
theorem dX2_weekOf_4 : decode cX2_weekOf 4 = .ok (.ireturn, 1) := by decide +kernel
set_option maxRecDepth 20000 in
theorem ggX2_numberOfAll_X2_aheadOfToday : GoodIn wsX2_numberOfAll wsX2_aheadOfToday := goodIn_r _ [14, 2, 15, 16, 17, 18, 19, 20, 21, 22, 23, 24, 25, 26, 27, 28, 29] (by decide +kernel) (by decide +kernel)
set_option maxRecDepth 20000 in
theorem gX2_numberOfAll_X2_aheadOfToday : GoodIn wsX2_numberOfAll (wsV RX2 98 RX2 yX2_aheadOfToday wsX2_aheadOfToday) := goodIn_app (goodIn_of _ (by decide +kernel)) ggX2_numberOfAll_X2_aheadOfToday
theorem dX2_numberOfAll_0 : decode cX2_numberOfAll 0 = .ok (.iload_n 1, 1) := by decide +kernel
theorem dX2_numberOfAll_1 : decode cX2_numberOfAll 1 = .ok (.tableswitch 125 0 9 #[55, 60, 65, 73, 81, 88, 95, 102, 109, 116], 55) := by decide +kernel
theorem dX2_numberOfAll_56 : decode cX2_numberOfAll 56 = .ok (.aload_n 0, 1) := by decide +kernel
theorem dX2_numberOfAll_57 : decode cX2_numberOfAll 57 = .ok (.getfield 68, 3) := by decide +kernel
theorem dX2_numberOfAll_60 : decode cX2_numberOfAll 60 = .ok (.ireturn, 1) := by decide +kernel
theorem dX2_numberOfAll_61 : decode cX2_numberOfAll 61 = .ok (.aload_n 0, 1) := by decide +kernel
theorem dX2_numberOfAll_62 : decode cX2_numberOfAll 62 = .ok (.getfield 64, 3) := by decide +kernel
theorem dX2_numberOfAll_65 : decode cX2_numberOfAll 65 = .ok (.ireturn, 1) := by decide +kernel
theorem dX2_numberOfAll_66 : decode cX2_numberOfAll 66 = .ok (.aload_n 0, 1) := by decide +kernel
theorem dX2_numberOfAll_67 : decode cX2_numberOfAll 67 = .ok (.getfield 39, 3) := by decide +kernel
theorem dX2_numberOfAll_70 : decode cX2_numberOfAll 70 = .ok (.getfield 94, 3) := by decide +kernel
theorem dX2_numberOfAll_73 : decode cX2_numberOfAll 73 = .ok (.ireturn, 1) := by decide +kernel
theorem dX2_numberOfAll_74 : decode cX2_numberOfAll 74 = .ok (.aload_n 0, 1) := by decide +kernel
theorem dX2_numberOfAll_75 : decode cX2_numberOfAll 75 = .ok (.getfield 46, 3) := by decide +kernel
theorem dX2_numberOfAll_78 : decode cX2_numberOfAll 78 = .ok (.getfield 97, 3) := by decide +kernel
theorem dX2_numberOfAll_81 : decode cX2_numberOfAll 81 = .ok (.ireturn, 1) := by decide +kernel
theorem dX2_numberOfAll_82 : decode cX2_numberOfAll 82 = .ok (.aload_n 0, 1) := by decide +kernel
theorem dX2_numberOfAll_83 : decode cX2_numberOfAll 83 = .ok (.getfield 50, 3) := by decide +kernel
theorem dX2_numberOfAll_86 : decode cX2_numberOfAll 86 = .ok (.iconst 0, 1) := by decide +kernel
theorem dX2_numberOfAll_87 : decode cX2_numberOfAll 87 = .ok (.iaload, 1) := by decide +kernel
theorem dX2_numberOfAll_88 : decode cX2_numberOfAll 88 = .ok (.ireturn, 1) := by decide +kernel
theorem dX2_numberOfAll_89 : decode cX2_numberOfAll 89 = .ok (.aload_n 0, 1) := by decide +kernel
theorem dX2_numberOfAll_90 : decode cX2_numberOfAll 90 = .ok (.getfield 50, 3) := by decide +kernel
theorem dX2_numberOfAll_93 : decode cX2_numberOfAll 93 = .ok (.iconst 1, 1) := by decide +kernel
theorem dX2_numberOfAll_94 : decode cX2_numberOfAll 94 = .ok (.iaload, 1) := by decide +kernel
theorem dX2_numberOfAll_95 : decode cX2_numberOfAll 95 = .ok (.ireturn, 1) := by decide +kernel
theorem dX2_numberOfAll_96 : decode cX2_numberOfAll 96 = .ok (.aload_n 0, 1) := by decide +kernel
theorem dX2_numberOfAll_97 : decode cX2_numberOfAll 97 = .ok (.getfield 50, 3) := by decide +kernel
theorem dX2_numberOfAll_100 : decode cX2_numberOfAll 100 = .ok (.iconst 2, 1) := by decide +kernel
theorem dX2_numberOfAll_101 : decode cX2_numberOfAll 101 = .ok (.iaload, 1) := by decide +kernel
theorem dX2_numberOfAll_102 : decode cX2_numberOfAll 102 = .ok (.ireturn, 1) := by decide +kernel
theorem dX2_numberOfAll_103 : decode cX2_numberOfAll 103 = .ok (.aload_n 0, 1) := by decide +kernel
theorem dX2_numberOfAll_104 : decode cX2_numberOfAll 104 = .ok (.getfield 50, 3) := by decide +kernel
theorem dX2_numberOfAll_107 : decode cX2_numberOfAll 107 = .ok (.iconst 3, 1) := by decide +kernel
theorem dX2_numberOfAll_108 : decode cX2_numberOfAll 108 = .ok (.iaload, 1) := by decide +kernel
theorem dX2_numberOfAll_109 : decode cX2_numberOfAll 109 = .ok (.ireturn, 1) := by decide +kernel
theorem dX2_numberOfAll_110 : decode cX2_numberOfAll 110 = .ok (.aload_n 0, 1) := by decide +kernel
theorem dX2_numberOfAll_111 : decode cX2_numberOfAll 111 = .ok (.getfield 50, 3) := by decide +kernel
theorem dX2_numberOfAll_114 : decode cX2_numberOfAll 114 = .ok (.iconst 4, 1) := by decide +kernel
theorem dX2_numberOfAll_115 : decode cX2_numberOfAll 115 = .ok (.iaload, 1) := by decide +kernel
theorem dX2_numberOfAll_116 : decode cX2_numberOfAll 116 = .ok (.ireturn, 1) := by decide +kernel
theorem dX2_numberOfAll_117 : decode cX2_numberOfAll 117 = .ok (.aload_n 0, 1) := by decide +kernel
theorem dX2_numberOfAll_118 : decode cX2_numberOfAll 118 = .ok (.aload_n 0, 1) := by decide +kernel
theorem dX2_numberOfAll_119 : decode cX2_numberOfAll 119 = .ok (.getfield 33, 3) := by decide +kernel
theorem dX2_numberOfAll_122 : decode cX2_numberOfAll 122 = .ok (.invokevirtual 98, 3) := by decide +kernel
theorem dX2_numberOfAll_125 : decode cX2_numberOfAll 125 = .ok (.ireturn, 1) := by decide +kernel
theorem dX2_numberOfAll_126 : decode cX2_numberOfAll 126 = .ok (.aload_n 0, 1) := by decide +kernel
theorem dX2_numberOfAll_127 : decode cX2_numberOfAll 127 = .ok (.aload_n 0, 1) := by decide +kernel
theorem dX2_numberOfAll_128 : decode cX2_numberOfAll 128 = .ok (.getfield 18, 3) := by decide +kernel
theorem dX2_numberOfAll_131 : decode cX2_numberOfAll 131 = .ok (.invokevirtual 98, 3) := by decide +kernel
theorem dX2_numberOfAll_134 : decode cX2_numberOfAll 134 = .ok (.ireturn, 1) := by decide +kernel
theorem dX2_aheadOfToday_0 : decode cX2_aheadOfToday 0 = .ok (.iconst 0, 1) := by decide +kernel
theorem dX2_aheadOfToday_1 : decode cX2_aheadOfToday 1 = .ok (.istore_n 2, 1) := by decide +kernel
theorem dX2_aheadOfToday_2 : decode cX2_aheadOfToday 2 = .ok (.aload_n 1, 1) := by decide +kernel
theorem dX2_aheadOfToday_3 : decode cX2_aheadOfToday 3 = .ok (.astore_n 3, 1) := by decide +kernel
theorem dX2_aheadOfToday_4 : decode cX2_aheadOfToday 4 = .ok (.aload_n 3, 1) := by decide +kernel
theorem dX2_aheadOfToday_5 : decode cX2_aheadOfToday 5 = .ok (.arraylength, 1) := by decide +kernel
theorem dX2_aheadOfToday_6 : decode cX2_aheadOfToday 6 = .ok (.istore 4, 2) := by decide +kernel
theorem dX2_aheadOfToday_8 : decode cX2_aheadOfToday 8 = .ok (.iconst 0, 1) := by decide +kernel
theorem dX2_aheadOfToday_9 : decode cX2_aheadOfToday 9 = .ok (.istore 5, 2) := by decide +kernel
theorem dX2_aheadOfToday_11 : decode cX2_aheadOfToday 11 = .ok (.iload 5, 2) := by decide +kernel
theorem dX2_aheadOfToday_13 : decode cX2_aheadOfToday 13 = .ok (.iload 4, 2) := by decide +kernel
theorem dX2_aheadOfToday_15 : decode cX2_aheadOfToday 15 = .ok (.if_icmp .ge 27, 3) := by decide +kernel
theorem dX2_aheadOfToday_18 : decode cX2_aheadOfToday 18 = .ok (.aload_n 3, 1) := by decide +kernel
theorem dX2_aheadOfToday_19 : decode cX2_aheadOfToday 19 = .ok (.iload 5, 2) := by decide +kernel
theorem dX2_aheadOfToday_21 : decode cX2_aheadOfToday 21 = .ok (.iaload, 1) := by decide +kernel
theorem dX2_aheadOfToday_22 : decode cX2_aheadOfToday 22 = .ok (.istore 6, 2) := by decide +kernel
theorem dX2_aheadOfToday_24 : decode cX2_aheadOfToday 24 = .ok (.aload_n 0, 1) := by decide +kernel
theorem dX2_aheadOfToday_25 : decode cX2_aheadOfToday 25 = .ok (.getfield 64, 3) := by decide +kernel
theorem dX2_aheadOfToday_28 : decode cX2_aheadOfToday 28 = .ok (.iload 6, 2) := by decide +kernel
theorem dX2_aheadOfToday_30 : decode cX2_aheadOfToday 30 = .ok (.if_icmp .ge 6, 3) := by decide +kernel
theorem dX2_aheadOfToday_33 : decode cX2_aheadOfToday 33 = .ok (.iinc 2 1, 3) := by decide +kernel
theorem dX2_aheadOfToday_36 : decode cX2_aheadOfToday 36 = .ok (.iinc 5 1, 3) := by decide +kernel
theorem dX2_aheadOfToday_39 : decode cX2_aheadOfToday 39 = .ok (.goto (-28), 3) := by decide +kernel
theorem dX2_aheadOfToday_42 : decode cX2_aheadOfToday 42 = .ok (.iload_n 2, 1) := by decide +kernel
theorem dX2_aheadOfToday_43 : decode cX2_aheadOfToday 43 = .ok (.ireturn, 1) := by decide +kernel
set_option maxRecDepth 20000 in
theorem ggX2_numberOfPrisoner_X2_hasPrisoner : GoodIn wsX2_numberOfPrisoner wsX2_hasPrisoner := goodIn_r _ [14, 15, 53, 54, 55, 56, 57, 58, 59, 60, 61, 62, 63, 64, 65, 66, 67] (by decide +kernel) (by decide +kernel)
set_option maxRecDepth 20000 in
theorem gX2_numberOfPrisoner_X2_hasPrisoner : GoodIn wsX2_numberOfPrisoner (wsV RX2 87 RX2 yX2_hasPrisoner wsX2_hasPrisoner) := goodIn_app (goodIn_of _ (by decide +kernel)) ggX2_numberOfPrisoner_X2_hasPrisoner
set_option maxRecDepth 20000 in
theorem ggX2_numberOfPrisoner_X2_weekOf : GoodIn wsX2_numberOfPrisoner wsX2_weekOf := goodIn_r _ [18] (by decide +kernel) (by decide +kernel)
set_option maxRecDepth 20000 in
theorem gX2_numberOfPrisoner_X2_weekOf : GoodIn wsX2_numberOfPrisoner (va_wsS RX2 102 yX2_weekOf wsX2_weekOf) := goodIn_app (goodIn_of _ (by decide +kernel)) ggX2_numberOfPrisoner_X2_weekOf
set_option maxRecDepth 20000 in
theorem ggX2_numberOfPrisoner_X0_countInWeek : GoodIn wsX2_numberOfPrisoner wsX0_countInWeek := goodIn_r _ [23, 24, 25, 68, 69] (by decide +kernel) (by decide +kernel)
set_option maxRecDepth 20000 in
theorem gX2_numberOfPrisoner_X0_countInWeek : GoodIn wsX2_numberOfPrisoner (wsV RX2 106 RX0 yX0_countInWeek wsX0_countInWeek) := goodIn_app (goodIn_of _ (by decide +kernel)) ggX2_numberOfPrisoner_X0_countInWeek
set_option maxRecDepth 20000 in
theorem ggX2_numberOfPrisoner_X0_countOf : GoodIn wsX2_numberOfPrisoner wsX0_countOf := goodIn_r _ [29, 24, 30, 31, 32, 22, 33, 25, 34, 35, 36, 37, 68, 69] (by decide +kernel) (by decide +kernel)
set_option maxRecDepth 20000 in
theorem gX2_numberOfPrisoner_X0_countOf : GoodIn wsX2_numberOfPrisoner (wsV RX2 110 RX0 yX0_countOf wsX0_countOf) := goodIn_app (goodIn_of _ (by decide +kernel)) ggX2_numberOfPrisoner_X0_countOf
set_option maxRecDepth 20000 in
theorem ggX2_numberOfPrisoner_X6_countOf : GoodIn wsX2_numberOfPrisoner wsX6_countOf := goodIn_r _ [42, 43, 44, 45, 46, 41, 47, 48, 49, 50, 51, 52, 70, 71] (by decide +kernel) (by decide +kernel)
set_option maxRecDepth 20000 in
theorem gX2_numberOfPrisoner_X6_countOf : GoodIn wsX2_numberOfPrisoner (wsV RX2 113 RX6 yX6_countOf wsX6_countOf) := goodIn_app (goodIn_of _ (by decide +kernel)) ggX2_numberOfPrisoner_X6_countOf
theorem dX2_numberOfPrisoner_0 : decode cX2_numberOfPrisoner 0 = .ok (.aload_n 0, 1) := by decide +kernel
theorem dX2_numberOfPrisoner_1 : decode cX2_numberOfPrisoner 1 = .ok (.iload_n 1, 1) := by decide +kernel
theorem dX2_numberOfPrisoner_2 : decode cX2_numberOfPrisoner 2 = .ok (.invokevirtual 87, 3) := by decide +kernel
theorem dX2_numberOfPrisoner_5 : decode cX2_numberOfPrisoner 5 = .ok (.ifCond .ne 5, 3) := by decide +kernel
theorem dX2_numberOfPrisoner_10 : decode cX2_numberOfPrisoner 10 = .ok (.iload_n 2, 1) := by decide +kernel
theorem dX2_numberOfPrisoner_11 : decode cX2_numberOfPrisoner 11 = .ok (.tableswitch 111 0 6 #[41, 48, 55, 62, 69, 92, 102], 41) := by decide +kernel
theorem dX2_numberOfPrisoner_52 : decode cX2_numberOfPrisoner 52 = .ok (.aload_n 0, 1) := by decide +kernel
theorem dX2_numberOfPrisoner_53 : decode cX2_numberOfPrisoner 53 = .ok (.getfield 11, 3) := by decide +kernel
theorem dX2_numberOfPrisoner_56 : decode cX2_numberOfPrisoner 56 = .ok (.iload_n 1, 1) := by decide +kernel
theorem dX2_numberOfPrisoner_57 : decode cX2_numberOfPrisoner 57 = .ok (.iaload, 1) := by decide +kernel
theorem dX2_numberOfPrisoner_58 : decode cX2_numberOfPrisoner 58 = .ok (.ireturn, 1) := by decide +kernel
theorem dX2_numberOfPrisoner_59 : decode cX2_numberOfPrisoner 59 = .ok (.aload_n 0, 1) := by decide +kernel
theorem dX2_numberOfPrisoner_60 : decode cX2_numberOfPrisoner 60 = .ok (.getfield 15, 3) := by decide +kernel
theorem dX2_numberOfPrisoner_63 : decode cX2_numberOfPrisoner 63 = .ok (.iload_n 1, 1) := by decide +kernel
theorem dX2_numberOfPrisoner_64 : decode cX2_numberOfPrisoner 64 = .ok (.iaload, 1) := by decide +kernel
theorem dX2_numberOfPrisoner_65 : decode cX2_numberOfPrisoner 65 = .ok (.ireturn, 1) := by decide +kernel
theorem dX2_numberOfPrisoner_66 : decode cX2_numberOfPrisoner 66 = .ok (.aload_n 0, 1) := by decide +kernel
theorem dX2_numberOfPrisoner_67 : decode cX2_numberOfPrisoner 67 = .ok (.getfield 18, 3) := by decide +kernel
theorem dX2_numberOfPrisoner_70 : decode cX2_numberOfPrisoner 70 = .ok (.iload_n 1, 1) := by decide +kernel
theorem dX2_numberOfPrisoner_71 : decode cX2_numberOfPrisoner 71 = .ok (.iaload, 1) := by decide +kernel
theorem dX2_numberOfPrisoner_72 : decode cX2_numberOfPrisoner 72 = .ok (.ireturn, 1) := by decide +kernel
theorem dX2_numberOfPrisoner_73 : decode cX2_numberOfPrisoner 73 = .ok (.aload_n 0, 1) := by decide +kernel
theorem dX2_numberOfPrisoner_74 : decode cX2_numberOfPrisoner 74 = .ok (.getfield 21, 3) := by decide +kernel
theorem dX2_numberOfPrisoner_77 : decode cX2_numberOfPrisoner 77 = .ok (.iload_n 1, 1) := by decide +kernel
theorem dX2_numberOfPrisoner_78 : decode cX2_numberOfPrisoner 78 = .ok (.iaload, 1) := by decide +kernel
theorem dX2_numberOfPrisoner_79 : decode cX2_numberOfPrisoner 79 = .ok (.ireturn, 1) := by decide +kernel
theorem dX2_numberOfPrisoner_80 : decode cX2_numberOfPrisoner 80 = .ok (.aload_n 0, 1) := by decide +kernel
theorem dX2_numberOfPrisoner_81 : decode cX2_numberOfPrisoner 81 = .ok (.getfield 39, 3) := by decide +kernel
theorem dX2_numberOfPrisoner_84 : decode cX2_numberOfPrisoner 84 = .ok (.iload_n 1, 1) := by decide +kernel
theorem dX2_numberOfPrisoner_85 : decode cX2_numberOfPrisoner 85 = .ok (.aload_n 0, 1) := by decide +kernel
theorem dX2_numberOfPrisoner_86 : decode cX2_numberOfPrisoner 86 = .ok (.getfield 64, 3) := by decide +kernel
theorem dX2_numberOfPrisoner_89 : decode cX2_numberOfPrisoner 89 = .ok (.invokestatic 102, 3) := by decide +kernel
theorem dX2_numberOfPrisoner_92 : decode cX2_numberOfPrisoner 92 = .ok (.invokevirtual 106, 3) := by decide +kernel
theorem dX2_numberOfPrisoner_95 : decode cX2_numberOfPrisoner 95 = .ok (.aload_n 0, 1) := by decide +kernel
theorem dX2_numberOfPrisoner_96 : decode cX2_numberOfPrisoner 96 = .ok (.getfield 24, 3) := by decide +kernel
theorem dX2_numberOfPrisoner_99 : decode cX2_numberOfPrisoner 99 = .ok (.iload_n 1, 1) := by decide +kernel
theorem dX2_numberOfPrisoner_100 : decode cX2_numberOfPrisoner 100 = .ok (.iaload, 1) := by decide +kernel
theorem dX2_numberOfPrisoner_101 : decode cX2_numberOfPrisoner 101 = .ok (.iadd, 1) := by decide +kernel
theorem dX2_numberOfPrisoner_102 : decode cX2_numberOfPrisoner 102 = .ok (.ireturn, 1) := by decide +kernel
theorem dX2_numberOfPrisoner_103 : decode cX2_numberOfPrisoner 103 = .ok (.aload_n 0, 1) := by decide +kernel
theorem dX2_numberOfPrisoner_104 : decode cX2_numberOfPrisoner 104 = .ok (.getfield 39, 3) := by decide +kernel
theorem dX2_numberOfPrisoner_107 : decode cX2_numberOfPrisoner 107 = .ok (.iconst 3, 1) := by decide +kernel
theorem dX2_numberOfPrisoner_108 : decode cX2_numberOfPrisoner 108 = .ok (.iload_n 1, 1) := by decide +kernel
theorem dX2_numberOfPrisoner_109 : decode cX2_numberOfPrisoner 109 = .ok (.invokevirtual 110, 3) := by decide +kernel
theorem dX2_numberOfPrisoner_112 : decode cX2_numberOfPrisoner 112 = .ok (.ireturn, 1) := by decide +kernel
theorem dX2_numberOfPrisoner_113 : decode cX2_numberOfPrisoner 113 = .ok (.aload_n 0, 1) := by decide +kernel
theorem dX2_numberOfPrisoner_114 : decode cX2_numberOfPrisoner 114 = .ok (.getfield 46, 3) := by decide +kernel
theorem dX2_numberOfPrisoner_117 : decode cX2_numberOfPrisoner 117 = .ok (.iload_n 1, 1) := by decide +kernel
theorem dX2_numberOfPrisoner_118 : decode cX2_numberOfPrisoner 118 = .ok (.invokevirtual 113, 3) := by decide +kernel
theorem dX2_numberOfPrisoner_121 : decode cX2_numberOfPrisoner 121 = .ok (.ireturn, 1) := by decide +kernel
theorem dX2_numberOfPrisoner_122 : decode cX2_numberOfPrisoner 122 = .ok (.aload_n 0, 1) := by decide +kernel
theorem dX2_numberOfPrisoner_123 : decode cX2_numberOfPrisoner 123 = .ok (.getfield 27, 3) := by decide +kernel
theorem dX2_numberOfPrisoner_126 : decode cX2_numberOfPrisoner 126 = .ok (.iload_n 1, 1) := by decide +kernel
theorem dX2_numberOfPrisoner_127 : decode cX2_numberOfPrisoner 127 = .ok (.iaload, 1) := by decide +kernel
theorem dX2_numberOfPrisoner_128 : decode cX2_numberOfPrisoner 128 = .ok (.ireturn, 1) := by decide +kernel
set_option maxRecDepth 20000 in
theorem ggX2_numberOfVisitor_X2_hasVisitor : GoodIn wsX2_numberOfVisitor wsX2_hasVisitor := goodIn_r _ [8] (by decide +kernel) (by decide +kernel)
set_option maxRecDepth 20000 in
theorem gX2_numberOfVisitor_X2_hasVisitor : GoodIn wsX2_numberOfVisitor (va_wsS RX2 91 yX2_hasVisitor wsX2_hasVisitor) := goodIn_app (goodIn_of _ (by decide +kernel)) ggX2_numberOfVisitor_X2_hasVisitor
set_option maxRecDepth 20000 in
theorem ggX2_numberOfVisitor_X7_hasBit : GoodIn wsX2_numberOfVisitor wsX7_hasBit := goodIn_r _ [11] (by decide +kernel) (by decide +kernel)
set_option maxRecDepth 20000 in
theorem gX2_numberOfVisitor_X7_hasBit_n115 : GoodIn wsX2_numberOfVisitor (wsX7_hasBit) := ggX2_numberOfVisitor_X7_hasBit
set_option maxRecDepth 20000 in
theorem ggX2_numberOfVisitor_X0_countOf : GoodIn wsX2_numberOfVisitor wsX0_countOf := goodIn_r _ [16, 17, 18, 19, 20, 15, 21, 22, 23, 24, 25, 26, 49, 50] (by decide +kernel) (by decide +kernel)
set_option maxRecDepth 20000 in
theorem gX2_numberOfVisitor_X0_countOf : GoodIn wsX2_numberOfVisitor (wsV RX2 110 RX0 yX0_countOf wsX0_countOf) := goodIn_app (goodIn_of _ (by decide +kernel)) ggX2_numberOfVisitor_X0_countOf
set_option maxRecDepth 20000 in
theorem ggX2_numberOfVisitor_X2_prisonersWhoList : GoodIn wsX2_numberOfVisitor wsX2_prisonersWhoList := goodIn_r _ [30, 31, 9, 10, 11, 32, 33, 34, 35, 36, 37, 38, 39, 40, 41, 42, 43, 44, 45, 46, 47, 48] (by decide +kernel) (by decide +kernel)
set_option maxRecDepth 20000 in
theorem gX2_numberOfVisitor_X2_prisonersWhoList : GoodIn wsX2_numberOfVisitor (wsV RX2 119 RX2 yX2_prisonersWhoList wsX2_prisonersWhoList) := goodIn_app (goodIn_of _ (by decide +kernel)) ggX2_numberOfVisitor_X2_prisonersWhoList
theorem dX2_numberOfVisitor_0 : decode cX2_numberOfVisitor 0 = .ok (.iload_n 1, 1) := by decide +kernel
theorem dX2_numberOfVisitor_1 : decode cX2_numberOfVisitor 1 = .ok (.invokestatic 91, 3) := by decide +kernel
theorem dX2_numberOfVisitor_4 : decode cX2_numberOfVisitor 4 = .ok (.ifCond .ne 5, 3) := by decide +kernel
theorem dX2_numberOfVisitor_9 : decode cX2_numberOfVisitor 9 = .ok (.iload_n 2, 1) := by decide +kernel
theorem dX2_numberOfVisitor_10 : decode cX2_numberOfVisitor 10 = .ok (.tableswitch 71 0 3 #[30, 37, 44, 61], 30) := by decide +kernel
theorem dX2_numberOfVisitor_40 : decode cX2_numberOfVisitor 40 = .ok (.aload_n 0, 1) := by decide +kernel
theorem dX2_numberOfVisitor_41 : decode cX2_numberOfVisitor 41 = .ok (.getfield 30, 3) := by decide +kernel
theorem dX2_numberOfVisitor_44 : decode cX2_numberOfVisitor 44 = .ok (.iload_n 1, 1) := by decide +kernel
theorem dX2_numberOfVisitor_45 : decode cX2_numberOfVisitor 45 = .ok (.iaload, 1) := by decide +kernel
theorem dX2_numberOfVisitor_46 : decode cX2_numberOfVisitor 46 = .ok (.ireturn, 1) := by decide +kernel
theorem dX2_numberOfVisitor_47 : decode cX2_numberOfVisitor 47 = .ok (.aload_n 0, 1) := by decide +kernel
theorem dX2_numberOfVisitor_48 : decode cX2_numberOfVisitor 48 = .ok (.getfield 33, 3) := by decide +kernel
theorem dX2_numberOfVisitor_51 : decode cX2_numberOfVisitor 51 = .ok (.iload_n 1, 1) := by decide +kernel
theorem dX2_numberOfVisitor_52 : decode cX2_numberOfVisitor 52 = .ok (.iaload, 1) := by decide +kernel
theorem dX2_numberOfVisitor_53 : decode cX2_numberOfVisitor 53 = .ok (.ireturn, 1) := by decide +kernel
theorem dX2_numberOfVisitor_54 : decode cX2_numberOfVisitor 54 = .ok (.aload_n 0, 1) := by decide +kernel
theorem dX2_numberOfVisitor_55 : decode cX2_numberOfVisitor 55 = .ok (.getfield 77, 3) := by decide +kernel
theorem dX2_numberOfVisitor_58 : decode cX2_numberOfVisitor 58 = .ok (.iload_n 1, 1) := by decide +kernel
theorem dX2_numberOfVisitor_59 : decode cX2_numberOfVisitor 59 = .ok (.invokestatic 115, 3) := by decide +kernel
theorem dX2_numberOfVisitor_62 : decode cX2_numberOfVisitor 62 = .ok (.ifCond .eq 7, 3) := by decide +kernel
theorem dX2_numberOfVisitor_65 : decode cX2_numberOfVisitor 65 = .ok (.iconst 1, 1) := by decide +kernel
theorem dX2_numberOfVisitor_66 : decode cX2_numberOfVisitor 66 = .ok (.goto 4, 3) := by decide +kernel
theorem dX2_numberOfVisitor_69 : decode cX2_numberOfVisitor 69 = .ok (.iconst 0, 1) := by decide +kernel
theorem dX2_numberOfVisitor_70 : decode cX2_numberOfVisitor 70 = .ok (.ireturn, 1) := by decide +kernel
theorem dX2_numberOfVisitor_71 : decode cX2_numberOfVisitor 71 = .ok (.aload_n 0, 1) := by decide +kernel
theorem dX2_numberOfVisitor_72 : decode cX2_numberOfVisitor 72 = .ok (.getfield 39, 3) := by decide +kernel
theorem dX2_numberOfVisitor_75 : decode cX2_numberOfVisitor 75 = .ok (.iconst 4, 1) := by decide +kernel
theorem dX2_numberOfVisitor_76 : decode cX2_numberOfVisitor 76 = .ok (.iload_n 1, 1) := by decide +kernel
theorem dX2_numberOfVisitor_77 : decode cX2_numberOfVisitor 77 = .ok (.invokevirtual 110, 3) := by decide +kernel
theorem dX2_numberOfVisitor_80 : decode cX2_numberOfVisitor 80 = .ok (.ireturn, 1) := by decide +kernel
theorem dX2_numberOfVisitor_81 : decode cX2_numberOfVisitor 81 = .ok (.aload_n 0, 1) := by decide +kernel
theorem dX2_numberOfVisitor_82 : decode cX2_numberOfVisitor 82 = .ok (.iload_n 1, 1) := by decide +kernel
theorem dX2_numberOfVisitor_83 : decode cX2_numberOfVisitor 83 = .ok (.invokevirtual 119, 3) := by decide +kernel
theorem dX2_numberOfVisitor_86 : decode cX2_numberOfVisitor 86 = .ok (.ireturn, 1) := by decide +kernel
set_option maxRecDepth 20000 in
theorem ggX2_prisonersWhoList_X7_hasBit : GoodIn wsX2_prisonersWhoList wsX7_hasBit := goodIn_r _ [4] (by decide +kernel) (by decide +kernel)
set_option maxRecDepth 20000 in
theorem gX2_prisonersWhoList_X7_hasBit_n115 : GoodIn wsX2_prisonersWhoList (wsX7_hasBit) := ggX2_prisonersWhoList_X7_hasBit
set_option maxRecDepth 20000 in
theorem ggX2_prisonersWhoList_X7_withBit : GoodIn wsX2_prisonersWhoList wsX7_withBit := goodIn_r _ [6] (by decide +kernel) (by decide +kernel)
set_option maxRecDepth 20000 in
theorem gX2_prisonersWhoList_X7_withBit_n122 : GoodIn wsX2_prisonersWhoList (wsX7_withBit) := ggX2_prisonersWhoList_X7_withBit
theorem dX2_prisonersWhoList_0 : decode cX2_prisonersWhoList 0 = .ok (.iconst 0, 1) := by decide +kernel
theorem dX2_prisonersWhoList_1 : decode cX2_prisonersWhoList 1 = .ok (.istore_n 2, 1) := by decide +kernel
theorem dX2_prisonersWhoList_2 : decode cX2_prisonersWhoList 2 = .ok (.iconst 0, 1) := by decide +kernel
theorem dX2_prisonersWhoList_3 : decode cX2_prisonersWhoList 3 = .ok (.istore_n 3, 1) := by decide +kernel
theorem dX2_prisonersWhoList_4 : decode cX2_prisonersWhoList 4 = .ok (.iload_n 3, 1) := by decide +kernel
theorem dX2_prisonersWhoList_5 : decode cX2_prisonersWhoList 5 = .ok (.bipush 8, 2) := by decide +kernel
theorem dX2_prisonersWhoList_7 : decode cX2_prisonersWhoList 7 = .ok (.if_icmp .ge 25, 3) := by decide +kernel
theorem dX2_prisonersWhoList_10 : decode cX2_prisonersWhoList 10 = .ok (.iload_n 2, 1) := by decide +kernel
theorem dX2_prisonersWhoList_11 : decode cX2_prisonersWhoList 11 = .ok (.iload_n 3, 1) := by decide +kernel
theorem dX2_prisonersWhoList_12 : decode cX2_prisonersWhoList 12 = .ok (.aload_n 0, 1) := by decide +kernel
theorem dX2_prisonersWhoList_13 : decode cX2_prisonersWhoList 13 = .ok (.getfield 15, 3) := by decide +kernel
theorem dX2_prisonersWhoList_16 : decode cX2_prisonersWhoList 16 = .ok (.iload_n 3, 1) := by decide +kernel
theorem dX2_prisonersWhoList_17 : decode cX2_prisonersWhoList 17 = .ok (.iaload, 1) := by decide +kernel
theorem dX2_prisonersWhoList_18 : decode cX2_prisonersWhoList 18 = .ok (.iload_n 1, 1) := by decide +kernel
theorem dX2_prisonersWhoList_19 : decode cX2_prisonersWhoList 19 = .ok (.invokestatic 115, 3) := by decide +kernel
theorem dX2_prisonersWhoList_22 : decode cX2_prisonersWhoList 22 = .ok (.invokestatic 122, 3) := by decide +kernel
theorem dX2_prisonersWhoList_25 : decode cX2_prisonersWhoList 25 = .ok (.istore_n 2, 1) := by decide +kernel
theorem dX2_prisonersWhoList_26 : decode cX2_prisonersWhoList 26 = .ok (.iinc 3 1, 3) := by decide +kernel
theorem dX2_prisonersWhoList_29 : decode cX2_prisonersWhoList 29 = .ok (.goto (-25), 3) := by decide +kernel
theorem dX2_prisonersWhoList_32 : decode cX2_prisonersWhoList 32 = .ok (.iload_n 2, 1) := by decide +kernel
theorem dX2_prisonersWhoList_33 : decode cX2_prisonersWhoList 33 = .ok (.ireturn, 1) := by decide +kernel
set_option maxRecDepth 20000 in
theorem ggX2_lineOf_J4_init_da8c8 : GoodIn wsX2_lineOf wsJ4_init_da8c8 := goodIn_r _ [7, 8, 9, 10, 11, 12, 13, 14, 15, 16, 17, 18, 19, 20, 21, 22, 23, 24, 25, 26, 238, 239, 240, 241] (by decide +kernel) (by decide +kernel)
set_option maxRecDepth 20000 in
theorem gX2_lineOf_J4_init_da8c8 : GoodIn wsX2_lineOf (wsJ4_init_da8c8) := ggX2_lineOf_J4_init_da8c8
set_option maxRecDepth 20000 in
theorem ggX2_lineOf_X0_at : GoodIn wsX2_lineOf wsX0_at := goodIn_r _ [31, 32, 33, 34, 35, 30, 36, 37, 257, 258] (by decide +kernel) (by decide +kernel)
set_option maxRecDepth 20000 in
theorem gX2_lineOf_X0_at : GoodIn wsX2_lineOf (wsV RX2 129 RX0 yX0_at wsX0_at) := goodIn_app (goodIn_of _ (by decide +kernel)) ggX2_lineOf_X0_at
set_option maxRecDepth 20000 in
theorem ggX2_lineOf_J4_append_bf812 : GoodIn wsX2_lineOf wsJ4_append_bf812 := goodIn_r _ [41, 42, 43, 44, 45, 10, 46, 47, 17, 48, 49, 50, 51, 52, 53, 54, 55, 56, 18, 57, 58, 59, 60, 61, 62, 63, 64, 65, 66, 67, 68, 69, 70, 71, 72, 73, 74, 75, 76, 77, 78, 79, 80, 81, 82, 83, 84, 16, 85, 86, 87, 88, 89, 90, 91, 92, 93, 94, 95, 96, 15, 97, 98, 99, 100, 101, 102, 103, 21, 104, 105, 106, 107, 108, 109, 110, 111, 112, 113, 114, 115, 116, 117, 118, 119, 120, 121, 122, 123, 124, 125, 126, 127, 128, 129, 130, 238, 239, 240, 241] (by decide +kernel) (by decide +kernel)
set_option maxRecDepth 20000 in
theorem gX2_lineOf_J4_append_bf812 : GoodIn wsX2_lineOf (wsV RX2 132 RJ4 yJ4_append_bf812 wsJ4_append_bf812) := goodIn_app (goodIn_of _ (by decide +kernel)) ggX2_lineOf_J4_append_bf812
set_option maxRecDepth 20000 in
theorem ggX2_lineOf_J4_append_cf468 : GoodIn wsX2_lineOf wsJ4_append_cf468 := goodIn_r _ [134, 135, 136, 44, 137, 10, 138, 47, 17, 52, 53, 54, 55, 56, 18, 57, 58, 59, 60, 61, 62, 63, 64, 65, 66, 67, 68, 69, 70, 71, 72, 73, 74, 75, 76, 77, 78, 79, 80, 81, 82, 83, 84, 16, 85, 86, 87, 88, 89, 90, 91, 92, 93, 94, 95, 96, 15, 139, 140, 141, 142, 143, 144, 145, 146, 147, 19, 20, 21, 22, 23, 24, 25, 26, 148, 149, 150, 151, 152, 153, 154, 155, 156, 109, 110, 111, 157, 158, 114, 159, 116, 160, 161, 119, 162, 126, 127, 128, 105, 129, 130, 163, 164, 165, 166, 167, 168, 169, 170, 171, 172, 173, 174, 238, 239, 240, 241] (by decide +kernel) (by decide +kernel)
set_option maxRecDepth 20000 in
theorem gX2_lineOf_J4_append_cf468 : GoodIn wsX2_lineOf (wsV RX2 136 RJ4 yJ4_append_cf468 wsJ4_append_cf468) := goodIn_app (goodIn_of _ (by decide +kernel)) ggX2_lineOf_J4_append_cf468
set_option maxRecDepth 20000 in
theorem ggX2_lineOf_J4_append_15ec4 : GoodIn wsX2_lineOf wsJ4_append_15ec4 := goodIn_r _ [178, 179, 180, 44, 181, 10, 182, 47, 183, 184, 185, 186, 187, 17, 52, 53, 54, 55, 56, 18, 57, 58, 59, 60, 61, 62, 63, 64, 65, 66, 67, 68, 69, 70, 71, 72, 73, 74, 75, 76, 77, 78, 79, 80, 81, 82, 83, 84, 16, 85, 86, 87, 88, 89, 90, 91, 92, 93, 94, 95, 96, 15, 188, 189, 21, 190, 105, 106, 107, 108, 109, 110, 111, 112, 113, 114, 115, 116, 117, 118, 119, 120, 126, 127, 128, 129, 130, 191, 192, 193, 194, 195, 196, 197, 198, 199, 200, 201, 202, 203, 204, 205, 206, 207, 208, 209, 210, 211, 212, 143, 144, 145, 146, 147, 19, 20, 22, 23, 24, 25, 26, 148, 149, 141, 150, 151, 152, 153, 154, 155, 156, 157, 158, 159, 160, 161, 162, 213, 214, 215, 216, 217, 218, 238, 239, 240, 241] (by decide +kernel) (by decide +kernel)
set_option maxRecDepth 20000 in
theorem gX2_lineOf_J4_append_15ec4 : GoodIn wsX2_lineOf (wsV RX2 141 RJ4 yJ4_append_15ec4 wsJ4_append_15ec4) := goodIn_app (goodIn_of _ (by decide +kernel)) ggX2_lineOf_J4_append_15ec4
set_option maxRecDepth 20000 in
theorem ggX2_lineOf_X2_isLost : GoodIn wsX2_lineOf wsX2_isLost := goodIn_r _ [223, 224, 225, 226, 227, 222, 228, 229, 242, 243, 244, 245, 246, 247, 248, 249, 250, 251, 252, 253, 254, 255, 256] (by decide +kernel) (by decide +kernel)
set_option maxRecDepth 20000 in
theorem gX2_lineOf_X2_isLost : GoodIn wsX2_lineOf (wsV RX2 146 RX2 yX2_isLost wsX2_isLost) := goodIn_app (goodIn_of _ (by decide +kernel)) ggX2_lineOf_X2_isLost
set_option maxRecDepth 20000 in
theorem ggX2_lineOf_X2_isBanned : GoodIn wsX2_lineOf wsX2_isBanned := goodIn_r _ [233, 234, 235, 236, 222, 237, 242, 243, 244, 245, 246, 247, 248, 249, 250, 251, 252, 253, 254, 255, 256] (by decide +kernel) (by decide +kernel)
set_option maxRecDepth 20000 in
theorem gX2_lineOf_X2_isBanned : GoodIn wsX2_lineOf (wsV RX2 149 RX2 yX2_isBanned wsX2_isBanned) := goodIn_app (goodIn_of _ (by decide +kernel)) ggX2_lineOf_X2_isBanned
theorem dX2_lineOf_0 : decode cX2_lineOf 0 = .ok (.new 126, 3) := by decide +kernel
theorem dX2_lineOf_3 : decode cX2_lineOf 3 = .ok (.dup, 1) := by decide +kernel
theorem dX2_lineOf_4 : decode cX2_lineOf 4 = .ok (.invokespecial 128, 3) := by decide +kernel
theorem dX2_lineOf_7 : decode cX2_lineOf 7 = .ok (.astore_n 2, 1) := by decide +kernel
theorem dX2_lineOf_8 : decode cX2_lineOf 8 = .ok (.aload_n 0, 1) := by decide +kernel
theorem dX2_lineOf_9 : decode cX2_lineOf 9 = .ok (.getfield 39, 3) := by decide +kernel
theorem dX2_lineOf_12 : decode cX2_lineOf 12 = .ok (.iload_n 1, 1) := by decide +kernel
theorem dX2_lineOf_13 : decode cX2_lineOf 13 = .ok (.iconst 0, 1) := by decide +kernel
theorem dX2_lineOf_14 : decode cX2_lineOf 14 = .ok (.invokevirtual 129, 3) := by decide +kernel
theorem dX2_lineOf_17 : decode cX2_lineOf 17 = .ok (.istore_n 3, 1) := by decide +kernel
theorem dX2_lineOf_18 : decode cX2_lineOf 18 = .ok (.aload_n 0, 1) := by decide +kernel
theorem dX2_lineOf_19 : decode cX2_lineOf 19 = .ok (.getfield 39, 3) := by decide +kernel
theorem dX2_lineOf_22 : decode cX2_lineOf 22 = .ok (.iload_n 1, 1) := by decide +kernel
theorem dX2_lineOf_23 : decode cX2_lineOf 23 = .ok (.iconst 3, 1) := by decide +kernel
theorem dX2_lineOf_24 : decode cX2_lineOf 24 = .ok (.invokevirtual 129, 3) := by decide +kernel
theorem dX2_lineOf_27 : decode cX2_lineOf 27 = .ok (.istore 4, 2) := by decide +kernel
theorem dX2_lineOf_29 : decode cX2_lineOf 29 = .ok (.aload_n 0, 1) := by decide +kernel
theorem dX2_lineOf_30 : decode cX2_lineOf 30 = .ok (.getfield 39, 3) := by decide +kernel
theorem dX2_lineOf_33 : decode cX2_lineOf 33 = .ok (.iload_n 1, 1) := by decide +kernel
theorem dX2_lineOf_34 : decode cX2_lineOf 34 = .ok (.iconst 4, 1) := by decide +kernel
theorem dX2_lineOf_35 : decode cX2_lineOf 35 = .ok (.invokevirtual 129, 3) := by decide +kernel
theorem dX2_lineOf_38 : decode cX2_lineOf 38 = .ok (.istore 5, 2) := by decide +kernel
theorem dX2_lineOf_40 : decode cX2_lineOf 40 = .ok (.aload_n 0, 1) := by decide +kernel
theorem dX2_lineOf_41 : decode cX2_lineOf 41 = .ok (.getfield 39, 3) := by decide +kernel
theorem dX2_lineOf_44 : decode cX2_lineOf 44 = .ok (.iload_n 1, 1) := by decide +kernel
theorem dX2_lineOf_45 : decode cX2_lineOf 45 = .ok (.iconst 5, 1) := by decide +kernel
theorem dX2_lineOf_46 : decode cX2_lineOf 46 = .ok (.invokevirtual 129, 3) := by decide +kernel
theorem dX2_lineOf_49 : decode cX2_lineOf 49 = .ok (.istore 6, 2) := by decide +kernel
theorem dX2_lineOf_51 : decode cX2_lineOf 51 = .ok (.aload_n 2, 1) := by decide +kernel
theorem dX2_lineOf_52 : decode cX2_lineOf 52 = .ok (.iload_n 3, 1) := by decide +kernel
theorem dX2_lineOf_53 : decode cX2_lineOf 53 = .ok (.invokevirtual 132, 3) := by decide +kernel
theorem dX2_lineOf_56 : decode cX2_lineOf 56 = .ok (.bipush 100, 2) := by decide +kernel
theorem dX2_lineOf_58 : decode cX2_lineOf 58 = .ok (.invokevirtual 136, 3) := by decide +kernel
theorem dX2_lineOf_61 : decode cX2_lineOf 61 = .ok (.pop, 1) := by decide +kernel
theorem dX2_lineOf_62 : decode cX2_lineOf 62 = .ok (.aload_n 2, 1) := by decide +kernel
theorem dX2_lineOf_63 : decode cX2_lineOf 63 = .ok (.aload_n 0, 1) := by decide +kernel
theorem dX2_lineOf_64 : decode cX2_lineOf 64 = .ok (.getfield 39, 3) := by decide +kernel
theorem dX2_lineOf_67 : decode cX2_lineOf 67 = .ok (.iload_n 1, 1) := by decide +kernel
theorem dX2_lineOf_68 : decode cX2_lineOf 68 = .ok (.iconst 1, 1) := by decide +kernel
theorem dX2_lineOf_69 : decode cX2_lineOf 69 = .ok (.invokevirtual 129, 3) := by decide +kernel
theorem dX2_lineOf_72 : decode cX2_lineOf 72 = .ok (.invokevirtual 132, 3) := by decide +kernel
theorem dX2_lineOf_75 : decode cX2_lineOf 75 = .ok (.bipush 104, 2) := by decide +kernel
theorem dX2_lineOf_77 : decode cX2_lineOf 77 = .ok (.invokevirtual 136, 3) := by decide +kernel
theorem dX2_lineOf_80 : decode cX2_lineOf 80 = .ok (.pop, 1) := by decide +kernel
theorem dX2_lineOf_81 : decode cX2_lineOf 81 = .ok (.aload_n 2, 1) := by decide +kernel
theorem dX2_lineOf_82 : decode cX2_lineOf 82 = .ok (.aload_n 0, 1) := by decide +kernel
theorem dX2_lineOf_83 : decode cX2_lineOf 83 = .ok (.getfield 39, 3) := by decide +kernel
theorem dX2_lineOf_86 : decode cX2_lineOf 86 = .ok (.iload_n 1, 1) := by decide +kernel
theorem dX2_lineOf_87 : decode cX2_lineOf 87 = .ok (.iconst 2, 1) := by decide +kernel
theorem dX2_lineOf_88 : decode cX2_lineOf 88 = .ok (.invokevirtual 129, 3) := by decide +kernel
theorem dX2_lineOf_91 : decode cX2_lineOf 91 = .ok (.invokevirtual 132, 3) := by decide +kernel
theorem dX2_lineOf_94 : decode cX2_lineOf 94 = .ok (.pop, 1) := by decide +kernel
theorem dX2_lineOf_95 : decode cX2_lineOf 95 = .ok (.aload_n 2, 1) := by decide +kernel
theorem dX2_lineOf_96 : decode cX2_lineOf 96 = .ok (.ldc 139, 2) := by decide +kernel
theorem dX2_lineOf_98 : decode cX2_lineOf 98 = .ok (.invokevirtual 141, 3) := by decide +kernel
theorem dX2_lineOf_101 : decode cX2_lineOf 101 = .ok (.iload 4, 2) := by decide +kernel
theorem dX2_lineOf_103 : decode cX2_lineOf 103 = .ok (.invokevirtual 132, 3) := by decide +kernel
theorem dX2_lineOf_106 : decode cX2_lineOf 106 = .ok (.ldc 144, 2) := by decide +kernel
theorem dX2_lineOf_108 : decode cX2_lineOf 108 = .ok (.invokevirtual 141, 3) := by decide +kernel
theorem dX2_lineOf_111 : decode cX2_lineOf 111 = .ok (.iload 5, 2) := by decide +kernel
theorem dX2_lineOf_113 : decode cX2_lineOf 113 = .ok (.invokevirtual 132, 3) := by decide +kernel
theorem dX2_lineOf_116 : decode cX2_lineOf 116 = .ok (.pop, 1) := by decide +kernel
theorem dX2_lineOf_117 : decode cX2_lineOf 117 = .ok (.iload 6, 2) := by decide +kernel
theorem dX2_lineOf_119 : decode cX2_lineOf 119 = .ok (.ifCond .le 15, 3) := by decide +kernel
theorem dX2_lineOf_122 : decode cX2_lineOf 122 = .ok (.aload_n 2, 1) := by decide +kernel
theorem dX2_lineOf_123 : decode cX2_lineOf 123 = .ok (.bipush 43, 2) := by decide +kernel
theorem dX2_lineOf_125 : decode cX2_lineOf 125 = .ok (.invokevirtual 136, 3) := by decide +kernel
theorem dX2_lineOf_128 : decode cX2_lineOf 128 = .ok (.iload 6, 2) := by decide +kernel
theorem dX2_lineOf_130 : decode cX2_lineOf 130 = .ok (.invokevirtual 132, 3) := by decide +kernel
theorem dX2_lineOf_133 : decode cX2_lineOf 133 = .ok (.pop, 1) := by decide +kernel
theorem dX2_lineOf_134 : decode cX2_lineOf 134 = .ok (.aload_n 0, 1) := by decide +kernel
theorem dX2_lineOf_135 : decode cX2_lineOf 135 = .ok (.iload 4, 2) := by decide +kernel
theorem dX2_lineOf_137 : decode cX2_lineOf 137 = .ok (.iload_n 3, 1) := by decide +kernel
theorem dX2_lineOf_138 : decode cX2_lineOf 138 = .ok (.invokevirtual 146, 3) := by decide +kernel
theorem dX2_lineOf_141 : decode cX2_lineOf 141 = .ok (.ifCond .ne 13, 3) := by decide +kernel
theorem dX2_lineOf_144 : decode cX2_lineOf 144 = .ok (.aload_n 0, 1) := by decide +kernel
theorem dX2_lineOf_145 : decode cX2_lineOf 145 = .ok (.iload 5, 2) := by decide +kernel
theorem dX2_lineOf_147 : decode cX2_lineOf 147 = .ok (.iload_n 3, 1) := by decide +kernel
theorem dX2_lineOf_148 : decode cX2_lineOf 148 = .ok (.invokevirtual 149, 3) := by decide +kernel
theorem dX2_lineOf_151 : decode cX2_lineOf 151 = .ok (.ifCond .eq 10, 3) := by decide +kernel
theorem dX2_lineOf_154 : decode cX2_lineOf 154 = .ok (.aload_n 2, 1) := by decide +kernel
theorem dX2_lineOf_155 : decode cX2_lineOf 155 = .ok (.bipush 33, 2) := by decide +kernel
theorem dX2_lineOf_157 : decode cX2_lineOf 157 = .ok (.invokevirtual 136, 3) := by decide +kernel
theorem dX2_lineOf_160 : decode cX2_lineOf 160 = .ok (.pop, 1) := by decide +kernel
theorem dX2_lineOf_161 : decode cX2_lineOf 161 = .ok (.aload_n 2, 1) := by decide +kernel
theorem dX2_lineOf_162 : decode cX2_lineOf 162 = .ok (.areturn, 1) := by decide +kernel
set_option maxRecDepth 20000 in
theorem ggX2_isLost_X2_hasPrisoner : GoodIn wsX2_isLost wsX2_hasPrisoner := goodIn_r _ [6, 7, 8, 9, 10, 11, 12, 13, 14, 15, 16, 17, 18, 19, 20, 21, 22] (by decide +kernel) (by decide +kernel)
set_option maxRecDepth 20000 in
theorem gX2_isLost_X2_hasPrisoner : GoodIn wsX2_isLost (wsV RX2 87 RX2 yX2_hasPrisoner wsX2_hasPrisoner) := goodIn_app (goodIn_of _ (by decide +kernel)) ggX2_isLost_X2_hasPrisoner
theorem dX2_isLost_0 : decode cX2_isLost 0 = .ok (.aload_n 0, 1) := by decide +kernel
theorem dX2_isLost_1 : decode cX2_isLost 1 = .ok (.iload_n 1, 1) := by decide +kernel
theorem dX2_isLost_2 : decode cX2_isLost 2 = .ok (.invokevirtual 87, 3) := by decide +kernel
theorem dX2_isLost_5 : decode cX2_isLost 5 = .ok (.ifCond .eq 17, 3) := by decide +kernel
theorem dX2_isLost_8 : decode cX2_isLost 8 = .ok (.iload_n 2, 1) := by decide +kernel
theorem dX2_isLost_9 : decode cX2_isLost 9 = .ok (.aload_n 0, 1) := by decide +kernel
theorem dX2_isLost_10 : decode cX2_isLost 10 = .ok (.getfield 18, 3) := by decide +kernel
theorem dX2_isLost_13 : decode cX2_isLost 13 = .ok (.iload_n 1, 1) := by decide +kernel
theorem dX2_isLost_14 : decode cX2_isLost 14 = .ok (.iaload, 1) := by decide +kernel
theorem dX2_isLost_15 : decode cX2_isLost 15 = .ok (.if_icmp .ge 7, 3) := by decide +kernel
theorem dX2_isLost_18 : decode cX2_isLost 18 = .ok (.iconst 1, 1) := by decide +kernel
theorem dX2_isLost_19 : decode cX2_isLost 19 = .ok (.goto 4, 3) := by decide +kernel
theorem dX2_isLost_22 : decode cX2_isLost 22 = .ok (.iconst 0, 1) := by decide +kernel
theorem dX2_isLost_23 : decode cX2_isLost 23 = .ok (.ireturn, 1) := by decide +kernel
set_option maxRecDepth 20000 in
theorem ggX2_isBanned_X2_hasVisitor : GoodIn wsX2_isBanned wsX2_hasVisitor := goodIn_r _ [5] (by decide +kernel) (by decide +kernel)
set_option maxRecDepth 20000 in
theorem gX2_isBanned_X2_hasVisitor : GoodIn wsX2_isBanned (va_wsS RX2 91 yX2_hasVisitor wsX2_hasVisitor) := goodIn_app (goodIn_of _ (by decide +kernel)) ggX2_isBanned_X2_hasVisitor
theorem dX2_isBanned_0 : decode cX2_isBanned 0 = .ok (.iload_n 1, 1) := by decide +kernel
theorem dX2_isBanned_1 : decode cX2_isBanned 1 = .ok (.invokestatic 91, 3) := by decide +kernel
theorem dX2_isBanned_4 : decode cX2_isBanned 4 = .ok (.ifCond .eq 17, 3) := by decide +kernel
theorem dX2_isBanned_7 : decode cX2_isBanned 7 = .ok (.iload_n 2, 1) := by decide +kernel
theorem dX2_isBanned_8 : decode cX2_isBanned 8 = .ok (.aload_n 0, 1) := by decide +kernel
theorem dX2_isBanned_9 : decode cX2_isBanned 9 = .ok (.getfield 33, 3) := by decide +kernel
theorem dX2_isBanned_12 : decode cX2_isBanned 12 = .ok (.iload_n 1, 1) := by decide +kernel
theorem dX2_isBanned_13 : decode cX2_isBanned 13 = .ok (.iaload, 1) := by decide +kernel
theorem dX2_isBanned_14 : decode cX2_isBanned 14 = .ok (.if_icmp .ge 7, 3) := by decide +kernel
theorem dX2_isBanned_17 : decode cX2_isBanned 17 = .ok (.iconst 1, 1) := by decide +kernel
theorem dX2_isBanned_18 : decode cX2_isBanned 18 = .ok (.goto 4, 3) := by decide +kernel
theorem dX2_isBanned_21 : decode cX2_isBanned 21 = .ok (.iconst 0, 1) := by decide +kernel
theorem dX2_isBanned_22 : decode cX2_isBanned 22 = .ok (.ireturn, 1) := by decide +kernel
set_option maxRecDepth 20000 in
theorem ggX2_reasonAgainst_X2_reasonOnDay : GoodIn wsX2_reasonAgainst wsX2_reasonOnDay := goodIn_r _ [5, 6, 7, 8, 9, 10, 11, 12, 13, 14, 15, 4, 16, 17, 18, 19, 20, 21, 22, 23, 24, 25, 26, 27, 28, 29, 30, 31, 32, 33, 48, 49, 50, 51, 52, 53, 54, 55, 56, 57, 58, 59, 60, 61, 62, 63, 64] (by decide +kernel) (by decide +kernel)
set_option maxRecDepth 20000 in
theorem gX2_reasonAgainst_X2_reasonOnDay : GoodIn wsX2_reasonAgainst (wsV RX2 152 RX2 yX2_reasonOnDay wsX2_reasonOnDay) := goodIn_app (goodIn_of _ (by decide +kernel)) ggX2_reasonAgainst_X2_reasonOnDay
set_option maxRecDepth 20000 in
theorem ggX2_reasonAgainst_X2_reasonInHour : GoodIn wsX2_reasonAgainst wsX2_reasonInHour := goodIn_r _ [37, 11, 38, 39, 40, 41, 42, 30, 43, 32, 33, 21, 22, 23, 13, 14, 15, 4, 16, 17, 44, 45, 46, 47, 48, 49, 50, 51, 52, 53, 54, 55, 56, 57, 58, 59, 60, 61, 62, 63, 64] (by decide +kernel) (by decide +kernel)
set_option maxRecDepth 20000 in
theorem gX2_reasonAgainst_X2_reasonInHour : GoodIn wsX2_reasonAgainst (wsV RX2 156 RX2 yX2_reasonInHour wsX2_reasonInHour) := goodIn_app (goodIn_of _ (by decide +kernel)) ggX2_reasonAgainst_X2_reasonInHour
theorem dX2_reasonAgainst_0 : decode cX2_reasonAgainst 0 = .ok (.aload_n 0, 1) := by decide +kernel
theorem dX2_reasonAgainst_1 : decode cX2_reasonAgainst 1 = .ok (.iload_n 1, 1) := by decide +kernel
theorem dX2_reasonAgainst_2 : decode cX2_reasonAgainst 2 = .ok (.iload_n 2, 1) := by decide +kernel
theorem dX2_reasonAgainst_3 : decode cX2_reasonAgainst 3 = .ok (.iload_n 3, 1) := by decide +kernel
theorem dX2_reasonAgainst_4 : decode cX2_reasonAgainst 4 = .ok (.invokevirtual 152, 3) := by decide +kernel
theorem dX2_reasonAgainst_7 : decode cX2_reasonAgainst 7 = .ok (.istore 5, 2) := by decide +kernel
theorem dX2_reasonAgainst_9 : decode cX2_reasonAgainst 9 = .ok (.iload 5, 2) := by decide +kernel
theorem dX2_reasonAgainst_11 : decode cX2_reasonAgainst 11 = .ok (.ifCond .eq 8, 3) := by decide +kernel
theorem dX2_reasonAgainst_14 : decode cX2_reasonAgainst 14 = .ok (.iload 5, 2) := by decide +kernel
theorem dX2_reasonAgainst_16 : decode cX2_reasonAgainst 16 = .ok (.goto 12, 3) := by decide +kernel
theorem dX2_reasonAgainst_19 : decode cX2_reasonAgainst 19 = .ok (.aload_n 0, 1) := by decide +kernel
theorem dX2_reasonAgainst_20 : decode cX2_reasonAgainst 20 = .ok (.iload_n 1, 1) := by decide +kernel
theorem dX2_reasonAgainst_21 : decode cX2_reasonAgainst 21 = .ok (.iload_n 2, 1) := by decide +kernel
theorem dX2_reasonAgainst_22 : decode cX2_reasonAgainst 22 = .ok (.iload_n 3, 1) := by decide +kernel
theorem dX2_reasonAgainst_23 : decode cX2_reasonAgainst 23 = .ok (.iload 4, 2) := by decide +kernel
theorem dX2_reasonAgainst_25 : decode cX2_reasonAgainst 25 = .ok (.invokevirtual 156, 3) := by decide +kernel
theorem dX2_reasonAgainst_28 : decode cX2_reasonAgainst 28 = .ok (.ireturn, 1) := by decide +kernel
set_option maxRecDepth 20000 in
theorem ggX2_reasonOnDay_X2_hasPrisoner : GoodIn wsX2_reasonOnDay wsX2_hasPrisoner := goodIn_r _ [12, 13, 30, 31, 32, 33, 34, 35, 36, 37, 38, 39, 40, 41, 42, 43, 44] (by decide +kernel) (by decide +kernel)
set_option maxRecDepth 20000 in
theorem gX2_reasonOnDay_X2_hasPrisoner : GoodIn wsX2_reasonOnDay (wsV RX2 87 RX2 yX2_hasPrisoner wsX2_hasPrisoner) := goodIn_app (goodIn_of _ (by decide +kernel)) ggX2_reasonOnDay_X2_hasPrisoner
set_option maxRecDepth 20000 in
theorem ggX2_reasonOnDay_X2_hasVisitor : GoodIn wsX2_reasonOnDay wsX2_hasVisitor := goodIn_r _ [16] (by decide +kernel) (by decide +kernel)
set_option maxRecDepth 20000 in
theorem gX2_reasonOnDay_X2_hasVisitor : GoodIn wsX2_reasonOnDay (va_wsS RX2 91 yX2_hasVisitor wsX2_hasVisitor) := goodIn_app (goodIn_of _ (by decide +kernel)) ggX2_reasonOnDay_X2_hasVisitor
set_option maxRecDepth 20000 in
theorem ggX2_reasonOnDay_X7_hasBit : GoodIn wsX2_reasonOnDay wsX7_hasBit := goodIn_r _ [19] (by decide +kernel) (by decide +kernel)
set_option maxRecDepth 20000 in
theorem gX2_reasonOnDay_X7_hasBit_n115 : GoodIn wsX2_reasonOnDay (wsX7_hasBit) := ggX2_reasonOnDay_X7_hasBit
set_option maxRecDepth 20000 in
theorem ggX2_reasonOnDay_X2_weekOf : GoodIn wsX2_reasonOnDay wsX2_weekOf := goodIn_r _ [22] (by decide +kernel) (by decide +kernel)
set_option maxRecDepth 20000 in
theorem gX2_reasonOnDay_X2_weekOf : GoodIn wsX2_reasonOnDay (va_wsS RX2 102 yX2_weekOf wsX2_weekOf) := goodIn_app (goodIn_of _ (by decide +kernel)) ggX2_reasonOnDay_X2_weekOf
set_option maxRecDepth 20000 in
theorem ggX2_reasonOnDay_X0_countInWeek : GoodIn wsX2_reasonOnDay wsX0_countInWeek := goodIn_r _ [27, 28, 29, 45, 46] (by decide +kernel) (by decide +kernel)
set_option maxRecDepth 20000 in
theorem gX2_reasonOnDay_X0_countInWeek : GoodIn wsX2_reasonOnDay (wsV RX2 106 RX0 yX0_countInWeek wsX0_countInWeek) := goodIn_app (goodIn_of _ (by decide +kernel)) ggX2_reasonOnDay_X0_countInWeek
theorem dX2_reasonOnDay_0 : decode cX2_reasonOnDay 0 = .ok (.aload_n 0, 1) := by decide +kernel
theorem dX2_reasonOnDay_1 : decode cX2_reasonOnDay 1 = .ok (.iload_n 1, 1) := by decide +kernel
theorem dX2_reasonOnDay_2 : decode cX2_reasonOnDay 2 = .ok (.invokevirtual 87, 3) := by decide +kernel
theorem dX2_reasonOnDay_5 : decode cX2_reasonOnDay 5 = .ok (.ifCond .eq 23, 3) := by decide +kernel
theorem dX2_reasonOnDay_8 : decode cX2_reasonOnDay 8 = .ok (.iload_n 2, 1) := by decide +kernel
theorem dX2_reasonOnDay_9 : decode cX2_reasonOnDay 9 = .ok (.invokestatic 91, 3) := by decide +kernel
theorem dX2_reasonOnDay_12 : decode cX2_reasonOnDay 12 = .ok (.ifCond .eq 16, 3) := by decide +kernel
theorem dX2_reasonOnDay_15 : decode cX2_reasonOnDay 15 = .ok (.aload_n 0, 1) := by decide +kernel
theorem dX2_reasonOnDay_16 : decode cX2_reasonOnDay 16 = .ok (.getfield 15, 3) := by decide +kernel
theorem dX2_reasonOnDay_19 : decode cX2_reasonOnDay 19 = .ok (.iload_n 1, 1) := by decide +kernel
theorem dX2_reasonOnDay_20 : decode cX2_reasonOnDay 20 = .ok (.iaload, 1) := by decide +kernel
theorem dX2_reasonOnDay_21 : decode cX2_reasonOnDay 21 = .ok (.iload_n 2, 1) := by decide +kernel
theorem dX2_reasonOnDay_22 : decode cX2_reasonOnDay 22 = .ok (.invokestatic 115, 3) := by decide +kernel
theorem dX2_reasonOnDay_25 : decode cX2_reasonOnDay 25 = .ok (.ifCond .ne 5, 3) := by decide +kernel
theorem dX2_reasonOnDay_28 : decode cX2_reasonOnDay 28 = .ok (.iconst 1, 1) := by decide +kernel
theorem dX2_reasonOnDay_29 : decode cX2_reasonOnDay 29 = .ok (.ireturn, 1) := by decide +kernel
theorem dX2_reasonOnDay_30 : decode cX2_reasonOnDay 30 = .ok (.iload_n 3, 1) := by decide +kernel
theorem dX2_reasonOnDay_31 : decode cX2_reasonOnDay 31 = .ok (.aload_n 0, 1) := by decide +kernel
theorem dX2_reasonOnDay_32 : decode cX2_reasonOnDay 32 = .ok (.getfield 18, 3) := by decide +kernel
theorem dX2_reasonOnDay_35 : decode cX2_reasonOnDay 35 = .ok (.iload_n 1, 1) := by decide +kernel
theorem dX2_reasonOnDay_36 : decode cX2_reasonOnDay 36 = .ok (.iaload, 1) := by decide +kernel
theorem dX2_reasonOnDay_37 : decode cX2_reasonOnDay 37 = .ok (.if_icmp .ge 5, 3) := by decide +kernel
theorem dX2_reasonOnDay_40 : decode cX2_reasonOnDay 40 = .ok (.iconst 2, 1) := by decide +kernel
theorem dX2_reasonOnDay_41 : decode cX2_reasonOnDay 41 = .ok (.ireturn, 1) := by decide +kernel
theorem dX2_reasonOnDay_42 : decode cX2_reasonOnDay 42 = .ok (.iload_n 3, 1) := by decide +kernel
theorem dX2_reasonOnDay_43 : decode cX2_reasonOnDay 43 = .ok (.aload_n 0, 1) := by decide +kernel
theorem dX2_reasonOnDay_44 : decode cX2_reasonOnDay 44 = .ok (.getfield 33, 3) := by decide +kernel
theorem dX2_reasonOnDay_47 : decode cX2_reasonOnDay 47 = .ok (.iload_n 2, 1) := by decide +kernel
theorem dX2_reasonOnDay_48 : decode cX2_reasonOnDay 48 = .ok (.iaload, 1) := by decide +kernel
theorem dX2_reasonOnDay_49 : decode cX2_reasonOnDay 49 = .ok (.if_icmp .ge 5, 3) := by decide +kernel
theorem dX2_reasonOnDay_52 : decode cX2_reasonOnDay 52 = .ok (.iconst 3, 1) := by decide +kernel
theorem dX2_reasonOnDay_53 : decode cX2_reasonOnDay 53 = .ok (.ireturn, 1) := by decide +kernel
theorem dX2_reasonOnDay_54 : decode cX2_reasonOnDay 54 = .ok (.iload_n 3, 1) := by decide +kernel
theorem dX2_reasonOnDay_55 : decode cX2_reasonOnDay 55 = .ok (.invokestatic 102, 3) := by decide +kernel
theorem dX2_reasonOnDay_58 : decode cX2_reasonOnDay 58 = .ok (.aload_n 0, 1) := by decide +kernel
theorem dX2_reasonOnDay_59 : decode cX2_reasonOnDay 59 = .ok (.getfield 64, 3) := by decide +kernel
theorem dX2_reasonOnDay_62 : decode cX2_reasonOnDay 62 = .ok (.invokestatic 102, 3) := by decide +kernel
theorem dX2_reasonOnDay_65 : decode cX2_reasonOnDay 65 = .ok (.if_icmp .ne 12, 3) := by decide +kernel
theorem dX2_reasonOnDay_68 : decode cX2_reasonOnDay 68 = .ok (.aload_n 0, 1) := by decide +kernel
theorem dX2_reasonOnDay_69 : decode cX2_reasonOnDay 69 = .ok (.getfield 24, 3) := by decide +kernel
theorem dX2_reasonOnDay_72 : decode cX2_reasonOnDay 72 = .ok (.iload_n 1, 1) := by decide +kernel
theorem dX2_reasonOnDay_73 : decode cX2_reasonOnDay 73 = .ok (.iaload, 1) := by decide +kernel
theorem dX2_reasonOnDay_74 : decode cX2_reasonOnDay 74 = .ok (.goto 4, 3) := by decide +kernel
theorem dX2_reasonOnDay_77 : decode cX2_reasonOnDay 77 = .ok (.iconst 0, 1) := by decide +kernel
theorem dX2_reasonOnDay_78 : decode cX2_reasonOnDay 78 = .ok (.istore 4, 2) := by decide +kernel
theorem dX2_reasonOnDay_80 : decode cX2_reasonOnDay 80 = .ok (.iload 4, 2) := by decide +kernel
theorem dX2_reasonOnDay_82 : decode cX2_reasonOnDay 82 = .ok (.aload_n 0, 1) := by decide +kernel
theorem dX2_reasonOnDay_83 : decode cX2_reasonOnDay 83 = .ok (.getfield 39, 3) := by decide +kernel
theorem dX2_reasonOnDay_86 : decode cX2_reasonOnDay 86 = .ok (.iload_n 1, 1) := by decide +kernel
theorem dX2_reasonOnDay_87 : decode cX2_reasonOnDay 87 = .ok (.iload_n 3, 1) := by decide +kernel
theorem dX2_reasonOnDay_88 : decode cX2_reasonOnDay 88 = .ok (.invokestatic 102, 3) := by decide +kernel
theorem dX2_reasonOnDay_91 : decode cX2_reasonOnDay 91 = .ok (.invokevirtual 106, 3) := by decide +kernel
theorem dX2_reasonOnDay_94 : decode cX2_reasonOnDay 94 = .ok (.iadd, 1) := by decide +kernel
theorem dX2_reasonOnDay_95 : decode cX2_reasonOnDay 95 = .ok (.aload_n 0, 1) := by decide +kernel
theorem dX2_reasonOnDay_96 : decode cX2_reasonOnDay 96 = .ok (.getfield 11, 3) := by decide +kernel
theorem dX2_reasonOnDay_99 : decode cX2_reasonOnDay 99 = .ok (.iload_n 1, 1) := by decide +kernel
theorem dX2_reasonOnDay_100 : decode cX2_reasonOnDay 100 = .ok (.iaload, 1) := by decide +kernel
theorem dX2_reasonOnDay_101 : decode cX2_reasonOnDay 101 = .ok (.if_icmp .le 7, 3) := by decide +kernel
theorem dX2_reasonOnDay_104 : decode cX2_reasonOnDay 104 = .ok (.iconst 4, 1) := by decide +kernel
theorem dX2_reasonOnDay_105 : decode cX2_reasonOnDay 105 = .ok (.goto 4, 3) := by decide +kernel
theorem dX2_reasonOnDay_108 : decode cX2_reasonOnDay 108 = .ok (.iconst 0, 1) := by decide +kernel
theorem dX2_reasonOnDay_109 : decode cX2_reasonOnDay 109 = .ok (.ireturn, 1) := by decide +kernel
set_option maxRecDepth 20000 in
theorem ggX2_reasonInHour_X0_valuesInHour : GoodIn wsX2_reasonInHour wsX0_valuesInHour := goodIn_r _ [8, 9, 10, 39, 40] (by decide +kernel) (by decide +kernel)
set_option maxRecDepth 20000 in
theorem gX2_reasonInHour_X0_valuesInHour : GoodIn wsX2_reasonInHour (wsV RX2 160 RX0 yX0_valuesInHour wsX0_valuesInHour) := goodIn_app (goodIn_of _ (by decide +kernel)) ggX2_reasonInHour_X0_valuesInHour
set_option maxRecDepth 20000 in
theorem ggX2_reasonInHour_X7_hasBit : GoodIn wsX2_reasonInHour wsX7_hasBit := goodIn_r _ [13] (by decide +kernel) (by decide +kernel)
set_option maxRecDepth 20000 in
theorem gX2_reasonInHour_X7_hasBit_n115 : GoodIn wsX2_reasonInHour (wsX7_hasBit) := ggX2_reasonInHour_X7_hasBit
set_option maxRecDepth 20000 in
theorem ggX2_reasonInHour_X2_hasPrisoner : GoodIn wsX2_reasonInHour wsX2_hasPrisoner := goodIn_r _ [18, 19, 24, 25, 26, 27, 28, 29, 30, 31, 32, 33, 34, 35, 36, 37, 38] (by decide +kernel) (by decide +kernel)
set_option maxRecDepth 20000 in
theorem gX2_reasonInHour_X2_hasPrisoner : GoodIn wsX2_reasonInHour (wsV RX2 87 RX2 yX2_hasPrisoner wsX2_hasPrisoner) := goodIn_app (goodIn_of _ (by decide +kernel)) ggX2_reasonInHour_X2_hasPrisoner
set_option maxRecDepth 20000 in
theorem ggX2_reasonInHour_X0_isFull : GoodIn wsX2_reasonInHour wsX0_isFull := goodIn_r _ [23, 9, 39, 40] (by decide +kernel) (by decide +kernel)
set_option maxRecDepth 20000 in
theorem gX2_reasonInHour_X0_isFull : GoodIn wsX2_reasonInHour (wsV RX2 163 RX0 yX0_isFull wsX0_isFull) := goodIn_app (goodIn_of _ (by decide +kernel)) ggX2_reasonInHour_X0_isFull
theorem dX2_reasonInHour_0 : decode cX2_reasonInHour 0 = .ok (.aload_n 0, 1) := by decide +kernel
theorem dX2_reasonInHour_1 : decode cX2_reasonInHour 1 = .ok (.getfield 39, 3) := by decide +kernel
theorem dX2_reasonInHour_4 : decode cX2_reasonInHour 4 = .ok (.iconst 3, 1) := by decide +kernel
theorem dX2_reasonInHour_5 : decode cX2_reasonInHour 5 = .ok (.iload_n 3, 1) := by decide +kernel
theorem dX2_reasonInHour_6 : decode cX2_reasonInHour 6 = .ok (.iload 4, 2) := by decide +kernel
theorem dX2_reasonInHour_8 : decode cX2_reasonInHour 8 = .ok (.invokevirtual 160, 3) := by decide +kernel
theorem dX2_reasonInHour_11 : decode cX2_reasonInHour 11 = .ok (.istore 5, 2) := by decide +kernel
theorem dX2_reasonInHour_13 : decode cX2_reasonInHour 13 = .ok (.aload_n 0, 1) := by decide +kernel
theorem dX2_reasonInHour_14 : decode cX2_reasonInHour 14 = .ok (.getfield 39, 3) := by decide +kernel
theorem dX2_reasonInHour_17 : decode cX2_reasonInHour 17 = .ok (.iconst 4, 1) := by decide +kernel
theorem dX2_reasonInHour_18 : decode cX2_reasonInHour 18 = .ok (.iload_n 3, 1) := by decide +kernel
theorem dX2_reasonInHour_19 : decode cX2_reasonInHour 19 = .ok (.iload 4, 2) := by decide +kernel
theorem dX2_reasonInHour_21 : decode cX2_reasonInHour 21 = .ok (.invokevirtual 160, 3) := by decide +kernel
theorem dX2_reasonInHour_24 : decode cX2_reasonInHour 24 = .ok (.istore 6, 2) := by decide +kernel
theorem dX2_reasonInHour_26 : decode cX2_reasonInHour 26 = .ok (.iload 5, 2) := by decide +kernel
theorem dX2_reasonInHour_28 : decode cX2_reasonInHour 28 = .ok (.iload_n 1, 1) := by decide +kernel
theorem dX2_reasonInHour_29 : decode cX2_reasonInHour 29 = .ok (.invokestatic 115, 3) := by decide +kernel
theorem dX2_reasonInHour_32 : decode cX2_reasonInHour 32 = .ok (.ifCond .ne 12, 3) := by decide +kernel
theorem dX2_reasonInHour_35 : decode cX2_reasonInHour 35 = .ok (.iload 6, 2) := by decide +kernel
theorem dX2_reasonInHour_37 : decode cX2_reasonInHour 37 = .ok (.iload_n 2, 1) := by decide +kernel
theorem dX2_reasonInHour_38 : decode cX2_reasonInHour 38 = .ok (.invokestatic 115, 3) := by decide +kernel
theorem dX2_reasonInHour_41 : decode cX2_reasonInHour 41 = .ok (.ifCond .eq 5, 3) := by decide +kernel
theorem dX2_reasonInHour_44 : decode cX2_reasonInHour 44 = .ok (.iconst 5, 1) := by decide +kernel
theorem dX2_reasonInHour_45 : decode cX2_reasonInHour 45 = .ok (.ireturn, 1) := by decide +kernel
theorem dX2_reasonInHour_46 : decode cX2_reasonInHour 46 = .ok (.aload_n 0, 1) := by decide +kernel
theorem dX2_reasonInHour_47 : decode cX2_reasonInHour 47 = .ok (.iload_n 1, 1) := by decide +kernel
theorem dX2_reasonInHour_48 : decode cX2_reasonInHour 48 = .ok (.invokevirtual 87, 3) := by decide +kernel
theorem dX2_reasonInHour_51 : decode cX2_reasonInHour 51 = .ok (.ifCond .eq 18, 3) := by decide +kernel
theorem dX2_reasonInHour_54 : decode cX2_reasonInHour 54 = .ok (.iload 5, 2) := by decide +kernel
theorem dX2_reasonInHour_56 : decode cX2_reasonInHour 56 = .ok (.aload_n 0, 1) := by decide +kernel
theorem dX2_reasonInHour_57 : decode cX2_reasonInHour 57 = .ok (.getfield 27, 3) := by decide +kernel
theorem dX2_reasonInHour_60 : decode cX2_reasonInHour 60 = .ok (.iload_n 1, 1) := by decide +kernel
theorem dX2_reasonInHour_61 : decode cX2_reasonInHour 61 = .ok (.iaload, 1) := by decide +kernel
theorem dX2_reasonInHour_62 : decode cX2_reasonInHour 62 = .ok (.iand, 1) := by decide +kernel
theorem dX2_reasonInHour_63 : decode cX2_reasonInHour 63 = .ok (.ifCond .eq 6, 3) := by decide +kernel
theorem dX2_reasonInHour_66 : decode cX2_reasonInHour 66 = .ok (.bipush 6, 2) := by decide +kernel
theorem dX2_reasonInHour_68 : decode cX2_reasonInHour 68 = .ok (.ireturn, 1) := by decide +kernel
theorem dX2_reasonInHour_69 : decode cX2_reasonInHour 69 = .ok (.iconst 1, 1) := by decide +kernel
theorem dX2_reasonInHour_70 : decode cX2_reasonInHour 70 = .ok (.aload_n 0, 1) := by decide +kernel
theorem dX2_reasonInHour_71 : decode cX2_reasonInHour 71 = .ok (.getfield 61, 3) := by decide +kernel
theorem dX2_reasonInHour_74 : decode cX2_reasonInHour 74 = .ok (.iconst 0, 1) := by decide +kernel
theorem dX2_reasonInHour_75 : decode cX2_reasonInHour 75 = .ok (.iaload, 1) := by decide +kernel
theorem dX2_reasonInHour_76 : decode cX2_reasonInHour 76 = .ok (.ishl, 1) := by decide +kernel
theorem dX2_reasonInHour_77 : decode cX2_reasonInHour 77 = .ok (.iconst 1, 1) := by decide +kernel
theorem dX2_reasonInHour_78 : decode cX2_reasonInHour 78 = .ok (.isub, 1) := by decide +kernel
theorem dX2_reasonInHour_79 : decode cX2_reasonInHour 79 = .ok (.istore 7, 2) := by decide +kernel
theorem dX2_reasonInHour_81 : decode cX2_reasonInHour 81 = .ok (.aload_n 0, 1) := by decide +kernel
theorem dX2_reasonInHour_82 : decode cX2_reasonInHour 82 = .ok (.getfield 39, 3) := by decide +kernel
theorem dX2_reasonInHour_85 : decode cX2_reasonInHour 85 = .ok (.iconst 2, 1) := by decide +kernel
theorem dX2_reasonInHour_86 : decode cX2_reasonInHour 86 = .ok (.iload_n 3, 1) := by decide +kernel
theorem dX2_reasonInHour_87 : decode cX2_reasonInHour 87 = .ok (.iload 4, 2) := by decide +kernel
theorem dX2_reasonInHour_89 : decode cX2_reasonInHour 89 = .ok (.invokevirtual 160, 3) := by decide +kernel
theorem dX2_reasonInHour_92 : decode cX2_reasonInHour 92 = .ok (.iload 7, 2) := by decide +kernel
theorem dX2_reasonInHour_94 : decode cX2_reasonInHour 94 = .ok (.iand, 1) := by decide +kernel
theorem dX2_reasonInHour_95 : decode cX2_reasonInHour 95 = .ok (.iload 7, 2) := by decide +kernel
theorem dX2_reasonInHour_97 : decode cX2_reasonInHour 97 = .ok (.if_icmp .ne 6, 3) := by decide +kernel
theorem dX2_reasonInHour_100 : decode cX2_reasonInHour 100 = .ok (.bipush 7, 2) := by decide +kernel
theorem dX2_reasonInHour_102 : decode cX2_reasonInHour 102 = .ok (.ireturn, 1) := by decide +kernel
theorem dX2_reasonInHour_103 : decode cX2_reasonInHour 103 = .ok (.aload_n 0, 1) := by decide +kernel
theorem dX2_reasonInHour_104 : decode cX2_reasonInHour 104 = .ok (.getfield 39, 3) := by decide +kernel
theorem dX2_reasonInHour_107 : decode cX2_reasonInHour 107 = .ok (.invokevirtual 163, 3) := by decide +kernel
theorem dX2_reasonInHour_110 : decode cX2_reasonInHour 110 = .ok (.ifCond .eq 8, 3) := by decide +kernel
theorem dX2_reasonInHour_113 : decode cX2_reasonInHour 113 = .ok (.bipush 8, 2) := by decide +kernel
theorem dX2_reasonInHour_115 : decode cX2_reasonInHour 115 = .ok (.goto 4, 3) := by decide +kernel
theorem dX2_reasonInHour_118 : decode cX2_reasonInHour 118 = .ok (.iconst 0, 1) := by decide +kernel
theorem dX2_reasonInHour_119 : decode cX2_reasonInHour 119 = .ok (.ireturn, 1) := by decide +kernel
set_option maxRecDepth 20000 in
theorem ggX2_earliest_X0_isFull : GoodIn wsX2_earliest wsX0_isFull := goodIn_r _ [7, 8, 63, 64] (by decide +kernel) (by decide +kernel)
set_option maxRecDepth 20000 in
theorem gX2_earliest_X0_isFull : GoodIn wsX2_earliest (wsV RX2 163 RX0 yX0_isFull wsX0_isFull) := goodIn_app (goodIn_of _ (by decide +kernel)) ggX2_earliest_X0_isFull
set_option maxRecDepth 20000 in
theorem ggX2_earliest_X2_reasonOnDay : GoodIn wsX2_earliest wsX2_reasonOnDay := goodIn_r _ [13, 14, 15, 16, 2, 17, 1, 18, 19, 20, 21, 12, 22, 23, 24, 25, 26, 27, 28, 29, 30, 31, 32, 33, 34, 35, 6, 36, 8, 37, 48, 49, 50, 51, 52, 53, 54, 55, 56, 57, 58, 59, 60, 61, 62, 63, 64] (by decide +kernel) (by decide +kernel)
set_option maxRecDepth 20000 in
theorem gX2_earliest_X2_reasonOnDay : GoodIn wsX2_earliest (wsV RX2 152 RX2 yX2_reasonOnDay wsX2_reasonOnDay) := goodIn_app (goodIn_of _ (by decide +kernel)) ggX2_earliest_X2_reasonOnDay
set_option maxRecDepth 20000 in
theorem ggX2_earliest_X2_reasonInHour : GoodIn wsX2_earliest wsX2_reasonInHour := goodIn_r _ [41, 1, 42, 43, 44, 45, 46, 6, 47, 8, 37, 27, 28, 29, 19, 20, 21, 12, 22, 23, 3, 4, 5, 7, 48, 49, 50, 51, 52, 53, 54, 55, 56, 57, 58, 59, 60, 61, 62, 63, 64] (by decide +kernel) (by decide +kernel)
set_option maxRecDepth 20000 in
theorem gX2_earliest_X2_reasonInHour : GoodIn wsX2_earliest (wsV RX2 156 RX2 yX2_reasonInHour wsX2_reasonInHour) := goodIn_app (goodIn_of _ (by decide +kernel)) ggX2_earliest_X2_reasonInHour
theorem dX2_earliest_0 : decode cX2_earliest 0 = .ok (.aload_n 0, 1) := by decide +kernel
theorem dX2_earliest_1 : decode cX2_earliest 1 = .ok (.getfield 39, 3) := by decide +kernel
theorem dX2_earliest_4 : decode cX2_earliest 4 = .ok (.invokevirtual 163, 3) := by decide +kernel
theorem dX2_earliest_7 : decode cX2_earliest 7 = .ok (.ifCond .eq 5, 3) := by decide +kernel
theorem dX2_earliest_10 : decode cX2_earliest 10 = .ok (.iconst (-1), 1) := by decide +kernel
theorem dX2_earliest_11 : decode cX2_earliest 11 = .ok (.ireturn, 1) := by decide +kernel
theorem dX2_earliest_12 : decode cX2_earliest 12 = .ok (.aload_n 0, 1) := by decide +kernel
theorem dX2_earliest_13 : decode cX2_earliest 13 = .ok (.getfield 64, 3) := by decide +kernel
theorem dX2_earliest_16 : decode cX2_earliest 16 = .ok (.istore 4, 2) := by decide +kernel
theorem dX2_earliest_18 : decode cX2_earliest 18 = .ok (.iload 4, 2) := by decide +kernel
theorem dX2_earliest_20 : decode cX2_earliest 20 = .ok (.aload_n 0, 1) := by decide +kernel
theorem dX2_earliest_21 : decode cX2_earliest 21 = .ok (.getfield 64, 3) := by decide +kernel
theorem dX2_earliest_24 : decode cX2_earliest 24 = .ok (.iload_n 3, 1) := by decide +kernel
theorem dX2_earliest_25 : decode cX2_earliest 25 = .ok (.iadd, 1) := by decide +kernel
theorem dX2_earliest_26 : decode cX2_earliest 26 = .ok (.if_icmp .ge 70, 3) := by decide +kernel
theorem dX2_earliest_29 : decode cX2_earliest 29 = .ok (.aload_n 0, 1) := by decide +kernel
theorem dX2_earliest_30 : decode cX2_earliest 30 = .ok (.iload_n 1, 1) := by decide +kernel
theorem dX2_earliest_31 : decode cX2_earliest 31 = .ok (.iload_n 2, 1) := by decide +kernel
theorem dX2_earliest_32 : decode cX2_earliest 32 = .ok (.iload 4, 2) := by decide +kernel
theorem dX2_earliest_34 : decode cX2_earliest 34 = .ok (.invokevirtual 152, 3) := by decide +kernel
theorem dX2_earliest_37 : decode cX2_earliest 37 = .ok (.ifCond .ne 7, 3) := by decide +kernel
theorem dX2_earliest_40 : decode cX2_earliest 40 = .ok (.iconst 1, 1) := by decide +kernel
theorem dX2_earliest_41 : decode cX2_earliest 41 = .ok (.goto 4, 3) := by decide +kernel
theorem dX2_earliest_44 : decode cX2_earliest 44 = .ok (.iconst 0, 1) := by decide +kernel
theorem dX2_earliest_45 : decode cX2_earliest 45 = .ok (.istore 5, 2) := by decide +kernel
theorem dX2_earliest_47 : decode cX2_earliest 47 = .ok (.iconst 0, 1) := by decide +kernel
theorem dX2_earliest_48 : decode cX2_earliest 48 = .ok (.istore 6, 2) := by decide +kernel
theorem dX2_earliest_50 : decode cX2_earliest 50 = .ok (.iload 5, 2) := by decide +kernel
theorem dX2_earliest_52 : decode cX2_earliest 52 = .ok (.ifCond .eq 38, 3) := by decide +kernel
theorem dX2_earliest_55 : decode cX2_earliest 55 = .ok (.iload 6, 2) := by decide +kernel
theorem dX2_earliest_57 : decode cX2_earliest 57 = .ok (.bipush 8, 2) := by decide +kernel
theorem dX2_earliest_59 : decode cX2_earliest 59 = .ok (.if_icmp .ge 31, 3) := by decide +kernel
theorem dX2_earliest_62 : decode cX2_earliest 62 = .ok (.aload_n 0, 1) := by decide +kernel
theorem dX2_earliest_63 : decode cX2_earliest 63 = .ok (.iload_n 1, 1) := by decide +kernel
theorem dX2_earliest_64 : decode cX2_earliest 64 = .ok (.iload_n 2, 1) := by decide +kernel
theorem dX2_earliest_65 : decode cX2_earliest 65 = .ok (.iload 4, 2) := by decide +kernel
theorem dX2_earliest_67 : decode cX2_earliest 67 = .ok (.iload 6, 2) := by decide +kernel
theorem dX2_earliest_69 : decode cX2_earliest 69 = .ok (.invokevirtual 156, 3) := by decide +kernel
theorem dX2_earliest_72 : decode cX2_earliest 72 = .ok (.ifCond .ne 12, 3) := by decide +kernel
theorem dX2_earliest_75 : decode cX2_earliest 75 = .ok (.bipush 8, 2) := by decide +kernel
theorem dX2_earliest_77 : decode cX2_earliest 77 = .ok (.iload 4, 2) := by decide +kernel
theorem dX2_earliest_79 : decode cX2_earliest 79 = .ok (.imul, 1) := by decide +kernel
theorem dX2_earliest_80 : decode cX2_earliest 80 = .ok (.iload 6, 2) := by decide +kernel
theorem dX2_earliest_82 : decode cX2_earliest 82 = .ok (.iadd, 1) := by decide +kernel
theorem dX2_earliest_83 : decode cX2_earliest 83 = .ok (.ireturn, 1) := by decide +kernel
theorem dX2_earliest_84 : decode cX2_earliest 84 = .ok (.iinc 6 1, 3) := by decide +kernel
theorem dX2_earliest_87 : decode cX2_earliest 87 = .ok (.goto (-37), 3) := by decide +kernel
theorem dX2_earliest_90 : decode cX2_earliest 90 = .ok (.iinc 4 1, 3) := by decide +kernel
theorem dX2_earliest_93 : decode cX2_earliest 93 = .ok (.goto (-75), 3) := by decide +kernel
theorem dX2_earliest_96 : decode cX2_earliest 96 = .ok (.iconst (-1), 1) := by decide +kernel
theorem dX2_earliest_97 : decode cX2_earliest 97 = .ok (.ireturn, 1) := by decide +kernel
set_option maxRecDepth 20000 in
theorem ggX2_tryAdd_X7_isBetween : GoodIn wsX2_tryAdd wsX7_isBetween := goodIn_r _ [5] (by decide +kernel) (by decide +kernel)
set_option maxRecDepth 20000 in
theorem gX2_tryAdd_X7_isBetween_n167 : GoodIn wsX2_tryAdd (wsX7_isBetween) := ggX2_tryAdd_X7_isBetween
theorem dX2_tryAdd_0 : decode cX2_tryAdd 0 = .ok (.iload_n 1, 1) := by decide +kernel
theorem dX2_tryAdd_1 : decode cX2_tryAdd 1 = .ok (.iconst 0, 1) := by decide +kernel
theorem dX2_tryAdd_2 : decode cX2_tryAdd 2 = .ok (.iconst 3, 1) := by decide +kernel
theorem dX2_tryAdd_3 : decode cX2_tryAdd 3 = .ok (.invokestatic 167, 3) := by decide +kernel
theorem dX2_tryAdd_6 : decode cX2_tryAdd 6 = .ok (.ifCond .ne 6, 3) := by decide +kernel
theorem dX2_tryAdd_9 : decode cX2_tryAdd 9 = .ok (.bipush (-2), 2) := by decide +kernel
theorem dX2_tryAdd_11 : decode cX2_tryAdd 11 = .ok (.ireturn, 1) := by decide +kernel
theorem dX2_tryAdd_12 : decode cX2_tryAdd 12 = .ok (.aload_n 0, 1) := by decide +kernel
theorem dX2_tryAdd_13 : decode cX2_tryAdd 13 = .ok (.getfield 68, 3) := by decide +kernel
theorem dX2_tryAdd_16 : decode cX2_tryAdd 16 = .ok (.ifCond .lt 12, 3) := by decide +kernel
theorem dX2_tryAdd_19 : decode cX2_tryAdd 19 = .ok (.aload_n 0, 1) := by decide +kernel
theorem dX2_tryAdd_20 : decode cX2_tryAdd 20 = .ok (.getfield 68, 3) := by decide +kernel
theorem dX2_tryAdd_23 : decode cX2_tryAdd 23 = .ok (.bipush 8, 2) := by decide +kernel
theorem dX2_tryAdd_25 : decode cX2_tryAdd 25 = .ok (.if_icmp .lt 6, 3) := by decide +kernel
theorem dX2_tryAdd_28 : decode cX2_tryAdd 28 = .ok (.bipush (-3), 2) := by decide +kernel
theorem dX2_tryAdd_30 : decode cX2_tryAdd 30 = .ok (.ireturn, 1) := by decide +kernel
theorem dX2_tryAdd_31 : decode cX2_tryAdd 31 = .ok (.aload_n 0, 1) := by decide +kernel
theorem dX2_tryAdd_32 : decode cX2_tryAdd 32 = .ok (.getfield 11, 3) := by decide +kernel
theorem dX2_tryAdd_35 : decode cX2_tryAdd 35 = .ok (.aload_n 0, 1) := by decide +kernel
theorem dX2_tryAdd_36 : decode cX2_tryAdd 36 = .ok (.getfield 68, 3) := by decide +kernel
theorem dX2_tryAdd_39 : decode cX2_tryAdd 39 = .ok (.iload_n 1, 1) := by decide +kernel
theorem dX2_tryAdd_40 : decode cX2_tryAdd 40 = .ok (.iastore, 1) := by decide +kernel
theorem dX2_tryAdd_41 : decode cX2_tryAdd 41 = .ok (.aload_n 0, 1) := by decide +kernel
theorem dX2_tryAdd_42 : decode cX2_tryAdd 42 = .ok (.dup, 1) := by decide +kernel
theorem dX2_tryAdd_43 : decode cX2_tryAdd 43 = .ok (.getfield 68, 3) := by decide +kernel
theorem dX2_tryAdd_46 : decode cX2_tryAdd 46 = .ok (.iconst 1, 1) := by decide +kernel
theorem dX2_tryAdd_47 : decode cX2_tryAdd 47 = .ok (.iadd, 1) := by decide +kernel
theorem dX2_tryAdd_48 : decode cX2_tryAdd 48 = .ok (.putfield 68, 3) := by decide +kernel
theorem dX2_tryAdd_51 : decode cX2_tryAdd 51 = .ok (.aload_n 0, 1) := by decide +kernel
theorem dX2_tryAdd_52 : decode cX2_tryAdd 52 = .ok (.getfield 68, 3) := by decide +kernel
theorem dX2_tryAdd_55 : decode cX2_tryAdd 55 = .ok (.iconst 1, 1) := by decide +kernel
theorem dX2_tryAdd_56 : decode cX2_tryAdd 56 = .ok (.isub, 1) := by decide +kernel
theorem dX2_tryAdd_57 : decode cX2_tryAdd 57 = .ok (.ireturn, 1) := by decide +kernel
set_option maxRecDepth 20000 in
theorem ggX2_tryPromote_X2_hasPrisoner : GoodIn wsX2_tryPromote wsX2_hasPrisoner := goodIn_r _ [6, 7, 11, 12, 13, 14, 15, 16, 17, 18, 19, 20, 21, 22, 23, 24, 25] (by decide +kernel) (by decide +kernel)
set_option maxRecDepth 20000 in
theorem gX2_tryPromote_X2_hasPrisoner : GoodIn wsX2_tryPromote (wsV RX2 87 RX2 yX2_hasPrisoner wsX2_hasPrisoner) := goodIn_app (goodIn_of _ (by decide +kernel)) ggX2_tryPromote_X2_hasPrisoner
set_option maxRecDepth 20000 in
theorem ggX2_tryPromote_X7_isBetween : GoodIn wsX2_tryPromote wsX7_isBetween := goodIn_r _ [10] (by decide +kernel) (by decide +kernel)
set_option maxRecDepth 20000 in
theorem gX2_tryPromote_X7_isBetween_n167 : GoodIn wsX2_tryPromote (wsX7_isBetween) := ggX2_tryPromote_X7_isBetween
theorem dX2_tryPromote_0 : decode cX2_tryPromote 0 = .ok (.aload_n 0, 1) := by decide +kernel
theorem dX2_tryPromote_1 : decode cX2_tryPromote 1 = .ok (.iload_n 1, 1) := by decide +kernel
theorem dX2_tryPromote_2 : decode cX2_tryPromote 2 = .ok (.invokevirtual 87, 3) := by decide +kernel
theorem dX2_tryPromote_5 : decode cX2_tryPromote 5 = .ok (.ifCond .ne 5, 3) := by decide +kernel
theorem dX2_tryPromote_8 : decode cX2_tryPromote 8 = .ok (.iconst (-1), 1) := by decide +kernel
theorem dX2_tryPromote_9 : decode cX2_tryPromote 9 = .ok (.ireturn, 1) := by decide +kernel
theorem dX2_tryPromote_10 : decode cX2_tryPromote 10 = .ok (.iload_n 2, 1) := by decide +kernel
theorem dX2_tryPromote_11 : decode cX2_tryPromote 11 = .ok (.iconst 0, 1) := by decide +kernel
theorem dX2_tryPromote_12 : decode cX2_tryPromote 12 = .ok (.iconst 3, 1) := by decide +kernel
theorem dX2_tryPromote_13 : decode cX2_tryPromote 13 = .ok (.invokestatic 167, 3) := by decide +kernel
theorem dX2_tryPromote_16 : decode cX2_tryPromote 16 = .ok (.ifCond .ne 6, 3) := by decide +kernel
theorem dX2_tryPromote_19 : decode cX2_tryPromote 19 = .ok (.bipush (-2), 2) := by decide +kernel
theorem dX2_tryPromote_21 : decode cX2_tryPromote 21 = .ok (.ireturn, 1) := by decide +kernel
theorem dX2_tryPromote_22 : decode cX2_tryPromote 22 = .ok (.aload_n 0, 1) := by decide +kernel
theorem dX2_tryPromote_23 : decode cX2_tryPromote 23 = .ok (.getfield 11, 3) := by decide +kernel
theorem dX2_tryPromote_26 : decode cX2_tryPromote 26 = .ok (.iload_n 1, 1) := by decide +kernel
theorem dX2_tryPromote_27 : decode cX2_tryPromote 27 = .ok (.iaload, 1) := by decide +kernel
theorem dX2_tryPromote_28 : decode cX2_tryPromote 28 = .ok (.istore_n 3, 1) := by decide +kernel
theorem dX2_tryPromote_29 : decode cX2_tryPromote 29 = .ok (.aload_n 0, 1) := by decide +kernel
theorem dX2_tryPromote_30 : decode cX2_tryPromote 30 = .ok (.getfield 11, 3) := by decide +kernel
theorem dX2_tryPromote_33 : decode cX2_tryPromote 33 = .ok (.iload_n 1, 1) := by decide +kernel
theorem dX2_tryPromote_34 : decode cX2_tryPromote 34 = .ok (.iload_n 2, 1) := by decide +kernel
theorem dX2_tryPromote_35 : decode cX2_tryPromote 35 = .ok (.iastore, 1) := by decide +kernel
theorem dX2_tryPromote_36 : decode cX2_tryPromote 36 = .ok (.iload_n 3, 1) := by decide +kernel
theorem dX2_tryPromote_37 : decode cX2_tryPromote 37 = .ok (.ireturn, 1) := by decide +kernel
set_option maxRecDepth 20000 in
theorem ggX2_tryList_X2_hasPair : GoodIn wsX2_tryList wsX2_hasPair := goodIn_r _ [6, 7, 8, 9, 5, 10, 11, 12, 13, 14, 18, 19, 20, 21, 22, 23, 24, 25, 26, 27, 28, 29, 30, 31, 32] (by decide +kernel) (by decide +kernel)
set_option maxRecDepth 20000 in
theorem gX2_tryList_X2_hasPair : GoodIn wsX2_tryList (wsV RX2 171 RX2 yX2_hasPair wsX2_hasPair) := goodIn_app (goodIn_of _ (by decide +kernel)) ggX2_tryList_X2_hasPair
set_option maxRecDepth 20000 in
theorem ggX2_tryList_X7_withBit : GoodIn wsX2_tryList wsX7_withBit := goodIn_r _ [17] (by decide +kernel) (by decide +kernel)
set_option maxRecDepth 20000 in
theorem gX2_tryList_X7_withBit_n122 : GoodIn wsX2_tryList (wsX7_withBit) := ggX2_tryList_X7_withBit
theorem dX2_tryList_0 : decode cX2_tryList 0 = .ok (.aload_n 0, 1) := by decide +kernel
theorem dX2_tryList_1 : decode cX2_tryList 1 = .ok (.iload_n 1, 1) := by decide +kernel
theorem dX2_tryList_2 : decode cX2_tryList 2 = .ok (.iload_n 2, 1) := by decide +kernel
theorem dX2_tryList_3 : decode cX2_tryList 3 = .ok (.invokevirtual 171, 3) := by decide +kernel
theorem dX2_tryList_6 : decode cX2_tryList 6 = .ok (.ifCond .ne 5, 3) := by decide +kernel
theorem dX2_tryList_9 : decode cX2_tryList 9 = .ok (.iconst (-1), 1) := by decide +kernel
theorem dX2_tryList_10 : decode cX2_tryList 10 = .ok (.ireturn, 1) := by decide +kernel
theorem dX2_tryList_11 : decode cX2_tryList 11 = .ok (.aload_n 0, 1) := by decide +kernel
theorem dX2_tryList_12 : decode cX2_tryList 12 = .ok (.getfield 15, 3) := by decide +kernel
theorem dX2_tryList_15 : decode cX2_tryList 15 = .ok (.iload_n 1, 1) := by decide +kernel
theorem dX2_tryList_16 : decode cX2_tryList 16 = .ok (.aload_n 0, 1) := by decide +kernel
theorem dX2_tryList_17 : decode cX2_tryList 17 = .ok (.getfield 15, 3) := by decide +kernel
theorem dX2_tryList_20 : decode cX2_tryList 20 = .ok (.iload_n 1, 1) := by decide +kernel
theorem dX2_tryList_21 : decode cX2_tryList 21 = .ok (.iaload, 1) := by decide +kernel
theorem dX2_tryList_22 : decode cX2_tryList 22 = .ok (.iload_n 2, 1) := by decide +kernel
theorem dX2_tryList_23 : decode cX2_tryList 23 = .ok (.iload_n 3, 1) := by decide +kernel
theorem dX2_tryList_24 : decode cX2_tryList 24 = .ok (.invokestatic 122, 3) := by decide +kernel
theorem dX2_tryList_27 : decode cX2_tryList 27 = .ok (.iastore, 1) := by decide +kernel
theorem dX2_tryList_28 : decode cX2_tryList 28 = .ok (.aload_n 0, 1) := by decide +kernel
theorem dX2_tryList_29 : decode cX2_tryList 29 = .ok (.getfield 15, 3) := by decide +kernel
theorem dX2_tryList_32 : decode cX2_tryList 32 = .ok (.iload_n 1, 1) := by decide +kernel
theorem dX2_tryList_33 : decode cX2_tryList 33 = .ok (.iaload, 1) := by decide +kernel
theorem dX2_tryList_34 : decode cX2_tryList 34 = .ok (.ireturn, 1) := by decide +kernel
set_option maxRecDepth 20000 in
theorem ggX2_tryKeepApart_X2_hasPrisoner : GoodIn wsX2_tryKeepApart wsX2_hasPrisoner := goodIn_r _ [6, 7, 11, 12, 13, 14, 15, 16, 17, 18, 19, 20, 21, 22, 23, 24, 25] (by decide +kernel) (by decide +kernel)
set_option maxRecDepth 20000 in
theorem gX2_tryKeepApart_X2_hasPrisoner : GoodIn wsX2_tryKeepApart (wsV RX2 87 RX2 yX2_hasPrisoner wsX2_hasPrisoner) := goodIn_app (goodIn_of _ (by decide +kernel)) ggX2_tryKeepApart_X2_hasPrisoner
set_option maxRecDepth 20000 in
theorem ggX2_tryKeepApart_X7_withBit : GoodIn wsX2_tryKeepApart wsX7_withBit := goodIn_r _ [10] (by decide +kernel) (by decide +kernel)
set_option maxRecDepth 20000 in
theorem gX2_tryKeepApart_X7_withBit_n122 : GoodIn wsX2_tryKeepApart (wsX7_withBit) := ggX2_tryKeepApart_X7_withBit
theorem dX2_tryKeepApart_0 : decode cX2_tryKeepApart 0 = .ok (.aload_n 0, 1) := by decide +kernel
theorem dX2_tryKeepApart_1 : decode cX2_tryKeepApart 1 = .ok (.iload_n 1, 1) := by decide +kernel
theorem dX2_tryKeepApart_2 : decode cX2_tryKeepApart 2 = .ok (.invokevirtual 87, 3) := by decide +kernel
theorem dX2_tryKeepApart_5 : decode cX2_tryKeepApart 5 = .ok (.ifCond .eq 11, 3) := by decide +kernel
theorem dX2_tryKeepApart_8 : decode cX2_tryKeepApart 8 = .ok (.aload_n 0, 1) := by decide +kernel
theorem dX2_tryKeepApart_9 : decode cX2_tryKeepApart 9 = .ok (.iload_n 2, 1) := by decide +kernel
theorem dX2_tryKeepApart_10 : decode cX2_tryKeepApart 10 = .ok (.invokevirtual 87, 3) := by decide +kernel
theorem dX2_tryKeepApart_13 : decode cX2_tryKeepApart 13 = .ok (.ifCond .ne 5, 3) := by decide +kernel
theorem dX2_tryKeepApart_16 : decode cX2_tryKeepApart 16 = .ok (.iconst (-1), 1) := by decide +kernel
theorem dX2_tryKeepApart_17 : decode cX2_tryKeepApart 17 = .ok (.ireturn, 1) := by decide +kernel
theorem dX2_tryKeepApart_18 : decode cX2_tryKeepApart 18 = .ok (.iload_n 1, 1) := by decide +kernel
theorem dX2_tryKeepApart_19 : decode cX2_tryKeepApart 19 = .ok (.iload_n 2, 1) := by decide +kernel
theorem dX2_tryKeepApart_20 : decode cX2_tryKeepApart 20 = .ok (.if_icmp .ne 6, 3) := by decide +kernel
theorem dX2_tryKeepApart_23 : decode cX2_tryKeepApart 23 = .ok (.bipush (-3), 2) := by decide +kernel
theorem dX2_tryKeepApart_25 : decode cX2_tryKeepApart 25 = .ok (.ireturn, 1) := by decide +kernel
theorem dX2_tryKeepApart_26 : decode cX2_tryKeepApart 26 = .ok (.aload_n 0, 1) := by decide +kernel
theorem dX2_tryKeepApart_27 : decode cX2_tryKeepApart 27 = .ok (.getfield 27, 3) := by decide +kernel
theorem dX2_tryKeepApart_30 : decode cX2_tryKeepApart 30 = .ok (.iload_n 1, 1) := by decide +kernel
theorem dX2_tryKeepApart_31 : decode cX2_tryKeepApart 31 = .ok (.aload_n 0, 1) := by decide +kernel
theorem dX2_tryKeepApart_32 : decode cX2_tryKeepApart 32 = .ok (.getfield 27, 3) := by decide +kernel
theorem dX2_tryKeepApart_35 : decode cX2_tryKeepApart 35 = .ok (.iload_n 1, 1) := by decide +kernel
theorem dX2_tryKeepApart_36 : decode cX2_tryKeepApart 36 = .ok (.iaload, 1) := by decide +kernel
theorem dX2_tryKeepApart_37 : decode cX2_tryKeepApart 37 = .ok (.iload_n 2, 1) := by decide +kernel
theorem dX2_tryKeepApart_38 : decode cX2_tryKeepApart 38 = .ok (.iload_n 3, 1) := by decide +kernel
theorem dX2_tryKeepApart_39 : decode cX2_tryKeepApart 39 = .ok (.invokestatic 122, 3) := by decide +kernel
theorem dX2_tryKeepApart_42 : decode cX2_tryKeepApart 42 = .ok (.iastore, 1) := by decide +kernel
theorem dX2_tryKeepApart_43 : decode cX2_tryKeepApart 43 = .ok (.aload_n 0, 1) := by decide +kernel
theorem dX2_tryKeepApart_44 : decode cX2_tryKeepApart 44 = .ok (.getfield 27, 3) := by decide +kernel
theorem dX2_tryKeepApart_47 : decode cX2_tryKeepApart 47 = .ok (.iload_n 2, 1) := by decide +kernel
theorem dX2_tryKeepApart_48 : decode cX2_tryKeepApart 48 = .ok (.aload_n 0, 1) := by decide +kernel
