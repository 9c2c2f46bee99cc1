theorem dX5_doCommand_85 : decode cX5_doCommand 85 = .ok (.iaload, 1) := by decide +kernel
theorem dX5_doCommand_86 : decode cX5_doCommand 86 = .ok (.aload_n 0, 1) := by decide +kernel
theorem dX5_doCommand_87 : decode cX5_doCommand 87 = .ok (.getfield 15, 3) := by decide +kernel
theorem dX5_doCommand_90 : decode cX5_doCommand 90 = .ok (.iconst 2, 1) := by decide +kernel
theorem dX5_doCommand_91 : decode cX5_doCommand 91 = .ok (.iaload, 1) := by decide +kernel
theorem dX5_doCommand_92 : decode cX5_doCommand 92 = .ok (.aload_n 0, 1) := by decide +kernel
theorem dX5_doCommand_93 : decode cX5_doCommand 93 = .ok (.getfield 15, 3) := by decide +kernel
theorem dX5_doCommand_96 : decode cX5_doCommand 96 = .ok (.iconst 3, 1) := by decide +kernel
theorem dX5_doCommand_97 : decode cX5_doCommand 97 = .ok (.iaload, 1) := by decide +kernel
theorem dX5_doCommand_98 : decode cX5_doCommand 98 = .ok (.invokevirtual 122, 3) := by decide +kernel
theorem dX5_doCommand_101 : decode cX5_doCommand 101 = .ok (.ireturn, 1) := by decide +kernel
theorem dX5_doCommand_102 : decode cX5_doCommand 102 = .ok (.aload_n 1, 1) := by decide +kernel
theorem dX5_doCommand_103 : decode cX5_doCommand 103 = .ok (.aload_n 0, 1) := by decide +kernel
theorem dX5_doCommand_104 : decode cX5_doCommand 104 = .ok (.getfield 15, 3) := by decide +kernel
theorem dX5_doCommand_107 : decode cX5_doCommand 107 = .ok (.iconst 0, 1) := by decide +kernel
theorem dX5_doCommand_108 : decode cX5_doCommand 108 = .ok (.iaload, 1) := by decide +kernel
theorem dX5_doCommand_109 : decode cX5_doCommand 109 = .ok (.aload_n 0, 1) := by decide +kernel
theorem dX5_doCommand_110 : decode cX5_doCommand 110 = .ok (.getfield 15, 3) := by decide +kernel
theorem dX5_doCommand_113 : decode cX5_doCommand 113 = .ok (.iconst 1, 1) := by decide +kernel
theorem dX5_doCommand_114 : decode cX5_doCommand 114 = .ok (.iaload, 1) := by decide +kernel
theorem dX5_doCommand_115 : decode cX5_doCommand 115 = .ok (.invokevirtual 126, 3) := by decide +kernel
theorem dX5_doCommand_118 : decode cX5_doCommand 118 = .ok (.ireturn, 1) := by decide +kernel
theorem dX5_doCommand_119 : decode cX5_doCommand 119 = .ok (.aload_n 1, 1) := by decide +kernel
theorem dX5_doCommand_120 : decode cX5_doCommand 120 = .ok (.aload_n 0, 1) := by decide +kernel
theorem dX5_doCommand_121 : decode cX5_doCommand 121 = .ok (.getfield 15, 3) := by decide +kernel
theorem dX5_doCommand_124 : decode cX5_doCommand 124 = .ok (.iconst 0, 1) := by decide +kernel
theorem dX5_doCommand_125 : decode cX5_doCommand 125 = .ok (.iaload, 1) := by decide +kernel
theorem dX5_doCommand_126 : decode cX5_doCommand 126 = .ok (.iconst 1, 1) := by decide +kernel
theorem dX5_doCommand_127 : decode cX5_doCommand 127 = .ok (.invokevirtual 129, 3) := by decide +kernel
theorem dX5_doCommand_130 : decode cX5_doCommand 130 = .ok (.ireturn, 1) := by decide +kernel
theorem dX5_doCommand_131 : decode cX5_doCommand 131 = .ok (.aload_n 1, 1) := by decide +kernel
theorem dX5_doCommand_132 : decode cX5_doCommand 132 = .ok (.aload_n 0, 1) := by decide +kernel
theorem dX5_doCommand_133 : decode cX5_doCommand 133 = .ok (.getfield 15, 3) := by decide +kernel
theorem dX5_doCommand_136 : decode cX5_doCommand 136 = .ok (.iconst 0, 1) := by decide +kernel
theorem dX5_doCommand_137 : decode cX5_doCommand 137 = .ok (.iaload, 1) := by decide +kernel
theorem dX5_doCommand_138 : decode cX5_doCommand 138 = .ok (.invokevirtual 133, 3) := by decide +kernel
theorem dX5_doCommand_141 : decode cX5_doCommand 141 = .ok (.ireturn, 1) := by decide +kernel
theorem dX6_init_0 : decode cX6_init 0 = .ok (.aload_n 0, 1) := by decide +kernel
theorem dX6_init_1 : decode cX6_init 1 = .ok (.invokespecial 3, 3) := by decide +kernel
theorem dX6_init_4 : decode cX6_init 4 = .ok (.aload_n 0, 1) := by decide +kernel
theorem dX6_init_5 : decode cX6_init 5 = .ok (.bipush 10, 2) := by decide +kernel
theorem dX6_init_7 : decode cX6_init 7 = .ok (.newarray .int, 2) := by decide +kernel
theorem dX6_init_9 : decode cX6_init 9 = .ok (.putfield 11, 3) := by decide +kernel
theorem dX6_init_12 : decode cX6_init 12 = .ok (.return_, 1) := by decide +kernel
theorem dX6_copyFrom_0 : decode cX6_copyFrom 0 = .ok (.aload_n 0, 1) := by decide +kernel
theorem dX6_copyFrom_1 : decode cX6_copyFrom 1 = .ok (.aload_n 1, 1) := by decide +kernel
theorem dX6_copyFrom_2 : decode cX6_copyFrom 2 = .ok (.getfield 15, 3) := by decide +kernel
theorem dX6_copyFrom_5 : decode cX6_copyFrom 5 = .ok (.putfield 15, 3) := by decide +kernel
theorem dX6_copyFrom_8 : decode cX6_copyFrom 8 = .ok (.aload_n 1, 1) := by decide +kernel
theorem dX6_copyFrom_9 : decode cX6_copyFrom 9 = .ok (.getfield 11, 3) := by decide +kernel
theorem dX6_copyFrom_12 : decode cX6_copyFrom 12 = .ok (.iconst 0, 1) := by decide +kernel
theorem dX6_copyFrom_13 : decode cX6_copyFrom 13 = .ok (.aload_n 0, 1) := by decide +kernel
theorem dX6_copyFrom_14 : decode cX6_copyFrom 14 = .ok (.getfield 11, 3) := by decide +kernel
theorem dX6_copyFrom_17 : decode cX6_copyFrom 17 = .ok (.iconst 0, 1) := by decide +kernel
theorem dX6_copyFrom_18 : decode cX6_copyFrom 18 = .ok (.bipush 10, 2) := by decide +kernel
theorem dX6_copyFrom_20 : decode cX6_copyFrom 20 = .ok (.invokestatic 19, 3) := by decide +kernel
theorem dX6_copyFrom_23 : decode cX6_copyFrom 23 = .ok (.return_, 1) := by decide +kernel
theorem dX6_isFull_0 : decode cX6_isFull 0 = .ok (.aload_n 0, 1) := by decide +kernel
theorem dX6_isFull_1 : decode cX6_isFull 1 = .ok (.getfield 15, 3) := by decide +kernel
theorem dX6_isFull_4 : decode cX6_isFull 4 = .ok (.bipush 10, 2) := by decide +kernel
theorem dX6_isFull_6 : decode cX6_isFull 6 = .ok (.if_icmp .lt 7, 3) := by decide +kernel
theorem dX6_isFull_9 : decode cX6_isFull 9 = .ok (.iconst 1, 1) := by decide +kernel
theorem dX6_isFull_10 : decode cX6_isFull 10 = .ok (.goto 4, 3) := by decide +kernel
theorem dX6_isFull_13 : decode cX6_isFull 13 = .ok (.iconst 0, 1) := by decide +kernel
theorem dX6_isFull_14 : decode cX6_isFull 14 = .ok (.ireturn, 1) := by decide +kernel
theorem dX6_at_0 : decode cX6_at 0 = .ok (.iload_n 1, 1) := by decide +kernel
theorem dX6_at_1 : decode cX6_at 1 = .ok (.ifCond .lt 26, 3) := by decide +kernel
theorem dX6_at_4 : decode cX6_at 4 = .ok (.iload_n 1, 1) := by decide +kernel
theorem dX6_at_5 : decode cX6_at 5 = .ok (.aload_n 0, 1) := by decide +kernel
theorem dX6_at_6 : decode cX6_at 6 = .ok (.getfield 15, 3) := by decide +kernel
theorem dX6_at_9 : decode cX6_at 9 = .ok (.if_icmp .ge 18, 3) := by decide +kernel
theorem dX6_at_12 : decode cX6_at 12 = .ok (.iload_n 1, 1) := by decide +kernel
theorem dX6_at_13 : decode cX6_at 13 = .ok (.bipush 10, 2) := by decide +kernel
theorem dX6_at_15 : decode cX6_at 15 = .ok (.if_icmp .ge 12, 3) := by decide +kernel
theorem dX6_at_18 : decode cX6_at 18 = .ok (.aload_n 0, 1) := by decide +kernel
theorem dX6_at_19 : decode cX6_at 19 = .ok (.getfield 11, 3) := by decide +kernel
theorem dX6_at_22 : decode cX6_at 22 = .ok (.iload_n 1, 1) := by decide +kernel
theorem dX6_at_23 : decode cX6_at 23 = .ok (.iaload, 1) := by decide +kernel
theorem dX6_at_24 : decode cX6_at 24 = .ok (.goto 4, 3) := by decide +kernel
theorem dX6_at_27 : decode cX6_at 27 = .ok (.iconst (-1), 1) := by decide +kernel
theorem dX6_at_28 : decode cX6_at 28 = .ok (.ireturn, 1) := by decide +kernel
set_option maxRecDepth 20000 in
theorem ggX6_prisonerOf_X6_at : GoodIn wsX6_prisonerOf wsX6_at := goodIn_r _ [5, 6, 7, 8, 9] (by decide +kernel) (by decide +kernel)
set_option maxRecDepth 20000 in
theorem gX6_prisonerOf_X6_at : GoodIn wsX6_prisonerOf (wsV RX6 25 RX6 yX6_at wsX6_at) := goodIn_app (goodIn_of _ (by decide +kernel)) ggX6_prisonerOf_X6_at
theorem dX6_prisonerOf_0 : decode cX6_prisonerOf 0 = .ok (.aload_n 0, 1) := by decide +kernel
theorem dX6_prisonerOf_1 : decode cX6_prisonerOf 1 = .ok (.iload_n 1, 1) := by decide +kernel
theorem dX6_prisonerOf_2 : decode cX6_prisonerOf 2 = .ok (.invokevirtual 25, 3) := by decide +kernel
theorem dX6_prisonerOf_5 : decode cX6_prisonerOf 5 = .ok (.ifCond .ge 7, 3) := by decide +kernel
theorem dX6_prisonerOf_12 : decode cX6_prisonerOf 12 = .ok (.aload_n 0, 1) := by decide +kernel
theorem dX6_prisonerOf_13 : decode cX6_prisonerOf 13 = .ok (.iload_n 1, 1) := by decide +kernel
theorem dX6_prisonerOf_14 : decode cX6_prisonerOf 14 = .ok (.invokevirtual 25, 3) := by decide +kernel
theorem dX6_prisonerOf_17 : decode cX6_prisonerOf 17 = .ok (.bipush 10, 2) := by decide +kernel
theorem dX6_prisonerOf_19 : decode cX6_prisonerOf 19 = .ok (.idiv, 1) := by decide +kernel
theorem dX6_prisonerOf_20 : decode cX6_prisonerOf 20 = .ok (.ireturn, 1) := by decide +kernel
set_option maxRecDepth 20000 in
theorem ggX6_visitorOf_X6_at : GoodIn wsX6_visitorOf wsX6_at := goodIn_r _ [5, 6, 7, 8, 9] (by decide +kernel) (by decide +kernel)
set_option maxRecDepth 20000 in
theorem gX6_visitorOf_X6_at : GoodIn wsX6_visitorOf (wsV RX6 25 RX6 yX6_at wsX6_at) := goodIn_app (goodIn_of _ (by decide +kernel)) ggX6_visitorOf_X6_at
theorem dX6_visitorOf_0 : decode cX6_visitorOf 0 = .ok (.aload_n 0, 1) := by decide +kernel
theorem dX6_visitorOf_1 : decode cX6_visitorOf 1 = .ok (.iload_n 1, 1) := by decide +kernel
theorem dX6_visitorOf_2 : decode cX6_visitorOf 2 = .ok (.invokevirtual 25, 3) := by decide +kernel
theorem dX6_visitorOf_5 : decode cX6_visitorOf 5 = .ok (.ifCond .ge 7, 3) := by decide +kernel
theorem dX6_visitorOf_12 : decode cX6_visitorOf 12 = .ok (.aload_n 0, 1) := by decide +kernel
theorem dX6_visitorOf_13 : decode cX6_visitorOf 13 = .ok (.iload_n 1, 1) := by decide +kernel
theorem dX6_visitorOf_14 : decode cX6_visitorOf 14 = .ok (.invokevirtual 25, 3) := by decide +kernel
theorem dX6_visitorOf_17 : decode cX6_visitorOf 17 = .ok (.bipush 10, 2) := by decide +kernel
theorem dX6_visitorOf_19 : decode cX6_visitorOf 19 = .ok (.irem, 1) := by decide +kernel
theorem dX6_visitorOf_20 : decode cX6_visitorOf 20 = .ok (.ireturn, 1) := by decide +kernel
theorem dX6_add_0 : decode cX6_add 0 = .ok (.aload_n 0, 1) := by decide +kernel
theorem dX6_add_1 : decode cX6_add 1 = .ok (.getfield 15, 3) := by decide +kernel
theorem dX6_add_4 : decode cX6_add 4 = .ok (.ifCond .lt 37, 3) := by decide +kernel
theorem dX6_add_7 : decode cX6_add 7 = .ok (.aload_n 0, 1) := by decide +kernel
theorem dX6_add_8 : decode cX6_add 8 = .ok (.getfield 15, 3) := by decide +kernel
theorem dX6_add_11 : decode cX6_add 11 = .ok (.bipush 10, 2) := by decide +kernel
theorem dX6_add_13 : decode cX6_add 13 = .ok (.if_icmp .ge 28, 3) := by decide +kernel
theorem dX6_add_16 : decode cX6_add 16 = .ok (.aload_n 0, 1) := by decide +kernel
theorem dX6_add_17 : decode cX6_add 17 = .ok (.getfield 11, 3) := by decide +kernel
theorem dX6_add_20 : decode cX6_add 20 = .ok (.aload_n 0, 1) := by decide +kernel
theorem dX6_add_21 : decode cX6_add 21 = .ok (.getfield 15, 3) := by decide +kernel
theorem dX6_add_24 : decode cX6_add 24 = .ok (.bipush 10, 2) := by decide +kernel
theorem dX6_add_26 : decode cX6_add 26 = .ok (.iload_n 1, 1) := by decide +kernel
theorem dX6_add_27 : decode cX6_add 27 = .ok (.imul, 1) := by decide +kernel
theorem dX6_add_28 : decode cX6_add 28 = .ok (.iload_n 2, 1) := by decide +kernel
theorem dX6_add_29 : decode cX6_add 29 = .ok (.iadd, 1) := by decide +kernel
theorem dX6_add_30 : decode cX6_add 30 = .ok (.iastore, 1) := by decide +kernel
theorem dX6_add_31 : decode cX6_add 31 = .ok (.aload_n 0, 1) := by decide +kernel
theorem dX6_add_32 : decode cX6_add 32 = .ok (.dup, 1) := by decide +kernel
theorem dX6_add_33 : decode cX6_add 33 = .ok (.getfield 15, 3) := by decide +kernel
theorem dX6_add_36 : decode cX6_add 36 = .ok (.iconst 1, 1) := by decide +kernel
theorem dX6_add_37 : decode cX6_add 37 = .ok (.iadd, 1) := by decide +kernel
theorem dX6_add_38 : decode cX6_add 38 = .ok (.putfield 15, 3) := by decide +kernel
theorem dX6_add_41 : decode cX6_add 41 = .ok (.return_, 1) := by decide +kernel
theorem dX6_remove_0 : decode cX6_remove 0 = .ok (.iload_n 1, 1) := by decide +kernel
theorem dX6_remove_1 : decode cX6_remove 1 = .ok (.ifCond .lt 53, 3) := by decide +kernel
theorem dX6_remove_4 : decode cX6_remove 4 = .ok (.iload_n 1, 1) := by decide +kernel
theorem dX6_remove_5 : decode cX6_remove 5 = .ok (.aload_n 0, 1) := by decide +kernel
theorem dX6_remove_6 : decode cX6_remove 6 = .ok (.getfield 15, 3) := by decide +kernel
theorem dX6_remove_9 : decode cX6_remove 9 = .ok (.if_icmp .ge 45, 3) := by decide +kernel
theorem dX6_remove_12 : decode cX6_remove 12 = .ok (.aload_n 0, 1) := by decide +kernel
theorem dX6_remove_13 : decode cX6_remove 13 = .ok (.getfield 15, 3) := by decide +kernel
theorem dX6_remove_16 : decode cX6_remove 16 = .ok (.bipush 10, 2) := by decide +kernel
theorem dX6_remove_18 : decode cX6_remove 18 = .ok (.if_icmp .gt 36, 3) := by decide +kernel
theorem dX6_remove_21 : decode cX6_remove 21 = .ok (.aload_n 0, 1) := by decide +kernel
theorem dX6_remove_22 : decode cX6_remove 22 = .ok (.getfield 11, 3) := by decide +kernel
theorem dX6_remove_25 : decode cX6_remove 25 = .ok (.iload_n 1, 1) := by decide +kernel
theorem dX6_remove_26 : decode cX6_remove 26 = .ok (.iconst 1, 1) := by decide +kernel
theorem dX6_remove_27 : decode cX6_remove 27 = .ok (.iadd, 1) := by decide +kernel
theorem dX6_remove_28 : decode cX6_remove 28 = .ok (.aload_n 0, 1) := by decide +kernel
theorem dX6_remove_29 : decode cX6_remove 29 = .ok (.getfield 11, 3) := by decide +kernel
theorem dX6_remove_32 : decode cX6_remove 32 = .ok (.iload_n 1, 1) := by decide +kernel
theorem dX6_remove_33 : decode cX6_remove 33 = .ok (.aload_n 0, 1) := by decide +kernel
theorem dX6_remove_34 : decode cX6_remove 34 = .ok (.getfield 15, 3) := by decide +kernel
theorem dX6_remove_37 : decode cX6_remove 37 = .ok (.iload_n 1, 1) := by decide +kernel
theorem dX6_remove_38 : decode cX6_remove 38 = .ok (.isub, 1) := by decide +kernel
theorem dX6_remove_39 : decode cX6_remove 39 = .ok (.iconst 1, 1) := by decide +kernel
theorem dX6_remove_40 : decode cX6_remove 40 = .ok (.isub, 1) := by decide +kernel
theorem dX6_remove_41 : decode cX6_remove 41 = .ok (.invokestatic 19, 3) := by decide +kernel
theorem dX6_remove_44 : decode cX6_remove 44 = .ok (.aload_n 0, 1) := by decide +kernel
theorem dX6_remove_45 : decode cX6_remove 45 = .ok (.dup, 1) := by decide +kernel
theorem dX6_remove_46 : decode cX6_remove 46 = .ok (.getfield 15, 3) := by decide +kernel
theorem dX6_remove_49 : decode cX6_remove 49 = .ok (.iconst 1, 1) := by decide +kernel
theorem dX6_remove_50 : decode cX6_remove 50 = .ok (.isub, 1) := by decide +kernel
theorem dX6_remove_51 : decode cX6_remove 51 = .ok (.putfield 15, 3) := by decide +kernel
theorem dX6_remove_54 : decode cX6_remove 54 = .ok (.return_, 1) := by decide +kernel
set_option maxRecDepth 20000 in
theorem ggX6_countOf_X6_prisonerOf : GoodIn wsX6_countOf wsX6_prisonerOf := goodIn_r _ [6, 7, 8, 9, 5, 10, 1, 11, 12, 13] (by decide +kernel) (by decide +kernel)
set_option maxRecDepth 20000 in
theorem gX6_countOf_X6_prisonerOf : GoodIn wsX6_countOf (wsV RX6 29 RX6 yX6_prisonerOf wsX6_prisonerOf) := goodIn_app (goodIn_of _ (by decide +kernel)) ggX6_countOf_X6_prisonerOf
theorem dX6_countOf_0 : decode cX6_countOf 0 = .ok (.iconst 0, 1) := by decide +kernel
theorem dX6_countOf_1 : decode cX6_countOf 1 = .ok (.istore_n 2, 1) := by decide +kernel
theorem dX6_countOf_2 : decode cX6_countOf 2 = .ok (.iconst 0, 1) := by decide +kernel
theorem dX6_countOf_3 : decode cX6_countOf 3 = .ok (.istore_n 3, 1) := by decide +kernel
theorem dX6_countOf_4 : decode cX6_countOf 4 = .ok (.iload_n 3, 1) := by decide +kernel
theorem dX6_countOf_5 : decode cX6_countOf 5 = .ok (.aload_n 0, 1) := by decide +kernel
theorem dX6_countOf_6 : decode cX6_countOf 6 = .ok (.getfield 15, 3) := by decide +kernel
theorem dX6_countOf_9 : decode cX6_countOf 9 = .ok (.if_icmp .ge 21, 3) := by decide +kernel
theorem dX6_countOf_12 : decode cX6_countOf 12 = .ok (.aload_n 0, 1) := by decide +kernel
theorem dX6_countOf_13 : decode cX6_countOf 13 = .ok (.iload_n 3, 1) := by decide +kernel
theorem dX6_countOf_14 : decode cX6_countOf 14 = .ok (.invokevirtual 29, 3) := by decide +kernel
theorem dX6_countOf_17 : decode cX6_countOf 17 = .ok (.iload_n 1, 1) := by decide +kernel
theorem dX6_countOf_18 : decode cX6_countOf 18 = .ok (.if_icmp .ne 6, 3) := by decide +kernel
theorem dX6_countOf_21 : decode cX6_countOf 21 = .ok (.iinc 2 1, 3) := by decide +kernel
theorem dX6_countOf_24 : decode cX6_countOf 24 = .ok (.iinc 3 1, 3) := by decide +kernel
theorem dX6_countOf_27 : decode cX6_countOf 27 = .ok (.goto (-23), 3) := by decide +kernel
theorem dX6_countOf_30 : decode cX6_countOf 30 = .ok (.iload_n 2, 1) := by decide +kernel
theorem dX6_countOf_31 : decode cX6_countOf 31 = .ok (.ireturn, 1) := by decide +kernel
set_option maxRecDepth 20000 in
theorem ggX6_inTurn_X6_turnOf : GoodIn wsX6_inTurn wsX6_turnOf := goodIn_r _ [6, 1, 7, 8, 9, 5, 10, 11, 12, 13] (by decide +kernel) (by decide +kernel)
set_option maxRecDepth 20000 in
theorem gX6_inTurn_X6_turnOf : GoodIn wsX6_inTurn (wsV RX6 32 RX6 yX6_turnOf wsX6_turnOf) := goodIn_app (goodIn_of _ (by decide +kernel)) ggX6_inTurn_X6_turnOf
theorem dX6_inTurn_0 : decode cX6_inTurn 0 = .ok (.iconst 0, 1) := by decide +kernel
theorem dX6_inTurn_1 : decode cX6_inTurn 1 = .ok (.istore_n 3, 1) := by decide +kernel
theorem dX6_inTurn_2 : decode cX6_inTurn 2 = .ok (.iload_n 3, 1) := by decide +kernel
theorem dX6_inTurn_3 : decode cX6_inTurn 3 = .ok (.aload_n 0, 1) := by decide +kernel
theorem dX6_inTurn_4 : decode cX6_inTurn 4 = .ok (.getfield 15, 3) := by decide +kernel
theorem dX6_inTurn_7 : decode cX6_inTurn 7 = .ok (.if_icmp .ge 21, 3) := by decide +kernel
theorem dX6_inTurn_10 : decode cX6_inTurn 10 = .ok (.aload_n 0, 1) := by decide +kernel
theorem dX6_inTurn_11 : decode cX6_inTurn 11 = .ok (.iload_n 3, 1) := by decide +kernel
theorem dX6_inTurn_12 : decode cX6_inTurn 12 = .ok (.aload_n 2, 1) := by decide +kernel
theorem dX6_inTurn_13 : decode cX6_inTurn 13 = .ok (.invokevirtual 32, 3) := by decide +kernel
theorem dX6_inTurn_16 : decode cX6_inTurn 16 = .ok (.iload_n 1, 1) := by decide +kernel
theorem dX6_inTurn_17 : decode cX6_inTurn 17 = .ok (.if_icmp .ne 5, 3) := by decide +kernel
theorem dX6_inTurn_20 : decode cX6_inTurn 20 = .ok (.iload_n 3, 1) := by decide +kernel
theorem dX6_inTurn_21 : decode cX6_inTurn 21 = .ok (.ireturn, 1) := by decide +kernel
theorem dX6_inTurn_22 : decode cX6_inTurn 22 = .ok (.iinc 3 1, 3) := by decide +kernel
theorem dX6_inTurn_25 : decode cX6_inTurn 25 = .ok (.goto (-23), 3) := by decide +kernel
theorem dX6_inTurn_28 : decode cX6_inTurn 28 = .ok (.iconst (-1), 1) := by decide +kernel
theorem dX6_inTurn_29 : decode cX6_inTurn 29 = .ok (.ireturn, 1) := by decide +kernel
set_option maxRecDepth 20000 in
theorem ggX6_turnOf_X6_heldBy : GoodIn wsX6_turnOf wsX6_heldBy := goodIn_r _ [6, 7, 8, 9] (by decide +kernel) (by decide +kernel)
set_option maxRecDepth 20000 in
theorem gX6_turnOf_X6_heldBy : GoodIn wsX6_turnOf (wsV RX6 36 RX6 yX6_heldBy wsX6_heldBy) := goodIn_app (goodIn_of _ (by decide +kernel)) ggX6_turnOf_X6_heldBy
theorem dX6_turnOf_0 : decode cX6_turnOf 0 = .ok (.aload_n 0, 1) := by decide +kernel
theorem dX6_turnOf_1 : decode cX6_turnOf 1 = .ok (.iload_n 1, 1) := by decide +kernel
theorem dX6_turnOf_2 : decode cX6_turnOf 2 = .ok (.aload_n 2, 1) := by decide +kernel
theorem dX6_turnOf_3 : decode cX6_turnOf 3 = .ok (.invokevirtual 36, 3) := by decide +kernel
theorem dX6_turnOf_6 : decode cX6_turnOf 6 = .ok (.istore_n 3, 1) := by decide +kernel
theorem dX6_turnOf_7 : decode cX6_turnOf 7 = .ok (.iconst 0, 1) := by decide +kernel
theorem dX6_turnOf_8 : decode cX6_turnOf 8 = .ok (.istore 4, 2) := by decide +kernel
theorem dX6_turnOf_10 : decode cX6_turnOf 10 = .ok (.iconst 0, 1) := by decide +kernel
theorem dX6_turnOf_11 : decode cX6_turnOf 11 = .ok (.istore 5, 2) := by decide +kernel
theorem dX6_turnOf_13 : decode cX6_turnOf 13 = .ok (.iload 5, 2) := by decide +kernel
theorem dX6_turnOf_15 : decode cX6_turnOf 15 = .ok (.aload_n 0, 1) := by decide +kernel
theorem dX6_turnOf_16 : decode cX6_turnOf 16 = .ok (.getfield 15, 3) := by decide +kernel
theorem dX6_turnOf_19 : decode cX6_turnOf 19 = .ok (.if_icmp .ge 39, 3) := by decide +kernel
theorem dX6_turnOf_22 : decode cX6_turnOf 22 = .ok (.aload_n 0, 1) := by decide +kernel
theorem dX6_turnOf_23 : decode cX6_turnOf 23 = .ok (.iload 5, 2) := by decide +kernel
theorem dX6_turnOf_25 : decode cX6_turnOf 25 = .ok (.aload_n 2, 1) := by decide +kernel
theorem dX6_turnOf_26 : decode cX6_turnOf 26 = .ok (.invokevirtual 36, 3) := by decide +kernel
theorem dX6_turnOf_29 : decode cX6_turnOf 29 = .ok (.istore 6, 2) := by decide +kernel
theorem dX6_turnOf_31 : decode cX6_turnOf 31 = .ok (.iload 6, 2) := by decide +kernel
theorem dX6_turnOf_33 : decode cX6_turnOf 33 = .ok (.iload_n 3, 1) := by decide +kernel
theorem dX6_turnOf_34 : decode cX6_turnOf 34 = .ok (.if_icmp .lt 15, 3) := by decide +kernel
theorem dX6_turnOf_37 : decode cX6_turnOf 37 = .ok (.iload 6, 2) := by decide +kernel
theorem dX6_turnOf_39 : decode cX6_turnOf 39 = .ok (.iload_n 3, 1) := by decide +kernel
theorem dX6_turnOf_40 : decode cX6_turnOf 40 = .ok (.if_icmp .ne 12, 3) := by decide +kernel
theorem dX6_turnOf_43 : decode cX6_turnOf 43 = .ok (.iload 5, 2) := by decide +kernel
theorem dX6_turnOf_45 : decode cX6_turnOf 45 = .ok (.iload_n 1, 1) := by decide +kernel
theorem dX6_turnOf_46 : decode cX6_turnOf 46 = .ok (.if_icmp .ge 6, 3) := by decide +kernel
theorem dX6_turnOf_49 : decode cX6_turnOf 49 = .ok (.iinc 4 1, 3) := by decide +kernel
theorem dX6_turnOf_52 : decode cX6_turnOf 52 = .ok (.iinc 5 1, 3) := by decide +kernel
theorem dX6_turnOf_55 : decode cX6_turnOf 55 = .ok (.goto (-42), 3) := by decide +kernel
theorem dX6_turnOf_58 : decode cX6_turnOf 58 = .ok (.iload 4, 2) := by decide +kernel
theorem dX6_turnOf_60 : decode cX6_turnOf 60 = .ok (.ireturn, 1) := by decide +kernel
theorem dX6_heldBy_0 : decode cX6_heldBy 0 = .ok (.iload_n 1, 1) := by decide +kernel
theorem dX6_heldBy_1 : decode cX6_heldBy 1 = .ok (.ifCond .lt 21, 3) := by decide +kernel
theorem dX6_heldBy_4 : decode cX6_heldBy 4 = .ok (.iload_n 1, 1) := by decide +kernel
theorem dX6_heldBy_5 : decode cX6_heldBy 5 = .ok (.bipush 10, 2) := by decide +kernel
theorem dX6_heldBy_7 : decode cX6_heldBy 7 = .ok (.if_icmp .ge 15, 3) := by decide +kernel
theorem dX6_heldBy_10 : decode cX6_heldBy 10 = .ok (.aload_n 0, 1) := by decide +kernel
theorem dX6_heldBy_11 : decode cX6_heldBy 11 = .ok (.getfield 11, 3) := by decide +kernel
theorem dX6_heldBy_14 : decode cX6_heldBy 14 = .ok (.iload_n 1, 1) := by decide +kernel
theorem dX6_heldBy_15 : decode cX6_heldBy 15 = .ok (.iaload, 1) := by decide +kernel
theorem dX6_heldBy_16 : decode cX6_heldBy 16 = .ok (.bipush 10, 2) := by decide +kernel
theorem dX6_heldBy_18 : decode cX6_heldBy 18 = .ok (.idiv, 1) := by decide +kernel
theorem dX6_heldBy_19 : decode cX6_heldBy 19 = .ok (.goto 4, 3) := by decide +kernel
theorem dX6_heldBy_23 : decode cX6_heldBy 23 = .ok (.istore_n 3, 1) := by decide +kernel
theorem dX6_heldBy_24 : decode cX6_heldBy 24 = .ok (.iload_n 3, 1) := by decide +kernel
theorem dX6_heldBy_25 : decode cX6_heldBy 25 = .ok (.ifCond .lt 15, 3) := by decide +kernel
theorem dX6_heldBy_28 : decode cX6_heldBy 28 = .ok (.iload_n 3, 1) := by decide +kernel
theorem dX6_heldBy_29 : decode cX6_heldBy 29 = .ok (.aload_n 2, 1) := by decide +kernel
theorem dX6_heldBy_30 : decode cX6_heldBy 30 = .ok (.arraylength, 1) := by decide +kernel
theorem dX6_heldBy_31 : decode cX6_heldBy 31 = .ok (.if_icmp .ge 9, 3) := by decide +kernel
theorem dX6_heldBy_34 : decode cX6_heldBy 34 = .ok (.aload_n 2, 1) := by decide +kernel
theorem dX6_heldBy_35 : decode cX6_heldBy 35 = .ok (.iload_n 3, 1) := by decide +kernel
theorem dX6_heldBy_36 : decode cX6_heldBy 36 = .ok (.iaload, 1) := by decide +kernel
theorem dX6_heldBy_37 : decode cX6_heldBy 37 = .ok (.goto 4, 3) := by decide +kernel
theorem dX6_heldBy_41 : decode cX6_heldBy 41 = .ok (.ireturn, 1) := by decide +kernel
set_option maxRecDepth 20000 in
theorem ggX7_init_X5_init : GoodIn wsX7_init wsX5_init := goodIn_r _ [24, 25, 2, 3, 26, 27, 28, 29, 77, 78, 79, 80, 81] (by decide +kernel) (by decide +kernel)
set_option maxRecDepth 20000 in
theorem gX7_init_X5_init_n9 : GoodIn wsX7_init (wsX5_init) := ggX7_init_X5_init
set_option maxRecDepth 20000 in
theorem ggX7_init_X2_init : GoodIn wsX7_init wsX2_init := goodIn_r _ [31, 32, 2, 3, 28, 33, 34, 35, 36, 37, 38, 39, 40, 41, 42, 43, 44, 45, 46, 47, 48, 49, 50, 51, 52, 53, 54, 55, 56, 57, 58, 59, 60, 61, 62, 63, 64, 65, 89, 90, 91, 92, 93, 94, 95, 96, 97, 98, 99, 100, 101, 102, 103, 109, 110, 111, 112] (by decide +kernel) (by decide +kernel)
set_option maxRecDepth 20000 in
theorem gX7_init_X2_init_n18 : GoodIn wsX7_init (wsX2_init) := ggX7_init_X2_init
set_option maxRecDepth 20000 in
theorem ggX7_init_X1_init : GoodIn wsX7_init wsX1_init := goodIn_r _ [68, 69, 2, 3, 70, 71, 9, 10, 30, 31, 32, 28, 33, 34, 35, 36, 37, 38, 39, 40, 41, 42, 43, 44, 45, 46, 47, 48, 49, 50, 51, 52, 53, 54, 55, 56, 57, 58, 59, 60, 61, 62, 63, 64, 65, 104, 105, 106, 89, 90, 91, 92, 93, 94, 95, 96, 97, 98, 99, 100, 101, 102, 103, 109, 110, 111, 112] (by decide +kernel) (by decide +kernel)
set_option maxRecDepth 20000 in
theorem gX7_init_X1_init : GoodIn wsX7_init (wsX1_init) := ggX7_init_X1_init
set_option maxRecDepth 20000 in
theorem ggX7_init_X4_init : GoodIn wsX7_init wsX4_init := goodIn_r _ [73, 74, 2, 3, 75, 9, 10, 76, 30, 31, 32, 28, 33, 34, 35, 36, 37, 38, 39, 40, 41, 42, 43, 44, 45, 46, 47, 48, 49, 50, 51, 52, 53, 54, 55, 56, 57, 58, 59, 60, 61, 62, 63, 64, 65, 89, 90, 91, 92, 93, 94, 95, 96, 97, 98, 99, 100, 101, 102, 103, 107, 108, 109, 110, 111, 112] (by decide +kernel) (by decide +kernel)
set_option maxRecDepth 20000 in
theorem gX7_init_X4_init_n32 : GoodIn wsX7_init (wsX4_init) := ggX7_init_X4_init
theorem dX7_init_0 : decode cX7_init 0 = .ok (.aload_n 0, 1) := by decide +kernel
theorem dX7_init_1 : decode cX7_init 1 = .ok (.invokespecial 1, 3) := by decide +kernel
theorem dX7_init_4 : decode cX7_init 4 = .ok (.aload_n 0, 1) := by decide +kernel
theorem dX7_init_5 : decode cX7_init 5 = .ok (.new 7, 3) := by decide +kernel
theorem dX7_init_8 : decode cX7_init 8 = .ok (.dup, 1) := by decide +kernel
theorem dX7_init_9 : decode cX7_init 9 = .ok (.invokespecial 9, 3) := by decide +kernel
theorem dX7_init_12 : decode cX7_init 12 = .ok (.putfield 10, 3) := by decide +kernel
theorem dX7_init_15 : decode cX7_init 15 = .ok (.aload_n 0, 1) := by decide +kernel
theorem dX7_init_16 : decode cX7_init 16 = .ok (.new 16, 3) := by decide +kernel
theorem dX7_init_19 : decode cX7_init 19 = .ok (.dup, 1) := by decide +kernel
theorem dX7_init_20 : decode cX7_init 20 = .ok (.invokespecial 18, 3) := by decide +kernel
theorem dX7_init_23 : decode cX7_init 23 = .ok (.putfield 19, 3) := by decide +kernel
theorem dX7_init_26 : decode cX7_init 26 = .ok (.aload_n 0, 1) := by decide +kernel
theorem dX7_init_27 : decode cX7_init 27 = .ok (.new 23, 3) := by decide +kernel
theorem dX7_init_30 : decode cX7_init 30 = .ok (.dup, 1) := by decide +kernel
theorem dX7_init_31 : decode cX7_init 31 = .ok (.invokespecial 25, 3) := by decide +kernel
theorem dX7_init_34 : decode cX7_init 34 = .ok (.putfield 26, 3) := by decide +kernel
theorem dX7_init_37 : decode cX7_init 37 = .ok (.aload_n 0, 1) := by decide +kernel
theorem dX7_init_38 : decode cX7_init 38 = .ok (.new 30, 3) := by decide +kernel
theorem dX7_init_41 : decode cX7_init 41 = .ok (.dup, 1) := by decide +kernel
theorem dX7_init_42 : decode cX7_init 42 = .ok (.invokespecial 32, 3) := by decide +kernel
theorem dX7_init_45 : decode cX7_init 45 = .ok (.putfield 33, 3) := by decide +kernel
theorem dX7_init_48 : decode cX7_init 48 = .ok (.aload_n 0, 1) := by decide +kernel
theorem dX7_init_49 : decode cX7_init 49 = .ok (.new 30, 3) := by decide +kernel
theorem dX7_init_52 : decode cX7_init 52 = .ok (.dup, 1) := by decide +kernel
theorem dX7_init_53 : decode cX7_init 53 = .ok (.invokespecial 32, 3) := by decide +kernel
theorem dX7_init_56 : decode cX7_init 56 = .ok (.putfield 37, 3) := by decide +kernel
theorem dX7_init_59 : decode cX7_init 59 = .ok (.aload_n 0, 1) := by decide +kernel
theorem dX7_init_60 : decode cX7_init 60 = .ok (.new 16, 3) := by decide +kernel
theorem dX7_init_63 : decode cX7_init 63 = .ok (.dup, 1) := by decide +kernel
theorem dX7_init_64 : decode cX7_init 64 = .ok (.invokespecial 18, 3) := by decide +kernel
theorem dX7_init_67 : decode cX7_init 67 = .ok (.putfield 40, 3) := by decide +kernel
theorem dX7_init_70 : decode cX7_init 70 = .ok (.aload_n 0, 1) := by decide +kernel
theorem dX7_init_71 : decode cX7_init 71 = .ok (.new 16, 3) := by decide +kernel
theorem dX7_init_74 : decode cX7_init 74 = .ok (.dup, 1) := by decide +kernel
theorem dX7_init_75 : decode cX7_init 75 = .ok (.invokespecial 18, 3) := by decide +kernel
theorem dX7_init_78 : decode cX7_init 78 = .ok (.putfield 43, 3) := by decide +kernel
theorem dX7_init_81 : decode cX7_init 81 = .ok (.return_, 1) := by decide +kernel
set_option maxRecDepth 20000 in
theorem ggX7_append_X7_isBetween : GoodIn wsX7_append wsX7_isBetween := goodIn_r _ [9] (by decide +kernel) (by decide +kernel)
set_option maxRecDepth 20000 in
theorem gX7_append_X7_isBetween : GoodIn wsX7_append (va_wsS RX7 46 yX7_isBetween wsX7_isBetween) := goodIn_app (goodIn_of _ (by decide +kernel)) ggX7_append_X7_isBetween
set_option maxRecDepth 20000 in
theorem ggX7_append_X5_isFull : GoodIn wsX7_append wsX5_isFull := goodIn_r _ [14, 15, 28, 29, 30, 31, 32] (by decide +kernel) (by decide +kernel)
set_option maxRecDepth 20000 in
theorem gX7_append_X5_isFull : GoodIn wsX7_append (wsV RX7 57 RX5 yX5_isFull wsX5_isFull) := goodIn_app (goodIn_of _ (by decide +kernel)) ggX7_append_X5_isFull
set_option maxRecDepth 20000 in
theorem ggX7_append_X5_add : GoodIn wsX7_append wsX5_add := goodIn_r _ [19, 15, 20, 28, 29, 30, 31, 32] (by decide +kernel) (by decide +kernel)
set_option maxRecDepth 20000 in
theorem gX7_append_X5_add : GoodIn wsX7_append (wsV RX7 66 RX5 yX5_add wsX5_add) := goodIn_app (goodIn_of _ (by decide +kernel)) ggX7_append_X5_add
theorem dX7_append_0 : decode cX7_append 0 = .ok (.iload_n 1, 1) := by decide +kernel
theorem dX7_append_1 : decode cX7_append 1 = .ok (.iconst 0, 1) := by decide +kernel
theorem dX7_append_2 : decode cX7_append 2 = .ok (.sipush 255, 3) := by decide +kernel
theorem dX7_append_5 : decode cX7_append 5 = .ok (.invokestatic 46, 3) := by decide +kernel
theorem dX7_append_8 : decode cX7_append 8 = .ok (.ifCond .ne 13, 3) := by decide +kernel
theorem dX7_append_11 : decode cX7_append 11 = .ok (.new 50, 3) := by decide +kernel
theorem dX7_append_14 : decode cX7_append 14 = .ok (.dup, 1) := by decide +kernel
theorem dX7_append_15 : decode cX7_append 15 = .ok (.ldc 52, 2) := by decide +kernel
theorem dX7_append_17 : decode cX7_append 17 = .ok (.invokespecial 54, 3) := by decide +kernel
theorem dX7_append_20 : decode cX7_append 20 = .ok (.athrow, 1) := by decide +kernel
theorem dX7_append_21 : decode cX7_append 21 = .ok (.aload_n 0, 1) := by decide +kernel
theorem dX7_append_22 : decode cX7_append 22 = .ok (.getfield 10, 3) := by decide +kernel
theorem dX7_append_25 : decode cX7_append 25 = .ok (.invokevirtual 57, 3) := by decide +kernel
theorem dX7_append_28 : decode cX7_append 28 = .ok (.ifCond .eq 13, 3) := by decide +kernel
theorem dX7_append_31 : decode cX7_append 31 = .ok (.new 61, 3) := by decide +kernel
theorem dX7_append_34 : decode cX7_append 34 = .ok (.dup, 1) := by decide +kernel
theorem dX7_append_35 : decode cX7_append 35 = .ok (.ldc 63, 2) := by decide +kernel
theorem dX7_append_37 : decode cX7_append 37 = .ok (.invokespecial 65, 3) := by decide +kernel
theorem dX7_append_40 : decode cX7_append 40 = .ok (.athrow, 1) := by decide +kernel
theorem dX7_append_41 : decode cX7_append 41 = .ok (.aload_n 0, 1) := by decide +kernel
theorem dX7_append_42 : decode cX7_append 42 = .ok (.getfield 10, 3) := by decide +kernel
theorem dX7_append_45 : decode cX7_append 45 = .ok (.iload_n 1, 1) := by decide +kernel
theorem dX7_append_46 : decode cX7_append 46 = .ok (.invokevirtual 66, 3) := by decide +kernel
theorem dX7_append_49 : decode cX7_append 49 = .ok (.ireturn, 1) := by decide +kernel
set_option maxRecDepth 20000 in
theorem ggX7_clearText_X5_drop : GoodIn wsX7_clearText wsX5_drop := goodIn_r _ [6, 7, 15, 16, 17, 18, 19] (by decide +kernel) (by decide +kernel)
set_option maxRecDepth 20000 in
theorem gX7_clearText_X5_drop : GoodIn wsX7_clearText (wsV RX7 70 RX5 yX5_drop wsX5_drop) := goodIn_app (goodIn_of _ (by decide +kernel)) ggX7_clearText_X5_drop
theorem dX7_clearText_0 : decode cX7_clearText 0 = .ok (.aload_n 0, 1) := by decide +kernel
theorem dX7_clearText_1 : decode cX7_clearText 1 = .ok (.getfield 10, 3) := by decide +kernel
theorem dX7_clearText_4 : decode cX7_clearText 4 = .ok (.invokevirtual 70, 3) := by decide +kernel
theorem dX7_clearText_7 : decode cX7_clearText 7 = .ok (.ireturn, 1) := by decide +kernel
set_option maxRecDepth 20000 in
theorem ggX7_errorPosition_X5_errorIndex : GoodIn wsX7_errorPosition wsX5_errorIndex := goodIn_r _ [6, 7, 8, 9, 10, 11, 5, 12, 13, 14, 15, 16, 17, 18, 19, 20, 21, 22, 23, 24, 25, 26, 27, 28, 29, 30, 31, 32, 33, 34, 35, 36, 37, 38, 39, 40, 41, 42, 43, 44, 45, 46, 47, 48, 49, 50, 51, 52, 53, 54, 55, 56, 57, 58, 59, 60, 61, 62, 63, 64, 65, 66, 67, 68, 69, 70, 71, 72, 73, 74, 75, 76, 77, 78, 79, 80, 81, 82, 83, 84, 85, 86, 87, 88, 89, 90, 91, 92, 93, 94, 95, 96, 97, 98, 99, 100, 101, 102, 103, 104, 105, 106, 107, 108, 109, 110, 118, 119, 120, 121, 122] (by decide +kernel) (by decide +kernel)
set_option maxRecDepth 20000 in
theorem gX7_errorPosition_X5_errorIndex : GoodIn wsX7_errorPosition (wsV RX7 74 RX5 yX5_errorIndex wsX5_errorIndex) := goodIn_app (goodIn_of _ (by decide +kernel)) ggX7_errorPosition_X5_errorIndex
theorem dX7_errorPosition_0 : decode cX7_errorPosition 0 = .ok (.aload_n 0, 1) := by decide +kernel
theorem dX7_errorPosition_1 : decode cX7_errorPosition 1 = .ok (.getfield 10, 3) := by decide +kernel
theorem dX7_errorPosition_4 : decode cX7_errorPosition 4 = .ok (.invokevirtual 74, 3) := by decide +kernel
theorem dX7_errorPosition_7 : decode cX7_errorPosition 7 = .ok (.ireturn, 1) := by decide +kernel
set_option maxRecDepth 20000 in
theorem ggX7_load_X5_errorIndex : GoodIn wsX7_load wsX5_errorIndex := goodIn_r _ [14, 15, 16, 17, 18, 19, 13, 20, 21, 22, 23, 24, 25, 26, 27, 28, 29, 30, 31, 32, 33, 34, 35, 36, 37, 38, 39, 40, 41, 42, 43, 44, 45, 46, 47, 48, 49, 50, 51, 52, 53, 54, 55, 56, 57, 58, 59, 60, 61, 62, 63, 64, 65, 66, 67, 68, 69, 70, 71, 72, 73, 74, 75, 76, 77, 78, 79, 80, 81, 82, 83, 84, 85, 86, 87, 88, 89, 90, 91, 92, 93, 94, 95, 96, 97, 98, 99, 100, 101, 102, 103, 104, 105, 106, 107, 108, 109, 110, 111, 112, 113, 114, 115, 116, 117, 118, 358, 359, 360, 361, 362] (by decide +kernel) (by decide +kernel)
set_option maxRecDepth 20000 in
theorem gX7_load_X5_errorIndex : GoodIn wsX7_load (wsV RX7 74 RX5 yX5_errorIndex wsX5_errorIndex) := goodIn_app (goodIn_of _ (by decide +kernel)) ggX7_load_X5_errorIndex
set_option maxRecDepth 20000 in
theorem ggX7_load_X2_copyFrom : GoodIn wsX7_load wsX2_copyFrom := goodIn_r _ [123, 124, 125, 126, 127, 128, 129, 130, 131, 132, 133, 134, 135, 136, 137, 138, 139, 140, 141, 142, 143, 144, 145, 146, 147, 148, 149, 150, 151, 152, 153, 154, 155, 156, 157, 158, 363, 364, 365, 366, 367, 368, 369, 370, 371, 372, 373, 374, 375, 376, 377, 378, 379, 380, 381] (by decide +kernel) (by decide +kernel)
set_option maxRecDepth 20000 in
theorem gX7_load_X2_copyFrom : GoodIn wsX7_load (wsV RX7 79 RX2 yX2_copyFrom wsX2_copyFrom) := goodIn_app (goodIn_of _ (by decide +kernel)) ggX7_load_X2_copyFrom
set_option maxRecDepth 20000 in
theorem ggX7_load_X1_forget : GoodIn wsX7_load wsX1_forget := goodIn_r _ [163, 164, 382, 383, 384] (by decide +kernel) (by decide +kernel)
set_option maxRecDepth 20000 in
theorem gX7_load_X1_forget : GoodIn wsX7_load (wsV RX7 83 RX1 yX1_forget wsX1_forget) := goodIn_app (goodIn_of _ (by decide +kernel)) ggX7_load_X1_forget
set_option maxRecDepth 20000 in
theorem ggX7_load_X5_startReading : GoodIn wsX7_load wsX5_startReading := goodIn_r _ [20, 15, 358, 359, 360, 361, 362] (by decide +kernel) (by decide +kernel)
set_option maxRecDepth 20000 in
theorem gX7_load_X5_startReading : GoodIn wsX7_load (wsV RX7 90 RX5 yX5_startReading wsX5_startReading) := goodIn_app (goodIn_of _ (by decide +kernel)) ggX7_load_X5_startReading
set_option maxRecDepth 20000 in
theorem ggX7_load_X5_readCommand : GoodIn wsX7_load wsX5_readCommand := goodIn_r _ [24, 25, 26, 27, 28, 13, 29, 15, 30, 31, 32, 33, 34, 35, 36, 37, 38, 39, 40, 41, 42, 43, 44, 45, 46, 47, 48, 49, 50, 51, 52, 53, 54, 55, 56, 16, 57, 58, 59, 60, 61, 62, 63, 64, 65, 66, 67, 68, 69, 70, 71, 72, 73, 74, 75, 76, 77, 78, 79, 80, 81, 82, 83, 84, 85, 86, 87, 88, 89, 90, 91, 92, 93, 94, 95, 96, 97, 98, 99, 100, 101, 102, 103, 104, 105, 106, 107, 108, 109, 110, 111, 112, 113, 114, 115, 116, 117, 118, 358, 359, 360, 361, 362] (by decide +kernel) (by decide +kernel)
set_option maxRecDepth 20000 in
theorem gX7_load_X5_readCommand : GoodIn wsX7_load (wsV RX7 93 RX5 yX5_readCommand wsX5_readCommand) := goodIn_app (goodIn_of _ (by decide +kernel)) ggX7_load_X5_readCommand
set_option maxRecDepth 20000 in
theorem ggX7_load_X5_doCommand : GoodIn wsX7_load wsX5_doCommand := goodIn_r _ [170, 25, 106, 171, 172, 173, 122, 174, 125, 126, 116, 117, 118, 175, 176, 177, 178, 131, 179, 180, 181, 182, 183, 184, 185, 186, 187, 188, 189, 190, 191, 192, 193, 194, 195, 139, 196, 197, 198, 199, 124, 200, 201, 202, 203, 204, 205, 206, 207, 132, 137, 134, 208, 209, 210, 211, 212, 213, 214, 215, 146, 216, 148, 149, 217, 218, 219, 220, 135, 142, 221, 222, 223, 224, 225, 226, 227, 228, 229, 230, 231, 232, 150, 128, 129, 130, 233, 234, 235, 236, 237, 238, 239, 240, 241, 242, 243, 244, 245, 140, 246, 247, 248, 249, 154, 250, 156, 251, 252, 253, 254, 157, 255, 256, 257, 258, 138, 259, 260, 261, 262, 141, 263, 264, 265, 266, 267, 133, 268, 269, 270, 271, 272, 273, 274, 275, 276, 277, 278, 279, 280, 281, 282, 283, 284, 285, 286, 287, 288, 289, 290, 291, 292, 293, 294, 295, 296, 297, 298, 299, 158, 300, 301, 302, 303, 304, 305, 306, 307, 308, 309, 310, 311, 312, 313, 314, 315, 316, 317, 318, 319, 320, 321, 322, 323, 324, 325, 326, 327, 328, 329, 330, 331, 136, 332, 333, 334, 335, 336, 337, 338, 339, 340, 341, 342, 343, 344, 345, 346, 347, 358, 359, 360, 361, 362, 363, 364, 365, 366, 367, 368, 369, 370, 371, 372, 373, 374, 375, 376, 377, 378, 379, 380, 381] (by decide +kernel) (by decide +kernel)
set_option maxRecDepth 20000 in
theorem gX7_load_X5_doCommand : GoodIn wsX7_load (wsV RX7 96 RX5 yX5_doCommand wsX5_doCommand) := goodIn_app (goodIn_of _ (by decide +kernel)) ggX7_load_X5_doCommand
set_option maxRecDepth 20000 in
theorem ggX7_load_X5_readSign : GoodIn wsX7_load wsX5_readSign := goodIn_r _ [101, 15, 53, 54, 55, 13, 56, 16, 57, 358, 359, 360, 361, 362] (by decide +kernel) (by decide +kernel)
set_option maxRecDepth 20000 in
theorem gX7_load_X5_readSign : GoodIn wsX7_load (wsV RX7 100 RX5 yX5_readSign wsX5_readSign) := goodIn_app (goodIn_of _ (by decide +kernel)) ggX7_load_X5_readSign
theorem dX7_load_0 : decode cX7_load 0 = .ok (.aload_n 0, 1) := by decide +kernel
theorem dX7_load_1 : decode cX7_load 1 = .ok (.getfield 10, 3) := by decide +kernel
theorem dX7_load_4 : decode cX7_load 4 = .ok (.invokevirtual 74, 3) := by decide +kernel
theorem dX7_load_7 : decode cX7_load 7 = .ok (.iconst (-1), 1) := by decide +kernel
theorem dX7_load_8 : decode cX7_load 8 = .ok (.if_icmp .eq 13, 3) := by decide +kernel
theorem dX7_load_11 : decode cX7_load 11 = .ok (.new 61, 3) := by decide +kernel
theorem dX7_load_14 : decode cX7_load 14 = .ok (.dup, 1) := by decide +kernel
theorem dX7_load_15 : decode cX7_load 15 = .ok (.ldc 77, 2) := by decide +kernel
theorem dX7_load_17 : decode cX7_load 17 = .ok (.invokespecial 65, 3) := by decide +kernel
theorem dX7_load_20 : decode cX7_load 20 = .ok (.athrow, 1) := by decide +kernel
theorem dX7_load_21 : decode cX7_load 21 = .ok (.aload_n 0, 1) := by decide +kernel
theorem dX7_load_22 : decode cX7_load 22 = .ok (.getfield 19, 3) := by decide +kernel
theorem dX7_load_25 : decode cX7_load 25 = .ok (.aload_n 0, 1) := by decide +kernel
theorem dX7_load_26 : decode cX7_load 26 = .ok (.getfield 43, 3) := by decide +kernel
theorem dX7_load_29 : decode cX7_load 29 = .ok (.invokevirtual 79, 3) := by decide +kernel
theorem dX7_load_32 : decode cX7_load 32 = .ok (.aload_n 0, 1) := by decide +kernel
theorem dX7_load_33 : decode cX7_load 33 = .ok (.getfield 26, 3) := by decide +kernel
theorem dX7_load_36 : decode cX7_load 36 = .ok (.invokevirtual 83, 3) := by decide +kernel
theorem dX7_load_39 : decode cX7_load 39 = .ok (.aload_n 0, 1) := by decide +kernel
theorem dX7_load_40 : decode cX7_load 40 = .ok (.getfield 33, 3) := by decide +kernel
theorem dX7_load_43 : decode cX7_load 43 = .ok (.iconst 0, 1) := by decide +kernel
theorem dX7_load_44 : decode cX7_load 44 = .ok (.putfield 86, 3) := by decide +kernel
theorem dX7_load_47 : decode cX7_load 47 = .ok (.aload_n 0, 1) := by decide +kernel
theorem dX7_load_48 : decode cX7_load 48 = .ok (.getfield 37, 3) := by decide +kernel
theorem dX7_load_51 : decode cX7_load 51 = .ok (.iconst 0, 1) := by decide +kernel
theorem dX7_load_52 : decode cX7_load 52 = .ok (.putfield 86, 3) := by decide +kernel
theorem dX7_load_55 : decode cX7_load 55 = .ok (.iconst 0, 1) := by decide +kernel
theorem dX7_load_56 : decode cX7_load 56 = .ok (.istore_n 1, 1) := by decide +kernel
theorem dX7_load_57 : decode cX7_load 57 = .ok (.aload_n 0, 1) := by decide +kernel
theorem dX7_load_58 : decode cX7_load 58 = .ok (.getfield 10, 3) := by decide +kernel
theorem dX7_load_61 : decode cX7_load 61 = .ok (.invokevirtual 90, 3) := by decide +kernel
theorem dX7_load_64 : decode cX7_load 64 = .ok (.bipush 120, 2) := by decide +kernel
theorem dX7_load_66 : decode cX7_load 66 = .ok (.istore_n 2, 1) := by decide +kernel
theorem dX7_load_67 : decode cX7_load 67 = .ok (.iload_n 2, 1) := by decide +kernel
theorem dX7_load_68 : decode cX7_load 68 = .ok (.ifCond .le 46, 3) := by decide +kernel
theorem dX7_load_71 : decode cX7_load 71 = .ok (.aload_n 0, 1) := by decide +kernel
theorem dX7_load_72 : decode cX7_load 72 = .ok (.getfield 10, 3) := by decide +kernel
theorem dX7_load_75 : decode cX7_load 75 = .ok (.invokevirtual 93, 3) := by decide +kernel
theorem dX7_load_78 : decode cX7_load 78 = .ok (.ifCond .eq 36, 3) := by decide +kernel
theorem dX7_load_81 : decode cX7_load 81 = .ok (.aload_n 0, 1) := by decide +kernel
theorem dX7_load_82 : decode cX7_load 82 = .ok (.getfield 10, 3) := by decide +kernel
theorem dX7_load_85 : decode cX7_load 85 = .ok (.aload_n 0, 1) := by decide +kernel
theorem dX7_load_86 : decode cX7_load 86 = .ok (.getfield 19, 3) := by decide +kernel
theorem dX7_load_89 : decode cX7_load 89 = .ok (.invokevirtual 96, 3) := by decide +kernel
theorem dX7_load_92 : decode cX7_load 92 = .ok (.ifCond .ge 6, 3) := by decide +kernel
theorem dX7_load_95 : decode cX7_load 95 = .ok (.iinc 1 1, 3) := by decide +kernel
theorem dX7_load_98 : decode cX7_load 98 = .ok (.aload_n 0, 1) := by decide +kernel
theorem dX7_load_99 : decode cX7_load 99 = .ok (.getfield 10, 3) := by decide +kernel
theorem dX7_load_102 : decode cX7_load 102 = .ok (.bipush 59, 2) := by decide +kernel
theorem dX7_load_104 : decode cX7_load 104 = .ok (.invokevirtual 100, 3) := by decide +kernel
theorem dX7_load_107 : decode cX7_load 107 = .ok (.pop, 1) := by decide +kernel
theorem dX7_load_108 : decode cX7_load 108 = .ok (.iinc 2 (-1), 3) := by decide +kernel
theorem dX7_load_111 : decode cX7_load 111 = .ok (.goto (-44), 3) := by decide +kernel
theorem dX7_load_114 : decode cX7_load 114 = .ok (.iload_n 1, 1) := by decide +kernel
theorem dX7_load_115 : decode cX7_load 115 = .ok (.ireturn, 1) := by decide +kernel
set_option maxRecDepth 20000 in
theorem ggX7_about_X7_isBetween : GoodIn wsX7_about wsX7_isBetween := goodIn_r _ [7] (by decide +kernel) (by decide +kernel)
set_option maxRecDepth 20000 in
theorem gX7_about_X7_isBetween : GoodIn wsX7_about (va_wsS RX7 46 yX7_isBetween wsX7_isBetween) := goodIn_app (goodIn_of _ (by decide +kernel)) ggX7_about_X7_isBetween
set_option maxRecDepth 20000 in
theorem ggX7_about_X2_numberOfAll : GoodIn wsX7_about wsX2_numberOfAll := goodIn_r _ [12, 13, 14, 15, 16, 17, 18, 19, 20, 21, 22, 23, 24, 11, 25, 33, 34, 35, 36, 37, 38, 39, 40, 41, 42, 43, 44, 45, 46, 47, 48, 49, 50, 51] (by decide +kernel) (by decide +kernel)
set_option maxRecDepth 20000 in
theorem gX7_about_X2_numberOfAll : GoodIn wsX7_about (wsV RX7 106 RX2 yX2_numberOfAll wsX2_numberOfAll) := goodIn_app (goodIn_of _ (by decide +kernel)) ggX7_about_X2_numberOfAll
theorem dX7_about_0 : decode cX7_about 0 = .ok (.iload_n 1, 1) := by decide +kernel
theorem dX7_about_1 : decode cX7_about 1 = .ok (.iconst 0, 1) := by decide +kernel
theorem dX7_about_2 : decode cX7_about 2 = .ok (.bipush 10, 2) := by decide +kernel
theorem dX7_about_4 : decode cX7_about 4 = .ok (.invokestatic 46, 3) := by decide +kernel
theorem dX7_about_7 : decode cX7_about 7 = .ok (.ifCond .ne 13, 3) := by decide +kernel
theorem dX7_about_10 : decode cX7_about 10 = .ok (.new 50, 3) := by decide +kernel
theorem dX7_about_13 : decode cX7_about 13 = .ok (.dup, 1) := by decide +kernel
theorem dX7_about_14 : decode cX7_about 14 = .ok (.ldc 104, 2) := by decide +kernel
theorem dX7_about_16 : decode cX7_about 16 = .ok (.invokespecial 54, 3) := by decide +kernel
theorem dX7_about_19 : decode cX7_about 19 = .ok (.athrow, 1) := by decide +kernel
theorem dX7_about_20 : decode cX7_about 20 = .ok (.aload_n 0, 1) := by decide +kernel
theorem dX7_about_21 : decode cX7_about 21 = .ok (.getfield 19, 3) := by decide +kernel
theorem dX7_about_24 : decode cX7_about 24 = .ok (.iload_n 1, 1) := by decide +kernel
theorem dX7_about_25 : decode cX7_about 25 = .ok (.invokevirtual 106, 3) := by decide +kernel
theorem dX7_about_28 : decode cX7_about 28 = .ok (.ireturn, 1) := by decide +kernel
set_option maxRecDepth 20000 in
theorem ggX7_prisoner_X2_hasPrisoner : GoodIn wsX7_prisoner wsX2_hasPrisoner := goodIn_r _ [10, 11, 74, 75, 76, 77, 78, 79, 80, 81, 82, 83, 84, 85, 86, 87, 88] (by decide +kernel) (by decide +kernel)
set_option maxRecDepth 20000 in
theorem gX7_prisoner_X2_hasPrisoner : GoodIn wsX7_prisoner (wsV RX7 109 RX2 yX2_hasPrisoner wsX2_hasPrisoner) := goodIn_app (goodIn_of _ (by decide +kernel)) ggX7_prisoner_X2_hasPrisoner
set_option maxRecDepth 20000 in
theorem ggX7_prisoner_X7_isBetween : GoodIn wsX7_prisoner wsX7_isBetween := goodIn_r _ [15] (by decide +kernel) (by decide +kernel)
set_option maxRecDepth 20000 in
theorem gX7_prisoner_X7_isBetween : GoodIn wsX7_prisoner (va_wsS RX7 46 yX7_isBetween wsX7_isBetween) := goodIn_app (goodIn_of _ (by decide +kernel)) ggX7_prisoner_X7_isBetween
set_option maxRecDepth 20000 in
theorem ggX7_prisoner_X2_numberOfPrisoner : GoodIn wsX7_prisoner wsX2_numberOfPrisoner := goodIn_r _ [19, 20, 21, 22, 23, 24, 25, 26, 27, 28, 29, 7, 8, 9, 10, 11, 30, 31, 32, 33, 34, 35, 36, 37, 38, 39, 40, 41, 42, 43, 44, 45, 46, 47, 48, 49, 50, 51, 52, 53, 54, 55, 56, 57, 58, 59, 60, 61, 62, 63, 64, 65, 66, 74, 75, 76, 77, 78, 79, 80, 81, 82, 83, 84, 85, 86, 87, 88, 89, 90, 91, 92] (by decide +kernel) (by decide +kernel)
set_option maxRecDepth 20000 in
theorem gX7_prisoner_X2_numberOfPrisoner : GoodIn wsX7_prisoner (wsV RX7 120 RX2 yX2_numberOfPrisoner wsX2_numberOfPrisoner) := goodIn_app (goodIn_of _ (by decide +kernel)) ggX7_prisoner_X2_numberOfPrisoner
theorem dX7_prisoner_0 : decode cX7_prisoner 0 = .ok (.aload_n 0, 1) := by decide +kernel
theorem dX7_prisoner_1 : decode cX7_prisoner 1 = .ok (.getfield 19, 3) := by decide +kernel
theorem dX7_prisoner_4 : decode cX7_prisoner 4 = .ok (.iload_n 1, 1) := by decide +kernel
theorem dX7_prisoner_5 : decode cX7_prisoner 5 = .ok (.invokevirtual 109, 3) := by decide +kernel
theorem dX7_prisoner_8 : decode cX7_prisoner 8 = .ok (.ifCond .ne 13, 3) := by decide +kernel
theorem dX7_prisoner_11 : decode cX7_prisoner 11 = .ok (.new 113, 3) := by decide +kernel
theorem dX7_prisoner_14 : decode cX7_prisoner 14 = .ok (.dup, 1) := by decide +kernel
theorem dX7_prisoner_15 : decode cX7_prisoner 15 = .ok (.ldc 115, 2) := by decide +kernel
theorem dX7_prisoner_17 : decode cX7_prisoner 17 = .ok (.invokespecial 117, 3) := by decide +kernel
theorem dX7_prisoner_20 : decode cX7_prisoner 20 = .ok (.athrow, 1) := by decide +kernel
theorem dX7_prisoner_21 : decode cX7_prisoner 21 = .ok (.iload_n 2, 1) := by decide +kernel
theorem dX7_prisoner_22 : decode cX7_prisoner 22 = .ok (.iconst 0, 1) := by decide +kernel
theorem dX7_prisoner_23 : decode cX7_prisoner 23 = .ok (.bipush 7, 2) := by decide +kernel
theorem dX7_prisoner_25 : decode cX7_prisoner 25 = .ok (.invokestatic 46, 3) := by decide +kernel
theorem dX7_prisoner_28 : decode cX7_prisoner 28 = .ok (.ifCond .ne 13, 3) := by decide +kernel
theorem dX7_prisoner_31 : decode cX7_prisoner 31 = .ok (.new 50, 3) := by decide +kernel
theorem dX7_prisoner_34 : decode cX7_prisoner 34 = .ok (.dup, 1) := by decide +kernel
theorem dX7_prisoner_35 : decode cX7_prisoner 35 = .ok (.ldc 118, 2) := by decide +kernel
theorem dX7_prisoner_37 : decode cX7_prisoner 37 = .ok (.invokespecial 54, 3) := by decide +kernel
theorem dX7_prisoner_40 : decode cX7_prisoner 40 = .ok (.athrow, 1) := by decide +kernel
theorem dX7_prisoner_41 : decode cX7_prisoner 41 = .ok (.aload_n 0, 1) := by decide +kernel
theorem dX7_prisoner_42 : decode cX7_prisoner 42 = .ok (.getfield 19, 3) := by decide +kernel
theorem dX7_prisoner_45 : decode cX7_prisoner 45 = .ok (.iload_n 1, 1) := by decide +kernel
theorem dX7_prisoner_46 : decode cX7_prisoner 46 = .ok (.iload_n 2, 1) := by decide +kernel
theorem dX7_prisoner_47 : decode cX7_prisoner 47 = .ok (.invokevirtual 120, 3) := by decide +kernel
theorem dX7_prisoner_50 : decode cX7_prisoner 50 = .ok (.ireturn, 1) := by decide +kernel
set_option maxRecDepth 20000 in
theorem ggX7_visitor_X2_hasVisitor : GoodIn wsX7_visitor wsX2_hasVisitor := goodIn_r _ [9] (by decide +kernel) (by decide +kernel)
set_option maxRecDepth 20000 in
theorem gX7_visitor_X2_hasVisitor : GoodIn wsX7_visitor (va_wsS RX7 124 yX2_hasVisitor wsX2_hasVisitor) := goodIn_app (goodIn_of _ (by decide +kernel)) ggX7_visitor_X2_hasVisitor
set_option maxRecDepth 20000 in
theorem ggX7_visitor_X7_isBetween : GoodIn wsX7_visitor wsX7_isBetween := goodIn_r _ [13] (by decide +kernel) (by decide +kernel)
set_option maxRecDepth 20000 in
theorem gX7_visitor_X7_isBetween : GoodIn wsX7_visitor (va_wsS RX7 46 yX7_isBetween wsX7_isBetween) := goodIn_app (goodIn_of _ (by decide +kernel)) ggX7_visitor_X7_isBetween
set_option maxRecDepth 20000 in
theorem ggX7_visitor_X2_numberOfVisitor : GoodIn wsX7_visitor wsX2_numberOfVisitor := goodIn_r _ [17, 18, 19, 20, 21, 22, 7, 8, 9, 23, 12, 24, 25, 26, 27, 28, 29, 30, 31, 32, 33, 34, 35, 36, 37, 38, 39, 40, 41, 42, 43, 44, 45, 46, 54, 55, 56, 57, 58, 59, 60, 61, 62, 63, 64, 65, 66, 67, 68, 69, 70] (by decide +kernel) (by decide +kernel)
set_option maxRecDepth 20000 in
theorem gX7_visitor_X2_numberOfVisitor : GoodIn wsX7_visitor (wsV RX7 131 RX2 yX2_numberOfVisitor wsX2_numberOfVisitor) := goodIn_app (goodIn_of _ (by decide +kernel)) ggX7_visitor_X2_numberOfVisitor
theorem dX7_visitor_0 : decode cX7_visitor 0 = .ok (.iload_n 1, 1) := by decide +kernel
theorem dX7_visitor_1 : decode cX7_visitor 1 = .ok (.invokestatic 124, 3) := by decide +kernel
theorem dX7_visitor_4 : decode cX7_visitor 4 = .ok (.ifCond .ne 13, 3) := by decide +kernel
theorem dX7_visitor_7 : decode cX7_visitor 7 = .ok (.new 113, 3) := by decide +kernel
theorem dX7_visitor_10 : decode cX7_visitor 10 = .ok (.dup, 1) := by decide +kernel
theorem dX7_visitor_11 : decode cX7_visitor 11 = .ok (.ldc 127, 2) := by decide +kernel
theorem dX7_visitor_13 : decode cX7_visitor 13 = .ok (.invokespecial 117, 3) := by decide +kernel
theorem dX7_visitor_16 : decode cX7_visitor 16 = .ok (.athrow, 1) := by decide +kernel
theorem dX7_visitor_17 : decode cX7_visitor 17 = .ok (.iload_n 2, 1) := by decide +kernel
theorem dX7_visitor_18 : decode cX7_visitor 18 = .ok (.iconst 0, 1) := by decide +kernel
theorem dX7_visitor_19 : decode cX7_visitor 19 = .ok (.iconst 4, 1) := by decide +kernel
theorem dX7_visitor_20 : decode cX7_visitor 20 = .ok (.invokestatic 46, 3) := by decide +kernel
theorem dX7_visitor_23 : decode cX7_visitor 23 = .ok (.ifCond .ne 13, 3) := by decide +kernel
theorem dX7_visitor_26 : decode cX7_visitor 26 = .ok (.new 50, 3) := by decide +kernel
theorem dX7_visitor_29 : decode cX7_visitor 29 = .ok (.dup, 1) := by decide +kernel
theorem dX7_visitor_30 : decode cX7_visitor 30 = .ok (.ldc 129, 2) := by decide +kernel
theorem dX7_visitor_32 : decode cX7_visitor 32 = .ok (.invokespecial 54, 3) := by decide +kernel
theorem dX7_visitor_35 : decode cX7_visitor 35 = .ok (.athrow, 1) := by decide +kernel
theorem dX7_visitor_36 : decode cX7_visitor 36 = .ok (.aload_n 0, 1) := by decide +kernel
theorem dX7_visitor_37 : decode cX7_visitor 37 = .ok (.getfield 19, 3) := by decide +kernel
theorem dX7_visitor_40 : decode cX7_visitor 40 = .ok (.iload_n 1, 1) := by decide +kernel
theorem dX7_visitor_41 : decode cX7_visitor 41 = .ok (.iload_n 2, 1) := by decide +kernel
theorem dX7_visitor_42 : decode cX7_visitor 42 = .ok (.invokevirtual 131, 3) := by decide +kernel
theorem dX7_visitor_45 : decode cX7_visitor 45 = .ok (.ireturn, 1) := by decide +kernel
set_option maxRecDepth 20000 in
theorem ggX7_booking_X0_has : GoodIn wsX7_booking wsX0_has := goodIn_r _ [11, 12, 45, 46] (by decide +kernel) (by decide +kernel)
set_option maxRecDepth 20000 in
theorem gX7_booking_X0_has : GoodIn wsX7_booking (wsV RX7 138 RX0 yX0_has wsX0_has) := goodIn_app (goodIn_of _ (by decide +kernel)) ggX7_booking_X0_has
set_option maxRecDepth 20000 in
theorem ggX7_booking_X7_isBetween : GoodIn wsX7_booking wsX7_isBetween := goodIn_r _ [16] (by decide +kernel) (by decide +kernel)
set_option maxRecDepth 20000 in
theorem gX7_booking_X7_isBetween : GoodIn wsX7_booking (va_wsS RX7 46 yX7_isBetween wsX7_isBetween) := goodIn_app (goodIn_of _ (by decide +kernel)) ggX7_booking_X7_isBetween
set_option maxRecDepth 20000 in
theorem ggX7_booking_X0_at : GoodIn wsX7_booking wsX0_at := goodIn_r _ [20, 21, 22, 8, 9, 10, 11, 12, 45, 46] (by decide +kernel) (by decide +kernel)
set_option maxRecDepth 20000 in
theorem gX7_booking_X0_at : GoodIn wsX7_booking (wsV RX7 147 RX0 yX0_at wsX0_at) := goodIn_app (goodIn_of _ (by decide +kernel)) ggX7_booking_X0_at
theorem dX7_booking_0 : decode cX7_booking 0 = .ok (.aload_n 0, 1) := by decide +kernel
theorem dX7_booking_1 : decode cX7_booking 1 = .ok (.getfield 19, 3) := by decide +kernel
theorem dX7_booking_4 : decode cX7_booking 4 = .ok (.getfield 134, 3) := by decide +kernel
theorem dX7_booking_7 : decode cX7_booking 7 = .ok (.iload_n 1, 1) := by decide +kernel
theorem dX7_booking_8 : decode cX7_booking 8 = .ok (.invokevirtual 138, 3) := by decide +kernel
theorem dX7_booking_11 : decode cX7_booking 11 = .ok (.ifCond .ne 13, 3) := by decide +kernel
theorem dX7_booking_14 : decode cX7_booking 14 = .ok (.new 113, 3) := by decide +kernel
theorem dX7_booking_17 : decode cX7_booking 17 = .ok (.dup, 1) := by decide +kernel
theorem dX7_booking_18 : decode cX7_booking 18 = .ok (.ldc 143, 2) := by decide +kernel
theorem dX7_booking_20 : decode cX7_booking 20 = .ok (.invokespecial 117, 3) := by decide +kernel
theorem dX7_booking_23 : decode cX7_booking 23 = .ok (.athrow, 1) := by decide +kernel
theorem dX7_booking_24 : decode cX7_booking 24 = .ok (.iload_n 2, 1) := by decide +kernel
theorem dX7_booking_25 : decode cX7_booking 25 = .ok (.iconst 0, 1) := by decide +kernel
theorem dX7_booking_26 : decode cX7_booking 26 = .ok (.iconst 5, 1) := by decide +kernel
theorem dX7_booking_27 : decode cX7_booking 27 = .ok (.invokestatic 46, 3) := by decide +kernel
theorem dX7_booking_30 : decode cX7_booking 30 = .ok (.ifCond .ne 13, 3) := by decide +kernel
theorem dX7_booking_33 : decode cX7_booking 33 = .ok (.new 50, 3) := by decide +kernel
theorem dX7_booking_36 : decode cX7_booking 36 = .ok (.dup, 1) := by decide +kernel
theorem dX7_booking_37 : decode cX7_booking 37 = .ok (.ldc 145, 2) := by decide +kernel
theorem dX7_booking_39 : decode cX7_booking 39 = .ok (.invokespecial 54, 3) := by decide +kernel
theorem dX7_booking_42 : decode cX7_booking 42 = .ok (.athrow, 1) := by decide +kernel
theorem dX7_booking_43 : decode cX7_booking 43 = .ok (.aload_n 0, 1) := by decide +kernel
theorem dX7_booking_44 : decode cX7_booking 44 = .ok (.getfield 19, 3) := by decide +kernel
theorem dX7_booking_47 : decode cX7_booking 47 = .ok (.getfield 134, 3) := by decide +kernel
theorem dX7_booking_50 : decode cX7_booking 50 = .ok (.iload_n 1, 1) := by decide +kernel
theorem dX7_booking_51 : decode cX7_booking 51 = .ok (.iload_n 2, 1) := by decide +kernel
theorem dX7_booking_52 : decode cX7_booking 52 = .ok (.invokevirtual 147, 3) := by decide +kernel
theorem dX7_booking_55 : decode cX7_booking 55 = .ok (.ireturn, 1) := by decide +kernel
set_option maxRecDepth 20000 in
theorem ggX7_line_X0_has : GoodIn wsX7_line wsX0_has := goodIn_r _ [11, 12, 292, 293] (by decide +kernel) (by decide +kernel)
set_option maxRecDepth 20000 in
theorem gX7_line_X0_has : GoodIn wsX7_line (wsV RX7 138 RX0 yX0_has wsX0_has) := goodIn_app (goodIn_of _ (by decide +kernel)) ggX7_line_X0_has
set_option maxRecDepth 20000 in
theorem ggX7_line_X2_lineOf : GoodIn wsX7_line wsX2_lineOf := goodIn_r _ [17, 18, 19, 20, 21, 22, 23, 24, 25, 26, 27, 28, 29, 30, 31, 32, 33, 34, 35, 36, 37, 38, 39, 40, 41, 42, 43, 44, 45, 46, 10, 47, 48, 49, 8, 9, 11, 12, 50, 51, 52, 53, 54, 55, 56, 57, 58, 59, 60, 61, 62, 63, 64, 65, 66, 67, 68, 69, 70, 71, 72, 73, 74, 75, 76, 77, 78, 79, 80, 81, 82, 83, 84, 85, 86, 87, 88, 89, 90, 91, 92, 93, 94, 95, 96, 97, 98, 99, 100, 101, 102, 103, 104, 105, 106, 107, 108, 109, 110, 111, 112, 113, 114, 115, 116, 117, 118, 119, 120, 121, 122, 123, 124, 125, 126, 127, 128, 129, 130, 131, 132, 133, 134, 135, 136, 137, 138, 139, 140, 141, 142, 143, 144, 145, 146, 147, 148, 149, 150, 151, 152, 153, 154, 155, 156, 157, 158, 159, 160, 161, 162, 163, 164, 165, 166, 167, 168, 169, 170, 171, 172, 173, 174, 175, 176, 177, 178, 179, 180, 181, 182, 183, 184, 185, 186, 187, 188, 189, 190, 191, 192, 193, 194, 195, 196, 197, 198, 199, 200, 201, 202, 203, 204, 205, 206, 207, 208, 209, 210, 211, 212, 213, 214, 215, 216, 217, 218, 219, 220, 221, 222, 223, 224, 225, 226, 227, 228, 229, 230, 231, 232, 233, 16, 234, 235, 236, 237, 238, 239, 240, 241, 242, 243, 244, 245, 246, 247, 248, 294, 295, 296, 297, 277, 278, 279, 280, 281, 282, 283, 284, 285, 286, 287, 288, 289, 290, 291, 292, 293] (by decide +kernel) (by decide +kernel)
set_option maxRecDepth 20000 in
theorem gX7_line_X2_lineOf : GoodIn wsX7_line (wsV RX7 152 RX2 yX2_lineOf wsX2_lineOf) := goodIn_app (goodIn_of _ (by decide +kernel)) ggX7_line_X2_lineOf
set_option maxRecDepth 20000 in
theorem ggX7_line_J4_length_8abf5 : GoodIn wsX7_line wsJ4_length_8abf5 := goodIn_r _ [252, 253, 254, 56, 255, 27, 256, 59, 294, 295, 296, 297] (by decide +kernel) (by decide +kernel)
set_option maxRecDepth 20000 in
theorem gX7_line_J4_length_8abf5 : GoodIn wsX7_line (wsV RX7 156 RJ4 yJ4_length_8abf5 wsJ4_length_8abf5) := goodIn_app (goodIn_of _ (by decide +kernel)) ggX7_line_J4_length_8abf5
set_option maxRecDepth 20000 in
theorem ggX7_line_J4_charAt_5068e : GoodIn wsX7_line wsJ4_charAt_5068e := goodIn_r _ [260, 261, 262, 56, 263, 27, 264, 35, 34, 59, 265, 98, 81, 99, 266, 182, 126, 183, 128, 184, 185, 131, 186, 267, 268, 38, 269, 117, 141, 142, 121, 122, 123, 294, 295, 296, 297] (by decide +kernel) (by decide +kernel)
set_option maxRecDepth 20000 in
theorem gX7_line_J4_charAt_5068e : GoodIn wsX7_line (wsV RX7 161 RJ4 yJ4_charAt_5068e wsJ4_charAt_5068e) := goodIn_app (goodIn_of _ (by decide +kernel)) ggX7_line_J4_charAt_5068e
theorem dX7_line_0 : decode cX7_line 0 = .ok (.aload_n 0, 1) := by decide +kernel
theorem dX7_line_1 : decode cX7_line 1 = .ok (.getfield 19, 3) := by decide +kernel
theorem dX7_line_4 : decode cX7_line 4 = .ok (.getfield 134, 3) := by decide +kernel
theorem dX7_line_7 : decode cX7_line 7 = .ok (.iload_n 1, 1) := by decide +kernel
theorem dX7_line_8 : decode cX7_line 8 = .ok (.invokevirtual 138, 3) := by decide +kernel
theorem dX7_line_11 : decode cX7_line 11 = .ok (.ifCond .ne 13, 3) := by decide +kernel
theorem dX7_line_14 : decode cX7_line 14 = .ok (.new 113, 3) := by decide +kernel
theorem dX7_line_17 : decode cX7_line 17 = .ok (.dup, 1) := by decide +kernel
theorem dX7_line_18 : decode cX7_line 18 = .ok (.ldc 143, 2) := by decide +kernel
theorem dX7_line_20 : decode cX7_line 20 = .ok (.invokespecial 117, 3) := by decide +kernel
theorem dX7_line_23 : decode cX7_line 23 = .ok (.athrow, 1) := by decide +kernel
theorem dX7_line_24 : decode cX7_line 24 = .ok (.iload_n 2, 1) := by decide +kernel
theorem dX7_line_25 : decode cX7_line 25 = .ok (.ifCond .ge 13, 3) := by decide +kernel
theorem dX7_line_28 : decode cX7_line 28 = .ok (.new 50, 3) := by decide +kernel
theorem dX7_line_31 : decode cX7_line 31 = .ok (.dup, 1) := by decide +kernel
theorem dX7_line_32 : decode cX7_line 32 = .ok (.ldc 150, 2) := by decide +kernel
theorem dX7_line_34 : decode cX7_line 34 = .ok (.invokespecial 54, 3) := by decide +kernel
theorem dX7_line_37 : decode cX7_line 37 = .ok (.athrow, 1) := by decide +kernel
theorem dX7_line_38 : decode cX7_line 38 = .ok (.aload_n 0, 1) := by decide +kernel
theorem dX7_line_39 : decode cX7_line 39 = .ok (.getfield 19, 3) := by decide +kernel
theorem dX7_line_42 : decode cX7_line 42 = .ok (.iload_n 1, 1) := by decide +kernel
theorem dX7_line_43 : decode cX7_line 43 = .ok (.invokevirtual 152, 3) := by decide +kernel
theorem dX7_line_46 : decode cX7_line 46 = .ok (.astore_n 3, 1) := by decide +kernel
theorem dX7_line_47 : decode cX7_line 47 = .ok (.iload_n 2, 1) := by decide +kernel
theorem dX7_line_48 : decode cX7_line 48 = .ok (.aload_n 3, 1) := by decide +kernel
theorem dX7_line_49 : decode cX7_line 49 = .ok (.invokevirtual 156, 3) := by decide +kernel
theorem dX7_line_52 : decode cX7_line 52 = .ok (.if_icmp .ge 11, 3) := by decide +kernel
theorem dX7_line_55 : decode cX7_line 55 = .ok (.aload_n 3, 1) := by decide +kernel
theorem dX7_line_56 : decode cX7_line 56 = .ok (.iload_n 2, 1) := by decide +kernel
theorem dX7_line_57 : decode cX7_line 57 = .ok (.invokevirtual 161, 3) := by decide +kernel
theorem dX7_line_60 : decode cX7_line 60 = .ok (.goto 4, 3) := by decide +kernel
theorem dX7_line_63 : decode cX7_line 63 = .ok (.iconst (-1), 1) := by decide +kernel
theorem dX7_line_64 : decode cX7_line 64 = .ok (.ireturn, 1) := by decide +kernel
set_option maxRecDepth 20000 in
theorem ggX7_wishAt_X6_inTurn : GoodIn wsX7_wishAt wsX6_inTurn := goodIn_r _ [10, 11, 12, 13, 14, 9, 15, 16, 17, 18, 19, 20, 47, 48] (by decide +kernel) (by decide +kernel)
set_option maxRecDepth 20000 in
theorem gX7_wishAt_X6_inTurn : GoodIn wsX7_wishAt (wsV RX7 175 RX6 yX6_inTurn wsX6_inTurn) := goodIn_app (goodIn_of _ (by decide +kernel)) ggX7_wishAt_X6_inTurn
set_option maxRecDepth 20000 in
theorem ggX7_wishAt_X6_at : GoodIn wsX7_wishAt wsX6_at := goodIn_r _ [24, 11, 20, 47, 48] (by decide +kernel) (by decide +kernel)
set_option maxRecDepth 20000 in
theorem gX7_wishAt_X6_at : GoodIn wsX7_wishAt (wsV RX7 181 RX6 yX6_at wsX6_at) := goodIn_app (goodIn_of _ (by decide +kernel)) ggX7_wishAt_X6_at
theorem dX7_wishAt_0 : decode cX7_wishAt 0 = .ok (.iload_n 1, 1) := by decide +kernel
theorem dX7_wishAt_1 : decode cX7_wishAt 1 = .ok (.ifCond .ge 13, 3) := by decide +kernel
theorem dX7_wishAt_4 : decode cX7_wishAt 4 = .ok (.new 50, 3) := by decide +kernel
theorem dX7_wishAt_7 : decode cX7_wishAt 7 = .ok (.dup, 1) := by decide +kernel
theorem dX7_wishAt_8 : decode cX7_wishAt 8 = .ok (.ldc 165, 2) := by decide +kernel
theorem dX7_wishAt_10 : decode cX7_wishAt 10 = .ok (.invokespecial 54, 3) := by decide +kernel
theorem dX7_wishAt_13 : decode cX7_wishAt 13 = .ok (.athrow, 1) := by decide +kernel
theorem dX7_wishAt_14 : decode cX7_wishAt 14 = .ok (.aload_n 0, 1) := by decide +kernel
theorem dX7_wishAt_15 : decode cX7_wishAt 15 = .ok (.getfield 19, 3) := by decide +kernel
theorem dX7_wishAt_18 : decode cX7_wishAt 18 = .ok (.getfield 167, 3) := by decide +kernel
theorem dX7_wishAt_21 : decode cX7_wishAt 21 = .ok (.aload_n 0, 1) := by decide +kernel
theorem dX7_wishAt_22 : decode cX7_wishAt 22 = .ok (.getfield 19, 3) := by decide +kernel
theorem dX7_wishAt_25 : decode cX7_wishAt 25 = .ok (.getfield 167, 3) := by decide +kernel
theorem dX7_wishAt_28 : decode cX7_wishAt 28 = .ok (.iload_n 1, 1) := by decide +kernel
theorem dX7_wishAt_29 : decode cX7_wishAt 29 = .ok (.aload_n 0, 1) := by decide +kernel
theorem dX7_wishAt_30 : decode cX7_wishAt 30 = .ok (.getfield 19, 3) := by decide +kernel
theorem dX7_wishAt_33 : decode cX7_wishAt 33 = .ok (.getfield 171, 3) := by decide +kernel
theorem dX7_wishAt_36 : decode cX7_wishAt 36 = .ok (.invokevirtual 175, 3) := by decide +kernel
theorem dX7_wishAt_39 : decode cX7_wishAt 39 = .ok (.invokevirtual 181, 3) := by decide +kernel
theorem dX7_wishAt_42 : decode cX7_wishAt 42 = .ok (.ireturn, 1) := by decide +kernel
set_option maxRecDepth 20000 in
theorem ggX7_setting_X2_hasSetting : GoodIn wsX7_setting wsX2_hasSetting := goodIn_r _ [8, 9] (by decide +kernel) (by decide +kernel)
set_option maxRecDepth 20000 in
theorem gX7_setting_X2_hasSetting : GoodIn wsX7_setting (va_wsS RX7 183 yX2_hasSetting wsX2_hasSetting) := goodIn_app (goodIn_of _ (by decide +kernel)) ggX7_setting_X2_hasSetting
theorem dX7_setting_0 : decode cX7_setting 0 = .ok (.iload_n 1, 1) := by decide +kernel
theorem dX7_setting_1 : decode cX7_setting 1 = .ok (.invokestatic 183, 3) := by decide +kernel
theorem dX7_setting_4 : decode cX7_setting 4 = .ok (.ifCond .ne 13, 3) := by decide +kernel
theorem dX7_setting_7 : decode cX7_setting 7 = .ok (.new 50, 3) := by decide +kernel
theorem dX7_setting_10 : decode cX7_setting 10 = .ok (.dup, 1) := by decide +kernel
theorem dX7_setting_11 : decode cX7_setting 11 = .ok (.ldc 186, 2) := by decide +kernel
theorem dX7_setting_13 : decode cX7_setting 13 = .ok (.invokespecial 54, 3) := by decide +kernel
theorem dX7_setting_16 : decode cX7_setting 16 = .ok (.athrow, 1) := by decide +kernel
theorem dX7_setting_17 : decode cX7_setting 17 = .ok (.aload_n 0, 1) := by decide +kernel
theorem dX7_setting_18 : decode cX7_setting 18 = .ok (.getfield 19, 3) := by decide +kernel
theorem dX7_setting_21 : decode cX7_setting 21 = .ok (.getfield 188, 3) := by decide +kernel
theorem dX7_setting_24 : decode cX7_setting 24 = .ok (.iload_n 1, 1) := by decide +kernel
theorem dX7_setting_25 : decode cX7_setting 25 = .ok (.iaload, 1) := by decide +kernel
theorem dX7_setting_26 : decode cX7_setting 26 = .ok (.ireturn, 1) := by decide +kernel
set_option maxRecDepth 20000 in
theorem ggX7_addPrisoner_X1_prepare : GoodIn wsX7_addPrisoner wsX1_prepare := goodIn_r _ [7, 8, 9, 10, 11, 6, 12, 13, 14, 15, 16, 17, 18, 19, 20, 21, 22, 23, 24, 25, 26, 27, 28, 29, 30, 31, 32, 33, 34, 35, 36, 37, 38, 39, 40, 41, 42, 43, 44, 45, 46, 47, 48, 49, 50, 51, 52, 53, 87, 88, 89, 90, 91, 92, 93, 94, 95, 96, 97, 98, 99, 100, 101, 102, 103, 104, 105, 106, 107, 108] (by decide +kernel) (by decide +kernel)
set_option maxRecDepth 20000 in
theorem gX7_addPrisoner_X1_prepare : GoodIn wsX7_addPrisoner (wsV RX7 191 RX1 yX1_prepare wsX1_prepare) := goodIn_app (goodIn_of _ (by decide +kernel)) ggX7_addPrisoner_X1_prepare
set_option maxRecDepth 20000 in
theorem ggX7_addPrisoner_X2_tryAdd : GoodIn wsX7_addPrisoner wsX2_tryAdd := goodIn_r _ [57, 20, 21, 58, 59, 60, 90, 91, 92, 93, 94, 95, 96, 97, 98, 99, 100, 101, 102, 103, 104] (by decide +kernel) (by decide +kernel)
set_option maxRecDepth 20000 in
theorem gX7_addPrisoner_X2_tryAdd : GoodIn wsX7_addPrisoner (wsV RX7 194 RX2 yX2_tryAdd wsX2_tryAdd) := goodIn_app (goodIn_of _ (by decide +kernel)) ggX7_addPrisoner_X2_tryAdd
set_option maxRecDepth 20000 in
theorem ggX7_addPrisoner_X7_settle : GoodIn wsX7_addPrisoner wsX7_settle := goodIn_ca (goodIn_ca (goodIn_ca (goodIn_r _ [64, 65, 66, 67, 68, 69, 70, 1, 71, 72, 73, 6, 74, 8, 75, 76, 77, 78, 79, 80, 81, 82, 83, 84, 85, 86, 87, 88, 89] (by decide +kernel) (by decide +kernel)) (goodIn_sub (fun _ h => List.mem_cons_of_mem _ (List.mem_append_left _ (List.mem_append_left _ (List.mem_append_right _ h)))) (by decide +kernel))) (goodIn_sub (fun _ h => List.mem_cons_of_mem _ (List.mem_append_left _ (List.mem_append_right _ h))) (by decide +kernel))) (goodIn_sub (fun _ h => List.mem_cons_of_mem _ (List.mem_append_right _ h)) (by decide +kernel))
set_option maxRecDepth 20000 in
theorem gX7_addPrisoner_X7_settle : GoodIn wsX7_addPrisoner (wsV RX7 197 RX7 yX7_settle wsX7_settle) := goodIn_app (goodIn_of _ (by decide +kernel)) ggX7_addPrisoner_X7_settle
theorem dX7_addPrisoner_0 : decode cX7_addPrisoner 0 = .ok (.aload_n 0, 1) := by decide +kernel
theorem dX7_addPrisoner_1 : decode cX7_addPrisoner 1 = .ok (.getfield 26, 3) := by decide +kernel
theorem dX7_addPrisoner_4 : decode cX7_addPrisoner 4 = .ok (.aload_n 0, 1) := by decide +kernel
theorem dX7_addPrisoner_5 : decode cX7_addPrisoner 5 = .ok (.getfield 19, 3) := by decide +kernel
theorem dX7_addPrisoner_8 : decode cX7_addPrisoner 8 = .ok (.invokevirtual 191, 3) := by decide +kernel
theorem dX7_addPrisoner_11 : decode cX7_addPrisoner 11 = .ok (.aload_n 0, 1) := by decide +kernel
theorem dX7_addPrisoner_12 : decode cX7_addPrisoner 12 = .ok (.aload_n 0, 1) := by decide +kernel
theorem dX7_addPrisoner_13 : decode cX7_addPrisoner 13 = .ok (.getfield 19, 3) := by decide +kernel
theorem dX7_addPrisoner_16 : decode cX7_addPrisoner 16 = .ok (.iload_n 1, 1) := by decide +kernel
theorem dX7_addPrisoner_17 : decode cX7_addPrisoner 17 = .ok (.invokevirtual 194, 3) := by decide +kernel
theorem dX7_addPrisoner_20 : decode cX7_addPrisoner 20 = .ok (.invokevirtual 197, 3) := by decide +kernel
theorem dX7_addPrisoner_23 : decode cX7_addPrisoner 23 = .ok (.ireturn, 1) := by decide +kernel
set_option maxRecDepth 20000 in
theorem ggX7_promote_X1_prepare : GoodIn wsX7_promote wsX1_prepare := goodIn_r _ [7, 8, 9, 10, 11, 6, 12, 13, 14, 15, 16, 17, 18, 19, 20, 21, 22, 23, 24, 25, 26, 27, 28, 29, 30, 31, 32, 33, 34, 35, 36, 37, 38, 39, 40, 41, 42, 43, 44, 45, 46, 47, 48, 49, 50, 51, 52, 53, 91, 92, 93, 94, 95, 96, 97, 98, 99, 100, 101, 102, 103, 104, 105, 106, 107, 108, 109, 110, 111, 112] (by decide +kernel) (by decide +kernel)
set_option maxRecDepth 20000 in
theorem gX7_promote_X1_prepare : GoodIn wsX7_promote (wsV RX7 191 RX1 yX1_prepare wsX1_prepare) := goodIn_app (goodIn_of _ (by decide +kernel)) ggX7_promote_X1_prepare
set_option maxRecDepth 20000 in
theorem ggX7_promote_X2_tryPromote : GoodIn wsX7_promote wsX2_tryPromote := goodIn_r _ [57, 21, 58, 59, 60, 17, 61, 20, 62, 63, 64, 94, 95, 96, 97, 98, 99, 100, 101, 102, 103, 104, 105, 106, 107, 108] (by decide +kernel) (by decide +kernel)
set_option maxRecDepth 20000 in
theorem gX7_promote_X2_tryPromote : GoodIn wsX7_promote (wsV RX7 200 RX2 yX2_tryPromote wsX2_tryPromote) := goodIn_app (goodIn_of _ (by decide +kernel)) ggX7_promote_X2_tryPromote
set_option maxRecDepth 20000 in
theorem ggX7_promote_X7_settle : GoodIn wsX7_promote wsX7_settle := goodIn_ca (goodIn_ca (goodIn_ca (goodIn_r _ [68, 69, 70, 71, 72, 73, 74, 1, 75, 76, 77, 6, 78, 8, 79, 80, 81, 82, 83, 84, 85, 86, 87, 88, 89, 90, 91, 92, 93] (by decide +kernel) (by decide +kernel)) (goodIn_sub (fun _ h => List.mem_cons_of_mem _ (List.mem_append_left _ (List.mem_append_left _ (List.mem_append_right _ h)))) (by decide +kernel))) (goodIn_sub (fun _ h => List.mem_cons_of_mem _ (List.mem_append_left _ (List.mem_append_right _ h))) (by decide +kernel))) (goodIn_sub (fun _ h => List.mem_cons_of_mem _ (List.mem_append_right _ h)) (by decide +kernel))
set_option maxRecDepth 20000 in
theorem gX7_promote_X7_settle : GoodIn wsX7_promote (wsV RX7 197 RX7 yX7_settle wsX7_settle) := goodIn_app (goodIn_of _ (by decide +kernel)) ggX7_promote_X7_settle
theorem dX7_promote_0 : decode cX7_promote 0 = .ok (.aload_n 0, 1) := by decide +kernel
theorem dX7_promote_1 : decode cX7_promote 1 = .ok (.getfield 26, 3) := by decide +kernel
theorem dX7_promote_4 : decode cX7_promote 4 = .ok (.aload_n 0, 1) := by decide +kernel
theorem dX7_promote_5 : decode cX7_promote 5 = .ok (.getfield 19, 3) := by decide +kernel
theorem dX7_promote_8 : decode cX7_promote 8 = .ok (.invokevirtual 191, 3) := by decide +kernel
theorem dX7_promote_11 : decode cX7_promote 11 = .ok (.aload_n 0, 1) := by decide +kernel
theorem dX7_promote_12 : decode cX7_promote 12 = .ok (.aload_n 0, 1) := by decide +kernel
theorem dX7_promote_13 : decode cX7_promote 13 = .ok (.getfield 19, 3) := by decide +kernel
theorem dX7_promote_16 : decode cX7_promote 16 = .ok (.iload_n 1, 1) := by decide +kernel
theorem dX7_promote_17 : decode cX7_promote 17 = .ok (.iload_n 2, 1) := by decide +kernel
theorem dX7_promote_18 : decode cX7_promote 18 = .ok (.invokevirtual 200, 3) := by decide +kernel
theorem dX7_promote_21 : decode cX7_promote 21 = .ok (.invokevirtual 197, 3) := by decide +kernel
theorem dX7_promote_24 : decode cX7_promote 24 = .ok (.ireturn, 1) := by decide +kernel
set_option maxRecDepth 20000 in
theorem ggX7_list_X1_prepare : GoodIn wsX7_list wsX1_prepare := goodIn_r _ [7, 8, 9, 10, 11, 6, 12, 13, 14, 15, 16, 17, 18, 19, 20, 21, 22, 23, 24, 25, 26, 27, 28, 29, 30, 31, 32, 33, 34, 35, 36, 37, 38, 39, 40, 41, 42, 43, 44, 45, 46, 47, 48, 49, 50, 51, 52, 53, 98, 99, 100, 101, 102, 103, 104, 105, 106, 107, 108, 109, 110, 111, 112, 113, 114, 115, 116, 117, 118, 119] (by decide +kernel) (by decide +kernel)
set_option maxRecDepth 20000 in
theorem gX7_list_X1_prepare : GoodIn wsX7_list (wsV RX7 191 RX1 yX1_prepare wsX1_prepare) := goodIn_app (goodIn_of _ (by decide +kernel)) ggX7_list_X1_prepare
set_option maxRecDepth 20000 in
theorem ggX7_list_X2_tryList : GoodIn wsX7_list wsX2_tryList := goodIn_r _ [57, 26, 58, 59, 60, 17, 61, 62, 63, 64, 65, 20, 66, 67, 68, 69, 70, 71, 101, 102, 103, 104, 105, 106, 107, 108, 109, 110, 111, 112, 113, 114, 115] (by decide +kernel) (by decide +kernel)
set_option maxRecDepth 20000 in
theorem gX7_list_X2_tryList : GoodIn wsX7_list (wsV RX7 203 RX2 yX2_tryList wsX2_tryList) := goodIn_app (goodIn_of _ (by decide +kernel)) ggX7_list_X2_tryList
set_option maxRecDepth 20000 in
theorem ggX7_list_X7_settle : GoodIn wsX7_list wsX7_settle := goodIn_ca (goodIn_ca (goodIn_ca (goodIn_r _ [75, 76, 77, 78, 79, 80, 81, 1, 82, 83, 84, 6, 85, 8, 86, 87, 88, 89, 90, 91, 92, 93, 94, 95, 96, 97, 98, 99, 100] (by decide +kernel) (by decide +kernel)) (goodIn_sub (fun _ h => List.mem_cons_of_mem _ (List.mem_append_left _ (List.mem_append_left _ (List.mem_append_right _ h)))) (by decide +kernel))) (goodIn_sub (fun _ h => List.mem_cons_of_mem _ (List.mem_append_left _ (List.mem_append_right _ h))) (by decide +kernel))) (goodIn_sub (fun _ h => List.mem_cons_of_mem _ (List.mem_append_right _ h)) (by decide +kernel))
set_option maxRecDepth 20000 in
theorem gX7_list_X7_settle : GoodIn wsX7_list (wsV RX7 197 RX7 yX7_settle wsX7_settle) := goodIn_app (goodIn_of _ (by decide +kernel)) ggX7_list_X7_settle
theorem dX7_list_0 : decode cX7_list 0 = .ok (.aload_n 0, 1) := by decide +kernel
theorem dX7_list_1 : decode cX7_list 1 = .ok (.getfield 26, 3) := by decide +kernel
theorem dX7_list_4 : decode cX7_list 4 = .ok (.aload_n 0, 1) := by decide +kernel
theorem dX7_list_5 : decode cX7_list 5 = .ok (.getfield 19, 3) := by decide +kernel
theorem dX7_list_8 : decode cX7_list 8 = .ok (.invokevirtual 191, 3) := by decide +kernel
theorem dX7_list_11 : decode cX7_list 11 = .ok (.aload_n 0, 1) := by decide +kernel
theorem dX7_list_12 : decode cX7_list 12 = .ok (.aload_n 0, 1) := by decide +kernel
theorem dX7_list_13 : decode cX7_list 13 = .ok (.getfield 19, 3) := by decide +kernel
theorem dX7_list_16 : decode cX7_list 16 = .ok (.iload_n 1, 1) := by decide +kernel
theorem dX7_list_17 : decode cX7_list 17 = .ok (.iload_n 2, 1) := by decide +kernel
theorem dX7_list_18 : decode cX7_list 18 = .ok (.iload_n 3, 1) := by decide +kernel
theorem dX7_list_19 : decode cX7_list 19 = .ok (.invokevirtual 203, 3) := by decide +kernel
theorem dX7_list_22 : decode cX7_list 22 = .ok (.invokevirtual 197, 3) := by decide +kernel
theorem dX7_list_25 : decode cX7_list 25 = .ok (.ireturn, 1) := by decide +kernel
set_option maxRecDepth 20000 in
theorem ggX7_keepApart_X1_prepare : GoodIn wsX7_keepApart wsX1_prepare := goodIn_r _ [7, 8, 9, 10, 11, 6, 12, 13, 14, 15, 16, 17, 18, 19, 20, 21, 22, 23, 24, 25, 26, 27, 28, 29, 30, 31, 32, 33, 34, 35, 36, 37, 38, 39, 40, 41, 42, 43, 44, 45, 46, 47, 48, 49, 50, 51, 52, 53, 91, 92, 93, 94, 95, 96, 97, 98, 99, 100, 101, 102, 103, 104, 105, 106, 107, 108, 109, 110, 111, 112] (by decide +kernel) (by decide +kernel)
set_option maxRecDepth 20000 in
theorem gX7_keepApart_X1_prepare : GoodIn wsX7_keepApart (wsV RX7 191 RX1 yX1_prepare wsX1_prepare) := goodIn_app (goodIn_of _ (by decide +kernel)) ggX7_keepApart_X1_prepare
set_option maxRecDepth 20000 in
theorem ggX7_keepApart_X2_tryKeepApart : GoodIn wsX7_keepApart wsX2_tryKeepApart := goodIn_r _ [57, 30, 58, 59, 60, 17, 61, 20, 62, 63, 64, 94, 95, 96, 97, 98, 99, 100, 101, 102, 103, 104, 105, 106, 107, 108] (by decide +kernel) (by decide +kernel)
set_option maxRecDepth 20000 in
theorem gX7_keepApart_X2_tryKeepApart : GoodIn wsX7_keepApart (wsV RX7 207 RX2 yX2_tryKeepApart wsX2_tryKeepApart) := goodIn_app (goodIn_of _ (by decide +kernel)) ggX7_keepApart_X2_tryKeepApart
set_option maxRecDepth 20000 in
theorem ggX7_keepApart_X7_settle : GoodIn wsX7_keepApart wsX7_settle := goodIn_ca (goodIn_ca (goodIn_ca (goodIn_r _ [68, 69, 70, 71, 72, 73, 74, 1, 75, 76, 77, 6, 78, 8, 79, 80, 81, 82, 83, 84, 85, 86, 87, 88, 89, 90, 91, 92, 93] (by decide +kernel) (by decide +kernel)) (goodIn_sub (fun _ h => List.mem_cons_of_mem _ (List.mem_append_left _ (List.mem_append_left _ (List.mem_append_right _ h)))) (by decide +kernel))) (goodIn_sub (fun _ h => List.mem_cons_of_mem _ (List.mem_append_left _ (List.mem_append_right _ h))) (by decide +kernel))) (goodIn_sub (fun _ h => List.mem_cons_of_mem _ (List.mem_append_right _ h)) (by decide +kernel))
set_option maxRecDepth 20000 in
theorem gX7_keepApart_X7_settle : GoodIn wsX7_keepApart (wsV RX7 197 RX7 yX7_settle wsX7_settle) := goodIn_app (goodIn_of _ (by decide +kernel)) ggX7_keepApart_X7_settle
theorem dX7_keepApart_0 : decode cX7_keepApart 0 = .ok (.aload_n 0, 1) := by decide +kernel
theorem dX7_keepApart_1 : decode cX7_keepApart 1 = .ok (.getfield 26, 3) := by decide +kernel
theorem dX7_keepApart_4 : decode cX7_keepApart 4 = .ok (.aload_n 0, 1) := by decide +kernel
theorem dX7_keepApart_5 : decode cX7_keepApart 5 = .ok (.getfield 19, 3) := by decide +kernel
theorem dX7_keepApart_8 : decode cX7_keepApart 8 = .ok (.invokevirtual 191, 3) := by decide +kernel
theorem dX7_keepApart_11 : decode cX7_keepApart 11 = .ok (.aload_n 0, 1) := by decide +kernel
theorem dX7_keepApart_12 : decode cX7_keepApart 12 = .ok (.aload_n 0, 1) := by decide +kernel
theorem dX7_keepApart_13 : decode cX7_keepApart 13 = .ok (.getfield 19, 3) := by decide +kernel
theorem dX7_keepApart_16 : decode cX7_keepApart 16 = .ok (.iload_n 1, 1) := by decide +kernel
theorem dX7_keepApart_17 : decode cX7_keepApart 17 = .ok (.iload_n 2, 1) := by decide +kernel
theorem dX7_keepApart_18 : decode cX7_keepApart 18 = .ok (.iload_n 3, 1) := by decide +kernel
theorem dX7_keepApart_19 : decode cX7_keepApart 19 = .ok (.invokevirtual 207, 3) := by decide +kernel
theorem dX7_keepApart_22 : decode cX7_keepApart 22 = .ok (.invokevirtual 197, 3) := by decide +kernel
theorem dX7_keepApart_25 : decode cX7_keepApart 25 = .ok (.ireturn, 1) := by decide +kernel
set_option maxRecDepth 20000 in
theorem ggX7_book_X1_prepare : GoodIn wsX7_book wsX1_prepare := goodIn_r _ [7, 8, 9, 10, 11, 6, 12, 13, 14, 15, 16, 17, 18, 19, 20, 21, 22, 23, 24, 25, 26, 27, 28, 29, 30, 31, 32, 33, 34, 35, 36, 37, 38, 39, 40, 41, 42, 43, 44, 45, 46, 47, 48, 49, 50, 51, 52, 53, 142, 143, 144, 145, 146, 147, 148, 149, 150, 151, 152, 153, 154, 155, 156, 157, 158, 159, 160, 161, 162, 163] (by decide +kernel) (by decide +kernel)
set_option maxRecDepth 20000 in
theorem gX7_book_X1_prepare : GoodIn wsX7_book (wsV RX7 191 RX1 yX1_prepare wsX1_prepare) := goodIn_app (goodIn_of _ (by decide +kernel)) ggX7_book_X1_prepare
set_option maxRecDepth 20000 in
theorem ggX7_book_X2_tryBook : GoodIn wsX7_book wsX2_tryBook := goodIn_r _ [57, 34, 58, 59, 60, 17, 61, 62, 63, 64, 65, 20, 66, 67, 68, 69, 70, 71, 72, 19, 73, 74, 75, 76, 77, 78, 79, 80, 26, 27, 32, 29, 21, 81, 82, 83, 84, 85, 86, 87, 88, 89, 41, 90, 43, 44, 91, 92, 93, 94, 30, 37, 95, 96, 97, 98, 99, 100, 101, 102, 103, 104, 105, 106, 45, 23, 24, 25, 107, 108, 109, 110, 111, 112, 113, 114, 115, 145, 146, 147, 148, 149, 150, 151, 152, 153, 154, 155, 156, 157, 158, 159, 160, 161] (by decide +kernel) (by decide +kernel)
set_option maxRecDepth 20000 in
theorem gX7_book_X2_tryBook : GoodIn wsX7_book (wsV RX7 210 RX2 yX2_tryBook wsX2_tryBook) := goodIn_app (goodIn_of _ (by decide +kernel)) ggX7_book_X2_tryBook
set_option maxRecDepth 20000 in
theorem ggX7_book_X7_settle : GoodIn wsX7_book wsX7_settle := goodIn_ca (goodIn_ca (goodIn_ca (goodIn_r _ [119, 120, 121, 122, 123, 124, 125, 1, 126, 127, 128, 6, 129, 8, 130, 131, 132, 133, 134, 135, 136, 137, 138, 139, 140, 141, 142, 143, 144] (by decide +kernel) (by decide +kernel)) (goodIn_sub (fun _ h => List.mem_cons_of_mem _ (List.mem_append_left _ (List.mem_append_left _ (List.mem_append_right _ h)))) (by decide +kernel))) (goodIn_sub (fun _ h => List.mem_cons_of_mem _ (List.mem_append_left _ (List.mem_append_right _ h))) (by decide +kernel))) (goodIn_sub (fun _ h => List.mem_cons_of_mem _ (List.mem_append_right _ h)) (by decide +kernel))
set_option maxRecDepth 20000 in
theorem gX7_book_X7_settle : GoodIn wsX7_book (wsV RX7 197 RX7 yX7_settle wsX7_settle) := goodIn_app (goodIn_of _ (by decide +kernel)) ggX7_book_X7_settle
theorem dX7_book_0 : decode cX7_book 0 = .ok (.aload_n 0, 1) := by decide +kernel
theorem dX7_book_1 : decode cX7_book 1 = .ok (.getfield 26, 3) := by decide +kernel
theorem dX7_book_4 : decode cX7_book 4 = .ok (.aload_n 0, 1) := by decide +kernel
theorem dX7_book_5 : decode cX7_book 5 = .ok (.getfield 19, 3) := by decide +kernel
theorem dX7_book_8 : decode cX7_book 8 = .ok (.invokevirtual 191, 3) := by decide +kernel
theorem dX7_book_11 : decode cX7_book 11 = .ok (.aload_n 0, 1) := by decide +kernel
theorem dX7_book_12 : decode cX7_book 12 = .ok (.aload_n 0, 1) := by decide +kernel
theorem dX7_book_13 : decode cX7_book 13 = .ok (.getfield 19, 3) := by decide +kernel
theorem dX7_book_16 : decode cX7_book 16 = .ok (.iload_n 1, 1) := by decide +kernel
theorem dX7_book_17 : decode cX7_book 17 = .ok (.iload_n 2, 1) := by decide +kernel
theorem dX7_book_18 : decode cX7_book 18 = .ok (.iload_n 3, 1) := by decide +kernel
theorem dX7_book_19 : decode cX7_book 19 = .ok (.iload 4, 2) := by decide +kernel
theorem dX7_book_21 : decode cX7_book 21 = .ok (.invokevirtual 210, 3) := by decide +kernel
theorem dX7_book_24 : decode cX7_book 24 = .ok (.invokevirtual 197, 3) := by decide +kernel
theorem dX7_book_27 : decode cX7_book 27 = .ok (.ireturn, 1) := by decide +kernel
set_option maxRecDepth 20000 in
theorem ggX7_cancel_X1_prepare : GoodIn wsX7_cancel wsX1_prepare := goodIn_r _ [7, 8, 9, 10, 11, 6, 12, 13, 14, 15, 16, 17, 18, 19, 20, 21, 22, 23, 24, 25, 26, 27, 28, 29, 30, 31, 32, 33, 34, 35, 36, 37, 38, 39, 40, 41, 42, 43, 44, 45, 46, 47, 48, 49, 50, 51, 52, 53, 95, 96, 97, 98, 99, 100, 101, 102, 103, 104, 105, 106, 107, 108, 109, 110, 111, 112, 113, 114, 115, 116] (by decide +kernel) (by decide +kernel)
set_option maxRecDepth 20000 in
theorem gX7_cancel_X1_prepare : GoodIn wsX7_cancel (wsV RX7 191 RX1 yX1_prepare wsX1_prepare) := goodIn_app (goodIn_of _ (by decide +kernel)) ggX7_cancel_X1_prepare
set_option maxRecDepth 20000 in
theorem ggX7_cancel_X2_tryCancel : GoodIn wsX7_cancel wsX2_tryCancel := goodIn_r _ [57, 34, 58, 59, 60, 61, 41, 62, 43, 63, 64, 65, 66, 44, 45, 23, 24, 25, 67, 98, 99, 100, 101, 102, 103, 104, 105, 106, 107, 108, 109, 110, 111, 112, 113, 114] (by decide +kernel) (by decide +kernel)
set_option maxRecDepth 20000 in
theorem gX7_cancel_X2_tryCancel : GoodIn wsX7_cancel (wsV RX7 214 RX2 yX2_tryCancel wsX2_tryCancel) := goodIn_app (goodIn_of _ (by decide +kernel)) ggX7_cancel_X2_tryCancel
set_option maxRecDepth 20000 in
theorem ggX7_cancel_X7_settle : GoodIn wsX7_cancel wsX7_settle := goodIn_ca (goodIn_ca (goodIn_ca (goodIn_r _ [72, 73, 74, 75, 76, 77, 78, 1, 79, 80, 81, 6, 82, 8, 83, 84, 85, 86, 87, 88, 89, 90, 91, 92, 93, 94, 95, 96, 97] (by decide +kernel) (by decide +kernel)) (goodIn_sub (fun _ h => List.mem_cons_of_mem _ (List.mem_append_left _ (List.mem_append_left _ (List.mem_append_right _ h)))) (by decide +kernel))) (goodIn_sub (fun _ h => List.mem_cons_of_mem _ (List.mem_append_left _ (List.mem_append_right _ h))) (by decide +kernel))) (goodIn_sub (fun _ h => List.mem_cons_of_mem _ (List.mem_append_right _ h)) (by decide +kernel))
set_option maxRecDepth 20000 in
theorem gX7_cancel_X7_settle : GoodIn wsX7_cancel (wsV RX7 197 RX7 yX7_settle wsX7_settle) := goodIn_app (goodIn_of _ (by decide +kernel)) ggX7_cancel_X7_settle
theorem dX7_cancel_0 : decode cX7_cancel 0 = .ok (.aload_n 0, 1) := by decide +kernel
theorem dX7_cancel_1 : decode cX7_cancel 1 = .ok (.getfield 26, 3) := by decide +kernel
theorem dX7_cancel_4 : decode cX7_cancel 4 = .ok (.aload_n 0, 1) := by decide +kernel
theorem dX7_cancel_5 : decode cX7_cancel 5 = .ok (.getfield 19, 3) := by decide +kernel
theorem dX7_cancel_8 : decode cX7_cancel 8 = .ok (.invokevirtual 191, 3) := by decide +kernel
theorem dX7_cancel_11 : decode cX7_cancel 11 = .ok (.aload_n 0, 1) := by decide +kernel
theorem dX7_cancel_12 : decode cX7_cancel 12 = .ok (.aload_n 0, 1) := by decide +kernel
theorem dX7_cancel_13 : decode cX7_cancel 13 = .ok (.getfield 19, 3) := by decide +kernel
theorem dX7_cancel_16 : decode cX7_cancel 16 = .ok (.iload_n 1, 1) := by decide +kernel
theorem dX7_cancel_17 : decode cX7_cancel 17 = .ok (.invokevirtual 214, 3) := by decide +kernel
theorem dX7_cancel_20 : decode cX7_cancel 20 = .ok (.invokevirtual 197, 3) := by decide +kernel
theorem dX7_cancel_23 : decode cX7_cancel 23 = .ok (.ireturn, 1) := by decide +kernel
set_option maxRecDepth 20000 in
theorem ggX7_late_X1_prepare : GoodIn wsX7_late wsX1_prepare := goodIn_r _ [7, 8, 9, 10, 11, 6, 12, 13, 14, 15, 16, 17, 18, 19, 20, 21, 22, 23, 24, 25, 26, 27, 28, 29, 30, 31, 32, 33, 34, 35, 36, 37, 38, 39, 40, 41, 42, 43, 44, 45, 46, 47, 48, 49, 50, 51, 52, 53, 100, 101, 102, 103, 104, 105, 106, 107, 108, 109, 110, 111, 112, 113, 114, 115, 116, 117, 118, 119, 120, 121] (by decide +kernel) (by decide +kernel)
set_option maxRecDepth 20000 in
theorem gX7_late_X1_prepare : GoodIn wsX7_late (wsV RX7 191 RX1 yX1_prepare wsX1_prepare) := goodIn_app (goodIn_of _ (by decide +kernel)) ggX7_late_X1_prepare
set_option maxRecDepth 20000 in
theorem ggX7_late_X2_tryLate : GoodIn wsX7_late wsX2_tryLate := goodIn_r _ [57, 34, 58, 59, 60, 41, 61, 43, 62, 63, 64, 65, 66, 67, 68, 44, 69, 70, 71, 72, 73, 103, 104, 105, 106, 107, 108, 109, 110, 111, 112, 113, 114, 115, 116, 117, 118, 119] (by decide +kernel) (by decide +kernel)
set_option maxRecDepth 20000 in
theorem gX7_late_X2_tryLate : GoodIn wsX7_late (wsV RX7 217 RX2 yX2_tryLate wsX2_tryLate) := goodIn_app (goodIn_of _ (by decide +kernel)) ggX7_late_X2_tryLate
set_option maxRecDepth 20000 in
theorem ggX7_late_X7_settle : GoodIn wsX7_late wsX7_settle := goodIn_ca (goodIn_ca (goodIn_ca (goodIn_r _ [77, 78, 79, 80, 81, 82, 83, 1, 84, 85, 86, 6, 87, 8, 88, 89, 90, 91, 92, 93, 94, 95, 96, 97, 98, 99, 100, 101, 102] (by decide +kernel) (by decide +kernel)) (goodIn_sub (fun _ h => List.mem_cons_of_mem _ (List.mem_append_left _ (List.mem_append_left _ (List.mem_append_right _ h)))) (by decide +kernel))) (goodIn_sub (fun _ h => List.mem_cons_of_mem _ (List.mem_append_left _ (List.mem_append_right _ h))) (by decide +kernel))) (goodIn_sub (fun _ h => List.mem_cons_of_mem _ (List.mem_append_right _ h)) (by decide +kernel))
set_option maxRecDepth 20000 in
theorem gX7_late_X7_settle : GoodIn wsX7_late (wsV RX7 197 RX7 yX7_settle wsX7_settle) := goodIn_app (goodIn_of _ (by decide +kernel)) ggX7_late_X7_settle
theorem dX7_late_0 : decode cX7_late 0 = .ok (.aload_n 0, 1) := by decide +kernel
theorem dX7_late_1 : decode cX7_late 1 = .ok (.getfield 26, 3) := by decide +kernel
theorem dX7_late_4 : decode cX7_late 4 = .ok (.aload_n 0, 1) := by decide +kernel
theorem dX7_late_5 : decode cX7_late 5 = .ok (.getfield 19, 3) := by decide +kernel
theorem dX7_late_8 : decode cX7_late 8 = .ok (.invokevirtual 191, 3) := by decide +kernel
theorem dX7_late_11 : decode cX7_late 11 = .ok (.aload_n 0, 1) := by decide +kernel
theorem dX7_late_12 : decode cX7_late 12 = .ok (.aload_n 0, 1) := by decide +kernel
theorem dX7_late_13 : decode cX7_late 13 = .ok (.getfield 19, 3) := by decide +kernel
theorem dX7_late_16 : decode cX7_late 16 = .ok (.iload_n 1, 1) := by decide +kernel
theorem dX7_late_17 : decode cX7_late 17 = .ok (.iload_n 2, 1) := by decide +kernel
theorem dX7_late_18 : decode cX7_late 18 = .ok (.invokevirtual 217, 3) := by decide +kernel
theorem dX7_late_21 : decode cX7_late 21 = .ok (.invokevirtual 197, 3) := by decide +kernel
theorem dX7_late_24 : decode cX7_late 24 = .ok (.ireturn, 1) := by decide +kernel
set_option maxRecDepth 20000 in
theorem ggX7_carry_X1_prepare : GoodIn wsX7_carry wsX1_prepare := goodIn_r _ [7, 8, 9, 10, 11, 6, 12, 13, 14, 15, 16, 17, 18, 19, 20, 21, 22, 23, 24, 25, 26, 27, 28, 29, 30, 31, 32, 33, 34, 35, 36, 37, 38, 39, 40, 41, 42, 43, 44, 45, 46, 47, 48, 49, 50, 51, 52, 53, 90, 91, 92, 93, 94, 95, 96, 97, 98, 99, 100, 101, 102, 103, 104, 105, 106, 107, 108, 109, 110, 111] (by decide +kernel) (by decide +kernel)
set_option maxRecDepth 20000 in
theorem gX7_carry_X1_prepare : GoodIn wsX7_carry (wsV RX7 191 RX1 yX1_prepare wsX1_prepare) := goodIn_app (goodIn_of _ (by decide +kernel)) ggX7_carry_X1_prepare
set_option maxRecDepth 20000 in
theorem ggX7_carry_X2_tryCarry : GoodIn wsX7_carry wsX2_tryCarry := goodIn_r _ [57, 33, 58, 59, 17, 60, 61, 62, 63, 93, 94, 95, 96, 97, 98, 99, 100, 101, 102, 103, 104, 105, 106, 107] (by decide +kernel) (by decide +kernel)
set_option maxRecDepth 20000 in
theorem gX7_carry_X2_tryCarry : GoodIn wsX7_carry (wsV RX7 220 RX2 yX2_tryCarry wsX2_tryCarry) := goodIn_app (goodIn_of _ (by decide +kernel)) ggX7_carry_X2_tryCarry
set_option maxRecDepth 20000 in
theorem ggX7_carry_X7_settle : GoodIn wsX7_carry wsX7_settle := goodIn_ca (goodIn_ca (goodIn_ca (goodIn_r _ [67, 68, 69, 70, 71, 72, 73, 1, 74, 75, 76, 6, 77, 8, 78, 79, 80, 81, 82, 83, 84, 85, 86, 87, 88, 89, 90, 91, 92] (by decide +kernel) (by decide +kernel)) (goodIn_sub (fun _ h => List.mem_cons_of_mem _ (List.mem_append_left _ (List.mem_append_left _ (List.mem_append_right _ h)))) (by decide +kernel))) (goodIn_sub (fun _ h => List.mem_cons_of_mem _ (List.mem_append_left _ (List.mem_append_right _ h))) (by decide +kernel))) (goodIn_sub (fun _ h => List.mem_cons_of_mem _ (List.mem_append_right _ h)) (by decide +kernel))
set_option maxRecDepth 20000 in
theorem gX7_carry_X7_settle : GoodIn wsX7_carry (wsV RX7 197 RX7 yX7_settle wsX7_settle) := goodIn_app (goodIn_of _ (by decide +kernel)) ggX7_carry_X7_settle
theorem dX7_carry_0 : decode cX7_carry 0 = .ok (.aload_n 0, 1) := by decide +kernel
theorem dX7_carry_1 : decode cX7_carry 1 = .ok (.getfield 26, 3) := by decide +kernel
theorem dX7_carry_4 : decode cX7_carry 4 = .ok (.aload_n 0, 1) := by decide +kernel
theorem dX7_carry_5 : decode cX7_carry 5 = .ok (.getfield 19, 3) := by decide +kernel
theorem dX7_carry_8 : decode cX7_carry 8 = .ok (.invokevirtual 191, 3) := by decide +kernel
theorem dX7_carry_11 : decode cX7_carry 11 = .ok (.aload_n 0, 1) := by decide +kernel
theorem dX7_carry_12 : decode cX7_carry 12 = .ok (.aload_n 0, 1) := by decide +kernel
theorem dX7_carry_13 : decode cX7_carry 13 = .ok (.getfield 19, 3) := by decide +kernel
theorem dX7_carry_16 : decode cX7_carry 16 = .ok (.iload_n 1, 1) := by decide +kernel
theorem dX7_carry_17 : decode cX7_carry 17 = .ok (.iload_n 2, 1) := by decide +kernel
theorem dX7_carry_18 : decode cX7_carry 18 = .ok (.invokevirtual 220, 3) := by decide +kernel
theorem dX7_carry_21 : decode cX7_carry 21 = .ok (.invokevirtual 197, 3) := by decide +kernel
theorem dX7_carry_24 : decode cX7_carry 24 = .ok (.ireturn, 1) := by decide +kernel
set_option maxRecDepth 20000 in
theorem ggX7_punish_X1_prepare : GoodIn wsX7_punish wsX1_prepare := goodIn_r _ [7, 8, 9, 10, 11, 6, 12, 13, 14, 15, 16, 17, 18, 19, 20, 21, 22, 23, 24, 25, 26, 27, 28, 29, 30, 31, 32, 33, 34, 35, 36, 37, 38, 39, 40, 41, 42, 43, 44, 45, 46, 47, 48, 49, 50, 51, 52, 53, 91, 92, 93, 94, 95, 96, 97, 98, 99, 100, 101, 102, 103, 104, 105, 106, 107, 108, 109, 110, 111, 112] (by decide +kernel) (by decide +kernel)
set_option maxRecDepth 20000 in
theorem gX7_punish_X1_prepare : GoodIn wsX7_punish (wsV RX7 191 RX1 yX1_prepare wsX1_prepare) := goodIn_app (goodIn_of _ (by decide +kernel)) ggX7_punish_X1_prepare
set_option maxRecDepth 20000 in
theorem ggX7_punish_X2_tryPunish : GoodIn wsX7_punish wsX2_tryPunish := goodIn_r _ [57, 27, 19, 58, 59, 60, 17, 61, 20, 62, 63, 64, 94, 95, 96, 97, 98, 99, 100, 101, 102, 103, 104, 105, 106, 107, 108] (by decide +kernel) (by decide +kernel)
set_option maxRecDepth 20000 in
theorem gX7_punish_X2_tryPunish : GoodIn wsX7_punish (wsV RX7 224 RX2 yX2_tryPunish wsX2_tryPunish) := goodIn_app (goodIn_of _ (by decide +kernel)) ggX7_punish_X2_tryPunish
set_option maxRecDepth 20000 in
theorem ggX7_punish_X7_settle : GoodIn wsX7_punish wsX7_settle := goodIn_ca (goodIn_ca (goodIn_ca (goodIn_r _ [68, 69, 70, 71, 72, 73, 74, 1, 75, 76, 77, 6, 78, 8, 79, 80, 81, 82, 83, 84, 85, 86, 87, 88, 89, 90, 91, 92, 93] (by decide +kernel) (by decide +kernel)) (goodIn_sub (fun _ h => List.mem_cons_of_mem _ (List.mem_append_left _ (List.mem_append_left _ (List.mem_append_right _ h)))) (by decide +kernel))) (goodIn_sub (fun _ h => List.mem_cons_of_mem _ (List.mem_append_left _ (List.mem_append_right _ h))) (by decide +kernel))) (goodIn_sub (fun _ h => List.mem_cons_of_mem _ (List.mem_append_right _ h)) (by decide +kernel))
set_option maxRecDepth 20000 in
theorem gX7_punish_X7_settle : GoodIn wsX7_punish (wsV RX7 197 RX7 yX7_settle wsX7_settle) := goodIn_app (goodIn_of _ (by decide +kernel)) ggX7_punish_X7_settle
theorem dX7_punish_0 : decode cX7_punish 0 = .ok (.aload_n 0, 1) := by decide +kernel
theorem dX7_punish_1 : decode cX7_punish 1 = .ok (.getfield 26, 3) := by decide +kernel
theorem dX7_punish_4 : decode cX7_punish 4 = .ok (.aload_n 0, 1) := by decide +kernel
theorem dX7_punish_5 : decode cX7_punish 5 = .ok (.getfield 19, 3) := by decide +kernel
theorem dX7_punish_8 : decode cX7_punish 8 = .ok (.invokevirtual 191, 3) := by decide +kernel
theorem dX7_punish_11 : decode cX7_punish 11 = .ok (.aload_n 0, 1) := by decide +kernel
theorem dX7_punish_12 : decode cX7_punish 12 = .ok (.aload_n 0, 1) := by decide +kernel
theorem dX7_punish_13 : decode cX7_punish 13 = .ok (.getfield 19, 3) := by decide +kernel
theorem dX7_punish_16 : decode cX7_punish 16 = .ok (.iload_n 1, 1) := by decide +kernel
theorem dX7_punish_17 : decode cX7_punish 17 = .ok (.iload_n 2, 1) := by decide +kernel
theorem dX7_punish_18 : decode cX7_punish 18 = .ok (.invokevirtual 224, 3) := by decide +kernel
theorem dX7_punish_21 : decode cX7_punish 21 = .ok (.invokevirtual 197, 3) := by decide +kernel
theorem dX7_punish_24 : decode cX7_punish 24 = .ok (.ireturn, 1) := by decide +kernel
set_option maxRecDepth 20000 in
theorem ggX7_wish_X1_prepare : GoodIn wsX7_wish wsX1_prepare := goodIn_r _ [7, 8, 9, 10, 11, 6, 12, 13, 14, 15, 16, 17, 18, 19, 20, 21, 22, 23, 24, 25, 26, 27, 28, 29, 30, 31, 32, 33, 34, 35, 36, 37, 38, 39, 40, 41, 42, 43, 44, 45, 46, 47, 48, 49, 50, 51, 52, 53, 107, 108, 109, 110, 111, 112, 113, 114, 115, 116, 117, 118, 119, 120, 121, 122, 123, 124, 125, 126, 127, 128] (by decide +kernel) (by decide +kernel)
set_option maxRecDepth 20000 in
theorem gX7_wish_X1_prepare : GoodIn wsX7_wish (wsV RX7 191 RX1 yX1_prepare wsX1_prepare) := goodIn_app (goodIn_of _ (by decide +kernel)) ggX7_wish_X1_prepare
set_option maxRecDepth 20000 in
theorem ggX7_wish_X2_tryWish : GoodIn wsX7_wish wsX2_tryWish := goodIn_r _ [57, 26, 35, 58, 59, 60, 61, 17, 62, 63, 64, 65, 66, 20, 67, 68, 69, 70, 71, 72, 73, 74, 75, 49, 76, 51, 77, 78, 79, 80, 52, 110, 111, 112, 113, 114, 115, 116, 117, 118, 119, 120, 121, 122, 123, 124, 127, 128] (by decide +kernel) (by decide +kernel)
set_option maxRecDepth 20000 in
theorem gX7_wish_X2_tryWish : GoodIn wsX7_wish (wsV RX7 227 RX2 yX2_tryWish wsX2_tryWish) := goodIn_app (goodIn_of _ (by decide +kernel)) ggX7_wish_X2_tryWish
set_option maxRecDepth 20000 in
theorem ggX7_wish_X7_settle : GoodIn wsX7_wish wsX7_settle := goodIn_ca (goodIn_ca (goodIn_ca (goodIn_r _ [84, 85, 86, 87, 88, 89, 90, 1, 91, 92, 93, 6, 94, 8, 95, 96, 97, 98, 99, 100, 101, 102, 103, 104, 105, 106, 107, 108, 109] (by decide +kernel) (by decide +kernel)) (goodIn_sub (fun _ h => List.mem_cons_of_mem _ (List.mem_append_left _ (List.mem_append_left _ (List.mem_append_right _ h)))) (by decide +kernel))) (goodIn_sub (fun _ h => List.mem_cons_of_mem _ (List.mem_append_left _ (List.mem_append_right _ h))) (by decide +kernel))) (goodIn_sub (fun _ h => List.mem_cons_of_mem _ (List.mem_append_right _ h)) (by decide +kernel))
set_option maxRecDepth 20000 in
theorem gX7_wish_X7_settle : GoodIn wsX7_wish (wsV RX7 197 RX7 yX7_settle wsX7_settle) := goodIn_app (goodIn_of _ (by decide +kernel)) ggX7_wish_X7_settle
theorem dX7_wish_0 : decode cX7_wish 0 = .ok (.aload_n 0, 1) := by decide +kernel
theorem dX7_wish_1 : decode cX7_wish 1 = .ok (.getfield 26, 3) := by decide +kernel
theorem dX7_wish_4 : decode cX7_wish 4 = .ok (.aload_n 0, 1) := by decide +kernel
theorem dX7_wish_5 : decode cX7_wish 5 = .ok (.getfield 19, 3) := by decide +kernel
theorem dX7_wish_8 : decode cX7_wish 8 = .ok (.invokevirtual 191, 3) := by decide +kernel
theorem dX7_wish_11 : decode cX7_wish 11 = .ok (.aload_n 0, 1) := by decide +kernel
theorem dX7_wish_12 : decode cX7_wish 12 = .ok (.aload_n 0, 1) := by decide +kernel
theorem dX7_wish_13 : decode cX7_wish 13 = .ok (.getfield 19, 3) := by decide +kernel
theorem dX7_wish_16 : decode cX7_wish 16 = .ok (.iload_n 1, 1) := by decide +kernel
theorem dX7_wish_17 : decode cX7_wish 17 = .ok (.iload_n 2, 1) := by decide +kernel
theorem dX7_wish_18 : decode cX7_wish 18 = .ok (.invokevirtual 227, 3) := by decide +kernel
theorem dX7_wish_21 : decode cX7_wish 21 = .ok (.invokevirtual 197, 3) := by decide +kernel
theorem dX7_wish_24 : decode cX7_wish 24 = .ok (.ireturn, 1) := by decide +kernel
set_option maxRecDepth 20000 in
theorem ggX7_run_X7_isBetween : GoodIn wsX7_run wsX7_isBetween := goodIn_r _ [8] (by decide +kernel) (by decide +kernel)
set_option maxRecDepth 20000 in
theorem gX7_run_X7_isBetween : GoodIn wsX7_run (va_wsS RX7 46 yX7_isBetween wsX7_isBetween) := goodIn_app (goodIn_of _ (by decide +kernel)) ggX7_run_X7_isBetween
set_option maxRecDepth 20000 in
theorem ggX7_run_X1_prepare : GoodIn wsX7_run wsX1_prepare := goodIn_r _ [13, 14, 15, 16, 17, 12, 18, 19, 20, 21, 22, 23, 24, 25, 26, 27, 28, 29, 30, 31, 32, 33, 34, 35, 36, 37, 38, 39, 40, 41, 42, 43, 44, 45, 46, 47, 48, 49, 50, 51, 52, 53, 54, 55, 56, 57, 58, 59, 225, 226, 227, 228, 229, 230, 231, 232, 233, 234, 235, 236, 237, 238, 239, 240, 241, 242, 243, 244, 245, 246] (by decide +kernel) (by decide +kernel)
set_option maxRecDepth 20000 in
theorem gX7_run_X1_prepare : GoodIn wsX7_run (wsV RX7 191 RX1 yX1_prepare wsX1_prepare) := goodIn_app (goodIn_of _ (by decide +kernel)) ggX7_run_X1_prepare
set_option maxRecDepth 20000 in
theorem ggX7_run_X2_letDaysPass : GoodIn wsX7_run wsX2_letDaysPass := goodIn_r _ [63, 42, 40, 64, 25, 65, 66, 67, 23, 68, 41, 69, 34, 70, 71, 72, 55, 73, 57, 74, 75, 76, 77, 78, 79, 80, 81, 58, 82, 83, 84, 85, 86, 87, 88, 89, 90, 91, 92, 93, 94, 95, 96, 97, 98, 99, 100, 47, 101, 49, 102, 103, 104, 105, 32, 33, 38, 35, 27, 106, 107, 108, 109, 26, 110, 111, 112, 113, 7, 114, 115, 116, 117, 118, 119, 120, 121, 50, 122, 123, 124, 125, 36, 43, 126, 127, 128, 129, 130, 131, 132, 133, 51, 29, 30, 31, 134, 135, 136, 137, 138, 139, 140, 141, 142, 143, 144, 145, 146, 59, 147, 148, 149, 150, 151, 152, 153, 154, 155, 156, 157, 158, 159, 160, 161, 162, 163, 164, 165, 166, 167, 168, 169, 170, 39, 171, 172, 173, 174, 175, 176, 177, 178, 179, 180, 181, 182, 37, 183, 184, 185, 186, 187, 188, 189, 190, 191, 192, 193, 194, 195, 196, 197, 198, 199, 200, 228, 229, 230, 231, 232, 233, 234, 235, 236, 237, 238, 239, 240, 241, 242, 243, 244, 245, 246] (by decide +kernel) (by decide +kernel)
set_option maxRecDepth 20000 in
theorem gX7_run_X2_letDaysPass : GoodIn wsX7_run (wsV RX7 232 RX2 yX2_letDaysPass wsX2_letDaysPass) := goodIn_app (goodIn_of _ (by decide +kernel)) ggX7_run_X2_letDaysPass
set_option maxRecDepth 20000 in
theorem ggX7_run_X7_settle : GoodIn wsX7_run wsX7_settle := goodIn_ca (goodIn_ca (goodIn_ca (goodIn_r _ [204, 205, 206, 1, 2, 207, 208, 3, 209, 210, 211, 12, 212, 14, 213, 214, 215, 216, 217, 218, 219, 220, 221, 222, 223, 224, 225, 226, 227] (by decide +kernel) (by decide +kernel)) (goodIn_sub (fun _ h => List.mem_cons_of_mem _ (List.mem_append_left _ (List.mem_append_right _ h))) (by decide +kernel))) (goodIn_sub (fun _ h => List.mem_cons_of_mem _ (List.mem_append_left _ (List.mem_append_left _ (List.mem_append_right _ h)))) (by decide +kernel))) (goodIn_sub (fun _ h => List.mem_cons_of_mem _ (List.mem_append_right _ h)) (by decide +kernel))
set_option maxRecDepth 20000 in
theorem gX7_run_X7_settle : GoodIn wsX7_run (wsV RX7 197 RX7 yX7_settle wsX7_settle) := goodIn_app (goodIn_of _ (by decide +kernel)) ggX7_run_X7_settle
theorem dX7_run_0 : decode cX7_run 0 = .ok (.iload_n 1, 1) := by decide +kernel
theorem dX7_run_1 : decode cX7_run 1 = .ok (.iconst 1, 1) := by decide +kernel
theorem dX7_run_2 : decode cX7_run 2 = .ok (.bipush 30, 2) := by decide +kernel
theorem dX7_run_4 : decode cX7_run 4 = .ok (.invokestatic 46, 3) := by decide +kernel
theorem dX7_run_7 : decode cX7_run 7 = .ok (.ifCond .ne 13, 3) := by decide +kernel
theorem dX7_run_10 : decode cX7_run 10 = .ok (.new 50, 3) := by decide +kernel
theorem dX7_run_13 : decode cX7_run 13 = .ok (.dup, 1) := by decide +kernel
theorem dX7_run_14 : decode cX7_run 14 = .ok (.ldc 230, 2) := by decide +kernel
theorem dX7_run_16 : decode cX7_run 16 = .ok (.invokespecial 54, 3) := by decide +kernel
theorem dX7_run_19 : decode cX7_run 19 = .ok (.athrow, 1) := by decide +kernel
theorem dX7_run_20 : decode cX7_run 20 = .ok (.aload_n 0, 1) := by decide +kernel
theorem dX7_run_21 : decode cX7_run 21 = .ok (.getfield 26, 3) := by decide +kernel
theorem dX7_run_24 : decode cX7_run 24 = .ok (.aload_n 0, 1) := by decide +kernel
theorem dX7_run_25 : decode cX7_run 25 = .ok (.getfield 19, 3) := by decide +kernel
theorem dX7_run_28 : decode cX7_run 28 = .ok (.invokevirtual 191, 3) := by decide +kernel
theorem dX7_run_31 : decode cX7_run 31 = .ok (.aload_n 0, 1) := by decide +kernel
theorem dX7_run_32 : decode cX7_run 32 = .ok (.aload_n 0, 1) := by decide +kernel
theorem dX7_run_33 : decode cX7_run 33 = .ok (.getfield 19, 3) := by decide +kernel
theorem dX7_run_36 : decode cX7_run 36 = .ok (.iload_n 1, 1) := by decide +kernel
theorem dX7_run_37 : decode cX7_run 37 = .ok (.invokevirtual 232, 3) := by decide +kernel
theorem dX7_run_40 : decode cX7_run 40 = .ok (.invokevirtual 197, 3) := by decide +kernel
theorem dX7_run_43 : decode cX7_run 43 = .ok (.ireturn, 1) := by decide +kernel
set_option maxRecDepth 20000 in
theorem ggX7_set_X1_prepare : GoodIn wsX7_set wsX1_prepare := goodIn_r _ [7, 8, 9, 10, 11, 6, 12, 13, 14, 15, 16, 17, 18, 19, 20, 21, 22, 23, 24, 25, 26, 27, 28, 29, 30, 31, 32, 33, 34, 35, 36, 37, 38, 39, 40, 41, 42, 43, 44, 45, 46, 47, 48, 49, 50, 51, 52, 53, 93, 94, 95, 96, 97, 98, 99, 100, 101, 102, 103, 104, 105, 106, 107, 108, 109, 110, 111, 112, 113, 114] (by decide +kernel) (by decide +kernel)
set_option maxRecDepth 20000 in
theorem gX7_set_X1_prepare : GoodIn wsX7_set (wsV RX7 191 RX1 yX1_prepare wsX1_prepare) := goodIn_app (goodIn_of _ (by decide +kernel)) ggX7_set_X1_prepare
set_option maxRecDepth 20000 in
theorem ggX7_set_X2_trySet : GoodIn wsX7_set wsX2_trySet := goodIn_r _ [57, 58, 59, 37, 60, 61, 17, 62, 63, 64, 65, 66, 96, 97, 98, 99, 100, 101, 102, 103, 104, 105, 106, 107, 108, 109, 110] (by decide +kernel) (by decide +kernel)
set_option maxRecDepth 20000 in
theorem gX7_set_X2_trySet : GoodIn wsX7_set (wsV RX7 235 RX2 yX2_trySet wsX2_trySet) := goodIn_app (goodIn_of _ (by decide +kernel)) ggX7_set_X2_trySet
set_option maxRecDepth 20000 in
theorem ggX7_set_X7_settle : GoodIn wsX7_set wsX7_settle := goodIn_ca (goodIn_ca (goodIn_ca (goodIn_r _ [70, 71, 72, 73, 74, 75, 76, 1, 77, 78, 79, 6, 80, 8, 81, 82, 83, 84, 85, 86, 87, 88, 89, 90, 91, 92, 93, 94, 95] (by decide +kernel) (by decide +kernel)) (goodIn_sub (fun _ h => List.mem_cons_of_mem _ (List.mem_append_left _ (List.mem_append_left _ (List.mem_append_right _ h)))) (by decide +kernel))) (goodIn_sub (fun _ h => List.mem_cons_of_mem _ (List.mem_append_left _ (List.mem_append_right _ h))) (by decide +kernel))) (goodIn_sub (fun _ h => List.mem_cons_of_mem _ (List.mem_append_right _ h)) (by decide +kernel))
set_option maxRecDepth 20000 in
theorem gX7_set_X7_settle : GoodIn wsX7_set (wsV RX7 197 RX7 yX7_settle wsX7_settle) := goodIn_app (goodIn_of _ (by decide +kernel)) ggX7_set_X7_settle
theorem dX7_set_0 : decode cX7_set 0 = .ok (.aload_n 0, 1) := by decide +kernel
theorem dX7_set_1 : decode cX7_set 1 = .ok (.getfield 26, 3) := by decide +kernel
theorem dX7_set_4 : decode cX7_set 4 = .ok (.aload_n 0, 1) := by decide +kernel
theorem dX7_set_5 : decode cX7_set 5 = .ok (.getfield 19, 3) := by decide +kernel
theorem dX7_set_8 : decode cX7_set 8 = .ok (.invokevirtual 191, 3) := by decide +kernel
theorem dX7_set_11 : decode cX7_set 11 = .ok (.aload_n 0, 1) := by decide +kernel
theorem dX7_set_12 : decode cX7_set 12 = .ok (.aload_n 0, 1) := by decide +kernel
theorem dX7_set_13 : decode cX7_set 13 = .ok (.getfield 19, 3) := by decide +kernel
theorem dX7_set_16 : decode cX7_set 16 = .ok (.iload_n 1, 1) := by decide +kernel
theorem dX7_set_17 : decode cX7_set 17 = .ok (.iload_n 2, 1) := by decide +kernel
theorem dX7_set_18 : decode cX7_set 18 = .ok (.invokevirtual 235, 3) := by decide +kernel
theorem dX7_set_21 : decode cX7_set 21 = .ok (.invokevirtual 197, 3) := by decide +kernel
theorem dX7_set_24 : decode cX7_set 24 = .ok (.ireturn, 1) := by decide +kernel
set_option maxRecDepth 20000 in
theorem ggX7_undo_X1_takeBack : GoodIn wsX7_undo wsX1_takeBack := goodIn_r _ [10, 11, 12, 13, 14, 15, 9, 16, 17, 18, 19, 20, 21, 22, 23, 24, 25, 26, 27, 28, 29, 30, 31, 32, 33, 34, 35, 36, 37, 38, 39, 40, 41, 42, 43, 44, 45, 46, 47, 48, 49, 50, 51, 52, 53, 54, 55, 56, 57, 65, 66, 67, 68, 69, 70, 71, 72, 73, 74, 75, 76, 77, 78, 79, 80, 81, 82, 83, 84, 85, 86] (by decide +kernel) (by decide +kernel)
set_option maxRecDepth 20000 in
theorem gX7_undo_X1_takeBack : GoodIn wsX7_undo (wsV RX7 244 RX1 yX1_takeBack wsX1_takeBack) := goodIn_app (goodIn_of _ (by decide +kernel)) ggX7_undo_X1_takeBack
theorem dX7_undo_0 : decode cX7_undo 0 = .ok (.aload_n 0, 1) := by decide +kernel
theorem dX7_undo_1 : decode cX7_undo 1 = .ok (.getfield 26, 3) := by decide +kernel
theorem dX7_undo_4 : decode cX7_undo 4 = .ok (.getfield 238, 3) := by decide +kernel
theorem dX7_undo_7 : decode cX7_undo 7 = .ok (.ifCond .ne 13, 3) := by decide +kernel
theorem dX7_undo_10 : decode cX7_undo 10 = .ok (.new 61, 3) := by decide +kernel
theorem dX7_undo_13 : decode cX7_undo 13 = .ok (.dup, 1) := by decide +kernel
theorem dX7_undo_14 : decode cX7_undo 14 = .ok (.ldc 242, 2) := by decide +kernel
theorem dX7_undo_16 : decode cX7_undo 16 = .ok (.invokespecial 65, 3) := by decide +kernel
theorem dX7_undo_19 : decode cX7_undo 19 = .ok (.athrow, 1) := by decide +kernel
theorem dX7_undo_20 : decode cX7_undo 20 = .ok (.aload_n 0, 1) := by decide +kernel
theorem dX7_undo_21 : decode cX7_undo 21 = .ok (.getfield 26, 3) := by decide +kernel
theorem dX7_undo_24 : decode cX7_undo 24 = .ok (.aload_n 0, 1) := by decide +kernel
theorem dX7_undo_25 : decode cX7_undo 25 = .ok (.getfield 19, 3) := by decide +kernel
theorem dX7_undo_28 : decode cX7_undo 28 = .ok (.invokevirtual 244, 3) := by decide +kernel
theorem dX7_undo_31 : decode cX7_undo 31 = .ok (.aload_n 0, 1) := by decide +kernel
theorem dX7_undo_32 : decode cX7_undo 32 = .ok (.getfield 26, 3) := by decide +kernel
theorem dX7_undo_35 : decode cX7_undo 35 = .ok (.getfield 238, 3) := by decide +kernel
theorem dX7_undo_38 : decode cX7_undo 38 = .ok (.ireturn, 1) := by decide +kernel
set_option maxRecDepth 20000 in
theorem ggX7_whyNot_X2_hasPair : GoodIn wsX7_whyNot wsX2_hasPair := goodIn_r _ [10, 11, 12, 13, 9, 14, 15, 16, 17, 18, 72, 73, 74, 75, 76, 77, 78, 79, 80, 81, 82, 83, 84, 85, 86] (by decide +kernel) (by decide +kernel)
set_option maxRecDepth 20000 in
theorem gX7_whyNot_X2_hasPair : GoodIn wsX7_whyNot (wsV RX7 247 RX2 yX2_hasPair wsX2_hasPair) := goodIn_app (goodIn_of _ (by decide +kernel)) ggX7_whyNot_X2_hasPair
set_option maxRecDepth 20000 in
theorem ggX7_whyNot_X2_isTime : GoodIn wsX7_whyNot wsX2_isTime := goodIn_r _ [22, 23, 72, 73, 74, 75, 76, 77, 78, 79, 80, 81, 82, 83, 84, 85, 86] (by decide +kernel) (by decide +kernel)
set_option maxRecDepth 20000 in
theorem gX7_whyNot_X2_isTime : GoodIn wsX7_whyNot (wsV RX7 253 RX2 yX2_isTime wsX2_isTime) := goodIn_app (goodIn_of _ (by decide +kernel)) ggX7_whyNot_X2_isTime
set_option maxRecDepth 20000 in
theorem ggX7_whyNot_X2_reasonAgainst : GoodIn wsX7_whyNot wsX2_reasonAgainst := goodIn_r _ [27, 28, 29, 30, 9, 31, 32, 33, 34, 23, 35, 36, 37, 11, 12, 13, 14, 15, 16, 17, 18, 38, 39, 40, 41, 42, 43, 44, 45, 46, 47, 48, 49, 50, 51, 52, 53, 54, 55, 56, 57, 58, 59, 60, 61, 62, 63, 64, 72, 73, 74, 75, 76, 77, 78, 79, 80, 81, 82, 83, 84, 85, 86, 87, 88] (by decide +kernel) (by decide +kernel)
set_option maxRecDepth 20000 in
theorem gX7_whyNot_X2_reasonAgainst : GoodIn wsX7_whyNot (wsV RX7 258 RX2 yX2_reasonAgainst wsX2_reasonAgainst) := goodIn_app (goodIn_of _ (by decide +kernel)) ggX7_whyNot_X2_reasonAgainst
theorem dX7_whyNot_0 : decode cX7_whyNot 0 = .ok (.aload_n 0, 1) := by decide +kernel
theorem dX7_whyNot_1 : decode cX7_whyNot 1 = .ok (.getfield 19, 3) := by decide +kernel
theorem dX7_whyNot_4 : decode cX7_whyNot 4 = .ok (.iload_n 1, 1) := by decide +kernel
theorem dX7_whyNot_5 : decode cX7_whyNot 5 = .ok (.iload_n 2, 1) := by decide +kernel
theorem dX7_whyNot_6 : decode cX7_whyNot 6 = .ok (.invokevirtual 247, 3) := by decide +kernel
theorem dX7_whyNot_9 : decode cX7_whyNot 9 = .ok (.ifCond .ne 13, 3) := by decide +kernel
theorem dX7_whyNot_12 : decode cX7_whyNot 12 = .ok (.new 113, 3) := by decide +kernel
theorem dX7_whyNot_15 : decode cX7_whyNot 15 = .ok (.dup, 1) := by decide +kernel
theorem dX7_whyNot_16 : decode cX7_whyNot 16 = .ok (.ldc 251, 2) := by decide +kernel
theorem dX7_whyNot_18 : decode cX7_whyNot 18 = .ok (.invokespecial 117, 3) := by decide +kernel
theorem dX7_whyNot_21 : decode cX7_whyNot 21 = .ok (.athrow, 1) := by decide +kernel
theorem dX7_whyNot_22 : decode cX7_whyNot 22 = .ok (.aload_n 0, 1) := by decide +kernel
theorem dX7_whyNot_23 : decode cX7_whyNot 23 = .ok (.getfield 19, 3) := by decide +kernel
theorem dX7_whyNot_26 : decode cX7_whyNot 26 = .ok (.iload_n 3, 1) := by decide +kernel
theorem dX7_whyNot_27 : decode cX7_whyNot 27 = .ok (.iload 4, 2) := by decide +kernel
theorem dX7_whyNot_29 : decode cX7_whyNot 29 = .ok (.invokevirtual 253, 3) := by decide +kernel
theorem dX7_whyNot_32 : decode cX7_whyNot 32 = .ok (.ifCond .ne 14, 3) := by decide +kernel
theorem dX7_whyNot_35 : decode cX7_whyNot 35 = .ok (.new 50, 3) := by decide +kernel
theorem dX7_whyNot_38 : decode cX7_whyNot 38 = .ok (.dup, 1) := by decide +kernel
theorem dX7_whyNot_39 : decode cX7_whyNot 39 = .ok (.ldc_w 256, 3) := by decide +kernel
theorem dX7_whyNot_42 : decode cX7_whyNot 42 = .ok (.invokespecial 54, 3) := by decide +kernel
theorem dX7_whyNot_45 : decode cX7_whyNot 45 = .ok (.athrow, 1) := by decide +kernel
theorem dX7_whyNot_46 : decode cX7_whyNot 46 = .ok (.aload_n 0, 1) := by decide +kernel
theorem dX7_whyNot_47 : decode cX7_whyNot 47 = .ok (.getfield 19, 3) := by decide +kernel
theorem dX7_whyNot_50 : decode cX7_whyNot 50 = .ok (.iload_n 1, 1) := by decide +kernel
theorem dX7_whyNot_51 : decode cX7_whyNot 51 = .ok (.iload_n 2, 1) := by decide +kernel
theorem dX7_whyNot_52 : decode cX7_whyNot 52 = .ok (.iload_n 3, 1) := by decide +kernel
theorem dX7_whyNot_53 : decode cX7_whyNot 53 = .ok (.iload 4, 2) := by decide +kernel
theorem dX7_whyNot_55 : decode cX7_whyNot 55 = .ok (.invokevirtual 258, 3) := by decide +kernel
theorem dX7_whyNot_58 : decode cX7_whyNot 58 = .ok (.ireturn, 1) := by decide +kernel
set_option maxRecDepth 20000 in
theorem ggX7_firstTime_X2_hasPair : GoodIn wsX7_firstTime wsX2_hasPair := goodIn_r _ [8, 9, 10, 11, 7, 12, 13, 14, 15, 16, 66, 67, 68, 69, 70, 71, 72, 73, 74, 75, 76, 77, 78, 79, 80] (by decide +kernel) (by decide +kernel)
set_option maxRecDepth 20000 in
theorem gX7_firstTime_X2_hasPair : GoodIn wsX7_firstTime (wsV RX7 247 RX2 yX2_hasPair wsX2_hasPair) := goodIn_app (goodIn_of _ (by decide +kernel)) ggX7_firstTime_X2_hasPair
set_option maxRecDepth 20000 in
theorem ggX7_firstTime_X2_earliest : GoodIn wsX7_firstTime wsX2_earliest := goodIn_r _ [20, 21, 22, 23, 24, 25, 26, 27, 28, 29, 30, 31, 7, 32, 33, 34, 35, 36, 37, 9, 10, 11, 12, 13, 14, 15, 16, 38, 39, 40, 41, 42, 43, 44, 45, 46, 47, 48, 49, 50, 51, 52, 53, 54, 55, 56, 57, 58, 66, 67, 68, 69, 70, 71, 72, 73, 74, 75, 76, 77, 78, 79, 80, 81, 82] (by decide +kernel) (by decide +kernel)
set_option maxRecDepth 20000 in
theorem gX7_firstTime_X2_earliest : GoodIn wsX7_firstTime (wsV RX7 261 RX2 yX2_earliest wsX2_earliest) := goodIn_app (goodIn_of _ (by decide +kernel)) ggX7_firstTime_X2_earliest
theorem dX7_firstTime_0 : decode cX7_firstTime 0 = .ok (.aload_n 0, 1) := by decide +kernel
theorem dX7_firstTime_1 : decode cX7_firstTime 1 = .ok (.getfield 19, 3) := by decide +kernel
theorem dX7_firstTime_4 : decode cX7_firstTime 4 = .ok (.iload_n 1, 1) := by decide +kernel
theorem dX7_firstTime_5 : decode cX7_firstTime 5 = .ok (.iload_n 2, 1) := by decide +kernel
theorem dX7_firstTime_6 : decode cX7_firstTime 6 = .ok (.invokevirtual 247, 3) := by decide +kernel
theorem dX7_firstTime_9 : decode cX7_firstTime 9 = .ok (.ifCond .ne 13, 3) := by decide +kernel
theorem dX7_firstTime_12 : decode cX7_firstTime 12 = .ok (.new 113, 3) := by decide +kernel
theorem dX7_firstTime_15 : decode cX7_firstTime 15 = .ok (.dup, 1) := by decide +kernel
theorem dX7_firstTime_16 : decode cX7_firstTime 16 = .ok (.ldc 251, 2) := by decide +kernel
theorem dX7_firstTime_18 : decode cX7_firstTime 18 = .ok (.invokespecial 117, 3) := by decide +kernel
theorem dX7_firstTime_21 : decode cX7_firstTime 21 = .ok (.athrow, 1) := by decide +kernel
theorem dX7_firstTime_22 : decode cX7_firstTime 22 = .ok (.aload_n 0, 1) := by decide +kernel
theorem dX7_firstTime_23 : decode cX7_firstTime 23 = .ok (.getfield 19, 3) := by decide +kernel
theorem dX7_firstTime_26 : decode cX7_firstTime 26 = .ok (.iload_n 1, 1) := by decide +kernel
theorem dX7_firstTime_27 : decode cX7_firstTime 27 = .ok (.iload_n 2, 1) := by decide +kernel
theorem dX7_firstTime_28 : decode cX7_firstTime 28 = .ok (.bipush 60, 2) := by decide +kernel
theorem dX7_firstTime_30 : decode cX7_firstTime 30 = .ok (.invokevirtual 261, 3) := by decide +kernel
theorem dX7_firstTime_33 : decode cX7_firstTime 33 = .ok (.ireturn, 1) := by decide +kernel
set_option maxRecDepth 20000 in
theorem ggX7_coming_X7_isBetween : GoodIn wsX7_coming wsX7_isBetween := goodIn_r _ [11] (by decide +kernel) (by decide +kernel)
set_option maxRecDepth 20000 in
theorem gX7_coming_X7_isBetween : GoodIn wsX7_coming (va_wsS RX7 46 yX7_isBetween wsX7_isBetween) := goodIn_app (goodIn_of _ (by decide +kernel)) ggX7_coming_X7_isBetween
set_option maxRecDepth 20000 in
theorem ggX7_coming_X2_copyFrom : GoodIn wsX7_coming wsX2_copyFrom := goodIn_r _ [16, 17, 18, 19, 20, 21, 22, 23, 24, 25, 26, 27, 28, 29, 30, 31, 32, 33, 34, 35, 36, 37, 38, 39, 40, 41, 42, 43, 44, 45, 46, 47, 48, 49, 50, 51, 200, 201, 202, 203, 204, 205, 206, 207, 208, 209, 210, 211, 212, 213, 214, 217, 218, 215, 216] (by decide +kernel) (by decide +kernel)
set_option maxRecDepth 20000 in
theorem gX7_coming_X2_copyFrom : GoodIn wsX7_coming (wsV RX7 79 RX2 yX2_copyFrom wsX2_copyFrom) := goodIn_app (goodIn_of _ (by decide +kernel)) ggX7_coming_X2_copyFrom
set_option maxRecDepth 20000 in
theorem ggX7_coming_X2_letDaysPass : GoodIn wsX7_coming wsX2_letDaysPass := goodIn_r _ [55, 34, 32, 56, 17, 57, 58, 59, 15, 60, 33, 61, 26, 62, 63, 64, 47, 65, 49, 66, 67, 68, 69, 70, 71, 72, 73, 50, 74, 75, 76, 77, 78, 79, 80, 81, 82, 83, 84, 85, 86, 87, 88, 89, 90, 91, 92, 39, 93, 41, 94, 95, 96, 97, 24, 25, 30, 27, 19, 98, 99, 100, 101, 18, 102, 103, 104, 105, 10, 106, 107, 108, 109, 110, 111, 112, 113, 42, 114, 115, 116, 117, 28, 35, 118, 119, 120, 121, 122, 123, 124, 125, 43, 21, 22, 23, 126, 127, 128, 129, 130, 131, 132, 133, 134, 135, 136, 137, 138, 51, 139, 140, 141, 142, 143, 144, 145, 146, 147, 148, 149, 150, 151, 152, 153, 154, 155, 156, 157, 158, 159, 160, 161, 162, 31, 163, 164, 165, 166, 167, 168, 169, 170, 171, 172, 173, 174, 29, 175, 176, 177, 178, 179, 180, 181, 182, 183, 184, 185, 186, 187, 188, 189, 190, 191, 192, 200, 201, 202, 203, 204, 205, 206, 207, 208, 209, 210, 211, 212, 213, 214, 217, 218, 215, 216] (by decide +kernel) (by decide +kernel)
set_option maxRecDepth 20000 in
theorem gX7_coming_X2_letDaysPass : GoodIn wsX7_coming (wsV RX7 232 RX2 yX2_letDaysPass wsX2_letDaysPass) := goodIn_app (goodIn_of _ (by decide +kernel)) ggX7_coming_X2_letDaysPass
theorem dX7_coming_0 : decode cX7_coming 0 = .ok (.iload_n 1, 1) := by decide +kernel
theorem dX7_coming_1 : decode cX7_coming 1 = .ok (.iconst 1, 1) := by decide +kernel
theorem dX7_coming_2 : decode cX7_coming 2 = .ok (.bipush 60, 2) := by decide +kernel
theorem dX7_coming_4 : decode cX7_coming 4 = .ok (.invokestatic 46, 3) := by decide +kernel
theorem dX7_coming_7 : decode cX7_coming 7 = .ok (.ifCond .ne 14, 3) := by decide +kernel
theorem dX7_coming_10 : decode cX7_coming 10 = .ok (.new 50, 3) := by decide +kernel
theorem dX7_coming_13 : decode cX7_coming 13 = .ok (.dup, 1) := by decide +kernel
theorem dX7_coming_14 : decode cX7_coming 14 = .ok (.ldc_w 265, 3) := by decide +kernel
theorem dX7_coming_17 : decode cX7_coming 17 = .ok (.invokespecial 54, 3) := by decide +kernel
theorem dX7_coming_20 : decode cX7_coming 20 = .ok (.athrow, 1) := by decide +kernel
theorem dX7_coming_21 : decode cX7_coming 21 = .ok (.iload_n 2, 1) := by decide +kernel
theorem dX7_coming_22 : decode cX7_coming 22 = .ok (.iconst 0, 1) := by decide +kernel
theorem dX7_coming_23 : decode cX7_coming 23 = .ok (.iconst 4, 1) := by decide +kernel
theorem dX7_coming_24 : decode cX7_coming 24 = .ok (.invokestatic 46, 3) := by decide +kernel
theorem dX7_coming_27 : decode cX7_coming 27 = .ok (.ifCond .ne 13, 3) := by decide +kernel
theorem dX7_coming_30 : decode cX7_coming 30 = .ok (.new 50, 3) := by decide +kernel
theorem dX7_coming_33 : decode cX7_coming 33 = .ok (.dup, 1) := by decide +kernel
theorem dX7_coming_34 : decode cX7_coming 34 = .ok (.ldc 129, 2) := by decide +kernel
theorem dX7_coming_36 : decode cX7_coming 36 = .ok (.invokespecial 54, 3) := by decide +kernel
theorem dX7_coming_39 : decode cX7_coming 39 = .ok (.athrow, 1) := by decide +kernel
theorem dX7_coming_40 : decode cX7_coming 40 = .ok (.aload_n 0, 1) := by decide +kernel
theorem dX7_coming_41 : decode cX7_coming 41 = .ok (.getfield 40, 3) := by decide +kernel
theorem dX7_coming_44 : decode cX7_coming 44 = .ok (.aload_n 0, 1) := by decide +kernel
theorem dX7_coming_45 : decode cX7_coming 45 = .ok (.getfield 19, 3) := by decide +kernel
theorem dX7_coming_48 : decode cX7_coming 48 = .ok (.invokevirtual 79, 3) := by decide +kernel
theorem dX7_coming_51 : decode cX7_coming 51 = .ok (.aload_n 0, 1) := by decide +kernel
theorem dX7_coming_52 : decode cX7_coming 52 = .ok (.getfield 40, 3) := by decide +kernel
theorem dX7_coming_55 : decode cX7_coming 55 = .ok (.iload_n 1, 1) := by decide +kernel
theorem dX7_coming_56 : decode cX7_coming 56 = .ok (.invokevirtual 232, 3) := by decide +kernel
theorem dX7_coming_59 : decode cX7_coming 59 = .ok (.pop, 1) := by decide +kernel
theorem dX7_coming_60 : decode cX7_coming 60 = .ok (.iload_n 2, 1) := by decide +kernel
theorem dX7_coming_61 : decode cX7_coming 61 = .ok (.iconst 4, 1) := by decide +kernel
theorem dX7_coming_62 : decode cX7_coming 62 = .ok (.if_icmp .ne 16, 3) := by decide +kernel
theorem dX7_coming_65 : decode cX7_coming 65 = .ok (.aload_n 0, 1) := by decide +kernel
theorem dX7_coming_66 : decode cX7_coming 66 = .ok (.getfield 40, 3) := by decide +kernel
theorem dX7_coming_69 : decode cX7_coming 69 = .ok (.getfield 167, 3) := by decide +kernel
theorem dX7_coming_72 : decode cX7_coming 72 = .ok (.getfield 267, 3) := by decide +kernel
theorem dX7_coming_75 : decode cX7_coming 75 = .ok (.goto 22, 3) := by decide +kernel
theorem dX7_coming_78 : decode cX7_coming 78 = .ok (.aload_n 0, 1) := by decide +kernel
theorem dX7_coming_79 : decode cX7_coming 79 = .ok (.getfield 40, 3) := by decide +kernel
theorem dX7_coming_82 : decode cX7_coming 82 = .ok (.getfield 268, 3) := by decide +kernel
theorem dX7_coming_85 : decode cX7_coming 85 = .ok (.iload_n 2, 1) := by decide +kernel
theorem dX7_coming_86 : decode cX7_coming 86 = .ok (.iaload, 1) := by decide +kernel
theorem dX7_coming_87 : decode cX7_coming 87 = .ok (.aload_n 0, 1) := by decide +kernel
theorem dX7_coming_88 : decode cX7_coming 88 = .ok (.getfield 19, 3) := by decide +kernel
theorem dX7_coming_91 : decode cX7_coming 91 = .ok (.getfield 268, 3) := by decide +kernel
theorem dX7_coming_94 : decode cX7_coming 94 = .ok (.iload_n 2, 1) := by decide +kernel
theorem dX7_coming_95 : decode cX7_coming 95 = .ok (.iaload, 1) := by decide +kernel
theorem dX7_coming_96 : decode cX7_coming 96 = .ok (.isub, 1) := by decide +kernel
theorem dX7_coming_97 : decode cX7_coming 97 = .ok (.ireturn, 1) := by decide +kernel
set_option maxRecDepth 20000 in
theorem ggX7_becomes_X0_has : GoodIn wsX7_becomes wsX0_has := goodIn_r _ [13, 14, 219, 220] (by decide +kernel) (by decide +kernel)
set_option maxRecDepth 20000 in
theorem gX7_becomes_X0_has : GoodIn wsX7_becomes (wsV RX7 138 RX0 yX0_has wsX0_has) := goodIn_app (goodIn_of _ (by decide +kernel)) ggX7_becomes_X0_has
set_option maxRecDepth 20000 in
theorem ggX7_becomes_X0_at : GoodIn wsX7_becomes wsX0_at := goodIn_r _ [18, 19, 20, 10, 11, 12, 13, 14, 219, 220] (by decide +kernel) (by decide +kernel)
set_option maxRecDepth 20000 in
theorem gX7_becomes_X0_at : GoodIn wsX7_becomes (wsV RX7 147 RX0 yX0_at wsX0_at) := goodIn_app (goodIn_of _ (by decide +kernel)) ggX7_becomes_X0_at
set_option maxRecDepth 20000 in
theorem ggX7_becomes_X2_copyFrom : GoodIn wsX7_becomes wsX2_copyFrom := goodIn_r _ [25, 26, 27, 28, 29, 30, 31, 32, 33, 34, 35, 36, 37, 38, 39, 40, 41, 42, 43, 44, 45, 46, 47, 12, 48, 14, 19, 49, 50, 51, 52, 53, 54, 55, 56, 57, 204, 205, 206, 207, 208, 209, 210, 211, 212, 213, 214, 215, 216, 217, 218, 219, 220, 221, 222] (by decide +kernel) (by decide +kernel)
set_option maxRecDepth 20000 in
theorem gX7_becomes_X2_copyFrom : GoodIn wsX7_becomes (wsV RX7 79 RX2 yX2_copyFrom wsX2_copyFrom) := goodIn_app (goodIn_of _ (by decide +kernel)) ggX7_becomes_X2_copyFrom
set_option maxRecDepth 20000 in
theorem ggX7_becomes_X2_fateOf : GoodIn wsX7_becomes wsX2_fateOf := goodIn_r _ [61, 41, 26, 62, 63, 16, 17, 12, 18, 19, 20, 10, 11, 13, 14, 64, 65, 66, 24, 67, 43, 68, 69, 70, 71, 42, 72, 35, 73, 74, 75, 53, 76, 55, 77, 78, 79, 80, 81, 82, 83, 84, 56, 85, 86, 87, 88, 89, 90, 91, 92, 93, 94, 95, 96, 97, 98, 99, 100, 101, 102, 103, 104, 105, 106, 107, 108, 33, 34, 39, 36, 28, 109, 110, 111, 112, 27, 113, 114, 115, 116, 117, 118, 119, 120, 121, 122, 123, 124, 125, 126, 127, 128, 129, 37, 44, 130, 131, 132, 133, 134, 135, 136, 137, 49, 30, 31, 32, 138, 139, 140, 141, 142, 143, 144, 145, 146, 147, 148, 149, 150, 57, 151, 152, 153, 154, 155, 156, 157, 158, 159, 160, 161, 162, 163, 164, 165, 166, 40, 167, 168, 169, 170, 171, 172, 173, 174, 175, 176, 177, 178, 38, 179, 180, 181, 182, 183, 184, 185, 186, 187, 188, 189, 190, 191, 192, 193, 194, 195, 196, 204, 205, 206, 207, 208, 209, 210, 211, 212, 213, 214, 215, 216, 217, 218, 219, 220, 221, 222] (by decide +kernel) (by decide +kernel)
set_option maxRecDepth 20000 in
theorem gX7_becomes_X2_fateOf : GoodIn wsX7_becomes (wsV RX7 276 RX2 yX2_fateOf wsX2_fateOf) := goodIn_app (goodIn_of _ (by decide +kernel)) ggX7_becomes_X2_fateOf
theorem dX7_becomes_0 : decode cX7_becomes 0 = .ok (.aload_n 0, 1) := by decide +kernel
theorem dX7_becomes_1 : decode cX7_becomes 1 = .ok (.getfield 19, 3) := by decide +kernel
theorem dX7_becomes_4 : decode cX7_becomes 4 = .ok (.getfield 134, 3) := by decide +kernel
theorem dX7_becomes_7 : decode cX7_becomes 7 = .ok (.iload_n 1, 1) := by decide +kernel
theorem dX7_becomes_8 : decode cX7_becomes 8 = .ok (.invokevirtual 138, 3) := by decide +kernel
theorem dX7_becomes_11 : decode cX7_becomes 11 = .ok (.ifCond .ne 13, 3) := by decide +kernel
theorem dX7_becomes_14 : decode cX7_becomes 14 = .ok (.new 113, 3) := by decide +kernel
theorem dX7_becomes_17 : decode cX7_becomes 17 = .ok (.dup, 1) := by decide +kernel
theorem dX7_becomes_18 : decode cX7_becomes 18 = .ok (.ldc 143, 2) := by decide +kernel
theorem dX7_becomes_20 : decode cX7_becomes 20 = .ok (.invokespecial 117, 3) := by decide +kernel
theorem dX7_becomes_23 : decode cX7_becomes 23 = .ok (.athrow, 1) := by decide +kernel
theorem dX7_becomes_24 : decode cX7_becomes 24 = .ok (.aload_n 0, 1) := by decide +kernel
theorem dX7_becomes_25 : decode cX7_becomes 25 = .ok (.getfield 19, 3) := by decide +kernel
theorem dX7_becomes_28 : decode cX7_becomes 28 = .ok (.getfield 134, 3) := by decide +kernel
theorem dX7_becomes_31 : decode cX7_becomes 31 = .ok (.iload_n 1, 1) := by decide +kernel
theorem dX7_becomes_32 : decode cX7_becomes 32 = .ok (.iconst 0, 1) := by decide +kernel
theorem dX7_becomes_33 : decode cX7_becomes 33 = .ok (.invokevirtual 147, 3) := by decide +kernel
theorem dX7_becomes_36 : decode cX7_becomes 36 = .ok (.aload_n 0, 1) := by decide +kernel
theorem dX7_becomes_37 : decode cX7_becomes 37 = .ok (.getfield 19, 3) := by decide +kernel
theorem dX7_becomes_40 : decode cX7_becomes 40 = .ok (.getfield 271, 3) := by decide +kernel
theorem dX7_becomes_43 : decode cX7_becomes 43 = .ok (.isub, 1) := by decide +kernel
theorem dX7_becomes_44 : decode cX7_becomes 44 = .ok (.bipush 60, 2) := by decide +kernel
theorem dX7_becomes_46 : decode cX7_becomes 46 = .ok (.if_icmp .lt 14, 3) := by decide +kernel
theorem dX7_becomes_49 : decode cX7_becomes 49 = .ok (.new 61, 3) := by decide +kernel
theorem dX7_becomes_52 : decode cX7_becomes 52 = .ok (.dup, 1) := by decide +kernel
theorem dX7_becomes_53 : decode cX7_becomes 53 = .ok (.ldc_w 274, 3) := by decide +kernel
theorem dX7_becomes_56 : decode cX7_becomes 56 = .ok (.invokespecial 65, 3) := by decide +kernel
theorem dX7_becomes_59 : decode cX7_becomes 59 = .ok (.athrow, 1) := by decide +kernel
theorem dX7_becomes_60 : decode cX7_becomes 60 = .ok (.aload_n 0, 1) := by decide +kernel
theorem dX7_becomes_61 : decode cX7_becomes 61 = .ok (.getfield 40, 3) := by decide +kernel
theorem dX7_becomes_64 : decode cX7_becomes 64 = .ok (.aload_n 0, 1) := by decide +kernel
theorem dX7_becomes_65 : decode cX7_becomes 65 = .ok (.getfield 19, 3) := by decide +kernel
theorem dX7_becomes_68 : decode cX7_becomes 68 = .ok (.invokevirtual 79, 3) := by decide +kernel
theorem dX7_becomes_71 : decode cX7_becomes 71 = .ok (.aload_n 0, 1) := by decide +kernel
theorem dX7_becomes_72 : decode cX7_becomes 72 = .ok (.getfield 40, 3) := by decide +kernel
theorem dX7_becomes_75 : decode cX7_becomes 75 = .ok (.iload_n 1, 1) := by decide +kernel
theorem dX7_becomes_76 : decode cX7_becomes 76 = .ok (.invokevirtual 276, 3) := by decide +kernel
theorem dX7_becomes_79 : decode cX7_becomes 79 = .ok (.ireturn, 1) := by decide +kernel
set_option maxRecDepth 20000 in
theorem ggX7_runScript_X7_isBetween : GoodIn wsX7_runScript wsX7_isBetween := goodIn_r _ [9] (by decide +kernel) (by decide +kernel)
set_option maxRecDepth 20000 in
theorem gX7_runScript_X7_isBetween : GoodIn wsX7_runScript (va_wsS RX7 46 yX7_isBetween wsX7_isBetween) := goodIn_app (goodIn_of _ (by decide +kernel)) ggX7_runScript_X7_isBetween
set_option maxRecDepth 20000 in
theorem ggX7_runScript_X3_withoutLast : GoodIn wsX7_runScript wsX3_withoutLast := goodIn_r _ [13, 14] (by decide +kernel) (by decide +kernel)
set_option maxRecDepth 20000 in
theorem gX7_runScript_X3_withoutLast : GoodIn wsX7_runScript (va_wsS RX7 281 yX3_withoutLast wsX3_withoutLast) := goodIn_app (goodIn_of _ (by decide +kernel)) ggX7_runScript_X3_withoutLast
set_option maxRecDepth 20000 in
theorem ggX7_runScript_X2_copyFrom : GoodIn wsX7_runScript wsX2_copyFrom := goodIn_r _ [19, 20, 21, 22, 23, 24, 25, 26, 27, 28, 29, 30, 31, 32, 33, 34, 35, 36, 37, 38, 39, 40, 41, 42, 43, 44, 45, 46, 47, 48, 49, 50, 51, 52, 53, 54, 248, 249, 250, 251, 252, 253, 254, 255, 256, 257, 258, 259, 260, 261, 262, 263, 264, 265, 266] (by decide +kernel) (by decide +kernel)
set_option maxRecDepth 20000 in
theorem gX7_runScript_X2_copyFrom : GoodIn wsX7_runScript (wsV RX7 79 RX2 yX2_copyFrom wsX2_copyFrom) := goodIn_app (goodIn_of _ (by decide +kernel)) ggX7_runScript_X2_copyFrom
set_option maxRecDepth 20000 in
theorem ggX7_runScript_X3_succeeds : GoodIn wsX7_runScript wsX3_succeeds := goodIn_r _ [57, 58, 59, 60, 61, 62, 63, 64, 18, 65, 35, 66, 67, 68, 69, 70, 71, 72, 73, 21, 74, 75, 76, 77, 78, 79, 80, 20, 81, 82, 83, 84, 85, 86, 87, 88, 27, 28, 33, 30, 22, 89, 8, 90, 91, 92, 93, 94, 95, 96, 42, 97, 44, 45, 98, 99, 100, 101, 31, 38, 102, 103, 104, 105, 106, 107, 108, 109, 110, 111, 112, 113, 46, 24, 25, 26, 114, 115, 116, 117, 118, 119, 120, 121, 122, 123, 124, 125, 126, 36, 127, 128, 129, 130, 50, 131, 52, 132, 133, 134, 135, 53, 136, 137, 138, 139, 140, 141, 142, 143, 144, 145, 34, 146, 147, 148, 149, 7, 9, 150, 151, 152, 153, 37, 154, 155, 156, 157, 158, 29, 159, 160, 161, 162, 163, 164, 165, 166, 167, 168, 169, 170, 171, 172, 173, 174, 175, 176, 177, 178, 179, 180, 181, 182, 183, 184, 185, 186, 187, 188, 189, 190, 54, 191, 192, 193, 194, 195, 196, 197, 198, 199, 200, 201, 202, 203, 204, 205, 206, 207, 208, 209, 210, 211, 212, 213, 214, 215, 216, 217, 218, 219, 220, 221, 222, 32, 223, 224, 225, 226, 227, 228, 229, 230, 231, 232, 233, 234, 235, 236, 237, 238, 239, 240, 248, 249, 250, 251, 252, 253, 254, 255, 256, 257, 258, 259, 260, 261, 262, 263, 264, 265, 266] (by decide +kernel) (by decide +kernel)
set_option maxRecDepth 20000 in
theorem gX7_runScript_X3_succeeds : GoodIn wsX7_runScript (va_wsS RX7 291 yX3_succeeds wsX3_succeeds) := goodIn_app (goodIn_of _ (by decide +kernel)) ggX7_runScript_X3_succeeds
theorem dX7_runScript_0 : decode cX7_runScript 0 = .ok (.iload_n 1, 1) := by decide +kernel
theorem dX7_runScript_1 : decode cX7_runScript 1 = .ok (.iconst 1, 1) := by decide +kernel
theorem dX7_runScript_2 : decode cX7_runScript 2 = .ok (.iconst 3, 1) := by decide +kernel
theorem dX7_runScript_3 : decode cX7_runScript 3 = .ok (.invokestatic 46, 3) := by decide +kernel
theorem dX7_runScript_6 : decode cX7_runScript 6 = .ok (.ifCond .ne 14, 3) := by decide +kernel
theorem dX7_runScript_9 : decode cX7_runScript 9 = .ok (.new 50, 3) := by decide +kernel
theorem dX7_runScript_12 : decode cX7_runScript 12 = .ok (.dup, 1) := by decide +kernel
theorem dX7_runScript_13 : decode cX7_runScript 13 = .ok (.ldc_w 279, 3) := by decide +kernel
theorem dX7_runScript_16 : decode cX7_runScript 16 = .ok (.invokespecial 54, 3) := by decide +kernel
theorem dX7_runScript_19 : decode cX7_runScript 19 = .ok (.athrow, 1) := by decide +kernel
theorem dX7_runScript_20 : decode cX7_runScript 20 = .ok (.lload_n 2, 1) := by decide +kernel
theorem dX7_runScript_21 : decode cX7_runScript 21 = .ok (.lconst 0, 1) := by decide +kernel
theorem dX7_runScript_22 : decode cX7_runScript 22 = .ok (.lcmp, 1) := by decide +kernel
theorem dX7_runScript_23 : decode cX7_runScript 23 = .ok (.ifCond .lt 13, 3) := by decide +kernel
theorem dX7_runScript_26 : decode cX7_runScript 26 = .ok (.lload_n 2, 1) := by decide +kernel
theorem dX7_runScript_27 : decode cX7_runScript 27 = .ok (.iload_n 1, 1) := by decide +kernel
theorem dX7_runScript_28 : decode cX7_runScript 28 = .ok (.invokestatic 281, 3) := by decide +kernel
theorem dX7_runScript_31 : decode cX7_runScript 31 = .ok (.lconst 0, 1) := by decide +kernel
theorem dX7_runScript_32 : decode cX7_runScript 32 = .ok (.lcmp, 1) := by decide +kernel
theorem dX7_runScript_33 : decode cX7_runScript 33 = .ok (.ifCond .eq 14, 3) := by decide +kernel
theorem dX7_runScript_36 : decode cX7_runScript 36 = .ok (.new 50, 3) := by decide +kernel
theorem dX7_runScript_39 : decode cX7_runScript 39 = .ok (.dup, 1) := by decide +kernel
theorem dX7_runScript_40 : decode cX7_runScript 40 = .ok (.ldc_w 287, 3) := by decide +kernel
theorem dX7_runScript_43 : decode cX7_runScript 43 = .ok (.invokespecial 54, 3) := by decide +kernel
theorem dX7_runScript_46 : decode cX7_runScript 46 = .ok (.athrow, 1) := by decide +kernel
theorem dX7_runScript_47 : decode cX7_runScript 47 = .ok (.aload_n 0, 1) := by decide +kernel
theorem dX7_runScript_48 : decode cX7_runScript 48 = .ok (.getfield 40, 3) := by decide +kernel
theorem dX7_runScript_51 : decode cX7_runScript 51 = .ok (.aload_n 0, 1) := by decide +kernel
theorem dX7_runScript_52 : decode cX7_runScript 52 = .ok (.getfield 19, 3) := by decide +kernel
theorem dX7_runScript_55 : decode cX7_runScript 55 = .ok (.invokevirtual 79, 3) := by decide +kernel
theorem dX7_runScript_58 : decode cX7_runScript 58 = .ok (.iconst 0, 1) := by decide +kernel
theorem dX7_runScript_59 : decode cX7_runScript 59 = .ok (.istore 4, 2) := by decide +kernel
theorem dX7_runScript_61 : decode cX7_runScript 61 = .ok (.iload 4, 2) := by decide +kernel
theorem dX7_runScript_63 : decode cX7_runScript 63 = .ok (.iload_n 1, 1) := by decide +kernel
theorem dX7_runScript_64 : decode cX7_runScript 64 = .ok (.if_icmp .ge 41, 3) := by decide +kernel
theorem dX7_runScript_67 : decode cX7_runScript 67 = .ok (.lload_n 2, 1) := by decide +kernel
theorem dX7_runScript_68 : decode cX7_runScript 68 = .ok (.iload_n 1, 1) := by decide +kernel
theorem dX7_runScript_69 : decode cX7_runScript 69 = .ok (.iconst 1, 1) := by decide +kernel
theorem dX7_runScript_70 : decode cX7_runScript 70 = .ok (.isub, 1) := by decide +kernel
theorem dX7_runScript_71 : decode cX7_runScript 71 = .ok (.iload 4, 2) := by decide +kernel
theorem dX7_runScript_73 : decode cX7_runScript 73 = .ok (.isub, 1) := by decide +kernel
theorem dX7_runScript_74 : decode cX7_runScript 74 = .ok (.invokestatic 281, 3) := by decide +kernel
theorem dX7_runScript_77 : decode cX7_runScript 77 = .ok (.ldc2_w 289, 3) := by decide +kernel
theorem dX7_runScript_80 : decode cX7_runScript 80 = .ok (.lrem, 1) := by decide +kernel
theorem dX7_runScript_81 : decode cX7_runScript 81 = .ok (.l2i, 1) := by decide +kernel
theorem dX7_runScript_82 : decode cX7_runScript 82 = .ok (.istore 5, 2) := by decide +kernel
theorem dX7_runScript_84 : decode cX7_runScript 84 = .ok (.aload_n 0, 1) := by decide +kernel
theorem dX7_runScript_85 : decode cX7_runScript 85 = .ok (.getfield 40, 3) := by decide +kernel
theorem dX7_runScript_88 : decode cX7_runScript 88 = .ok (.iload 5, 2) := by decide +kernel
theorem dX7_runScript_90 : decode cX7_runScript 90 = .ok (.invokestatic 291, 3) := by decide +kernel
theorem dX7_runScript_93 : decode cX7_runScript 93 = .ok (.ifCond .ne 6, 3) := by decide +kernel
theorem dX7_runScript_96 : decode cX7_runScript 96 = .ok (.iload 4, 2) := by decide +kernel
theorem dX7_runScript_98 : decode cX7_runScript 98 = .ok (.ireturn, 1) := by decide +kernel
theorem dX7_runScript_99 : decode cX7_runScript 99 = .ok (.iinc 4 1, 3) := by decide +kernel
theorem dX7_runScript_102 : decode cX7_runScript 102 = .ok (.goto (-41), 3) := by decide +kernel
theorem dX7_runScript_105 : decode cX7_runScript 105 = .ok (.iconst (-1), 1) := by decide +kernel
theorem dX7_runScript_106 : decode cX7_runScript 106 = .ok (.ireturn, 1) := by decide +kernel
set_option maxRecDepth 20000 in
theorem ggX7_simulate_X7_isBetween : GoodIn wsX7_simulate wsX7_isBetween := goodIn_r _ [13] (by decide +kernel) (by decide +kernel)
set_option maxRecDepth 20000 in
theorem gX7_simulate_X7_isBetween : GoodIn wsX7_simulate (va_wsS RX7 46 yX7_isBetween wsX7_isBetween) := goodIn_app (goodIn_of _ (by decide +kernel)) ggX7_simulate_X7_isBetween
set_option maxRecDepth 20000 in
theorem ggX7_simulate_X2_copyFrom : GoodIn wsX7_simulate wsX2_copyFrom := goodIn_r _ [18, 19, 20, 21, 22, 23, 24, 25, 26, 27, 28, 29, 30, 31, 32, 33, 34, 35, 36, 37, 38, 39, 40, 41, 42, 43, 44, 45, 46, 47, 48, 49, 50, 51, 52, 53, 248, 249, 250, 251, 252, 253, 254, 255, 256, 257, 258, 259, 260, 261, 262, 263, 264, 265, 266] (by decide +kernel) (by decide +kernel)
set_option maxRecDepth 20000 in
theorem gX7_simulate_X2_copyFrom : GoodIn wsX7_simulate (wsV RX7 79 RX2 yX2_copyFrom wsX2_copyFrom) := goodIn_app (goodIn_of _ (by decide +kernel)) ggX7_simulate_X2_copyFrom
set_option maxRecDepth 20000 in
theorem ggX7_simulate_X3_takeTurn : GoodIn wsX7_simulate wsX3_takeTurn := goodIn_r _ [57, 58, 59, 60, 61, 17, 62, 34, 63, 64, 65, 66, 67, 68, 69, 70, 20, 71, 72, 73, 74, 75, 76, 77, 19, 78, 79, 80, 81, 82, 83, 84, 85, 26, 27, 32, 29, 21, 86, 12, 87, 88, 89, 90, 91, 92, 93, 41, 94, 43, 44, 95, 96, 97, 98, 30, 37, 99, 100, 101, 102, 103, 104, 105, 106, 107, 108, 109, 110, 45, 23, 24, 25, 111, 112, 113, 114, 115, 116, 117, 118, 119, 120, 121, 122, 123, 35, 124, 125, 126, 127, 49, 128, 51, 129, 130, 131, 132, 52, 133, 134, 135, 136, 137, 138, 139, 140, 141, 142, 33, 143, 144, 145, 146, 147, 148, 149, 150, 11, 13, 151, 152, 153, 154, 155, 156, 157, 158, 159, 160, 161, 162, 163, 36, 164, 165, 166, 167, 168, 28, 169, 170, 171, 172, 173, 174, 175, 176, 177, 178, 179, 180, 181, 182, 183, 184, 185, 186, 187, 188, 189, 190, 191, 192, 193, 194, 195, 196, 197, 198, 199, 200, 53, 201, 202, 203, 204, 205, 206, 207, 208, 209, 210, 211, 212, 213, 214, 215, 216, 217, 218, 219, 220, 221, 222, 223, 224, 31, 225, 226, 227, 228, 229, 230, 231, 232, 233, 234, 235, 236, 237, 238, 239, 240, 248, 249, 250, 251, 252, 253, 254, 255, 256, 257, 258, 259, 260, 261, 262, 263, 264, 265, 266] (by decide +kernel) (by decide +kernel)
set_option maxRecDepth 20000 in
theorem gX7_simulate_X3_takeTurn : GoodIn wsX7_simulate (va_wsS RX7 301 yX3_takeTurn wsX3_takeTurn) := goodIn_app (goodIn_of _ (by decide +kernel)) ggX7_simulate_X3_takeTurn
theorem dX7_simulate_0 : decode cX7_simulate 0 = .ok (.iload_n 3, 1) := by decide +kernel
theorem dX7_simulate_1 : decode cX7_simulate 1 = .ok (.iconst 1, 1) := by decide +kernel
theorem dX7_simulate_2 : decode cX7_simulate 2 = .ok (.bipush 60, 2) := by decide +kernel
theorem dX7_simulate_4 : decode cX7_simulate 4 = .ok (.invokestatic 46, 3) := by decide +kernel
theorem dX7_simulate_7 : decode cX7_simulate 7 = .ok (.ifCond .ne 14, 3) := by decide +kernel
theorem dX7_simulate_10 : decode cX7_simulate 10 = .ok (.new 50, 3) := by decide +kernel
theorem dX7_simulate_13 : decode cX7_simulate 13 = .ok (.dup, 1) := by decide +kernel
theorem dX7_simulate_14 : decode cX7_simulate 14 = .ok (.ldc_w 295, 3) := by decide +kernel
theorem dX7_simulate_17 : decode cX7_simulate 17 = .ok (.invokespecial 54, 3) := by decide +kernel
theorem dX7_simulate_20 : decode cX7_simulate 20 = .ok (.athrow, 1) := by decide +kernel
theorem dX7_simulate_21 : decode cX7_simulate 21 = .ok (.aload_n 0, 1) := by decide +kernel
theorem dX7_simulate_22 : decode cX7_simulate 22 = .ok (.getfield 40, 3) := by decide +kernel
theorem dX7_simulate_25 : decode cX7_simulate 25 = .ok (.aload_n 0, 1) := by decide +kernel
theorem dX7_simulate_26 : decode cX7_simulate 26 = .ok (.getfield 19, 3) := by decide +kernel
theorem dX7_simulate_29 : decode cX7_simulate 29 = .ok (.invokevirtual 79, 3) := by decide +kernel
theorem dX7_simulate_32 : decode cX7_simulate 32 = .ok (.lload_n 1, 1) := by decide +kernel
theorem dX7_simulate_33 : decode cX7_simulate 33 = .ok (.lstore 4, 2) := by decide +kernel
theorem dX7_simulate_35 : decode cX7_simulate 35 = .ok (.iconst 0, 1) := by decide +kernel
theorem dX7_simulate_36 : decode cX7_simulate 36 = .ok (.istore 6, 2) := by decide +kernel
theorem dX7_simulate_38 : decode cX7_simulate 38 = .ok (.iload 6, 2) := by decide +kernel
theorem dX7_simulate_40 : decode cX7_simulate 40 = .ok (.iload_n 3, 1) := by decide +kernel
theorem dX7_simulate_41 : decode cX7_simulate 41 = .ok (.if_icmp .ge 34, 3) := by decide +kernel
theorem dX7_simulate_44 : decode cX7_simulate 44 = .ok (.lload 4, 2) := by decide +kernel
theorem dX7_simulate_46 : decode cX7_simulate 46 = .ok (.ldc2_w 297, 3) := by decide +kernel
theorem dX7_simulate_49 : decode cX7_simulate 49 = .ok (.lmul, 1) := by decide +kernel
theorem dX7_simulate_50 : decode cX7_simulate 50 = .ok (.ldc2_w 299, 3) := by decide +kernel
theorem dX7_simulate_53 : decode cX7_simulate 53 = .ok (.ladd, 1) := by decide +kernel
theorem dX7_simulate_54 : decode cX7_simulate 54 = .ok (.lstore 4, 2) := by decide +kernel
theorem dX7_simulate_56 : decode cX7_simulate 56 = .ok (.aload_n 0, 1) := by decide +kernel
theorem dX7_simulate_57 : decode cX7_simulate 57 = .ok (.getfield 40, 3) := by decide +kernel
theorem dX7_simulate_60 : decode cX7_simulate 60 = .ok (.lload 4, 2) := by decide +kernel
theorem dX7_simulate_62 : decode cX7_simulate 62 = .ok (.bipush 33, 2) := by decide +kernel
theorem dX7_simulate_64 : decode cX7_simulate 64 = .ok (.lushr, 1) := by decide +kernel
theorem dX7_simulate_65 : decode cX7_simulate 65 = .ok (.l2i, 1) := by decide +kernel
theorem dX7_simulate_66 : decode cX7_simulate 66 = .ok (.invokestatic 301, 3) := by decide +kernel
theorem dX7_simulate_69 : decode cX7_simulate 69 = .ok (.iinc 6 1, 3) := by decide +kernel
theorem dX7_simulate_72 : decode cX7_simulate 72 = .ok (.goto (-34), 3) := by decide +kernel
theorem dX7_simulate_75 : decode cX7_simulate 75 = .ok (.bipush 100, 2) := by decide +kernel
theorem dX7_simulate_77 : decode cX7_simulate 77 = .ok (.aload_n 0, 1) := by decide +kernel
theorem dX7_simulate_78 : decode cX7_simulate 78 = .ok (.getfield 40, 3) := by decide +kernel
theorem dX7_simulate_81 : decode cX7_simulate 81 = .ok (.getfield 268, 3) := by decide +kernel
theorem dX7_simulate_84 : decode cX7_simulate 84 = .ok (.iconst 0, 1) := by decide +kernel
theorem dX7_simulate_85 : decode cX7_simulate 85 = .ok (.iaload, 1) := by decide +kernel
theorem dX7_simulate_86 : decode cX7_simulate 86 = .ok (.aload_n 0, 1) := by decide +kernel
theorem dX7_simulate_87 : decode cX7_simulate 87 = .ok (.getfield 19, 3) := by decide +kernel
theorem dX7_simulate_90 : decode cX7_simulate 90 = .ok (.getfield 268, 3) := by decide +kernel
theorem dX7_simulate_93 : decode cX7_simulate 93 = .ok (.iconst 0, 1) := by decide +kernel
theorem dX7_simulate_94 : decode cX7_simulate 94 = .ok (.iaload, 1) := by decide +kernel
theorem dX7_simulate_95 : decode cX7_simulate 95 = .ok (.isub, 1) := by decide +kernel
theorem dX7_simulate_96 : decode cX7_simulate 96 = .ok (.imul, 1) := by decide +kernel
theorem dX7_simulate_97 : decode cX7_simulate 97 = .ok (.aload_n 0, 1) := by decide +kernel
theorem dX7_simulate_98 : decode cX7_simulate 98 = .ok (.getfield 40, 3) := by decide +kernel
theorem dX7_simulate_101 : decode cX7_simulate 101 = .ok (.getfield 134, 3) := by decide +kernel
theorem dX7_simulate_104 : decode cX7_simulate 104 = .ok (.getfield 305, 3) := by decide +kernel
theorem dX7_simulate_107 : decode cX7_simulate 107 = .ok (.iadd, 1) := by decide +kernel
theorem dX7_simulate_108 : decode cX7_simulate 108 = .ok (.ireturn, 1) := by decide +kernel
set_option maxRecDepth 20000 in
theorem ggX7_save_X7_isBetween : GoodIn wsX7_save wsX7_isBetween := goodIn_r _ [10] (by decide +kernel) (by decide +kernel)
set_option maxRecDepth 20000 in
theorem gX7_save_X7_isBetween : GoodIn wsX7_save (va_wsS RX7 46 yX7_isBetween wsX7_isBetween) := goodIn_app (goodIn_of _ (by decide +kernel)) ggX7_save_X7_isBetween
set_option maxRecDepth 20000 in
theorem ggX7_save_X7_slotOf : GoodIn wsX7_save wsX7_slotOf := goodIn_r _ [14, 15, 16, 59, 60, 61, 62, 63, 64, 65] (by decide +kernel) (by decide +kernel)
set_option maxRecDepth 20000 in
theorem gX7_save_X7_slotOf : GoodIn wsX7_save (wsV RX7 308 RX7 yX7_slotOf wsX7_slotOf) := goodIn_app (goodIn_of _ (by decide +kernel)) ggX7_save_X7_slotOf
set_option maxRecDepth 20000 in
theorem ggX7_save_X2_copyFrom : GoodIn wsX7_save wsX2_copyFrom := goodIn_r _ [21, 22, 23, 24, 25, 26, 27, 28, 29, 30, 31, 32, 33, 34, 35, 36, 37, 38, 39, 40, 41, 42, 43, 44, 45, 46, 47, 48, 49, 50, 51, 52, 53, 54, 55, 56, 66, 67, 68, 69, 70, 71, 72, 73, 74, 75, 76, 77, 78, 79, 80, 81, 82, 83, 84] (by decide +kernel) (by decide +kernel)
set_option maxRecDepth 20000 in
theorem gX7_save_X2_copyFrom : GoodIn wsX7_save (wsV RX7 79 RX2 yX2_copyFrom wsX2_copyFrom) := goodIn_app (goodIn_of _ (by decide +kernel)) ggX7_save_X2_copyFrom
theorem dX7_save_0 : decode cX7_save 0 = .ok (.iload_n 1, 1) := by decide +kernel
theorem dX7_save_1 : decode cX7_save 1 = .ok (.iconst 0, 1) := by decide +kernel
theorem dX7_save_2 : decode cX7_save 2 = .ok (.iconst 1, 1) := by decide +kernel
theorem dX7_save_3 : decode cX7_save 3 = .ok (.invokestatic 46, 3) := by decide +kernel
theorem dX7_save_6 : decode cX7_save 6 = .ok (.ifCond .ne 14, 3) := by decide +kernel
theorem dX7_save_9 : decode cX7_save 9 = .ok (.new 113, 3) := by decide +kernel
theorem dX7_save_12 : decode cX7_save 12 = .ok (.dup, 1) := by decide +kernel
theorem dX7_save_13 : decode cX7_save 13 = .ok (.ldc_w 306, 3) := by decide +kernel
theorem dX7_save_16 : decode cX7_save 16 = .ok (.invokespecial 117, 3) := by decide +kernel
theorem dX7_save_19 : decode cX7_save 19 = .ok (.athrow, 1) := by decide +kernel
theorem dX7_save_20 : decode cX7_save 20 = .ok (.aload_n 0, 1) := by decide +kernel
theorem dX7_save_21 : decode cX7_save 21 = .ok (.iload_n 1, 1) := by decide +kernel
theorem dX7_save_22 : decode cX7_save 22 = .ok (.invokevirtual 308, 3) := by decide +kernel
theorem dX7_save_25 : decode cX7_save 25 = .ok (.astore_n 2, 1) := by decide +kernel
theorem dX7_save_26 : decode cX7_save 26 = .ok (.aload_n 2, 1) := by decide +kernel
theorem dX7_save_27 : decode cX7_save 27 = .ok (.getfield 312, 3) := by decide +kernel
theorem dX7_save_30 : decode cX7_save 30 = .ok (.aload_n 0, 1) := by decide +kernel
theorem dX7_save_31 : decode cX7_save 31 = .ok (.getfield 19, 3) := by decide +kernel
theorem dX7_save_34 : decode cX7_save 34 = .ok (.invokevirtual 79, 3) := by decide +kernel
theorem dX7_save_37 : decode cX7_save 37 = .ok (.aload_n 2, 1) := by decide +kernel
theorem dX7_save_38 : decode cX7_save 38 = .ok (.iconst 1, 1) := by decide +kernel
theorem dX7_save_39 : decode cX7_save 39 = .ok (.putfield 86, 3) := by decide +kernel
theorem dX7_save_42 : decode cX7_save 42 = .ok (.aload_n 0, 1) := by decide +kernel
theorem dX7_save_43 : decode cX7_save 43 = .ok (.getfield 19, 3) := by decide +kernel
theorem dX7_save_46 : decode cX7_save 46 = .ok (.getfield 271, 3) := by decide +kernel
theorem dX7_save_49 : decode cX7_save 49 = .ok (.ireturn, 1) := by decide +kernel
set_option maxRecDepth 20000 in
theorem ggX7_restore_X7_isBetween : GoodIn wsX7_restore wsX7_isBetween := goodIn_r _ [13] (by decide +kernel) (by decide +kernel)
set_option maxRecDepth 20000 in
theorem gX7_restore_X7_isBetween : GoodIn wsX7_restore (va_wsS RX7 46 yX7_isBetween wsX7_isBetween) := goodIn_app (goodIn_of _ (by decide +kernel)) ggX7_restore_X7_isBetween
set_option maxRecDepth 20000 in
theorem ggX7_restore_X7_slotOf : GoodIn wsX7_restore wsX7_slotOf := goodIn_r _ [17, 18, 19, 68, 69, 70, 71, 72, 73, 74] (by decide +kernel) (by decide +kernel)
set_option maxRecDepth 20000 in
theorem gX7_restore_X7_slotOf : GoodIn wsX7_restore (wsV RX7 308 RX7 yX7_slotOf wsX7_slotOf) := goodIn_app (goodIn_of _ (by decide +kernel)) ggX7_restore_X7_slotOf
set_option maxRecDepth 20000 in
theorem ggX7_restore_X2_copyFrom : GoodIn wsX7_restore wsX2_copyFrom := goodIn_r _ [24, 25, 26, 27, 28, 29, 30, 31, 32, 33, 34, 35, 36, 37, 38, 39, 40, 41, 42, 43, 44, 45, 46, 47, 48, 49, 50, 51, 52, 53, 54, 55, 56, 57, 58, 59, 75, 76, 77, 78, 79, 80, 81, 82, 83, 84, 85, 86, 87, 88, 89, 90, 91, 92, 93] (by decide +kernel) (by decide +kernel)
set_option maxRecDepth 20000 in
theorem gX7_restore_X2_copyFrom : GoodIn wsX7_restore (wsV RX7 79 RX2 yX2_copyFrom wsX2_copyFrom) := goodIn_app (goodIn_of _ (by decide +kernel)) ggX7_restore_X2_copyFrom
set_option maxRecDepth 20000 in
theorem ggX7_restore_X1_forget : GoodIn wsX7_restore wsX1_forget := goodIn_r _ [64, 65, 94, 95, 96] (by decide +kernel) (by decide +kernel)
set_option maxRecDepth 20000 in
theorem gX7_restore_X1_forget : GoodIn wsX7_restore (wsV RX7 83 RX1 yX1_forget wsX1_forget) := goodIn_app (goodIn_of _ (by decide +kernel)) ggX7_restore_X1_forget
theorem dX7_restore_0 : decode cX7_restore 0 = .ok (.iload_n 1, 1) := by decide +kernel
theorem dX7_restore_1 : decode cX7_restore 1 = .ok (.iconst 0, 1) := by decide +kernel
theorem dX7_restore_2 : decode cX7_restore 2 = .ok (.iconst 1, 1) := by decide +kernel
theorem dX7_restore_3 : decode cX7_restore 3 = .ok (.invokestatic 46, 3) := by decide +kernel
theorem dX7_restore_6 : decode cX7_restore 6 = .ok (.ifCond .ne 14, 3) := by decide +kernel
theorem dX7_restore_9 : decode cX7_restore 9 = .ok (.new 113, 3) := by decide +kernel
theorem dX7_restore_12 : decode cX7_restore 12 = .ok (.dup, 1) := by decide +kernel
theorem dX7_restore_13 : decode cX7_restore 13 = .ok (.ldc_w 306, 3) := by decide +kernel
theorem dX7_restore_16 : decode cX7_restore 16 = .ok (.invokespecial 117, 3) := by decide +kernel
theorem dX7_restore_19 : decode cX7_restore 19 = .ok (.athrow, 1) := by decide +kernel
theorem dX7_restore_20 : decode cX7_restore 20 = .ok (.aload_n 0, 1) := by decide +kernel
theorem dX7_restore_21 : decode cX7_restore 21 = .ok (.iload_n 1, 1) := by decide +kernel
theorem dX7_restore_22 : decode cX7_restore 22 = .ok (.invokevirtual 308, 3) := by decide +kernel
theorem dX7_restore_25 : decode cX7_restore 25 = .ok (.astore_n 2, 1) := by decide +kernel
theorem dX7_restore_26 : decode cX7_restore 26 = .ok (.aload_n 2, 1) := by decide +kernel
theorem dX7_restore_27 : decode cX7_restore 27 = .ok (.getfield 86, 3) := by decide +kernel
theorem dX7_restore_30 : decode cX7_restore 30 = .ok (.ifCond .ne 14, 3) := by decide +kernel
theorem dX7_restore_33 : decode cX7_restore 33 = .ok (.new 61, 3) := by decide +kernel
theorem dX7_restore_36 : decode cX7_restore 36 = .ok (.dup, 1) := by decide +kernel
theorem dX7_restore_37 : decode cX7_restore 37 = .ok (.ldc_w 315, 3) := by decide +kernel
theorem dX7_restore_40 : decode cX7_restore 40 = .ok (.invokespecial 65, 3) := by decide +kernel
theorem dX7_restore_43 : decode cX7_restore 43 = .ok (.athrow, 1) := by decide +kernel
theorem dX7_restore_44 : decode cX7_restore 44 = .ok (.aload_n 0, 1) := by decide +kernel
theorem dX7_restore_45 : decode cX7_restore 45 = .ok (.getfield 19, 3) := by decide +kernel
theorem dX7_restore_48 : decode cX7_restore 48 = .ok (.aload_n 2, 1) := by decide +kernel
theorem dX7_restore_49 : decode cX7_restore 49 = .ok (.getfield 312, 3) := by decide +kernel
theorem dX7_restore_52 : decode cX7_restore 52 = .ok (.invokevirtual 79, 3) := by decide +kernel
theorem dX7_restore_55 : decode cX7_restore 55 = .ok (.aload_n 0, 1) := by decide +kernel
theorem dX7_restore_56 : decode cX7_restore 56 = .ok (.getfield 26, 3) := by decide +kernel
theorem dX7_restore_59 : decode cX7_restore 59 = .ok (.invokevirtual 83, 3) := by decide +kernel
theorem dX7_restore_62 : decode cX7_restore 62 = .ok (.aload_n 0, 1) := by decide +kernel
theorem dX7_restore_63 : decode cX7_restore 63 = .ok (.getfield 19, 3) := by decide +kernel
theorem dX7_restore_66 : decode cX7_restore 66 = .ok (.getfield 271, 3) := by decide +kernel
theorem dX7_restore_69 : decode cX7_restore 69 = .ok (.ireturn, 1) := by decide +kernel
theorem dX7_slotOf_0 : decode cX7_slotOf 0 = .ok (.iload_n 1, 1) := by decide +kernel
theorem dX7_slotOf_1 : decode cX7_slotOf 1 = .ok (.ifCond .ne 10, 3) := by decide +kernel
theorem dX7_slotOf_4 : decode cX7_slotOf 4 = .ok (.aload_n 0, 1) := by decide +kernel
theorem dX7_slotOf_5 : decode cX7_slotOf 5 = .ok (.getfield 33, 3) := by decide +kernel
theorem dX7_slotOf_8 : decode cX7_slotOf 8 = .ok (.goto 7, 3) := by decide +kernel
theorem dX7_slotOf_11 : decode cX7_slotOf 11 = .ok (.aload_n 0, 1) := by decide +kernel
theorem dX7_slotOf_12 : decode cX7_slotOf 12 = .ok (.getfield 37, 3) := by decide +kernel
theorem dX7_slotOf_15 : decode cX7_slotOf 15 = .ok (.areturn, 1) := by decide +kernel
set_option maxRecDepth 20000 in
theorem ggX7_settle_X1_keepPrepared : GoodIn wsX7_settle wsX1_keepPrepared := goodIn_r _ [12, 13, 14, 15, 16, 17, 18, 26, 27, 28] (by decide +kernel) (by decide +kernel)
set_option maxRecDepth 20000 in
theorem gX7_settle_X1_keepPrepared : GoodIn wsX7_settle (wsV RX7 323 RX1 yX1_keepPrepared wsX1_keepPrepared) := goodIn_app (goodIn_of _ (by decide +kernel)) ggX7_settle_X1_keepPrepared
theorem dX7_settle_0 : decode cX7_settle 0 = .ok (.iload_n 1, 1) := by decide +kernel
theorem dX7_settle_1 : decode cX7_settle 1 = .ok (.iconst (-1), 1) := by decide +kernel
theorem dX7_settle_2 : decode cX7_settle 2 = .ok (.if_icmp .ne 14, 3) := by decide +kernel
theorem dX7_settle_5 : decode cX7_settle 5 = .ok (.new 113, 3) := by decide +kernel
theorem dX7_settle_8 : decode cX7_settle 8 = .ok (.dup, 1) := by decide +kernel
theorem dX7_settle_9 : decode cX7_settle 9 = .ok (.ldc_w 317, 3) := by decide +kernel
theorem dX7_settle_12 : decode cX7_settle 12 = .ok (.invokespecial 117, 3) := by decide +kernel
theorem dX7_settle_15 : decode cX7_settle 15 = .ok (.athrow, 1) := by decide +kernel
theorem dX7_settle_16 : decode cX7_settle 16 = .ok (.iload_n 1, 1) := by decide +kernel
theorem dX7_settle_17 : decode cX7_settle 17 = .ok (.bipush (-2), 2) := by decide +kernel
theorem dX7_settle_19 : decode cX7_settle 19 = .ok (.if_icmp .ne 14, 3) := by decide +kernel
theorem dX7_settle_22 : decode cX7_settle 22 = .ok (.new 50, 3) := by decide +kernel
theorem dX7_settle_25 : decode cX7_settle 25 = .ok (.dup, 1) := by decide +kernel
theorem dX7_settle_26 : decode cX7_settle 26 = .ok (.ldc_w 319, 3) := by decide +kernel
theorem dX7_settle_29 : decode cX7_settle 29 = .ok (.invokespecial 54, 3) := by decide +kernel
theorem dX7_settle_32 : decode cX7_settle 32 = .ok (.athrow, 1) := by decide +kernel
theorem dX7_settle_33 : decode cX7_settle 33 = .ok (.iload_n 1, 1) := by decide +kernel
theorem dX7_settle_34 : decode cX7_settle 34 = .ok (.bipush (-3), 2) := by decide +kernel
theorem dX7_settle_36 : decode cX7_settle 36 = .ok (.if_icmp .ne 14, 3) := by decide +kernel
theorem dX7_settle_39 : decode cX7_settle 39 = .ok (.new 61, 3) := by decide +kernel
theorem dX7_settle_42 : decode cX7_settle 42 = .ok (.dup, 1) := by decide +kernel
theorem dX7_settle_43 : decode cX7_settle 43 = .ok (.ldc_w 321, 3) := by decide +kernel
theorem dX7_settle_46 : decode cX7_settle 46 = .ok (.invokespecial 65, 3) := by decide +kernel
theorem dX7_settle_49 : decode cX7_settle 49 = .ok (.athrow, 1) := by decide +kernel
theorem dX7_settle_50 : decode cX7_settle 50 = .ok (.aload_n 0, 1) := by decide +kernel
theorem dX7_settle_51 : decode cX7_settle 51 = .ok (.getfield 26, 3) := by decide +kernel
theorem dX7_settle_54 : decode cX7_settle 54 = .ok (.invokevirtual 323, 3) := by decide +kernel
theorem dX7_settle_57 : decode cX7_settle 57 = .ok (.iload_n 1, 1) := by decide +kernel
theorem dX7_settle_58 : decode cX7_settle 58 = .ok (.ireturn, 1) := by decide +kernel
theorem dX7_isBetween_0 : decode cX7_isBetween 0 = .ok (.iload_n 0, 1) := by decide +kernel
theorem dX7_isBetween_1 : decode cX7_isBetween 1 = .ok (.iload_n 1, 1) := by decide +kernel
theorem dX7_isBetween_2 : decode cX7_isBetween 2 = .ok (.if_icmp .lt 12, 3) := by decide +kernel
theorem dX7_isBetween_5 : decode cX7_isBetween 5 = .ok (.iload_n 0, 1) := by decide +kernel
theorem dX7_isBetween_6 : decode cX7_isBetween 6 = .ok (.iload_n 2, 1) := by decide +kernel
theorem dX7_isBetween_7 : decode cX7_isBetween 7 = .ok (.if_icmp .gt 7, 3) := by decide +kernel
theorem dX7_isBetween_10 : decode cX7_isBetween 10 = .ok (.iconst 1, 1) := by decide +kernel
theorem dX7_isBetween_11 : decode cX7_isBetween 11 = .ok (.goto 4, 3) := by decide +kernel
theorem dX7_isBetween_14 : decode cX7_isBetween 14 = .ok (.iconst 0, 1) := by decide +kernel
theorem dX7_isBetween_15 : decode cX7_isBetween 15 = .ok (.ireturn, 1) := by decide +kernel
theorem dX7_withBit_0 : decode cX7_withBit 0 = .ok (.iload_n 2, 1) := by decide +kernel
theorem dX7_withBit_1 : decode cX7_withBit 1 = .ok (.ifCond .eq 11, 3) := by decide +kernel
theorem dX7_withBit_4 : decode cX7_withBit 4 = .ok (.iload_n 0, 1) := by decide +kernel
theorem dX7_withBit_5 : decode cX7_withBit 5 = .ok (.iconst 1, 1) := by decide +kernel
theorem dX7_withBit_6 : decode cX7_withBit 6 = .ok (.iload_n 1, 1) := by decide +kernel
theorem dX7_withBit_7 : decode cX7_withBit 7 = .ok (.ishl, 1) := by decide +kernel
theorem dX7_withBit_8 : decode cX7_withBit 8 = .ok (.ior, 1) := by decide +kernel
theorem dX7_withBit_9 : decode cX7_withBit 9 = .ok (.goto 10, 3) := by decide +kernel
theorem dX7_withBit_12 : decode cX7_withBit 12 = .ok (.iload_n 0, 1) := by decide +kernel
theorem dX7_withBit_13 : decode cX7_withBit 13 = .ok (.iconst 1, 1) := by decide +kernel
theorem dX7_withBit_14 : decode cX7_withBit 14 = .ok (.iload_n 1, 1) := by decide +kernel
theorem dX7_withBit_15 : decode cX7_withBit 15 = .ok (.ishl, 1) := by decide +kernel
theorem dX7_withBit_16 : decode cX7_withBit 16 = .ok (.iconst (-1), 1) := by decide +kernel
theorem dX7_withBit_17 : decode cX7_withBit 17 = .ok (.ixor, 1) := by decide +kernel
theorem dX7_withBit_18 : decode cX7_withBit 18 = .ok (.iand, 1) := by decide +kernel
theorem dX7_withBit_19 : decode cX7_withBit 19 = .ok (.ireturn, 1) := by decide +kernel
theorem dX7_hasBit_0 : decode cX7_hasBit 0 = .ok (.iload_n 0, 1) := by decide +kernel
theorem dX7_hasBit_1 : decode cX7_hasBit 1 = .ok (.iload_n 1, 1) := by decide +kernel
theorem dX7_hasBit_2 : decode cX7_hasBit 2 = .ok (.ishr, 1) := by decide +kernel
theorem dX7_hasBit_3 : decode cX7_hasBit 3 = .ok (.iconst 1, 1) := by decide +kernel
theorem dX7_hasBit_4 : decode cX7_hasBit 4 = .ok (.iand, 1) := by decide +kernel
theorem dX7_hasBit_5 : decode cX7_hasBit 5 = .ok (.iconst 1, 1) := by decide +kernel
theorem dX7_hasBit_6 : decode cX7_hasBit 6 = .ok (.if_icmp .ne 7, 3) := by decide +kernel
theorem dX7_hasBit_9 : decode cX7_hasBit 9 = .ok (.iconst 1, 1) := by decide +kernel
theorem dX7_hasBit_10 : decode cX7_hasBit 10 = .ok (.goto 4, 3) := by decide +kernel
theorem dX7_hasBit_13 : decode cX7_hasBit 13 = .ok (.iconst 0, 1) := by decide +kernel
theorem dX7_hasBit_14 : decode cX7_hasBit 14 = .ok (.ireturn, 1) := by decide +kernel
theorem dJ5_init_d00df_0 : decode cJ5_init_d00df 0 = .ok (.aload_n 0, 1) := by decide +kernel
theorem dJ5_init_d00df_1 : decode cJ5_init_d00df 1 = .ok (.invokespecial 3, 3) := by decide +kernel
theorem dJ5_init_d00df_4 : decode cJ5_init_d00df 4 = .ok (.getstatic 18, 3) := by decide +kernel
theorem dJ5_init_d00df_7 : decode cJ5_init_d00df 7 = .ok (.ifCond .eq 18, 3) := by decide +kernel
theorem dJ5_init_d00df_10 : decode cJ5_init_d00df 10 = .ok (.aload_n 0, 1) := by decide +kernel
theorem dJ5_init_d00df_11 : decode cJ5_init_d00df 11 = .ok (.iload_n 1, 1) := by decide +kernel
theorem dJ5_init_d00df_12 : decode cJ5_init_d00df 12 = .ok (.newarray .byte, 2) := by decide +kernel
theorem dJ5_init_d00df_14 : decode cJ5_init_d00df 14 = .ok (.putfield 15, 3) := by decide +kernel
theorem dJ5_init_d00df_17 : decode cJ5_init_d00df 17 = .ok (.aload_n 0, 1) := by decide +kernel
theorem dJ5_init_d00df_18 : decode cJ5_init_d00df 18 = .ok (.iconst 0, 1) := by decide +kernel
theorem dJ5_init_d00df_19 : decode cJ5_init_d00df 19 = .ok (.putfield 22, 3) := by decide +kernel
theorem dJ5_init_d00df_22 : decode cJ5_init_d00df 22 = .ok (.goto 16, 3) := by decide +kernel
theorem dJ5_init_d00df_38 : decode cJ5_init_d00df 38 = .ok (.return_, 1) := by decide +kernel
theorem dJ5_length_8abf5_0 : decode cJ5_length_8abf5 0 = .ok (.aload_n 0, 1) := by decide +kernel
theorem dJ5_length_8abf5_1 : decode cJ5_length_8abf5 1 = .ok (.getfield 79, 3) := by decide +kernel
theorem dJ5_length_8abf5_4 : decode cJ5_length_8abf5 4 = .ok (.ireturn, 1) := by decide +kernel
set_option maxRecDepth 20000 in
theorem ggJ5_ensureCapacityInternal_d00df_J5_newCapacity_0f7a4 : GoodIn wsJ5_ensureCapacityInternal_d00df wsJ5_newCapacity_0f7a4 := goodIn_r _ [8, 1, 2, 9, 10, 11, 12, 13, 14, 15, 16, 17, 18, 19, 20, 21, 40, 41, 42, 43] (by decide +kernel) (by decide +kernel)
set_option maxRecDepth 20000 in
theorem gJ5_ensureCapacityInternal_d00df_J5_newCapacity_0f7a4_u104J4 : GoodIn wsJ5_ensureCapacityInternal_d00df (va_wsU RJ5 104 RJ4 "java/lang/AbstractStringBuilder" ⟨"java/lang/AbstractStringBuilder", "newCapacity", "(I)I"⟩ yJ5_newCapacity_0f7a4 wsJ5_newCapacity_0f7a4) := goodIn_app (goodIn_of _ (by decide +kernel)) ggJ5_ensureCapacityInternal_d00df_J5_newCapacity_0f7a4
set_option maxRecDepth 20000 in
theorem ggJ5_ensureCapacityInternal_d00df_J7_copyOf_9075b : GoodIn wsJ5_ensureCapacityInternal_d00df wsJ7_copyOf_9075b := goodIn_r _ [25, 26, 27, 28, 29, 30, 31, 32, 33, 34, 16, 35, 36, 37, 38, 39] (by decide +kernel) (by decide +kernel)
set_option maxRecDepth 20000 in
theorem gJ5_ensureCapacityInternal_d00df_J7_copyOf_9075b : GoodIn wsJ5_ensureCapacityInternal_d00df (va_wsS RJ5 108 yJ7_copyOf_9075b wsJ7_copyOf_9075b) := goodIn_app (goodIn_of _ (by decide +kernel)) ggJ5_ensureCapacityInternal_d00df_J7_copyOf_9075b
theorem dJ5_ensureCapacityInternal_d00df_0 : decode cJ5_ensureCapacityInternal_d00df 0 = .ok (.aload_n 0, 1) := by decide +kernel
theorem dJ5_ensureCapacityInternal_d00df_1 : decode cJ5_ensureCapacityInternal_d00df 1 = .ok (.getfield 15, 3) := by decide +kernel
theorem dJ5_ensureCapacityInternal_d00df_4 : decode cJ5_ensureCapacityInternal_d00df 4 = .ok (.arraylength, 1) := by decide +kernel
theorem dJ5_ensureCapacityInternal_d00df_5 : decode cJ5_ensureCapacityInternal_d00df 5 = .ok (.aload_n 0, 1) := by decide +kernel
theorem dJ5_ensureCapacityInternal_d00df_6 : decode cJ5_ensureCapacityInternal_d00df 6 = .ok (.getfield 22, 3) := by decide +kernel
theorem dJ5_ensureCapacityInternal_d00df_9 : decode cJ5_ensureCapacityInternal_d00df 9 = .ok (.ishr, 1) := by decide +kernel
theorem dJ5_ensureCapacityInternal_d00df_10 : decode cJ5_ensureCapacityInternal_d00df 10 = .ok (.istore_n 2, 1) := by decide +kernel
theorem dJ5_ensureCapacityInternal_d00df_11 : decode cJ5_ensureCapacityInternal_d00df 11 = .ok (.iload_n 1, 1) := by decide +kernel
theorem dJ5_ensureCapacityInternal_d00df_12 : decode cJ5_ensureCapacityInternal_d00df 12 = .ok (.iload_n 2, 1) := by decide +kernel
theorem dJ5_ensureCapacityInternal_d00df_13 : decode cJ5_ensureCapacityInternal_d00df 13 = .ok (.isub, 1) := by decide +kernel
theorem dJ5_ensureCapacityInternal_d00df_14 : decode cJ5_ensureCapacityInternal_d00df 14 = .ok (.ifCond .le 24, 3) := by decide +kernel
theorem dJ5_ensureCapacityInternal_d00df_17 : decode cJ5_ensureCapacityInternal_d00df 17 = .ok (.aload_n 0, 1) := by decide +kernel
theorem dJ5_ensureCapacityInternal_d00df_18 : decode cJ5_ensureCapacityInternal_d00df 18 = .ok (.aload_n 0, 1) := by decide +kernel
theorem dJ5_ensureCapacityInternal_d00df_19 : decode cJ5_ensureCapacityInternal_d00df 19 = .ok (.getfield 15, 3) := by decide +kernel
theorem dJ5_ensureCapacityInternal_d00df_22 : decode cJ5_ensureCapacityInternal_d00df 22 = .ok (.aload_n 0, 1) := by decide +kernel
theorem dJ5_ensureCapacityInternal_d00df_23 : decode cJ5_ensureCapacityInternal_d00df 23 = .ok (.iload_n 1, 1) := by decide +kernel
theorem dJ5_ensureCapacityInternal_d00df_24 : decode cJ5_ensureCapacityInternal_d00df 24 = .ok (.invokevirtual 104, 3) := by decide +kernel
theorem dJ5_ensureCapacityInternal_d00df_27 : decode cJ5_ensureCapacityInternal_d00df 27 = .ok (.aload_n 0, 1) := by decide +kernel
theorem dJ5_ensureCapacityInternal_d00df_28 : decode cJ5_ensureCapacityInternal_d00df 28 = .ok (.getfield 22, 3) := by decide +kernel
theorem dJ5_ensureCapacityInternal_d00df_31 : decode cJ5_ensureCapacityInternal_d00df 31 = .ok (.ishl, 1) := by decide +kernel
theorem dJ5_ensureCapacityInternal_d00df_32 : decode cJ5_ensureCapacityInternal_d00df 32 = .ok (.invokestatic 108, 3) := by decide +kernel
theorem dJ5_ensureCapacityInternal_d00df_35 : decode cJ5_ensureCapacityInternal_d00df 35 = .ok (.putfield 15, 3) := by decide +kernel
theorem dJ5_ensureCapacityInternal_d00df_38 : decode cJ5_ensureCapacityInternal_d00df 38 = .ok (.return_, 1) := by decide +kernel
set_option maxRecDepth 20000 in
theorem ggJ5_newCapacity_0f7a4_J8_newLength_cabcc : GoodIn wsJ5_newCapacity_0f7a4 wsJ8_newLength_cabcc := goodIn_r _ [7, 8, 9, 10, 11, 12, 13, 14, 6, 15] (by decide +kernel) (by decide +kernel)
set_option maxRecDepth 20000 in
theorem gJ5_newCapacity_0f7a4_J8_newLength_cabcc : GoodIn wsJ5_newCapacity_0f7a4 (va_wsS RJ5 114 yJ8_newLength_cabcc wsJ8_newLength_cabcc) := goodIn_app (goodIn_of _ (by decide +kernel)) ggJ5_newCapacity_0f7a4_J8_newLength_cabcc
theorem dJ5_newCapacity_0f7a4_0 : decode cJ5_newCapacity_0f7a4 0 = .ok (.aload_n 0, 1) := by decide +kernel
theorem dJ5_newCapacity_0f7a4_1 : decode cJ5_newCapacity_0f7a4 1 = .ok (.getfield 15, 3) := by decide +kernel
theorem dJ5_newCapacity_0f7a4_4 : decode cJ5_newCapacity_0f7a4 4 = .ok (.arraylength, 1) := by decide +kernel
theorem dJ5_newCapacity_0f7a4_5 : decode cJ5_newCapacity_0f7a4 5 = .ok (.istore_n 2, 1) := by decide +kernel
theorem dJ5_newCapacity_0f7a4_6 : decode cJ5_newCapacity_0f7a4 6 = .ok (.iload_n 1, 1) := by decide +kernel
theorem dJ5_newCapacity_0f7a4_7 : decode cJ5_newCapacity_0f7a4 7 = .ok (.aload_n 0, 1) := by decide +kernel
theorem dJ5_newCapacity_0f7a4_8 : decode cJ5_newCapacity_0f7a4 8 = .ok (.getfield 22, 3) := by decide +kernel
theorem dJ5_newCapacity_0f7a4_11 : decode cJ5_newCapacity_0f7a4 11 = .ok (.ishl, 1) := by decide +kernel
theorem dJ5_newCapacity_0f7a4_12 : decode cJ5_newCapacity_0f7a4 12 = .ok (.istore_n 3, 1) := by decide +kernel
theorem dJ5_newCapacity_0f7a4_13 : decode cJ5_newCapacity_0f7a4 13 = .ok (.iload_n 3, 1) := by decide +kernel
theorem dJ5_newCapacity_0f7a4_14 : decode cJ5_newCapacity_0f7a4 14 = .ok (.iload_n 2, 1) := by decide +kernel
theorem dJ5_newCapacity_0f7a4_15 : decode cJ5_newCapacity_0f7a4 15 = .ok (.isub, 1) := by decide +kernel
theorem dJ5_newCapacity_0f7a4_16 : decode cJ5_newCapacity_0f7a4 16 = .ok (.istore 4, 2) := by decide +kernel
theorem dJ5_newCapacity_0f7a4_18 : decode cJ5_newCapacity_0f7a4 18 = .ok (.iload_n 2, 1) := by decide +kernel
theorem dJ5_newCapacity_0f7a4_19 : decode cJ5_newCapacity_0f7a4 19 = .ok (.iload 4, 2) := by decide +kernel
theorem dJ5_newCapacity_0f7a4_21 : decode cJ5_newCapacity_0f7a4 21 = .ok (.iload_n 2, 1) := by decide +kernel
theorem dJ5_newCapacity_0f7a4_22 : decode cJ5_newCapacity_0f7a4 22 = .ok (.iconst 2, 1) := by decide +kernel
theorem dJ5_newCapacity_0f7a4_23 : decode cJ5_newCapacity_0f7a4 23 = .ok (.aload_n 0, 1) := by decide +kernel
theorem dJ5_newCapacity_0f7a4_24 : decode cJ5_newCapacity_0f7a4 24 = .ok (.getfield 22, 3) := by decide +kernel
theorem dJ5_newCapacity_0f7a4_27 : decode cJ5_newCapacity_0f7a4 27 = .ok (.ishl, 1) := by decide +kernel
theorem dJ5_newCapacity_0f7a4_28 : decode cJ5_newCapacity_0f7a4 28 = .ok (.iadd, 1) := by decide +kernel
theorem dJ5_newCapacity_0f7a4_29 : decode cJ5_newCapacity_0f7a4 29 = .ok (.invokestatic 114, 3) := by decide +kernel
theorem dJ5_newCapacity_0f7a4_32 : decode cJ5_newCapacity_0f7a4 32 = .ok (.istore 5, 2) := by decide +kernel
theorem dJ5_newCapacity_0f7a4_34 : decode cJ5_newCapacity_0f7a4 34 = .ok (.iload 5, 2) := by decide +kernel
theorem dJ5_newCapacity_0f7a4_36 : decode cJ5_newCapacity_0f7a4 36 = .ok (.ldc 39, 2) := by decide +kernel
theorem dJ5_newCapacity_0f7a4_38 : decode cJ5_newCapacity_0f7a4 38 = .ok (.if_icmp .ne 13, 3) := by decide +kernel
theorem dJ5_newCapacity_0f7a4_51 : decode cJ5_newCapacity_0f7a4 51 = .ok (.iload 5, 2) := by decide +kernel
theorem dJ5_newCapacity_0f7a4_53 : decode cJ5_newCapacity_0f7a4 53 = .ok (.aload_n 0, 1) := by decide +kernel
theorem dJ5_newCapacity_0f7a4_54 : decode cJ5_newCapacity_0f7a4 54 = .ok (.getfield 22, 3) := by decide +kernel
theorem dJ5_newCapacity_0f7a4_57 : decode cJ5_newCapacity_0f7a4 57 = .ok (.ishr, 1) := by decide +kernel
theorem dJ5_newCapacity_0f7a4_58 : decode cJ5_newCapacity_0f7a4 58 = .ok (.ireturn, 1) := by decide +kernel
set_option maxRecDepth 20000 in
theorem ggJ5_charAt_5068e_J0_checkIndex_df160 : GoodIn wsJ5_charAt_5068e wsJ0_checkIndex_df160 := goodIn_r _ [11, 12, 13, 14, 15, 16] (by decide +kernel) (by decide +kernel)
set_option maxRecDepth 20000 in
theorem gJ5_charAt_5068e_J0_checkIndex_df160 : GoodIn wsJ5_charAt_5068e (va_wsS RJ5 144 yJ0_checkIndex_df160 wsJ0_checkIndex_df160) := goodIn_app (goodIn_of _ (by decide +kernel)) ggJ5_charAt_5068e_J0_checkIndex_df160
theorem dJ5_charAt_5068e_0 : decode cJ5_charAt_5068e 0 = .ok (.aload_n 0, 1) := by decide +kernel
theorem dJ5_charAt_5068e_1 : decode cJ5_charAt_5068e 1 = .ok (.getfield 22, 3) := by decide +kernel
theorem dJ5_charAt_5068e_4 : decode cJ5_charAt_5068e 4 = .ok (.istore_n 2, 1) := by decide +kernel
theorem dJ5_charAt_5068e_5 : decode cJ5_charAt_5068e 5 = .ok (.aload_n 0, 1) := by decide +kernel
theorem dJ5_charAt_5068e_6 : decode cJ5_charAt_5068e 6 = .ok (.getfield 15, 3) := by decide +kernel
theorem dJ5_charAt_5068e_9 : decode cJ5_charAt_5068e 9 = .ok (.astore_n 3, 1) := by decide +kernel
theorem dJ5_charAt_5068e_10 : decode cJ5_charAt_5068e 10 = .ok (.aload_n 0, 1) := by decide +kernel
theorem dJ5_charAt_5068e_11 : decode cJ5_charAt_5068e 11 = .ok (.getfield 79, 3) := by decide +kernel
theorem dJ5_charAt_5068e_14 : decode cJ5_charAt_5068e 14 = .ok (.aload_n 3, 1) := by decide +kernel
theorem dJ5_charAt_5068e_15 : decode cJ5_charAt_5068e 15 = .ok (.arraylength, 1) := by decide +kernel
theorem dJ5_charAt_5068e_16 : decode cJ5_charAt_5068e 16 = .ok (.iload_n 2, 1) := by decide +kernel
theorem dJ5_charAt_5068e_17 : decode cJ5_charAt_5068e 17 = .ok (.ishr, 1) := by decide +kernel
theorem dJ5_charAt_5068e_18 : decode cJ5_charAt_5068e 18 = .ok (.invokestatic 138, 3) := by decide +kernel
theorem dJ5_charAt_5068e_21 : decode cJ5_charAt_5068e 21 = .ok (.istore 4, 2) := by decide +kernel
theorem dJ5_charAt_5068e_23 : decode cJ5_charAt_5068e 23 = .ok (.iload_n 1, 1) := by decide +kernel
theorem dJ5_charAt_5068e_24 : decode cJ5_charAt_5068e 24 = .ok (.iload 4, 2) := by decide +kernel
theorem dJ5_charAt_5068e_26 : decode cJ5_charAt_5068e 26 = .ok (.invokestatic 144, 3) := by decide +kernel
theorem dJ5_charAt_5068e_29 : decode cJ5_charAt_5068e 29 = .ok (.iload_n 2, 1) := by decide +kernel
theorem dJ5_charAt_5068e_30 : decode cJ5_charAt_5068e 30 = .ok (.ifCond .ne 12, 3) := by decide +kernel
theorem dJ5_charAt_5068e_33 : decode cJ5_charAt_5068e 33 = .ok (.aload_n 3, 1) := by decide +kernel
theorem dJ5_charAt_5068e_34 : decode cJ5_charAt_5068e 34 = .ok (.iload_n 1, 1) := by decide +kernel
theorem dJ5_charAt_5068e_35 : decode cJ5_charAt_5068e 35 = .ok (.baload, 1) := by decide +kernel
theorem dJ5_charAt_5068e_36 : decode cJ5_charAt_5068e 36 = .ok (.sipush 255, 3) := by decide +kernel
theorem dJ5_charAt_5068e_39 : decode cJ5_charAt_5068e 39 = .ok (.iand, 1) := by decide +kernel
theorem dJ5_charAt_5068e_40 : decode cJ5_charAt_5068e 40 = .ok (.i2c, 1) := by decide +kernel
theorem dJ5_charAt_5068e_41 : decode cJ5_charAt_5068e 41 = .ok (.ireturn, 1) := by decide +kernel
set_option maxRecDepth 20000 in
theorem ggJ5_append_cf1ce_J0_length_8abf5 : GoodIn wsJ5_append_cf1ce wsJ0_length_8abf5 := goodIn_r _ [85, 86, 87, 88, 89, 70, 90, 91, 92] (by decide +kernel) (by decide +kernel)
set_option maxRecDepth 20000 in
theorem gJ5_append_cf1ce_J0_length_8abf5 : GoodIn wsJ5_append_cf1ce (wsV RJ5 32 RJ0 yJ0_length_8abf5 wsJ0_length_8abf5) := goodIn_app (goodIn_of _ (by decide +kernel)) ggJ5_append_cf1ce_J0_length_8abf5
set_option maxRecDepth 20000 in
theorem ggJ5_append_cf1ce_J5_ensureCapacityInternal_d00df : GoodIn wsJ5_append_cf1ce wsJ5_ensureCapacityInternal_d00df := goodIn_r _ [13, 8, 14, 15, 16, 17, 18, 6, 19, 20, 21, 22, 23, 24, 25, 26, 27, 28, 29, 30, 31, 32, 33, 34, 35, 36, 37, 38, 39, 40, 41, 42, 43, 44, 45, 46, 47, 48, 49, 50, 138, 139, 140, 141] (by decide +kernel) (by decide +kernel)
set_option maxRecDepth 20000 in
theorem gJ5_append_cf1ce_J5_ensureCapacityInternal_d00df_u100J4 : GoodIn wsJ5_append_cf1ce (va_wsU RJ5 100 RJ4 "java/lang/AbstractStringBuilder" ⟨"java/lang/AbstractStringBuilder", "ensureCapacityInternal", "(I)V"⟩ yJ5_ensureCapacityInternal_d00df wsJ5_ensureCapacityInternal_d00df) := goodIn_app (goodIn_of _ (by decide +kernel)) ggJ5_append_cf1ce_J5_ensureCapacityInternal_d00df
set_option maxRecDepth 20000 in
theorem ggJ5_append_cf1ce_J5_putStringAt_47b60 : GoodIn wsJ5_append_cf1ce wsJ5_putStringAt_47b60 := goodIn_r _ [97, 8, 14, 98, 99, 100, 101, 6, 102, 56, 103, 88, 89, 70, 90, 91, 92, 104, 105, 106, 107, 108, 1, 51, 52, 53, 54, 55, 109, 110, 59, 111, 43, 112, 113, 114, 115, 116, 117, 118, 119, 120, 121, 122, 123, 124, 125, 65, 66, 67, 126, 127, 128, 72, 129, 130, 75, 131, 77, 78, 79, 61, 80, 81, 132, 133, 134, 135, 86, 136, 48, 49, 50, 87, 137, 138, 139, 140, 141] (by decide +kernel) (by decide +kernel)
set_option maxRecDepth 20000 in
theorem gJ5_append_cf1ce_J5_putStringAt_47b60_u208J4 : GoodIn wsJ5_append_cf1ce (va_wsU RJ5 208 RJ4 "java/lang/AbstractStringBuilder" ⟨"java/lang/AbstractStringBuilder", "putStringAt", "(ILjava/lang/String;)V"⟩ yJ5_putStringAt_47b60 wsJ5_putStringAt_47b60) := goodIn_app (goodIn_of _ (by decide +kernel)) ggJ5_append_cf1ce_J5_putStringAt_47b60
theorem dJ5_append_cf1ce_0 : decode cJ5_append_cf1ce 0 = .ok (.aload_n 1, 1) := by decide +kernel
theorem dJ5_append_cf1ce_1 : decode cJ5_append_cf1ce 1 = .ok (.ifnonnull 8, 3) := by decide +kernel
theorem dJ5_append_cf1ce_9 : decode cJ5_append_cf1ce 9 = .ok (.aload_n 1, 1) := by decide +kernel
theorem dJ5_append_cf1ce_10 : decode cJ5_append_cf1ce 10 = .ok (.invokevirtual 32, 3) := by decide +kernel
theorem dJ5_append_cf1ce_13 : decode cJ5_append_cf1ce 13 = .ok (.istore_n 2, 1) := by decide +kernel
theorem dJ5_append_cf1ce_14 : decode cJ5_append_cf1ce 14 = .ok (.aload_n 0, 1) := by decide +kernel
theorem dJ5_append_cf1ce_15 : decode cJ5_append_cf1ce 15 = .ok (.aload_n 0, 1) := by decide +kernel
theorem dJ5_append_cf1ce_16 : decode cJ5_append_cf1ce 16 = .ok (.getfield 79, 3) := by decide +kernel
theorem dJ5_append_cf1ce_19 : decode cJ5_append_cf1ce 19 = .ok (.iload_n 2, 1) := by decide +kernel
theorem dJ5_append_cf1ce_20 : decode cJ5_append_cf1ce 20 = .ok (.iadd, 1) := by decide +kernel
theorem dJ5_append_cf1ce_21 : decode cJ5_append_cf1ce 21 = .ok (.invokevirtual 100, 3) := by decide +kernel
theorem dJ5_append_cf1ce_24 : decode cJ5_append_cf1ce 24 = .ok (.aload_n 0, 1) := by decide +kernel
theorem dJ5_append_cf1ce_25 : decode cJ5_append_cf1ce 25 = .ok (.aload_n 0, 1) := by decide +kernel
theorem dJ5_append_cf1ce_26 : decode cJ5_append_cf1ce 26 = .ok (.getfield 79, 3) := by decide +kernel
theorem dJ5_append_cf1ce_29 : decode cJ5_append_cf1ce 29 = .ok (.aload_n 1, 1) := by decide +kernel
theorem dJ5_append_cf1ce_30 : decode cJ5_append_cf1ce 30 = .ok (.invokevirtual 208, 3) := by decide +kernel
theorem dJ5_append_cf1ce_33 : decode cJ5_append_cf1ce 33 = .ok (.aload_n 0, 1) := by decide +kernel
theorem dJ5_append_cf1ce_34 : decode cJ5_append_cf1ce 34 = .ok (.dup, 1) := by decide +kernel
theorem dJ5_append_cf1ce_35 : decode cJ5_append_cf1ce 35 = .ok (.getfield 79, 3) := by decide +kernel
theorem dJ5_append_cf1ce_38 : decode cJ5_append_cf1ce 38 = .ok (.iload_n 2, 1) := by decide +kernel
theorem dJ5_append_cf1ce_39 : decode cJ5_append_cf1ce 39 = .ok (.iadd, 1) := by decide +kernel
theorem dJ5_append_cf1ce_40 : decode cJ5_append_cf1ce 40 = .ok (.putfield 79, 3) := by decide +kernel
theorem dJ5_append_cf1ce_43 : decode cJ5_append_cf1ce 43 = .ok (.aload_n 0, 1) := by decide +kernel
theorem dJ5_append_cf1ce_44 : decode cJ5_append_cf1ce 44 = .ok (.areturn, 1) := by decide +kernel
