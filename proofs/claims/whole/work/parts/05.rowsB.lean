theorem dX6_copyFrom_23 : decode cX6_copyFrom 23 = .ok (.return_, 1) := by decide +kernel
theorem dX6_isFull_0 : decode cX6_isFull 0 = .ok (.aload_n 0, 1) := by decide +kernel
theorem dX6_isFull_1 : decode cX6_isFull 1 = .ok (.getfield 15, 3) := by decide +kernel
theorem dX6_isFull_4 : decode cX6_isFull 4 = .ok (.bipush 10, 2) := by decide +kernel
theorem dX6_isFull_6 : decode cX6_isFull 6 = .ok (.if_icmp .lt 7, 3) := by decide +kernel
theorem dX6_isFull_9 : decode cX6_isFull 9 = .ok (.iconst 1, 1) := by decide +kernel
theorem dX6_isFull_10 : decode cX6_isFull 10 = .ok (.goto 4, 3) := by decide +kernel
theorem dX6_isFull_13 : decode cX6_isFull 13 = .ok (.iconst 0, 1) := by decide +kernel
theorem dX6_isFull_14 : decode cX6_isFull 14 = .ok (.ireturn, 1) := by decide +kernel
theorem dX6_at_0 : decode cX6_at 0 = .ok (.iload_n 1, 1) := by decide +kernel
theorem dX6_at_1 : decode cX6_at 1 = .ok (.ifCond .lt 26, 3) := by decide +kernel
theorem dX6_at_4 : decode cX6_at 4 = .ok (.iload_n 1, 1) := by decide +kernel
theorem dX6_at_5 : decode cX6_at 5 = .ok (.aload_n 0, 1) := by decide +kernel
theorem dX6_at_6 : decode cX6_at 6 = .ok (.getfield 15, 3) := by decide +kernel
theorem dX6_at_9 : decode cX6_at 9 = .ok (.if_icmp .ge 18, 3) := by decide +kernel
theorem dX6_at_12 : decode cX6_at 12 = .ok (.iload_n 1, 1) := by decide +kernel
theorem dX6_at_13 : decode cX6_at 13 = .ok (.bipush 10, 2) := by decide +kernel
theorem dX6_at_15 : decode cX6_at 15 = .ok (.if_icmp .ge 12, 3) := by decide +kernel
theorem dX6_at_18 : decode cX6_at 18 = .ok (.aload_n 0, 1) := by decide +kernel
theorem dX6_at_19 : decode cX6_at 19 = .ok (.getfield 11, 3) := by decide +kernel
theorem dX6_at_22 : decode cX6_at 22 = .ok (.iload_n 1, 1) := by decide +kernel
theorem dX6_at_23 : decode cX6_at 23 = .ok (.iaload, 1) := by decide +kernel
theorem dX6_at_24 : decode cX6_at 24 = .ok (.goto 4, 3) := by decide +kernel
theorem dX6_at_27 : decode cX6_at 27 = .ok (.iconst (-1), 1) := by decide +kernel
theorem dX6_at_28 : decode cX6_at 28 = .ok (.ireturn, 1) := by decide +kernel
set_option maxRecDepth 20000 in
theorem ggX6_prisonerOf_X6_at : GoodIn wsX6_prisonerOf wsX6_at := goodIn_r _ [5, 6, 7, 8, 9] (by decide +kernel) (by decide +kernel)
set_option maxRecDepth 20000 in
theorem gX6_prisonerOf_X6_at : GoodIn wsX6_prisonerOf (wsV RX6 25 RX6 yX6_at wsX6_at) := goodIn_app (goodIn_of _ (by decide +kernel)) ggX6_prisonerOf_X6_at
theorem dX6_prisonerOf_0 : decode cX6_prisonerOf 0 = .ok (.aload_n 0, 1) := by decide +kernel
theorem dX6_prisonerOf_1 : decode cX6_prisonerOf 1 = .ok (.iload_n 1, 1) := by decide +kernel
theorem dX6_prisonerOf_2 : decode cX6_prisonerOf 2 = .ok (.invokevirtual 25, 3) := by decide +kernel
theorem dX6_prisonerOf_5 : decode cX6_prisonerOf 5 = .ok (.ifCond .ge 7, 3) := by decide +kernel
theorem dX6_prisonerOf_8 : decode cX6_prisonerOf 8 = .ok (.iconst (-1), 1) := by decide +kernel
theorem dX6_prisonerOf_9 : decode cX6_prisonerOf 9 = .ok (.goto 11, 3) := by decide +kernel
theorem dX6_prisonerOf_12 : decode cX6_prisonerOf 12 = .ok (.aload_n 0, 1) := by decide +kernel
theorem dX6_prisonerOf_13 : decode cX6_prisonerOf 13 = .ok (.iload_n 1, 1) := by decide +kernel
theorem dX6_prisonerOf_14 : decode cX6_prisonerOf 14 = .ok (.invokevirtual 25, 3) := by decide +kernel
theorem dX6_prisonerOf_17 : decode cX6_prisonerOf 17 = .ok (.bipush 10, 2) := by decide +kernel
theorem dX6_prisonerOf_19 : decode cX6_prisonerOf 19 = .ok (.idiv, 1) := by decide +kernel
theorem dX6_prisonerOf_20 : decode cX6_prisonerOf 20 = .ok (.ireturn, 1) := by decide +kernel
set_option maxRecDepth 20000 in
theorem ggX6_visitorOf_X6_at : GoodIn wsX6_visitorOf wsX6_at := goodIn_r _ [5, 6, 7, 8, 9] (by decide +kernel) (by decide +kernel)
set_option maxRecDepth 20000 in
theorem gX6_visitorOf_X6_at : GoodIn wsX6_visitorOf (wsV RX6 25 RX6 yX6_at wsX6_at) := goodIn_app (goodIn_of _ (by decide +kernel)) ggX6_visitorOf_X6_at
theorem dX6_visitorOf_0 : decode cX6_visitorOf 0 = .ok (.aload_n 0, 1) := by decide +kernel
theorem dX6_visitorOf_1 : decode cX6_visitorOf 1 = .ok (.iload_n 1, 1) := by decide +kernel
theorem dX6_visitorOf_2 : decode cX6_visitorOf 2 = .ok (.invokevirtual 25, 3) := by decide +kernel
theorem dX6_visitorOf_5 : decode cX6_visitorOf 5 = .ok (.ifCond .ge 7, 3) := by decide +kernel
theorem dX6_visitorOf_8 : decode cX6_visitorOf 8 = .ok (.iconst (-1), 1) := by decide +kernel
theorem dX6_visitorOf_9 : decode cX6_visitorOf 9 = .ok (.goto 11, 3) := by decide +kernel
theorem dX6_visitorOf_12 : decode cX6_visitorOf 12 = .ok (.aload_n 0, 1) := by decide +kernel
theorem dX6_visitorOf_13 : decode cX6_visitorOf 13 = .ok (.iload_n 1, 1) := by decide +kernel
theorem dX6_visitorOf_14 : decode cX6_visitorOf 14 = .ok (.invokevirtual 25, 3) := by decide +kernel
theorem dX6_visitorOf_17 : decode cX6_visitorOf 17 = .ok (.bipush 10, 2) := by decide +kernel
theorem dX6_visitorOf_19 : decode cX6_visitorOf 19 = .ok (.irem, 1) := by decide +kernel
theorem dX6_visitorOf_20 : decode cX6_visitorOf 20 = .ok (.ireturn, 1) := by decide +kernel
theorem dX6_add_0 : decode cX6_add 0 = .ok (.aload_n 0, 1) := by decide +kernel
theorem dX6_add_1 : decode cX6_add 1 = .ok (.getfield 15, 3) := by decide +kernel
theorem dX6_add_4 : decode cX6_add 4 = .ok (.ifCond .lt 37, 3) := by decide +kernel
theorem dX6_add_7 : decode cX6_add 7 = .ok (.aload_n 0, 1) := by decide +kernel
theorem dX6_add_8 : decode cX6_add 8 = .ok (.getfield 15, 3) := by decide +kernel
theorem dX6_add_11 : decode cX6_add 11 = .ok (.bipush 10, 2) := by decide +kernel
theorem dX6_add_13 : decode cX6_add 13 = .ok (.if_icmp .ge 28, 3) := by decide +kernel
theorem dX6_add_16 : decode cX6_add 16 = .ok (.aload_n 0, 1) := by decide +kernel
theorem dX6_add_17 : decode cX6_add 17 = .ok (.getfield 11, 3) := by decide +kernel
theorem dX6_add_20 : decode cX6_add 20 = .ok (.aload_n 0, 1) := by decide +kernel
theorem dX6_add_21 : decode cX6_add 21 = .ok (.getfield 15, 3) := by decide +kernel
theorem dX6_add_24 : decode cX6_add 24 = .ok (.bipush 10, 2) := by decide +kernel
theorem dX6_add_26 : decode cX6_add 26 = .ok (.iload_n 1, 1) := by decide +kernel
theorem dX6_add_27 : decode cX6_add 27 = .ok (.imul, 1) := by decide +kernel
theorem dX6_add_28 : decode cX6_add 28 = .ok (.iload_n 2, 1) := by decide +kernel
theorem dX6_add_29 : decode cX6_add 29 = .ok (.iadd, 1) := by decide +kernel
theorem dX6_add_30 : decode cX6_add 30 = .ok (.iastore, 1) := by decide +kernel
theorem dX6_add_31 : decode cX6_add 31 = .ok (.aload_n 0, 1) := by decide +kernel
theorem dX6_add_32 : decode cX6_add 32 = .ok (.dup, 1) := by decide +kernel
theorem dX6_add_33 : decode cX6_add 33 = .ok (.getfield 15, 3) := by decide +kernel
theorem dX6_add_36 : decode cX6_add 36 = .ok (.iconst 1, 1) := by decide +kernel
theorem dX6_add_37 : decode cX6_add 37 = .ok (.iadd, 1) := by decide +kernel
theorem dX6_add_38 : decode cX6_add 38 = .ok (.putfield 15, 3) := by decide +kernel
theorem dX6_add_41 : decode cX6_add 41 = .ok (.return_, 1) := by decide +kernel
theorem dX6_remove_0 : decode cX6_remove 0 = .ok (.iload_n 1, 1) := by decide +kernel
theorem dX6_remove_1 : decode cX6_remove 1 = .ok (.ifCond .lt 53, 3) := by decide +kernel
theorem dX6_remove_4 : decode cX6_remove 4 = .ok (.iload_n 1, 1) := by decide +kernel
theorem dX6_remove_5 : decode cX6_remove 5 = .ok (.aload_n 0, 1) := by decide +kernel
theorem dX6_remove_6 : decode cX6_remove 6 = .ok (.getfield 15, 3) := by decide +kernel
theorem dX6_remove_9 : decode cX6_remove 9 = .ok (.if_icmp .ge 45, 3) := by decide +kernel
theorem dX6_remove_12 : decode cX6_remove 12 = .ok (.aload_n 0, 1) := by decide +kernel
theorem dX6_remove_13 : decode cX6_remove 13 = .ok (.getfield 15, 3) := by decide +kernel
theorem dX6_remove_16 : decode cX6_remove 16 = .ok (.bipush 10, 2) := by decide +kernel
theorem dX6_remove_18 : decode cX6_remove 18 = .ok (.if_icmp .gt 36, 3) := by decide +kernel
theorem dX6_remove_21 : decode cX6_remove 21 = .ok (.aload_n 0, 1) := by decide +kernel
theorem dX6_remove_22 : decode cX6_remove 22 = .ok (.getfield 11, 3) := by decide +kernel
theorem dX6_remove_25 : decode cX6_remove 25 = .ok (.iload_n 1, 1) := by decide +kernel
theorem dX6_remove_26 : decode cX6_remove 26 = .ok (.iconst 1, 1) := by decide +kernel
theorem dX6_remove_27 : decode cX6_remove 27 = .ok (.iadd, 1) := by decide +kernel
theorem dX6_remove_28 : decode cX6_remove 28 = .ok (.aload_n 0, 1) := by decide +kernel
theorem dX6_remove_29 : decode cX6_remove 29 = .ok (.getfield 11, 3) := by decide +kernel
theorem dX6_remove_32 : decode cX6_remove 32 = .ok (.iload_n 1, 1) := by decide +kernel
theorem dX6_remove_33 : decode cX6_remove 33 = .ok (.aload_n 0, 1) := by decide +kernel
theorem dX6_remove_34 : decode cX6_remove 34 = .ok (.getfield 15, 3) := by decide +kernel
theorem dX6_remove_37 : decode cX6_remove 37 = .ok (.iload_n 1, 1) := by decide +kernel
theorem dX6_remove_38 : decode cX6_remove 38 = .ok (.isub, 1) := by decide +kernel
theorem dX6_remove_39 : decode cX6_remove 39 = .ok (.iconst 1, 1) := by decide +kernel
theorem dX6_remove_40 : decode cX6_remove 40 = .ok (.isub, 1) := by decide +kernel
theorem dX6_remove_41 : decode cX6_remove 41 = .ok (.invokestatic 19, 3) := by decide +kernel
theorem dX6_remove_44 : decode cX6_remove 44 = .ok (.aload_n 0, 1) := by decide +kernel
theorem dX6_remove_45 : decode cX6_remove 45 = .ok (.dup, 1) := by decide +kernel
theorem dX6_remove_46 : decode cX6_remove 46 = .ok (.getfield 15, 3) := by decide +kernel
theorem dX6_remove_49 : decode cX6_remove 49 = .ok (.iconst 1, 1) := by decide +kernel
theorem dX6_remove_50 : decode cX6_remove 50 = .ok (.isub, 1) := by decide +kernel
theorem dX6_remove_51 : decode cX6_remove 51 = .ok (.putfield 15, 3) := by decide +kernel
theorem dX6_remove_54 : decode cX6_remove 54 = .ok (.return_, 1) := by decide +kernel
set_option maxRecDepth 20000 in
theorem ggX6_countOf_X6_prisonerOf : GoodIn wsX6_countOf wsX6_prisonerOf := goodIn_r _ [6, 7, 8, 9, 5, 10, 1, 11, 12, 13] (by decide +kernel) (by decide +kernel)
set_option maxRecDepth 20000 in
theorem gX6_countOf_X6_prisonerOf : GoodIn wsX6_countOf (wsV RX6 29 RX6 yX6_prisonerOf wsX6_prisonerOf) := goodIn_app (goodIn_of _ (by decide +kernel)) ggX6_countOf_X6_prisonerOf
theorem dX6_countOf_0 : decode cX6_countOf 0 = .ok (.iconst 0, 1) := by decide +kernel
theorem dX6_countOf_1 : decode cX6_countOf 1 = .ok (.istore_n 2, 1) := by decide +kernel
theorem dX6_countOf_2 : decode cX6_countOf 2 = .ok (.iconst 0, 1) := by decide +kernel
theorem dX6_countOf_3 : decode cX6_countOf 3 = .ok (.istore_n 3, 1) := by decide +kernel
theorem dX6_countOf_4 : decode cX6_countOf 4 = .ok (.iload_n 3, 1) := by decide +kernel
theorem dX6_countOf_5 : decode cX6_countOf 5 = .ok (.aload_n 0, 1) := by decide +kernel
theorem dX6_countOf_6 : decode cX6_countOf 6 = .ok (.getfield 15, 3) := by decide +kernel
theorem dX6_countOf_9 : decode cX6_countOf 9 = .ok (.if_icmp .ge 21, 3) := by decide +kernel
theorem dX6_countOf_12 : decode cX6_countOf 12 = .ok (.aload_n 0, 1) := by decide +kernel
theorem dX6_countOf_13 : decode cX6_countOf 13 = .ok (.iload_n 3, 1) := by decide +kernel
theorem dX6_countOf_14 : decode cX6_countOf 14 = .ok (.invokevirtual 29, 3) := by decide +kernel
theorem dX6_countOf_17 : decode cX6_countOf 17 = .ok (.iload_n 1, 1) := by decide +kernel
theorem dX6_countOf_18 : decode cX6_countOf 18 = .ok (.if_icmp .ne 6, 3) := by decide +kernel
theorem dX6_countOf_21 : decode cX6_countOf 21 = .ok (.iinc 2 1, 3) := by decide +kernel
theorem dX6_countOf_24 : decode cX6_countOf 24 = .ok (.iinc 3 1, 3) := by decide +kernel
theorem dX6_countOf_27 : decode cX6_countOf 27 = .ok (.goto (-23), 3) := by decide +kernel
theorem dX6_countOf_30 : decode cX6_countOf 30 = .ok (.iload_n 2, 1) := by decide +kernel
theorem dX6_countOf_31 : decode cX6_countOf 31 = .ok (.ireturn, 1) := by decide +kernel
set_option maxRecDepth 20000 in
theorem ggX6_inTurn_X6_turnOf : GoodIn wsX6_inTurn wsX6_turnOf := goodIn_r _ [6, 1, 7, 8, 9, 5, 10, 11, 12, 13] (by decide +kernel) (by decide +kernel)
set_option maxRecDepth 20000 in
theorem gX6_inTurn_X6_turnOf : GoodIn wsX6_inTurn (wsV RX6 32 RX6 yX6_turnOf wsX6_turnOf) := goodIn_app (goodIn_of _ (by decide +kernel)) ggX6_inTurn_X6_turnOf
theorem dX6_inTurn_0 : decode cX6_inTurn 0 = .ok (.iconst 0, 1) := by decide +kernel
theorem dX6_inTurn_1 : decode cX6_inTurn 1 = .ok (.istore_n 3, 1) := by decide +kernel
theorem dX6_inTurn_2 : decode cX6_inTurn 2 = .ok (.iload_n 3, 1) := by decide +kernel
theorem dX6_inTurn_3 : decode cX6_inTurn 3 = .ok (.aload_n 0, 1) := by decide +kernel
theorem dX6_inTurn_4 : decode cX6_inTurn 4 = .ok (.getfield 15, 3) := by decide +kernel
theorem dX6_inTurn_7 : decode cX6_inTurn 7 = .ok (.if_icmp .ge 21, 3) := by decide +kernel
theorem dX6_inTurn_10 : decode cX6_inTurn 10 = .ok (.aload_n 0, 1) := by decide +kernel
theorem dX6_inTurn_11 : decode cX6_inTurn 11 = .ok (.iload_n 3, 1) := by decide +kernel
theorem dX6_inTurn_12 : decode cX6_inTurn 12 = .ok (.aload_n 2, 1) := by decide +kernel
theorem dX6_inTurn_13 : decode cX6_inTurn 13 = .ok (.invokevirtual 32, 3) := by decide +kernel
theorem dX6_inTurn_16 : decode cX6_inTurn 16 = .ok (.iload_n 1, 1) := by decide +kernel
theorem dX6_inTurn_17 : decode cX6_inTurn 17 = .ok (.if_icmp .ne 5, 3) := by decide +kernel
theorem dX6_inTurn_20 : decode cX6_inTurn 20 = .ok (.iload_n 3, 1) := by decide +kernel
theorem dX6_inTurn_21 : decode cX6_inTurn 21 = .ok (.ireturn, 1) := by decide +kernel
theorem dX6_inTurn_22 : decode cX6_inTurn 22 = .ok (.iinc 3 1, 3) := by decide +kernel
theorem dX6_inTurn_25 : decode cX6_inTurn 25 = .ok (.goto (-23), 3) := by decide +kernel
theorem dX6_inTurn_28 : decode cX6_inTurn 28 = .ok (.iconst (-1), 1) := by decide +kernel
theorem dX6_inTurn_29 : decode cX6_inTurn 29 = .ok (.ireturn, 1) := by decide +kernel
set_option maxRecDepth 20000 in
theorem ggX6_turnOf_X6_heldBy : GoodIn wsX6_turnOf wsX6_heldBy := goodIn_r _ [6, 7, 8, 9] (by decide +kernel) (by decide +kernel)
set_option maxRecDepth 20000 in
theorem gX6_turnOf_X6_heldBy : GoodIn wsX6_turnOf (wsV RX6 36 RX6 yX6_heldBy wsX6_heldBy) := goodIn_app (goodIn_of _ (by decide +kernel)) ggX6_turnOf_X6_heldBy
theorem dX6_turnOf_0 : decode cX6_turnOf 0 = .ok (.aload_n 0, 1) := by decide +kernel
theorem dX6_turnOf_1 : decode cX6_turnOf 1 = .ok (.iload_n 1, 1) := by decide +kernel
theorem dX6_turnOf_2 : decode cX6_turnOf 2 = .ok (.aload_n 2, 1) := by decide +kernel
theorem dX6_turnOf_3 : decode cX6_turnOf 3 = .ok (.invokevirtual 36, 3) := by decide +kernel
theorem dX6_turnOf_6 : decode cX6_turnOf 6 = .ok (.istore_n 3, 1) := by decide +kernel
theorem dX6_turnOf_7 : decode cX6_turnOf 7 = .ok (.iconst 0, 1) := by decide +kernel
theorem dX6_turnOf_8 : decode cX6_turnOf 8 = .ok (.istore 4, 2) := by decide +kernel
theorem dX6_turnOf_10 : decode cX6_turnOf 10 = .ok (.iconst 0, 1) := by decide +kernel
theorem dX6_turnOf_11 : decode cX6_turnOf 11 = .ok (.istore 5, 2) := by decide +kernel
theorem dX6_turnOf_13 : decode cX6_turnOf 13 = .ok (.iload 5, 2) := by decide +kernel
theorem dX6_turnOf_15 : decode cX6_turnOf 15 = .ok (.aload_n 0, 1) := by decide +kernel
theorem dX6_turnOf_16 : decode cX6_turnOf 16 = .ok (.getfield 15, 3) := by decide +kernel
theorem dX6_turnOf_19 : decode cX6_turnOf 19 = .ok (.if_icmp .ge 39, 3) := by decide +kernel
theorem dX6_turnOf_22 : decode cX6_turnOf 22 = .ok (.aload_n 0, 1) := by decide +kernel
theorem dX6_turnOf_23 : decode cX6_turnOf 23 = .ok (.iload 5, 2) := by decide +kernel
theorem dX6_turnOf_25 : decode cX6_turnOf 25 = .ok (.aload_n 2, 1) := by decide +kernel
theorem dX6_turnOf_26 : decode cX6_turnOf 26 = .ok (.invokevirtual 36, 3) := by decide +kernel
theorem dX6_turnOf_29 : decode cX6_turnOf 29 = .ok (.istore 6, 2) := by decide +kernel
theorem dX6_turnOf_31 : decode cX6_turnOf 31 = .ok (.iload 6, 2) := by decide +kernel
theorem dX6_turnOf_33 : decode cX6_turnOf 33 = .ok (.iload_n 3, 1) := by decide +kernel
theorem dX6_turnOf_34 : decode cX6_turnOf 34 = .ok (.if_icmp .lt 15, 3) := by decide +kernel
theorem dX6_turnOf_37 : decode cX6_turnOf 37 = .ok (.iload 6, 2) := by decide +kernel
theorem dX6_turnOf_39 : decode cX6_turnOf 39 = .ok (.iload_n 3, 1) := by decide +kernel
theorem dX6_turnOf_40 : decode cX6_turnOf 40 = .ok (.if_icmp .ne 12, 3) := by decide +kernel
theorem dX6_turnOf_43 : decode cX6_turnOf 43 = .ok (.iload 5, 2) := by decide +kernel
theorem dX6_turnOf_45 : decode cX6_turnOf 45 = .ok (.iload_n 1, 1) := by decide +kernel
theorem dX6_turnOf_46 : decode cX6_turnOf 46 = .ok (.if_icmp .ge 6, 3) := by decide +kernel
theorem dX6_turnOf_49 : decode cX6_turnOf 49 = .ok (.iinc 4 1, 3) := by decide +kernel
theorem dX6_turnOf_52 : decode cX6_turnOf 52 = .ok (.iinc 5 1, 3) := by decide +kernel
theorem dX6_turnOf_55 : decode cX6_turnOf 55 = .ok (.goto (-42), 3) := by decide +kernel
theorem dX6_turnOf_58 : decode cX6_turnOf 58 = .ok (.iload 4, 2) := by decide +kernel
theorem dX6_turnOf_60 : decode cX6_turnOf 60 = .ok (.ireturn, 1) := by decide +kernel
theorem dX6_heldBy_0 : decode cX6_heldBy 0 = .ok (.iload_n 1, 1) := by decide +kernel
theorem dX6_heldBy_1 : decode cX6_heldBy 1 = .ok (.ifCond .lt 21, 3) := by decide +kernel
theorem dX6_heldBy_4 : decode cX6_heldBy 4 = .ok (.iload_n 1, 1) := by decide +kernel
theorem dX6_heldBy_5 : decode cX6_heldBy 5 = .ok (.bipush 10, 2) := by decide +kernel
theorem dX6_heldBy_7 : decode cX6_heldBy 7 = .ok (.if_icmp .ge 15, 3) := by decide +kernel
theorem dX6_heldBy_10 : decode cX6_heldBy 10 = .ok (.aload_n 0, 1) := by decide +kernel
theorem dX6_heldBy_11 : decode cX6_heldBy 11 = .ok (.getfield 11, 3) := by decide +kernel
theorem dX6_heldBy_14 : decode cX6_heldBy 14 = .ok (.iload_n 1, 1) := by decide +kernel
theorem dX6_heldBy_15 : decode cX6_heldBy 15 = .ok (.iaload, 1) := by decide +kernel
theorem dX6_heldBy_16 : decode cX6_heldBy 16 = .ok (.bipush 10, 2) := by decide +kernel
theorem dX6_heldBy_18 : decode cX6_heldBy 18 = .ok (.idiv, 1) := by decide +kernel
theorem dX6_heldBy_19 : decode cX6_heldBy 19 = .ok (.goto 4, 3) := by decide +kernel
theorem dX6_heldBy_22 : decode cX6_heldBy 22 = .ok (.iconst (-1), 1) := by decide +kernel
theorem dX6_heldBy_23 : decode cX6_heldBy 23 = .ok (.istore_n 3, 1) := by decide +kernel
theorem dX6_heldBy_24 : decode cX6_heldBy 24 = .ok (.iload_n 3, 1) := by decide +kernel
theorem dX6_heldBy_25 : decode cX6_heldBy 25 = .ok (.ifCond .lt 15, 3) := by decide +kernel
theorem dX6_heldBy_28 : decode cX6_heldBy 28 = .ok (.iload_n 3, 1) := by decide +kernel
theorem dX6_heldBy_29 : decode cX6_heldBy 29 = .ok (.aload_n 2, 1) := by decide +kernel
theorem dX6_heldBy_30 : decode cX6_heldBy 30 = .ok (.arraylength, 1) := by decide +kernel
theorem dX6_heldBy_31 : decode cX6_heldBy 31 = .ok (.if_icmp .ge 9, 3) := by decide +kernel
theorem dX6_heldBy_34 : decode cX6_heldBy 34 = .ok (.aload_n 2, 1) := by decide +kernel
theorem dX6_heldBy_35 : decode cX6_heldBy 35 = .ok (.iload_n 3, 1) := by decide +kernel
theorem dX6_heldBy_36 : decode cX6_heldBy 36 = .ok (.iaload, 1) := by decide +kernel
theorem dX6_heldBy_37 : decode cX6_heldBy 37 = .ok (.goto 4, 3) := by decide +kernel
theorem dX6_heldBy_40 : decode cX6_heldBy 40 = .ok (.iconst 0, 1) := by decide +kernel
theorem dX6_heldBy_41 : decode cX6_heldBy 41 = .ok (.ireturn, 1) := by decide +kernel
set_option maxRecDepth 20000 in
theorem ggX7_init_X5_init : GoodIn wsX7_init wsX5_init := goodIn_r _ [24, 25, 2, 3, 26, 27, 28, 29, 77, 78, 79, 80, 81] (by decide +kernel) (by decide +kernel)
set_option maxRecDepth 20000 in
theorem gX7_init_X5_init_n9 : GoodIn wsX7_init (wsX5_init) := ggX7_init_X5_init
set_option maxRecDepth 20000 in
theorem ggX7_init_X2_init : GoodIn wsX7_init wsX2_init := goodIn_r _ [31, 32, 2, 3, 28, 33, 34, 35, 36, 37, 38, 39, 40, 41, 42, 43, 44, 45, 46, 47, 48, 49, 50, 51, 52, 53, 54, 55, 56, 57, 58, 59, 60, 61, 62, 63, 64, 65, 89, 90, 91, 92, 93, 94, 95, 96, 97, 98, 99, 100, 101, 102, 103, 109, 110, 111, 112] (by decide +kernel) (by decide +kernel)
set_option maxRecDepth 20000 in
theorem gX7_init_X2_init_n18 : GoodIn wsX7_init (wsX2_init) := ggX7_init_X2_init
set_option maxRecDepth 20000 in
theorem ggX7_init_X1_init : GoodIn wsX7_init wsX1_init := goodIn_r _ [68, 69, 2, 3, 70, 71, 9, 10, 30, 31, 32, 28, 33, 34, 35, 36, 37, 38, 39, 40, 41, 42, 43, 44, 45, 46, 47, 48, 49, 50, 51, 52, 53, 54, 55, 56, 57, 58, 59, 60, 61, 62, 63, 64, 65, 104, 105, 106, 89, 90, 91, 92, 93, 94, 95, 96, 97, 98, 99, 100, 101, 102, 103, 109, 110, 111, 112] (by decide +kernel) (by decide +kernel)
set_option maxRecDepth 20000 in
theorem gX7_init_X1_init : GoodIn wsX7_init (wsX1_init) := ggX7_init_X1_init
set_option maxRecDepth 20000 in
theorem ggX7_init_X4_init : GoodIn wsX7_init wsX4_init := goodIn_r _ [73, 74, 2, 3, 75, 9, 10, 76, 30, 31, 32, 28, 33, 34, 35, 36, 37, 38, 39, 40, 41, 42, 43, 44, 45, 46, 47, 48, 49, 50, 51, 52, 53, 54, 55, 56, 57, 58, 59, 60, 61, 62, 63, 64, 65, 89, 90, 91, 92, 93, 94, 95, 96, 97, 98, 99, 100, 101, 102, 103, 107, 108, 109, 110, 111, 112] (by decide +kernel) (by decide +kernel)
set_option maxRecDepth 20000 in
theorem gX7_init_X4_init_n32 : GoodIn wsX7_init (wsX4_init) := ggX7_init_X4_init
theorem dX7_init_0 : decode cX7_init 0 = .ok (.aload_n 0, 1) := by decide +kernel
theorem dX7_init_1 : decode cX7_init 1 = .ok (.invokespecial 1, 3) := by decide +kernel
theorem dX7_init_4 : decode cX7_init 4 = .ok (.aload_n 0, 1) := by decide +kernel
theorem dX7_init_5 : decode cX7_init 5 = .ok (.new 7, 3) := by decide +kernel
theorem dX7_init_8 : decode cX7_init 8 = .ok (.dup, 1) := by decide +kernel
theorem dX7_init_9 : decode cX7_init 9 = .ok (.invokespecial 9, 3) := by decide +kernel
theorem dX7_init_12 : decode cX7_init 12 = .ok (.putfield 10, 3) := by decide +kernel
theorem dX7_init_15 : decode cX7_init 15 = .ok (.aload_n 0, 1) := by decide +kernel
theorem dX7_init_16 : decode cX7_init 16 = .ok (.new 16, 3) := by decide +kernel
theorem dX7_init_19 : decode cX7_init 19 = .ok (.dup, 1) := by decide +kernel
theorem dX7_init_20 : decode cX7_init 20 = .ok (.invokespecial 18, 3) := by decide +kernel
theorem dX7_init_23 : decode cX7_init 23 = .ok (.putfield 19, 3) := by decide +kernel
theorem dX7_init_26 : decode cX7_init 26 = .ok (.aload_n 0, 1) := by decide +kernel
theorem dX7_init_27 : decode cX7_init 27 = .ok (.new 23, 3) := by decide +kernel
theorem dX7_init_30 : decode cX7_init 30 = .ok (.dup, 1) := by decide +kernel
theorem dX7_init_31 : decode cX7_init 31 = .ok (.invokespecial 25, 3) := by decide +kernel
theorem dX7_init_34 : decode cX7_init 34 = .ok (.putfield 26, 3) := by decide +kernel
theorem dX7_init_37 : decode cX7_init 37 = .ok (.aload_n 0, 1) := by decide +kernel
theorem dX7_init_38 : decode cX7_init 38 = .ok (.new 30, 3) := by decide +kernel
theorem dX7_init_41 : decode cX7_init 41 = .ok (.dup, 1) := by decide +kernel
theorem dX7_init_42 : decode cX7_init 42 = .ok (.invokespecial 32, 3) := by decide +kernel
theorem dX7_init_45 : decode cX7_init 45 = .ok (.putfield 33, 3) := by decide +kernel
theorem dX7_init_48 : decode cX7_init 48 = .ok (.aload_n 0, 1) := by decide +kernel
theorem dX7_init_49 : decode cX7_init 49 = .ok (.new 30, 3) := by decide +kernel
theorem dX7_init_52 : decode cX7_init 52 = .ok (.dup, 1) := by decide +kernel
theorem dX7_init_53 : decode cX7_init 53 = .ok (.invokespecial 32, 3) := by decide +kernel
theorem dX7_init_56 : decode cX7_init 56 = .ok (.putfield 37, 3) := by decide +kernel
theorem dX7_init_59 : decode cX7_init 59 = .ok (.aload_n 0, 1) := by decide +kernel
theorem dX7_init_60 : decode cX7_init 60 = .ok (.new 16, 3) := by decide +kernel
theorem dX7_init_63 : decode cX7_init 63 = .ok (.dup, 1) := by decide +kernel
theorem dX7_init_64 : decode cX7_init 64 = .ok (.invokespecial 18, 3) := by decide +kernel
theorem dX7_init_67 : decode cX7_init 67 = .ok (.putfield 40, 3) := by decide +kernel
theorem dX7_init_70 : decode cX7_init 70 = .ok (.aload_n 0, 1) := by decide +kernel
theorem dX7_init_71 : decode cX7_init 71 = .ok (.new 16, 3) := by decide +kernel
theorem dX7_init_74 : decode cX7_init 74 = .ok (.dup, 1) := by decide +kernel
theorem dX7_init_75 : decode cX7_init 75 = .ok (.invokespecial 18, 3) := by decide +kernel
theorem dX7_init_78 : decode cX7_init 78 = .ok (.putfield 43, 3) := by decide +kernel
theorem dX7_init_81 : decode cX7_init 81 = .ok (.return_, 1) := by decide +kernel
set_option maxRecDepth 20000 in
theorem ggX7_append_X7_isBetween : GoodIn wsX7_append wsX7_isBetween := goodIn_r _ [9] (by decide +kernel) (by decide +kernel)
set_option maxRecDepth 20000 in
theorem gX7_append_X7_isBetween : GoodIn wsX7_append (va_wsS RX7 46 yX7_isBetween wsX7_isBetween) := goodIn_app (goodIn_of _ (by decide +kernel)) ggX7_append_X7_isBetween
set_option maxRecDepth 20000 in
theorem ggX7_append_X5_isFull : GoodIn wsX7_append wsX5_isFull := goodIn_r _ [14, 15, 28, 29, 30, 31, 32] (by decide +kernel) (by decide +kernel)
set_option maxRecDepth 20000 in
theorem gX7_append_X5_isFull : GoodIn wsX7_append (wsV RX7 57 RX5 yX5_isFull wsX5_isFull) := goodIn_app (goodIn_of _ (by decide +kernel)) ggX7_append_X5_isFull
set_option maxRecDepth 20000 in
theorem ggX7_append_X5_add : GoodIn wsX7_append wsX5_add := goodIn_r _ [19, 15, 20, 28, 29, 30, 31, 32] (by decide +kernel) (by decide +kernel)
set_option maxRecDepth 20000 in
theorem gX7_append_X5_add : GoodIn wsX7_append (wsV RX7 66 RX5 yX5_add wsX5_add) := goodIn_app (goodIn_of _ (by decide +kernel)) ggX7_append_X5_add
theorem dX7_append_0 : decode cX7_append 0 = .ok (.iload_n 1, 1) := by decide +kernel
theorem dX7_append_1 : decode cX7_append 1 = .ok (.iconst 0, 1) := by decide +kernel
theorem dX7_append_2 : decode cX7_append 2 = .ok (.sipush 255, 3) := by decide +kernel
theorem dX7_append_5 : decode cX7_append 5 = .ok (.invokestatic 46, 3) := by decide +kernel
theorem dX7_append_8 : decode cX7_append 8 = .ok (.ifCond .ne 13, 3) := by decide +kernel
theorem dX7_append_11 : decode cX7_append 11 = .ok (.new 50, 3) := by decide +kernel
theorem dX7_append_14 : decode cX7_append 14 = .ok (.dup, 1) := by decide +kernel
theorem dX7_append_15 : decode cX7_append 15 = .ok (.ldc 52, 2) := by decide +kernel
theorem dX7_append_17 : decode cX7_append 17 = .ok (.invokespecial 54, 3) := by decide +kernel
theorem dX7_append_20 : decode cX7_append 20 = .ok (.athrow, 1) := by decide +kernel
theorem dX7_append_21 : decode cX7_append 21 = .ok (.aload_n 0, 1) := by decide +kernel
theorem dX7_append_22 : decode cX7_append 22 = .ok (.getfield 10, 3) := by decide +kernel
theorem dX7_append_25 : decode cX7_append 25 = .ok (.invokevirtual 57, 3) := by decide +kernel
theorem dX7_append_28 : decode cX7_append 28 = .ok (.ifCond .eq 13, 3) := by decide +kernel
theorem dX7_append_31 : decode cX7_append 31 = .ok (.new 61, 3) := by decide +kernel
theorem dX7_append_34 : decode cX7_append 34 = .ok (.dup, 1) := by decide +kernel
theorem dX7_append_35 : decode cX7_append 35 = .ok (.ldc 63, 2) := by decide +kernel
theorem dX7_append_37 : decode cX7_append 37 = .ok (.invokespecial 65, 3) := by decide +kernel
theorem dX7_append_40 : decode cX7_append 40 = .ok (.athrow, 1) := by decide +kernel
theorem dX7_append_41 : decode cX7_append 41 = .ok (.aload_n 0, 1) := by decide +kernel
theorem dX7_append_42 : decode cX7_append 42 = .ok (.getfield 10, 3) := by decide +kernel
theorem dX7_append_45 : decode cX7_append 45 = .ok (.iload_n 1, 1) := by decide +kernel
theorem dX7_append_46 : decode cX7_append 46 = .ok (.invokevirtual 66, 3) := by decide +kernel
theorem dX7_append_49 : decode cX7_append 49 = .ok (.ireturn, 1) := by decide +kernel
set_option maxRecDepth 20000 in
theorem ggX7_clearText_X5_drop : GoodIn wsX7_clearText wsX5_drop := goodIn_r _ [6, 7, 15, 16, 17, 18, 19] (by decide +kernel) (by decide +kernel)
set_option maxRecDepth 20000 in
theorem gX7_clearText_X5_drop : GoodIn wsX7_clearText (wsV RX7 70 RX5 yX5_drop wsX5_drop) := goodIn_app (goodIn_of _ (by decide +kernel)) ggX7_clearText_X5_drop
theorem dX7_clearText_0 : decode cX7_clearText 0 = .ok (.aload_n 0, 1) := by decide +kernel
theorem dX7_clearText_1 : decode cX7_clearText 1 = .ok (.getfield 10, 3) := by decide +kernel
theorem dX7_clearText_4 : decode cX7_clearText 4 = .ok (.invokevirtual 70, 3) := by decide +kernel
theorem dX7_clearText_7 : decode cX7_clearText 7 = .ok (.ireturn, 1) := by decide +kernel
set_option maxRecDepth 20000 in
theorem ggX7_errorPosition_X5_errorIndex : GoodIn wsX7_errorPosition wsX5_errorIndex := goodIn_r _ [6, 7, 8, 9, 10, 11, 5, 12, 13, 14, 15, 16, 17, 18, 19, 20, 21, 22, 23, 24, 25, 26, 27, 28, 29, 30, 31, 32, 33, 34, 35, 36, 37, 38, 39, 40, 41, 42, 43, 44, 45, 46, 47, 48, 49, 50, 51, 52, 53, 54, 55, 56, 57, 58, 59, 60, 61, 62, 63, 64, 65, 66, 67, 68, 69, 70, 71, 72, 73, 74, 75, 76, 77, 78, 79, 80, 81, 82, 83, 84, 85, 86, 87, 88, 89, 90, 91, 92, 93, 94, 95, 96, 97, 98, 99, 100, 101, 102, 103, 104, 105, 106, 107, 108, 109, 110, 118, 119, 120, 121, 122] (by decide +kernel) (by decide +kernel)
set_option maxRecDepth 20000 in
theorem gX7_errorPosition_X5_errorIndex : GoodIn wsX7_errorPosition (wsV RX7 74 RX5 yX5_errorIndex wsX5_errorIndex) := goodIn_app (goodIn_of _ (by decide +kernel)) ggX7_errorPosition_X5_errorIndex
theorem dX7_errorPosition_0 : decode cX7_errorPosition 0 = .ok (.aload_n 0, 1) := by decide +kernel
theorem dX7_errorPosition_1 : decode cX7_errorPosition 1 = .ok (.getfield 10, 3) := by decide +kernel
theorem dX7_errorPosition_4 : decode cX7_errorPosition 4 = .ok (.invokevirtual 74, 3) := by decide +kernel
theorem dX7_errorPosition_7 : decode cX7_errorPosition 7 = .ok (.ireturn, 1) := by decide +kernel
set_option maxRecDepth 20000 in
theorem ggX7_load_X5_errorIndex : GoodIn wsX7_load wsX5_errorIndex := goodIn_r _ [14, 15, 16, 17, 18, 19, 13, 20, 21, 22, 23, 24, 25, 26, 27, 28, 29, 30, 31, 32, 33, 34, 35, 36, 37, 38, 39, 40, 41, 42, 43, 44, 45, 46, 47, 48, 49, 50, 51, 52, 53, 54, 55, 56, 57, 58, 59, 60, 61, 62, 63, 64, 65, 66, 67, 68, 69, 70, 71, 72, 73, 74, 75, 76, 77, 78, 79, 80, 81, 82, 83, 84, 85, 86, 87, 88, 89, 90, 91, 92, 93, 94, 95, 96, 97, 98, 99, 100, 101, 102, 103, 104, 105, 106, 107, 108, 109, 110, 111, 112, 113, 114, 115, 116, 117, 118, 358, 359, 360, 361, 362] (by decide +kernel) (by decide +kernel)
set_option maxRecDepth 20000 in
theorem gX7_load_X5_errorIndex : GoodIn wsX7_load (wsV RX7 74 RX5 yX5_errorIndex wsX5_errorIndex) := goodIn_app (goodIn_of _ (by decide +kernel)) ggX7_load_X5_errorIndex
set_option maxRecDepth 20000 in
theorem ggX7_load_X2_copyFrom : GoodIn wsX7_load wsX2_copyFrom := goodIn_r _ [123, 124, 125, 126, 127, 128, 129, 130, 131, 132, 133, 134, 135, 136, 137, 138, 139, 140, 141, 142, 143, 144, 145, 146, 147, 148, 149, 150, 151, 152, 153, 154, 155, 156, 157, 158, 363, 364, 365, 366, 367, 368, 369, 370, 371, 372, 373, 374, 375, 376, 377, 378, 379, 380, 381] (by decide +kernel) (by decide +kernel)
set_option maxRecDepth 20000 in
theorem gX7_load_X2_copyFrom : GoodIn wsX7_load (wsV RX7 79 RX2 yX2_copyFrom wsX2_copyFrom) := goodIn_app (goodIn_of _ (by decide +kernel)) ggX7_load_X2_copyFrom
set_option maxRecDepth 20000 in
theorem ggX7_load_X1_forget : GoodIn wsX7_load wsX1_forget := goodIn_r _ [163, 164, 382, 383, 384] (by decide +kernel) (by decide +kernel)
set_option maxRecDepth 20000 in
theorem gX7_load_X1_forget : GoodIn wsX7_load (wsV RX7 83 RX1 yX1_forget wsX1_forget) := goodIn_app (goodIn_of _ (by decide +kernel)) ggX7_load_X1_forget
set_option maxRecDepth 20000 in
theorem ggX7_load_X5_startReading : GoodIn wsX7_load wsX5_startReading := goodIn_r _ [20, 15, 358, 359, 360, 361, 362] (by decide +kernel) (by decide +kernel)
set_option maxRecDepth 20000 in
theorem gX7_load_X5_startReading : GoodIn wsX7_load (wsV RX7 90 RX5 yX5_startReading wsX5_startReading) := goodIn_app (goodIn_of _ (by decide +kernel)) ggX7_load_X5_startReading
set_option maxRecDepth 20000 in
theorem ggX7_load_X5_readCommand : GoodIn wsX7_load wsX5_readCommand := goodIn_r _ [24, 25, 26, 27, 28, 13, 29, 15, 30, 31, 32, 33, 34, 35, 36, 37, 38, 39, 40, 41, 42, 43, 44, 45, 46, 47, 48, 49, 50, 51, 52, 53, 54, 55, 56, 16, 57, 58, 59, 60, 61, 62, 63, 64, 65, 66, 67, 68, 69, 70, 71, 72, 73, 74, 75, 76, 77, 78, 79, 80, 81, 82, 83, 84, 85, 86, 87, 88, 89, 90, 91, 92, 93, 94, 95, 96, 97, 98, 99, 100, 101, 102, 103, 104, 105, 106, 107, 108, 109, 110, 111, 112, 113, 114, 115, 116, 117, 118, 358, 359, 360, 361, 362] (by decide +kernel) (by decide +kernel)
set_option maxRecDepth 20000 in
theorem gX7_load_X5_readCommand : GoodIn wsX7_load (wsV RX7 93 RX5 yX5_readCommand wsX5_readCommand) := goodIn_app (goodIn_of _ (by decide +kernel)) ggX7_load_X5_readCommand
set_option maxRecDepth 20000 in
theorem ggX7_load_X5_doCommand : GoodIn wsX7_load wsX5_doCommand := goodIn_r _ [170, 25, 106, 171, 172, 173, 122, 174, 125, 126, 116, 117, 118, 175, 176, 177, 178, 131, 179, 180, 181, 182, 183, 184, 185, 186, 187, 188, 189, 190, 191, 192, 193, 194, 195, 139, 196, 197, 198, 199, 124, 200, 201, 202, 203, 204, 205, 206, 207, 132, 137, 134, 208, 209, 210, 211, 212, 213, 214, 215, 146, 216, 148, 149, 217, 218, 219, 220, 135, 142, 221, 222, 223, 224, 225, 226, 227, 228, 229, 230, 231, 232, 150, 128, 129, 130, 233, 234, 235, 236, 237, 238, 239, 240, 241, 242, 243, 244, 245, 140, 246, 247, 248, 249, 154, 250, 156, 251, 252, 253, 254, 157, 255, 256, 257, 258, 138, 259, 260, 261, 262, 141, 263, 264, 265, 266, 267, 133, 268, 269, 270, 271, 272, 273, 274, 275, 276, 277, 278, 279, 280, 281, 282, 283, 284, 285, 286, 287, 288, 289, 290, 291, 292, 293, 294, 295, 296, 297, 298, 299, 158, 300, 301, 302, 303, 304, 305, 306, 307, 308, 309, 310, 311, 312, 313, 314, 315, 316, 317, 318, 319, 320, 321, 322, 323, 324, 325, 326, 327, 328, 329, 330, 331, 136, 332, 333, 334, 335, 336, 337, 338, 339, 340, 341, 342, 343, 344, 345, 346, 347, 358, 359, 360, 361, 362, 363, 364, 365, 366, 367, 368, 369, 370, 371, 372, 373, 374, 375, 376, 377, 378, 379, 380, 381] (by decide +kernel) (by decide +kernel)
set_option maxRecDepth 20000 in
theorem gX7_load_X5_doCommand : GoodIn wsX7_load (wsV RX7 96 RX5 yX5_doCommand wsX5_doCommand) := goodIn_app (goodIn_of _ (by decide +kernel)) ggX7_load_X5_doCommand
set_option maxRecDepth 20000 in
theorem ggX7_load_X5_readSign : GoodIn wsX7_load wsX5_readSign := goodIn_r _ [101, 15, 53, 54, 55, 13, 56, 16, 57, 358, 359, 360, 361, 362] (by decide +kernel) (by decide +kernel)
set_option maxRecDepth 20000 in
theorem gX7_load_X5_readSign : GoodIn wsX7_load (wsV RX7 100 RX5 yX5_readSign wsX5_readSign) := goodIn_app (goodIn_of _ (by decide +kernel)) ggX7_load_X5_readSign
theorem dX7_load_0 : decode cX7_load 0 = .ok (.aload_n 0, 1) := by decide +kernel
theorem dX7_load_1 : decode cX7_load 1 = .ok (.getfield 10, 3) := by decide +kernel
theorem dX7_load_4 : decode cX7_load 4 = .ok (.invokevirtual 74, 3) := by decide +kernel
theorem dX7_load_7 : decode cX7_load 7 = .ok (.iconst (-1), 1) := by decide +kernel
theorem dX7_load_8 : decode cX7_load 8 = .ok (.if_icmp .eq 13, 3) := by decide +kernel
theorem dX7_load_11 : decode cX7_load 11 = .ok (.new 61, 3) := by decide +kernel
theorem dX7_load_14 : decode cX7_load 14 = .ok (.dup, 1) := by decide +kernel
theorem dX7_load_15 : decode cX7_load 15 = .ok (.ldc 77, 2) := by decide +kernel
theorem dX7_load_17 : decode cX7_load 17 = .ok (.invokespecial 65, 3) := by decide +kernel
theorem dX7_load_20 : decode cX7_load 20 = .ok (.athrow, 1) := by decide +kernel
theorem dX7_load_21 : decode cX7_load 21 = .ok (.aload_n 0, 1) := by decide +kernel
theorem dX7_load_22 : decode cX7_load 22 = .ok (.getfield 19, 3) := by decide +kernel
theorem dX7_load_25 : decode cX7_load 25 = .ok (.aload_n 0, 1) := by decide +kernel
theorem dX7_load_26 : decode cX7_load 26 = .ok (.getfield 43, 3) := by decide +kernel
theorem dX7_load_29 : decode cX7_load 29 = .ok (.invokevirtual 79, 3) := by decide +kernel
theorem dX7_load_32 : decode cX7_load 32 = .ok (.aload_n 0, 1) := by decide +kernel
theorem dX7_load_33 : decode cX7_load 33 = .ok (.getfield 26, 3) := by decide +kernel
theorem dX7_load_36 : decode cX7_load 36 = .ok (.invokevirtual 83, 3) := by decide +kernel
theorem dX7_load_39 : decode cX7_load 39 = .ok (.aload_n 0, 1) := by decide +kernel
theorem dX7_load_40 : decode cX7_load 40 = .ok (.getfield 33, 3) := by decide +kernel
theorem dX7_load_43 : decode cX7_load 43 = .ok (.iconst 0, 1) := by decide +kernel
theorem dX7_load_44 : decode cX7_load 44 = .ok (.putfield 86, 3) := by decide +kernel
theorem dX7_load_47 : decode cX7_load 47 = .ok (.aload_n 0, 1) := by decide +kernel
theorem dX7_load_48 : decode cX7_load 48 = .ok (.getfield 37, 3) := by decide +kernel
theorem dX7_load_51 : decode cX7_load 51 = .ok (.iconst 0, 1) := by decide +kernel
theorem dX7_load_52 : decode cX7_load 52 = .ok (.putfield 86, 3) := by decide +kernel
theorem dX7_load_55 : decode cX7_load 55 = .ok (.iconst 0, 1) := by decide +kernel
theorem dX7_load_56 : decode cX7_load 56 = .ok (.istore_n 1, 1) := by decide +kernel
theorem dX7_load_57 : decode cX7_load 57 = .ok (.aload_n 0, 1) := by decide +kernel
theorem dX7_load_58 : decode cX7_load 58 = .ok (.getfield 10, 3) := by decide +kernel
theorem dX7_load_61 : decode cX7_load 61 = .ok (.invokevirtual 90, 3) := by decide +kernel
theorem dX7_load_64 : decode cX7_load 64 = .ok (.bipush 120, 2) := by decide +kernel
theorem dX7_load_66 : decode cX7_load 66 = .ok (.istore_n 2, 1) := by decide +kernel
theorem dX7_load_67 : decode cX7_load 67 = .ok (.iload_n 2, 1) := by decide +kernel
theorem dX7_load_68 : decode cX7_load 68 = .ok (.ifCond .le 46, 3) := by decide +kernel
theorem dX7_load_71 : decode cX7_load 71 = .ok (.aload_n 0, 1) := by decide +kernel
theorem dX7_load_72 : decode cX7_load 72 = .ok (.getfield 10, 3) := by decide +kernel
theorem dX7_load_75 : decode cX7_load 75 = .ok (.invokevirtual 93, 3) := by decide +kernel
theorem dX7_load_78 : decode cX7_load 78 = .ok (.ifCond .eq 36, 3) := by decide +kernel
theorem dX7_load_81 : decode cX7_load 81 = .ok (.aload_n 0, 1) := by decide +kernel
theorem dX7_load_82 : decode cX7_load 82 = .ok (.getfield 10, 3) := by decide +kernel
theorem dX7_load_85 : decode cX7_load 85 = .ok (.aload_n 0, 1) := by decide +kernel
theorem dX7_load_86 : decode cX7_load 86 = .ok (.getfield 19, 3) := by decide +kernel
theorem dX7_load_89 : decode cX7_load 89 = .ok (.invokevirtual 96, 3) := by decide +kernel
theorem dX7_load_92 : decode cX7_load 92 = .ok (.ifCond .ge 6, 3) := by decide +kernel
theorem dX7_load_95 : decode cX7_load 95 = .ok (.iinc 1 1, 3) := by decide +kernel
theorem dX7_load_98 : decode cX7_load 98 = .ok (.aload_n 0, 1) := by decide +kernel
theorem dX7_load_99 : decode cX7_load 99 = .ok (.getfield 10, 3) := by decide +kernel
theorem dX7_load_102 : decode cX7_load 102 = .ok (.bipush 59, 2) := by decide +kernel
theorem dX7_load_104 : decode cX7_load 104 = .ok (.invokevirtual 100, 3) := by decide +kernel
theorem dX7_load_107 : decode cX7_load 107 = .ok (.pop, 1) := by decide +kernel
theorem dX7_load_108 : decode cX7_load 108 = .ok (.iinc 2 (-1), 3) := by decide +kernel
theorem dX7_load_111 : decode cX7_load 111 = .ok (.goto (-44), 3) := by decide +kernel
theorem dX7_load_114 : decode cX7_load 114 = .ok (.iload_n 1, 1) := by decide +kernel
theorem dX7_load_115 : decode cX7_load 115 = .ok (.ireturn, 1) := by decide +kernel
set_option maxRecDepth 20000 in
theorem ggX7_about_X7_isBetween : GoodIn wsX7_about wsX7_isBetween := goodIn_r _ [7] (by decide +kernel) (by decide +kernel)
set_option maxRecDepth 20000 in
theorem gX7_about_X7_isBetween : GoodIn wsX7_about (va_wsS RX7 46 yX7_isBetween wsX7_isBetween) := goodIn_app (goodIn_of _ (by decide +kernel)) ggX7_about_X7_isBetween
set_option maxRecDepth 20000 in
theorem ggX7_about_X2_numberOfAll : GoodIn wsX7_about wsX2_numberOfAll := goodIn_r _ [12, 13, 14, 15, 16, 17, 18, 19, 20, 21, 22, 23, 24, 11, 25, 33, 34, 35, 36, 37, 38, 39, 40, 41, 42, 43, 44, 45, 46, 47, 48, 49, 50, 51] (by decide +kernel) (by decide +kernel)
set_option maxRecDepth 20000 in
theorem gX7_about_X2_numberOfAll : GoodIn wsX7_about (wsV RX7 106 RX2 yX2_numberOfAll wsX2_numberOfAll) := goodIn_app (goodIn_of _ (by decide +kernel)) ggX7_about_X2_numberOfAll
theorem dX7_about_0 : decode cX7_about 0 = .ok (.iload_n 1, 1) := by decide +kernel
theorem dX7_about_1 : decode cX7_about 1 = .ok (.iconst 0, 1) := by decide +kernel
theorem dX7_about_2 : decode cX7_about 2 = .ok (.bipush 10, 2) := by decide +kernel
theorem dX7_about_4 : decode cX7_about 4 = .ok (.invokestatic 46, 3) := by decide +kernel
theorem dX7_about_7 : decode cX7_about 7 = .ok (.ifCond .ne 13, 3) := by decide +kernel
theorem dX7_about_10 : decode cX7_about 10 = .ok (.new 50, 3) := by decide +kernel
theorem dX7_about_13 : decode cX7_about 13 = .ok (.dup, 1) := by decide +kernel
theorem dX7_about_14 : decode cX7_about 14 = .ok (.ldc 104, 2) := by decide +kernel
theorem dX7_about_16 : decode cX7_about 16 = .ok (.invokespecial 54, 3) := by decide +kernel
theorem dX7_about_19 : decode cX7_about 19 = .ok (.athrow, 1) := by decide +kernel
theorem dX7_about_20 : decode cX7_about 20 = .ok (.aload_n 0, 1) := by decide +kernel
theorem dX7_about_21 : decode cX7_about 21 = .ok (.getfield 19, 3) := by decide +kernel
theorem dX7_about_24 : decode cX7_about 24 = .ok (.iload_n 1, 1) := by decide +kernel
theorem dX7_about_25 : decode cX7_about 25 = .ok (.invokevirtual 106, 3) := by decide +kernel
theorem dX7_about_28 : decode cX7_about 28 = .ok (.ireturn, 1) := by decide +kernel
set_option maxRecDepth 20000 in
theorem ggX7_prisoner_X2_hasPrisoner : GoodIn wsX7_prisoner wsX2_hasPrisoner := goodIn_r _ [10, 11, 74, 75, 76, 77, 78, 79, 80, 81, 82, 83, 84, 85, 86, 87, 88] (by decide +kernel) (by decide +kernel)
set_option maxRecDepth 20000 in
theorem gX7_prisoner_X2_hasPrisoner : GoodIn wsX7_prisoner (wsV RX7 109 RX2 yX2_hasPrisoner wsX2_hasPrisoner) := goodIn_app (goodIn_of _ (by decide +kernel)) ggX7_prisoner_X2_hasPrisoner
set_option maxRecDepth 20000 in
theorem ggX7_prisoner_X7_isBetween : GoodIn wsX7_prisoner wsX7_isBetween := goodIn_r _ [15] (by decide +kernel) (by decide +kernel)
set_option maxRecDepth 20000 in
theorem gX7_prisoner_X7_isBetween : GoodIn wsX7_prisoner (va_wsS RX7 46 yX7_isBetween wsX7_isBetween) := goodIn_app (goodIn_of _ (by decide +kernel)) ggX7_prisoner_X7_isBetween
set_option maxRecDepth 20000 in
theorem ggX7_prisoner_X2_numberOfPrisoner : GoodIn wsX7_prisoner wsX2_numberOfPrisoner := goodIn_r _ [19, 20, 21, 22, 23, 24, 25, 26, 27, 28, 29, 7, 8, 9, 10, 11, 30, 31, 32, 33, 34, 35, 36, 37, 38, 39, 40, 41, 42, 43, 44, 45, 46, 47, 48, 49, 50, 51, 52, 53, 54, 55, 56, 57, 58, 59, 60, 61, 62, 63, 64, 65, 66, 74, 75, 76, 77, 78, 79, 80, 81, 82, 83, 84, 85, 86, 87, 88, 89, 90, 91, 92] (by decide +kernel) (by decide +kernel)
set_option maxRecDepth 20000 in
theorem gX7_prisoner_X2_numberOfPrisoner : GoodIn wsX7_prisoner (wsV RX7 120 RX2 yX2_numberOfPrisoner wsX2_numberOfPrisoner) := goodIn_app (goodIn_of _ (by decide +kernel)) ggX7_prisoner_X2_numberOfPrisoner
theorem dX7_prisoner_0 : decode cX7_prisoner 0 = .ok (.aload_n 0, 1) := by decide +kernel
theorem dX7_prisoner_1 : decode cX7_prisoner 1 = .ok (.getfield 19, 3) := by decide +kernel
theorem dX7_prisoner_4 : decode cX7_prisoner 4 = .ok (.iload_n 1, 1) := by decide +kernel
theorem dX7_prisoner_5 : decode cX7_prisoner 5 = .ok (.invokevirtual 109, 3) := by decide +kernel
theorem dX7_prisoner_8 : decode cX7_prisoner 8 = .ok (.ifCond .ne 13, 3) := by decide +kernel
theorem dX7_prisoner_11 : decode cX7_prisoner 11 = .ok (.new 113, 3) := by decide +kernel
theorem dX7_prisoner_14 : decode cX7_prisoner 14 = .ok (.dup, 1) := by decide +kernel
theorem dX7_prisoner_15 : decode cX7_prisoner 15 = .ok (.ldc 115, 2) := by decide +kernel
theorem dX7_prisoner_17 : decode cX7_prisoner 17 = .ok (.invokespecial 117, 3) := by decide +kernel
theorem dX7_prisoner_20 : decode cX7_prisoner 20 = .ok (.athrow, 1) := by decide +kernel
theorem dX7_prisoner_21 : decode cX7_prisoner 21 = .ok (.iload_n 2, 1) := by decide +kernel
theorem dX7_prisoner_22 : decode cX7_prisoner 22 = .ok (.iconst 0, 1) := by decide +kernel
theorem dX7_prisoner_23 : decode cX7_prisoner 23 = .ok (.bipush 7, 2) := by decide +kernel
theorem dX7_prisoner_25 : decode cX7_prisoner 25 = .ok (.invokestatic 46, 3) := by decide +kernel
theorem dX7_prisoner_28 : decode cX7_prisoner 28 = .ok (.ifCond .ne 13, 3) := by decide +kernel
theorem dX7_prisoner_31 : decode cX7_prisoner 31 = .ok (.new 50, 3) := by decide +kernel
theorem dX7_prisoner_34 : decode cX7_prisoner 34 = .ok (.dup, 1) := by decide +kernel
theorem dX7_prisoner_35 : decode cX7_prisoner 35 = .ok (.ldc 118, 2) := by decide +kernel
theorem dX7_prisoner_37 : decode cX7_prisoner 37 = .ok (.invokespecial 54, 3) := by decide +kernel
theorem dX7_prisoner_40 : decode cX7_prisoner 40 = .ok (.athrow, 1) := by decide +kernel
theorem dX7_prisoner_41 : decode cX7_prisoner 41 = .ok (.aload_n 0, 1) := by decide +kernel
theorem dX7_prisoner_42 : decode cX7_prisoner 42 = .ok (.getfield 19, 3) := by decide +kernel
theorem dX7_prisoner_45 : decode cX7_prisoner 45 = .ok (.iload_n 1, 1) := by decide +kernel
theorem dX7_prisoner_46 : decode cX7_prisoner 46 = .ok (.iload_n 2, 1) := by decide +kernel
theorem dX7_prisoner_47 : decode cX7_prisoner 47 = .ok (.invokevirtual 120, 3) := by decide +kernel
theorem dX7_prisoner_50 : decode cX7_prisoner 50 = .ok (.ireturn, 1) := by decide +kernel
set_option maxRecDepth 20000 in
theorem ggX7_visitor_X2_hasVisitor : GoodIn wsX7_visitor wsX2_hasVisitor := goodIn_r _ [9] (by decide +kernel) (by decide +kernel)
set_option maxRecDepth 20000 in
theorem gX7_visitor_X2_hasVisitor : GoodIn wsX7_visitor (va_wsS RX7 124 yX2_hasVisitor wsX2_hasVisitor) := goodIn_app (goodIn_of _ (by decide +kernel)) ggX7_visitor_X2_hasVisitor
set_option maxRecDepth 20000 in
theorem ggX7_visitor_X7_isBetween : GoodIn wsX7_visitor wsX7_isBetween := goodIn_r _ [13] (by decide +kernel) (by decide +kernel)
set_option maxRecDepth 20000 in
theorem gX7_visitor_X7_isBetween : GoodIn wsX7_visitor (va_wsS RX7 46 yX7_isBetween wsX7_isBetween) := goodIn_app (goodIn_of _ (by decide +kernel)) ggX7_visitor_X7_isBetween
set_option maxRecDepth 20000 in
theorem ggX7_visitor_X2_numberOfVisitor : GoodIn wsX7_visitor wsX2_numberOfVisitor := goodIn_r _ [17, 18, 19, 20, 21, 22, 7, 8, 9, 23, 12, 24, 25, 26, 27, 28, 29, 30, 31, 32, 33, 34, 35, 36, 37, 38, 39, 40, 41, 42, 43, 44, 45, 46, 54, 55, 56, 57, 58, 59, 60, 61, 62, 63, 64, 65, 66, 67, 68, 69, 70] (by decide +kernel) (by decide +kernel)
set_option maxRecDepth 20000 in
theorem gX7_visitor_X2_numberOfVisitor : GoodIn wsX7_visitor (wsV RX7 131 RX2 yX2_numberOfVisitor wsX2_numberOfVisitor) := goodIn_app (goodIn_of _ (by decide +kernel)) ggX7_visitor_X2_numberOfVisitor
theorem dX7_visitor_0 : decode cX7_visitor 0 = .ok (.iload_n 1, 1) := by decide +kernel
theorem dX7_visitor_1 : decode cX7_visitor 1 = .ok (.invokestatic 124, 3) := by decide +kernel
theorem dX7_visitor_4 : decode cX7_visitor 4 = .ok (.ifCond .ne 13, 3) := by decide +kernel
theorem dX7_visitor_7 : decode cX7_visitor 7 = .ok (.new 113, 3) := by decide +kernel
theorem dX7_visitor_10 : decode cX7_visitor 10 = .ok (.dup, 1) := by decide +kernel
theorem dX7_visitor_11 : decode cX7_visitor 11 = .ok (.ldc 127, 2) := by decide +kernel
theorem dX7_visitor_13 : decode cX7_visitor 13 = .ok (.invokespecial 117, 3) := by decide +kernel
theorem dX7_visitor_16 : decode cX7_visitor 16 = .ok (.athrow, 1) := by decide +kernel
theorem dX7_visitor_17 : decode cX7_visitor 17 = .ok (.iload_n 2, 1) := by decide +kernel
theorem dX7_visitor_18 : decode cX7_visitor 18 = .ok (.iconst 0, 1) := by decide +kernel
theorem dX7_visitor_19 : decode cX7_visitor 19 = .ok (.iconst 4, 1) := by decide +kernel
theorem dX7_visitor_20 : decode cX7_visitor 20 = .ok (.invokestatic 46, 3) := by decide +kernel
theorem dX7_visitor_23 : decode cX7_visitor 23 = .ok (.ifCond .ne 13, 3) := by decide +kernel
theorem dX7_visitor_26 : decode cX7_visitor 26 = .ok (.new 50, 3) := by decide +kernel
theorem dX7_visitor_29 : decode cX7_visitor 29 = .ok (.dup, 1) := by decide +kernel
theorem dX7_visitor_30 : decode cX7_visitor 30 = .ok (.ldc 129, 2) := by decide +kernel
theorem dX7_visitor_32 : decode cX7_visitor 32 = .ok (.invokespecial 54, 3) := by decide +kernel
theorem dX7_visitor_35 : decode cX7_visitor 35 = .ok (.athrow, 1) := by decide +kernel
theorem dX7_visitor_36 : decode cX7_visitor 36 = .ok (.aload_n 0, 1) := by decide +kernel
theorem dX7_visitor_37 : decode cX7_visitor 37 = .ok (.getfield 19, 3) := by decide +kernel
theorem dX7_visitor_40 : decode cX7_visitor 40 = .ok (.iload_n 1, 1) := by decide +kernel
theorem dX7_visitor_41 : decode cX7_visitor 41 = .ok (.iload_n 2, 1) := by decide +kernel
theorem dX7_visitor_42 : decode cX7_visitor 42 = .ok (.invokevirtual 131, 3) := by decide +kernel
theorem dX7_visitor_45 : decode cX7_visitor 45 = .ok (.ireturn, 1) := by decide +kernel
set_option maxRecDepth 20000 in
theorem ggX7_booking_X0_has : GoodIn wsX7_booking wsX0_has := goodIn_r _ [11, 12, 45, 46] (by decide +kernel) (by decide +kernel)
set_option maxRecDepth 20000 in
theorem gX7_booking_X0_has : GoodIn wsX7_booking (wsV RX7 138 RX0 yX0_has wsX0_has) := goodIn_app (goodIn_of _ (by decide +kernel)) ggX7_booking_X0_has
set_option maxRecDepth 20000 in
theorem ggX7_booking_X7_isBetween : GoodIn wsX7_booking wsX7_isBetween := goodIn_r _ [16] (by decide +kernel) (by decide +kernel)
set_option maxRecDepth 20000 in
theorem gX7_booking_X7_isBetween : GoodIn wsX7_booking (va_wsS RX7 46 yX7_isBetween wsX7_isBetween) := goodIn_app (goodIn_of _ (by decide +kernel)) ggX7_booking_X7_isBetween
set_option maxRecDepth 20000 in
theorem ggX7_booking_X0_at : GoodIn wsX7_booking wsX0_at := goodIn_r _ [20, 21, 22, 8, 9, 10, 11, 12, 45, 46] (by decide +kernel) (by decide +kernel)
set_option maxRecDepth 20000 in
theorem gX7_booking_X0_at : GoodIn wsX7_booking (wsV RX7 147 RX0 yX0_at wsX0_at) := goodIn_app (goodIn_of _ (by decide +kernel)) ggX7_booking_X0_at
theorem dX7_booking_0 : decode cX7_booking 0 = .ok (.aload_n 0, 1) := by decide +kernel
theorem dX7_booking_1 : decode cX7_booking 1 = .ok (.getfield 19, 3) := by decide +kernel
theorem dX7_booking_4 : decode cX7_booking 4 = .ok (.getfield 134, 3) := by decide +kernel
theorem dX7_booking_7 : decode cX7_booking 7 = .ok (.iload_n 1, 1) := by decide +kernel
theorem dX7_booking_8 : decode cX7_booking 8 = .ok (.invokevirtual 138, 3) := by decide +kernel
theorem dX7_booking_11 : decode cX7_booking 11 = .ok (.ifCond .ne 13, 3) := by decide +kernel
theorem dX7_booking_14 : decode cX7_booking 14 = .ok (.new 113, 3) := by decide +kernel
theorem dX7_booking_17 : decode cX7_booking 17 = .ok (.dup, 1) := by decide +kernel
theorem dX7_booking_18 : decode cX7_booking 18 = .ok (.ldc 143, 2) := by decide +kernel
theorem dX7_booking_20 : decode cX7_booking 20 = .ok (.invokespecial 117, 3) := by decide +kernel
theorem dX7_booking_23 : decode cX7_booking 23 = .ok (.athrow, 1) := by decide +kernel
theorem dX7_booking_24 : decode cX7_booking 24 = .ok (.iload_n 2, 1) := by decide +kernel
theorem dX7_booking_25 : decode cX7_booking 25 = .ok (.iconst 0, 1) := by decide +kernel
theorem dX7_booking_26 : decode cX7_booking 26 = .ok (.iconst 5, 1) := by decide +kernel
theorem dX7_booking_27 : decode cX7_booking 27 = .ok (.invokestatic 46, 3) := by decide +kernel
theorem dX7_booking_30 : decode cX7_booking 30 = .ok (.ifCond .ne 13, 3) := by decide +kernel
theorem dX7_booking_33 : decode cX7_booking 33 = .ok (.new 50, 3) := by decide +kernel
theorem dX7_booking_36 : decode cX7_booking 36 = .ok (.dup, 1) := by decide +kernel
theorem dX7_booking_37 : decode cX7_booking 37 = .ok (.ldc 145, 2) := by decide +kernel
theorem dX7_booking_39 : decode cX7_booking 39 = .ok (.invokespecial 54, 3) := by decide +kernel
theorem dX7_booking_42 : decode cX7_booking 42 = .ok (.athrow, 1) := by decide +kernel
theorem dX7_booking_43 : decode cX7_booking 43 = .ok (.aload_n 0, 1) := by decide +kernel
theorem dX7_booking_44 : decode cX7_booking 44 = .ok (.getfield 19, 3) := by decide +kernel
theorem dX7_booking_47 : decode cX7_booking 47 = .ok (.getfield 134, 3) := by decide +kernel
theorem dX7_booking_50 : decode cX7_booking 50 = .ok (.iload_n 1, 1) := by decide +kernel
theorem dX7_booking_51 : decode cX7_booking 51 = .ok (.iload_n 2, 1) := by decide +kernel
theorem dX7_booking_52 : decode cX7_booking 52 = .ok (.invokevirtual 147, 3) := by decide +kernel
theorem dX7_booking_55 : decode cX7_booking 55 = .ok (.ireturn, 1) := by decide +kernel
set_option maxRecDepth 20000 in
theorem ggX7_line_X0_has : GoodIn wsX7_line wsX0_has := goodIn_r _ [11, 12, 292, 293] (by decide +kernel) (by decide +kernel)
set_option maxRecDepth 20000 in
theorem gX7_line_X0_has : GoodIn wsX7_line (wsV RX7 138 RX0 yX0_has wsX0_has) := goodIn_app (goodIn_of _ (by decide +kernel)) ggX7_line_X0_has
set_option maxRecDepth 20000 in
theorem ggX7_line_X2_lineOf : GoodIn wsX7_line wsX2_lineOf := goodIn_r _ [17, 18, 19, 20, 21, 22, 23, 24, 25, 26, 27, 28, 29, 30, 31, 32, 33, 34, 35, 36, 37, 38, 39, 40, 41, 42, 43, 44, 45, 46, 10, 47, 48, 49, 8, 9, 11, 12, 50, 51, 52, 53, 54, 55, 56, 57, 58, 59, 60, 61, 62, 63, 64, 65, 66, 67, 68, 69, 70, 71, 72, 73, 74, 75, 76, 77, 78, 79, 80, 81, 82, 83, 84, 85, 86, 87, 88, 89, 90, 91, 92, 93, 94, 95, 96, 97, 98, 99, 100, 101, 102, 103, 104, 105, 106, 107, 108, 109, 110, 111, 112, 113, 114, 115, 116, 117, 118, 119, 120, 121, 122, 123, 124, 125, 126, 127, 128, 129, 130, 131, 132, 133, 134, 135, 136, 137, 138, 139, 140, 141, 142, 143, 144, 145, 146, 147, 148, 149, 150, 151, 152, 153, 154, 155, 156, 157, 158, 159, 160, 161, 162, 163, 164, 165, 166, 167, 168, 169, 170, 171, 172, 173, 174, 175, 176, 177, 178, 179, 180, 181, 182, 183, 184, 185, 186, 187, 188, 189, 190, 191, 192, 193, 194, 195, 196, 197, 198, 199, 200, 201, 202, 203, 204, 205, 206, 207, 208, 209, 210, 211, 212, 213, 214, 215, 216, 217, 218, 219, 220, 221, 222, 223, 224, 225, 226, 227, 228, 229, 230, 231, 232, 233, 16, 234, 235, 236, 237, 238, 239, 240, 241, 242, 243, 244, 245, 246, 247, 248, 294, 295, 296, 297, 277, 278, 279, 280, 281, 282, 283, 284, 285, 286, 287, 288, 289, 290, 291, 292, 293] (by decide +kernel) (by decide +kernel)
set_option maxRecDepth 20000 in
theorem gX7_line_X2_lineOf : GoodIn wsX7_line (wsV RX7 152 RX2 yX2_lineOf wsX2_lineOf) := goodIn_app (goodIn_of _ (by decide +kernel)) ggX7_line_X2_lineOf
set_option maxRecDepth 20000 in
theorem ggX7_line_J4_length_8abf5 : GoodIn wsX7_line wsJ4_length_8abf5 := goodIn_r _ [252, 253, 254, 56, 255, 27, 256, 59, 294, 295, 296, 297] (by decide +kernel) (by decide +kernel)
set_option maxRecDepth 20000 in
theorem gX7_line_J4_length_8abf5 : GoodIn wsX7_line (wsV RX7 156 RJ4 yJ4_length_8abf5 wsJ4_length_8abf5) := goodIn_app (goodIn_of _ (by decide +kernel)) ggX7_line_J4_length_8abf5
set_option maxRecDepth 20000 in
theorem ggX7_line_J4_charAt_5068e : GoodIn wsX7_line wsJ4_charAt_5068e := goodIn_r _ [260, 261, 262, 56, 263, 27, 264, 35, 34, 59, 265, 98, 81, 99, 266, 182, 126, 183, 128, 184, 185, 131, 186, 267, 268, 38, 269, 117, 141, 142, 121, 122, 123, 294, 295, 296, 297] (by decide +kernel) (by decide +kernel)
set_option maxRecDepth 20000 in
theorem gX7_line_J4_charAt_5068e : GoodIn wsX7_line (wsV RX7 161 RJ4 yJ4_charAt_5068e wsJ4_charAt_5068e) := goodIn_app (goodIn_of _ (by decide +kernel)) ggX7_line_J4_charAt_5068e
theorem dX7_line_0 : decode cX7_line 0 = .ok (.aload_n 0, 1) := by decide +kernel
theorem dX7_line_1 : decode cX7_line 1 = .ok (.getfield 19, 3) := by decide +kernel
theorem dX7_line_4 : decode cX7_line 4 = .ok (.getfield 134, 3) := by decide +kernel
theorem dX7_line_7 : decode cX7_line 7 = .ok (.iload_n 1, 1) := by decide +kernel
theorem dX7_line_8 : decode cX7_line 8 = .ok (.invokevirtual 138, 3) := by decide +kernel
theorem dX7_line_11 : decode cX7_line 11 = .ok (.ifCond .ne 13, 3) := by decide +kernel
theorem dX7_line_14 : decode cX7_line 14 = .ok (.new 113, 3) := by decide +kernel
theorem dX7_line_17 : decode cX7_line 17 = .ok (.dup, 1) := by decide +kernel
theorem dX7_line_18 : decode cX7_line 18 = .ok (.ldc 143, 2) := by decide +kernel
theorem dX7_line_20 : decode cX7_line 20 = .ok (.invokespecial 117, 3) := by decide +kernel
theorem dX7_line_23 : decode cX7_line 23 = .ok (.athrow, 1) := by decide +kernel
theorem dX7_line_24 : decode cX7_line 24 = .ok (.iload_n 2, 1) := by decide +kernel
theorem dX7_line_25 : decode cX7_line 25 = .ok (.ifCond .ge 13, 3) := by decide +kernel
theorem dX7_line_28 : decode cX7_line 28 = .ok (.new 50, 3) := by decide +kernel
theorem dX7_line_31 : decode cX7_line 31 = .ok (.dup, 1) := by decide +kernel
theorem dX7_line_32 : decode cX7_line 32 = .ok (.ldc 150, 2) := by decide +kernel
theorem dX7_line_34 : decode cX7_line 34 = .ok (.invokespecial 54, 3) := by decide +kernel
theorem dX7_line_37 : decode cX7_line 37 = .ok (.athrow, 1) := by decide +kernel
theorem dX7_line_38 : decode cX7_line 38 = .ok (.aload_n 0, 1) := by decide +kernel
theorem dX7_line_39 : decode cX7_line 39 = .ok (.getfield 19, 3) := by decide +kernel
theorem dX7_line_42 : decode cX7_line 42 = .ok (.iload_n 1, 1) := by decide +kernel
theorem dX7_line_43 : decode cX7_line 43 = .ok (.invokevirtual 152, 3) := by decide +kernel
theorem dX7_line_46 : decode cX7_line 46 = .ok (.astore_n 3, 1) := by decide +kernel
theorem dX7_line_47 : decode cX7_line 47 = .ok (.iload_n 2, 1) := by decide +kernel
theorem dX7_line_48 : decode cX7_line 48 = .ok (.aload_n 3, 1) := by decide +kernel
theorem dX7_line_49 : decode cX7_line 49 = .ok (.invokevirtual 156, 3) := by decide +kernel
theorem dX7_line_52 : decode cX7_line 52 = .ok (.if_icmp .ge 11, 3) := by decide +kernel
theorem dX7_line_55 : decode cX7_line 55 = .ok (.aload_n 3, 1) := by decide +kernel
theorem dX7_line_56 : decode cX7_line 56 = .ok (.iload_n 2, 1) := by decide +kernel
theorem dX7_line_57 : decode cX7_line 57 = .ok (.invokevirtual 161, 3) := by decide +kernel
theorem dX7_line_60 : decode cX7_line 60 = .ok (.goto 4, 3) := by decide +kernel
theorem dX7_line_63 : decode cX7_line 63 = .ok (.iconst (-1), 1) := by decide +kernel
theorem dX7_line_64 : decode cX7_line 64 = .ok (.ireturn, 1) := by decide +kernel
set_option maxRecDepth 20000 in
theorem ggX7_wishAt_X6_inTurn : GoodIn wsX7_wishAt wsX6_inTurn := goodIn_r _ [10, 11, 12, 13, 14, 9, 15, 16, 17, 18, 19, 20, 47, 48] (by decide +kernel) (by decide +kernel)
set_option maxRecDepth 20000 in
theorem gX7_wishAt_X6_inTurn : GoodIn wsX7_wishAt (wsV RX7 175 RX6 yX6_inTurn wsX6_inTurn) := goodIn_app (goodIn_of _ (by decide +kernel)) ggX7_wishAt_X6_inTurn
set_option maxRecDepth 20000 in
theorem ggX7_wishAt_X6_at : GoodIn wsX7_wishAt wsX6_at := goodIn_r _ [24, 11, 20, 47, 48] (by decide +kernel) (by decide +kernel)
set_option maxRecDepth 20000 in
theorem gX7_wishAt_X6_at : GoodIn wsX7_wishAt (wsV RX7 181 RX6 yX6_at wsX6_at) := goodIn_app (goodIn_of _ (by decide +kernel)) ggX7_wishAt_X6_at
theorem dX7_wishAt_0 : decode cX7_wishAt 0 = .ok (.iload_n 1, 1) := by decide +kernel
theorem dX7_wishAt_1 : decode cX7_wishAt 1 = .ok (.ifCond .ge 13, 3) := by decide +kernel
theorem dX7_wishAt_4 : decode cX7_wishAt 4 = .ok (.new 50, 3) := by decide +kernel
theorem dX7_wishAt_7 : decode cX7_wishAt 7 = .ok (.dup, 1) := by decide +kernel
theorem dX7_wishAt_8 : decode cX7_wishAt 8 = .ok (.ldc 165, 2) := by decide +kernel
theorem dX7_wishAt_10 : decode cX7_wishAt 10 = .ok (.invokespecial 54, 3) := by decide +kernel
theorem dX7_wishAt_13 : decode cX7_wishAt 13 = .ok (.athrow, 1) := by decide +kernel
theorem dX7_wishAt_14 : decode cX7_wishAt 14 = .ok (.aload_n 0, 1) := by decide +kernel
theorem dX7_wishAt_15 : decode cX7_wishAt 15 = .ok (.getfield 19, 3) := by decide +kernel
theorem dX7_wishAt_18 : decode cX7_wishAt 18 = .ok (.getfield 167, 3) := by decide +kernel
theorem dX7_wishAt_21 : decode cX7_wishAt 21 = .ok (.aload_n 0, 1) := by decide +kernel
theorem dX7_wishAt_22 : decode cX7_wishAt 22 = .ok (.getfield 19, 3) := by decide +kernel
theorem dX7_wishAt_25 : decode cX7_wishAt 25 = .ok (.getfield 167, 3) := by decide +kernel
theorem dX7_wishAt_28 : decode cX7_wishAt 28 = .ok (.iload_n 1, 1) := by decide +kernel
theorem dX7_wishAt_29 : decode cX7_wishAt 29 = .ok (.aload_n 0, 1) := by decide +kernel
theorem dX7_wishAt_30 : decode cX7_wishAt 30 = .ok (.getfield 19, 3) := by decide +kernel
theorem dX7_wishAt_33 : decode cX7_wishAt 33 = .ok (.getfield 171, 3) := by decide +kernel
theorem dX7_wishAt_36 : decode cX7_wishAt 36 = .ok (.invokevirtual 175, 3) := by decide +kernel
theorem dX7_wishAt_39 : decode cX7_wishAt 39 = .ok (.invokevirtual 181, 3) := by decide +kernel
theorem dX7_wishAt_42 : decode cX7_wishAt 42 = .ok (.ireturn, 1) := by decide +kernel
set_option maxRecDepth 20000 in
theorem ggX7_setting_X2_hasSetting : GoodIn wsX7_setting wsX2_hasSetting := goodIn_r _ [8, 9] (by decide +kernel) (by decide +kernel)
set_option maxRecDepth 20000 in
theorem gX7_setting_X2_hasSetting : GoodIn wsX7_setting (va_wsS RX7 183 yX2_hasSetting wsX2_hasSetting) := goodIn_app (goodIn_of _ (by decide +kernel)) ggX7_setting_X2_hasSetting
theorem dX7_setting_0 : decode cX7_setting 0 = .ok (.iload_n 1, 1) := by decide +kernel
theorem dX7_setting_1 : decode cX7_setting 1 = .ok (.invokestatic 183, 3) := by decide +kernel
theorem dX7_setting_4 : decode cX7_setting 4 = .ok (.ifCond .ne 13, 3) := by decide +kernel
theorem dX7_setting_7 : decode cX7_setting 7 = .ok (.new 50, 3) := by decide +kernel
theorem dX7_setting_10 : decode cX7_setting 10 = .ok (.dup, 1) := by decide +kernel
theorem dX7_setting_11 : decode cX7_setting 11 = .ok (.ldc 186, 2) := by decide +kernel
theorem dX7_setting_13 : decode cX7_setting 13 = .ok (.invokespecial 54, 3) := by decide +kernel
theorem dX7_setting_16 : decode cX7_setting 16 = .ok (.athrow, 1) := by decide +kernel
theorem dX7_setting_17 : decode cX7_setting 17 = .ok (.aload_n 0, 1) := by decide +kernel
theorem dX7_setting_18 : decode cX7_setting 18 = .ok (.getfield 19, 3) := by decide +kernel
theorem dX7_setting_21 : decode cX7_setting 21 = .ok (.getfield 188, 3) := by decide +kernel
theorem dX7_setting_24 : decode cX7_setting 24 = .ok (.iload_n 1, 1) := by decide +kernel
theorem dX7_setting_25 : decode cX7_setting 25 = .ok (.iaload, 1) := by decide +kernel
theorem dX7_setting_26 : decode cX7_setting 26 = .ok (.ireturn, 1) := by decide +kernel
set_option maxRecDepth 20000 in
theorem ggX7_addPrisoner_X1_prepare : GoodIn wsX7_addPrisoner wsX1_prepare := goodIn_r _ [7, 8, 9, 10, 11, 6, 12, 13, 14, 15, 16, 17, 18, 19, 20, 21, 22, 23, 24, 25, 26, 27, 28, 29, 30, 31, 32, 33, 34, 35, 36, 37, 38, 39, 40, 41, 42, 43, 44, 45, 46, 47, 48, 49, 50, 51, 52, 53, 87, 88, 89, 90, 91, 92, 93, 94, 95, 96, 97, 98, 99, 100, 101, 102, 103, 104, 105, 106, 107, 108] (by decide +kernel) (by decide +kernel)
set_option maxRecDepth 20000 in
theorem gX7_addPrisoner_X1_prepare : GoodIn wsX7_addPrisoner (wsV RX7 191 RX1 yX1_prepare wsX1_prepare) := goodIn_app (goodIn_of _ (by decide +kernel)) ggX7_addPrisoner_X1_prepare
set_option maxRecDepth 20000 in
theorem ggX7_addPrisoner_X2_tryAdd : GoodIn wsX7_addPrisoner wsX2_tryAdd := goodIn_r _ [57, 20, 21, 58, 59, 60, 90, 91, 92, 93, 94, 95, 96, 97, 98, 99, 100, 101, 102, 103, 104] (by decide +kernel) (by decide +kernel)
set_option maxRecDepth 20000 in
theorem gX7_addPrisoner_X2_tryAdd : GoodIn wsX7_addPrisoner (wsV RX7 194 RX2 yX2_tryAdd wsX2_tryAdd) := goodIn_app (goodIn_of _ (by decide +kernel)) ggX7_addPrisoner_X2_tryAdd
set_option maxRecDepth 20000 in
theorem ggX7_addPrisoner_X7_settle : GoodIn wsX7_addPrisoner wsX7_settle := goodIn_ca (goodIn_ca (goodIn_ca (goodIn_r _ [64, 65, 66, 67, 68, 69, 70, 1, 71, 72, 73, 6, 74, 8, 75, 76, 77, 78, 79, 80, 81, 82, 83, 84, 85, 86, 87, 88, 89] (by decide +kernel) (by decide +kernel)) (goodIn_sub (fun _ h => List.mem_cons_of_mem _ (List.mem_append_left _ (List.mem_append_left _ (List.mem_append_right _ h)))) (by decide +kernel))) (goodIn_sub (fun _ h => List.mem_cons_of_mem _ (List.mem_append_left _ (List.mem_append_right _ h))) (by decide +kernel))) (goodIn_sub (fun _ h => List.mem_cons_of_mem _ (List.mem_append_right _ h)) (by decide +kernel))
set_option maxRecDepth 20000 in
theorem gX7_addPrisoner_X7_settle : GoodIn wsX7_addPrisoner (wsV RX7 197 RX7 yX7_settle wsX7_settle) := goodIn_app (goodIn_of _ (by decide +kernel)) ggX7_addPrisoner_X7_settle
theorem dX7_addPrisoner_0 : decode cX7_addPrisoner 0 = .ok (.aload_n 0, 1) := by decide +kernel
theorem dX7_addPrisoner_1 : decode cX7_addPrisoner 1 = .ok (.getfield 26, 3) := by decide +kernel
theorem dX7_addPrisoner_4 : decode cX7_addPrisoner 4 = .ok (.aload_n 0, 1) := by decide +kernel
theorem dX7_addPrisoner_5 : decode cX7_addPrisoner 5 = .ok (.getfield 19, 3) := by decide +kernel
theorem dX7_addPrisoner_8 : decode cX7_addPrisoner 8 = .ok (.invokevirtual 191, 3) := by decide +kernel
theorem dX7_addPrisoner_11 : decode cX7_addPrisoner 11 = .ok (.aload_n 0, 1) := by decide +kernel
theorem dX7_addPrisoner_12 : decode cX7_addPrisoner 12 = .ok (.aload_n 0, 1) := by decide +kernel
theorem dX7_addPrisoner_13 : decode cX7_addPrisoner 13 = .ok (.getfield 19, 3) := by decide +kernel
theorem dX7_addPrisoner_16 : decode cX7_addPrisoner 16 = .ok (.iload_n 1, 1) := by decide +kernel
theorem dX7_addPrisoner_17 : decode cX7_addPrisoner 17 = .ok (.invokevirtual 194, 3) := by decide +kernel
theorem dX7_addPrisoner_20 : decode cX7_addPrisoner 20 = .ok (.invokevirtual 197, 3) := by decide +kernel
theorem dX7_addPrisoner_23 : decode cX7_addPrisoner 23 = .ok (.ireturn, 1) := by decide +kernel
set_option maxRecDepth 20000 in
theorem ggX7_promote_X1_prepare : GoodIn wsX7_promote wsX1_prepare := goodIn_r _ [7, 8, 9, 10, 11, 6, 12, 13, 14, 15, 16, 17, 18, 19, 20, 21, 22, 23, 24, 25, 26, 27, 28, 29, 30, 31, 32, 33, 34, 35, 36, 37, 38, 39, 40, 41, 42, 43, 44, 45, 46, 47, 48, 49, 50, 51, 52, 53, 91, 92, 93, 94, 95, 96, 97, 98, 99, 100, 101, 102, 103, 104, 105, 106, 107, 108, 109, 110, 111, 112] (by decide +kernel) (by decide +kernel)
set_option maxRecDepth 20000 in
theorem gX7_promote_X1_prepare : GoodIn wsX7_promote (wsV RX7 191 RX1 yX1_prepare wsX1_prepare) := goodIn_app (goodIn_of _ (by decide +kernel)) ggX7_promote_X1_prepare
set_option maxRecDepth 20000 in
theorem ggX7_promote_X2_tryPromote : GoodIn wsX7_promote wsX2_tryPromote := goodIn_r _ [57, 21, 58, 59, 60, 17, 61, 20, 62, 63, 64, 94, 95, 96, 97, 98, 99, 100, 101, 102, 103, 104, 105, 106, 107, 108] (by decide +kernel) (by decide +kernel)
set_option maxRecDepth 20000 in
theorem gX7_promote_X2_tryPromote : GoodIn wsX7_promote (wsV RX7 200 RX2 yX2_tryPromote wsX2_tryPromote) := goodIn_app (goodIn_of _ (by decide +kernel)) ggX7_promote_X2_tryPromote
set_option maxRecDepth 20000 in
theorem ggX7_promote_X7_settle : GoodIn wsX7_promote wsX7_settle := goodIn_ca (goodIn_ca (goodIn_ca (goodIn_r _ [68, 69, 70, 71, 72, 73, 74, 1, 75, 76, 77, 6, 78, 8, 79, 80, 81, 82, 83, 84, 85, 86, 87, 88, 89, 90, 91, 92, 93] (by decide +kernel) (by decide +kernel)) (goodIn_sub (fun _ h => List.mem_cons_of_mem _ (List.mem_append_left _ (List.mem_append_left _ (List.mem_append_right _ h)))) (by decide +kernel))) (goodIn_sub (fun _ h => List.mem_cons_of_mem _ (List.mem_append_left _ (List.mem_append_right _ h))) (by decide +kernel))) (goodIn_sub (fun _ h => List.mem_cons_of_mem _ (List.mem_append_right _ h)) (by decide +kernel))
set_option maxRecDepth 20000 in
theorem gX7_promote_X7_settle : GoodIn wsX7_promote (wsV RX7 197 RX7 yX7_settle wsX7_settle) := goodIn_app (goodIn_of _ (by decide +kernel)) ggX7_promote_X7_settle
theorem dX7_promote_0 : decode cX7_promote 0 = .ok (.aload_n 0, 1) := by decide +kernel
theorem dX7_promote_1 : decode cX7_promote 1 = .ok (.getfield 26, 3) := by decide +kernel
theorem dX7_promote_4 : decode cX7_promote 4 = .ok (.aload_n 0, 1) := by decide +kernel
theorem dX7_promote_5 : decode cX7_promote 5 = .ok (.getfield 19, 3) := by decide +kernel
theorem dX7_promote_8 : decode cX7_promote 8 = .ok (.invokevirtual 191, 3) := by decide +kernel
theorem dX7_promote_11 : decode cX7_promote 11 = .ok (.aload_n 0, 1) := by decide +kernel
theorem dX7_promote_12 : decode cX7_promote 12 = .ok (.aload_n 0, 1) := by decide +kernel
theorem dX7_promote_13 : decode cX7_promote 13 = .ok (.getfield 19, 3) := by decide +kernel
theorem dX7_promote_16 : decode cX7_promote 16 = .ok (.iload_n 1, 1) := by decide +kernel
theorem dX7_promote_17 : decode cX7_promote 17 = .ok (.iload_n 2, 1) := by decide +kernel
theorem dX7_promote_18 : decode cX7_promote 18 = .ok (.invokevirtual 200, 3) := by decide +kernel
theorem dX7_promote_21 : decode cX7_promote 21 = .ok (.invokevirtual 197, 3) := by decide +kernel
theorem dX7_promote_24 : decode cX7_promote 24 = .ok (.ireturn, 1) := by decide +kernel
set_option maxRecDepth 20000 in
theorem ggX7_list_X1_prepare : GoodIn wsX7_list wsX1_prepare := goodIn_r _ [7, 8, 9, 10, 11, 6, 12, 13, 14, 15, 16, 17, 18, 19, 20, 21, 22, 23, 24, 25, 26, 27, 28, 29, 30, 31, 32, 33, 34, 35, 36, 37, 38, 39, 40, 41, 42, 43, 44, 45, 46, 47, 48, 49, 50, 51, 52, 53, 98, 99, 100, 101, 102, 103, 104, 105, 106, 107, 108, 109, 110, 111, 112, 113, 114, 115, 116, 117, 118, 119] (by decide +kernel) (by decide +kernel)
set_option maxRecDepth 20000 in
theorem gX7_list_X1_prepare : GoodIn wsX7_list (wsV RX7 191 RX1 yX1_prepare wsX1_prepare) := goodIn_app (goodIn_of _ (by decide +kernel)) ggX7_list_X1_prepare
set_option maxRecDepth 20000 in
theorem ggX7_list_X2_tryList : GoodIn wsX7_list wsX2_tryList := goodIn_r _ [57, 26, 58, 59, 60, 17, 61, 62, 63, 64, 65, 20, 66, 67, 68, 69, 70, 71, 101, 102, 103, 104, 105, 106, 107, 108, 109, 110, 111, 112, 113, 114, 115] (by decide +kernel) (by decide +kernel)
set_option maxRecDepth 20000 in
theorem gX7_list_X2_tryList : GoodIn wsX7_list (wsV RX7 203 RX2 yX2_tryList wsX2_tryList) := goodIn_app (goodIn_of _ (by decide +kernel)) ggX7_list_X2_tryList
set_option maxRecDepth 20000 in
theorem ggX7_list_X7_settle : GoodIn wsX7_list wsX7_settle := goodIn_ca (goodIn_ca (goodIn_ca (goodIn_r _ [75, 76, 77, 78, 79, 80, 81, 1, 82, 83, 84, 6, 85, 8, 86, 87, 88, 89, 90, 91, 92, 93, 94, 95, 96, 97, 98, 99, 100] (by decide +kernel) (by decide +kernel)) (goodIn_sub (fun _ h => List.mem_cons_of_mem _ (List.mem_append_left _ (List.mem_append_left _ (List.mem_append_right _ h)))) (by decide +kernel))) (goodIn_sub (fun _ h => List.mem_cons_of_mem _ (List.mem_append_left _ (List.mem_append_right _ h))) (by decide +kernel))) (goodIn_sub (fun _ h => List.mem_cons_of_mem _ (List.mem_append_right _ h)) (by decide +kernel))
set_option maxRecDepth 20000 in
theorem gX7_list_X7_settle : GoodIn wsX7_list (wsV RX7 197 RX7 yX7_settle wsX7_settle) := goodIn_app (goodIn_of _ (by decide +kernel)) ggX7_list_X7_settle
theorem dX7_list_0 : decode cX7_list 0 = .ok (.aload_n 0, 1) := by decide +kernel
theorem dX7_list_1 : decode cX7_list 1 = .ok (.getfield 26, 3) := by decide +kernel
theorem dX7_list_4 : decode cX7_list 4 = .ok (.aload_n 0, 1) := by decide +kernel
theorem dX7_list_5 : decode cX7_list 5 = .ok (.getfield 19, 3) := by decide +kernel
theorem dX7_list_8 : decode cX7_list 8 = .ok (.invokevirtual 191, 3) := by decide +kernel
theorem dX7_list_11 : decode cX7_list 11 = .ok (.aload_n 0, 1) := by decide +kernel
theorem dX7_list_12 : decode cX7_list 12 = .ok (.aload_n 0, 1) := by decide +kernel
theorem dX7_list_13 : decode cX7_list 13 = .ok (.getfield 19, 3) := by decide +kernel
theorem dX7_list_16 : decode cX7_list 16 = .ok (.iload_n 1, 1) := by decide +kernel
theorem dX7_list_17 : decode cX7_list 17 = .ok (.iload_n 2, 1) := by decide +kernel
theorem dX7_list_18 : decode cX7_list 18 = .ok (.iload_n 3, 1) := by decide +kernel
theorem dX7_list_19 : decode cX7_list 19 = .ok (.invokevirtual 203, 3) := by decide +kernel
theorem dX7_list_22 : decode cX7_list 22 = .ok (.invokevirtual 197, 3) := by decide +kernel
theorem dX7_list_25 : decode cX7_list 25 = .ok (.ireturn, 1) := by decide +kernel
set_option maxRecDepth 20000 in
theorem ggX7_keepApart_X1_prepare : GoodIn wsX7_keepApart wsX1_prepare := goodIn_r _ [7, 8, 9, 10, 11, 6, 12, 13, 14, 15, 16, 17, 18, 19, 20, 21, 22, 23, 24, 25, 26, 27, 28, 29, 30, 31, 32, 33, 34, 35, 36, 37, 38, 39, 40, 41, 42, 43, 44, 45, 46, 47, 48, 49, 50, 51, 52, 53, 91, 92, 93, 94, 95, 96, 97, 98, 99, 100, 101, 102, 103, 104, 105, 106, 107, 108, 109, 110, 111, 112] (by decide +kernel) (by decide +kernel)
set_option maxRecDepth 20000 in
theorem gX7_keepApart_X1_prepare : GoodIn wsX7_keepApart (wsV RX7 191 RX1 yX1_prepare wsX1_prepare) := goodIn_app (goodIn_of _ (by decide +kernel)) ggX7_keepApart_X1_prepare
set_option maxRecDepth 20000 in
theorem ggX7_keepApart_X2_tryKeepApart : GoodIn wsX7_keepApart wsX2_tryKeepApart := goodIn_r _ [57, 30, 58, 59, 60, 17, 61, 20, 62, 63, 64, 94, 95, 96, 97, 98, 99, 100, 101, 102, 103, 104, 105, 106, 107, 108] (by decide +kernel) (by decide +kernel)
set_option maxRecDepth 20000 in
theorem gX7_keepApart_X2_tryKeepApart : GoodIn wsX7_keepApart (wsV RX7 207 RX2 yX2_tryKeepApart wsX2_tryKeepApart) := goodIn_app (goodIn_of _ (by decide +kernel)) ggX7_keepApart_X2_tryKeepApart
set_option maxRecDepth 20000 in
theorem ggX7_keepApart_X7_settle : GoodIn wsX7_keepApart wsX7_settle := goodIn_ca (goodIn_ca (goodIn_ca (goodIn_r _ [68, 69, 70, 71, 72, 73, 74, 1, 75, 76, 77, 6, 78, 8, 79, 80, 81, 82, 83, 84, 85, 86, 87, 88, 89, 90, 91, 92, 93] (by decide +kernel) (by decide +kernel)) (goodIn_sub (fun _ h => List.mem_cons_of_mem _ (List.mem_append_left _ (List.mem_append_left _ (List.mem_append_right _ h)))) (by decide +kernel))) (goodIn_sub (fun _ h => List.mem_cons_of_mem _ (List.mem_append_left _ (List.mem_append_right _ h))) (by decide +kernel))) (goodIn_sub (fun _ h => List.mem_cons_of_mem _ (List.mem_append_right _ h)) (by decide +kernel))
set_option maxRecDepth 20000 in
theorem gX7_keepApart_X7_settle : GoodIn wsX7_keepApart (wsV RX7 197 RX7 yX7_settle wsX7_settle) := goodIn_app (goodIn_of _ (by decide +kernel)) ggX7_keepApart_X7_settle
theorem dX7_keepApart_0 : decode cX7_keepApart 0 = .ok (.aload_n 0, 1) := by decide +kernel
theorem dX7_keepApart_1 : decode cX7_keepApart 1 = .ok (.getfield 26, 3) := by decide +kernel
theorem dX7_keepApart_4 : decode cX7_keepApart 4 = .ok (.aload_n 0, 1) := by decide +kernel
theorem dX7_keepApart_5 : decode cX7_keepApart 5 = .ok (.getfield 19, 3) := by decide +kernel
theorem dX7_keepApart_8 : decode cX7_keepApart 8 = .ok (.invokevirtual 191, 3) := by decide +kernel
theorem dX7_keepApart_11 : decode cX7_keepApart 11 = .ok (.aload_n 0, 1) := by decide +kernel
theorem dX7_keepApart_12 : decode cX7_keepApart 12 = .ok (.aload_n 0, 1) := by decide +kernel
theorem dX7_keepApart_13 : decode cX7_keepApart 13 = .ok (.getfield 19, 3) := by decide +kernel
theorem dX7_keepApart_16 : decode cX7_keepApart 16 = .ok (.iload_n 1, 1) := by decide +kernel
theorem dX7_keepApart_17 : decode cX7_keepApart 17 = .ok (.iload_n 2, 1) := by decide +kernel
theorem dX7_keepApart_18 : decode cX7_keepApart 18 = .ok (.iload_n 3, 1) := by decide +kernel
theorem dX7_keepApart_19 : decode cX7_keepApart 19 = .ok (.invokevirtual 207, 3) := by decide +kernel
theorem dX7_keepApart_22 : decode cX7_keepApart 22 = .ok (.invokevirtual 197, 3) := by decide +kernel
theorem dX7_keepApart_25 : decode cX7_keepApart 25 = .ok (.ireturn, 1) := by decide +kernel
set_option maxRecDepth 20000 in
theorem ggX7_book_X1_prepare : GoodIn wsX7_book wsX1_prepare := goodIn_r _ [7, 8, 9, 10, 11, 6, 12, 13, 14, 15, 16, 17, 18, 19, 20, 21, 22, 23, 24, 25, 26, 27, 28, 29, 30, 31, 32, 33, 34, 35, 36, 37, 38, 39, 40, 41, 42, 43, 44, 45, 46, 47, 48, 49, 50, 51, 52, 53, 142, 143, 144, 145, 146, 147, 148, 149, 150, 151, 152, 153, 154, 155, 156, 157, 158, 159, 160, 161, 162, 163] (by decide +kernel) (by decide +kernel)
set_option maxRecDepth 20000 in
theorem gX7_book_X1_prepare : GoodIn wsX7_book (wsV RX7 191 RX1 yX1_prepare wsX1_prepare) := goodIn_app (goodIn_of _ (by decide +kernel)) ggX7_book_X1_prepare
set_option maxRecDepth 20000 in
theorem ggX7_book_X2_tryBook : GoodIn wsX7_book wsX2_tryBook := goodIn_r _ [57, 34, 58, 59, 60, 17, 61, 62, 63, 64, 65, 20, 66, 67, 68, 69, 70, 71, 72, 19, 73, 74, 75, 76, 77, 78, 79, 80, 26, 27, 32, 29, 21, 81, 82, 83, 84, 85, 86, 87, 88, 89, 41, 90, 43, 44, 91, 92, 93, 94, 30, 37, 95, 96, 97, 98, 99, 100, 101, 102, 103, 104, 105, 106, 45, 23, 24, 25, 107, 108, 109, 110, 111, 112, 113, 114, 115, 145, 146, 147, 148, 149, 150, 151, 152, 153, 154, 155, 156, 157, 158, 159, 160, 161] (by decide +kernel) (by decide +kernel)
set_option maxRecDepth 20000 in
theorem gX7_book_X2_tryBook : GoodIn wsX7_book (wsV RX7 210 RX2 yX2_tryBook wsX2_tryBook) := goodIn_app (goodIn_of _ (by decide +kernel)) ggX7_book_X2_tryBook
set_option maxRecDepth 20000 in
theorem ggX7_book_X7_settle : GoodIn wsX7_book wsX7_settle := goodIn_ca (goodIn_ca (goodIn_ca (goodIn_r _ [119, 120, 121, 122, 123, 124, 125, 1, 126, 127, 128, 6, 129, 8, 130, 131, 132, 133, 134, 135, 136, 137, 138, 139, 140, 141, 142, 143, 144] (by decide +kernel) (by decide +kernel)) (goodIn_sub (fun _ h => List.mem_cons_of_mem _ (List.mem_append_left _ (List.mem_append_left _ (List.mem_append_right _ h)))) (by decide +kernel))) (goodIn_sub (fun _ h => List.mem_cons_of_mem _ (List.mem_append_left _ (List.mem_append_right _ h))) (by decide +kernel))) (goodIn_sub (fun _ h => List.mem_cons_of_mem _ (List.mem_append_right _ h)) (by decide +kernel))
set_option maxRecDepth 20000 in
theorem gX7_book_X7_settle : GoodIn wsX7_book (wsV RX7 197 RX7 yX7_settle wsX7_settle) := goodIn_app (goodIn_of _ (by decide +kernel)) ggX7_book_X7_settle
theorem dX7_book_0 : decode cX7_book 0 = .ok (.aload_n 0, 1) := by decide +kernel
theorem dX7_book_1 : decode cX7_book 1 = .ok (.getfield 26, 3) := by decide +kernel
theorem dX7_book_4 : decode cX7_book 4 = .ok (.aload_n 0, 1) := by decide +kernel
theorem dX7_book_5 : decode cX7_book 5 = .ok (.getfield 19, 3) := by decide +kernel
theorem dX7_book_8 : decode cX7_book 8 = .ok (.invokevirtual 191, 3) := by decide +kernel
theorem dX7_book_11 : decode cX7_book 11 = .ok (.aload_n 0, 1) := by decide +kernel
theorem dX7_book_12 : decode cX7_book 12 = .ok (.aload_n 0, 1) := by decide +kernel
theorem dX7_book_13 : decode cX7_book 13 = .ok (.getfield 19, 3) := by decide +kernel
theorem dX7_book_16 : decode cX7_book 16 = .ok (.iload_n 1, 1) := by decide +kernel
theorem dX7_book_17 : decode cX7_book 17 = .ok (.iload_n 2, 1) := by decide +kernel
theorem dX7_book_18 : decode cX7_book 18 = .ok (.iload_n 3, 1) := by decide +kernel
theorem dX7_book_19 : decode cX7_book 19 = .ok (.iload 4, 2) := by decide +kernel
theorem dX7_book_21 : decode cX7_book 21 = .ok (.invokevirtual 210, 3) := by decide +kernel
theorem dX7_book_24 : decode cX7_book 24 = .ok (.invokevirtual 197, 3) := by decide +kernel
theorem dX7_book_27 : decode cX7_book 27 = .ok (.ireturn, 1) := by decide +kernel
set_option maxRecDepth 20000 in
theorem ggX7_cancel_X1_prepare : GoodIn wsX7_cancel wsX1_prepare := goodIn_r _ [7, 8, 9, 10, 11, 6, 12, 13, 14, 15, 16, 17, 18, 19, 20, 21, 22, 23, 24, 25, 26, 27, 28, 29, 30, 31, 32, 33, 34, 35, 36, 37, 38, 39, 40, 41, 42, 43, 44, 45, 46, 47, 48, 49, 50, 51, 52, 53, 95, 96, 97, 98, 99, 100, 101, 102, 103, 104, 105, 106, 107, 108, 109, 110, 111, 112, 113, 114, 115, 116] (by decide +kernel) (by decide +kernel)
set_option maxRecDepth 20000 in
theorem gX7_cancel_X1_prepare : GoodIn wsX7_cancel (wsV RX7 191 RX1 yX1_prepare wsX1_prepare) := goodIn_app (goodIn_of _ (by decide +kernel)) ggX7_cancel_X1_prepare
set_option maxRecDepth 20000 in
theorem ggX7_cancel_X2_tryCancel : GoodIn wsX7_cancel wsX2_tryCancel := goodIn_r _ [57, 34, 58, 59, 60, 61, 41, 62, 43, 63, 64, 65, 66, 44, 45, 23, 24, 25, 67, 98, 99, 100, 101, 102, 103, 104, 105, 106, 107, 108, 109, 110, 111, 112, 113, 114] (by decide +kernel) (by decide +kernel)
set_option maxRecDepth 20000 in
theorem gX7_cancel_X2_tryCancel : GoodIn wsX7_cancel (wsV RX7 214 RX2 yX2_tryCancel wsX2_tryCancel) := goodIn_app (goodIn_of _ (by decide +kernel)) ggX7_cancel_X2_tryCancel
set_option maxRecDepth 20000 in
theorem ggX7_cancel_X7_settle : GoodIn wsX7_cancel wsX7_settle := goodIn_ca (goodIn_ca (goodIn_ca (goodIn_r _ [72, 73, 74, 75, 76, 77, 78, 1, 79, 80, 81, 6, 82, 8, 83, 84, 85, 86, 87, 88, 89, 90, 91, 92, 93, 94, 95, 96, 97] (by decide +kernel) (by decide +kernel)) (goodIn_sub (fun _ h => List.mem_cons_of_mem _ (List.mem_append_left _ (List.mem_append_left _ (List.mem_append_right _ h)))) (by decide +kernel))) (goodIn_sub (fun _ h => List.mem_cons_of_mem _ (List.mem_append_left _ (List.mem_append_right _ h))) (by decide +kernel))) (goodIn_sub (fun _ h => List.mem_cons_of_mem _ (List.mem_append_right _ h)) (by decide +kernel))
set_option maxRecDepth 20000 in
theorem gX7_cancel_X7_settle : GoodIn wsX7_cancel (wsV RX7 197 RX7 yX7_settle wsX7_settle) := goodIn_app (goodIn_of _ (by decide +kernel)) ggX7_cancel_X7_settle
theorem dX7_cancel_0 : decode cX7_cancel 0 = .ok (.aload_n 0, 1) := by decide +kernel
theorem dX7_cancel_1 : decode cX7_cancel 1 = .ok (.getfield 26, 3) := by decide +kernel
theorem dX7_cancel_4 : decode cX7_cancel 4 = .ok (.aload_n 0, 1) := by decide +kernel
theorem dX7_cancel_5 : decode cX7_cancel 5 = .ok (.getfield 19, 3) := by decide +kernel
theorem dX7_cancel_8 : decode cX7_cancel 8 = .ok (.invokevirtual 191, 3) := by decide +kernel
theorem dX7_cancel_11 : decode cX7_cancel 11 = .ok (.aload_n 0, 1) := by decide +kernel
theorem dX7_cancel_12 : decode cX7_cancel 12 = .ok (.aload_n 0, 1) := by decide +kernel
theorem dX7_cancel_13 : decode cX7_cancel 13 = .ok (.getfield 19, 3) := by decide +kernel
theorem dX7_cancel_16 : decode cX7_cancel 16 = .ok (.iload_n 1, 1) := by decide +kernel
theorem dX7_cancel_17 : decode cX7_cancel 17 = .ok (.invokevirtual 214, 3) := by decide +kernel
theorem dX7_cancel_20 : decode cX7_cancel 20 = .ok (.invokevirtual 197, 3) := by decide +kernel
theorem dX7_cancel_23 : decode cX7_cancel 23 = .ok (.ireturn, 1) := by decide +kernel
set_option maxRecDepth 20000 in
theorem ggX7_late_X1_prepare : GoodIn wsX7_late wsX1_prepare := goodIn_r _ [7, 8, 9, 10, 11, 6, 12, 13, 14, 15, 16, 17, 18, 19, 20, 21, 22, 23, 24, 25, 26, 27, 28, 29, 30, 31, 32, 33, 34, 35, 36, 37, 38, 39, 40, 41, 42, 43, 44, 45, 46, 47, 48, 49, 50, 51, 52, 53, 100, 101, 102, 103, 104, 105, 106, 107, 108, 109, 110, 111, 112, 113, 114, 115, 116, 117, 118, 119, 120, 121] (by decide +kernel) (by decide +kernel)
set_option maxRecDepth 20000 in
theorem gX7_late_X1_prepare : GoodIn wsX7_late (wsV RX7 191 RX1 yX1_prepare wsX1_prepare) := goodIn_app (goodIn_of _ (by decide +kernel)) ggX7_late_X1_prepare
set_option maxRecDepth 20000 in
theorem ggX7_late_X2_tryLate : GoodIn wsX7_late wsX2_tryLate := goodIn_r _ [57, 34, 58, 59, 60, 41, 61, 43, 62, 63, 64, 65, 66, 67, 68, 44, 69, 70, 71, 72, 73, 103, 104, 105, 106, 107, 108, 109, 110, 111, 112, 113, 114, 115, 116, 117, 118, 119] (by decide +kernel) (by decide +kernel)
set_option maxRecDepth 20000 in
theorem gX7_late_X2_tryLate : GoodIn wsX7_late (wsV RX7 217 RX2 yX2_tryLate wsX2_tryLate) := goodIn_app (goodIn_of _ (by decide +kernel)) ggX7_late_X2_tryLate
set_option maxRecDepth 20000 in
theorem ggX7_late_X7_settle : GoodIn wsX7_late wsX7_settle := goodIn_ca (goodIn_ca (goodIn_ca (goodIn_r _ [77, 78, 79, 80, 81, 82, 83, 1, 84, 85, 86, 6, 87, 8, 88, 89, 90, 91, 92, 93, 94, 95, 96, 97, 98, 99, 100, 101, 102] (by decide +kernel) (by decide +kernel)) (goodIn_sub (fun _ h => List.mem_cons_of_mem _ (List.mem_append_left _ (List.mem_append_left _ (List.mem_append_right _ h)))) (by decide +kernel))) (goodIn_sub (fun _ h => List.mem_cons_of_mem _ (List.mem_append_left _ (List.mem_append_right _ h))) (by decide +kernel))) (goodIn_sub (fun _ h => List.mem_cons_of_mem _ (List.mem_append_right _ h)) (by decide +kernel))
set_option maxRecDepth 20000 in
theorem gX7_late_X7_settle : GoodIn wsX7_late (wsV RX7 197 RX7 yX7_settle wsX7_settle) := goodIn_app (goodIn_of _ (by decide +kernel)) ggX7_late_X7_settle
theorem dX7_late_0 : decode cX7_late 0 = .ok (.aload_n 0, 1) := by decide +kernel
theorem dX7_late_1 : decode cX7_late 1 = .ok (.getfield 26, 3) := by decide +kernel
theorem dX7_late_4 : decode cX7_late 4 = .ok (.aload_n 0, 1) := by decide +kernel
theorem dX7_late_5 : decode cX7_late 5 = .ok (.getfield 19, 3) := by decide +kernel
theorem dX7_late_8 : decode cX7_late 8 = .ok (.invokevirtual 191, 3) := by decide +kernel
theorem dX7_late_11 : decode cX7_late 11 = .ok (.aload_n 0, 1) := by decide +kernel
theorem dX7_late_12 : decode cX7_late 12 = .ok (.aload_n 0, 1) := by decide +kernel
theorem dX7_late_13 : decode cX7_late 13 = .ok (.getfield 19, 3) := by decide +kernel
theorem dX7_late_16 : decode cX7_late 16 = .ok (.iload_n 1, 1) := by decide +kernel
theorem dX7_late_17 : decode cX7_late 17 = .ok (.iload_n 2, 1) := by decide +kernel
theorem dX7_late_18 : decode cX7_late 18 = .ok (.invokevirtual 217, 3) := by decide +kernel
theorem dX7_late_21 : decode cX7_late 21 = .ok (.invokevirtual 197, 3) := by decide +kernel
theorem dX7_late_24 : decode cX7_late 24 = .ok (.ireturn, 1) := by decide +kernel
set_option maxRecDepth 20000 in
theorem ggX7_carry_X1_prepare : GoodIn wsX7_carry wsX1_prepare := goodIn_r _ [7, 8, 9, 10, 11, 6, 12, 13, 14, 15, 16, 17, 18, 19, 20, 21, 22, 23, 24, 25, 26, 27, 28, 29, 30, 31, 32, 33, 34, 35, 36, 37, 38, 39, 40, 41, 42, 43, 44, 45, 46, 47, 48, 49, 50, 51, 52, 53, 90, 91, 92, 93, 94, 95, 96, 97, 98, 99, 100, 101, 102, 103, 104, 105, 106, 107, 108, 109, 110, 111] (by decide +kernel) (by decide +kernel)
set_option maxRecDepth 20000 in
theorem gX7_carry_X1_prepare : GoodIn wsX7_carry (wsV RX7 191 RX1 yX1_prepare wsX1_prepare) := goodIn_app (goodIn_of _ (by decide +kernel)) ggX7_carry_X1_prepare
set_option maxRecDepth 20000 in
theorem ggX7_carry_X2_tryCarry : GoodIn wsX7_carry wsX2_tryCarry := goodIn_r _ [57, 33, 58, 59, 17, 60, 61, 62, 63, 93, 94, 95, 96, 97, 98, 99, 100, 101, 102, 103, 104, 105, 106, 107] (by decide +kernel) (by decide +kernel)
set_option maxRecDepth 20000 in
theorem gX7_carry_X2_tryCarry : GoodIn wsX7_carry (wsV RX7 220 RX2 yX2_tryCarry wsX2_tryCarry) := goodIn_app (goodIn_of _ (by decide +kernel)) ggX7_carry_X2_tryCarry
set_option maxRecDepth 20000 in
theorem ggX7_carry_X7_settle : GoodIn wsX7_carry wsX7_settle := goodIn_ca (goodIn_ca (goodIn_ca (goodIn_r _ [67, 68, 69, 70, 71, 72, 73, 1, 74, 75, 76, 6, 77, 8, 78, 79, 80, 81, 82, 83, 84, 85, 86, 87, 88, 89, 90, 91, 92] (by decide +kernel) (by decide +kernel)) (goodIn_sub (fun _ h => List.mem_cons_of_mem _ (List.mem_append_left _ (List.mem_append_left _ (List.mem_append_right _ h)))) (by decide +kernel))) (goodIn_sub (fun _ h => List.mem_cons_of_mem _ (List.mem_append_left _ (List.mem_append_right _ h))) (by decide +kernel))) (goodIn_sub (fun _ h => List.mem_cons_of_mem _ (List.mem_append_right _ h)) (by decide +kernel))
set_option maxRecDepth 20000 in
theorem gX7_carry_X7_settle : GoodIn wsX7_carry (wsV RX7 197 RX7 yX7_settle wsX7_settle) := goodIn_app (goodIn_of _ (by decide +kernel)) ggX7_carry_X7_settle
theorem dX7_carry_0 : decode cX7_carry 0 = .ok (.aload_n 0, 1) := by decide +kernel
theorem dX7_carry_1 : decode cX7_carry 1 = .ok (.getfield 26, 3) := by decide +kernel
theorem dX7_carry_4 : decode cX7_carry 4 = .ok (.aload_n 0, 1) := by decide +kernel
theorem dX7_carry_5 : decode cX7_carry 5 = .ok (.getfield 19, 3) := by decide +kernel
theorem dX7_carry_8 : decode cX7_carry 8 = .ok (.invokevirtual 191, 3) := by decide +kernel
theorem dX7_carry_11 : decode cX7_carry 11 = .ok (.aload_n 0, 1) := by decide +kernel
theorem dX7_carry_12 : decode cX7_carry 12 = .ok (.aload_n 0, 1) := by decide +kernel
theorem dX7_carry_13 : decode cX7_carry 13 = .ok (.getfield 19, 3) := by decide +kernel
theorem dX7_carry_16 : decode cX7_carry 16 = .ok (.iload_n 1, 1) := by decide +kernel
theorem dX7_carry_17 : decode cX7_carry 17 = .ok (.iload_n 2, 1) := by decide +kernel
theorem dX7_carry_18 : decode cX7_carry 18 = .ok (.invokevirtual 220, 3) := by decide +kernel
theorem dX7_carry_21 : decode cX7_carry 21 = .ok (.invokevirtual 197, 3) := by decide +kernel
theorem dX7_carry_24 : decode cX7_carry 24 = .ok (.ireturn, 1) := by decide +kernel
set_option maxRecDepth 20000 in
theorem ggX7_punish_X1_prepare : GoodIn wsX7_punish wsX1_prepare := goodIn_r _ [7, 8, 9, 10, 11, 6, 12, 13, 14, 15, 16, 17, 18, 19, 20, 21, 22, 23, 24, 25, 26, 27, 28, 29, 30, 31, 32, 33, 34, 35, 36, 37, 38, 39, 40, 41, 42, 43, 44, 45, 46, 47, 48, 49, 50, 51, 52, 53, 91, 92, 93, 94, 95, 96, 97, 98, 99, 100, 101, 102, 103, 104, 105, 106, 107, 108, 109, 110, 111, 112] (by decide +kernel) (by decide +kernel)
set_option maxRecDepth 20000 in
theorem gX7_punish_X1_prepare : GoodIn wsX7_punish (wsV RX7 191 RX1 yX1_prepare wsX1_prepare) := goodIn_app (goodIn_of _ (by decide +kernel)) ggX7_punish_X1_prepare
set_option maxRecDepth 20000 in
theorem ggX7_punish_X2_tryPunish : GoodIn wsX7_punish wsX2_tryPunish := goodIn_r _ [57, 27, 19, 58, 59, 60, 17, 61, 20, 62, 63, 64, 94, 95, 96, 97, 98, 99, 100, 101, 102, 103, 104, 105, 106, 107, 108] (by decide +kernel) (by decide +kernel)
set_option maxRecDepth 20000 in
theorem gX7_punish_X2_tryPunish : GoodIn wsX7_punish (wsV RX7 224 RX2 yX2_tryPunish wsX2_tryPunish) := goodIn_app (goodIn_of _ (by decide +kernel)) ggX7_punish_X2_tryPunish
set_option maxRecDepth 20000 in
theorem ggX7_punish_X7_settle : GoodIn wsX7_punish wsX7_settle := goodIn_ca (goodIn_ca (goodIn_ca (goodIn_r _ [68, 69, 70, 71, 72, 73, 74, 1, 75, 76, 77, 6, 78, 8, 79, 80, 81, 82, 83, 84, 85, 86, 87, 88, 89, 90, 91, 92, 93] (by decide +kernel) (by decide +kernel)) (goodIn_sub (fun _ h => List.mem_cons_of_mem _ (List.mem_append_left _ (List.mem_append_left _ (List.mem_append_right _ h)))) (by decide +kernel))) (goodIn_sub (fun _ h => List.mem_cons_of_mem _ (List.mem_append_left _ (List.mem_append_right _ h))) (by decide +kernel))) (goodIn_sub (fun _ h => List.mem_cons_of_mem _ (List.mem_append_right _ h)) (by decide +kernel))
set_option maxRecDepth 20000 in
theorem gX7_punish_X7_settle : GoodIn wsX7_punish (wsV RX7 197 RX7 yX7_settle wsX7_settle) := goodIn_app (goodIn_of _ (by decide +kernel)) ggX7_punish_X7_settle
theorem dX7_punish_0 : decode cX7_punish 0 = .ok (.aload_n 0, 1) := by decide +kernel
theorem dX7_punish_1 : decode cX7_punish 1 = .ok (.getfield 26, 3) := by decide +kernel
theorem dX7_punish_4 : decode cX7_punish 4 = .ok (.aload_n 0, 1) := by decide +kernel
theorem dX7_punish_5 : decode cX7_punish 5 = .ok (.getfield 19, 3) := by decide +kernel
theorem dX7_punish_8 : decode cX7_punish 8 = .ok (.invokevirtual 191, 3) := by decide +kernel
theorem dX7_punish_11 : decode cX7_punish 11 = .ok (.aload_n 0, 1) := by decide +kernel
theorem dX7_punish_12 : decode cX7_punish 12 = .ok (.aload_n 0, 1) := by decide +kernel
theorem dX7_punish_13 : decode cX7_punish 13 = .ok (.getfield 19, 3) := by decide +kernel
theorem dX7_punish_16 : decode cX7_punish 16 = .ok (.iload_n 1, 1) := by decide +kernel
theorem dX7_punish_17 : decode cX7_punish 17 = .ok (.iload_n 2, 1) := by decide +kernel
theorem dX7_punish_18 : decode cX7_punish 18 = .ok (.invokevirtual 224, 3) := by decide +kernel
theorem dX7_punish_21 : decode cX7_punish 21 = .ok (.invokevirtual 197, 3) := by decide +kernel
theorem dX7_punish_24 : decode cX7_punish 24 = .ok (.ireturn, 1) := by decide +kernel
set_option maxRecDepth 20000 in
theorem ggX7_wish_X1_prepare : GoodIn wsX7_wish wsX1_prepare := goodIn_r _ [7, 8, 9, 10, 11, 6, 12, 13, 14, 15, 16, 17, 18, 19, 20, 21, 22, 23, 24, 25, 26, 27, 28, 29, 30, 31, 32, 33, 34, 35, 36, 37, 38, 39, 40, 41, 42, 43, 44, 45, 46, 47, 48, 49, 50, 51, 52, 53, 107, 108, 109, 110, 111, 112, 113, 114, 115, 116, 117, 118, 119, 120, 121, 122, 123, 124, 125, 126, 127, 128] (by decide +kernel) (by decide +kernel)
set_option maxRecDepth 20000 in
theorem gX7_wish_X1_prepare : GoodIn wsX7_wish (wsV RX7 191 RX1 yX1_prepare wsX1_prepare) := goodIn_app (goodIn_of _ (by decide +kernel)) ggX7_wish_X1_prepare
set_option maxRecDepth 20000 in
theorem ggX7_wish_X2_tryWish : GoodIn wsX7_wish wsX2_tryWish := goodIn_r _ [57, 26, 35, 58, 59, 60, 61, 17, 62, 63, 64, 65, 66, 20, 67, 68, 69, 70, 71, 72, 73, 74, 75, 49, 76, 51, 77, 78, 79, 80, 52, 110, 111, 112, 113, 114, 115, 116, 117, 118, 119, 120, 121, 122, 123, 124, 127, 128] (by decide +kernel) (by decide +kernel)
set_option maxRecDepth 20000 in
theorem gX7_wish_X2_tryWish : GoodIn wsX7_wish (wsV RX7 227 RX2 yX2_tryWish wsX2_tryWish) := goodIn_app (goodIn_of _ (by decide +kernel)) ggX7_wish_X2_tryWish
set_option maxRecDepth 20000 in
theorem ggX7_wish_X7_settle : GoodIn wsX7_wish wsX7_settle := goodIn_ca (goodIn_ca (goodIn_ca (goodIn_r _ [84, 85, 86, 87, 88, 89, 90, 1, 91, 92, 93, 6, 94, 8, 95, 96, 97, 98, 99, 100, 101, 102, 103, 104, 105, 106, 107, 108, 109] (by decide +kernel) (by decide +kernel)) (goodIn_sub (fun _ h => List.mem_cons_of_mem _ (List.mem_append_left _ (List.mem_append_left _ (List.mem_append_right _ h)))) (by decide +kernel))) (goodIn_sub (fun _ h => List.mem_cons_of_mem _ (List.mem_append_left _ (List.mem_append_right _ h))) (by decide +kernel))) (goodIn_sub (fun _ h => List.mem_cons_of_mem _ (List.mem_append_right _ h)) (by decide +kernel))
set_option maxRecDepth 20000 in
theorem gX7_wish_X7_settle : GoodIn wsX7_wish (wsV RX7 197 RX7 yX7_settle wsX7_settle) := goodIn_app (goodIn_of _ (by decide +kernel)) ggX7_wish_X7_settle
theorem dX7_wish_0 : decode cX7_wish 0 = .ok (.aload_n 0, 1) := by decide +kernel
theorem dX7_wish_1 : decode cX7_wish 1 = .ok (.getfield 26, 3) := by decide +kernel
theorem dX7_wish_4 : decode cX7_wish 4 = .ok (.aload_n 0, 1) := by decide +kernel
theorem dX7_wish_5 : decode cX7_wish 5 = .ok (.getfield 19, 3) := by decide +kernel
theorem dX7_wish_8 : decode cX7_wish 8 = .ok (.invokevirtual 191, 3) := by decide +kernel
theorem dX7_wish_11 : decode cX7_wish 11 = .ok (.aload_n 0, 1) := by decide +kernel
theorem dX7_wish_12 : decode cX7_wish 12 = .ok (.aload_n 0, 1) := by decide +kernel
theorem dX7_wish_13 : decode cX7_wish 13 = .ok (.getfield 19, 3) := by decide +kernel
theorem dX7_wish_16 : decode cX7_wish 16 = .ok (.iload_n 1, 1) := by decide +kernel
theorem dX7_wish_17 : decode cX7_wish 17 = .ok (.iload_n 2, 1) := by decide +kernel
theorem dX7_wish_18 : decode cX7_wish 18 = .ok (.invokevirtual 227, 3) := by decide +kernel
theorem dX7_wish_21 : decode cX7_wish 21 = .ok (.invokevirtual 197, 3) := by decide +kernel
theorem dX7_wish_24 : decode cX7_wish 24 = .ok (.ireturn, 1) := by decide +kernel
set_option maxRecDepth 20000 in
theorem ggX7_run_X7_isBetween : GoodIn wsX7_run wsX7_isBetween := goodIn_r _ [8] (by decide +kernel) (by decide +kernel)
set_option maxRecDepth 20000 in
theorem gX7_run_X7_isBetween : GoodIn wsX7_run (va_wsS RX7 46 yX7_isBetween wsX7_isBetween) := goodIn_app (goodIn_of _ (by decide +kernel)) ggX7_run_X7_isBetween
set_option maxRecDepth 20000 in
theorem ggX7_run_X1_prepare : GoodIn wsX7_run wsX1_prepare := goodIn_r _ [13, 14, 15, 16, 17, 12, 18, 19, 20, 21, 22, 23, 24, 25, 26, 27, 28, 29, 30, 31, 32, 33, 34, 35, 36, 37, 38, 39, 40, 41, 42, 43, 44, 45, 46, 47, 48, 49, 50, 51, 52, 53, 54, 55, 56, 57, 58, 59, 225, 226, 227, 228, 229, 230, 231, 232, 233, 234, 235, 236, 237, 238, 239, 240, 241, 242, 243, 244, 245, 246] (by decide +kernel) (by decide +kernel)
set_option maxRecDepth 20000 in
theorem gX7_run_X1_prepare : GoodIn wsX7_run (wsV RX7 191 RX1 yX1_prepare wsX1_prepare) := goodIn_app (goodIn_of _ (by decide +kernel)) ggX7_run_X1_prepare
set_option maxRecDepth 20000 in
theorem ggX7_run_X2_letDaysPass : GoodIn wsX7_run wsX2_letDaysPass := goodIn_r _ [63, 42, 40, 64, 25, 65, 66, 67, 23, 68, 41, 69, 34, 70, 71, 72, 55, 73, 57, 74, 75, 76, 77, 78, 79, 80, 81, 58, 82, 83, 84, 85, 86, 87, 88, 89, 90, 91, 92, 93, 94, 95, 96, 97, 98, 99, 100, 47, 101, 49, 102, 103, 104, 105, 32, 33, 38, 35, 27, 106, 107, 108, 109, 26, 110, 111, 112, 113, 7, 114, 115, 116, 117, 118, 119, 120, 121, 50, 122, 123, 124, 125, 36, 43, 126, 127, 128, 129, 130, 131, 132, 133, 51, 29, 30, 31, 134, 135, 136, 137, 138, 139, 140, 141, 142, 143, 144, 145, 146, 59, 147, 148, 149, 150, 151, 152, 153, 154, 155, 156, 157, 158, 159, 160, 161, 162, 163, 164, 165, 166, 167, 168, 169, 170, 39, 171, 172, 173, 174, 175, 176, 177, 178, 179, 180, 181, 182, 37, 183, 184, 185, 186, 187, 188, 189, 190, 191, 192, 193, 194, 195, 196, 197, 198, 199, 200, 228, 229, 230, 231, 232, 233, 234, 235, 236, 237, 238, 239, 240, 241, 242, 243, 244, 245, 246] (by decide +kernel) (by decide +kernel)
set_option maxRecDepth 20000 in
theorem gX7_run_X2_letDaysPass : GoodIn wsX7_run (wsV RX7 232 RX2 yX2_letDaysPass wsX2_letDaysPass) := goodIn_app (goodIn_of _ (by decide +kernel)) ggX7_run_X2_letDaysPass
set_option maxRecDepth 20000 in
theorem ggX7_run_X7_settle : GoodIn wsX7_run wsX7_settle := goodIn_ca (goodIn_ca (goodIn_ca (goodIn_r _ [204, 205, 206, 1, 2, 207, 208, 3, 209, 210, 211, 12, 212, 14, 213, 214, 215, 216, 217, 218, 219, 220, 221, 222, 223, 224, 225, 226, 227] (by decide +kernel) (by decide +kernel)) (goodIn_sub (fun _ h => List.mem_cons_of_mem _ (List.mem_append_left _ (List.mem_append_right _ h))) (by decide +kernel))) (goodIn_sub (fun _ h => List.mem_cons_of_mem _ (List.mem_append_left _ (List.mem_append_left _ (List.mem_append_right _ h)))) (by decide +kernel))) (goodIn_sub (fun _ h => List.mem_cons_of_mem _ (List.mem_append_right _ h)) (by decide +kernel))
set_option maxRecDepth 20000 in
theorem gX7_run_X7_settle : GoodIn wsX7_run (wsV RX7 197 RX7 yX7_settle wsX7_settle) := goodIn_app (goodIn_of _ (by decide +kernel)) ggX7_run_X7_settle
theorem dX7_run_0 : decode cX7_run 0 = .ok (.iload_n 1, 1) := by decide +kernel
theorem dX7_run_1 : decode cX7_run 1 = .ok (.iconst 1, 1) := by decide +kernel
theorem dX7_run_2 : decode cX7_run 2 = .ok (.bipush 30, 2) := by decide +kernel
theorem dX7_run_4 : decode cX7_run 4 = .ok (.invokestatic 46, 3) := by decide +kernel
theorem dX7_run_7 : decode cX7_run 7 = .ok (.ifCond .ne 13, 3) := by decide +kernel
theorem dX7_run_10 : decode cX7_run 10 = .ok (.new 50, 3) := by decide +kernel
theorem dX7_run_13 : decode cX7_run 13 = .ok (.dup, 1) := by decide +kernel
theorem dX7_run_14 : decode cX7_run 14 = .ok (.ldc 230, 2) := by decide +kernel
theorem dX7_run_16 : decode cX7_run 16 = .ok (.invokespecial 54, 3) := by decide +kernel
theorem dX7_run_19 : decode cX7_run 19 = .ok (.athrow, 1) := by decide +kernel
theorem dX7_run_20 : decode cX7_run 20 = .ok (.aload_n 0, 1) := by decide +kernel
theorem dX7_run_21 : decode cX7_run 21 = .ok (.getfield 26, 3) := by decide +kernel
theorem dX7_run_24 : decode cX7_run 24 = .ok (.aload_n 0, 1) := by decide +kernel
theorem dX7_run_25 : decode cX7_run 25 = .ok (.getfield 19, 3) := by decide +kernel
theorem dX7_run_28 : decode cX7_run 28 = .ok (.invokevirtual 191, 3) := by decide +kernel
theorem dX7_run_31 : decode cX7_run 31 = .ok (.aload_n 0, 1) := by decide +kernel
theorem dX7_run_32 : decode cX7_run 32 = .ok (.aload_n 0, 1) := by decide +kernel
theorem dX7_run_33 : decode cX7_run 33 = .ok (.getfield 19, 3) := by decide +kernel
theorem dX7_run_36 : decode cX7_run 36 = .ok (.iload_n 1, 1) := by decide +kernel
theorem dX7_run_37 : decode cX7_run 37 = .ok (.invokevirtual 232, 3) := by decide +kernel
theorem dX7_run_40 : decode cX7_run 40 = .ok (.invokevirtual 197, 3) := by decide +kernel
theorem dX7_run_43 : decode cX7_run 43 = .ok (.ireturn, 1) := by decide +kernel
set_option maxRecDepth 20000 in
theorem ggX7_set_X1_prepare : GoodIn wsX7_set wsX1_prepare := goodIn_r _ [7, 8, 9, 10, 11, 6, 12, 13, 14, 15, 16, 17, 18, 19, 20, 21, 22, 23, 24, 25, 26, 27, 28, 29, 30, 31, 32, 33, 34, 35, 36, 37, 38, 39, 40, 41, 42, 43, 44, 45, 46, 47, 48, 49, 50, 51, 52, 53, 93, 94, 95, 96, 97, 98, 99, 100, 101, 102, 103, 104, 105, 106, 107, 108, 109, 110, 111, 112, 113, 114] (by decide +kernel) (by decide +kernel)
set_option maxRecDepth 20000 in
theorem gX7_set_X1_prepare : GoodIn wsX7_set (wsV RX7 191 RX1 yX1_prepare wsX1_prepare) := goodIn_app (goodIn_of _ (by decide +kernel)) ggX7_set_X1_prepare
set_option maxRecDepth 20000 in
theorem ggX7_set_X2_trySet : GoodIn wsX7_set wsX2_trySet := goodIn_r _ [57, 58, 59, 37, 60, 61, 17, 62, 63, 64, 65, 66, 96, 97, 98, 99, 100, 101, 102, 103, 104, 105, 106, 107, 108, 109, 110] (by decide +kernel) (by decide +kernel)
set_option maxRecDepth 20000 in
theorem gX7_set_X2_trySet : GoodIn wsX7_set (wsV RX7 235 RX2 yX2_trySet wsX2_trySet) := goodIn_app (goodIn_of _ (by decide +kernel)) ggX7_set_X2_trySet
set_option maxRecDepth 20000 in
theorem ggX7_set_X7_settle : GoodIn wsX7_set wsX7_settle := goodIn_ca (goodIn_ca (goodIn_ca (goodIn_r _ [70, 71, 72, 73, 74, 75, 76, 1, 77, 78, 79, 6, 80, 8, 81, 82, 83, 84, 85, 86, 87, 88, 89, 90, 91, 92, 93, 94, 95] (by decide +kernel) (by decide +kernel)) (goodIn_sub (fun _ h => List.mem_cons_of_mem _ (List.mem_append_left _ (List.mem_append_left _ (List.mem_append_right _ h)))) (by decide +kernel))) (goodIn_sub (fun _ h => List.mem_cons_of_mem _ (List.mem_append_left _ (List.mem_append_right _ h))) (by decide +kernel))) (goodIn_sub (fun _ h => List.mem_cons_of_mem _ (List.mem_append_right _ h)) (by decide +kernel))
set_option maxRecDepth 20000 in
theorem gX7_set_X7_settle : GoodIn wsX7_set (wsV RX7 197 RX7 yX7_settle wsX7_settle) := goodIn_app (goodIn_of _ (by decide +kernel)) ggX7_set_X7_settle
theorem dX7_set_0 : decode cX7_set 0 = .ok (.aload_n 0, 1) := by decide +kernel
theorem dX7_set_1 : decode cX7_set 1 = .ok (.getfield 26, 3) := by decide +kernel
theorem dX7_set_4 : decode cX7_set 4 = .ok (.aload_n 0, 1) := by decide +kernel
theorem dX7_set_5 : decode cX7_set 5 = .ok (.getfield 19, 3) := by decide +kernel
theorem dX7_set_8 : decode cX7_set 8 = .ok (.invokevirtual 191, 3) := by decide +kernel
theorem dX7_set_11 : decode cX7_set 11 = .ok (.aload_n 0, 1) := by decide +kernel
theorem dX7_set_12 : decode cX7_set 12 = .ok (.aload_n 0, 1) := by decide +kernel
theorem dX7_set_13 : decode cX7_set 13 = .ok (.getfield 19, 3) := by decide +kernel
theorem dX7_set_16 : decode cX7_set 16 = .ok (.iload_n 1, 1) := by decide +kernel
theorem dX7_set_17 : decode cX7_set 17 = .ok (.iload_n 2, 1) := by decide +kernel
theorem dX7_set_18 : decode cX7_set 18 = .ok (.invokevirtual 235, 3) := by decide +kernel
theorem dX7_set_21 : decode cX7_set 21 = .ok (.invokevirtual 197, 3) := by decide +kernel
theorem dX7_set_24 : decode cX7_set 24 = .ok (.ireturn, 1) := by decide +kernel
set_option maxRecDepth 20000 in
theorem ggX7_undo_X1_takeBack : GoodIn wsX7_undo wsX1_takeBack := goodIn_r _ [10, 11, 12, 13, 14, 15, 9, 16, 17, 18, 19, 20, 21, 22, 23, 24, 25, 26, 27, 28, 29, 30, 31, 32, 33, 34, 35, 36, 37, 38, 39, 40, 41, 42, 43, 44, 45, 46, 47, 48, 49, 50, 51, 52, 53, 54, 55, 56, 57, 65, 66, 67, 68, 69, 70, 71, 72, 73, 74, 75, 76, 77, 78, 79, 80, 81, 82, 83, 84, 85, 86] (by decide +kernel) (by decide +kernel)
set_option maxRecDepth 20000 in
theorem gX7_undo_X1_takeBack : GoodIn wsX7_undo (wsV RX7 244 RX1 yX1_takeBack wsX1_takeBack) := goodIn_app (goodIn_of _ (by decide +kernel)) ggX7_undo_X1_takeBack
theorem dX7_undo_0 : decode cX7_undo 0 = .ok (.aload_n 0, 1) := by decide +kernel
theorem dX7_undo_1 : decode cX7_undo 1 = .ok (.getfield 26, 3) := by decide +kernel
theorem dX7_undo_4 : decode cX7_undo 4 = .ok (.getfield 238, 3) := by decide +kernel
theorem dX7_undo_7 : decode cX7_undo 7 = .ok (.ifCond .ne 13, 3) := by decide +kernel
theorem dX7_undo_10 : decode cX7_undo 10 = .ok (.new 61, 3) := by decide +kernel
theorem dX7_undo_13 : decode cX7_undo 13 = .ok (.dup, 1) := by decide +kernel
theorem dX7_undo_14 : decode cX7_undo 14 = .ok (.ldc 242, 2) := by decide +kernel
theorem dX7_undo_16 : decode cX7_undo 16 = .ok (.invokespecial 65, 3) := by decide +kernel
theorem dX7_undo_19 : decode cX7_undo 19 = .ok (.athrow, 1) := by decide +kernel
theorem dX7_undo_20 : decode cX7_undo 20 = .ok (.aload_n 0, 1) := by decide +kernel
theorem dX7_undo_21 : decode cX7_undo 21 = .ok (.getfield 26, 3) := by decide +kernel
theorem dX7_undo_24 : decode cX7_undo 24 = .ok (.aload_n 0, 1) := by decide +kernel
theorem dX7_undo_25 : decode cX7_undo 25 = .ok (.getfield 19, 3) := by decide +kernel
theorem dX7_undo_28 : decode cX7_undo 28 = .ok (.invokevirtual 244, 3) := by decide +kernel
theorem dX7_undo_31 : decode cX7_undo 31 = .ok (.aload_n 0, 1) := by decide +kernel
theorem dX7_undo_32 : decode cX7_undo 32 = .ok (.getfield 26, 3) := by decide +kernel
theorem dX7_undo_35 : decode cX7_undo 35 = .ok (.getfield 238, 3) := by decide +kernel
theorem dX7_undo_38 : decode cX7_undo 38 = .ok (.ireturn, 1) := by decide +kernel
set_option maxRecDepth 20000 in
theorem ggX7_whyNot_X2_hasPair : GoodIn wsX7_whyNot wsX2_hasPair := goodIn_r _ [10, 11, 12, 13, 9, 14, 15, 16, 17, 18, 72, 73, 74, 75, 76, 77, 78, 79, 80, 81, 82, 83, 84, 85, 86] (by decide +kernel) (by decide +kernel)
set_option maxRecDepth 20000 in
theorem gX7_whyNot_X2_hasPair : GoodIn wsX7_whyNot (wsV RX7 247 RX2 yX2_hasPair wsX2_hasPair) := goodIn_app (goodIn_of _ (by decide +kernel)) ggX7_whyNot_X2_hasPair
set_option maxRecDepth 20000 in
theorem ggX7_whyNot_X2_isTime : GoodIn wsX7_whyNot wsX2_isTime := goodIn_r _ [22, 23, 72, 73, 74, 75, 76, 77, 78, 79, 80, 81, 82, 83, 84, 85, 86] (by decide +kernel) (by decide +kernel)
set_option maxRecDepth 20000 in
theorem gX7_whyNot_X2_isTime : GoodIn wsX7_whyNot (wsV RX7 253 RX2 yX2_isTime wsX2_isTime) := goodIn_app (goodIn_of _ (by decide +kernel)) ggX7_whyNot_X2_isTime
set_option maxRecDepth 20000 in
theorem ggX7_whyNot_X2_reasonAgainst : GoodIn wsX7_whyNot wsX2_reasonAgainst := goodIn_r _ [27, 28, 29, 30, 9, 31, 32, 33, 34, 23, 35, 36, 37, 11, 12, 13, 14, 15, 16, 17, 18, 38, 39, 40, 41, 42, 43, 44, 45, 46, 47, 48, 49, 50, 51, 52, 53, 54, 55, 56, 57, 58, 59, 60, 61, 62, 63, 64, 72, 73, 74, 75, 76, 77, 78, 79, 80, 81, 82, 83, 84, 85, 86, 87, 88] (by decide +kernel) (by decide +kernel)
set_option maxRecDepth 20000 in
theorem gX7_whyNot_X2_reasonAgainst : GoodIn wsX7_whyNot (wsV RX7 258 RX2 yX2_reasonAgainst wsX2_reasonAgainst) := goodIn_app (goodIn_of _ (by decide +kernel)) ggX7_whyNot_X2_reasonAgainst
theorem dX7_whyNot_0 : decode cX7_whyNot 0 = .ok (.aload_n 0, 1) := by decide +kernel
theorem dX7_whyNot_1 : decode cX7_whyNot 1 = .ok (.getfield 19, 3) := by decide +kernel
theorem dX7_whyNot_4 : decode cX7_whyNot 4 = .ok (.iload_n 1, 1) := by decide +kernel
theorem dX7_whyNot_5 : decode cX7_whyNot 5 = .ok (.iload_n 2, 1) := by decide +kernel
theorem dX7_whyNot_6 : decode cX7_whyNot 6 = .ok (.invokevirtual 247, 3) := by decide +kernel
theorem dX7_whyNot_9 : decode cX7_whyNot 9 = .ok (.ifCond .ne 13, 3) := by decide +kernel
theorem dX7_whyNot_12 : decode cX7_whyNot 12 = .ok (.new 113, 3) := by decide +kernel
theorem dX7_whyNot_15 : decode cX7_whyNot 15 = .ok (.dup, 1) := by decide +kernel
theorem dX7_whyNot_16 : decode cX7_whyNot 16 = .ok (.ldc 251, 2) := by decide +kernel
theorem dX7_whyNot_18 : decode cX7_whyNot 18 = .ok (.invokespecial 117, 3) := by decide +kernel
theorem dX7_whyNot_21 : decode cX7_whyNot 21 = .ok (.athrow, 1) := by decide +kernel
theorem dX7_whyNot_22 : decode cX7_whyNot 22 = .ok (.aload_n 0, 1) := by decide +kernel
theorem dX7_whyNot_23 : decode cX7_whyNot 23 = .ok (.getfield 19, 3) := by decide +kernel
theorem dX7_whyNot_26 : decode cX7_whyNot 26 = .ok (.iload_n 3, 1) := by decide +kernel
theorem dX7_whyNot_27 : decode cX7_whyNot 27 = .ok (.iload 4, 2) := by decide +kernel
theorem dX7_whyNot_29 : decode cX7_whyNot 29 = .ok (.invokevirtual 253, 3) := by decide +kernel
theorem dX7_whyNot_32 : decode cX7_whyNot 32 = .ok (.ifCond .ne 14, 3) := by decide +kernel
theorem dX7_whyNot_35 : decode cX7_whyNot 35 = .ok (.new 50, 3) := by decide +kernel
theorem dX7_whyNot_38 : decode cX7_whyNot 38 = .ok (.dup, 1) := by decide +kernel
theorem dX7_whyNot_39 : decode cX7_whyNot 39 = .ok (.ldc_w 256, 3) := by decide +kernel
theorem dX7_whyNot_42 : decode cX7_whyNot 42 = .ok (.invokespecial 54, 3) := by decide +kernel
theorem dX7_whyNot_45 : decode cX7_whyNot 45 = .ok (.athrow, 1) := by decide +kernel
theorem dX7_whyNot_46 : decode cX7_whyNot 46 = .ok (.aload_n 0, 1) := by decide +kernel
theorem dX7_whyNot_47 : decode cX7_whyNot 47 = .ok (.getfield 19, 3) := by decide +kernel
theorem dX7_whyNot_50 : decode cX7_whyNot 50 = .ok (.iload_n 1, 1) := by decide +kernel
theorem dX7_whyNot_51 : decode cX7_whyNot 51 = .ok (.iload_n 2, 1) := by decide +kernel
theorem dX7_whyNot_52 : decode cX7_whyNot 52 = .ok (.iload_n 3, 1) := by decide +kernel
theorem dX7_whyNot_53 : decode cX7_whyNot 53 = .ok (.iload 4, 2) := by decide +kernel
theorem dX7_whyNot_55 : decode cX7_whyNot 55 = .ok (.invokevirtual 258, 3) := by decide +kernel
theorem dX7_whyNot_58 : decode cX7_whyNot 58 = .ok (.ireturn, 1) := by decide +kernel
set_option maxRecDepth 20000 in
theorem ggX7_firstTime_X2_hasPair : GoodIn wsX7_firstTime wsX2_hasPair := goodIn_r _ [8, 9, 10, 11, 7, 12, 13, 14, 15, 16, 66, 67, 68, 69, 70, 71, 72, 73, 74, 75, 76, 77, 78, 79, 80] (by decide +kernel) (by decide +kernel)
set_option maxRecDepth 20000 in
theorem gX7_firstTime_X2_hasPair : GoodIn wsX7_firstTime (wsV RX7 247 RX2 yX2_hasPair wsX2_hasPair) := goodIn_app (goodIn_of _ (by decide +kernel)) ggX7_firstTime_X2_hasPair
set_option maxRecDepth 20000 in
theorem ggX7_firstTime_X2_earliest : GoodIn wsX7_firstTime wsX2_earliest := goodIn_r _ [20, 21, 22, 23, 24, 25, 26, 27, 28, 29, 30, 31, 7, 32, 33, 34, 35, 36, 37, 9, 10, 11, 12, 13, 14, 15, 16, 38, 39, 40, 41, 42, 43, 44, 45, 46, 47, 48, 49, 50, 51, 52, 53, 54, 55, 56, 57, 58, 66, 67, 68, 69, 70, 71, 72, 73, 74, 75, 76, 77, 78, 79, 80, 81, 82] (by decide +kernel) (by decide +kernel)
set_option maxRecDepth 20000 in
theorem gX7_firstTime_X2_earliest : GoodIn wsX7_firstTime (wsV RX7 261 RX2 yX2_earliest wsX2_earliest) := goodIn_app (goodIn_of _ (by decide +kernel)) ggX7_firstTime_X2_earliest
theorem dX7_firstTime_0 : decode cX7_firstTime 0 = .ok (.aload_n 0, 1) := by decide +kernel
theorem dX7_firstTime_1 : decode cX7_firstTime 1 = .ok (.getfield 19, 3) := by decide +kernel
theorem dX7_firstTime_4 : decode cX7_firstTime 4 = .ok (.iload_n 1, 1) := by decide +kernel
theorem dX7_firstTime_5 : decode cX7_firstTime 5 = .ok (.iload_n 2, 1) := by decide +kernel
theorem dX7_firstTime_6 : decode cX7_firstTime 6 = .ok (.invokevirtual 247, 3) := by decide +kernel
theorem dX7_firstTime_9 : decode cX7_firstTime 9 = .ok (.ifCond .ne 13, 3) := by decide +kernel
theorem dX7_firstTime_12 : decode cX7_firstTime 12 = .ok (.new 113, 3) := by decide +kernel
theorem dX7_firstTime_15 : decode cX7_firstTime 15 = .ok (.dup, 1) := by decide +kernel
theorem dX7_firstTime_16 : decode cX7_firstTime 16 = .ok (.ldc 251, 2) := by decide +kernel
theorem dX7_firstTime_18 : decode cX7_firstTime 18 = .ok (.invokespecial 117, 3) := by decide +kernel
theorem dX7_firstTime_21 : decode cX7_firstTime 21 = .ok (.athrow, 1) := by decide +kernel
theorem dX7_firstTime_22 : decode cX7_firstTime 22 = .ok (.aload_n 0, 1) := by decide +kernel
theorem dX7_firstTime_23 : decode cX7_firstTime 23 = .ok (.getfield 19, 3) := by decide +kernel
theorem dX7_firstTime_26 : decode cX7_firstTime 26 = .ok (.iload_n 1, 1) := by decide +kernel
theorem dX7_firstTime_27 : decode cX7_firstTime 27 = .ok (.iload_n 2, 1) := by decide +kernel
theorem dX7_firstTime_28 : decode cX7_firstTime 28 = .ok (.bipush 60, 2) := by decide +kernel
theorem dX7_firstTime_30 : decode cX7_firstTime 30 = .ok (.invokevirtual 261, 3) := by decide +kernel
theorem dX7_firstTime_33 : decode cX7_firstTime 33 = .ok (.ireturn, 1) := by decide +kernel
set_option maxRecDepth 20000 in
theorem ggX7_coming_X7_isBetween : GoodIn wsX7_coming wsX7_isBetween := goodIn_r _ [11] (by decide +kernel) (by decide +kernel)
set_option maxRecDepth 20000 in
theorem gX7_coming_X7_isBetween : GoodIn wsX7_coming (va_wsS RX7 46 yX7_isBetween wsX7_isBetween) := goodIn_app (goodIn_of _ (by decide +kernel)) ggX7_coming_X7_isBetween
set_option maxRecDepth 20000 in
theorem ggX7_coming_X2_copyFrom : GoodIn wsX7_coming wsX2_copyFrom := goodIn_r _ [16, 17, 18, 19, 20, 21, 22, 23, 24, 25, 26, 27, 28, 29, 30, 31, 32, 33, 34, 35, 36, 37, 38, 39, 40, 41, 42, 43, 44, 45, 46, 47, 48, 49, 50, 51, 200, 201, 202, 203, 204, 205, 206, 207, 208, 209, 210, 211, 212, 213, 214, 217, 218, 215, 216] (by decide +kernel) (by decide +kernel)
set_option maxRecDepth 20000 in
theorem gX7_coming_X2_copyFrom : GoodIn wsX7_coming (wsV RX7 79 RX2 yX2_copyFrom wsX2_copyFrom) := goodIn_app (goodIn_of _ (by decide +kernel)) ggX7_coming_X2_copyFrom
set_option maxRecDepth 20000 in
theorem ggX7_coming_X2_letDaysPass : GoodIn wsX7_coming wsX2_letDaysPass := goodIn_r _ [55, 34, 32, 56, 17, 57, 58, 59, 15, 60, 33, 61, 26, 62, 63, 64, 47, 65, 49, 66, 67, 68, 69, 70, 71, 72, 73, 50, 74, 75, 76, 77, 78, 79, 80, 81, 82, 83, 84, 85, 86, 87, 88, 89, 90, 91, 92, 39, 93, 41, 94, 95, 96, 97, 24, 25, 30, 27, 19, 98, 99, 100, 101, 18, 102, 103, 104, 105, 10, 106, 107, 108, 109, 110, 111, 112, 113, 42, 114, 115, 116, 117, 28, 35, 118, 119, 120, 121, 122, 123, 124, 125, 43, 21, 22, 23, 126, 127, 128, 129, 130, 131, 132, 133, 134, 135, 136, 137, 138, 51, 139, 140, 141, 142, 143, 144, 145, 146, 147, 148, 149, 150, 151, 152, 153, 154, 155, 156, 157, 158, 159, 160, 161, 162, 31, 163, 164, 165, 166, 167, 168, 169, 170, 171, 172, 173, 174, 29, 175, 176, 177, 178, 179, 180, 181, 182, 183, 184, 185, 186, 187, 188, 189, 190, 191, 192, 200, 201, 202, 203, 204, 205, 206, 207, 208, 209, 210, 211, 212, 213, 214, 217, 218, 215, 216] (by decide +kernel) (by decide +kernel)
set_option maxRecDepth 20000 in
theorem gX7_coming_X2_letDaysPass : GoodIn wsX7_coming (wsV RX7 232 RX2 yX2_letDaysPass wsX2_letDaysPass) := goodIn_app (goodIn_of _ (by decide +kernel)) ggX7_coming_X2_letDaysPass
theorem dX7_coming_0 : decode cX7_coming 0 = .ok (.iload_n 1, 1) := by decide +kernel
theorem dX7_coming_1 : decode cX7_coming 1 = .ok (.iconst 1, 1) := by decide +kernel
theorem dX7_coming_2 : decode cX7_coming 2 = .ok (.bipush 60, 2) := by decide +kernel
theorem dX7_coming_4 : decode cX7_coming 4 = .ok (.invokestatic 46, 3) := by decide +kernel
theorem dX7_coming_7 : decode cX7_coming 7 = .ok (.ifCond .ne 14, 3) := by decide +kernel
theorem dX7_coming_10 : decode cX7_coming 10 = .ok (.new 50, 3) := by decide +kernel
theorem dX7_coming_13 : decode cX7_coming 13 = .ok (.dup, 1) := by decide +kernel
theorem dX7_coming_14 : decode cX7_coming 14 = .ok (.ldc_w 265, 3) := by decide +kernel
theorem dX7_coming_17 : decode cX7_coming 17 = .ok (.invokespecial 54, 3) := by decide +kernel
theorem dX7_coming_20 : decode cX7_coming 20 = .ok (.athrow, 1) := by decide +kernel
theorem dX7_coming_21 : decode cX7_coming 21 = .ok (.iload_n 2, 1) := by decide +kernel
theorem dX7_coming_22 : decode cX7_coming 22 = .ok (.iconst 0, 1) := by decide +kernel
theorem dX7_coming_23 : decode cX7_coming 23 = .ok (.iconst 4, 1) := by decide +kernel
theorem dX7_coming_24 : decode cX7_coming 24 = .ok (.invokestatic 46, 3) := by decide +kernel
theorem dX7_coming_27 : decode cX7_coming 27 = .ok (.ifCond .ne 13, 3) := by decide +kernel
theorem dX7_coming_30 : decode cX7_coming 30 = .ok (.new 50, 3) := by decide +kernel
theorem dX7_coming_33 : decode cX7_coming 33 = .ok (.dup, 1) := by decide +kernel
theorem dX7_coming_34 : decode cX7_coming 34 = .ok (.ldc 129, 2) := by decide +kernel
theorem dX7_coming_36 : decode cX7_coming 36 = .ok (.invokespecial 54, 3) := by decide +kernel
theorem dX7_coming_39 : decode cX7_coming 39 = .ok (.athrow, 1) := by decide +kernel
theorem dX7_coming_40 : decode cX7_coming 40 = .ok (.aload_n 0, 1) := by decide +kernel
theorem dX7_coming_41 : decode cX7_coming 41 = .ok (.getfield 40, 3) := by decide +kernel
theorem dX7_coming_44 : decode cX7_coming 44 = .ok (.aload_n 0, 1) := by decide +kernel
theorem dX7_coming_45 : decode cX7_coming 45 = .ok (.getfield 19, 3) := by decide +kernel
theorem dX7_coming_48 : decode cX7_coming 48 = .ok (.invokevirtual 79, 3) := by decide +kernel
theorem dX7_coming_51 : decode cX7_coming 51 = .ok (.aload_n 0, 1) := by decide +kernel
theorem dX7_coming_52 : decode cX7_coming 52 = .ok (.getfield 40, 3) := by decide +kernel
theorem dX7_coming_55 : decode cX7_coming 55 = .ok (.iload_n 1, 1) := by decide +kernel
theorem dX7_coming_56 : decode cX7_coming 56 = .ok (.invokevirtual 232, 3) := by decide +kernel
theorem dX7_coming_59 : decode cX7_coming 59 = .ok (.pop, 1) := by decide +kernel
theorem dX7_coming_60 : decode cX7_coming 60 = .ok (.iload_n 2, 1) := by decide +kernel
theorem dX7_coming_61 : decode cX7_coming 61 = .ok (.iconst 4, 1) := by decide +kernel
theorem dX7_coming_62 : decode cX7_coming 62 = .ok (.if_icmp .ne 16, 3) := by decide +kernel
theorem dX7_coming_65 : decode cX7_coming 65 = .ok (.aload_n 0, 1) := by decide +kernel
theorem dX7_coming_66 : decode cX7_coming 66 = .ok (.getfield 40, 3) := by decide +kernel
theorem dX7_coming_69 : decode cX7_coming 69 = .ok (.getfield 167, 3) := by decide +kernel
theorem dX7_coming_72 : decode cX7_coming 72 = .ok (.getfield 267, 3) := by decide +kernel
theorem dX7_coming_75 : decode cX7_coming 75 = .ok (.goto 22, 3) := by decide +kernel
theorem dX7_coming_78 : decode cX7_coming 78 = .ok (.aload_n 0, 1) := by decide +kernel
theorem dX7_coming_79 : decode cX7_coming 79 = .ok (.getfield 40, 3) := by decide +kernel
theorem dX7_coming_82 : decode cX7_coming 82 = .ok (.getfield 268, 3) := by decide +kernel
theorem dX7_coming_85 : decode cX7_coming 85 = .ok (.iload_n 2, 1) := by decide +kernel
theorem dX7_coming_86 : decode cX7_coming 86 = .ok (.iaload, 1) := by decide +kernel
theorem dX7_coming_87 : decode cX7_coming 87 = .ok (.aload_n 0, 1) := by decide +kernel
theorem dX7_coming_88 : decode cX7_coming 88 = .ok (.getfield 19, 3) := by decide +kernel
theorem dX7_coming_91 : decode cX7_coming 91 = .ok (.getfield 268, 3) := by decide +kernel
theorem dX7_coming_94 : decode cX7_coming 94 = .ok (.iload_n 2, 1) := by decide +kernel
theorem dX7_coming_95 : decode cX7_coming 95 = .ok (.iaload, 1) := by decide +kernel
theorem dX7_coming_96 : decode cX7_coming 96 = .ok (.isub, 1) := by decide +kernel
theorem dX7_coming_97 : decode cX7_coming 97 = .ok (.ireturn, 1) := by decide +kernel
set_option maxRecDepth 20000 in
theorem ggX7_becomes_X0_has : GoodIn wsX7_becomes wsX0_has := goodIn_r _ [13, 14, 219, 220] (by decide +kernel) (by decide +kernel)
set_option maxRecDepth 20000 in
theorem gX7_becomes_X0_has : GoodIn wsX7_becomes (wsV RX7 138 RX0 yX0_has wsX0_has) := goodIn_app (goodIn_of _ (by decide +kernel)) ggX7_becomes_X0_has
set_option maxRecDepth 20000 in
theorem ggX7_becomes_X0_at : GoodIn wsX7_becomes wsX0_at := goodIn_r _ [18, 19, 20, 10, 11, 12, 13, 14, 219, 220] (by decide +kernel) (by decide +kernel)
set_option maxRecDepth 20000 in
theorem gX7_becomes_X0_at : GoodIn wsX7_becomes (wsV RX7 147 RX0 yX0_at wsX0_at) := goodIn_app (goodIn_of _ (by decide +kernel)) ggX7_becomes_X0_at
set_option maxRecDepth 20000 in
theorem ggX7_becomes_X2_copyFrom : GoodIn wsX7_becomes wsX2_copyFrom := goodIn_r _ [25, 26, 27, 28, 29, 30, 31, 32, 33, 34, 35, 36, 37, 38, 39, 40, 41, 42, 43, 44, 45, 46, 47, 12, 48, 14, 19, 49, 50, 51, 52, 53, 54, 55, 56, 57, 204, 205, 206, 207, 208, 209, 210, 211, 212, 213, 214, 215, 216, 217, 218, 219, 220, 221, 222] (by decide +kernel) (by decide +kernel)
set_option maxRecDepth 20000 in
theorem gX7_becomes_X2_copyFrom : GoodIn wsX7_becomes (wsV RX7 79 RX2 yX2_copyFrom wsX2_copyFrom) := goodIn_app (goodIn_of _ (by decide +kernel)) ggX7_becomes_X2_copyFrom
set_option maxRecDepth 20000 in
theorem ggX7_becomes_X2_fateOf : GoodIn wsX7_becomes wsX2_fateOf := goodIn_r _ [61, 41, 26, 62, 63, 16, 17, 12, 18, 19, 20, 10, 11, 13, 14, 64, 65, 66, 24, 67, 43, 68, 69, 70, 71, 42, 72, 35, 73, 74, 75, 53, 76, 55, 77, 78, 79, 80, 81, 82, 83, 84, 56, 85, 86, 87, 88, 89, 90, 91, 92, 93, 94, 95, 96, 97, 98, 99, 100, 101, 102, 103, 104, 105, 106, 107, 108, 33, 34, 39, 36, 28, 109, 110, 111, 112, 27, 113, 114, 115, 116, 117, 118, 119, 120, 121, 122, 123, 124, 125, 126, 127, 128, 129, 37, 44, 130, 131, 132, 133, 134, 135, 136, 137, 49, 30, 31, 32, 138, 139, 140, 141, 142, 143, 144, 145, 146, 147, 148, 149, 150, 57, 151, 152, 153, 154, 155, 156, 157, 158, 159, 160, 161, 162, 163, 164, 165, 166, 40, 167, 168, 169, 170, 171, 172, 173, 174, 175, 176, 177, 178, 38, 179, 180, 181, 182, 183, 184, 185, 186, 187, 188, 189, 190, 191, 192, 193, 194, 195, 196, 204, 205, 206, 207, 208, 209, 210, 211, 212, 213, 214, 215, 216, 217, 218, 219, 220, 221, 222] (by decide +kernel) (by decide +kernel)
set_option maxRecDepth 20000 in
theorem gX7_becomes_X2_fateOf : GoodIn wsX7_becomes (wsV RX7 276 RX2 yX2_fateOf wsX2_fateOf) := goodIn_app (goodIn_of _ (by decide +kernel)) ggX7_becomes_X2_fateOf
theorem dX7_becomes_0 : decode cX7_becomes 0 = .ok (.aload_n 0, 1) := by decide +kernel
theorem dX7_becomes_1 : decode cX7_becomes 1 = .ok (.getfield 19, 3) := by decide +kernel
theorem dX7_becomes_4 : decode cX7_becomes 4 = .ok (.getfield 134, 3) := by decide +kernel
theorem dX7_becomes_7 : decode cX7_becomes 7 = .ok (.iload_n 1, 1) := by decide +kernel
theorem dX7_becomes_8 : decode cX7_becomes 8 = .ok (.invokevirtual 138, 3) := by decide +kernel
theorem dX7_becomes_11 : decode cX7_becomes 11 = .ok (.ifCond .ne 13, 3) := by decide +kernel
theorem dX7_becomes_14 : decode cX7_becomes 14 = .ok (.new 113, 3) := by decide +kernel
theorem dX7_becomes_17 : decode cX7_becomes 17 = .ok (.dup, 1) := by decide +kernel
theorem dX7_becomes_18 : decode cX7_becomes 18 = .ok (.ldc 143, 2) := by decide +kernel
theorem dX7_becomes_20 : decode cX7_becomes 20 = .ok (.invokespecial 117, 3) := by decide +kernel
theorem dX7_becomes_23 : decode cX7_becomes 23 = .ok (.athrow, 1) := by decide +kernel
theorem dX7_becomes_24 : decode cX7_becomes 24 = .ok (.aload_n 0, 1) := by decide +kernel
theorem dX7_becomes_25 : decode cX7_becomes 25 = .ok (.getfield 19, 3) := by decide +kernel
theorem dX7_becomes_28 : decode cX7_becomes 28 = .ok (.getfield 134, 3) := by decide +kernel
theorem dX7_becomes_31 : decode cX7_becomes 31 = .ok (.iload_n 1, 1) := by decide +kernel
theorem dX7_becomes_32 : decode cX7_becomes 32 = .ok (.iconst 0, 1) := by decide +kernel
theorem dX7_becomes_33 : decode cX7_becomes 33 = .ok (.invokevirtual 147, 3) := by decide +kernel
theorem dX7_becomes_36 : decode cX7_becomes 36 = .ok (.aload_n 0, 1) := by decide +kernel
theorem dX7_becomes_37 : decode cX7_becomes 37 = .ok (.getfield 19, 3) := by decide +kernel
theorem dX7_becomes_40 : decode cX7_becomes 40 = .ok (.getfield 271, 3) := by decide +kernel
theorem dX7_becomes_43 : decode cX7_becomes 43 = .ok (.isub, 1) := by decide +kernel
theorem dX7_becomes_44 : decode cX7_becomes 44 = .ok (.bipush 60, 2) := by decide +kernel
theorem dX7_becomes_46 : decode cX7_becomes 46 = .ok (.if_icmp .lt 14, 3) := by decide +kernel
theorem dX7_becomes_49 : decode cX7_becomes 49 = .ok (.new 61, 3) := by decide +kernel
theorem dX7_becomes_52 : decode cX7_becomes 52 = .ok (.dup, 1) := by decide +kernel
theorem dX7_becomes_53 : decode cX7_becomes 53 = .ok (.ldc_w 274, 3) := by decide +kernel
theorem dX7_becomes_56 : decode cX7_becomes 56 = .ok (.invokespecial 65, 3) := by decide +kernel
theorem dX7_becomes_59 : decode cX7_becomes 59 = .ok (.athrow, 1) := by decide +kernel
theorem dX7_becomes_60 : decode cX7_becomes 60 = .ok (.aload_n 0, 1) := by decide +kernel
theorem dX7_becomes_61 : decode cX7_becomes 61 = .ok (.getfield 40, 3) := by decide +kernel
theorem dX7_becomes_64 : decode cX7_becomes 64 = .ok (.aload_n 0, 1) := by decide +kernel
theorem dX7_becomes_65 : decode cX7_becomes 65 = .ok (.getfield 19, 3) := by decide +kernel
theorem dX7_becomes_68 : decode cX7_becomes 68 = .ok (.invokevirtual 79, 3) := by decide +kernel
theorem dX7_becomes_71 : decode cX7_becomes 71 = .ok (.aload_n 0, 1) := by decide +kernel
theorem dX7_becomes_72 : decode cX7_becomes 72 = .ok (.getfield 40, 3) := by decide +kernel
theorem dX7_becomes_75 : decode cX7_becomes 75 = .ok (.iload_n 1, 1) := by decide +kernel
theorem dX7_becomes_76 : decode cX7_becomes 76 = .ok (.invokevirtual 276, 3) := by decide +kernel
theorem dX7_becomes_79 : decode cX7_becomes 79 = .ok (.ireturn, 1) := by decide +kernel
set_option maxRecDepth 20000 in
theorem ggX7_runScript_X7_isBetween : GoodIn wsX7_runScript wsX7_isBetween := goodIn_r _ [9] (by decide +kernel) (by decide +kernel)
set_option maxRecDepth 20000 in
theorem gX7_runScript_X7_isBetween : GoodIn wsX7_runScript (va_wsS RX7 46 yX7_isBetween wsX7_isBetween) := goodIn_app (goodIn_of _ (by decide +kernel)) ggX7_runScript_X7_isBetween
set_option maxRecDepth 20000 in
theorem ggX7_runScript_X3_withoutLast : GoodIn wsX7_runScript wsX3_withoutLast := goodIn_r _ [13, 14] (by decide +kernel) (by decide +kernel)
set_option maxRecDepth 20000 in
theorem gX7_runScript_X3_withoutLast : GoodIn wsX7_runScript (va_wsS RX7 281 yX3_withoutLast wsX3_withoutLast) := goodIn_app (goodIn_of _ (by decide +kernel)) ggX7_runScript_X3_withoutLast
set_option maxRecDepth 20000 in
theorem ggX7_runScript_X2_copyFrom : GoodIn wsX7_runScript wsX2_copyFrom := goodIn_r _ [19, 20, 21, 22, 23, 24, 25, 26, 27, 28, 29, 30, 31, 32, 33, 34, 35, 36, 37, 38, 39, 40, 41, 42, 43, 44, 45, 46, 47, 48, 49, 50, 51, 52, 53, 54, 248, 249, 250, 251, 252, 253, 254, 255, 256, 257, 258, 259, 260, 261, 262, 263, 264, 265, 266] (by decide +kernel) (by decide +kernel)
set_option maxRecDepth 20000 in
theorem gX7_runScript_X2_copyFrom : GoodIn wsX7_runScript (wsV RX7 79 RX2 yX2_copyFrom wsX2_copyFrom) := goodIn_app (goodIn_of _ (by decide +kernel)) ggX7_runScript_X2_copyFrom
set_option maxRecDepth 20000 in
theorem ggX7_runScript_X3_succeeds : GoodIn wsX7_runScript wsX3_succeeds := goodIn_r _ [57, 58, 59, 60, 61, 62, 63, 64, 18, 65, 35, 66, 67, 68, 69, 70, 71, 72, 73, 21, 74, 75, 76, 77, 78, 79, 80, 20, 81, 82, 83, 84, 85, 86, 87, 88, 27, 28, 33, 30, 22, 89, 8, 90, 91, 92, 93, 94, 95, 96, 42, 97, 44, 45, 98, 99, 100, 101, 31, 38, 102, 103, 104, 105, 106, 107, 108, 109, 110, 111, 112, 113, 46, 24, 25, 26, 114, 115, 116, 117, 118, 119, 120, 121, 122, 123, 124, 125, 126, 36, 127, 128, 129, 130, 50, 131, 52, 132, 133, 134, 135, 53, 136, 137, 138, 139, 140, 141, 142, 143, 144, 145, 34, 146, 147, 148, 149, 7, 9, 150, 151, 152, 153, 37, 154, 155, 156, 157, 158, 29, 159, 160, 161, 162, 163, 164, 165, 166, 167, 168, 169, 170, 171, 172, 173, 174, 175, 176, 177, 178, 179, 180, 181, 182, 183, 184, 185, 186, 187, 188, 189, 190, 54, 191, 192, 193, 194, 195, 196, 197, 198, 199, 200, 201, 202, 203, 204, 205, 206, 207, 208, 209, 210, 211, 212, 213, 214, 215, 216, 217, 218, 219, 220, 221, 222, 32, 223, 224, 225, 226, 227, 228, 229, 230, 231, 232, 233, 234, 235, 236, 237, 238, 239, 240, 248, 249, 250, 251, 252, 253, 254, 255, 256, 257, 258, 259, 260, 261, 262, 263, 264, 265, 266] (by decide +kernel) (by decide +kernel)
set_option maxRecDepth 20000 in
theorem gX7_runScript_X3_succeeds : GoodIn wsX7_runScript (va_wsS RX7 291 yX3_succeeds wsX3_succeeds) := goodIn_app (goodIn_of _ (by decide +kernel)) ggX7_runScript_X3_succeeds
theorem dX7_runScript_0 : decode cX7_runScript 0 = .ok (.iload_n 1, 1) := by decide +kernel
theorem dX7_runScript_1 : decode cX7_runScript 1 = .ok (.iconst 1, 1) := by decide +kernel
theorem dX7_runScript_2 : decode cX7_runScript 2 = .ok (.iconst 3, 1) := by decide +kernel
theorem dX7_runScript_3 : decode cX7_runScript 3 = .ok (.invokestatic 46, 3) := by decide +kernel
theorem dX7_runScript_6 : decode cX7_runScript 6 = .ok (.ifCond .ne 14, 3) := by decide +kernel
theorem dX7_runScript_9 : decode cX7_runScript 9 = .ok (.new 50, 3) := by decide +kernel
theorem dX7_runScript_12 : decode cX7_runScript 12 = .ok (.dup, 1) := by decide +kernel
theorem dX7_runScript_13 : decode cX7_runScript 13 = .ok (.ldc_w 279, 3) := by decide +kernel
theorem dX7_runScript_16 : decode cX7_runScript 16 = .ok (.invokespecial 54, 3) := by decide +kernel
theorem dX7_runScript_19 : decode cX7_runScript 19 = .ok (.athrow, 1) := by decide +kernel
theorem dX7_runScript_20 : decode cX7_runScript 20 = .ok (.lload_n 2, 1) := by decide +kernel
theorem dX7_runScript_21 : decode cX7_runScript 21 = .ok (.lconst 0, 1) := by decide +kernel
theorem dX7_runScript_22 : decode cX7_runScript 22 = .ok (.lcmp, 1) := by decide +kernel
theorem dX7_runScript_23 : decode cX7_runScript 23 = .ok (.ifCond .lt 13, 3) := by decide +kernel
theorem dX7_runScript_26 : decode cX7_runScript 26 = .ok (.lload_n 2, 1) := by decide +kernel
theorem dX7_runScript_27 : decode cX7_runScript 27 = .ok (.iload_n 1, 1) := by decide +kernel
theorem dX7_runScript_28 : decode cX7_runScript 28 = .ok (.invokestatic 281, 3) := by decide +kernel
theorem dX7_runScript_31 : decode cX7_runScript 31 = .ok (.lconst 0, 1) := by decide +kernel
theorem dX7_runScript_32 : decode cX7_runScript 32 = .ok (.lcmp, 1) := by decide +kernel
theorem dX7_runScript_33 : decode cX7_runScript 33 = .ok (.ifCond .eq 14, 3) := by decide +kernel
theorem dX7_runScript_36 : decode cX7_runScript 36 = .ok (.new 50, 3) := by decide +kernel
theorem dX7_runScript_39 : decode cX7_runScript 39 = .ok (.dup, 1) := by decide +kernel
theorem dX7_runScript_40 : decode cX7_runScript 40 = .ok (.ldc_w 287, 3) := by decide +kernel
theorem dX7_runScript_43 : decode cX7_runScript 43 = .ok (.invokespecial 54, 3) := by decide +kernel
theorem dX7_runScript_46 : decode cX7_runScript 46 = .ok (.athrow, 1) := by decide +kernel
theorem dX7_runScript_47 : decode cX7_runScript 47 = .ok (.aload_n 0, 1) := by decide +kernel
theorem dX7_runScript_48 : decode cX7_runScript 48 = .ok (.getfield 40, 3) := by decide +kernel
theorem dX7_runScript_51 : decode cX7_runScript 51 = .ok (.aload_n 0, 1) := by decide +kernel
theorem dX7_runScript_52 : decode cX7_runScript 52 = .ok (.getfield 19, 3) := by decide +kernel
theorem dX7_runScript_55 : decode cX7_runScript 55 = .ok (.invokevirtual 79, 3) := by decide +kernel
theorem dX7_runScript_58 : decode cX7_runScript 58 = .ok (.iconst 0, 1) := by decide +kernel
theorem dX7_runScript_59 : decode cX7_runScript 59 = .ok (.istore 4, 2) := by decide +kernel
theorem dX7_runScript_61 : decode cX7_runScript 61 = .ok (.iload 4, 2) := by decide +kernel
theorem dX7_runScript_63 : decode cX7_runScript 63 = .ok (.iload_n 1, 1) := by decide +kernel
theorem dX7_runScript_64 : decode cX7_runScript 64 = .ok (.if_icmp .ge 41, 3) := by decide +kernel
theorem dX7_runScript_67 : decode cX7_runScript 67 = .ok (.lload_n 2, 1) := by decide +kernel
theorem dX7_runScript_68 : decode cX7_runScript 68 = .ok (.iload_n 1, 1) := by decide +kernel
theorem dX7_runScript_69 : decode cX7_runScript 69 = .ok (.iconst 1, 1) := by decide +kernel
theorem dX7_runScript_70 : decode cX7_runScript 70 = .ok (.isub, 1) := by decide +kernel
theorem dX7_runScript_71 : decode cX7_runScript 71 = .ok (.iload 4, 2) := by decide +kernel
theorem dX7_runScript_73 : decode cX7_runScript 73 = .ok (.isub, 1) := by decide +kernel
theorem dX7_runScript_74 : decode cX7_runScript 74 = .ok (.invokestatic 281, 3) := by decide +kernel
theorem dX7_runScript_77 : decode cX7_runScript 77 = .ok (.ldc2_w 289, 3) := by decide +kernel
theorem dX7_runScript_80 : decode cX7_runScript 80 = .ok (.lrem, 1) := by decide +kernel
theorem dX7_runScript_81 : decode cX7_runScript 81 = .ok (.l2i, 1) := by decide +kernel
theorem dX7_runScript_82 : decode cX7_runScript 82 = .ok (.istore 5, 2) := by decide +kernel
theorem dX7_runScript_84 : decode cX7_runScript 84 = .ok (.aload_n 0, 1) := by decide +kernel
theorem dX7_runScript_85 : decode cX7_runScript 85 = .ok (.getfield 40, 3) := by decide +kernel
theorem dX7_runScript_88 : decode cX7_runScript 88 = .ok (.iload 5, 2) := by decide +kernel
theorem dX7_runScript_90 : decode cX7_runScript 90 = .ok (.invokestatic 291, 3) := by decide +kernel
theorem dX7_runScript_93 : decode cX7_runScript 93 = .ok (.ifCond .ne 6, 3) := by decide +kernel
theorem dX7_runScript_96 : decode cX7_runScript 96 = .ok (.iload 4, 2) := by decide +kernel
theorem dX7_runScript_98 : decode cX7_runScript 98 = .ok (.ireturn, 1) := by decide +kernel
theorem dX7_runScript_99 : decode cX7_runScript 99 = .ok (.iinc 4 1, 3) := by decide +kernel
theorem dX7_runScript_102 : decode cX7_runScript 102 = .ok (.goto (-41), 3) := by decide +kernel
theorem dX7_runScript_105 : decode cX7_runScript 105 = .ok (.iconst (-1), 1) := by decide +kernel
theorem dX7_runScript_106 : decode cX7_runScript 106 = .ok (.ireturn, 1) := by decide +kernel
set_option maxRecDepth 20000 in
theorem ggX7_simulate_X7_isBetween : GoodIn wsX7_simulate wsX7_isBetween := goodIn_r _ [13] (by decide +kernel) (by decide +kernel)
set_option maxRecDepth 20000 in
theorem gX7_simulate_X7_isBetween : GoodIn wsX7_simulate (va_wsS RX7 46 yX7_isBetween wsX7_isBetween) := goodIn_app (goodIn_of _ (by decide +kernel)) ggX7_simulate_X7_isBetween
set_option maxRecDepth 20000 in
theorem ggX7_simulate_X2_copyFrom : GoodIn wsX7_simulate wsX2_copyFrom := goodIn_r _ [18, 19, 20, 21, 22, 23, 24, 25, 26, 27, 28, 29, 30, 31, 32, 33, 34, 35, 36, 37, 38, 39, 40, 41, 42, 43, 44, 45, 46, 47, 48, 49, 50, 51, 52, 53, 248, 249, 250, 251, 252, 253, 254, 255, 256, 257, 258, 259, 260, 261, 262, 263, 264, 265, 266] (by decide +kernel) (by decide +kernel)
set_option maxRecDepth 20000 in
theorem gX7_simulate_X2_copyFrom : GoodIn wsX7_simulate (wsV RX7 79 RX2 yX2_copyFrom wsX2_copyFrom) := goodIn_app (goodIn_of _ (by decide +kernel)) ggX7_simulate_X2_copyFrom
set_option maxRecDepth 20000 in
theorem ggX7_simulate_X3_takeTurn : GoodIn wsX7_simulate wsX3_takeTurn := goodIn_r _ [57, 58, 59, 60, 61, 17, 62, 34, 63, 64, 65, 66, 67, 68, 69, 70, 20, 71, 72, 73, 74, 75, 76, 77, 19, 78, 79, 80, 81, 82, 83, 84, 85, 26, 27, 32, 29, 21, 86, 12, 87, 88, 89, 90, 91, 92, 93, 41, 94, 43, 44, 95, 96, 97, 98, 30, 37, 99, 100, 101, 102, 103, 104, 105, 106, 107, 108, 109, 110, 45, 23, 24, 25, 111, 112, 113, 114, 115, 116, 117, 118, 119, 120, 121, 122, 123, 35, 124, 125, 126, 127, 49, 128, 51, 129, 130, 131, 132, 52, 133, 134, 135, 136, 137, 138, 139, 140, 141, 142, 33, 143, 144, 145, 146, 147, 148, 149, 150, 11, 13, 151, 152, 153, 154, 155, 156, 157, 158, 159, 160, 161, 162, 163, 36, 164, 165, 166, 167, 168, 28, 169, 170, 171, 172, 173, 174, 175, 176, 177, 178, 179, 180, 181, 182, 183, 184, 185, 186, 187, 188, 189, 190, 191, 192, 193, 194, 195, 196, 197, 198, 199, 200, 53, 201, 202, 203, 204, 205, 206, 207, 208, 209, 210, 211, 212, 213, 214, 215, 216, 217, 218, 219, 220, 221, 222, 223, 224, 31, 225, 226, 227, 228, 229, 230, 231, 232, 233, 234, 235, 236, 237, 238, 239, 240, 248, 249, 250, 251, 252, 253, 254, 255, 256, 257, 258, 259, 260, 261, 262, 263, 264, 265, 266] (by decide +kernel) (by decide +kernel)
set_option maxRecDepth 20000 in
theorem gX7_simulate_X3_takeTurn : GoodIn wsX7_simulate (va_wsS RX7 301 yX3_takeTurn wsX3_takeTurn) := goodIn_app (goodIn_of _ (by decide +kernel)) ggX7_simulate_X3_takeTurn
theorem dX7_simulate_0 : decode cX7_simulate 0 = .ok (.iload_n 3, 1) := by decide +kernel
theorem dX7_simulate_1 : decode cX7_simulate 1 = .ok (.iconst 1, 1) := by decide +kernel
theorem dX7_simulate_2 : decode cX7_simulate 2 = .ok (.bipush 60, 2) := by decide +kernel
theorem dX7_simulate_4 : decode cX7_simulate 4 = .ok (.invokestatic 46, 3) := by decide +kernel
theorem dX7_simulate_7 : decode cX7_simulate 7 = .ok (.ifCond .ne 14, 3) := by decide +kernel
theorem dX7_simulate_10 : decode cX7_simulate 10 = .ok (.new 50, 3) := by decide +kernel
theorem dX7_simulate_13 : decode cX7_simulate 13 = .ok (.dup, 1) := by decide +kernel
theorem dX7_simulate_14 : decode cX7_simulate 14 = .ok (.ldc_w 295, 3) := by decide +kernel
theorem dX7_simulate_17 : decode cX7_simulate 17 = .ok (.invokespecial 54, 3) := by decide +kernel
theorem dX7_simulate_20 : decode cX7_simulate 20 = .ok (.athrow, 1) := by decide +kernel
theorem dX7_simulate_21 : decode cX7_simulate 21 = .ok (.aload_n 0, 1) := by decide +kernel
theorem dX7_simulate_22 : decode cX7_simulate 22 = .ok (.getfield 40, 3) := by decide +kernel
theorem dX7_simulate_25 : decode cX7_simulate 25 = .ok (.aload_n 0, 1) := by decide +kernel
theorem dX7_simulate_26 : decode cX7_simulate 26 = .ok (.getfield 19, 3) := by decide +kernel
theorem dX7_simulate_29 : decode cX7_simulate 29 = .ok (.invokevirtual 79, 3) := by decide +kernel
theorem dX7_simulate_32 : decode cX7_simulate 32 = .ok (.lload_n 1, 1) := by decide +kernel
theorem dX7_simulate_33 : decode cX7_simulate 33 = .ok (.lstore 4, 2) := by decide +kernel
theorem dX7_simulate_35 : decode cX7_simulate 35 = .ok (.iconst 0, 1) := by decide +kernel
theorem dX7_simulate_36 : decode cX7_simulate 36 = .ok (.istore 6, 2) := by decide +kernel
theorem dX7_simulate_38 : decode cX7_simulate 38 = .ok (.iload 6, 2) := by decide +kernel
theorem dX7_simulate_40 : decode cX7_simulate 40 = .ok (.iload_n 3, 1) := by decide +kernel
theorem dX7_simulate_41 : decode cX7_simulate 41 = .ok (.if_icmp .ge 34, 3) := by decide +kernel
theorem dX7_simulate_44 : decode cX7_simulate 44 = .ok (.lload 4, 2) := by decide +kernel
theorem dX7_simulate_46 : decode cX7_simulate 46 = .ok (.ldc2_w 297, 3) := by decide +kernel
theorem dX7_simulate_49 : decode cX7_simulate 49 = .ok (.lmul, 1) := by decide +kernel
theorem dX7_simulate_50 : decode cX7_simulate 50 = .ok (.ldc2_w 299, 3) := by decide +kernel
theorem dX7_simulate_53 : decode cX7_simulate 53 = .ok (.ladd, 1) := by decide +kernel
theorem dX7_simulate_54 : decode cX7_simulate 54 = .ok (.lstore 4, 2) := by decide +kernel
theorem dX7_simulate_56 : decode cX7_simulate 56 = .ok (.aload_n 0, 1) := by decide +kernel
theorem dX7_simulate_57 : decode cX7_simulate 57 = .ok (.getfield 40, 3) := by decide +kernel
theorem dX7_simulate_60 : decode cX7_simulate 60 = .ok (.lload 4, 2) := by decide +kernel
theorem dX7_simulate_62 : decode cX7_simulate 62 = .ok (.bipush 33, 2) := by decide +kernel
theorem dX7_simulate_64 : decode cX7_simulate 64 = .ok (.lushr, 1) := by decide +kernel
theorem dX7_simulate_65 : decode cX7_simulate 65 = .ok (.l2i, 1) := by decide +kernel
theorem dX7_simulate_66 : decode cX7_simulate 66 = .ok (.invokestatic 301, 3) := by decide +kernel
theorem dX7_simulate_69 : decode cX7_simulate 69 = .ok (.iinc 6 1, 3) := by decide +kernel
theorem dX7_simulate_72 : decode cX7_simulate 72 = .ok (.goto (-34), 3) := by decide +kernel
theorem dX7_simulate_75 : decode cX7_simulate 75 = .ok (.bipush 100, 2) := by decide +kernel
theorem dX7_simulate_77 : decode cX7_simulate 77 = .ok (.aload_n 0, 1) := by decide +kernel
theorem dX7_simulate_78 : decode cX7_simulate 78 = .ok (.getfield 40, 3) := by decide +kernel
theorem dX7_simulate_81 : decode cX7_simulate 81 = .ok (.getfield 268, 3) := by decide +kernel
theorem dX7_simulate_84 : decode cX7_simulate 84 = .ok (.iconst 0, 1) := by decide +kernel
theorem dX7_simulate_85 : decode cX7_simulate 85 = .ok (.iaload, 1) := by decide +kernel
theorem dX7_simulate_86 : decode cX7_simulate 86 = .ok (.aload_n 0, 1) := by decide +kernel
theorem dX7_simulate_87 : decode cX7_simulate 87 = .ok (.getfield 19, 3) := by decide +kernel
theorem dX7_simulate_90 : decode cX7_simulate 90 = .ok (.getfield 268, 3) := by decide +kernel
theorem dX7_simulate_93 : decode cX7_simulate 93 = .ok (.iconst 0, 1) := by decide +kernel
theorem dX7_simulate_94 : decode cX7_simulate 94 = .ok (.iaload, 1) := by decide +kernel
theorem dX7_simulate_95 : decode cX7_simulate 95 = .ok (.isub, 1) := by decide +kernel
theorem dX7_simulate_96 : decode cX7_simulate 96 = .ok (.imul, 1) := by decide +kernel
theorem dX7_simulate_97 : decode cX7_simulate 97 = .ok (.aload_n 0, 1) := by decide +kernel
theorem dX7_simulate_98 : decode cX7_simulate 98 = .ok (.getfield 40, 3) := by decide +kernel
theorem dX7_simulate_101 : decode cX7_simulate 101 = .ok (.getfield 134, 3) := by decide +kernel
theorem dX7_simulate_104 : decode cX7_simulate 104 = .ok (.getfield 305, 3) := by decide +kernel
theorem dX7_simulate_107 : decode cX7_simulate 107 = .ok (.iadd, 1) := by decide +kernel
theorem dX7_simulate_108 : decode cX7_simulate 108 = .ok (.ireturn, 1) := by decide +kernel
set_option maxRecDepth 20000 in
theorem ggX7_save_X7_isBetween : GoodIn wsX7_save wsX7_isBetween := goodIn_r _ [10] (by decide +kernel) (by decide +kernel)
set_option maxRecDepth 20000 in
theorem gX7_save_X7_isBetween : GoodIn wsX7_save (va_wsS RX7 46 yX7_isBetween wsX7_isBetween) := goodIn_app (goodIn_of _ (by decide +kernel)) ggX7_save_X7_isBetween
set_option maxRecDepth 20000 in
theorem ggX7_save_X7_slotOf : GoodIn wsX7_save wsX7_slotOf := goodIn_r _ [14, 15, 16, 59, 60, 61, 62, 63, 64, 65] (by decide +kernel) (by decide +kernel)
set_option maxRecDepth 20000 in
theorem gX7_save_X7_slotOf : GoodIn wsX7_save (wsV RX7 308 RX7 yX7_slotOf wsX7_slotOf) := goodIn_app (goodIn_of _ (by decide +kernel)) ggX7_save_X7_slotOf
set_option maxRecDepth 20000 in
theorem ggX7_save_X2_copyFrom : GoodIn wsX7_save wsX2_copyFrom := goodIn_r _ [21, 22, 23, 24, 25, 26, 27, 28, 29, 30, 31, 32, 33, 34, 35, 36, 37, 38, 39, 40, 41, 42, 43, 44, 45, 46, 47, 48, 49, 50, 51, 52, 53, 54, 55, 56, 66, 67, 68, 69, 70, 71, 72, 73, 74, 75, 76, 77, 78, 79, 80, 81, 82, 83, 84] (by decide +kernel) (by decide +kernel)
set_option maxRecDepth 20000 in
theorem gX7_save_X2_copyFrom : GoodIn wsX7_save (wsV RX7 79 RX2 yX2_copyFrom wsX2_copyFrom) := goodIn_app (goodIn_of _ (by decide +kernel)) ggX7_save_X2_copyFrom
theorem dX7_save_0 : decode cX7_save 0 = .ok (.iload_n 1, 1) := by decide +kernel
theorem dX7_save_1 : decode cX7_save 1 = .ok (.iconst 0, 1) := by decide +kernel
theorem dX7_save_2 : decode cX7_save 2 = .ok (.iconst 1, 1) := by decide +kernel
theorem dX7_save_3 : decode cX7_save 3 = .ok (.invokestatic 46, 3) := by decide +kernel
theorem dX7_save_6 : decode cX7_save 6 = .ok (.ifCond .ne 14, 3) := by decide +kernel
theorem dX7_save_9 : decode cX7_save 9 = .ok (.new 113, 3) := by decide +kernel
theorem dX7_save_12 : decode cX7_save 12 = .ok (.dup, 1) := by decide +kernel
theorem dX7_save_13 : decode cX7_save 13 = .ok (.ldc_w 306, 3) := by decide +kernel
theorem dX7_save_16 : decode cX7_save 16 = .ok (.invokespecial 117, 3) := by decide +kernel
theorem dX7_save_19 : decode cX7_save 19 = .ok (.athrow, 1) := by decide +kernel
theorem dX7_save_20 : decode cX7_save 20 = .ok (.aload_n 0, 1) := by decide +kernel
theorem dX7_save_21 : decode cX7_save 21 = .ok (.iload_n 1, 1) := by decide +kernel
theorem dX7_save_22 : decode cX7_save 22 = .ok (.invokevirtual 308, 3) := by decide +kernel
theorem dX7_save_25 : decode cX7_save 25 = .ok (.astore_n 2, 1) := by decide +kernel
theorem dX7_save_26 : decode cX7_save 26 = .ok (.aload_n 2, 1) := by decide +kernel
theorem dX7_save_27 : decode cX7_save 27 = .ok (.getfield 312, 3) := by decide +kernel
theorem dX7_save_30 : decode cX7_save 30 = .ok (.aload_n 0, 1) := by decide +kernel
theorem dX7_save_31 : decode cX7_save 31 = .ok (.getfield 19, 3) := by decide +kernel
theorem dX7_save_34 : decode cX7_save 34 = .ok (.invokevirtual 79, 3) := by decide +kernel
theorem dX7_save_37 : decode cX7_save 37 = .ok (.aload_n 2, 1) := by decide +kernel
theorem dX7_save_38 : decode cX7_save 38 = .ok (.iconst 1, 1) := by decide +kernel
theorem dX7_save_39 : decode cX7_save 39 = .ok (.putfield 86, 3) := by decide +kernel
theorem dX7_save_42 : decode cX7_save 42 = .ok (.aload_n 0, 1) := by decide +kernel
theorem dX7_save_43 : decode cX7_save 43 = .ok (.getfield 19, 3) := by decide +kernel
theorem dX7_save_46 : decode cX7_save 46 = .ok (.getfield 271, 3) := by decide +kernel
theorem dX7_save_49 : decode cX7_save 49 = .ok (.ireturn, 1) := by decide +kernel
set_option maxRecDepth 20000 in
theorem ggX7_restore_X7_isBetween : GoodIn wsX7_restore wsX7_isBetween := goodIn_r _ [13] (by decide +kernel) (by decide +kernel)
set_option maxRecDepth 20000 in
theorem gX7_restore_X7_isBetween : GoodIn wsX7_restore (va_wsS RX7 46 yX7_isBetween wsX7_isBetween) := goodIn_app (goodIn_of _ (by decide +kernel)) ggX7_restore_X7_isBetween
set_option maxRecDepth 20000 in
theorem ggX7_restore_X7_slotOf : GoodIn wsX7_restore wsX7_slotOf := goodIn_r _ [17, 18, 19, 68, 69, 70, 71, 72, 73, 74] (by decide +kernel) (by decide +kernel)
set_option maxRecDepth 20000 in
theorem gX7_restore_X7_slotOf : GoodIn wsX7_restore (wsV RX7 308 RX7 yX7_slotOf wsX7_slotOf) := goodIn_app (goodIn_of _ (by decide +kernel)) ggX7_restore_X7_slotOf
set_option maxRecDepth 20000 in
theorem ggX7_restore_X2_copyFrom : GoodIn wsX7_restore wsX2_copyFrom := goodIn_r _ [24, 25, 26, 27, 28, 29, 30, 31, 32, 33, 34, 35, 36, 37, 38, 39, 40, 41, 42, 43, 44, 45, 46, 47, 48, 49, 50, 51, 52, 53, 54, 55, 56, 57, 58, 59, 75, 76, 77, 78, 79, 80, 81, 82, 83, 84, 85, 86, 87, 88, 89, 90, 91, 92, 93] (by decide +kernel) (by decide +kernel)
set_option maxRecDepth 20000 in
theorem gX7_restore_X2_copyFrom : GoodIn wsX7_restore (wsV RX7 79 RX2 yX2_copyFrom wsX2_copyFrom) := goodIn_app (goodIn_of _ (by decide +kernel)) ggX7_restore_X2_copyFrom
set_option maxRecDepth 20000 in
theorem ggX7_restore_X1_forget : GoodIn wsX7_restore wsX1_forget := goodIn_r _ [64, 65, 94, 95, 96] (by decide +kernel) (by decide +kernel)
set_option maxRecDepth 20000 in
theorem gX7_restore_X1_forget : GoodIn wsX7_restore (wsV RX7 83 RX1 yX1_forget wsX1_forget) := goodIn_app (goodIn_of _ (by decide +kernel)) ggX7_restore_X1_forget
theorem dX7_restore_0 : decode cX7_restore 0 = .ok (.iload_n 1, 1) := by decide +kernel
theorem dX7_restore_1 : decode cX7_restore 1 = .ok (.iconst 0, 1) := by decide +kernel
theorem dX7_restore_2 : decode cX7_restore 2 = .ok (.iconst 1, 1) := by decide +kernel
theorem dX7_restore_3 : decode cX7_restore 3 = .ok (.invokestatic 46, 3) := by decide +kernel
theorem dX7_restore_6 : decode cX7_restore 6 = .ok (.ifCond .ne 14, 3) := by decide +kernel
theorem dX7_restore_9 : decode cX7_restore 9 = .ok (.new 113, 3) := by decide +kernel
theorem dX7_restore_12 : decode cX7_restore 12 = .ok (.dup, 1) := by decide +kernel
theorem dX7_restore_13 : decode cX7_restore 13 = .ok (.ldc_w 306, 3) := by decide +kernel
theorem dX7_restore_16 : decode cX7_restore 16 = .ok (.invokespecial 117, 3) := by decide +kernel
theorem dX7_restore_19 : decode cX7_restore 19 = .ok (.athrow, 1) := by decide +kernel
theorem dX7_restore_20 : decode cX7_restore 20 = .ok (.aload_n 0, 1) := by decide +kernel
theorem dX7_restore_21 : decode cX7_restore 21 = .ok (.iload_n 1, 1) := by decide +kernel
theorem dX7_restore_22 : decode cX7_restore 22 = .ok (.invokevirtual 308, 3) := by decide +kernel
theorem dX7_restore_25 : decode cX7_restore 25 = .ok (.astore_n 2, 1) := by decide +kernel
theorem dX7_restore_26 : decode cX7_restore 26 = .ok (.aload_n 2, 1) := by decide +kernel
theorem dX7_restore_27 : decode cX7_restore 27 = .ok (.getfield 86, 3) := by decide +kernel
theorem dX7_restore_30 : decode cX7_restore 30 = .ok (.ifCond .ne 14, 3) := by decide +kernel
theorem dX7_restore_33 : decode cX7_restore 33 = .ok (.new 61, 3) := by decide +kernel
theorem dX7_restore_36 : decode cX7_restore 36 = .ok (.dup, 1) := by decide +kernel
theorem dX7_restore_37 : decode cX7_restore 37 = .ok (.ldc_w 315, 3) := by decide +kernel
theorem dX7_restore_40 : decode cX7_restore 40 = .ok (.invokespecial 65, 3) := by decide +kernel
theorem dX7_restore_43 : decode cX7_restore 43 = .ok (.athrow, 1) := by decide +kernel
theorem dX7_restore_44 : decode cX7_restore 44 = .ok (.aload_n 0, 1) := by decide +kernel
theorem dX7_restore_45 : decode cX7_restore 45 = .ok (.getfield 19, 3) := by decide +kernel
theorem dX7_restore_48 : decode cX7_restore 48 = .ok (.aload_n 2, 1) := by decide +kernel
theorem dX7_restore_49 : decode cX7_restore 49 = .ok (.getfield 312, 3) := by decide +kernel
theorem dX7_restore_52 : decode cX7_restore 52 = .ok (.invokevirtual 79, 3) := by decide +kernel
theorem dX7_restore_55 : decode cX7_restore 55 = .ok (.aload_n 0, 1) := by decide +kernel
theorem dX7_restore_56 : decode cX7_restore 56 = .ok (.getfield 26, 3) := by decide +kernel
theorem dX7_restore_59 : decode cX7_restore 59 = .ok (.invokevirtual 83, 3) := by decide +kernel
theorem dX7_restore_62 : decode cX7_restore 62 = .ok (.aload_n 0, 1) := by decide +kernel
theorem dX7_restore_63 : decode cX7_restore 63 = .ok (.getfield 19, 3) := by decide +kernel
theorem dX7_restore_66 : decode cX7_restore 66 = .ok (.getfield 271, 3) := by decide +kernel
theorem dX7_restore_69 : decode cX7_restore 69 = .ok (.ireturn, 1) := by decide +kernel
theorem dX7_slotOf_0 : decode cX7_slotOf 0 = .ok (.iload_n 1, 1) := by decide +kernel
theorem dX7_slotOf_1 : decode cX7_slotOf 1 = .ok (.ifCond .ne 10, 3) := by decide +kernel
theorem dX7_slotOf_4 : decode cX7_slotOf 4 = .ok (.aload_n 0, 1) := by decide +kernel
theorem dX7_slotOf_5 : decode cX7_slotOf 5 = .ok (.getfield 33, 3) := by decide +kernel
theorem dX7_slotOf_8 : decode cX7_slotOf 8 = .ok (.goto 7, 3) := by decide +kernel
theorem dX7_slotOf_11 : decode cX7_slotOf 11 = .ok (.aload_n 0, 1) := by decide +kernel
theorem dX7_slotOf_12 : decode cX7_slotOf 12 = .ok (.getfield 37, 3) := by decide +kernel
theorem dX7_slotOf_15 : decode cX7_slotOf 15 = .ok (.areturn, 1) := by decide +kernel
set_option maxRecDepth 20000 in
theorem ggX7_settle_X1_keepPrepared : GoodIn wsX7_settle wsX1_keepPrepared := goodIn_r _ [12, 13, 14, 15, 16, 17, 18, 26, 27, 28] (by decide +kernel) (by decide +kernel)
set_option maxRecDepth 20000 in
theorem gX7_settle_X1_keepPrepared : GoodIn wsX7_settle (wsV RX7 323 RX1 yX1_keepPrepared wsX1_keepPrepared) := goodIn_app (goodIn_of _ (by decide +kernel)) ggX7_settle_X1_keepPrepared
theorem dX7_settle_0 : decode cX7_settle 0 = .ok (.iload_n 1, 1) := by decide +kernel
theorem dX7_settle_1 : decode cX7_settle 1 = .ok (.iconst (-1), 1) := by decide +kernel
theorem dX7_settle_2 : decode cX7_settle 2 = .ok (.if_icmp .ne 14, 3) := by decide +kernel
theorem dX7_settle_5 : decode cX7_settle 5 = .ok (.new 113, 3) := by decide +kernel
theorem dX7_settle_8 : decode cX7_settle 8 = .ok (.dup, 1) := by decide +kernel
theorem dX7_settle_9 : decode cX7_settle 9 = .ok (.ldc_w 317, 3) := by decide +kernel
theorem dX7_settle_12 : decode cX7_settle 12 = .ok (.invokespecial 117, 3) := by decide +kernel
theorem dX7_settle_15 : decode cX7_settle 15 = .ok (.athrow, 1) := by decide +kernel
theorem dX7_settle_16 : decode cX7_settle 16 = .ok (.iload_n 1, 1) := by decide +kernel
theorem dX7_settle_17 : decode cX7_settle 17 = .ok (.bipush (-2), 2) := by decide +kernel
theorem dX7_settle_19 : decode cX7_settle 19 = .ok (.if_icmp .ne 14, 3) := by decide +kernel
theorem dX7_settle_22 : decode cX7_settle 22 = .ok (.new 50, 3) := by decide +kernel
theorem dX7_settle_25 : decode cX7_settle 25 = .ok (.dup, 1) := by decide +kernel
theorem dX7_settle_26 : decode cX7_settle 26 = .ok (.ldc_w 319, 3) := by decide +kernel
theorem dX7_settle_29 : decode cX7_settle 29 = .ok (.invokespecial 54, 3) := by decide +kernel
theorem dX7_settle_32 : decode cX7_settle 32 = .ok (.athrow, 1) := by decide +kernel
theorem dX7_settle_33 : decode cX7_settle 33 = .ok (.iload_n 1, 1) := by decide +kernel
theorem dX7_settle_34 : decode cX7_settle 34 = .ok (.bipush (-3), 2) := by decide +kernel
theorem dX7_settle_36 : decode cX7_settle 36 = .ok (.if_icmp .ne 14, 3) := by decide +kernel
theorem dX7_settle_39 : decode cX7_settle 39 = .ok (.new 61, 3) := by decide +kernel
theorem dX7_settle_42 : decode cX7_settle 42 = .ok (.dup, 1) := by decide +kernel
theorem dX7_settle_43 : decode cX7_settle 43 = .ok (.ldc_w 321, 3) := by decide +kernel
theorem dX7_settle_46 : decode cX7_settle 46 = .ok (.invokespecial 65, 3) := by decide +kernel
theorem dX7_settle_49 : decode cX7_settle 49 = .ok (.athrow, 1) := by decide +kernel
theorem dX7_settle_50 : decode cX7_settle 50 = .ok (.aload_n 0, 1) := by decide +kernel
theorem dX7_settle_51 : decode cX7_settle 51 = .ok (.getfield 26, 3) := by decide +kernel
theorem dX7_settle_54 : decode cX7_settle 54 = .ok (.invokevirtual 323, 3) := by decide +kernel
theorem dX7_settle_57 : decode cX7_settle 57 = .ok (.iload_n 1, 1) := by decide +kernel
theorem dX7_settle_58 : decode cX7_settle 58 = .ok (.ireturn, 1) := by decide +kernel
theorem dX7_isBetween_0 : decode cX7_isBetween 0 = .ok (.iload_n 0, 1) := by decide +kernel
theorem dX7_isBetween_1 : decode cX7_isBetween 1 = .ok (.iload_n 1, 1) := by decide +kernel
theorem dX7_isBetween_2 : decode cX7_isBetween 2 = .ok (.if_icmp .lt 12, 3) := by decide +kernel
theorem dX7_isBetween_5 : decode cX7_isBetween 5 = .ok (.iload_n 0, 1) := by decide +kernel
theorem dX7_isBetween_6 : decode cX7_isBetween 6 = .ok (.iload_n 2, 1) := by decide +kernel
theorem dX7_isBetween_7 : decode cX7_isBetween 7 = .ok (.if_icmp .gt 7, 3) := by decide +kernel
theorem dX7_isBetween_10 : decode cX7_isBetween 10 = .ok (.iconst 1, 1) := by decide +kernel
theorem dX7_isBetween_11 : decode cX7_isBetween 11 = .ok (.goto 4, 3) := by decide +kernel
theorem dX7_isBetween_14 : decode cX7_isBetween 14 = .ok (.iconst 0, 1) := by decide +kernel
theorem dX7_isBetween_15 : decode cX7_isBetween 15 = .ok (.ireturn, 1) := by decide +kernel
theorem dX7_withBit_0 : decode cX7_withBit 0 = .ok (.iload_n 2, 1) := by decide +kernel
theorem dX7_withBit_1 : decode cX7_withBit 1 = .ok (.ifCond .eq 11, 3) := by decide +kernel
theorem dX7_withBit_4 : decode cX7_withBit 4 = .ok (.iload_n 0, 1) := by decide +kernel
theorem dX7_withBit_5 : decode cX7_withBit 5 = .ok (.iconst 1, 1) := by decide +kernel
theorem dX7_withBit_6 : decode cX7_withBit 6 = .ok (.iload_n 1, 1) := by decide +kernel
theorem dX7_withBit_7 : decode cX7_withBit 7 = .ok (.ishl, 1) := by decide +kernel
theorem dX7_withBit_8 : decode cX7_withBit 8 = .ok (.ior, 1) := by decide +kernel
theorem dX7_withBit_9 : decode cX7_withBit 9 = .ok (.goto 10, 3) := by decide +kernel
theorem dX7_withBit_12 : decode cX7_withBit 12 = .ok (.iload_n 0, 1) := by decide +kernel
theorem dX7_withBit_13 : decode cX7_withBit 13 = .ok (.iconst 1, 1) := by decide +kernel
theorem dX7_withBit_14 : decode cX7_withBit 14 = .ok (.iload_n 1, 1) := by decide +kernel
theorem dX7_withBit_15 : decode cX7_withBit 15 = .ok (.ishl, 1) := by decide +kernel
theorem dX7_withBit_16 : decode cX7_withBit 16 = .ok (.iconst (-1), 1) := by decide +kernel
theorem dX7_withBit_17 : decode cX7_withBit 17 = .ok (.ixor, 1) := by decide +kernel
theorem dX7_withBit_18 : decode cX7_withBit 18 = .ok (.iand, 1) := by decide +kernel
theorem dX7_withBit_19 : decode cX7_withBit 19 = .ok (.ireturn, 1) := by decide +kernel
theorem dX7_hasBit_0 : decode cX7_hasBit 0 = .ok (.iload_n 0, 1) := by decide +kernel
theorem dX7_hasBit_1 : decode cX7_hasBit 1 = .ok (.iload_n 1, 1) := by decide +kernel
theorem dX7_hasBit_2 : decode cX7_hasBit 2 = .ok (.ishr, 1) := by decide +kernel
theorem dX7_hasBit_3 : decode cX7_hasBit 3 = .ok (.iconst 1, 1) := by decide +kernel
theorem dX7_hasBit_4 : decode cX7_hasBit 4 = .ok (.iand, 1) := by decide +kernel
theorem dX7_hasBit_5 : decode cX7_hasBit 5 = .ok (.iconst 1, 1) := by decide +kernel
theorem dX7_hasBit_6 : decode cX7_hasBit 6 = .ok (.if_icmp .ne 7, 3) := by decide +kernel
theorem dX7_hasBit_9 : decode cX7_hasBit 9 = .ok (.iconst 1, 1) := by decide +kernel
theorem dX7_hasBit_10 : decode cX7_hasBit 10 = .ok (.goto 4, 3) := by decide +kernel
theorem dX7_hasBit_13 : decode cX7_hasBit 13 = .ok (.iconst 0, 1) := by decide +kernel
theorem dX7_hasBit_14 : decode cX7_hasBit 14 = .ok (.ireturn, 1) := by decide +kernel
set_option maxRecDepth 20000 in
theorem ggX8_init_X8_clean : GoodIn wsX8_init wsX8_clean := goodIn_r _ [17] (by decide +kernel) (by decide +kernel)
set_option maxRecDepth 20000 in
theorem gX8_init_X8_clean : GoodIn wsX8_init (va_wsS RX8 35 yX8_clean wsX8_clean) := goodIn_app (goodIn_of _ (by decide +kernel)) ggX8_init_X8_clean
theorem dX8_init_0 : decode cX8_init 0 = .ok (.aload_n 0, 1) := by decide +kernel
theorem dX8_init_1 : decode cX8_init 1 = .ok (.invokespecial 1, 3) := by decide +kernel
theorem dX8_init_4 : decode cX8_init 4 = .ok (.aload_n 0, 1) := by decide +kernel
theorem dX8_init_5 : decode cX8_init 5 = .ok (.bipush 120, 2) := by decide +kernel
theorem dX8_init_7 : decode cX8_init 7 = .ok (.newarray .int, 2) := by decide +kernel
theorem dX8_init_9 : decode cX8_init 9 = .ok (.putfield 7, 3) := by decide +kernel
theorem dX8_init_12 : decode cX8_init 12 = .ok (.aload_n 0, 1) := by decide +kernel
theorem dX8_init_13 : decode cX8_init 13 = .ok (.sipush 271, 3) := by decide +kernel
theorem dX8_init_16 : decode cX8_init 16 = .ok (.newarray .int, 2) := by decide +kernel
theorem dX8_init_18 : decode cX8_init 18 = .ok (.putfield 13, 3) := by decide +kernel
theorem dX8_init_21 : decode cX8_init 21 = .ok (.aload_n 0, 1) := by decide +kernel
theorem dX8_init_22 : decode cX8_init 22 = .ok (.sipush 271, 3) := by decide +kernel
theorem dX8_init_25 : decode cX8_init 25 = .ok (.newarray .int, 2) := by decide +kernel
theorem dX8_init_27 : decode cX8_init 27 = .ok (.putfield 16, 3) := by decide +kernel
theorem dX8_init_30 : decode cX8_init 30 = .ok (.aload_n 0, 1) := by decide +kernel
theorem dX8_init_31 : decode cX8_init 31 = .ok (.sipush 271, 3) := by decide +kernel
theorem dX8_init_34 : decode cX8_init 34 = .ok (.newarray .int, 2) := by decide +kernel
theorem dX8_init_36 : decode cX8_init 36 = .ok (.putfield 19, 3) := by decide +kernel
theorem dX8_init_39 : decode cX8_init 39 = .ok (.aload_n 0, 1) := by decide +kernel
theorem dX8_init_40 : decode cX8_init 40 = .ok (.sipush 3794, 3) := by decide +kernel
theorem dX8_init_43 : decode cX8_init 43 = .ok (.newarray .int, 2) := by decide +kernel
theorem dX8_init_45 : decode cX8_init 45 = .ok (.putfield 22, 3) := by decide +kernel
theorem dX8_init_48 : decode cX8_init 48 = .ok (.aload_n 0, 1) := by decide +kernel
theorem dX8_init_49 : decode cX8_init 49 = .ok (.sipush 542, 3) := by decide +kernel
theorem dX8_init_52 : decode cX8_init 52 = .ok (.newarray .int, 2) := by decide +kernel
theorem dX8_init_54 : decode cX8_init 54 = .ok (.putfield 25, 3) := by decide +kernel
theorem dX8_init_57 : decode cX8_init 57 = .ok (.aload_n 0, 1) := by decide +kernel
theorem dX8_init_58 : decode cX8_init 58 = .ok (.iconst 2, 1) := by decide +kernel
theorem dX8_init_59 : decode cX8_init 59 = .ok (.newarray .boolean, 2) := by decide +kernel
theorem dX8_init_61 : decode cX8_init 61 = .ok (.putfield 28, 3) := by decide +kernel
theorem dX8_init_64 : decode cX8_init 64 = .ok (.aload_n 0, 1) := by decide +kernel
theorem dX8_init_65 : decode cX8_init 65 = .ok (.bipush 10, 2) := by decide +kernel
theorem dX8_init_67 : decode cX8_init 67 = .ok (.newarray .int, 2) := by decide +kernel
theorem dX8_init_69 : decode cX8_init 69 = .ok (.putfield 32, 3) := by decide +kernel
theorem dX8_init_72 : decode cX8_init 72 = .ok (.aload_n 0, 1) := by decide +kernel
theorem dX8_init_73 : decode cX8_init 73 = .ok (.getfield 16, 3) := by decide +kernel
theorem dX8_init_76 : decode cX8_init 76 = .ok (.invokestatic 35, 3) := by decide +kernel
theorem dX8_init_79 : decode cX8_init 79 = .ok (.return_, 1) := by decide +kernel
theorem dX8_thrown_0 : decode cX8_thrown 0 = .ok (.aload_n 0, 1) := by decide +kernel
theorem dX8_thrown_1 : decode cX8_thrown 1 = .ok (.getfield 39, 3) := by decide +kernel
theorem dX8_thrown_4 : decode cX8_thrown 4 = .ok (.ireturn, 1) := by decide +kernel
theorem dX8_refused_0 : decode cX8_refused 0 = .ok (.aload_n 0, 1) := by decide +kernel
theorem dX8_refused_1 : decode cX8_refused 1 = .ok (.iload_n 1, 1) := by decide +kernel
theorem dX8_refused_2 : decode cX8_refused 2 = .ok (.putfield 39, 3) := by decide +kernel
theorem dX8_refused_5 : decode cX8_refused 5 = .ok (.iload_n 1, 1) := by decide +kernel
theorem dX8_refused_6 : decode cX8_refused 6 = .ok (.ifCond .le 7, 3) := by decide +kernel
theorem dX8_refused_9 : decode cX8_refused 9 = .ok (.iconst 1, 1) := by decide +kernel
theorem dX8_refused_10 : decode cX8_refused 10 = .ok (.goto 4, 3) := by decide +kernel
theorem dX8_refused_13 : decode cX8_refused 13 = .ok (.iconst 0, 1) := by decide +kernel
theorem dX8_refused_14 : decode cX8_refused 14 = .ok (.ireturn, 1) := by decide +kernel
theorem dX8_in_0 : decode cX8_in 0 = .ok (.lload_n 0, 1) := by decide +kernel
theorem dX8_in_1 : decode cX8_in 1 = .ok (.lload_n 2, 1) := by decide +kernel
theorem dX8_in_2 : decode cX8_in 2 = .ok (.lcmp, 1) := by decide +kernel
theorem dX8_in_3 : decode cX8_in 3 = .ok (.ifCond .lt 14, 3) := by decide +kernel
theorem dX8_in_6 : decode cX8_in 6 = .ok (.lload_n 0, 1) := by decide +kernel
theorem dX8_in_7 : decode cX8_in 7 = .ok (.lload 4, 2) := by decide +kernel
theorem dX8_in_9 : decode cX8_in 9 = .ok (.lcmp, 1) := by decide +kernel
theorem dX8_in_10 : decode cX8_in 10 = .ok (.ifCond .gt 7, 3) := by decide +kernel
theorem dX8_in_13 : decode cX8_in 13 = .ok (.iconst 1, 1) := by decide +kernel
theorem dX8_in_14 : decode cX8_in 14 = .ok (.goto 4, 3) := by decide +kernel
theorem dX8_in_17 : decode cX8_in 17 = .ok (.iconst 0, 1) := by decide +kernel
theorem dX8_in_18 : decode cX8_in 18 = .ok (.ireturn, 1) := by decide +kernel
theorem dX8_copy_0 : decode cX8_copy 0 = .ok (.iconst 0, 1) := by decide +kernel
theorem dX8_copy_1 : decode cX8_copy 1 = .ok (.istore 5, 2) := by decide +kernel
theorem dX8_copy_3 : decode cX8_copy 3 = .ok (.iload 5, 2) := by decide +kernel
theorem dX8_copy_5 : decode cX8_copy 5 = .ok (.iload 4, 2) := by decide +kernel
theorem dX8_copy_7 : decode cX8_copy 7 = .ok (.if_icmp .ge 21, 3) := by decide +kernel
theorem dX8_copy_10 : decode cX8_copy 10 = .ok (.aload_n 2, 1) := by decide +kernel
theorem dX8_copy_11 : decode cX8_copy 11 = .ok (.iload_n 3, 1) := by decide +kernel
theorem dX8_copy_12 : decode cX8_copy 12 = .ok (.iload 5, 2) := by decide +kernel
theorem dX8_copy_14 : decode cX8_copy 14 = .ok (.iadd, 1) := by decide +kernel
theorem dX8_copy_15 : decode cX8_copy 15 = .ok (.aload_n 0, 1) := by decide +kernel
theorem dX8_copy_16 : decode cX8_copy 16 = .ok (.iload_n 1, 1) := by decide +kernel
theorem dX8_copy_17 : decode cX8_copy 17 = .ok (.iload 5, 2) := by decide +kernel
theorem dX8_copy_19 : decode cX8_copy 19 = .ok (.iadd, 1) := by decide +kernel
theorem dX8_copy_20 : decode cX8_copy 20 = .ok (.iaload, 1) := by decide +kernel
theorem dX8_copy_21 : decode cX8_copy 21 = .ok (.iastore, 1) := by decide +kernel
theorem dX8_copy_22 : decode cX8_copy 22 = .ok (.iinc 5 1, 3) := by decide +kernel
theorem dX8_copy_25 : decode cX8_copy 25 = .ok (.goto (-22), 3) := by decide +kernel
theorem dX8_copy_28 : decode cX8_copy 28 = .ok (.return_, 1) := by decide +kernel
theorem dX8_tenTo_0 : decode cX8_tenTo 0 = .ok (.lconst 1, 1) := by decide +kernel
theorem dX8_tenTo_1 : decode cX8_tenTo 1 = .ok (.lstore_n 1, 1) := by decide +kernel
theorem dX8_tenTo_2 : decode cX8_tenTo 2 = .ok (.iconst 0, 1) := by decide +kernel
theorem dX8_tenTo_3 : decode cX8_tenTo 3 = .ok (.istore_n 3, 1) := by decide +kernel
theorem dX8_tenTo_4 : decode cX8_tenTo 4 = .ok (.iload_n 3, 1) := by decide +kernel
theorem dX8_tenTo_5 : decode cX8_tenTo 5 = .ok (.iload_n 0, 1) := by decide +kernel
theorem dX8_tenTo_6 : decode cX8_tenTo 6 = .ok (.if_icmp .ge 15, 3) := by decide +kernel
theorem dX8_tenTo_9 : decode cX8_tenTo 9 = .ok (.lload_n 1, 1) := by decide +kernel
theorem dX8_tenTo_10 : decode cX8_tenTo 10 = .ok (.ldc2_w 43, 3) := by decide +kernel
theorem dX8_tenTo_13 : decode cX8_tenTo 13 = .ok (.lmul, 1) := by decide +kernel
theorem dX8_tenTo_14 : decode cX8_tenTo 14 = .ok (.lstore_n 1, 1) := by decide +kernel
theorem dX8_tenTo_15 : decode cX8_tenTo 15 = .ok (.iinc 3 1, 3) := by decide +kernel
theorem dX8_tenTo_18 : decode cX8_tenTo 18 = .ok (.goto (-14), 3) := by decide +kernel
theorem dX8_tenTo_21 : decode cX8_tenTo 21 = .ok (.lload_n 1, 1) := by decide +kernel
theorem dX8_tenTo_22 : decode cX8_tenTo 22 = .ok (.lreturn, 1) := by decide +kernel
theorem dX8_clean_0 : decode cX8_clean 0 = .ok (.iconst 0, 1) := by decide +kernel
theorem dX8_clean_1 : decode cX8_clean 1 = .ok (.istore_n 1, 1) := by decide +kernel
theorem dX8_clean_2 : decode cX8_clean 2 = .ok (.iload_n 1, 1) := by decide +kernel
theorem dX8_clean_3 : decode cX8_clean 3 = .ok (.sipush 271, 3) := by decide +kernel
theorem dX8_clean_6 : decode cX8_clean 6 = .ok (.if_icmp .ge 13, 3) := by decide +kernel
theorem dX8_clean_9 : decode cX8_clean 9 = .ok (.aload_n 0, 1) := by decide +kernel
theorem dX8_clean_10 : decode cX8_clean 10 = .ok (.iload_n 1, 1) := by decide +kernel
theorem dX8_clean_11 : decode cX8_clean 11 = .ok (.iconst 0, 1) := by decide +kernel
theorem dX8_clean_12 : decode cX8_clean 12 = .ok (.iastore, 1) := by decide +kernel
theorem dX8_clean_13 : decode cX8_clean 13 = .ok (.iinc 1 1, 3) := by decide +kernel
theorem dX8_clean_16 : decode cX8_clean 16 = .ok (.goto (-14), 3) := by decide +kernel
theorem dX8_clean_19 : decode cX8_clean 19 = .ok (.aload_n 0, 1) := by decide +kernel
theorem dX8_clean_20 : decode cX8_clean 20 = .ok (.bipush 9, 2) := by decide +kernel
theorem dX8_clean_22 : decode cX8_clean 22 = .ok (.iconst 2, 1) := by decide +kernel
theorem dX8_clean_23 : decode cX8_clean 23 = .ok (.iastore, 1) := by decide +kernel
theorem dX8_clean_24 : decode cX8_clean 24 = .ok (.aload_n 0, 1) := by decide +kernel
theorem dX8_clean_25 : decode cX8_clean 25 = .ok (.bipush 10, 2) := by decide +kernel
theorem dX8_clean_27 : decode cX8_clean 27 = .ok (.iconst 3, 1) := by decide +kernel
theorem dX8_clean_28 : decode cX8_clean 28 = .ok (.iastore, 1) := by decide +kernel
theorem dX8_clean_29 : decode cX8_clean 29 = .ok (.aload_n 0, 1) := by decide +kernel
theorem dX8_clean_30 : decode cX8_clean 30 = .ok (.bipush 11, 2) := by decide +kernel
theorem dX8_clean_32 : decode cX8_clean 32 = .ok (.bipush 14, 2) := by decide +kernel
theorem dX8_clean_34 : decode cX8_clean 34 = .ok (.iastore, 1) := by decide +kernel
theorem dX8_clean_35 : decode cX8_clean 35 = .ok (.aload_n 0, 1) := by decide +kernel
theorem dX8_clean_36 : decode cX8_clean 36 = .ok (.bipush 12, 2) := by decide +kernel
theorem dX8_clean_38 : decode cX8_clean 38 = .ok (.bipush 7, 2) := by decide +kernel
theorem dX8_clean_40 : decode cX8_clean 40 = .ok (.iastore, 1) := by decide +kernel
theorem dX8_clean_41 : decode cX8_clean 41 = .ok (.aload_n 0, 1) := by decide +kernel
theorem dX8_clean_42 : decode cX8_clean 42 = .ok (.bipush 13, 2) := by decide +kernel
theorem dX8_clean_44 : decode cX8_clean 44 = .ok (.bipush 10, 2) := by decide +kernel
theorem dX8_clean_46 : decode cX8_clean 46 = .ok (.iastore, 1) := by decide +kernel
theorem dX8_clean_47 : decode cX8_clean 47 = .ok (.aload_n 0, 1) := by decide +kernel
theorem dX8_clean_48 : decode cX8_clean 48 = .ok (.bipush 14, 2) := by decide +kernel
theorem dX8_clean_50 : decode cX8_clean 50 = .ok (.bipush 15, 2) := by decide +kernel
theorem dX8_clean_52 : decode cX8_clean 52 = .ok (.iastore, 1) := by decide +kernel
theorem dX8_clean_53 : decode cX8_clean 53 = .ok (.return_, 1) := by decide +kernel
set_option maxRecDepth 20000 in
theorem ggX8_remember_X8_copy : GoodIn wsX8_remember wsX8_copy := goodIn_r _ [7] (by decide +kernel) (by decide +kernel)
set_option maxRecDepth 20000 in
theorem gX8_remember_X8_copy : GoodIn wsX8_remember (va_wsS RX8 48 yX8_copy wsX8_copy) := goodIn_app (goodIn_of _ (by decide +kernel)) ggX8_remember_X8_copy
theorem dX8_remember_0 : decode cX8_remember 0 = .ok (.aload_n 0, 1) := by decide +kernel
theorem dX8_remember_1 : decode cX8_remember 1 = .ok (.getfield 45, 3) := by decide +kernel
theorem dX8_remember_4 : decode cX8_remember 4 = .ok (.bipush 14, 2) := by decide +kernel
theorem dX8_remember_6 : decode cX8_remember 6 = .ok (.if_icmp .ne 31, 3) := by decide +kernel
theorem dX8_remember_9 : decode cX8_remember 9 = .ok (.aload_n 0, 1) := by decide +kernel
theorem dX8_remember_10 : decode cX8_remember 10 = .ok (.getfield 22, 3) := by decide +kernel
theorem dX8_remember_13 : decode cX8_remember 13 = .ok (.sipush 271, 3) := by decide +kernel
theorem dX8_remember_16 : decode cX8_remember 16 = .ok (.aload_n 0, 1) := by decide +kernel
theorem dX8_remember_17 : decode cX8_remember 17 = .ok (.getfield 22, 3) := by decide +kernel
theorem dX8_remember_20 : decode cX8_remember 20 = .ok (.iconst 0, 1) := by decide +kernel
theorem dX8_remember_21 : decode cX8_remember 21 = .ok (.sipush 3523, 3) := by decide +kernel
theorem dX8_remember_24 : decode cX8_remember 24 = .ok (.invokestatic 48, 3) := by decide +kernel
theorem dX8_remember_27 : decode cX8_remember 27 = .ok (.aload_n 0, 1) := by decide +kernel
theorem dX8_remember_28 : decode cX8_remember 28 = .ok (.dup, 1) := by decide +kernel
theorem dX8_remember_29 : decode cX8_remember 29 = .ok (.getfield 45, 3) := by decide +kernel
theorem dX8_remember_32 : decode cX8_remember 32 = .ok (.iconst 1, 1) := by decide +kernel
theorem dX8_remember_33 : decode cX8_remember 33 = .ok (.isub, 1) := by decide +kernel
theorem dX8_remember_34 : decode cX8_remember 34 = .ok (.putfield 45, 3) := by decide +kernel
theorem dX8_remember_37 : decode cX8_remember 37 = .ok (.aload_n 0, 1) := by decide +kernel
theorem dX8_remember_38 : decode cX8_remember 38 = .ok (.getfield 16, 3) := by decide +kernel
theorem dX8_remember_41 : decode cX8_remember 41 = .ok (.iconst 0, 1) := by decide +kernel
theorem dX8_remember_42 : decode cX8_remember 42 = .ok (.aload_n 0, 1) := by decide +kernel
theorem dX8_remember_43 : decode cX8_remember 43 = .ok (.getfield 22, 3) := by decide +kernel
theorem dX8_remember_46 : decode cX8_remember 46 = .ok (.sipush 271, 3) := by decide +kernel
theorem dX8_remember_49 : decode cX8_remember 49 = .ok (.aload_n 0, 1) := by decide +kernel
theorem dX8_remember_50 : decode cX8_remember 50 = .ok (.getfield 45, 3) := by decide +kernel
theorem dX8_remember_53 : decode cX8_remember 53 = .ok (.imul, 1) := by decide +kernel
theorem dX8_remember_54 : decode cX8_remember 54 = .ok (.sipush 271, 3) := by decide +kernel
theorem dX8_remember_57 : decode cX8_remember 57 = .ok (.invokestatic 48, 3) := by decide +kernel
theorem dX8_remember_60 : decode cX8_remember 60 = .ok (.aload_n 0, 1) := by decide +kernel
theorem dX8_remember_61 : decode cX8_remember 61 = .ok (.dup, 1) := by decide +kernel
theorem dX8_remember_62 : decode cX8_remember 62 = .ok (.getfield 45, 3) := by decide +kernel
theorem dX8_remember_65 : decode cX8_remember 65 = .ok (.iconst 1, 1) := by decide +kernel
theorem dX8_remember_66 : decode cX8_remember 66 = .ok (.iadd, 1) := by decide +kernel
theorem dX8_remember_67 : decode cX8_remember 67 = .ok (.putfield 45, 3) := by decide +kernel
theorem dX8_remember_70 : decode cX8_remember 70 = .ok (.return_, 1) := by decide +kernel
set_option maxRecDepth 20000 in
theorem ggX8_tryIt_X8_copy : GoodIn wsX8_tryIt wsX8_copy := goodIn_r _ [7] (by decide +kernel) (by decide +kernel)
set_option maxRecDepth 20000 in
theorem gX8_tryIt_X8_copy : GoodIn wsX8_tryIt (va_wsS RX8 48 yX8_copy wsX8_copy) := goodIn_app (goodIn_of _ (by decide +kernel)) ggX8_tryIt_X8_copy
theorem dX8_tryIt_0 : decode cX8_tryIt 0 = .ok (.aload_n 0, 1) := by decide +kernel
theorem dX8_tryIt_1 : decode cX8_tryIt 1 = .ok (.getfield 16, 3) := by decide +kernel
theorem dX8_tryIt_4 : decode cX8_tryIt 4 = .ok (.iconst 0, 1) := by decide +kernel
theorem dX8_tryIt_5 : decode cX8_tryIt 5 = .ok (.aload_n 0, 1) := by decide +kernel
theorem dX8_tryIt_6 : decode cX8_tryIt 6 = .ok (.getfield 19, 3) := by decide +kernel
theorem dX8_tryIt_9 : decode cX8_tryIt 9 = .ok (.iconst 0, 1) := by decide +kernel
theorem dX8_tryIt_10 : decode cX8_tryIt 10 = .ok (.sipush 271, 3) := by decide +kernel
theorem dX8_tryIt_13 : decode cX8_tryIt 13 = .ok (.invokestatic 48, 3) := by decide +kernel
theorem dX8_tryIt_16 : decode cX8_tryIt 16 = .ok (.aload_n 0, 1) := by decide +kernel
theorem dX8_tryIt_17 : decode cX8_tryIt 17 = .ok (.iconst (-1), 1) := by decide +kernel
theorem dX8_tryIt_18 : decode cX8_tryIt 18 = .ok (.putfield 52, 3) := by decide +kernel
theorem dX8_tryIt_21 : decode cX8_tryIt 21 = .ok (.return_, 1) := by decide +kernel
theorem dX8_prisonerAt_0 : decode cX8_prisonerAt 0 = .ok (.bipush 15, 2) := by decide +kernel
theorem dX8_prisonerAt_2 : decode cX8_prisonerAt 2 = .ok (.bipush 6, 2) := by decide +kernel
theorem dX8_prisonerAt_4 : decode cX8_prisonerAt 4 = .ok (.iload_n 0, 1) := by decide +kernel
theorem dX8_prisonerAt_5 : decode cX8_prisonerAt 5 = .ok (.imul, 1) := by decide +kernel
theorem dX8_prisonerAt_6 : decode cX8_prisonerAt 6 = .ok (.iadd, 1) := by decide +kernel
theorem dX8_prisonerAt_7 : decode cX8_prisonerAt 7 = .ok (.iload_n 1, 1) := by decide +kernel
theorem dX8_prisonerAt_8 : decode cX8_prisonerAt 8 = .ok (.iadd, 1) := by decide +kernel
theorem dX8_prisonerAt_9 : decode cX8_prisonerAt 9 = .ok (.ireturn, 1) := by decide +kernel
theorem dX8_visitorAt_0 : decode cX8_visitorAt 0 = .ok (.bipush 63, 2) := by decide +kernel
theorem dX8_visitorAt_2 : decode cX8_visitorAt 2 = .ok (.iconst 3, 1) := by decide +kernel
theorem dX8_visitorAt_3 : decode cX8_visitorAt 3 = .ok (.iload_n 0, 1) := by decide +kernel
theorem dX8_visitorAt_4 : decode cX8_visitorAt 4 = .ok (.imul, 1) := by decide +kernel
theorem dX8_visitorAt_5 : decode cX8_visitorAt 5 = .ok (.iadd, 1) := by decide +kernel
theorem dX8_visitorAt_6 : decode cX8_visitorAt 6 = .ok (.iload_n 1, 1) := by decide +kernel
theorem dX8_visitorAt_7 : decode cX8_visitorAt 7 = .ok (.iadd, 1) := by decide +kernel
theorem dX8_visitorAt_8 : decode cX8_visitorAt 8 = .ok (.ireturn, 1) := by decide +kernel
theorem dX8_bookingAt_0 : decode cX8_bookingAt 0 = .ok (.bipush 93, 2) := by decide +kernel
theorem dX8_bookingAt_2 : decode cX8_bookingAt 2 = .ok (.bipush 7, 2) := by decide +kernel
theorem dX8_bookingAt_4 : decode cX8_bookingAt 4 = .ok (.iload_n 0, 1) := by decide +kernel
theorem dX8_bookingAt_5 : decode cX8_bookingAt 5 = .ok (.imul, 1) := by decide +kernel
theorem dX8_bookingAt_6 : decode cX8_bookingAt 6 = .ok (.iadd, 1) := by decide +kernel
theorem dX8_bookingAt_7 : decode cX8_bookingAt 7 = .ok (.iload_n 1, 1) := by decide +kernel
theorem dX8_bookingAt_8 : decode cX8_bookingAt 8 = .ok (.iadd, 1) := by decide +kernel
theorem dX8_bookingAt_9 : decode cX8_bookingAt 9 = .ok (.ireturn, 1) := by decide +kernel
set_option maxRecDepth 20000 in
theorem ggX8_isListed_X8_prisonerAt : GoodIn wsX8_isListed wsX8_prisonerAt := goodIn_r _ [4] (by decide +kernel) (by decide +kernel)
set_option maxRecDepth 20000 in
theorem gX8_isListed_X8_prisonerAt : GoodIn wsX8_isListed (va_wsS RX8 55 yX8_prisonerAt wsX8_prisonerAt) := goodIn_app (goodIn_of _ (by decide +kernel)) ggX8_isListed_X8_prisonerAt
theorem dX8_isListed_0 : decode cX8_isListed 0 = .ok (.aload_n 0, 1) := by decide +kernel
theorem dX8_isListed_1 : decode cX8_isListed 1 = .ok (.iload_n 1, 1) := by decide +kernel
theorem dX8_isListed_2 : decode cX8_isListed 2 = .ok (.iconst 1, 1) := by decide +kernel
theorem dX8_isListed_3 : decode cX8_isListed 3 = .ok (.invokestatic 55, 3) := by decide +kernel
theorem dX8_isListed_6 : decode cX8_isListed 6 = .ok (.iaload, 1) := by decide +kernel
theorem dX8_isListed_7 : decode cX8_isListed 7 = .ok (.iload_n 2, 1) := by decide +kernel
theorem dX8_isListed_8 : decode cX8_isListed 8 = .ok (.ishr, 1) := by decide +kernel
theorem dX8_isListed_9 : decode cX8_isListed 9 = .ok (.iconst 1, 1) := by decide +kernel
theorem dX8_isListed_10 : decode cX8_isListed 10 = .ok (.iand, 1) := by decide +kernel
theorem dX8_isListed_11 : decode cX8_isListed 11 = .ok (.iconst 1, 1) := by decide +kernel
theorem dX8_isListed_12 : decode cX8_isListed 12 = .ok (.if_icmp .ne 7, 3) := by decide +kernel
theorem dX8_isListed_15 : decode cX8_isListed 15 = .ok (.iconst 1, 1) := by decide +kernel
theorem dX8_isListed_16 : decode cX8_isListed 16 = .ok (.goto 4, 3) := by decide +kernel
theorem dX8_isListed_19 : decode cX8_isListed 19 = .ok (.iconst 0, 1) := by decide +kernel
theorem dX8_isListed_20 : decode cX8_isListed 20 = .ok (.ireturn, 1) := by decide +kernel
set_option maxRecDepth 20000 in
theorem ggX8_isLost_X8_prisonerAt : GoodIn wsX8_isLost wsX8_prisonerAt := goodIn_r _ [4] (by decide +kernel) (by decide +kernel)
set_option maxRecDepth 20000 in
theorem gX8_isLost_X8_prisonerAt : GoodIn wsX8_isLost (va_wsS RX8 55 yX8_prisonerAt wsX8_prisonerAt) := goodIn_app (goodIn_of _ (by decide +kernel)) ggX8_isLost_X8_prisonerAt
theorem dX8_isLost_0 : decode cX8_isLost 0 = .ok (.iload_n 2, 1) := by decide +kernel
theorem dX8_isLost_1 : decode cX8_isLost 1 = .ok (.aload_n 0, 1) := by decide +kernel
theorem dX8_isLost_2 : decode cX8_isLost 2 = .ok (.iload_n 1, 1) := by decide +kernel
theorem dX8_isLost_3 : decode cX8_isLost 3 = .ok (.iconst 2, 1) := by decide +kernel
theorem dX8_isLost_4 : decode cX8_isLost 4 = .ok (.invokestatic 55, 3) := by decide +kernel
theorem dX8_isLost_7 : decode cX8_isLost 7 = .ok (.iaload, 1) := by decide +kernel
theorem dX8_isLost_8 : decode cX8_isLost 8 = .ok (.if_icmp .ge 7, 3) := by decide +kernel
theorem dX8_isLost_11 : decode cX8_isLost 11 = .ok (.iconst 1, 1) := by decide +kernel
theorem dX8_isLost_12 : decode cX8_isLost 12 = .ok (.goto 4, 3) := by decide +kernel
theorem dX8_isLost_15 : decode cX8_isLost 15 = .ok (.iconst 0, 1) := by decide +kernel
theorem dX8_isLost_16 : decode cX8_isLost 16 = .ok (.ireturn, 1) := by decide +kernel
set_option maxRecDepth 20000 in
theorem ggX8_isBanned_X8_visitorAt : GoodIn wsX8_isBanned wsX8_visitorAt := goodIn_r _ [4] (by decide +kernel) (by decide +kernel)
set_option maxRecDepth 20000 in
theorem gX8_isBanned_X8_visitorAt : GoodIn wsX8_isBanned (va_wsS RX8 59 yX8_visitorAt wsX8_visitorAt) := goodIn_app (goodIn_of _ (by decide +kernel)) ggX8_isBanned_X8_visitorAt
theorem dX8_isBanned_0 : decode cX8_isBanned 0 = .ok (.iload_n 2, 1) := by decide +kernel
theorem dX8_isBanned_1 : decode cX8_isBanned 1 = .ok (.aload_n 0, 1) := by decide +kernel
theorem dX8_isBanned_2 : decode cX8_isBanned 2 = .ok (.iload_n 1, 1) := by decide +kernel
theorem dX8_isBanned_3 : decode cX8_isBanned 3 = .ok (.iconst 1, 1) := by decide +kernel
theorem dX8_isBanned_4 : decode cX8_isBanned 4 = .ok (.invokestatic 59, 3) := by decide +kernel
theorem dX8_isBanned_7 : decode cX8_isBanned 7 = .ok (.iaload, 1) := by decide +kernel
theorem dX8_isBanned_8 : decode cX8_isBanned 8 = .ok (.if_icmp .ge 7, 3) := by decide +kernel
theorem dX8_isBanned_11 : decode cX8_isBanned 11 = .ok (.iconst 1, 1) := by decide +kernel
theorem dX8_isBanned_12 : decode cX8_isBanned 12 = .ok (.goto 4, 3) := by decide +kernel
theorem dX8_isBanned_15 : decode cX8_isBanned 15 = .ok (.iconst 0, 1) := by decide +kernel
theorem dX8_isBanned_16 : decode cX8_isBanned 16 = .ok (.ireturn, 1) := by decide +kernel
set_option maxRecDepth 20000 in
theorem ggX8_isAt_X8_bookingAt : GoodIn wsX8_isAt wsX8_bookingAt := goodIn_r _ [4] (by decide +kernel) (by decide +kernel)
set_option maxRecDepth 20000 in
theorem gX8_isAt_X8_bookingAt : GoodIn wsX8_isAt (va_wsS RX8 62 yX8_bookingAt wsX8_bookingAt) := goodIn_app (goodIn_of _ (by decide +kernel)) ggX8_isAt_X8_bookingAt
theorem dX8_isAt_0 : decode cX8_isAt 0 = .ok (.aload_n 0, 1) := by decide +kernel
theorem dX8_isAt_1 : decode cX8_isAt 1 = .ok (.iload_n 1, 1) := by decide +kernel
theorem dX8_isAt_2 : decode cX8_isAt 2 = .ok (.iconst 0, 1) := by decide +kernel
theorem dX8_isAt_3 : decode cX8_isAt 3 = .ok (.invokestatic 62, 3) := by decide +kernel
theorem dX8_isAt_6 : decode cX8_isAt 6 = .ok (.iaload, 1) := by decide +kernel
theorem dX8_isAt_7 : decode cX8_isAt 7 = .ok (.iload_n 2, 1) := by decide +kernel
theorem dX8_isAt_8 : decode cX8_isAt 8 = .ok (.if_icmp .ne 18, 3) := by decide +kernel
theorem dX8_isAt_11 : decode cX8_isAt 11 = .ok (.aload_n 0, 1) := by decide +kernel
theorem dX8_isAt_12 : decode cX8_isAt 12 = .ok (.iload_n 1, 1) := by decide +kernel
theorem dX8_isAt_13 : decode cX8_isAt 13 = .ok (.iconst 1, 1) := by decide +kernel
theorem dX8_isAt_14 : decode cX8_isAt 14 = .ok (.invokestatic 62, 3) := by decide +kernel
theorem dX8_isAt_17 : decode cX8_isAt 17 = .ok (.iaload, 1) := by decide +kernel
theorem dX8_isAt_18 : decode cX8_isAt 18 = .ok (.iload_n 3, 1) := by decide +kernel
theorem dX8_isAt_19 : decode cX8_isAt 19 = .ok (.if_icmp .ne 7, 3) := by decide +kernel
theorem dX8_isAt_22 : decode cX8_isAt 22 = .ok (.iconst 1, 1) := by decide +kernel
theorem dX8_isAt_23 : decode cX8_isAt 23 = .ok (.goto 4, 3) := by decide +kernel
theorem dX8_isAt_26 : decode cX8_isAt 26 = .ok (.iconst 0, 1) := by decide +kernel
theorem dX8_isAt_27 : decode cX8_isAt 27 = .ok (.ireturn, 1) := by decide +kernel
set_option maxRecDepth 20000 in
theorem ggX8_inWeek_X8_prisonerAt : GoodIn wsX8_inWeek wsX8_prisonerAt := goodIn_r _ [4] (by decide +kernel) (by decide +kernel)
set_option maxRecDepth 20000 in
theorem gX8_inWeek_X8_prisonerAt : GoodIn wsX8_inWeek (va_wsS RX8 55 yX8_prisonerAt wsX8_prisonerAt) := goodIn_app (goodIn_of _ (by decide +kernel)) ggX8_inWeek_X8_prisonerAt
set_option maxRecDepth 20000 in
theorem ggX8_inWeek_X8_bookingAt : GoodIn wsX8_inWeek wsX8_bookingAt := goodIn_r _ [7] (by decide +kernel) (by decide +kernel)
set_option maxRecDepth 20000 in
theorem gX8_inWeek_X8_bookingAt : GoodIn wsX8_inWeek (va_wsS RX8 62 yX8_bookingAt wsX8_bookingAt) := goodIn_app (goodIn_of _ (by decide +kernel)) ggX8_inWeek_X8_bookingAt
theorem dX8_inWeek_0 : decode cX8_inWeek 0 = .ok (.iload_n 2, 1) := by decide +kernel
theorem dX8_inWeek_1 : decode cX8_inWeek 1 = .ok (.bipush 7, 2) := by decide +kernel
theorem dX8_inWeek_3 : decode cX8_inWeek 3 = .ok (.idiv, 1) := by decide +kernel
theorem dX8_inWeek_4 : decode cX8_inWeek 4 = .ok (.aload_n 0, 1) := by decide +kernel
theorem dX8_inWeek_5 : decode cX8_inWeek 5 = .ok (.iconst 0, 1) := by decide +kernel
theorem dX8_inWeek_6 : decode cX8_inWeek 6 = .ok (.iaload, 1) := by decide +kernel
theorem dX8_inWeek_7 : decode cX8_inWeek 7 = .ok (.bipush 7, 2) := by decide +kernel
theorem dX8_inWeek_9 : decode cX8_inWeek 9 = .ok (.idiv, 1) := by decide +kernel
theorem dX8_inWeek_10 : decode cX8_inWeek 10 = .ok (.if_icmp .ne 13, 3) := by decide +kernel
theorem dX8_inWeek_13 : decode cX8_inWeek 13 = .ok (.aload_n 0, 1) := by decide +kernel
theorem dX8_inWeek_14 : decode cX8_inWeek 14 = .ok (.iload_n 1, 1) := by decide +kernel
theorem dX8_inWeek_15 : decode cX8_inWeek 15 = .ok (.iconst 4, 1) := by decide +kernel
theorem dX8_inWeek_16 : decode cX8_inWeek 16 = .ok (.invokestatic 55, 3) := by decide +kernel
theorem dX8_inWeek_19 : decode cX8_inWeek 19 = .ok (.iaload, 1) := by decide +kernel
theorem dX8_inWeek_20 : decode cX8_inWeek 20 = .ok (.goto 4, 3) := by decide +kernel
theorem dX8_inWeek_23 : decode cX8_inWeek 23 = .ok (.iconst 0, 1) := by decide +kernel
theorem dX8_inWeek_24 : decode cX8_inWeek 24 = .ok (.istore_n 3, 1) := by decide +kernel
theorem dX8_inWeek_25 : decode cX8_inWeek 25 = .ok (.iconst 0, 1) := by decide +kernel
theorem dX8_inWeek_26 : decode cX8_inWeek 26 = .ok (.istore 4, 2) := by decide +kernel
theorem dX8_inWeek_28 : decode cX8_inWeek 28 = .ok (.iload 4, 2) := by decide +kernel
theorem dX8_inWeek_30 : decode cX8_inWeek 30 = .ok (.aload_n 0, 1) := by decide +kernel
theorem dX8_inWeek_31 : decode cX8_inWeek 31 = .ok (.iconst 2, 1) := by decide +kernel
theorem dX8_inWeek_32 : decode cX8_inWeek 32 = .ok (.iaload, 1) := by decide +kernel
theorem dX8_inWeek_33 : decode cX8_inWeek 33 = .ok (.if_icmp .ge 47, 3) := by decide +kernel
theorem dX8_inWeek_36 : decode cX8_inWeek 36 = .ok (.iload_n 3, 1) := by decide +kernel
theorem dX8_inWeek_37 : decode cX8_inWeek 37 = .ok (.aload_n 0, 1) := by decide +kernel
theorem dX8_inWeek_38 : decode cX8_inWeek 38 = .ok (.iload 4, 2) := by decide +kernel
theorem dX8_inWeek_40 : decode cX8_inWeek 40 = .ok (.iconst 3, 1) := by decide +kernel
theorem dX8_inWeek_41 : decode cX8_inWeek 41 = .ok (.invokestatic 62, 3) := by decide +kernel
theorem dX8_inWeek_44 : decode cX8_inWeek 44 = .ok (.iaload, 1) := by decide +kernel
theorem dX8_inWeek_45 : decode cX8_inWeek 45 = .ok (.iload_n 1, 1) := by decide +kernel
theorem dX8_inWeek_46 : decode cX8_inWeek 46 = .ok (.if_icmp .ne 25, 3) := by decide +kernel
theorem dX8_inWeek_49 : decode cX8_inWeek 49 = .ok (.aload_n 0, 1) := by decide +kernel
theorem dX8_inWeek_50 : decode cX8_inWeek 50 = .ok (.iload 4, 2) := by decide +kernel
theorem dX8_inWeek_52 : decode cX8_inWeek 52 = .ok (.iconst 0, 1) := by decide +kernel
theorem dX8_inWeek_53 : decode cX8_inWeek 53 = .ok (.invokestatic 62, 3) := by decide +kernel
theorem dX8_inWeek_56 : decode cX8_inWeek 56 = .ok (.iaload, 1) := by decide +kernel
theorem dX8_inWeek_57 : decode cX8_inWeek 57 = .ok (.bipush 7, 2) := by decide +kernel
theorem dX8_inWeek_59 : decode cX8_inWeek 59 = .ok (.idiv, 1) := by decide +kernel
theorem dX8_inWeek_60 : decode cX8_inWeek 60 = .ok (.iload_n 2, 1) := by decide +kernel
theorem dX8_inWeek_61 : decode cX8_inWeek 61 = .ok (.bipush 7, 2) := by decide +kernel
theorem dX8_inWeek_63 : decode cX8_inWeek 63 = .ok (.idiv, 1) := by decide +kernel
theorem dX8_inWeek_64 : decode cX8_inWeek 64 = .ok (.if_icmp .ne 7, 3) := by decide +kernel
theorem dX8_inWeek_67 : decode cX8_inWeek 67 = .ok (.iconst 1, 1) := by decide +kernel
theorem dX8_inWeek_68 : decode cX8_inWeek 68 = .ok (.goto 4, 3) := by decide +kernel
theorem dX8_inWeek_71 : decode cX8_inWeek 71 = .ok (.iconst 0, 1) := by decide +kernel
theorem dX8_inWeek_72 : decode cX8_inWeek 72 = .ok (.iadd, 1) := by decide +kernel
theorem dX8_inWeek_73 : decode cX8_inWeek 73 = .ok (.istore_n 3, 1) := by decide +kernel
theorem dX8_inWeek_74 : decode cX8_inWeek 74 = .ok (.iinc 4 1, 3) := by decide +kernel
theorem dX8_inWeek_77 : decode cX8_inWeek 77 = .ok (.goto (-49), 3) := by decide +kernel
theorem dX8_inWeek_80 : decode cX8_inWeek 80 = .ok (.iload_n 3, 1) := by decide +kernel
theorem dX8_inWeek_81 : decode cX8_inWeek 81 = .ok (.ireturn, 1) := by decide +kernel
set_option maxRecDepth 20000 in
theorem ggX8_isBusy_X8_isAt : GoodIn wsX8_isBusy wsX8_isAt := goodIn_r _ [4, 5, 6, 3, 7] (by decide +kernel) (by decide +kernel)
set_option maxRecDepth 20000 in
theorem gX8_isBusy_X8_isAt : GoodIn wsX8_isBusy (va_wsS RX8 65 yX8_isAt wsX8_isAt) := goodIn_app (goodIn_of _ (by decide +kernel)) ggX8_isBusy_X8_isAt
set_option maxRecDepth 20000 in
theorem ggX8_isBusy_X8_bookingAt : GoodIn wsX8_isBusy wsX8_bookingAt := goodIn_r _ [7] (by decide +kernel) (by decide +kernel)
set_option maxRecDepth 20000 in
theorem gX8_isBusy_X8_bookingAt : GoodIn wsX8_isBusy (va_wsS RX8 62 yX8_bookingAt wsX8_bookingAt) := goodIn_app (goodIn_of _ (by decide +kernel)) ggX8_isBusy_X8_bookingAt
theorem dX8_isBusy_0 : decode cX8_isBusy 0 = .ok (.iconst 0, 1) := by decide +kernel
theorem dX8_isBusy_1 : decode cX8_isBusy 1 = .ok (.istore 5, 2) := by decide +kernel
theorem dX8_isBusy_3 : decode cX8_isBusy 3 = .ok (.iconst 0, 1) := by decide +kernel
theorem dX8_isBusy_4 : decode cX8_isBusy 4 = .ok (.istore 6, 2) := by decide +kernel
theorem dX8_isBusy_6 : decode cX8_isBusy 6 = .ok (.iload 6, 2) := by decide +kernel
theorem dX8_isBusy_8 : decode cX8_isBusy 8 = .ok (.aload_n 0, 1) := by decide +kernel
theorem dX8_isBusy_9 : decode cX8_isBusy 9 = .ok (.iconst 2, 1) := by decide +kernel
theorem dX8_isBusy_10 : decode cX8_isBusy 10 = .ok (.iaload, 1) := by decide +kernel
theorem dX8_isBusy_11 : decode cX8_isBusy 11 = .ok (.if_icmp .ge 57, 3) := by decide +kernel
theorem dX8_isBusy_14 : decode cX8_isBusy 14 = .ok (.iload 5, 2) := by decide +kernel
theorem dX8_isBusy_16 : decode cX8_isBusy 16 = .ok (.ifCond .ne 39, 3) := by decide +kernel
theorem dX8_isBusy_19 : decode cX8_isBusy 19 = .ok (.aload_n 0, 1) := by decide +kernel
theorem dX8_isBusy_20 : decode cX8_isBusy 20 = .ok (.iload 6, 2) := by decide +kernel
theorem dX8_isBusy_22 : decode cX8_isBusy 22 = .ok (.iload_n 3, 1) := by decide +kernel
theorem dX8_isBusy_23 : decode cX8_isBusy 23 = .ok (.iload 4, 2) := by decide +kernel
theorem dX8_isBusy_25 : decode cX8_isBusy 25 = .ok (.invokestatic 65, 3) := by decide +kernel
theorem dX8_isBusy_28 : decode cX8_isBusy 28 = .ok (.ifCond .eq 31, 3) := by decide +kernel
theorem dX8_isBusy_31 : decode cX8_isBusy 31 = .ok (.aload_n 0, 1) := by decide +kernel
theorem dX8_isBusy_32 : decode cX8_isBusy 32 = .ok (.iload 6, 2) := by decide +kernel
theorem dX8_isBusy_34 : decode cX8_isBusy 34 = .ok (.iconst 3, 1) := by decide +kernel
theorem dX8_isBusy_35 : decode cX8_isBusy 35 = .ok (.invokestatic 62, 3) := by decide +kernel
theorem dX8_isBusy_38 : decode cX8_isBusy 38 = .ok (.iaload, 1) := by decide +kernel
theorem dX8_isBusy_39 : decode cX8_isBusy 39 = .ok (.iload_n 1, 1) := by decide +kernel
theorem dX8_isBusy_40 : decode cX8_isBusy 40 = .ok (.if_icmp .eq 15, 3) := by decide +kernel
theorem dX8_isBusy_43 : decode cX8_isBusy 43 = .ok (.aload_n 0, 1) := by decide +kernel
theorem dX8_isBusy_44 : decode cX8_isBusy 44 = .ok (.iload 6, 2) := by decide +kernel
theorem dX8_isBusy_46 : decode cX8_isBusy 46 = .ok (.iconst 4, 1) := by decide +kernel
theorem dX8_isBusy_47 : decode cX8_isBusy 47 = .ok (.invokestatic 62, 3) := by decide +kernel
theorem dX8_isBusy_50 : decode cX8_isBusy 50 = .ok (.iaload, 1) := by decide +kernel
theorem dX8_isBusy_51 : decode cX8_isBusy 51 = .ok (.iload_n 2, 1) := by decide +kernel
theorem dX8_isBusy_52 : decode cX8_isBusy 52 = .ok (.if_icmp .ne 7, 3) := by decide +kernel
theorem dX8_isBusy_55 : decode cX8_isBusy 55 = .ok (.iconst 1, 1) := by decide +kernel
theorem dX8_isBusy_56 : decode cX8_isBusy 56 = .ok (.goto 4, 3) := by decide +kernel
theorem dX8_isBusy_59 : decode cX8_isBusy 59 = .ok (.iconst 0, 1) := by decide +kernel
theorem dX8_isBusy_60 : decode cX8_isBusy 60 = .ok (.istore 5, 2) := by decide +kernel
theorem dX8_isBusy_62 : decode cX8_isBusy 62 = .ok (.iinc 6 1, 3) := by decide +kernel
theorem dX8_isBusy_65 : decode cX8_isBusy 65 = .ok (.goto (-59), 3) := by decide +kernel
theorem dX8_isBusy_68 : decode cX8_isBusy 68 = .ok (.iload 5, 2) := by decide +kernel
theorem dX8_isBusy_70 : decode cX8_isBusy 70 = .ok (.ireturn, 1) := by decide +kernel
set_option maxRecDepth 20000 in
theorem ggX8_meetsApart_X8_isAt : GoodIn wsX8_meetsApart wsX8_isAt := goodIn_r _ [4, 5, 6, 3, 7] (by decide +kernel) (by decide +kernel)
set_option maxRecDepth 20000 in
theorem gX8_meetsApart_X8_isAt : GoodIn wsX8_meetsApart (va_wsS RX8 65 yX8_isAt wsX8_isAt) := goodIn_app (goodIn_of _ (by decide +kernel)) ggX8_meetsApart_X8_isAt
set_option maxRecDepth 20000 in
theorem ggX8_meetsApart_X8_prisonerAt : GoodIn wsX8_meetsApart wsX8_prisonerAt := goodIn_r _ [10] (by decide +kernel) (by decide +kernel)
set_option maxRecDepth 20000 in
theorem gX8_meetsApart_X8_prisonerAt : GoodIn wsX8_meetsApart (va_wsS RX8 55 yX8_prisonerAt wsX8_prisonerAt) := goodIn_app (goodIn_of _ (by decide +kernel)) ggX8_meetsApart_X8_prisonerAt
set_option maxRecDepth 20000 in
theorem ggX8_meetsApart_X8_bookingAt : GoodIn wsX8_meetsApart wsX8_bookingAt := goodIn_r _ [7] (by decide +kernel) (by decide +kernel)
set_option maxRecDepth 20000 in
theorem gX8_meetsApart_X8_bookingAt : GoodIn wsX8_meetsApart (va_wsS RX8 62 yX8_bookingAt wsX8_bookingAt) := goodIn_app (goodIn_of _ (by decide +kernel)) ggX8_meetsApart_X8_bookingAt
theorem dX8_meetsApart_0 : decode cX8_meetsApart 0 = .ok (.iconst 0, 1) := by decide +kernel
theorem dX8_meetsApart_1 : decode cX8_meetsApart 1 = .ok (.istore 4, 2) := by decide +kernel
theorem dX8_meetsApart_3 : decode cX8_meetsApart 3 = .ok (.iconst 0, 1) := by decide +kernel
theorem dX8_meetsApart_4 : decode cX8_meetsApart 4 = .ok (.istore 5, 2) := by decide +kernel
theorem dX8_meetsApart_6 : decode cX8_meetsApart 6 = .ok (.iload 5, 2) := by decide +kernel
theorem dX8_meetsApart_8 : decode cX8_meetsApart 8 = .ok (.aload_n 0, 1) := by decide +kernel
theorem dX8_meetsApart_9 : decode cX8_meetsApart 9 = .ok (.iconst 2, 1) := by decide +kernel
theorem dX8_meetsApart_10 : decode cX8_meetsApart 10 = .ok (.iaload, 1) := by decide +kernel
theorem dX8_meetsApart_11 : decode cX8_meetsApart 11 = .ok (.if_icmp .ge 54, 3) := by decide +kernel
theorem dX8_meetsApart_14 : decode cX8_meetsApart 14 = .ok (.iload 4, 2) := by decide +kernel
theorem dX8_meetsApart_16 : decode cX8_meetsApart 16 = .ok (.ifCond .ne 36, 3) := by decide +kernel
theorem dX8_meetsApart_19 : decode cX8_meetsApart 19 = .ok (.aload_n 0, 1) := by decide +kernel
theorem dX8_meetsApart_20 : decode cX8_meetsApart 20 = .ok (.iload 5, 2) := by decide +kernel
theorem dX8_meetsApart_22 : decode cX8_meetsApart 22 = .ok (.iload_n 2, 1) := by decide +kernel
theorem dX8_meetsApart_23 : decode cX8_meetsApart 23 = .ok (.iload_n 3, 1) := by decide +kernel
theorem dX8_meetsApart_24 : decode cX8_meetsApart 24 = .ok (.invokestatic 65, 3) := by decide +kernel
theorem dX8_meetsApart_27 : decode cX8_meetsApart 27 = .ok (.ifCond .eq 29, 3) := by decide +kernel
theorem dX8_meetsApart_30 : decode cX8_meetsApart 30 = .ok (.aload_n 0, 1) := by decide +kernel
theorem dX8_meetsApart_31 : decode cX8_meetsApart 31 = .ok (.iload_n 1, 1) := by decide +kernel
theorem dX8_meetsApart_32 : decode cX8_meetsApart 32 = .ok (.iconst 5, 1) := by decide +kernel
theorem dX8_meetsApart_33 : decode cX8_meetsApart 33 = .ok (.invokestatic 55, 3) := by decide +kernel
theorem dX8_meetsApart_36 : decode cX8_meetsApart 36 = .ok (.iaload, 1) := by decide +kernel
theorem dX8_meetsApart_37 : decode cX8_meetsApart 37 = .ok (.aload_n 0, 1) := by decide +kernel
theorem dX8_meetsApart_38 : decode cX8_meetsApart 38 = .ok (.iload 5, 2) := by decide +kernel
theorem dX8_meetsApart_40 : decode cX8_meetsApart 40 = .ok (.iconst 3, 1) := by decide +kernel
theorem dX8_meetsApart_41 : decode cX8_meetsApart 41 = .ok (.invokestatic 62, 3) := by decide +kernel
theorem dX8_meetsApart_44 : decode cX8_meetsApart 44 = .ok (.iaload, 1) := by decide +kernel
theorem dX8_meetsApart_45 : decode cX8_meetsApart 45 = .ok (.ishr, 1) := by decide +kernel
theorem dX8_meetsApart_46 : decode cX8_meetsApart 46 = .ok (.iconst 1, 1) := by decide +kernel
theorem dX8_meetsApart_47 : decode cX8_meetsApart 47 = .ok (.iand, 1) := by decide +kernel
theorem dX8_meetsApart_48 : decode cX8_meetsApart 48 = .ok (.iconst 1, 1) := by decide +kernel
theorem dX8_meetsApart_49 : decode cX8_meetsApart 49 = .ok (.if_icmp .ne 7, 3) := by decide +kernel
theorem dX8_meetsApart_52 : decode cX8_meetsApart 52 = .ok (.iconst 1, 1) := by decide +kernel
theorem dX8_meetsApart_53 : decode cX8_meetsApart 53 = .ok (.goto 4, 3) := by decide +kernel
theorem dX8_meetsApart_56 : decode cX8_meetsApart 56 = .ok (.iconst 0, 1) := by decide +kernel
theorem dX8_meetsApart_57 : decode cX8_meetsApart 57 = .ok (.istore 4, 2) := by decide +kernel
theorem dX8_meetsApart_59 : decode cX8_meetsApart 59 = .ok (.iinc 5 1, 3) := by decide +kernel
theorem dX8_meetsApart_62 : decode cX8_meetsApart 62 = .ok (.goto (-56), 3) := by decide +kernel
theorem dX8_meetsApart_65 : decode cX8_meetsApart 65 = .ok (.iload 4, 2) := by decide +kernel
theorem dX8_meetsApart_67 : decode cX8_meetsApart 67 = .ok (.ireturn, 1) := by decide +kernel
set_option maxRecDepth 20000 in
theorem ggX8_freeBooth_X8_isAt : GoodIn wsX8_freeBooth wsX8_isAt := goodIn_r _ [4, 5, 6, 3, 7] (by decide +kernel) (by decide +kernel)
set_option maxRecDepth 20000 in
theorem gX8_freeBooth_X8_isAt : GoodIn wsX8_freeBooth (va_wsS RX8 65 yX8_isAt wsX8_isAt) := goodIn_app (goodIn_of _ (by decide +kernel)) ggX8_freeBooth_X8_isAt
set_option maxRecDepth 20000 in
theorem ggX8_freeBooth_X8_bookingAt : GoodIn wsX8_freeBooth wsX8_bookingAt := goodIn_r _ [7] (by decide +kernel) (by decide +kernel)
set_option maxRecDepth 20000 in
theorem gX8_freeBooth_X8_bookingAt : GoodIn wsX8_freeBooth (va_wsS RX8 62 yX8_bookingAt wsX8_bookingAt) := goodIn_app (goodIn_of _ (by decide +kernel)) ggX8_freeBooth_X8_bookingAt
theorem dX8_freeBooth_0 : decode cX8_freeBooth 0 = .ok (.iconst 0, 1) := by decide +kernel
theorem dX8_freeBooth_1 : decode cX8_freeBooth 1 = .ok (.istore_n 3, 1) := by decide +kernel
theorem dX8_freeBooth_2 : decode cX8_freeBooth 2 = .ok (.iconst 0, 1) := by decide +kernel
theorem dX8_freeBooth_3 : decode cX8_freeBooth 3 = .ok (.istore 4, 2) := by decide +kernel
theorem dX8_freeBooth_5 : decode cX8_freeBooth 5 = .ok (.iload 4, 2) := by decide +kernel
theorem dX8_freeBooth_7 : decode cX8_freeBooth 7 = .ok (.aload_n 0, 1) := by decide +kernel
theorem dX8_freeBooth_8 : decode cX8_freeBooth 8 = .ok (.iconst 2, 1) := by decide +kernel
theorem dX8_freeBooth_9 : decode cX8_freeBooth 9 = .ok (.iaload, 1) := by decide +kernel
theorem dX8_freeBooth_10 : decode cX8_freeBooth 10 = .ok (.if_icmp .ge 37, 3) := by decide +kernel
theorem dX8_freeBooth_13 : decode cX8_freeBooth 13 = .ok (.iload_n 3, 1) := by decide +kernel
theorem dX8_freeBooth_14 : decode cX8_freeBooth 14 = .ok (.aload_n 0, 1) := by decide +kernel
theorem dX8_freeBooth_15 : decode cX8_freeBooth 15 = .ok (.iload 4, 2) := by decide +kernel
theorem dX8_freeBooth_17 : decode cX8_freeBooth 17 = .ok (.iload_n 1, 1) := by decide +kernel
theorem dX8_freeBooth_18 : decode cX8_freeBooth 18 = .ok (.iload_n 2, 1) := by decide +kernel
theorem dX8_freeBooth_19 : decode cX8_freeBooth 19 = .ok (.invokestatic 65, 3) := by decide +kernel
theorem dX8_freeBooth_22 : decode cX8_freeBooth 22 = .ok (.ifCond .eq 16, 3) := by decide +kernel
theorem dX8_freeBooth_25 : decode cX8_freeBooth 25 = .ok (.iconst 1, 1) := by decide +kernel
theorem dX8_freeBooth_26 : decode cX8_freeBooth 26 = .ok (.aload_n 0, 1) := by decide +kernel
theorem dX8_freeBooth_27 : decode cX8_freeBooth 27 = .ok (.iload 4, 2) := by decide +kernel
theorem dX8_freeBooth_29 : decode cX8_freeBooth 29 = .ok (.iconst 2, 1) := by decide +kernel
theorem dX8_freeBooth_30 : decode cX8_freeBooth 30 = .ok (.invokestatic 62, 3) := by decide +kernel
theorem dX8_freeBooth_33 : decode cX8_freeBooth 33 = .ok (.iaload, 1) := by decide +kernel
theorem dX8_freeBooth_34 : decode cX8_freeBooth 34 = .ok (.ishl, 1) := by decide +kernel
theorem dX8_freeBooth_35 : decode cX8_freeBooth 35 = .ok (.goto 4, 3) := by decide +kernel
theorem dX8_freeBooth_38 : decode cX8_freeBooth 38 = .ok (.iconst 0, 1) := by decide +kernel
theorem dX8_freeBooth_39 : decode cX8_freeBooth 39 = .ok (.ior, 1) := by decide +kernel
theorem dX8_freeBooth_40 : decode cX8_freeBooth 40 = .ok (.istore_n 3, 1) := by decide +kernel
theorem dX8_freeBooth_41 : decode cX8_freeBooth 41 = .ok (.iinc 4 1, 3) := by decide +kernel
theorem dX8_freeBooth_44 : decode cX8_freeBooth 44 = .ok (.goto (-39), 3) := by decide +kernel
theorem dX8_freeBooth_47 : decode cX8_freeBooth 47 = .ok (.iconst (-1), 1) := by decide +kernel
theorem dX8_freeBooth_48 : decode cX8_freeBooth 48 = .ok (.istore 4, 2) := by decide +kernel
theorem dX8_freeBooth_50 : decode cX8_freeBooth 50 = .ok (.aload_n 0, 1) := by decide +kernel
theorem dX8_freeBooth_51 : decode cX8_freeBooth 51 = .ok (.bipush 9, 2) := by decide +kernel
theorem dX8_freeBooth_53 : decode cX8_freeBooth 53 = .ok (.iaload, 1) := by decide +kernel
theorem dX8_freeBooth_54 : decode cX8_freeBooth 54 = .ok (.iconst 1, 1) := by decide +kernel
theorem dX8_freeBooth_55 : decode cX8_freeBooth 55 = .ok (.isub, 1) := by decide +kernel
theorem dX8_freeBooth_56 : decode cX8_freeBooth 56 = .ok (.istore 5, 2) := by decide +kernel
theorem dX8_freeBooth_58 : decode cX8_freeBooth 58 = .ok (.iload 5, 2) := by decide +kernel
theorem dX8_freeBooth_60 : decode cX8_freeBooth 60 = .ok (.ifCond .lt 27, 3) := by decide +kernel
theorem dX8_freeBooth_63 : decode cX8_freeBooth 63 = .ok (.iload_n 3, 1) := by decide +kernel
theorem dX8_freeBooth_64 : decode cX8_freeBooth 64 = .ok (.iload 5, 2) := by decide +kernel
theorem dX8_freeBooth_66 : decode cX8_freeBooth 66 = .ok (.ishr, 1) := by decide +kernel
theorem dX8_freeBooth_67 : decode cX8_freeBooth 67 = .ok (.iconst 1, 1) := by decide +kernel
theorem dX8_freeBooth_68 : decode cX8_freeBooth 68 = .ok (.iand, 1) := by decide +kernel
theorem dX8_freeBooth_69 : decode cX8_freeBooth 69 = .ok (.ifCond .ne 8, 3) := by decide +kernel
theorem dX8_freeBooth_72 : decode cX8_freeBooth 72 = .ok (.iload 5, 2) := by decide +kernel
theorem dX8_freeBooth_74 : decode cX8_freeBooth 74 = .ok (.goto 5, 3) := by decide +kernel
theorem dX8_freeBooth_77 : decode cX8_freeBooth 77 = .ok (.iload 4, 2) := by decide +kernel
theorem dX8_freeBooth_79 : decode cX8_freeBooth 79 = .ok (.istore 4, 2) := by decide +kernel
theorem dX8_freeBooth_81 : decode cX8_freeBooth 81 = .ok (.iinc 5 (-1), 3) := by decide +kernel
theorem dX8_freeBooth_84 : decode cX8_freeBooth 84 = .ok (.goto (-26), 3) := by decide +kernel
theorem dX8_freeBooth_87 : decode cX8_freeBooth 87 = .ok (.iload 4, 2) := by decide +kernel
theorem dX8_freeBooth_89 : decode cX8_freeBooth 89 = .ok (.ireturn, 1) := by decide +kernel
set_option maxRecDepth 20000 in
theorem ggX8_why_X8_isListed : GoodIn wsX8_why wsX8_isListed := goodIn_r _ [4, 5, 6, 3, 7] (by decide +kernel) (by decide +kernel)
set_option maxRecDepth 20000 in
theorem gX8_why_X8_isListed : GoodIn wsX8_why (va_wsS RX8 69 yX8_isListed wsX8_isListed) := goodIn_app (goodIn_of _ (by decide +kernel)) ggX8_why_X8_isListed
set_option maxRecDepth 20000 in
theorem ggX8_why_X8_isLost : GoodIn wsX8_why wsX8_isLost := goodIn_r _ [10, 5, 6, 3, 7] (by decide +kernel) (by decide +kernel)
set_option maxRecDepth 20000 in
theorem gX8_why_X8_isLost : GoodIn wsX8_why (va_wsS RX8 73 yX8_isLost wsX8_isLost) := goodIn_app (goodIn_of _ (by decide +kernel)) ggX8_why_X8_isLost
set_option maxRecDepth 20000 in
theorem ggX8_why_X8_isBanned : GoodIn wsX8_why wsX8_isBanned := goodIn_r _ [13, 14, 15, 3, 16] (by decide +kernel) (by decide +kernel)
set_option maxRecDepth 20000 in
theorem gX8_why_X8_isBanned : GoodIn wsX8_why (va_wsS RX8 76 yX8_isBanned wsX8_isBanned) := goodIn_app (goodIn_of _ (by decide +kernel)) ggX8_why_X8_isBanned
set_option maxRecDepth 20000 in
theorem ggX8_why_X8_inWeek : GoodIn wsX8_why wsX8_inWeek := goodIn_r _ [19, 5, 6, 3, 7, 20, 21, 22] (by decide +kernel) (by decide +kernel)
set_option maxRecDepth 20000 in
theorem gX8_why_X8_inWeek : GoodIn wsX8_why (va_wsS RX8 79 yX8_inWeek wsX8_inWeek) := goodIn_app (goodIn_of _ (by decide +kernel)) ggX8_why_X8_inWeek
set_option maxRecDepth 20000 in
theorem ggX8_why_X8_prisonerAt : GoodIn wsX8_why wsX8_prisonerAt := goodIn_r _ [7] (by decide +kernel) (by decide +kernel)
set_option maxRecDepth 20000 in
theorem gX8_why_X8_prisonerAt : GoodIn wsX8_why (va_wsS RX8 55 yX8_prisonerAt wsX8_prisonerAt) := goodIn_app (goodIn_of _ (by decide +kernel)) ggX8_why_X8_prisonerAt
set_option maxRecDepth 20000 in
theorem ggX8_why_X8_isBusy : GoodIn wsX8_why wsX8_isBusy := goodIn_r _ [25, 26, 27, 3, 28, 20, 21, 22] (by decide +kernel) (by decide +kernel)
set_option maxRecDepth 20000 in
theorem gX8_why_X8_isBusy : GoodIn wsX8_why (va_wsS RX8 83 yX8_isBusy wsX8_isBusy) := goodIn_app (goodIn_of _ (by decide +kernel)) ggX8_why_X8_isBusy
set_option maxRecDepth 20000 in
theorem ggX8_why_X8_meetsApart : GoodIn wsX8_why wsX8_meetsApart := goodIn_r _ [31, 26, 27, 3, 28, 20, 21, 22, 5, 6, 7] (by decide +kernel) (by decide +kernel)
set_option maxRecDepth 20000 in
theorem gX8_why_X8_meetsApart : GoodIn wsX8_why (va_wsS RX8 87 yX8_meetsApart wsX8_meetsApart) := goodIn_app (goodIn_of _ (by decide +kernel)) ggX8_why_X8_meetsApart
set_option maxRecDepth 20000 in
theorem ggX8_why_X8_freeBooth : GoodIn wsX8_why wsX8_freeBooth := goodIn_r _ [34, 26, 27, 3, 28, 20, 21, 22] (by decide +kernel) (by decide +kernel)
set_option maxRecDepth 20000 in
theorem gX8_why_X8_freeBooth : GoodIn wsX8_why (va_wsS RX8 90 yX8_freeBooth wsX8_freeBooth) := goodIn_app (goodIn_of _ (by decide +kernel)) ggX8_why_X8_freeBooth
theorem dX8_why_0 : decode cX8_why 0 = .ok (.aload_n 0, 1) := by decide +kernel
theorem dX8_why_1 : decode cX8_why 1 = .ok (.iload_n 1, 1) := by decide +kernel
theorem dX8_why_2 : decode cX8_why 2 = .ok (.iload_n 2, 1) := by decide +kernel
theorem dX8_why_3 : decode cX8_why 3 = .ok (.invokestatic 69, 3) := by decide +kernel
theorem dX8_why_6 : decode cX8_why 6 = .ok (.ifCond .ne 5, 3) := by decide +kernel
theorem dX8_why_9 : decode cX8_why 9 = .ok (.iconst 1, 1) := by decide +kernel
theorem dX8_why_10 : decode cX8_why 10 = .ok (.ireturn, 1) := by decide +kernel
theorem dX8_why_11 : decode cX8_why 11 = .ok (.aload_n 0, 1) := by decide +kernel
theorem dX8_why_12 : decode cX8_why 12 = .ok (.iload_n 1, 1) := by decide +kernel
theorem dX8_why_13 : decode cX8_why 13 = .ok (.iload_n 3, 1) := by decide +kernel
theorem dX8_why_14 : decode cX8_why 14 = .ok (.invokestatic 73, 3) := by decide +kernel
theorem dX8_why_17 : decode cX8_why 17 = .ok (.ifCond .eq 5, 3) := by decide +kernel
theorem dX8_why_20 : decode cX8_why 20 = .ok (.iconst 2, 1) := by decide +kernel
theorem dX8_why_21 : decode cX8_why 21 = .ok (.ireturn, 1) := by decide +kernel
theorem dX8_why_22 : decode cX8_why 22 = .ok (.aload_n 0, 1) := by decide +kernel
theorem dX8_why_23 : decode cX8_why 23 = .ok (.iload_n 2, 1) := by decide +kernel
theorem dX8_why_24 : decode cX8_why 24 = .ok (.iload_n 3, 1) := by decide +kernel
theorem dX8_why_25 : decode cX8_why 25 = .ok (.invokestatic 76, 3) := by decide +kernel
theorem dX8_why_28 : decode cX8_why 28 = .ok (.ifCond .eq 5, 3) := by decide +kernel
theorem dX8_why_31 : decode cX8_why 31 = .ok (.iconst 3, 1) := by decide +kernel
theorem dX8_why_32 : decode cX8_why 32 = .ok (.ireturn, 1) := by decide +kernel
theorem dX8_why_33 : decode cX8_why 33 = .ok (.aload_n 0, 1) := by decide +kernel
theorem dX8_why_34 : decode cX8_why 34 = .ok (.iload_n 1, 1) := by decide +kernel
theorem dX8_why_35 : decode cX8_why 35 = .ok (.iload_n 3, 1) := by decide +kernel
theorem dX8_why_36 : decode cX8_why 36 = .ok (.invokestatic 79, 3) := by decide +kernel
theorem dX8_why_39 : decode cX8_why 39 = .ok (.aload_n 0, 1) := by decide +kernel
theorem dX8_why_40 : decode cX8_why 40 = .ok (.iload_n 1, 1) := by decide +kernel
theorem dX8_why_41 : decode cX8_why 41 = .ok (.iconst 0, 1) := by decide +kernel
theorem dX8_why_42 : decode cX8_why 42 = .ok (.invokestatic 55, 3) := by decide +kernel
theorem dX8_why_45 : decode cX8_why 45 = .ok (.iaload, 1) := by decide +kernel
theorem dX8_why_46 : decode cX8_why 46 = .ok (.if_icmp .le 5, 3) := by decide +kernel
theorem dX8_why_49 : decode cX8_why 49 = .ok (.iconst 4, 1) := by decide +kernel
theorem dX8_why_50 : decode cX8_why 50 = .ok (.ireturn, 1) := by decide +kernel
theorem dX8_why_51 : decode cX8_why 51 = .ok (.aload_n 0, 1) := by decide +kernel
theorem dX8_why_52 : decode cX8_why 52 = .ok (.iload_n 1, 1) := by decide +kernel
theorem dX8_why_53 : decode cX8_why 53 = .ok (.iload_n 2, 1) := by decide +kernel
theorem dX8_why_54 : decode cX8_why 54 = .ok (.iload_n 3, 1) := by decide +kernel
theorem dX8_why_55 : decode cX8_why 55 = .ok (.iload 4, 2) := by decide +kernel
theorem dX8_why_57 : decode cX8_why 57 = .ok (.invokestatic 83, 3) := by decide +kernel
theorem dX8_why_60 : decode cX8_why 60 = .ok (.ifCond .eq 5, 3) := by decide +kernel
theorem dX8_why_63 : decode cX8_why 63 = .ok (.iconst 5, 1) := by decide +kernel
theorem dX8_why_64 : decode cX8_why 64 = .ok (.ireturn, 1) := by decide +kernel
theorem dX8_why_65 : decode cX8_why 65 = .ok (.aload_n 0, 1) := by decide +kernel
theorem dX8_why_66 : decode cX8_why 66 = .ok (.iload_n 1, 1) := by decide +kernel
theorem dX8_why_67 : decode cX8_why 67 = .ok (.iload_n 3, 1) := by decide +kernel
theorem dX8_why_68 : decode cX8_why 68 = .ok (.iload 4, 2) := by decide +kernel
theorem dX8_why_70 : decode cX8_why 70 = .ok (.invokestatic 87, 3) := by decide +kernel
theorem dX8_why_73 : decode cX8_why 73 = .ok (.ifCond .eq 6, 3) := by decide +kernel
theorem dX8_why_76 : decode cX8_why 76 = .ok (.bipush 6, 2) := by decide +kernel
theorem dX8_why_78 : decode cX8_why 78 = .ok (.ireturn, 1) := by decide +kernel
theorem dX8_why_79 : decode cX8_why 79 = .ok (.aload_n 0, 1) := by decide +kernel
theorem dX8_why_80 : decode cX8_why 80 = .ok (.iload_n 3, 1) := by decide +kernel
theorem dX8_why_81 : decode cX8_why 81 = .ok (.iload 4, 2) := by decide +kernel
theorem dX8_why_83 : decode cX8_why 83 = .ok (.invokestatic 90, 3) := by decide +kernel
theorem dX8_why_86 : decode cX8_why 86 = .ok (.iconst (-1), 1) := by decide +kernel
theorem dX8_why_87 : decode cX8_why 87 = .ok (.if_icmp .ne 8, 3) := by decide +kernel
theorem dX8_why_90 : decode cX8_why 90 = .ok (.bipush 7, 2) := by decide +kernel
theorem dX8_why_92 : decode cX8_why 92 = .ok (.goto 17, 3) := by decide +kernel
theorem dX8_why_95 : decode cX8_why 95 = .ok (.aload_n 0, 1) := by decide +kernel
theorem dX8_why_96 : decode cX8_why 96 = .ok (.iconst 2, 1) := by decide +kernel
theorem dX8_why_97 : decode cX8_why 97 = .ok (.iaload, 1) := by decide +kernel
theorem dX8_why_98 : decode cX8_why 98 = .ok (.bipush 24, 2) := by decide +kernel
theorem dX8_why_100 : decode cX8_why 100 = .ok (.if_icmp .ne 8, 3) := by decide +kernel
theorem dX8_why_103 : decode cX8_why 103 = .ok (.bipush 8, 2) := by decide +kernel
theorem dX8_why_105 : decode cX8_why 105 = .ok (.goto 4, 3) := by decide +kernel
theorem dX8_why_108 : decode cX8_why 108 = .ok (.iconst 0, 1) := by decide +kernel
theorem dX8_why_109 : decode cX8_why 109 = .ok (.ireturn, 1) := by decide +kernel
set_option maxRecDepth 20000 in
theorem ggX8_isBehind_X8_bookingAt : GoodIn wsX8_isBehind wsX8_bookingAt := goodIn_r _ [4] (by decide +kernel) (by decide +kernel)
set_option maxRecDepth 20000 in
theorem gX8_isBehind_X8_bookingAt : GoodIn wsX8_isBehind (va_wsS RX8 62 yX8_bookingAt wsX8_bookingAt) := goodIn_app (goodIn_of _ (by decide +kernel)) ggX8_isBehind_X8_bookingAt
theorem dX8_isBehind_0 : decode cX8_isBehind 0 = .ok (.aload_n 0, 1) := by decide +kernel
theorem dX8_isBehind_1 : decode cX8_isBehind 1 = .ok (.iload_n 1, 1) := by decide +kernel
theorem dX8_isBehind_2 : decode cX8_isBehind 2 = .ok (.iconst 0, 1) := by decide +kernel
theorem dX8_isBehind_3 : decode cX8_isBehind 3 = .ok (.invokestatic 62, 3) := by decide +kernel
theorem dX8_isBehind_6 : decode cX8_isBehind 6 = .ok (.iaload, 1) := by decide +kernel
theorem dX8_isBehind_7 : decode cX8_isBehind 7 = .ok (.iload_n 2, 1) := by decide +kernel
theorem dX8_isBehind_8 : decode cX8_isBehind 8 = .ok (.isub, 1) := by decide +kernel
theorem dX8_isBehind_9 : decode cX8_isBehind 9 = .ok (.istore 5, 2) := by decide +kernel
theorem dX8_isBehind_11 : decode cX8_isBehind 11 = .ok (.aload_n 0, 1) := by decide +kernel
theorem dX8_isBehind_12 : decode cX8_isBehind 12 = .ok (.iload_n 1, 1) := by decide +kernel
theorem dX8_isBehind_13 : decode cX8_isBehind 13 = .ok (.iconst 1, 1) := by decide +kernel
theorem dX8_isBehind_14 : decode cX8_isBehind 14 = .ok (.invokestatic 62, 3) := by decide +kernel
theorem dX8_isBehind_17 : decode cX8_isBehind 17 = .ok (.iaload, 1) := by decide +kernel
theorem dX8_isBehind_18 : decode cX8_isBehind 18 = .ok (.iload_n 3, 1) := by decide +kernel
theorem dX8_isBehind_19 : decode cX8_isBehind 19 = .ok (.isub, 1) := by decide +kernel
theorem dX8_isBehind_20 : decode cX8_isBehind 20 = .ok (.istore 6, 2) := by decide +kernel
theorem dX8_isBehind_22 : decode cX8_isBehind 22 = .ok (.iload 5, 2) := by decide +kernel
theorem dX8_isBehind_24 : decode cX8_isBehind 24 = .ok (.ifCond .gt 30, 3) := by decide +kernel
theorem dX8_isBehind_27 : decode cX8_isBehind 27 = .ok (.iload 5, 2) := by decide +kernel
theorem dX8_isBehind_29 : decode cX8_isBehind 29 = .ok (.ifCond .ne 29, 3) := by decide +kernel
theorem dX8_isBehind_32 : decode cX8_isBehind 32 = .ok (.iload 6, 2) := by decide +kernel
theorem dX8_isBehind_34 : decode cX8_isBehind 34 = .ok (.ifCond .gt 20, 3) := by decide +kernel
theorem dX8_isBehind_37 : decode cX8_isBehind 37 = .ok (.iload 6, 2) := by decide +kernel
theorem dX8_isBehind_39 : decode cX8_isBehind 39 = .ok (.ifCond .ne 19, 3) := by decide +kernel
theorem dX8_isBehind_42 : decode cX8_isBehind 42 = .ok (.aload_n 0, 1) := by decide +kernel
theorem dX8_isBehind_43 : decode cX8_isBehind 43 = .ok (.iload_n 1, 1) := by decide +kernel
theorem dX8_isBehind_44 : decode cX8_isBehind 44 = .ok (.iconst 2, 1) := by decide +kernel
theorem dX8_isBehind_45 : decode cX8_isBehind 45 = .ok (.invokestatic 62, 3) := by decide +kernel
theorem dX8_isBehind_48 : decode cX8_isBehind 48 = .ok (.iaload, 1) := by decide +kernel
theorem dX8_isBehind_49 : decode cX8_isBehind 49 = .ok (.iload 4, 2) := by decide +kernel
theorem dX8_isBehind_51 : decode cX8_isBehind 51 = .ok (.if_icmp .le 7, 3) := by decide +kernel
theorem dX8_isBehind_54 : decode cX8_isBehind 54 = .ok (.iconst 1, 1) := by decide +kernel
theorem dX8_isBehind_55 : decode cX8_isBehind 55 = .ok (.goto 4, 3) := by decide +kernel
theorem dX8_isBehind_58 : decode cX8_isBehind 58 = .ok (.iconst 0, 1) := by decide +kernel
theorem dX8_isBehind_59 : decode cX8_isBehind 59 = .ok (.ireturn, 1) := by decide +kernel
set_option maxRecDepth 20000 in
theorem ggX8_bookIn_X8_freeBooth : GoodIn wsX8_bookIn wsX8_freeBooth := goodIn_r _ [4, 5, 6, 3, 7, 8, 9, 10] (by decide +kernel) (by decide +kernel)
set_option maxRecDepth 20000 in
theorem gX8_bookIn_X8_freeBooth : GoodIn wsX8_bookIn (va_wsS RX8 90 yX8_freeBooth wsX8_freeBooth) := goodIn_app (goodIn_of _ (by decide +kernel)) ggX8_bookIn_X8_freeBooth
set_option maxRecDepth 20000 in
theorem ggX8_bookIn_X8_isBehind : GoodIn wsX8_bookIn wsX8_isBehind := goodIn_r _ [13, 8, 9, 3, 10] (by decide +kernel) (by decide +kernel)
set_option maxRecDepth 20000 in
theorem gX8_bookIn_X8_isBehind : GoodIn wsX8_bookIn (va_wsS RX8 93 yX8_isBehind wsX8_isBehind) := goodIn_app (goodIn_of _ (by decide +kernel)) ggX8_bookIn_X8_isBehind
set_option maxRecDepth 20000 in
theorem ggX8_bookIn_X8_bookingAt : GoodIn wsX8_bookIn wsX8_bookingAt := goodIn_r _ [10] (by decide +kernel) (by decide +kernel)
set_option maxRecDepth 20000 in
theorem gX8_bookIn_X8_bookingAt : GoodIn wsX8_bookIn (va_wsS RX8 62 yX8_bookingAt wsX8_bookingAt) := goodIn_app (goodIn_of _ (by decide +kernel)) ggX8_bookIn_X8_bookingAt
set_option maxRecDepth 20000 in
theorem ggX8_bookIn_X8_copy : GoodIn wsX8_bookIn wsX8_copy := goodIn_r _ [16] (by decide +kernel) (by decide +kernel)
set_option maxRecDepth 20000 in
theorem gX8_bookIn_X8_copy : GoodIn wsX8_bookIn (va_wsS RX8 48 yX8_copy wsX8_copy) := goodIn_app (goodIn_of _ (by decide +kernel)) ggX8_bookIn_X8_copy
theorem dX8_bookIn_0 : decode cX8_bookIn 0 = .ok (.aload_n 0, 1) := by decide +kernel
theorem dX8_bookIn_1 : decode cX8_bookIn 1 = .ok (.iload_n 3, 1) := by decide +kernel
theorem dX8_bookIn_2 : decode cX8_bookIn 2 = .ok (.iload 4, 2) := by decide +kernel
theorem dX8_bookIn_4 : decode cX8_bookIn 4 = .ok (.invokestatic 90, 3) := by decide +kernel
theorem dX8_bookIn_7 : decode cX8_bookIn 7 = .ok (.istore 5, 2) := by decide +kernel
theorem dX8_bookIn_9 : decode cX8_bookIn 9 = .ok (.aload_n 0, 1) := by decide +kernel
theorem dX8_bookIn_10 : decode cX8_bookIn 10 = .ok (.iconst 2, 1) := by decide +kernel
theorem dX8_bookIn_11 : decode cX8_bookIn 11 = .ok (.iaload, 1) := by decide +kernel
theorem dX8_bookIn_12 : decode cX8_bookIn 12 = .ok (.istore 6, 2) := by decide +kernel
theorem dX8_bookIn_14 : decode cX8_bookIn 14 = .ok (.iload 6, 2) := by decide +kernel
theorem dX8_bookIn_16 : decode cX8_bookIn 16 = .ok (.ifCond .le 46, 3) := by decide +kernel
theorem dX8_bookIn_19 : decode cX8_bookIn 19 = .ok (.aload_n 0, 1) := by decide +kernel
theorem dX8_bookIn_20 : decode cX8_bookIn 20 = .ok (.iload 6, 2) := by decide +kernel
theorem dX8_bookIn_22 : decode cX8_bookIn 22 = .ok (.iconst 1, 1) := by decide +kernel
theorem dX8_bookIn_23 : decode cX8_bookIn 23 = .ok (.isub, 1) := by decide +kernel
theorem dX8_bookIn_24 : decode cX8_bookIn 24 = .ok (.iload_n 3, 1) := by decide +kernel
theorem dX8_bookIn_25 : decode cX8_bookIn 25 = .ok (.iload 4, 2) := by decide +kernel
theorem dX8_bookIn_27 : decode cX8_bookIn 27 = .ok (.iload 5, 2) := by decide +kernel
theorem dX8_bookIn_29 : decode cX8_bookIn 29 = .ok (.invokestatic 93, 3) := by decide +kernel
theorem dX8_bookIn_32 : decode cX8_bookIn 32 = .ok (.ifCond .eq 30, 3) := by decide +kernel
theorem dX8_bookIn_35 : decode cX8_bookIn 35 = .ok (.aload_n 0, 1) := by decide +kernel
theorem dX8_bookIn_36 : decode cX8_bookIn 36 = .ok (.iload 6, 2) := by decide +kernel
theorem dX8_bookIn_38 : decode cX8_bookIn 38 = .ok (.iconst 1, 1) := by decide +kernel
theorem dX8_bookIn_39 : decode cX8_bookIn 39 = .ok (.isub, 1) := by decide +kernel
theorem dX8_bookIn_40 : decode cX8_bookIn 40 = .ok (.iconst 0, 1) := by decide +kernel
theorem dX8_bookIn_41 : decode cX8_bookIn 41 = .ok (.invokestatic 62, 3) := by decide +kernel
theorem dX8_bookIn_44 : decode cX8_bookIn 44 = .ok (.aload_n 0, 1) := by decide +kernel
theorem dX8_bookIn_45 : decode cX8_bookIn 45 = .ok (.iload 6, 2) := by decide +kernel
theorem dX8_bookIn_47 : decode cX8_bookIn 47 = .ok (.iconst 0, 1) := by decide +kernel
theorem dX8_bookIn_48 : decode cX8_bookIn 48 = .ok (.invokestatic 62, 3) := by decide +kernel
theorem dX8_bookIn_51 : decode cX8_bookIn 51 = .ok (.bipush 7, 2) := by decide +kernel
theorem dX8_bookIn_53 : decode cX8_bookIn 53 = .ok (.invokestatic 48, 3) := by decide +kernel
theorem dX8_bookIn_56 : decode cX8_bookIn 56 = .ok (.iinc 6 (-1), 3) := by decide +kernel
theorem dX8_bookIn_59 : decode cX8_bookIn 59 = .ok (.goto (-45), 3) := by decide +kernel
theorem dX8_bookIn_62 : decode cX8_bookIn 62 = .ok (.aload_n 0, 1) := by decide +kernel
theorem dX8_bookIn_63 : decode cX8_bookIn 63 = .ok (.iload 6, 2) := by decide +kernel
theorem dX8_bookIn_65 : decode cX8_bookIn 65 = .ok (.iconst 0, 1) := by decide +kernel
theorem dX8_bookIn_66 : decode cX8_bookIn 66 = .ok (.invokestatic 62, 3) := by decide +kernel
theorem dX8_bookIn_69 : decode cX8_bookIn 69 = .ok (.iload_n 3, 1) := by decide +kernel
theorem dX8_bookIn_70 : decode cX8_bookIn 70 = .ok (.iastore, 1) := by decide +kernel
theorem dX8_bookIn_71 : decode cX8_bookIn 71 = .ok (.aload_n 0, 1) := by decide +kernel
theorem dX8_bookIn_72 : decode cX8_bookIn 72 = .ok (.iload 6, 2) := by decide +kernel
theorem dX8_bookIn_74 : decode cX8_bookIn 74 = .ok (.iconst 1, 1) := by decide +kernel
theorem dX8_bookIn_75 : decode cX8_bookIn 75 = .ok (.invokestatic 62, 3) := by decide +kernel
theorem dX8_bookIn_78 : decode cX8_bookIn 78 = .ok (.iload 4, 2) := by decide +kernel
theorem dX8_bookIn_80 : decode cX8_bookIn 80 = .ok (.iastore, 1) := by decide +kernel
theorem dX8_bookIn_81 : decode cX8_bookIn 81 = .ok (.aload_n 0, 1) := by decide +kernel
theorem dX8_bookIn_82 : decode cX8_bookIn 82 = .ok (.iload 6, 2) := by decide +kernel
theorem dX8_bookIn_84 : decode cX8_bookIn 84 = .ok (.iconst 2, 1) := by decide +kernel
theorem dX8_bookIn_85 : decode cX8_bookIn 85 = .ok (.invokestatic 62, 3) := by decide +kernel
theorem dX8_bookIn_88 : decode cX8_bookIn 88 = .ok (.iload 5, 2) := by decide +kernel
theorem dX8_bookIn_90 : decode cX8_bookIn 90 = .ok (.iastore, 1) := by decide +kernel
theorem dX8_bookIn_91 : decode cX8_bookIn 91 = .ok (.aload_n 0, 1) := by decide +kernel
theorem dX8_bookIn_92 : decode cX8_bookIn 92 = .ok (.iload 6, 2) := by decide +kernel
theorem dX8_bookIn_94 : decode cX8_bookIn 94 = .ok (.iconst 3, 1) := by decide +kernel
theorem dX8_bookIn_95 : decode cX8_bookIn 95 = .ok (.invokestatic 62, 3) := by decide +kernel
theorem dX8_bookIn_98 : decode cX8_bookIn 98 = .ok (.iload_n 1, 1) := by decide +kernel
theorem dX8_bookIn_99 : decode cX8_bookIn 99 = .ok (.iastore, 1) := by decide +kernel
theorem dX8_bookIn_100 : decode cX8_bookIn 100 = .ok (.aload_n 0, 1) := by decide +kernel
theorem dX8_bookIn_101 : decode cX8_bookIn 101 = .ok (.iload 6, 2) := by decide +kernel
theorem dX8_bookIn_103 : decode cX8_bookIn 103 = .ok (.iconst 4, 1) := by decide +kernel
theorem dX8_bookIn_104 : decode cX8_bookIn 104 = .ok (.invokestatic 62, 3) := by decide +kernel
theorem dX8_bookIn_107 : decode cX8_bookIn 107 = .ok (.iload_n 2, 1) := by decide +kernel
theorem dX8_bookIn_108 : decode cX8_bookIn 108 = .ok (.iastore, 1) := by decide +kernel
theorem dX8_bookIn_109 : decode cX8_bookIn 109 = .ok (.aload_n 0, 1) := by decide +kernel
theorem dX8_bookIn_110 : decode cX8_bookIn 110 = .ok (.iload 6, 2) := by decide +kernel
theorem dX8_bookIn_112 : decode cX8_bookIn 112 = .ok (.iconst 5, 1) := by decide +kernel
theorem dX8_bookIn_113 : decode cX8_bookIn 113 = .ok (.invokestatic 62, 3) := by decide +kernel
theorem dX8_bookIn_116 : decode cX8_bookIn 116 = .ok (.iconst 0, 1) := by decide +kernel
theorem dX8_bookIn_117 : decode cX8_bookIn 117 = .ok (.iastore, 1) := by decide +kernel
theorem dX8_bookIn_118 : decode cX8_bookIn 118 = .ok (.aload_n 0, 1) := by decide +kernel
theorem dX8_bookIn_119 : decode cX8_bookIn 119 = .ok (.iload 6, 2) := by decide +kernel
theorem dX8_bookIn_121 : decode cX8_bookIn 121 = .ok (.bipush 6, 2) := by decide +kernel
theorem dX8_bookIn_123 : decode cX8_bookIn 123 = .ok (.invokestatic 62, 3) := by decide +kernel
theorem dX8_bookIn_126 : decode cX8_bookIn 126 = .ok (.iconst 0, 1) := by decide +kernel
theorem dX8_bookIn_127 : decode cX8_bookIn 127 = .ok (.iastore, 1) := by decide +kernel
theorem dX8_bookIn_128 : decode cX8_bookIn 128 = .ok (.aload_n 0, 1) := by decide +kernel
theorem dX8_bookIn_129 : decode cX8_bookIn 129 = .ok (.iconst 2, 1) := by decide +kernel
theorem dX8_bookIn_130 : decode cX8_bookIn 130 = .ok (.dup2, 1) := by decide +kernel
theorem dX8_bookIn_131 : decode cX8_bookIn 131 = .ok (.iaload, 1) := by decide +kernel
theorem dX8_bookIn_132 : decode cX8_bookIn 132 = .ok (.iconst 1, 1) := by decide +kernel
theorem dX8_bookIn_133 : decode cX8_bookIn 133 = .ok (.iadd, 1) := by decide +kernel
theorem dX8_bookIn_134 : decode cX8_bookIn 134 = .ok (.iastore, 1) := by decide +kernel
theorem dX8_bookIn_135 : decode cX8_bookIn 135 = .ok (.iload 5, 2) := by decide +kernel
theorem dX8_bookIn_137 : decode cX8_bookIn 137 = .ok (.ireturn, 1) := by decide +kernel
set_option maxRecDepth 20000 in
theorem ggX8_cancelIn_X8_bookingAt : GoodIn wsX8_cancelIn wsX8_bookingAt := goodIn_r _ [4] (by decide +kernel) (by decide +kernel)
set_option maxRecDepth 20000 in
theorem gX8_cancelIn_X8_bookingAt : GoodIn wsX8_cancelIn (va_wsS RX8 62 yX8_bookingAt wsX8_bookingAt) := goodIn_app (goodIn_of _ (by decide +kernel)) ggX8_cancelIn_X8_bookingAt
set_option maxRecDepth 20000 in
theorem ggX8_cancelIn_X8_copy : GoodIn wsX8_cancelIn wsX8_copy := goodIn_r _ [7] (by decide +kernel) (by decide +kernel)
set_option maxRecDepth 20000 in
theorem gX8_cancelIn_X8_copy : GoodIn wsX8_cancelIn (va_wsS RX8 48 yX8_copy wsX8_copy) := goodIn_app (goodIn_of _ (by decide +kernel)) ggX8_cancelIn_X8_copy
theorem dX8_cancelIn_0 : decode cX8_cancelIn 0 = .ok (.aload_n 0, 1) := by decide +kernel
theorem dX8_cancelIn_1 : decode cX8_cancelIn 1 = .ok (.iconst 2, 1) := by decide +kernel
theorem dX8_cancelIn_2 : decode cX8_cancelIn 2 = .ok (.dup2, 1) := by decide +kernel
theorem dX8_cancelIn_3 : decode cX8_cancelIn 3 = .ok (.iaload, 1) := by decide +kernel
theorem dX8_cancelIn_4 : decode cX8_cancelIn 4 = .ok (.iconst 1, 1) := by decide +kernel
theorem dX8_cancelIn_5 : decode cX8_cancelIn 5 = .ok (.isub, 1) := by decide +kernel
theorem dX8_cancelIn_6 : decode cX8_cancelIn 6 = .ok (.iastore, 1) := by decide +kernel
theorem dX8_cancelIn_7 : decode cX8_cancelIn 7 = .ok (.iload_n 1, 1) := by decide +kernel
theorem dX8_cancelIn_8 : decode cX8_cancelIn 8 = .ok (.istore_n 2, 1) := by decide +kernel
theorem dX8_cancelIn_9 : decode cX8_cancelIn 9 = .ok (.iload_n 2, 1) := by decide +kernel
theorem dX8_cancelIn_10 : decode cX8_cancelIn 10 = .ok (.aload_n 0, 1) := by decide +kernel
theorem dX8_cancelIn_11 : decode cX8_cancelIn 11 = .ok (.iconst 2, 1) := by decide +kernel
theorem dX8_cancelIn_12 : decode cX8_cancelIn 12 = .ok (.iaload, 1) := by decide +kernel
theorem dX8_cancelIn_13 : decode cX8_cancelIn 13 = .ok (.if_icmp .ge 28, 3) := by decide +kernel
theorem dX8_cancelIn_16 : decode cX8_cancelIn 16 = .ok (.aload_n 0, 1) := by decide +kernel
theorem dX8_cancelIn_17 : decode cX8_cancelIn 17 = .ok (.iload_n 2, 1) := by decide +kernel
theorem dX8_cancelIn_18 : decode cX8_cancelIn 18 = .ok (.iconst 1, 1) := by decide +kernel
theorem dX8_cancelIn_19 : decode cX8_cancelIn 19 = .ok (.iadd, 1) := by decide +kernel
theorem dX8_cancelIn_20 : decode cX8_cancelIn 20 = .ok (.iconst 0, 1) := by decide +kernel
theorem dX8_cancelIn_21 : decode cX8_cancelIn 21 = .ok (.invokestatic 62, 3) := by decide +kernel
theorem dX8_cancelIn_24 : decode cX8_cancelIn 24 = .ok (.aload_n 0, 1) := by decide +kernel
theorem dX8_cancelIn_25 : decode cX8_cancelIn 25 = .ok (.iload_n 2, 1) := by decide +kernel
theorem dX8_cancelIn_26 : decode cX8_cancelIn 26 = .ok (.iconst 0, 1) := by decide +kernel
theorem dX8_cancelIn_27 : decode cX8_cancelIn 27 = .ok (.invokestatic 62, 3) := by decide +kernel
theorem dX8_cancelIn_30 : decode cX8_cancelIn 30 = .ok (.bipush 7, 2) := by decide +kernel
theorem dX8_cancelIn_32 : decode cX8_cancelIn 32 = .ok (.invokestatic 48, 3) := by decide +kernel
theorem dX8_cancelIn_35 : decode cX8_cancelIn 35 = .ok (.iinc 2 1, 3) := by decide +kernel
theorem dX8_cancelIn_38 : decode cX8_cancelIn 38 = .ok (.goto (-29), 3) := by decide +kernel
theorem dX8_cancelIn_41 : decode cX8_cancelIn 41 = .ok (.aload_n 0, 1) := by decide +kernel
theorem dX8_cancelIn_42 : decode cX8_cancelIn 42 = .ok (.iconst 2, 1) := by decide +kernel
theorem dX8_cancelIn_43 : decode cX8_cancelIn 43 = .ok (.iaload, 1) := by decide +kernel
theorem dX8_cancelIn_44 : decode cX8_cancelIn 44 = .ok (.ireturn, 1) := by decide +kernel
set_option maxRecDepth 20000 in
theorem ggX8_firstIn_X8_why : GoodIn wsX8_firstIn wsX8_why := goodIn_r _ [4, 5, 6, 3, 7, 8, 9, 10, 11, 12, 13, 14, 15, 16, 17, 18, 19, 20, 21, 22, 23, 24, 25, 26, 27, 28, 29, 30, 31, 32, 33, 34, 35, 36, 37] (by decide +kernel) (by decide +kernel)
set_option maxRecDepth 20000 in
theorem gX8_firstIn_X8_why : GoodIn wsX8_firstIn (va_wsS RX8 96 yX8_why wsX8_why) := goodIn_app (goodIn_of _ (by decide +kernel)) ggX8_firstIn_X8_why
theorem dX8_firstIn_0 : decode cX8_firstIn 0 = .ok (.aload_n 0, 1) := by decide +kernel
theorem dX8_firstIn_1 : decode cX8_firstIn 1 = .ok (.iconst 0, 1) := by decide +kernel
theorem dX8_firstIn_2 : decode cX8_firstIn 2 = .ok (.iaload, 1) := by decide +kernel
theorem dX8_firstIn_3 : decode cX8_firstIn 3 = .ok (.istore 4, 2) := by decide +kernel
theorem dX8_firstIn_5 : decode cX8_firstIn 5 = .ok (.iload 4, 2) := by decide +kernel
theorem dX8_firstIn_7 : decode cX8_firstIn 7 = .ok (.aload_n 0, 1) := by decide +kernel
theorem dX8_firstIn_8 : decode cX8_firstIn 8 = .ok (.iconst 0, 1) := by decide +kernel
theorem dX8_firstIn_9 : decode cX8_firstIn 9 = .ok (.iaload, 1) := by decide +kernel
theorem dX8_firstIn_10 : decode cX8_firstIn 10 = .ok (.iload_n 3, 1) := by decide +kernel
theorem dX8_firstIn_11 : decode cX8_firstIn 11 = .ok (.iadd, 1) := by decide +kernel
theorem dX8_firstIn_12 : decode cX8_firstIn 12 = .ok (.if_icmp .ge 47, 3) := by decide +kernel
theorem dX8_firstIn_15 : decode cX8_firstIn 15 = .ok (.iconst 0, 1) := by decide +kernel
theorem dX8_firstIn_16 : decode cX8_firstIn 16 = .ok (.istore 5, 2) := by decide +kernel
theorem dX8_firstIn_18 : decode cX8_firstIn 18 = .ok (.iload 5, 2) := by decide +kernel
theorem dX8_firstIn_20 : decode cX8_firstIn 20 = .ok (.bipush 8, 2) := by decide +kernel
theorem dX8_firstIn_22 : decode cX8_firstIn 22 = .ok (.if_icmp .ge 31, 3) := by decide +kernel
theorem dX8_firstIn_25 : decode cX8_firstIn 25 = .ok (.aload_n 0, 1) := by decide +kernel
theorem dX8_firstIn_26 : decode cX8_firstIn 26 = .ok (.iload_n 1, 1) := by decide +kernel
theorem dX8_firstIn_27 : decode cX8_firstIn 27 = .ok (.iload_n 2, 1) := by decide +kernel
theorem dX8_firstIn_28 : decode cX8_firstIn 28 = .ok (.iload 4, 2) := by decide +kernel
theorem dX8_firstIn_30 : decode cX8_firstIn 30 = .ok (.iload 5, 2) := by decide +kernel
theorem dX8_firstIn_32 : decode cX8_firstIn 32 = .ok (.invokestatic 96, 3) := by decide +kernel
theorem dX8_firstIn_35 : decode cX8_firstIn 35 = .ok (.ifCond .ne 12, 3) := by decide +kernel
theorem dX8_firstIn_38 : decode cX8_firstIn 38 = .ok (.bipush 8, 2) := by decide +kernel
theorem dX8_firstIn_40 : decode cX8_firstIn 40 = .ok (.iload 4, 2) := by decide +kernel
theorem dX8_firstIn_42 : decode cX8_firstIn 42 = .ok (.imul, 1) := by decide +kernel
theorem dX8_firstIn_43 : decode cX8_firstIn 43 = .ok (.iload 5, 2) := by decide +kernel
theorem dX8_firstIn_45 : decode cX8_firstIn 45 = .ok (.iadd, 1) := by decide +kernel
theorem dX8_firstIn_46 : decode cX8_firstIn 46 = .ok (.ireturn, 1) := by decide +kernel
theorem dX8_firstIn_47 : decode cX8_firstIn 47 = .ok (.iinc 5 1, 3) := by decide +kernel
theorem dX8_firstIn_50 : decode cX8_firstIn 50 = .ok (.goto (-32), 3) := by decide +kernel
theorem dX8_firstIn_53 : decode cX8_firstIn 53 = .ok (.iinc 4 1, 3) := by decide +kernel
theorem dX8_firstIn_56 : decode cX8_firstIn 56 = .ok (.goto (-51), 3) := by decide +kernel
theorem dX8_firstIn_59 : decode cX8_firstIn 59 = .ok (.iconst (-1), 1) := by decide +kernel
theorem dX8_firstIn_60 : decode cX8_firstIn 60 = .ok (.ireturn, 1) := by decide +kernel
set_option maxRecDepth 20000 in
theorem ggX8_canWish_X8_isListed : GoodIn wsX8_canWish wsX8_isListed := goodIn_r _ [4, 5, 6, 3, 7] (by decide +kernel) (by decide +kernel)
set_option maxRecDepth 20000 in
theorem gX8_canWish_X8_isListed : GoodIn wsX8_canWish (va_wsS RX8 69 yX8_isListed wsX8_isListed) := goodIn_app (goodIn_of _ (by decide +kernel)) ggX8_canWish_X8_isListed
theorem dX8_canWish_0 : decode cX8_canWish 0 = .ok (.aload_n 0, 1) := by decide +kernel
theorem dX8_canWish_1 : decode cX8_canWish 1 = .ok (.iload_n 1, 1) := by decide +kernel
theorem dX8_canWish_2 : decode cX8_canWish 2 = .ok (.iload_n 2, 1) := by decide +kernel
theorem dX8_canWish_3 : decode cX8_canWish 3 = .ok (.invokestatic 69, 3) := by decide +kernel
theorem dX8_canWish_6 : decode cX8_canWish 6 = .ok (.ifCond .eq 15, 3) := by decide +kernel
theorem dX8_canWish_9 : decode cX8_canWish 9 = .ok (.aload_n 0, 1) := by decide +kernel
theorem dX8_canWish_10 : decode cX8_canWish 10 = .ok (.iconst 3, 1) := by decide +kernel
theorem dX8_canWish_11 : decode cX8_canWish 11 = .ok (.iaload, 1) := by decide +kernel
theorem dX8_canWish_12 : decode cX8_canWish 12 = .ok (.bipush 10, 2) := by decide +kernel
theorem dX8_canWish_14 : decode cX8_canWish 14 = .ok (.if_icmp .ge 7, 3) := by decide +kernel
theorem dX8_canWish_17 : decode cX8_canWish 17 = .ok (.iconst 1, 1) := by decide +kernel
theorem dX8_canWish_18 : decode cX8_canWish 18 = .ok (.goto 4, 3) := by decide +kernel
theorem dX8_canWish_21 : decode cX8_canWish 21 = .ok (.iconst 0, 1) := by decide +kernel
theorem dX8_canWish_22 : decode cX8_canWish 22 = .ok (.ireturn, 1) := by decide +kernel
theorem dX8_wishIn_0 : decode cX8_wishIn 0 = .ok (.aload_n 0, 1) := by decide +kernel
theorem dX8_wishIn_1 : decode cX8_wishIn 1 = .ok (.sipush 261, 3) := by decide +kernel
theorem dX8_wishIn_4 : decode cX8_wishIn 4 = .ok (.aload_n 0, 1) := by decide +kernel
theorem dX8_wishIn_5 : decode cX8_wishIn 5 = .ok (.iconst 3, 1) := by decide +kernel
theorem dX8_wishIn_6 : decode cX8_wishIn 6 = .ok (.iaload, 1) := by decide +kernel
theorem dX8_wishIn_7 : decode cX8_wishIn 7 = .ok (.iadd, 1) := by decide +kernel
theorem dX8_wishIn_8 : decode cX8_wishIn 8 = .ok (.bipush 10, 2) := by decide +kernel
theorem dX8_wishIn_10 : decode cX8_wishIn 10 = .ok (.iload_n 1, 1) := by decide +kernel
theorem dX8_wishIn_11 : decode cX8_wishIn 11 = .ok (.imul, 1) := by decide +kernel
theorem dX8_wishIn_12 : decode cX8_wishIn 12 = .ok (.iload_n 2, 1) := by decide +kernel
theorem dX8_wishIn_13 : decode cX8_wishIn 13 = .ok (.iadd, 1) := by decide +kernel
theorem dX8_wishIn_14 : decode cX8_wishIn 14 = .ok (.iastore, 1) := by decide +kernel
theorem dX8_wishIn_15 : decode cX8_wishIn 15 = .ok (.aload_n 0, 1) := by decide +kernel
theorem dX8_wishIn_16 : decode cX8_wishIn 16 = .ok (.iconst 3, 1) := by decide +kernel
theorem dX8_wishIn_17 : decode cX8_wishIn 17 = .ok (.dup2, 1) := by decide +kernel
theorem dX8_wishIn_18 : decode cX8_wishIn 18 = .ok (.iaload, 1) := by decide +kernel
theorem dX8_wishIn_19 : decode cX8_wishIn 19 = .ok (.iconst 1, 1) := by decide +kernel
theorem dX8_wishIn_20 : decode cX8_wishIn 20 = .ok (.iadd, 1) := by decide +kernel
theorem dX8_wishIn_21 : decode cX8_wishIn 21 = .ok (.iastore, 1) := by decide +kernel
theorem dX8_wishIn_22 : decode cX8_wishIn 22 = .ok (.aload_n 0, 1) := by decide +kernel
theorem dX8_wishIn_23 : decode cX8_wishIn 23 = .ok (.iconst 3, 1) := by decide +kernel
theorem dX8_wishIn_24 : decode cX8_wishIn 24 = .ok (.iaload, 1) := by decide +kernel
theorem dX8_wishIn_25 : decode cX8_wishIn 25 = .ok (.ireturn, 1) := by decide +kernel
set_option maxRecDepth 20000 in
theorem ggX8_visitsOf_X8_prisonerAt : GoodIn wsX8_visitsOf wsX8_prisonerAt := goodIn_r _ [4] (by decide +kernel) (by decide +kernel)
set_option maxRecDepth 20000 in
theorem gX8_visitsOf_X8_prisonerAt : GoodIn wsX8_visitsOf (va_wsS RX8 55 yX8_prisonerAt wsX8_prisonerAt) := goodIn_app (goodIn_of _ (by decide +kernel)) ggX8_visitsOf_X8_prisonerAt
theorem dX8_visitsOf_0 : decode cX8_visitsOf 0 = .ok (.aload_n 0, 1) := by decide +kernel
theorem dX8_visitsOf_1 : decode cX8_visitsOf 1 = .ok (.aload_n 0, 1) := by decide +kernel
theorem dX8_visitsOf_2 : decode cX8_visitsOf 2 = .ok (.sipush 261, 3) := by decide +kernel
theorem dX8_visitsOf_5 : decode cX8_visitsOf 5 = .ok (.iload_n 1, 1) := by decide +kernel
theorem dX8_visitsOf_6 : decode cX8_visitsOf 6 = .ok (.iadd, 1) := by decide +kernel
theorem dX8_visitsOf_7 : decode cX8_visitsOf 7 = .ok (.iaload, 1) := by decide +kernel
theorem dX8_visitsOf_8 : decode cX8_visitsOf 8 = .ok (.bipush 10, 2) := by decide +kernel
theorem dX8_visitsOf_10 : decode cX8_visitsOf 10 = .ok (.idiv, 1) := by decide +kernel
theorem dX8_visitsOf_11 : decode cX8_visitsOf 11 = .ok (.iconst 3, 1) := by decide +kernel
theorem dX8_visitsOf_12 : decode cX8_visitsOf 12 = .ok (.invokestatic 55, 3) := by decide +kernel
theorem dX8_visitsOf_15 : decode cX8_visitsOf 15 = .ok (.iaload, 1) := by decide +kernel
theorem dX8_visitsOf_16 : decode cX8_visitsOf 16 = .ok (.ireturn, 1) := by decide +kernel
set_option maxRecDepth 20000 in
theorem ggX8_layTurns_X8_visitsOf : GoodIn wsX8_layTurns wsX8_visitsOf := goodIn_r _ [5, 6, 7, 4, 8] (by decide +kernel) (by decide +kernel)
set_option maxRecDepth 20000 in
theorem gX8_layTurns_X8_visitsOf : GoodIn wsX8_layTurns (va_wsS RX8 100 yX8_visitsOf wsX8_visitsOf) := goodIn_app (goodIn_of _ (by decide +kernel)) ggX8_layTurns_X8_visitsOf
theorem dX8_layTurns_0 : decode cX8_layTurns 0 = .ok (.iconst 0, 1) := by decide +kernel
theorem dX8_layTurns_1 : decode cX8_layTurns 1 = .ok (.istore_n 2, 1) := by decide +kernel
theorem dX8_layTurns_2 : decode cX8_layTurns 2 = .ok (.iload_n 2, 1) := by decide +kernel
theorem dX8_layTurns_3 : decode cX8_layTurns 3 = .ok (.aload_n 1, 1) := by decide +kernel
theorem dX8_layTurns_4 : decode cX8_layTurns 4 = .ok (.iconst 3, 1) := by decide +kernel
theorem dX8_layTurns_5 : decode cX8_layTurns 5 = .ok (.iaload, 1) := by decide +kernel
theorem dX8_layTurns_6 : decode cX8_layTurns 6 = .ok (.if_icmp .ge 62, 3) := by decide +kernel
theorem dX8_layTurns_9 : decode cX8_layTurns 9 = .ok (.iload_n 2, 1) := by decide +kernel
theorem dX8_layTurns_10 : decode cX8_layTurns 10 = .ok (.istore_n 3, 1) := by decide +kernel
theorem dX8_layTurns_11 : decode cX8_layTurns 11 = .ok (.iload_n 3, 1) := by decide +kernel
theorem dX8_layTurns_12 : decode cX8_layTurns 12 = .ok (.ifCond .le 43, 3) := by decide +kernel
theorem dX8_layTurns_15 : decode cX8_layTurns 15 = .ok (.aload_n 1, 1) := by decide +kernel
theorem dX8_layTurns_16 : decode cX8_layTurns 16 = .ok (.aload_n 0, 1) := by decide +kernel
theorem dX8_layTurns_17 : decode cX8_layTurns 17 = .ok (.getfield 32, 3) := by decide +kernel
theorem dX8_layTurns_20 : decode cX8_layTurns 20 = .ok (.iload_n 3, 1) := by decide +kernel
theorem dX8_layTurns_21 : decode cX8_layTurns 21 = .ok (.iconst 1, 1) := by decide +kernel
theorem dX8_layTurns_22 : decode cX8_layTurns 22 = .ok (.isub, 1) := by decide +kernel
theorem dX8_layTurns_23 : decode cX8_layTurns 23 = .ok (.iaload, 1) := by decide +kernel
theorem dX8_layTurns_24 : decode cX8_layTurns 24 = .ok (.invokestatic 100, 3) := by decide +kernel
theorem dX8_layTurns_27 : decode cX8_layTurns 27 = .ok (.aload_n 1, 1) := by decide +kernel
theorem dX8_layTurns_28 : decode cX8_layTurns 28 = .ok (.iload_n 2, 1) := by decide +kernel
theorem dX8_layTurns_29 : decode cX8_layTurns 29 = .ok (.invokestatic 100, 3) := by decide +kernel
theorem dX8_layTurns_32 : decode cX8_layTurns 32 = .ok (.if_icmp .le 23, 3) := by decide +kernel
theorem dX8_layTurns_35 : decode cX8_layTurns 35 = .ok (.aload_n 0, 1) := by decide +kernel
theorem dX8_layTurns_36 : decode cX8_layTurns 36 = .ok (.getfield 32, 3) := by decide +kernel
theorem dX8_layTurns_39 : decode cX8_layTurns 39 = .ok (.iload_n 3, 1) := by decide +kernel
theorem dX8_layTurns_40 : decode cX8_layTurns 40 = .ok (.aload_n 0, 1) := by decide +kernel
theorem dX8_layTurns_41 : decode cX8_layTurns 41 = .ok (.getfield 32, 3) := by decide +kernel
theorem dX8_layTurns_44 : decode cX8_layTurns 44 = .ok (.iload_n 3, 1) := by decide +kernel
theorem dX8_layTurns_45 : decode cX8_layTurns 45 = .ok (.iconst 1, 1) := by decide +kernel
theorem dX8_layTurns_46 : decode cX8_layTurns 46 = .ok (.isub, 1) := by decide +kernel
theorem dX8_layTurns_47 : decode cX8_layTurns 47 = .ok (.iaload, 1) := by decide +kernel
theorem dX8_layTurns_48 : decode cX8_layTurns 48 = .ok (.iastore, 1) := by decide +kernel
theorem dX8_layTurns_49 : decode cX8_layTurns 49 = .ok (.iinc 3 (-1), 3) := by decide +kernel
theorem dX8_layTurns_52 : decode cX8_layTurns 52 = .ok (.goto (-41), 3) := by decide +kernel
theorem dX8_layTurns_55 : decode cX8_layTurns 55 = .ok (.aload_n 0, 1) := by decide +kernel
theorem dX8_layTurns_56 : decode cX8_layTurns 56 = .ok (.getfield 32, 3) := by decide +kernel
theorem dX8_layTurns_59 : decode cX8_layTurns 59 = .ok (.iload_n 3, 1) := by decide +kernel
theorem dX8_layTurns_60 : decode cX8_layTurns 60 = .ok (.iload_n 2, 1) := by decide +kernel
theorem dX8_layTurns_61 : decode cX8_layTurns 61 = .ok (.iastore, 1) := by decide +kernel
theorem dX8_layTurns_62 : decode cX8_layTurns 62 = .ok (.iinc 2 1, 3) := by decide +kernel
theorem dX8_layTurns_65 : decode cX8_layTurns 65 = .ok (.goto (-63), 3) := by decide +kernel
theorem dX8_layTurns_68 : decode cX8_layTurns 68 = .ok (.return_, 1) := by decide +kernel
set_option maxRecDepth 20000 in
theorem ggX8_grant_X8_layTurns : GoodIn wsX8_grant wsX8_layTurns := goodIn_r _ [6, 1, 7, 8, 5, 9, 10, 11, 12, 58, 59, 60, 61, 62, 63, 64, 65, 66, 67, 68, 69, 70, 71, 72, 73, 74] (by decide +kernel) (by decide +kernel)
set_option maxRecDepth 20000 in
theorem gX8_grant_X8_layTurns : GoodIn wsX8_grant (wsV RX8 104 RX8 yX8_layTurns wsX8_layTurns) := goodIn_app (goodIn_of _ (by decide +kernel)) ggX8_grant_X8_layTurns
set_option maxRecDepth 20000 in
theorem ggX8_grant_X8_firstIn : GoodIn wsX8_grant wsX8_firstIn := goodIn_r _ [15, 16, 17, 5, 18, 19, 20, 21, 10, 11, 12, 22, 23, 24, 25, 26, 27, 28, 29, 30, 31, 32, 33, 34, 35, 36, 37, 38, 39, 40, 41, 42, 43, 44, 45, 46, 47, 48] (by decide +kernel) (by decide +kernel)
set_option maxRecDepth 20000 in
theorem gX8_grant_X8_firstIn : GoodIn wsX8_grant (va_wsS RX8 107 yX8_firstIn wsX8_firstIn) := goodIn_app (goodIn_of _ (by decide +kernel)) ggX8_grant_X8_firstIn
set_option maxRecDepth 20000 in
theorem ggX8_grant_X8_bookIn : GoodIn wsX8_grant wsX8_bookIn := goodIn_r _ [51, 46, 47, 5, 48, 40, 41, 42, 34, 35, 36, 52, 53, 54, 55, 56, 57] (by decide +kernel) (by decide +kernel)
set_option maxRecDepth 20000 in
theorem gX8_grant_X8_bookIn : GoodIn wsX8_grant (va_wsS RX8 111 yX8_bookIn wsX8_bookIn) := goodIn_app (goodIn_of _ (by decide +kernel)) ggX8_grant_X8_bookIn
theorem dX8_grant_0 : decode cX8_grant 0 = .ok (.aload_n 0, 1) := by decide +kernel
theorem dX8_grant_1 : decode cX8_grant 1 = .ok (.aload_n 1, 1) := by decide +kernel
theorem dX8_grant_2 : decode cX8_grant 2 = .ok (.invokevirtual 104, 3) := by decide +kernel
theorem dX8_grant_5 : decode cX8_grant 5 = .ok (.aload_n 1, 1) := by decide +kernel
theorem dX8_grant_6 : decode cX8_grant 6 = .ok (.iconst 3, 1) := by decide +kernel
theorem dX8_grant_7 : decode cX8_grant 7 = .ok (.iaload, 1) := by decide +kernel
theorem dX8_grant_8 : decode cX8_grant 8 = .ok (.istore_n 2, 1) := by decide +kernel
theorem dX8_grant_9 : decode cX8_grant 9 = .ok (.iconst 0, 1) := by decide +kernel
theorem dX8_grant_10 : decode cX8_grant 10 = .ok (.istore_n 3, 1) := by decide +kernel
theorem dX8_grant_11 : decode cX8_grant 11 = .ok (.iload_n 3, 1) := by decide +kernel
theorem dX8_grant_12 : decode cX8_grant 12 = .ok (.iload_n 2, 1) := by decide +kernel
theorem dX8_grant_13 : decode cX8_grant 13 = .ok (.if_icmp .ge 85, 3) := by decide +kernel
theorem dX8_grant_16 : decode cX8_grant 16 = .ok (.aload_n 1, 1) := by decide +kernel
theorem dX8_grant_17 : decode cX8_grant 17 = .ok (.sipush 261, 3) := by decide +kernel
theorem dX8_grant_20 : decode cX8_grant 20 = .ok (.aload_n 0, 1) := by decide +kernel
theorem dX8_grant_21 : decode cX8_grant 21 = .ok (.getfield 32, 3) := by decide +kernel
theorem dX8_grant_24 : decode cX8_grant 24 = .ok (.iload_n 3, 1) := by decide +kernel
theorem dX8_grant_25 : decode cX8_grant 25 = .ok (.iaload, 1) := by decide +kernel
theorem dX8_grant_26 : decode cX8_grant 26 = .ok (.iadd, 1) := by decide +kernel
theorem dX8_grant_27 : decode cX8_grant 27 = .ok (.iaload, 1) := by decide +kernel
theorem dX8_grant_28 : decode cX8_grant 28 = .ok (.istore 4, 2) := by decide +kernel
theorem dX8_grant_30 : decode cX8_grant 30 = .ok (.aload_n 1, 1) := by decide +kernel
theorem dX8_grant_31 : decode cX8_grant 31 = .ok (.iload 4, 2) := by decide +kernel
theorem dX8_grant_33 : decode cX8_grant 33 = .ok (.bipush 10, 2) := by decide +kernel
theorem dX8_grant_35 : decode cX8_grant 35 = .ok (.idiv, 1) := by decide +kernel
theorem dX8_grant_36 : decode cX8_grant 36 = .ok (.iload 4, 2) := by decide +kernel
theorem dX8_grant_38 : decode cX8_grant 38 = .ok (.bipush 10, 2) := by decide +kernel
theorem dX8_grant_40 : decode cX8_grant 40 = .ok (.irem, 1) := by decide +kernel
theorem dX8_grant_41 : decode cX8_grant 41 = .ok (.bipush 7, 2) := by decide +kernel
theorem dX8_grant_43 : decode cX8_grant 43 = .ok (.invokestatic 107, 3) := by decide +kernel
theorem dX8_grant_46 : decode cX8_grant 46 = .ok (.istore 5, 2) := by decide +kernel
theorem dX8_grant_48 : decode cX8_grant 48 = .ok (.iload 5, 2) := by decide +kernel
theorem dX8_grant_50 : decode cX8_grant 50 = .ok (.iconst (-1), 1) := by decide +kernel
theorem dX8_grant_51 : decode cX8_grant 51 = .ok (.if_icmp .eq 41, 3) := by decide +kernel
theorem dX8_grant_54 : decode cX8_grant 54 = .ok (.aload_n 1, 1) := by decide +kernel
theorem dX8_grant_55 : decode cX8_grant 55 = .ok (.iload 4, 2) := by decide +kernel
theorem dX8_grant_57 : decode cX8_grant 57 = .ok (.bipush 10, 2) := by decide +kernel
theorem dX8_grant_59 : decode cX8_grant 59 = .ok (.idiv, 1) := by decide +kernel
theorem dX8_grant_60 : decode cX8_grant 60 = .ok (.iload 4, 2) := by decide +kernel
theorem dX8_grant_62 : decode cX8_grant 62 = .ok (.bipush 10, 2) := by decide +kernel
theorem dX8_grant_64 : decode cX8_grant 64 = .ok (.irem, 1) := by decide +kernel
theorem dX8_grant_65 : decode cX8_grant 65 = .ok (.iload 5, 2) := by decide +kernel
theorem dX8_grant_67 : decode cX8_grant 67 = .ok (.bipush 8, 2) := by decide +kernel
theorem dX8_grant_69 : decode cX8_grant 69 = .ok (.idiv, 1) := by decide +kernel
theorem dX8_grant_70 : decode cX8_grant 70 = .ok (.iload 5, 2) := by decide +kernel
theorem dX8_grant_72 : decode cX8_grant 72 = .ok (.bipush 8, 2) := by decide +kernel
theorem dX8_grant_74 : decode cX8_grant 74 = .ok (.irem, 1) := by decide +kernel
theorem dX8_grant_75 : decode cX8_grant 75 = .ok (.invokestatic 111, 3) := by decide +kernel
theorem dX8_grant_78 : decode cX8_grant 78 = .ok (.pop, 1) := by decide +kernel
theorem dX8_grant_79 : decode cX8_grant 79 = .ok (.aload_n 1, 1) := by decide +kernel
theorem dX8_grant_80 : decode cX8_grant 80 = .ok (.sipush 261, 3) := by decide +kernel
theorem dX8_grant_83 : decode cX8_grant 83 = .ok (.aload_n 0, 1) := by decide +kernel
theorem dX8_grant_84 : decode cX8_grant 84 = .ok (.getfield 32, 3) := by decide +kernel
theorem dX8_grant_87 : decode cX8_grant 87 = .ok (.iload_n 3, 1) := by decide +kernel
theorem dX8_grant_88 : decode cX8_grant 88 = .ok (.iaload, 1) := by decide +kernel
theorem dX8_grant_89 : decode cX8_grant 89 = .ok (.iadd, 1) := by decide +kernel
theorem dX8_grant_90 : decode cX8_grant 90 = .ok (.iconst (-1), 1) := by decide +kernel
theorem dX8_grant_91 : decode cX8_grant 91 = .ok (.iastore, 1) := by decide +kernel
theorem dX8_grant_92 : decode cX8_grant 92 = .ok (.iinc 3 1, 3) := by decide +kernel
theorem dX8_grant_95 : decode cX8_grant 95 = .ok (.goto (-84), 3) := by decide +kernel
theorem dX8_grant_98 : decode cX8_grant 98 = .ok (.aload_n 1, 1) := by decide +kernel
theorem dX8_grant_99 : decode cX8_grant 99 = .ok (.iconst 3, 1) := by decide +kernel
theorem dX8_grant_100 : decode cX8_grant 100 = .ok (.iconst 0, 1) := by decide +kernel
theorem dX8_grant_101 : decode cX8_grant 101 = .ok (.iastore, 1) := by decide +kernel
theorem dX8_grant_102 : decode cX8_grant 102 = .ok (.iconst 0, 1) := by decide +kernel
theorem dX8_grant_103 : decode cX8_grant 103 = .ok (.istore_n 3, 1) := by decide +kernel
theorem dX8_grant_104 : decode cX8_grant 104 = .ok (.iload_n 3, 1) := by decide +kernel
theorem dX8_grant_105 : decode cX8_grant 105 = .ok (.iload_n 2, 1) := by decide +kernel
theorem dX8_grant_106 : decode cX8_grant 106 = .ok (.if_icmp .ge 43, 3) := by decide +kernel
theorem dX8_grant_109 : decode cX8_grant 109 = .ok (.aload_n 1, 1) := by decide +kernel
theorem dX8_grant_110 : decode cX8_grant 110 = .ok (.sipush 261, 3) := by decide +kernel
theorem dX8_grant_113 : decode cX8_grant 113 = .ok (.iload_n 3, 1) := by decide +kernel
theorem dX8_grant_114 : decode cX8_grant 114 = .ok (.iadd, 1) := by decide +kernel
theorem dX8_grant_115 : decode cX8_grant 115 = .ok (.iaload, 1) := by decide +kernel
theorem dX8_grant_116 : decode cX8_grant 116 = .ok (.iconst (-1), 1) := by decide +kernel
theorem dX8_grant_117 : decode cX8_grant 117 = .ok (.if_icmp .eq 26, 3) := by decide +kernel
theorem dX8_grant_120 : decode cX8_grant 120 = .ok (.aload_n 1, 1) := by decide +kernel
theorem dX8_grant_121 : decode cX8_grant 121 = .ok (.sipush 261, 3) := by decide +kernel
theorem dX8_grant_124 : decode cX8_grant 124 = .ok (.aload_n 1, 1) := by decide +kernel
theorem dX8_grant_125 : decode cX8_grant 125 = .ok (.iconst 3, 1) := by decide +kernel
theorem dX8_grant_126 : decode cX8_grant 126 = .ok (.iaload, 1) := by decide +kernel
theorem dX8_grant_127 : decode cX8_grant 127 = .ok (.iadd, 1) := by decide +kernel
theorem dX8_grant_128 : decode cX8_grant 128 = .ok (.aload_n 1, 1) := by decide +kernel
theorem dX8_grant_129 : decode cX8_grant 129 = .ok (.sipush 261, 3) := by decide +kernel
theorem dX8_grant_132 : decode cX8_grant 132 = .ok (.iload_n 3, 1) := by decide +kernel
theorem dX8_grant_133 : decode cX8_grant 133 = .ok (.iadd, 1) := by decide +kernel
theorem dX8_grant_134 : decode cX8_grant 134 = .ok (.iaload, 1) := by decide +kernel
theorem dX8_grant_135 : decode cX8_grant 135 = .ok (.iastore, 1) := by decide +kernel
theorem dX8_grant_136 : decode cX8_grant 136 = .ok (.aload_n 1, 1) := by decide +kernel
theorem dX8_grant_137 : decode cX8_grant 137 = .ok (.iconst 3, 1) := by decide +kernel
theorem dX8_grant_138 : decode cX8_grant 138 = .ok (.dup2, 1) := by decide +kernel
theorem dX8_grant_139 : decode cX8_grant 139 = .ok (.iaload, 1) := by decide +kernel
theorem dX8_grant_140 : decode cX8_grant 140 = .ok (.iconst 1, 1) := by decide +kernel
theorem dX8_grant_141 : decode cX8_grant 141 = .ok (.iadd, 1) := by decide +kernel
theorem dX8_grant_142 : decode cX8_grant 142 = .ok (.iastore, 1) := by decide +kernel
theorem dX8_grant_143 : decode cX8_grant 143 = .ok (.iinc 3 1, 3) := by decide +kernel
theorem dX8_grant_146 : decode cX8_grant 146 = .ok (.goto (-42), 3) := by decide +kernel
theorem dX8_grant_149 : decode cX8_grant 149 = .ok (.return_, 1) := by decide +kernel
set_option maxRecDepth 20000 in
theorem ggX8_ban_X8_visitorAt : GoodIn wsX8_ban wsX8_visitorAt := goodIn_r _ [4] (by decide +kernel) (by decide +kernel)
set_option maxRecDepth 20000 in
theorem gX8_ban_X8_visitorAt : GoodIn wsX8_ban (va_wsS RX8 59 yX8_visitorAt wsX8_visitorAt) := goodIn_app (goodIn_of _ (by decide +kernel)) ggX8_ban_X8_visitorAt
theorem dX8_ban_0 : decode cX8_ban 0 = .ok (.aload_n 0, 1) := by decide +kernel
theorem dX8_ban_1 : decode cX8_ban 1 = .ok (.iconst 0, 1) := by decide +kernel
theorem dX8_ban_2 : decode cX8_ban 2 = .ok (.iaload, 1) := by decide +kernel
theorem dX8_ban_3 : decode cX8_ban 3 = .ok (.iconst 1, 1) := by decide +kernel
theorem dX8_ban_4 : decode cX8_ban 4 = .ok (.iadd, 1) := by decide +kernel
theorem dX8_ban_5 : decode cX8_ban 5 = .ok (.aload_n 0, 1) := by decide +kernel
theorem dX8_ban_6 : decode cX8_ban 6 = .ok (.bipush 11, 2) := by decide +kernel
theorem dX8_ban_8 : decode cX8_ban 8 = .ok (.iaload, 1) := by decide +kernel
theorem dX8_ban_9 : decode cX8_ban 9 = .ok (.iadd, 1) := by decide +kernel
theorem dX8_ban_10 : decode cX8_ban 10 = .ok (.istore_n 2, 1) := by decide +kernel
theorem dX8_ban_11 : decode cX8_ban 11 = .ok (.aload_n 0, 1) := by decide +kernel
theorem dX8_ban_12 : decode cX8_ban 12 = .ok (.iload_n 1, 1) := by decide +kernel
theorem dX8_ban_13 : decode cX8_ban 13 = .ok (.iconst 1, 1) := by decide +kernel
theorem dX8_ban_14 : decode cX8_ban 14 = .ok (.invokestatic 59, 3) := by decide +kernel
theorem dX8_ban_17 : decode cX8_ban 17 = .ok (.iload_n 2, 1) := by decide +kernel
theorem dX8_ban_18 : decode cX8_ban 18 = .ok (.aload_n 0, 1) := by decide +kernel
theorem dX8_ban_19 : decode cX8_ban 19 = .ok (.iload_n 1, 1) := by decide +kernel
theorem dX8_ban_20 : decode cX8_ban 20 = .ok (.iconst 1, 1) := by decide +kernel
theorem dX8_ban_21 : decode cX8_ban 21 = .ok (.invokestatic 59, 3) := by decide +kernel
theorem dX8_ban_24 : decode cX8_ban 24 = .ok (.iaload, 1) := by decide +kernel
theorem dX8_ban_25 : decode cX8_ban 25 = .ok (.if_icmp .le 7, 3) := by decide +kernel
theorem dX8_ban_28 : decode cX8_ban 28 = .ok (.iload_n 2, 1) := by decide +kernel
theorem dX8_ban_29 : decode cX8_ban 29 = .ok (.goto 10, 3) := by decide +kernel
theorem dX8_ban_32 : decode cX8_ban 32 = .ok (.aload_n 0, 1) := by decide +kernel
theorem dX8_ban_33 : decode cX8_ban 33 = .ok (.iload_n 1, 1) := by decide +kernel
theorem dX8_ban_34 : decode cX8_ban 34 = .ok (.iconst 1, 1) := by decide +kernel
theorem dX8_ban_35 : decode cX8_ban 35 = .ok (.invokestatic 59, 3) := by decide +kernel
theorem dX8_ban_38 : decode cX8_ban 38 = .ok (.iaload, 1) := by decide +kernel
theorem dX8_ban_39 : decode cX8_ban 39 = .ok (.iastore, 1) := by decide +kernel
theorem dX8_ban_40 : decode cX8_ban 40 = .ok (.return_, 1) := by decide +kernel
set_option maxRecDepth 20000 in
theorem ggX8_strike_X8_visitorAt : GoodIn wsX8_strike wsX8_visitorAt := goodIn_r _ [4] (by decide +kernel) (by decide +kernel)
set_option maxRecDepth 20000 in
theorem gX8_strike_X8_visitorAt : GoodIn wsX8_strike (va_wsS RX8 59 yX8_visitorAt wsX8_visitorAt) := goodIn_app (goodIn_of _ (by decide +kernel)) ggX8_strike_X8_visitorAt
set_option maxRecDepth 20000 in
theorem ggX8_strike_X8_ban : GoodIn wsX8_strike wsX8_ban := goodIn_r _ [7, 1, 2, 3, 4] (by decide +kernel) (by decide +kernel)
set_option maxRecDepth 20000 in
theorem gX8_strike_X8_ban : GoodIn wsX8_strike (va_wsS RX8 114 yX8_ban wsX8_ban) := goodIn_app (goodIn_of _ (by decide +kernel)) ggX8_strike_X8_ban
theorem dX8_strike_0 : decode cX8_strike 0 = .ok (.aload_n 0, 1) := by decide +kernel
theorem dX8_strike_1 : decode cX8_strike 1 = .ok (.iload_n 1, 1) := by decide +kernel
theorem dX8_strike_2 : decode cX8_strike 2 = .ok (.iconst 0, 1) := by decide +kernel
theorem dX8_strike_3 : decode cX8_strike 3 = .ok (.invokestatic 59, 3) := by decide +kernel
theorem dX8_strike_6 : decode cX8_strike 6 = .ok (.dup2, 1) := by decide +kernel
theorem dX8_strike_7 : decode cX8_strike 7 = .ok (.iaload, 1) := by decide +kernel
theorem dX8_strike_8 : decode cX8_strike 8 = .ok (.iconst 1, 1) := by decide +kernel
theorem dX8_strike_9 : decode cX8_strike 9 = .ok (.iadd, 1) := by decide +kernel
theorem dX8_strike_10 : decode cX8_strike 10 = .ok (.iastore, 1) := by decide +kernel
theorem dX8_strike_11 : decode cX8_strike 11 = .ok (.aload_n 0, 1) := by decide +kernel
theorem dX8_strike_12 : decode cX8_strike 12 = .ok (.iload_n 1, 1) := by decide +kernel
theorem dX8_strike_13 : decode cX8_strike 13 = .ok (.iconst 0, 1) := by decide +kernel
theorem dX8_strike_14 : decode cX8_strike 14 = .ok (.invokestatic 59, 3) := by decide +kernel
theorem dX8_strike_17 : decode cX8_strike 17 = .ok (.iaload, 1) := by decide +kernel
theorem dX8_strike_18 : decode cX8_strike 18 = .ok (.iconst 3, 1) := by decide +kernel
theorem dX8_strike_19 : decode cX8_strike 19 = .ok (.if_icmp .ne 16, 3) := by decide +kernel
theorem dX8_strike_22 : decode cX8_strike 22 = .ok (.aload_n 0, 1) := by decide +kernel
theorem dX8_strike_23 : decode cX8_strike 23 = .ok (.iload_n 1, 1) := by decide +kernel
theorem dX8_strike_24 : decode cX8_strike 24 = .ok (.iconst 0, 1) := by decide +kernel
theorem dX8_strike_25 : decode cX8_strike 25 = .ok (.invokestatic 59, 3) := by decide +kernel
theorem dX8_strike_28 : decode cX8_strike 28 = .ok (.iconst 0, 1) := by decide +kernel
theorem dX8_strike_29 : decode cX8_strike 29 = .ok (.iastore, 1) := by decide +kernel
theorem dX8_strike_30 : decode cX8_strike 30 = .ok (.aload_n 0, 1) := by decide +kernel
theorem dX8_strike_31 : decode cX8_strike 31 = .ok (.iload_n 1, 1) := by decide +kernel
theorem dX8_strike_32 : decode cX8_strike 32 = .ok (.invokestatic 114, 3) := by decide +kernel
theorem dX8_strike_35 : decode cX8_strike 35 = .ok (.return_, 1) := by decide +kernel
set_option maxRecDepth 20000 in
theorem ggX8_find_X8_ban : GoodIn wsX8_find wsX8_ban := goodIn_r _ [4, 5, 6, 3, 7] (by decide +kernel) (by decide +kernel)
set_option maxRecDepth 20000 in
theorem gX8_find_X8_ban : GoodIn wsX8_find (va_wsS RX8 114 yX8_ban wsX8_ban) := goodIn_app (goodIn_of _ (by decide +kernel)) ggX8_find_X8_ban
set_option maxRecDepth 20000 in
theorem ggX8_find_X8_prisonerAt : GoodIn wsX8_find wsX8_prisonerAt := goodIn_r _ [10] (by decide +kernel) (by decide +kernel)
set_option maxRecDepth 20000 in
theorem gX8_find_X8_prisonerAt : GoodIn wsX8_find (va_wsS RX8 55 yX8_prisonerAt wsX8_prisonerAt) := goodIn_app (goodIn_of _ (by decide +kernel)) ggX8_find_X8_prisonerAt
set_option maxRecDepth 20000 in
theorem ggX8_find_X8_visitorAt : GoodIn wsX8_find wsX8_visitorAt := goodIn_r _ [7] (by decide +kernel) (by decide +kernel)
set_option maxRecDepth 20000 in
theorem gX8_find_X8_visitorAt : GoodIn wsX8_find (va_wsS RX8 59 yX8_visitorAt wsX8_visitorAt) := goodIn_app (goodIn_of _ (by decide +kernel)) ggX8_find_X8_visitorAt
theorem dX8_find_0 : decode cX8_find 0 = .ok (.aload_n 0, 1) := by decide +kernel
theorem dX8_find_1 : decode cX8_find 1 = .ok (.iconst 0, 1) := by decide +kernel
theorem dX8_find_2 : decode cX8_find 2 = .ok (.iaload, 1) := by decide +kernel
theorem dX8_find_3 : decode cX8_find 3 = .ok (.iconst 1, 1) := by decide +kernel
theorem dX8_find_4 : decode cX8_find 4 = .ok (.iadd, 1) := by decide +kernel
theorem dX8_find_5 : decode cX8_find 5 = .ok (.aload_n 0, 1) := by decide +kernel
theorem dX8_find_6 : decode cX8_find 6 = .ok (.bipush 12, 2) := by decide +kernel
theorem dX8_find_8 : decode cX8_find 8 = .ok (.iaload, 1) := by decide +kernel
theorem dX8_find_9 : decode cX8_find 9 = .ok (.iadd, 1) := by decide +kernel
theorem dX8_find_10 : decode cX8_find 10 = .ok (.istore_n 3, 1) := by decide +kernel
theorem dX8_find_11 : decode cX8_find 11 = .ok (.aload_n 0, 1) := by decide +kernel
theorem dX8_find_12 : decode cX8_find 12 = .ok (.iload_n 2, 1) := by decide +kernel
theorem dX8_find_13 : decode cX8_find 13 = .ok (.invokestatic 114, 3) := by decide +kernel
theorem dX8_find_16 : decode cX8_find 16 = .ok (.aload_n 0, 1) := by decide +kernel
theorem dX8_find_17 : decode cX8_find 17 = .ok (.iload_n 1, 1) := by decide +kernel
theorem dX8_find_18 : decode cX8_find 18 = .ok (.iconst 2, 1) := by decide +kernel
theorem dX8_find_19 : decode cX8_find 19 = .ok (.invokestatic 55, 3) := by decide +kernel
theorem dX8_find_22 : decode cX8_find 22 = .ok (.iload_n 3, 1) := by decide +kernel
theorem dX8_find_23 : decode cX8_find 23 = .ok (.aload_n 0, 1) := by decide +kernel
theorem dX8_find_24 : decode cX8_find 24 = .ok (.iload_n 1, 1) := by decide +kernel
theorem dX8_find_25 : decode cX8_find 25 = .ok (.iconst 2, 1) := by decide +kernel
theorem dX8_find_26 : decode cX8_find 26 = .ok (.invokestatic 55, 3) := by decide +kernel
theorem dX8_find_29 : decode cX8_find 29 = .ok (.iaload, 1) := by decide +kernel
theorem dX8_find_30 : decode cX8_find 30 = .ok (.if_icmp .le 7, 3) := by decide +kernel
theorem dX8_find_33 : decode cX8_find 33 = .ok (.iload_n 3, 1) := by decide +kernel
theorem dX8_find_34 : decode cX8_find 34 = .ok (.goto 10, 3) := by decide +kernel
theorem dX8_find_37 : decode cX8_find 37 = .ok (.aload_n 0, 1) := by decide +kernel
theorem dX8_find_38 : decode cX8_find 38 = .ok (.iload_n 1, 1) := by decide +kernel
theorem dX8_find_39 : decode cX8_find 39 = .ok (.iconst 2, 1) := by decide +kernel
theorem dX8_find_40 : decode cX8_find 40 = .ok (.invokestatic 55, 3) := by decide +kernel
theorem dX8_find_43 : decode cX8_find 43 = .ok (.iaload, 1) := by decide +kernel
theorem dX8_find_44 : decode cX8_find 44 = .ok (.iastore, 1) := by decide +kernel
theorem dX8_find_45 : decode cX8_find 45 = .ok (.aload_n 0, 1) := by decide +kernel
theorem dX8_find_46 : decode cX8_find 46 = .ok (.iload_n 2, 1) := by decide +kernel
theorem dX8_find_47 : decode cX8_find 47 = .ok (.iconst 2, 1) := by decide +kernel
theorem dX8_find_48 : decode cX8_find 48 = .ok (.invokestatic 59, 3) := by decide +kernel
theorem dX8_find_51 : decode cX8_find 51 = .ok (.iconst 0, 1) := by decide +kernel
theorem dX8_find_52 : decode cX8_find 52 = .ok (.iastore, 1) := by decide +kernel
theorem dX8_find_53 : decode cX8_find 53 = .ok (.return_, 1) := by decide +kernel
set_option maxRecDepth 20000 in
theorem ggX8_look_X8_bookingAt : GoodIn wsX8_look wsX8_bookingAt := goodIn_r _ [4] (by decide +kernel) (by decide +kernel)
set_option maxRecDepth 20000 in
theorem gX8_look_X8_bookingAt : GoodIn wsX8_look (va_wsS RX8 62 yX8_bookingAt wsX8_bookingAt) := goodIn_app (goodIn_of _ (by decide +kernel)) ggX8_look_X8_bookingAt
set_option maxRecDepth 20000 in
theorem ggX8_look_X8_isLost : GoodIn wsX8_look wsX8_isLost := goodIn_r _ [7, 8, 9, 3, 10] (by decide +kernel) (by decide +kernel)
set_option maxRecDepth 20000 in
theorem gX8_look_X8_isLost : GoodIn wsX8_look (va_wsS RX8 73 yX8_isLost wsX8_isLost) := goodIn_app (goodIn_of _ (by decide +kernel)) ggX8_look_X8_isLost
set_option maxRecDepth 20000 in
theorem ggX8_look_X8_isBanned : GoodIn wsX8_look wsX8_isBanned := goodIn_r _ [13, 14, 15, 3, 16] (by decide +kernel) (by decide +kernel)
set_option maxRecDepth 20000 in
theorem gX8_look_X8_isBanned : GoodIn wsX8_look (va_wsS RX8 76 yX8_isBanned wsX8_isBanned) := goodIn_app (goodIn_of _ (by decide +kernel)) ggX8_look_X8_isBanned
set_option maxRecDepth 20000 in
theorem ggX8_look_X8_visitorAt : GoodIn wsX8_look wsX8_visitorAt := goodIn_r _ [16] (by decide +kernel) (by decide +kernel)
set_option maxRecDepth 20000 in
theorem gX8_look_X8_visitorAt : GoodIn wsX8_look (va_wsS RX8 59 yX8_visitorAt wsX8_visitorAt) := goodIn_app (goodIn_of _ (by decide +kernel)) ggX8_look_X8_visitorAt
set_option maxRecDepth 20000 in
theorem ggX8_look_X8_find : GoodIn wsX8_look wsX8_find := goodIn_r _ [19, 20, 21, 3, 22, 14, 15, 16, 8, 9, 10] (by decide +kernel) (by decide +kernel)
set_option maxRecDepth 20000 in
theorem gX8_look_X8_find : GoodIn wsX8_look (va_wsS RX8 118 yX8_find wsX8_find) := goodIn_app (goodIn_of _ (by decide +kernel)) ggX8_look_X8_find
set_option maxRecDepth 20000 in
theorem ggX8_look_X8_strike : GoodIn wsX8_look wsX8_strike := goodIn_r _ [25, 14, 15, 3, 16, 20, 21, 22] (by decide +kernel) (by decide +kernel)
set_option maxRecDepth 20000 in
theorem gX8_look_X8_strike : GoodIn wsX8_look (va_wsS RX8 122 yX8_strike wsX8_strike) := goodIn_app (goodIn_of _ (by decide +kernel)) ggX8_look_X8_strike
set_option maxRecDepth 20000 in
theorem ggX8_look_X8_prisonerAt : GoodIn wsX8_look wsX8_prisonerAt := goodIn_r _ [10] (by decide +kernel) (by decide +kernel)
set_option maxRecDepth 20000 in
theorem gX8_look_X8_prisonerAt : GoodIn wsX8_look (va_wsS RX8 55 yX8_prisonerAt wsX8_prisonerAt) := goodIn_app (goodIn_of _ (by decide +kernel)) ggX8_look_X8_prisonerAt
theorem dX8_look_0 : decode cX8_look 0 = .ok (.aload_n 0, 1) := by decide +kernel
theorem dX8_look_1 : decode cX8_look 1 = .ok (.iconst 0, 1) := by decide +kernel
theorem dX8_look_2 : decode cX8_look 2 = .ok (.iconst 3, 1) := by decide +kernel
theorem dX8_look_3 : decode cX8_look 3 = .ok (.invokestatic 62, 3) := by decide +kernel
theorem dX8_look_6 : decode cX8_look 6 = .ok (.iaload, 1) := by decide +kernel
theorem dX8_look_7 : decode cX8_look 7 = .ok (.istore_n 1, 1) := by decide +kernel
theorem dX8_look_8 : decode cX8_look 8 = .ok (.aload_n 0, 1) := by decide +kernel
theorem dX8_look_9 : decode cX8_look 9 = .ok (.iconst 0, 1) := by decide +kernel
theorem dX8_look_10 : decode cX8_look 10 = .ok (.iconst 4, 1) := by decide +kernel
theorem dX8_look_11 : decode cX8_look 11 = .ok (.invokestatic 62, 3) := by decide +kernel
theorem dX8_look_14 : decode cX8_look 14 = .ok (.iaload, 1) := by decide +kernel
theorem dX8_look_15 : decode cX8_look 15 = .ok (.istore_n 2, 1) := by decide +kernel
theorem dX8_look_16 : decode cX8_look 16 = .ok (.aload_n 0, 1) := by decide +kernel
theorem dX8_look_17 : decode cX8_look 17 = .ok (.bipush 8, 2) := by decide +kernel
theorem dX8_look_19 : decode cX8_look 19 = .ok (.dup2, 1) := by decide +kernel
theorem dX8_look_20 : decode cX8_look 20 = .ok (.iaload, 1) := by decide +kernel
theorem dX8_look_21 : decode cX8_look 21 = .ok (.iconst 1, 1) := by decide +kernel
theorem dX8_look_22 : decode cX8_look 22 = .ok (.iadd, 1) := by decide +kernel
theorem dX8_look_23 : decode cX8_look 23 = .ok (.iastore, 1) := by decide +kernel
theorem dX8_look_24 : decode cX8_look 24 = .ok (.aload_n 0, 1) := by decide +kernel
theorem dX8_look_25 : decode cX8_look 25 = .ok (.iload_n 1, 1) := by decide +kernel
theorem dX8_look_26 : decode cX8_look 26 = .ok (.aload_n 0, 1) := by decide +kernel
theorem dX8_look_27 : decode cX8_look 27 = .ok (.iconst 0, 1) := by decide +kernel
theorem dX8_look_28 : decode cX8_look 28 = .ok (.iaload, 1) := by decide +kernel
theorem dX8_look_29 : decode cX8_look 29 = .ok (.invokestatic 73, 3) := by decide +kernel
theorem dX8_look_32 : decode cX8_look 32 = .ok (.ifCond .ne 14, 3) := by decide +kernel
theorem dX8_look_35 : decode cX8_look 35 = .ok (.aload_n 0, 1) := by decide +kernel
theorem dX8_look_36 : decode cX8_look 36 = .ok (.iload_n 2, 1) := by decide +kernel
theorem dX8_look_37 : decode cX8_look 37 = .ok (.aload_n 0, 1) := by decide +kernel
theorem dX8_look_38 : decode cX8_look 38 = .ok (.iconst 0, 1) := by decide +kernel
theorem dX8_look_39 : decode cX8_look 39 = .ok (.iaload, 1) := by decide +kernel
theorem dX8_look_40 : decode cX8_look 40 = .ok (.invokestatic 76, 3) := by decide +kernel
theorem dX8_look_43 : decode cX8_look 43 = .ok (.ifCond .eq 5, 3) := by decide +kernel
theorem dX8_look_46 : decode cX8_look 46 = .ok (.iconst 1, 1) := by decide +kernel
theorem dX8_look_47 : decode cX8_look 47 = .ok (.ireturn, 1) := by decide +kernel
theorem dX8_look_48 : decode cX8_look 48 = .ok (.aload_n 0, 1) := by decide +kernel
theorem dX8_look_49 : decode cX8_look 49 = .ok (.bipush 8, 2) := by decide +kernel
theorem dX8_look_51 : decode cX8_look 51 = .ok (.iaload, 1) := by decide +kernel
theorem dX8_look_52 : decode cX8_look 52 = .ok (.aload_n 0, 1) := by decide +kernel
theorem dX8_look_53 : decode cX8_look 53 = .ok (.bipush 10, 2) := by decide +kernel
theorem dX8_look_55 : decode cX8_look 55 = .ok (.iaload, 1) := by decide +kernel
theorem dX8_look_56 : decode cX8_look 56 = .ok (.irem, 1) := by decide +kernel
theorem dX8_look_57 : decode cX8_look 57 = .ok (.ifCond .eq 13, 3) := by decide +kernel
theorem dX8_look_60 : decode cX8_look 60 = .ok (.aload_n 0, 1) := by decide +kernel
theorem dX8_look_61 : decode cX8_look 61 = .ok (.iload_n 2, 1) := by decide +kernel
theorem dX8_look_62 : decode cX8_look 62 = .ok (.iconst 0, 1) := by decide +kernel
theorem dX8_look_63 : decode cX8_look 63 = .ok (.invokestatic 59, 3) := by decide +kernel
theorem dX8_look_66 : decode cX8_look 66 = .ok (.iaload, 1) := by decide +kernel
theorem dX8_look_67 : decode cX8_look 67 = .ok (.ifCond .le 7, 3) := by decide +kernel
theorem dX8_look_70 : decode cX8_look 70 = .ok (.iconst 1, 1) := by decide +kernel
theorem dX8_look_71 : decode cX8_look 71 = .ok (.goto 4, 3) := by decide +kernel
theorem dX8_look_74 : decode cX8_look 74 = .ok (.iconst 0, 1) := by decide +kernel
theorem dX8_look_75 : decode cX8_look 75 = .ok (.istore_n 3, 1) := by decide +kernel
theorem dX8_look_76 : decode cX8_look 76 = .ok (.iload_n 3, 1) := by decide +kernel
theorem dX8_look_77 : decode cX8_look 77 = .ok (.ifCond .eq 22, 3) := by decide +kernel
theorem dX8_look_80 : decode cX8_look 80 = .ok (.aload_n 0, 1) := by decide +kernel
theorem dX8_look_81 : decode cX8_look 81 = .ok (.iload_n 2, 1) := by decide +kernel
theorem dX8_look_82 : decode cX8_look 82 = .ok (.iconst 2, 1) := by decide +kernel
theorem dX8_look_83 : decode cX8_look 83 = .ok (.invokestatic 59, 3) := by decide +kernel
theorem dX8_look_86 : decode cX8_look 86 = .ok (.iaload, 1) := by decide +kernel
theorem dX8_look_87 : decode cX8_look 87 = .ok (.iconst 1, 1) := by decide +kernel
theorem dX8_look_88 : decode cX8_look 88 = .ok (.if_icmp .ne 11, 3) := by decide +kernel
theorem dX8_look_91 : decode cX8_look 91 = .ok (.aload_n 0, 1) := by decide +kernel
theorem dX8_look_92 : decode cX8_look 92 = .ok (.iload_n 1, 1) := by decide +kernel
theorem dX8_look_93 : decode cX8_look 93 = .ok (.iload_n 2, 1) := by decide +kernel
theorem dX8_look_94 : decode cX8_look 94 = .ok (.invokestatic 118, 3) := by decide +kernel
theorem dX8_look_97 : decode cX8_look 97 = .ok (.iconst 2, 1) := by decide +kernel
theorem dX8_look_98 : decode cX8_look 98 = .ok (.ireturn, 1) := by decide +kernel
theorem dX8_look_99 : decode cX8_look 99 = .ok (.aload_n 0, 1) := by decide +kernel
theorem dX8_look_100 : decode cX8_look 100 = .ok (.iconst 0, 1) := by decide +kernel
theorem dX8_look_101 : decode cX8_look 101 = .ok (.iconst 5, 1) := by decide +kernel
theorem dX8_look_102 : decode cX8_look 102 = .ok (.invokestatic 62, 3) := by decide +kernel
theorem dX8_look_105 : decode cX8_look 105 = .ok (.iaload, 1) := by decide +kernel
theorem dX8_look_106 : decode cX8_look 106 = .ok (.iload_n 3, 1) := by decide +kernel
theorem dX8_look_107 : decode cX8_look 107 = .ok (.ifCond .eq 10, 3) := by decide +kernel
theorem dX8_look_110 : decode cX8_look 110 = .ok (.aload_n 0, 1) := by decide +kernel
theorem dX8_look_111 : decode cX8_look 111 = .ok (.bipush 13, 2) := by decide +kernel
theorem dX8_look_113 : decode cX8_look 113 = .ok (.iaload, 1) := by decide +kernel
theorem dX8_look_114 : decode cX8_look 114 = .ok (.goto 4, 3) := by decide +kernel
theorem dX8_look_117 : decode cX8_look 117 = .ok (.iconst 0, 1) := by decide +kernel
theorem dX8_look_118 : decode cX8_look 118 = .ok (.iadd, 1) := by decide +kernel
theorem dX8_look_119 : decode cX8_look 119 = .ok (.aload_n 0, 1) := by decide +kernel
theorem dX8_look_120 : decode cX8_look 120 = .ok (.bipush 14, 2) := by decide +kernel
theorem dX8_look_122 : decode cX8_look 122 = .ok (.iaload, 1) := by decide +kernel
theorem dX8_look_123 : decode cX8_look 123 = .ok (.if_icmp .le 10, 3) := by decide +kernel
theorem dX8_look_126 : decode cX8_look 126 = .ok (.aload_n 0, 1) := by decide +kernel
theorem dX8_look_127 : decode cX8_look 127 = .ok (.iload_n 2, 1) := by decide +kernel
theorem dX8_look_128 : decode cX8_look 128 = .ok (.invokestatic 122, 3) := by decide +kernel
theorem dX8_look_131 : decode cX8_look 131 = .ok (.iconst 3, 1) := by decide +kernel
theorem dX8_look_132 : decode cX8_look 132 = .ok (.ireturn, 1) := by decide +kernel
theorem dX8_look_133 : decode cX8_look 133 = .ok (.aload_n 0, 1) := by decide +kernel
theorem dX8_look_134 : decode cX8_look 134 = .ok (.iload_n 1, 1) := by decide +kernel
theorem dX8_look_135 : decode cX8_look 135 = .ok (.iconst 3, 1) := by decide +kernel
theorem dX8_look_136 : decode cX8_look 136 = .ok (.invokestatic 55, 3) := by decide +kernel
theorem dX8_look_139 : decode cX8_look 139 = .ok (.dup2, 1) := by decide +kernel
theorem dX8_look_140 : decode cX8_look 140 = .ok (.iaload, 1) := by decide +kernel
theorem dX8_look_141 : decode cX8_look 141 = .ok (.iconst 1, 1) := by decide +kernel
theorem dX8_look_142 : decode cX8_look 142 = .ok (.iadd, 1) := by decide +kernel
theorem dX8_look_143 : decode cX8_look 143 = .ok (.iastore, 1) := by decide +kernel
theorem dX8_look_144 : decode cX8_look 144 = .ok (.aload_n 0, 1) := by decide +kernel
theorem dX8_look_145 : decode cX8_look 145 = .ok (.iload_n 1, 1) := by decide +kernel
theorem dX8_look_146 : decode cX8_look 146 = .ok (.iconst 4, 1) := by decide +kernel
theorem dX8_look_147 : decode cX8_look 147 = .ok (.invokestatic 55, 3) := by decide +kernel
theorem dX8_look_150 : decode cX8_look 150 = .ok (.dup2, 1) := by decide +kernel
theorem dX8_look_151 : decode cX8_look 151 = .ok (.iaload, 1) := by decide +kernel
theorem dX8_look_152 : decode cX8_look 152 = .ok (.iconst 1, 1) := by decide +kernel
theorem dX8_look_153 : decode cX8_look 153 = .ok (.iadd, 1) := by decide +kernel
theorem dX8_look_154 : decode cX8_look 154 = .ok (.iastore, 1) := by decide +kernel
theorem dX8_look_155 : decode cX8_look 155 = .ok (.iconst 0, 1) := by decide +kernel
theorem dX8_look_156 : decode cX8_look 156 = .ok (.ireturn, 1) := by decide +kernel
set_option maxRecDepth 20000 in
theorem ggX8_dayIn_X8_grant : GoodIn wsX8_dayIn wsX8_grant := goodIn_r _ [6, 7, 8, 9, 10, 5, 11, 12, 13, 14, 15, 16, 17, 18, 19, 20, 21, 22, 23, 24, 25, 26, 27, 28, 29, 30, 31, 32, 33, 34, 35, 36, 37, 38, 39, 40, 41, 42, 43, 44, 45, 46, 47, 48, 49, 50, 51, 52, 53, 54, 55, 56, 57, 58, 59, 60, 61, 62, 78, 79, 80, 81, 82, 83, 84, 85, 86, 87, 88, 89, 90, 91, 92, 93, 94] (by decide +kernel) (by decide +kernel)
set_option maxRecDepth 20000 in
theorem gX8_dayIn_X8_grant : GoodIn wsX8_dayIn (wsV RX8 125 RX8 yX8_grant wsX8_grant) := goodIn_app (goodIn_of _ (by decide +kernel)) ggX8_dayIn_X8_grant
set_option maxRecDepth 20000 in
theorem ggX8_dayIn_X8_bookingAt : GoodIn wsX8_dayIn wsX8_bookingAt := goodIn_r _ [41] (by decide +kernel) (by decide +kernel)
set_option maxRecDepth 20000 in
theorem gX8_dayIn_X8_bookingAt : GoodIn wsX8_dayIn (va_wsS RX8 62 yX8_bookingAt wsX8_bookingAt) := goodIn_app (goodIn_of _ (by decide +kernel)) ggX8_dayIn_X8_bookingAt
set_option maxRecDepth 20000 in
theorem ggX8_dayIn_X8_look : GoodIn wsX8_dayIn wsX8_look := goodIn_r _ [65, 39, 40, 5, 41, 27, 28, 29, 15, 16, 17, 30, 31, 32, 33, 34, 35, 66, 67, 68, 69, 70, 71, 72, 73, 74] (by decide +kernel) (by decide +kernel)
set_option maxRecDepth 20000 in
theorem gX8_dayIn_X8_look : GoodIn wsX8_dayIn (va_wsS RX8 128 yX8_look wsX8_look) := goodIn_app (goodIn_of _ (by decide +kernel)) ggX8_dayIn_X8_look
set_option maxRecDepth 20000 in
theorem ggX8_dayIn_X8_cancelIn : GoodIn wsX8_dayIn wsX8_cancelIn := goodIn_r _ [77, 39, 40, 5, 41, 60, 61, 62] (by decide +kernel) (by decide +kernel)
set_option maxRecDepth 20000 in
theorem gX8_dayIn_X8_cancelIn : GoodIn wsX8_dayIn (va_wsS RX8 132 yX8_cancelIn wsX8_cancelIn) := goodIn_app (goodIn_of _ (by decide +kernel)) ggX8_dayIn_X8_cancelIn
set_option maxRecDepth 20000 in
theorem ggX8_dayIn_X8_prisonerAt : GoodIn wsX8_dayIn wsX8_prisonerAt := goodIn_r _ [17] (by decide +kernel) (by decide +kernel)
set_option maxRecDepth 20000 in
theorem gX8_dayIn_X8_prisonerAt : GoodIn wsX8_dayIn (va_wsS RX8 55 yX8_prisonerAt wsX8_prisonerAt) := goodIn_app (goodIn_of _ (by decide +kernel)) ggX8_dayIn_X8_prisonerAt
theorem dX8_dayIn_0 : decode cX8_dayIn 0 = .ok (.aload_n 0, 1) := by decide +kernel
theorem dX8_dayIn_1 : decode cX8_dayIn 1 = .ok (.aload_n 1, 1) := by decide +kernel
theorem dX8_dayIn_2 : decode cX8_dayIn 2 = .ok (.invokevirtual 125, 3) := by decide +kernel
theorem dX8_dayIn_5 : decode cX8_dayIn 5 = .ok (.aload_n 1, 1) := by decide +kernel
theorem dX8_dayIn_6 : decode cX8_dayIn 6 = .ok (.iconst 2, 1) := by decide +kernel
theorem dX8_dayIn_7 : decode cX8_dayIn 7 = .ok (.iaload, 1) := by decide +kernel
theorem dX8_dayIn_8 : decode cX8_dayIn 8 = .ok (.ifCond .le 63, 3) := by decide +kernel
theorem dX8_dayIn_11 : decode cX8_dayIn 11 = .ok (.aload_n 1, 1) := by decide +kernel
theorem dX8_dayIn_12 : decode cX8_dayIn 12 = .ok (.iconst 0, 1) := by decide +kernel
theorem dX8_dayIn_13 : decode cX8_dayIn 13 = .ok (.iconst 0, 1) := by decide +kernel
theorem dX8_dayIn_14 : decode cX8_dayIn 14 = .ok (.invokestatic 62, 3) := by decide +kernel
theorem dX8_dayIn_17 : decode cX8_dayIn 17 = .ok (.iaload, 1) := by decide +kernel
theorem dX8_dayIn_18 : decode cX8_dayIn 18 = .ok (.aload_n 1, 1) := by decide +kernel
theorem dX8_dayIn_19 : decode cX8_dayIn 19 = .ok (.iconst 0, 1) := by decide +kernel
theorem dX8_dayIn_20 : decode cX8_dayIn 20 = .ok (.iaload, 1) := by decide +kernel
theorem dX8_dayIn_21 : decode cX8_dayIn 21 = .ok (.if_icmp .ne 50, 3) := by decide +kernel
theorem dX8_dayIn_24 : decode cX8_dayIn 24 = .ok (.aload_n 1, 1) := by decide +kernel
theorem dX8_dayIn_25 : decode cX8_dayIn 25 = .ok (.invokestatic 128, 3) := by decide +kernel
theorem dX8_dayIn_28 : decode cX8_dayIn 28 = .ok (.istore_n 2, 1) := by decide +kernel
theorem dX8_dayIn_29 : decode cX8_dayIn 29 = .ok (.aload_n 0, 1) := by decide +kernel
theorem dX8_dayIn_30 : decode cX8_dayIn 30 = .ok (.aload_n 1, 1) := by decide +kernel
theorem dX8_dayIn_31 : decode cX8_dayIn 31 = .ok (.iconst 0, 1) := by decide +kernel
theorem dX8_dayIn_32 : decode cX8_dayIn 32 = .ok (.bipush 6, 2) := by decide +kernel
theorem dX8_dayIn_34 : decode cX8_dayIn 34 = .ok (.invokestatic 62, 3) := by decide +kernel
theorem dX8_dayIn_37 : decode cX8_dayIn 37 = .ok (.iaload, 1) := by decide +kernel
theorem dX8_dayIn_38 : decode cX8_dayIn 38 = .ok (.iconst 1, 1) := by decide +kernel
theorem dX8_dayIn_39 : decode cX8_dayIn 39 = .ok (.if_icmp .ne 7, 3) := by decide +kernel
theorem dX8_dayIn_42 : decode cX8_dayIn 42 = .ok (.iload_n 2, 1) := by decide +kernel
theorem dX8_dayIn_43 : decode cX8_dayIn 43 = .ok (.goto 7, 3) := by decide +kernel
theorem dX8_dayIn_46 : decode cX8_dayIn 46 = .ok (.aload_n 0, 1) := by decide +kernel
theorem dX8_dayIn_47 : decode cX8_dayIn 47 = .ok (.getfield 52, 3) := by decide +kernel
theorem dX8_dayIn_50 : decode cX8_dayIn 50 = .ok (.putfield 52, 3) := by decide +kernel
theorem dX8_dayIn_53 : decode cX8_dayIn 53 = .ok (.aload_n 1, 1) := by decide +kernel
theorem dX8_dayIn_54 : decode cX8_dayIn 54 = .ok (.iconst 4, 1) := by decide +kernel
theorem dX8_dayIn_55 : decode cX8_dayIn 55 = .ok (.iload_n 2, 1) := by decide +kernel
theorem dX8_dayIn_56 : decode cX8_dayIn 56 = .ok (.iadd, 1) := by decide +kernel
theorem dX8_dayIn_57 : decode cX8_dayIn 57 = .ok (.dup2, 1) := by decide +kernel
theorem dX8_dayIn_58 : decode cX8_dayIn 58 = .ok (.iaload, 1) := by decide +kernel
theorem dX8_dayIn_59 : decode cX8_dayIn 59 = .ok (.iconst 1, 1) := by decide +kernel
theorem dX8_dayIn_60 : decode cX8_dayIn 60 = .ok (.iadd, 1) := by decide +kernel
theorem dX8_dayIn_61 : decode cX8_dayIn 61 = .ok (.iastore, 1) := by decide +kernel
theorem dX8_dayIn_62 : decode cX8_dayIn 62 = .ok (.aload_n 1, 1) := by decide +kernel
theorem dX8_dayIn_63 : decode cX8_dayIn 63 = .ok (.iconst 0, 1) := by decide +kernel
theorem dX8_dayIn_64 : decode cX8_dayIn 64 = .ok (.invokestatic 132, 3) := by decide +kernel
theorem dX8_dayIn_67 : decode cX8_dayIn 67 = .ok (.pop, 1) := by decide +kernel
theorem dX8_dayIn_68 : decode cX8_dayIn 68 = .ok (.goto (-63), 3) := by decide +kernel
theorem dX8_dayIn_71 : decode cX8_dayIn 71 = .ok (.aload_n 1, 1) := by decide +kernel
theorem dX8_dayIn_72 : decode cX8_dayIn 72 = .ok (.iconst 0, 1) := by decide +kernel
theorem dX8_dayIn_73 : decode cX8_dayIn 73 = .ok (.dup2, 1) := by decide +kernel
theorem dX8_dayIn_74 : decode cX8_dayIn 74 = .ok (.iaload, 1) := by decide +kernel
theorem dX8_dayIn_75 : decode cX8_dayIn 75 = .ok (.iconst 1, 1) := by decide +kernel
theorem dX8_dayIn_76 : decode cX8_dayIn 76 = .ok (.iadd, 1) := by decide +kernel
theorem dX8_dayIn_77 : decode cX8_dayIn 77 = .ok (.iastore, 1) := by decide +kernel
theorem dX8_dayIn_78 : decode cX8_dayIn 78 = .ok (.iconst 0, 1) := by decide +kernel
theorem dX8_dayIn_79 : decode cX8_dayIn 79 = .ok (.istore_n 2, 1) := by decide +kernel
theorem dX8_dayIn_80 : decode cX8_dayIn 80 = .ok (.iload_n 2, 1) := by decide +kernel
theorem dX8_dayIn_81 : decode cX8_dayIn 81 = .ok (.bipush 8, 2) := by decide +kernel
theorem dX8_dayIn_83 : decode cX8_dayIn 83 = .ok (.if_icmp .ge 26, 3) := by decide +kernel
theorem dX8_dayIn_86 : decode cX8_dayIn 86 = .ok (.aload_n 1, 1) := by decide +kernel
theorem dX8_dayIn_87 : decode cX8_dayIn 87 = .ok (.iconst 0, 1) := by decide +kernel
theorem dX8_dayIn_88 : decode cX8_dayIn 88 = .ok (.iaload, 1) := by decide +kernel
theorem dX8_dayIn_89 : decode cX8_dayIn 89 = .ok (.bipush 7, 2) := by decide +kernel
theorem dX8_dayIn_91 : decode cX8_dayIn 91 = .ok (.irem, 1) := by decide +kernel
theorem dX8_dayIn_92 : decode cX8_dayIn 92 = .ok (.ifCond .ne 17, 3) := by decide +kernel
theorem dX8_dayIn_95 : decode cX8_dayIn 95 = .ok (.aload_n 1, 1) := by decide +kernel
theorem dX8_dayIn_96 : decode cX8_dayIn 96 = .ok (.iload_n 2, 1) := by decide +kernel
theorem dX8_dayIn_97 : decode cX8_dayIn 97 = .ok (.iconst 4, 1) := by decide +kernel
theorem dX8_dayIn_98 : decode cX8_dayIn 98 = .ok (.invokestatic 55, 3) := by decide +kernel
theorem dX8_dayIn_101 : decode cX8_dayIn 101 = .ok (.iconst 0, 1) := by decide +kernel
theorem dX8_dayIn_102 : decode cX8_dayIn 102 = .ok (.iastore, 1) := by decide +kernel
theorem dX8_dayIn_103 : decode cX8_dayIn 103 = .ok (.iinc 2 1, 3) := by decide +kernel
theorem dX8_dayIn_106 : decode cX8_dayIn 106 = .ok (.goto (-26), 3) := by decide +kernel
theorem dX8_dayIn_109 : decode cX8_dayIn 109 = .ok (.return_, 1) := by decide +kernel
set_option maxRecDepth 20000 in
theorem ggX8_runIn_X8_dayIn : GoodIn wsX8_runIn wsX8_dayIn := goodIn_r _ [5, 6, 7, 8, 9, 4, 10, 11, 12, 13, 14, 15, 16, 17, 18, 19, 20, 21, 22, 23, 24, 25, 26, 27, 28, 29, 30, 31, 32, 33, 34, 35, 36, 37, 38, 39, 40, 41, 42, 43, 44, 45, 46, 47, 48, 49, 50, 51, 52, 53, 54, 55, 56, 57, 58, 59, 60, 61, 62, 63, 64, 65, 66, 67, 68, 69, 70, 71, 72, 73, 74, 75, 76, 77, 78, 79, 80, 81, 82, 83, 84, 85, 86, 87, 88, 89, 90, 91, 92, 93, 94, 95, 96, 97, 98] (by decide +kernel) (by decide +kernel)
set_option maxRecDepth 20000 in
theorem gX8_runIn_X8_dayIn : GoodIn wsX8_runIn (wsV RX8 135 RX8 yX8_dayIn wsX8_dayIn) := goodIn_app (goodIn_of _ (by decide +kernel)) ggX8_runIn_X8_dayIn
theorem dX8_runIn_0 : decode cX8_runIn 0 = .ok (.aload_n 1, 1) := by decide +kernel
theorem dX8_runIn_1 : decode cX8_runIn 1 = .ok (.iconst 4, 1) := by decide +kernel
theorem dX8_runIn_2 : decode cX8_runIn 2 = .ok (.iaload, 1) := by decide +kernel
theorem dX8_runIn_3 : decode cX8_runIn 3 = .ok (.istore_n 3, 1) := by decide +kernel
theorem dX8_runIn_4 : decode cX8_runIn 4 = .ok (.iconst 0, 1) := by decide +kernel
theorem dX8_runIn_5 : decode cX8_runIn 5 = .ok (.istore 4, 2) := by decide +kernel
theorem dX8_runIn_7 : decode cX8_runIn 7 = .ok (.iload 4, 2) := by decide +kernel
theorem dX8_runIn_9 : decode cX8_runIn 9 = .ok (.iload_n 2, 1) := by decide +kernel
theorem dX8_runIn_10 : decode cX8_runIn 10 = .ok (.if_icmp .ge 14, 3) := by decide +kernel
theorem dX8_runIn_13 : decode cX8_runIn 13 = .ok (.aload_n 0, 1) := by decide +kernel
theorem dX8_runIn_14 : decode cX8_runIn 14 = .ok (.aload_n 1, 1) := by decide +kernel
theorem dX8_runIn_15 : decode cX8_runIn 15 = .ok (.invokevirtual 135, 3) := by decide +kernel
theorem dX8_runIn_18 : decode cX8_runIn 18 = .ok (.iinc 4 1, 3) := by decide +kernel
theorem dX8_runIn_21 : decode cX8_runIn 21 = .ok (.goto (-14), 3) := by decide +kernel
theorem dX8_runIn_24 : decode cX8_runIn 24 = .ok (.aload_n 1, 1) := by decide +kernel
theorem dX8_runIn_25 : decode cX8_runIn 25 = .ok (.iconst 4, 1) := by decide +kernel
theorem dX8_runIn_26 : decode cX8_runIn 26 = .ok (.iaload, 1) := by decide +kernel
theorem dX8_runIn_27 : decode cX8_runIn 27 = .ok (.iload_n 3, 1) := by decide +kernel
theorem dX8_runIn_28 : decode cX8_runIn 28 = .ok (.isub, 1) := by decide +kernel
theorem dX8_runIn_29 : decode cX8_runIn 29 = .ok (.ireturn, 1) := by decide +kernel
set_option maxRecDepth 20000 in
theorem ggX8_addIn_X8_prisonerAt : GoodIn wsX8_addIn wsX8_prisonerAt := goodIn_r _ [4] (by decide +kernel) (by decide +kernel)
set_option maxRecDepth 20000 in
theorem gX8_addIn_X8_prisonerAt : GoodIn wsX8_addIn (va_wsS RX8 55 yX8_prisonerAt wsX8_prisonerAt) := goodIn_app (goodIn_of _ (by decide +kernel)) ggX8_addIn_X8_prisonerAt
theorem dX8_addIn_0 : decode cX8_addIn 0 = .ok (.aload_n 0, 1) := by decide +kernel
theorem dX8_addIn_1 : decode cX8_addIn 1 = .ok (.iconst 1, 1) := by decide +kernel
theorem dX8_addIn_2 : decode cX8_addIn 2 = .ok (.iaload, 1) := by decide +kernel
theorem dX8_addIn_3 : decode cX8_addIn 3 = .ok (.istore_n 2, 1) := by decide +kernel
theorem dX8_addIn_4 : decode cX8_addIn 4 = .ok (.iconst 0, 1) := by decide +kernel
theorem dX8_addIn_5 : decode cX8_addIn 5 = .ok (.istore_n 3, 1) := by decide +kernel
theorem dX8_addIn_6 : decode cX8_addIn 6 = .ok (.iload_n 3, 1) := by decide +kernel
theorem dX8_addIn_7 : decode cX8_addIn 7 = .ok (.bipush 6, 2) := by decide +kernel
theorem dX8_addIn_9 : decode cX8_addIn 9 = .ok (.if_icmp .ge 17, 3) := by decide +kernel
theorem dX8_addIn_12 : decode cX8_addIn 12 = .ok (.aload_n 0, 1) := by decide +kernel
theorem dX8_addIn_13 : decode cX8_addIn 13 = .ok (.iload_n 2, 1) := by decide +kernel
theorem dX8_addIn_14 : decode cX8_addIn 14 = .ok (.iload_n 3, 1) := by decide +kernel
theorem dX8_addIn_15 : decode cX8_addIn 15 = .ok (.invokestatic 55, 3) := by decide +kernel
theorem dX8_addIn_18 : decode cX8_addIn 18 = .ok (.iconst 0, 1) := by decide +kernel
theorem dX8_addIn_19 : decode cX8_addIn 19 = .ok (.iastore, 1) := by decide +kernel
theorem dX8_addIn_20 : decode cX8_addIn 20 = .ok (.iinc 3 1, 3) := by decide +kernel
theorem dX8_addIn_23 : decode cX8_addIn 23 = .ok (.goto (-17), 3) := by decide +kernel
theorem dX8_addIn_26 : decode cX8_addIn 26 = .ok (.aload_n 0, 1) := by decide +kernel
theorem dX8_addIn_27 : decode cX8_addIn 27 = .ok (.iload_n 2, 1) := by decide +kernel
theorem dX8_addIn_28 : decode cX8_addIn 28 = .ok (.iconst 0, 1) := by decide +kernel
theorem dX8_addIn_29 : decode cX8_addIn 29 = .ok (.invokestatic 55, 3) := by decide +kernel
theorem dX8_addIn_32 : decode cX8_addIn 32 = .ok (.iload_n 1, 1) := by decide +kernel
theorem dX8_addIn_33 : decode cX8_addIn 33 = .ok (.iastore, 1) := by decide +kernel
theorem dX8_addIn_34 : decode cX8_addIn 34 = .ok (.aload_n 0, 1) := by decide +kernel
theorem dX8_addIn_35 : decode cX8_addIn 35 = .ok (.iconst 1, 1) := by decide +kernel
theorem dX8_addIn_36 : decode cX8_addIn 36 = .ok (.dup2, 1) := by decide +kernel
theorem dX8_addIn_37 : decode cX8_addIn 37 = .ok (.iaload, 1) := by decide +kernel
theorem dX8_addIn_38 : decode cX8_addIn 38 = .ok (.iconst 1, 1) := by decide +kernel
theorem dX8_addIn_39 : decode cX8_addIn 39 = .ok (.iadd, 1) := by decide +kernel
theorem dX8_addIn_40 : decode cX8_addIn 40 = .ok (.iastore, 1) := by decide +kernel
theorem dX8_addIn_41 : decode cX8_addIn 41 = .ok (.iload_n 2, 1) := by decide +kernel
theorem dX8_addIn_42 : decode cX8_addIn 42 = .ok (.ireturn, 1) := by decide +kernel
set_option maxRecDepth 20000 in
theorem ggX8_listIn_X8_prisonerAt : GoodIn wsX8_listIn wsX8_prisonerAt := goodIn_r _ [4] (by decide +kernel) (by decide +kernel)
set_option maxRecDepth 20000 in
theorem gX8_listIn_X8_prisonerAt : GoodIn wsX8_listIn (va_wsS RX8 55 yX8_prisonerAt wsX8_prisonerAt) := goodIn_app (goodIn_of _ (by decide +kernel)) ggX8_listIn_X8_prisonerAt
theorem dX8_listIn_0 : decode cX8_listIn 0 = .ok (.aload_n 0, 1) := by decide +kernel
theorem dX8_listIn_1 : decode cX8_listIn 1 = .ok (.iload_n 1, 1) := by decide +kernel
theorem dX8_listIn_2 : decode cX8_listIn 2 = .ok (.iconst 1, 1) := by decide +kernel
theorem dX8_listIn_3 : decode cX8_listIn 3 = .ok (.invokestatic 55, 3) := by decide +kernel
theorem dX8_listIn_6 : decode cX8_listIn 6 = .ok (.iaload, 1) := by decide +kernel
theorem dX8_listIn_7 : decode cX8_listIn 7 = .ok (.iconst 1, 1) := by decide +kernel
theorem dX8_listIn_8 : decode cX8_listIn 8 = .ok (.iload_n 2, 1) := by decide +kernel
theorem dX8_listIn_9 : decode cX8_listIn 9 = .ok (.ishl, 1) := by decide +kernel
theorem dX8_listIn_10 : decode cX8_listIn 10 = .ok (.iconst (-1), 1) := by decide +kernel
theorem dX8_listIn_11 : decode cX8_listIn 11 = .ok (.ixor, 1) := by decide +kernel
theorem dX8_listIn_12 : decode cX8_listIn 12 = .ok (.iand, 1) := by decide +kernel
theorem dX8_listIn_13 : decode cX8_listIn 13 = .ok (.istore 4, 2) := by decide +kernel
theorem dX8_listIn_15 : decode cX8_listIn 15 = .ok (.aload_n 0, 1) := by decide +kernel
theorem dX8_listIn_16 : decode cX8_listIn 16 = .ok (.iload_n 1, 1) := by decide +kernel
theorem dX8_listIn_17 : decode cX8_listIn 17 = .ok (.iconst 1, 1) := by decide +kernel
theorem dX8_listIn_18 : decode cX8_listIn 18 = .ok (.invokestatic 55, 3) := by decide +kernel
theorem dX8_listIn_21 : decode cX8_listIn 21 = .ok (.iload_n 3, 1) := by decide +kernel
theorem dX8_listIn_22 : decode cX8_listIn 22 = .ok (.ifCond .eq 12, 3) := by decide +kernel
theorem dX8_listIn_25 : decode cX8_listIn 25 = .ok (.iload 4, 2) := by decide +kernel
theorem dX8_listIn_27 : decode cX8_listIn 27 = .ok (.iconst 1, 1) := by decide +kernel
theorem dX8_listIn_28 : decode cX8_listIn 28 = .ok (.iload_n 2, 1) := by decide +kernel
theorem dX8_listIn_29 : decode cX8_listIn 29 = .ok (.ishl, 1) := by decide +kernel
theorem dX8_listIn_30 : decode cX8_listIn 30 = .ok (.ior, 1) := by decide +kernel
theorem dX8_listIn_31 : decode cX8_listIn 31 = .ok (.goto 5, 3) := by decide +kernel
theorem dX8_listIn_34 : decode cX8_listIn 34 = .ok (.iload 4, 2) := by decide +kernel
theorem dX8_listIn_36 : decode cX8_listIn 36 = .ok (.iastore, 1) := by decide +kernel
theorem dX8_listIn_37 : decode cX8_listIn 37 = .ok (.aload_n 0, 1) := by decide +kernel
theorem dX8_listIn_38 : decode cX8_listIn 38 = .ok (.iload_n 1, 1) := by decide +kernel
theorem dX8_listIn_39 : decode cX8_listIn 39 = .ok (.iconst 1, 1) := by decide +kernel
theorem dX8_listIn_40 : decode cX8_listIn 40 = .ok (.invokestatic 55, 3) := by decide +kernel
theorem dX8_listIn_43 : decode cX8_listIn 43 = .ok (.iaload, 1) := by decide +kernel
theorem dX8_listIn_44 : decode cX8_listIn 44 = .ok (.ireturn, 1) := by decide +kernel
set_option maxRecDepth 20000 in
theorem ggX8_part_X8_prisonerAt : GoodIn wsX8_part wsX8_prisonerAt := goodIn_r _ [4] (by decide +kernel) (by decide +kernel)
set_option maxRecDepth 20000 in
theorem gX8_part_X8_prisonerAt : GoodIn wsX8_part (va_wsS RX8 55 yX8_prisonerAt wsX8_prisonerAt) := goodIn_app (goodIn_of _ (by decide +kernel)) ggX8_part_X8_prisonerAt
theorem dX8_part_0 : decode cX8_part 0 = .ok (.aload_n 0, 1) := by decide +kernel
theorem dX8_part_1 : decode cX8_part 1 = .ok (.iload_n 1, 1) := by decide +kernel
theorem dX8_part_2 : decode cX8_part 2 = .ok (.iconst 5, 1) := by decide +kernel
theorem dX8_part_3 : decode cX8_part 3 = .ok (.invokestatic 55, 3) := by decide +kernel
theorem dX8_part_6 : decode cX8_part 6 = .ok (.iaload, 1) := by decide +kernel
theorem dX8_part_7 : decode cX8_part 7 = .ok (.iconst 1, 1) := by decide +kernel
theorem dX8_part_8 : decode cX8_part 8 = .ok (.iload_n 2, 1) := by decide +kernel
theorem dX8_part_9 : decode cX8_part 9 = .ok (.ishl, 1) := by decide +kernel
theorem dX8_part_10 : decode cX8_part 10 = .ok (.iconst (-1), 1) := by decide +kernel
theorem dX8_part_11 : decode cX8_part 11 = .ok (.ixor, 1) := by decide +kernel
theorem dX8_part_12 : decode cX8_part 12 = .ok (.iand, 1) := by decide +kernel
theorem dX8_part_13 : decode cX8_part 13 = .ok (.istore 4, 2) := by decide +kernel
theorem dX8_part_15 : decode cX8_part 15 = .ok (.aload_n 0, 1) := by decide +kernel
theorem dX8_part_16 : decode cX8_part 16 = .ok (.iload_n 1, 1) := by decide +kernel
theorem dX8_part_17 : decode cX8_part 17 = .ok (.iconst 5, 1) := by decide +kernel
theorem dX8_part_18 : decode cX8_part 18 = .ok (.invokestatic 55, 3) := by decide +kernel
theorem dX8_part_21 : decode cX8_part 21 = .ok (.iload_n 3, 1) := by decide +kernel
theorem dX8_part_22 : decode cX8_part 22 = .ok (.ifCond .eq 12, 3) := by decide +kernel
theorem dX8_part_25 : decode cX8_part 25 = .ok (.iload 4, 2) := by decide +kernel
theorem dX8_part_27 : decode cX8_part 27 = .ok (.iconst 1, 1) := by decide +kernel
theorem dX8_part_28 : decode cX8_part 28 = .ok (.iload_n 2, 1) := by decide +kernel
theorem dX8_part_29 : decode cX8_part 29 = .ok (.ishl, 1) := by decide +kernel
theorem dX8_part_30 : decode cX8_part 30 = .ok (.ior, 1) := by decide +kernel
theorem dX8_part_31 : decode cX8_part 31 = .ok (.goto 5, 3) := by decide +kernel
theorem dX8_part_34 : decode cX8_part 34 = .ok (.iload 4, 2) := by decide +kernel
theorem dX8_part_36 : decode cX8_part 36 = .ok (.iastore, 1) := by decide +kernel
theorem dX8_part_37 : decode cX8_part 37 = .ok (.return_, 1) := by decide +kernel
set_option maxRecDepth 20000 in
theorem ggX8_carriers_X8_visitorAt : GoodIn wsX8_carriers wsX8_visitorAt := goodIn_r _ [4] (by decide +kernel) (by decide +kernel)
set_option maxRecDepth 20000 in
theorem gX8_carriers_X8_visitorAt : GoodIn wsX8_carriers (va_wsS RX8 59 yX8_visitorAt wsX8_visitorAt) := goodIn_app (goodIn_of _ (by decide +kernel)) ggX8_carriers_X8_visitorAt
theorem dX8_carriers_0 : decode cX8_carriers 0 = .ok (.iconst 0, 1) := by decide +kernel
theorem dX8_carriers_1 : decode cX8_carriers 1 = .ok (.istore_n 1, 1) := by decide +kernel
theorem dX8_carriers_2 : decode cX8_carriers 2 = .ok (.iconst 0, 1) := by decide +kernel
theorem dX8_carriers_3 : decode cX8_carriers 3 = .ok (.istore_n 2, 1) := by decide +kernel
theorem dX8_carriers_4 : decode cX8_carriers 4 = .ok (.iload_n 2, 1) := by decide +kernel
theorem dX8_carriers_5 : decode cX8_carriers 5 = .ok (.bipush 10, 2) := by decide +kernel
theorem dX8_carriers_7 : decode cX8_carriers 7 = .ok (.if_icmp .ge 21, 3) := by decide +kernel
theorem dX8_carriers_10 : decode cX8_carriers 10 = .ok (.iload_n 1, 1) := by decide +kernel
theorem dX8_carriers_11 : decode cX8_carriers 11 = .ok (.aload_n 0, 1) := by decide +kernel
theorem dX8_carriers_12 : decode cX8_carriers 12 = .ok (.iload_n 2, 1) := by decide +kernel
theorem dX8_carriers_13 : decode cX8_carriers 13 = .ok (.iconst 2, 1) := by decide +kernel
theorem dX8_carriers_14 : decode cX8_carriers 14 = .ok (.invokestatic 59, 3) := by decide +kernel
theorem dX8_carriers_17 : decode cX8_carriers 17 = .ok (.iaload, 1) := by decide +kernel
theorem dX8_carriers_18 : decode cX8_carriers 18 = .ok (.iload_n 2, 1) := by decide +kernel
theorem dX8_carriers_19 : decode cX8_carriers 19 = .ok (.ishl, 1) := by decide +kernel
theorem dX8_carriers_20 : decode cX8_carriers 20 = .ok (.ior, 1) := by decide +kernel
theorem dX8_carriers_21 : decode cX8_carriers 21 = .ok (.istore_n 1, 1) := by decide +kernel
theorem dX8_carriers_22 : decode cX8_carriers 22 = .ok (.iinc 2 1, 3) := by decide +kernel
theorem dX8_carriers_25 : decode cX8_carriers 25 = .ok (.goto (-21), 3) := by decide +kernel
theorem dX8_carriers_28 : decode cX8_carriers 28 = .ok (.iload_n 1, 1) := by decide +kernel
theorem dX8_carriers_29 : decode cX8_carriers 29 = .ok (.ireturn, 1) := by decide +kernel
set_option maxRecDepth 20000 in
theorem ggX8_punishIn_X8_prisonerAt : GoodIn wsX8_punishIn wsX8_prisonerAt := goodIn_r _ [4] (by decide +kernel) (by decide +kernel)
set_option maxRecDepth 20000 in
theorem gX8_punishIn_X8_prisonerAt : GoodIn wsX8_punishIn (va_wsS RX8 55 yX8_prisonerAt wsX8_prisonerAt) := goodIn_app (goodIn_of _ (by decide +kernel)) ggX8_punishIn_X8_prisonerAt
theorem dX8_punishIn_0 : decode cX8_punishIn 0 = .ok (.aload_n 0, 1) := by decide +kernel
theorem dX8_punishIn_1 : decode cX8_punishIn 1 = .ok (.iload_n 1, 1) := by decide +kernel
theorem dX8_punishIn_2 : decode cX8_punishIn 2 = .ok (.iconst 2, 1) := by decide +kernel
theorem dX8_punishIn_3 : decode cX8_punishIn 3 = .ok (.invokestatic 55, 3) := by decide +kernel
theorem dX8_punishIn_6 : decode cX8_punishIn 6 = .ok (.iaload, 1) := by decide +kernel
theorem dX8_punishIn_7 : decode cX8_punishIn 7 = .ok (.istore_n 3, 1) := by decide +kernel
theorem dX8_punishIn_8 : decode cX8_punishIn 8 = .ok (.aload_n 0, 1) := by decide +kernel
theorem dX8_punishIn_9 : decode cX8_punishIn 9 = .ok (.iload_n 1, 1) := by decide +kernel
theorem dX8_punishIn_10 : decode cX8_punishIn 10 = .ok (.iconst 2, 1) := by decide +kernel
theorem dX8_punishIn_11 : decode cX8_punishIn 11 = .ok (.invokestatic 55, 3) := by decide +kernel
theorem dX8_punishIn_14 : decode cX8_punishIn 14 = .ok (.aload_n 0, 1) := by decide +kernel
theorem dX8_punishIn_15 : decode cX8_punishIn 15 = .ok (.iconst 0, 1) := by decide +kernel
theorem dX8_punishIn_16 : decode cX8_punishIn 16 = .ok (.iaload, 1) := by decide +kernel
theorem dX8_punishIn_17 : decode cX8_punishIn 17 = .ok (.iload_n 2, 1) := by decide +kernel
theorem dX8_punishIn_18 : decode cX8_punishIn 18 = .ok (.iadd, 1) := by decide +kernel
theorem dX8_punishIn_19 : decode cX8_punishIn 19 = .ok (.iastore, 1) := by decide +kernel
theorem dX8_punishIn_20 : decode cX8_punishIn 20 = .ok (.iload_n 3, 1) := by decide +kernel
theorem dX8_punishIn_21 : decode cX8_punishIn 21 = .ok (.ireturn, 1) := by decide +kernel
set_option maxRecDepth 20000 in
theorem ggX8_isTime_X8_in : GoodIn wsX8_isTime wsX8_in := goodIn_r _ [6] (by decide +kernel) (by decide +kernel)
set_option maxRecDepth 20000 in
theorem gX8_isTime_X8_in : GoodIn wsX8_isTime (va_wsS RX8 140 yX8_in wsX8_in) := goodIn_app (goodIn_of _ (by decide +kernel)) ggX8_isTime_X8_in
theorem dX8_isTime_0 : decode cX8_isTime 0 = .ok (.iload_n 1, 1) := by decide +kernel
theorem dX8_isTime_1 : decode cX8_isTime 1 = .ok (.i2l, 1) := by decide +kernel
theorem dX8_isTime_2 : decode cX8_isTime 2 = .ok (.aload_n 0, 1) := by decide +kernel
theorem dX8_isTime_3 : decode cX8_isTime 3 = .ok (.iconst 0, 1) := by decide +kernel
theorem dX8_isTime_4 : decode cX8_isTime 4 = .ok (.iaload, 1) := by decide +kernel
theorem dX8_isTime_5 : decode cX8_isTime 5 = .ok (.i2l, 1) := by decide +kernel
theorem dX8_isTime_6 : decode cX8_isTime 6 = .ok (.ldc2_w 138, 3) := by decide +kernel
theorem dX8_isTime_9 : decode cX8_isTime 9 = .ok (.invokestatic 140, 3) := by decide +kernel
theorem dX8_isTime_12 : decode cX8_isTime 12 = .ok (.ifCond .eq 19, 3) := by decide +kernel
theorem dX8_isTime_15 : decode cX8_isTime 15 = .ok (.iload_n 2, 1) := by decide +kernel
theorem dX8_isTime_16 : decode cX8_isTime 16 = .ok (.i2l, 1) := by decide +kernel
theorem dX8_isTime_17 : decode cX8_isTime 17 = .ok (.lconst 0, 1) := by decide +kernel
theorem dX8_isTime_18 : decode cX8_isTime 18 = .ok (.ldc2_w 144, 3) := by decide +kernel
theorem dX8_isTime_21 : decode cX8_isTime 21 = .ok (.invokestatic 140, 3) := by decide +kernel
theorem dX8_isTime_24 : decode cX8_isTime 24 = .ok (.ifCond .eq 7, 3) := by decide +kernel
theorem dX8_isTime_27 : decode cX8_isTime 27 = .ok (.iconst 1, 1) := by decide +kernel
theorem dX8_isTime_28 : decode cX8_isTime 28 = .ok (.goto 4, 3) := by decide +kernel
theorem dX8_isTime_31 : decode cX8_isTime 31 = .ok (.iconst 0, 1) := by decide +kernel
theorem dX8_isTime_32 : decode cX8_isTime 32 = .ok (.ireturn, 1) := by decide +kernel
set_option maxRecDepth 20000 in
theorem ggX8_append_X8_in : GoodIn wsX8_append wsX8_in := goodIn_r _ [7] (by decide +kernel) (by decide +kernel)
set_option maxRecDepth 20000 in
theorem gX8_append_X8_in : GoodIn wsX8_append (va_wsS RX8 140 yX8_in wsX8_in) := goodIn_app (goodIn_of _ (by decide +kernel)) ggX8_append_X8_in
set_option maxRecDepth 20000 in
theorem ggX8_append_X8_refused : GoodIn wsX8_append wsX8_refused := goodIn_r _ [11, 12, 13, 14, 15, 16, 17, 18, 19, 20, 21, 22, 23, 24, 25, 26, 27, 28, 29] (by decide +kernel) (by decide +kernel)
set_option maxRecDepth 20000 in
theorem gX8_append_X8_refused : GoodIn wsX8_append (wsV RX8 151 RX8 yX8_refused wsX8_refused) := goodIn_app (goodIn_of _ (by decide +kernel)) ggX8_append_X8_refused
theorem dX8_append_0 : decode cX8_append 0 = .ok (.aload_n 0, 1) := by decide +kernel
theorem dX8_append_1 : decode cX8_append 1 = .ok (.iload_n 1, 1) := by decide +kernel
theorem dX8_append_2 : decode cX8_append 2 = .ok (.i2l, 1) := by decide +kernel
theorem dX8_append_3 : decode cX8_append 3 = .ok (.lconst 0, 1) := by decide +kernel
theorem dX8_append_4 : decode cX8_append 4 = .ok (.ldc2_w 146, 3) := by decide +kernel
theorem dX8_append_7 : decode cX8_append 7 = .ok (.invokestatic 140, 3) := by decide +kernel
theorem dX8_append_10 : decode cX8_append 10 = .ok (.ifCond .ne 7, 3) := by decide +kernel
theorem dX8_append_13 : decode cX8_append 13 = .ok (.iconst 1, 1) := by decide +kernel
theorem dX8_append_14 : decode cX8_append 14 = .ok (.goto 17, 3) := by decide +kernel
theorem dX8_append_17 : decode cX8_append 17 = .ok (.aload_n 0, 1) := by decide +kernel
theorem dX8_append_18 : decode cX8_append 18 = .ok (.getfield 148, 3) := by decide +kernel
theorem dX8_append_21 : decode cX8_append 21 = .ok (.bipush 120, 2) := by decide +kernel
theorem dX8_append_23 : decode cX8_append 23 = .ok (.if_icmp .ne 7, 3) := by decide +kernel
theorem dX8_append_26 : decode cX8_append 26 = .ok (.iconst 2, 1) := by decide +kernel
theorem dX8_append_27 : decode cX8_append 27 = .ok (.goto 4, 3) := by decide +kernel
theorem dX8_append_30 : decode cX8_append 30 = .ok (.iconst 0, 1) := by decide +kernel
theorem dX8_append_31 : decode cX8_append 31 = .ok (.invokevirtual 151, 3) := by decide +kernel
theorem dX8_append_34 : decode cX8_append 34 = .ok (.ifCond .eq 5, 3) := by decide +kernel
theorem dX8_append_37 : decode cX8_append 37 = .ok (.iconst 0, 1) := by decide +kernel
theorem dX8_append_38 : decode cX8_append 38 = .ok (.ireturn, 1) := by decide +kernel
theorem dX8_append_39 : decode cX8_append 39 = .ok (.aload_n 0, 1) := by decide +kernel
theorem dX8_append_40 : decode cX8_append 40 = .ok (.getfield 7, 3) := by decide +kernel
theorem dX8_append_43 : decode cX8_append 43 = .ok (.aload_n 0, 1) := by decide +kernel
theorem dX8_append_44 : decode cX8_append 44 = .ok (.getfield 148, 3) := by decide +kernel
theorem dX8_append_47 : decode cX8_append 47 = .ok (.iload_n 1, 1) := by decide +kernel
theorem dX8_append_48 : decode cX8_append 48 = .ok (.iastore, 1) := by decide +kernel
theorem dX8_append_49 : decode cX8_append 49 = .ok (.aload_n 0, 1) := by decide +kernel
theorem dX8_append_50 : decode cX8_append 50 = .ok (.dup, 1) := by decide +kernel
theorem dX8_append_51 : decode cX8_append 51 = .ok (.getfield 148, 3) := by decide +kernel
theorem dX8_append_54 : decode cX8_append 54 = .ok (.iconst 1, 1) := by decide +kernel
theorem dX8_append_55 : decode cX8_append 55 = .ok (.iadd, 1) := by decide +kernel
theorem dX8_append_56 : decode cX8_append 56 = .ok (.putfield 148, 3) := by decide +kernel
theorem dX8_append_59 : decode cX8_append 59 = .ok (.aload_n 0, 1) := by decide +kernel
theorem dX8_append_60 : decode cX8_append 60 = .ok (.getfield 148, 3) := by decide +kernel
theorem dX8_append_63 : decode cX8_append 63 = .ok (.ireturn, 1) := by decide +kernel
theorem dX8_clearText_0 : decode cX8_clearText 0 = .ok (.aload_n 0, 1) := by decide +kernel
theorem dX8_clearText_1 : decode cX8_clearText 1 = .ok (.iconst 0, 1) := by decide +kernel
theorem dX8_clearText_2 : decode cX8_clearText 2 = .ok (.putfield 39, 3) := by decide +kernel
theorem dX8_clearText_5 : decode cX8_clearText 5 = .ok (.aload_n 0, 1) := by decide +kernel
theorem dX8_clearText_6 : decode cX8_clearText 6 = .ok (.getfield 148, 3) := by decide +kernel
theorem dX8_clearText_9 : decode cX8_clearText 9 = .ok (.istore_n 1, 1) := by decide +kernel
theorem dX8_clearText_10 : decode cX8_clearText 10 = .ok (.aload_n 0, 1) := by decide +kernel
theorem dX8_clearText_11 : decode cX8_clearText 11 = .ok (.iconst 0, 1) := by decide +kernel
theorem dX8_clearText_12 : decode cX8_clearText 12 = .ok (.putfield 148, 3) := by decide +kernel
theorem dX8_clearText_15 : decode cX8_clearText 15 = .ok (.iload_n 1, 1) := by decide +kernel
theorem dX8_clearText_16 : decode cX8_clearText 16 = .ok (.ireturn, 1) := by decide +kernel
theorem dX8_isNext_0 : decode cX8_isNext 0 = .ok (.aload_n 0, 1) := by decide +kernel
theorem dX8_isNext_1 : decode cX8_isNext 1 = .ok (.getfield 155, 3) := by decide +kernel
theorem dX8_isNext_4 : decode cX8_isNext 4 = .ok (.aload_n 0, 1) := by decide +kernel
theorem dX8_isNext_5 : decode cX8_isNext 5 = .ok (.getfield 148, 3) := by decide +kernel
theorem dX8_isNext_8 : decode cX8_isNext 8 = .ok (.if_icmp .ge 20, 3) := by decide +kernel
theorem dX8_isNext_11 : decode cX8_isNext 11 = .ok (.aload_n 0, 1) := by decide +kernel
theorem dX8_isNext_12 : decode cX8_isNext 12 = .ok (.getfield 7, 3) := by decide +kernel
theorem dX8_isNext_15 : decode cX8_isNext 15 = .ok (.aload_n 0, 1) := by decide +kernel
theorem dX8_isNext_16 : decode cX8_isNext 16 = .ok (.getfield 155, 3) := by decide +kernel
theorem dX8_isNext_19 : decode cX8_isNext 19 = .ok (.iaload, 1) := by decide +kernel
theorem dX8_isNext_20 : decode cX8_isNext 20 = .ok (.iload_n 1, 1) := by decide +kernel
theorem dX8_isNext_21 : decode cX8_isNext 21 = .ok (.if_icmp .ne 7, 3) := by decide +kernel
theorem dX8_isNext_24 : decode cX8_isNext 24 = .ok (.iconst 1, 1) := by decide +kernel
theorem dX8_isNext_25 : decode cX8_isNext 25 = .ok (.goto 4, 3) := by decide +kernel
theorem dX8_isNext_28 : decode cX8_isNext 28 = .ok (.iconst 0, 1) := by decide +kernel
theorem dX8_isNext_29 : decode cX8_isNext 29 = .ok (.ireturn, 1) := by decide +kernel
theorem dX8_accept_0 : decode cX8_accept 0 = .ok (.aload_n 0, 1) := by decide +kernel
theorem dX8_accept_1 : decode cX8_accept 1 = .ok (.aload_n 0, 1) := by decide +kernel
theorem dX8_accept_2 : decode cX8_accept 2 = .ok (.getfield 158, 3) := by decide +kernel
theorem dX8_accept_5 : decode cX8_accept 5 = .ok (.ifCond .eq 11, 3) := by decide +kernel
theorem dX8_accept_8 : decode cX8_accept 8 = .ok (.iload_n 1, 1) := by decide +kernel
theorem dX8_accept_9 : decode cX8_accept 9 = .ok (.ifCond .eq 7, 3) := by decide +kernel
theorem dX8_accept_12 : decode cX8_accept 12 = .ok (.iconst 1, 1) := by decide +kernel
theorem dX8_accept_13 : decode cX8_accept 13 = .ok (.goto 4, 3) := by decide +kernel
theorem dX8_accept_16 : decode cX8_accept 16 = .ok (.iconst 0, 1) := by decide +kernel
theorem dX8_accept_17 : decode cX8_accept 17 = .ok (.putfield 158, 3) := by decide +kernel
theorem dX8_accept_20 : decode cX8_accept 20 = .ok (.aload_n 0, 1) := by decide +kernel
theorem dX8_accept_21 : decode cX8_accept 21 = .ok (.dup, 1) := by decide +kernel
theorem dX8_accept_22 : decode cX8_accept 22 = .ok (.getfield 155, 3) := by decide +kernel
theorem dX8_accept_25 : decode cX8_accept 25 = .ok (.aload_n 0, 1) := by decide +kernel
theorem dX8_accept_26 : decode cX8_accept 26 = .ok (.getfield 158, 3) := by decide +kernel
theorem dX8_accept_29 : decode cX8_accept 29 = .ok (.ifCond .eq 7, 3) := by decide +kernel
theorem dX8_accept_32 : decode cX8_accept 32 = .ok (.iconst 1, 1) := by decide +kernel
theorem dX8_accept_33 : decode cX8_accept 33 = .ok (.goto 4, 3) := by decide +kernel
theorem dX8_accept_36 : decode cX8_accept 36 = .ok (.iconst 0, 1) := by decide +kernel
theorem dX8_accept_37 : decode cX8_accept 37 = .ok (.iadd, 1) := by decide +kernel
theorem dX8_accept_38 : decode cX8_accept 38 = .ok (.putfield 155, 3) := by decide +kernel
theorem dX8_accept_41 : decode cX8_accept 41 = .ok (.return_, 1) := by decide +kernel
set_option maxRecDepth 20000 in
theorem ggX8_digit_X8_in : GoodIn wsX8_digit wsX8_in := goodIn_r _ [8] (by decide +kernel) (by decide +kernel)
set_option maxRecDepth 20000 in
theorem gX8_digit_X8_in : GoodIn wsX8_digit (va_wsS RX8 140 yX8_in wsX8_in) := goodIn_app (goodIn_of _ (by decide +kernel)) ggX8_digit_X8_in
theorem dX8_digit_0 : decode cX8_digit 0 = .ok (.aload_n 0, 1) := by decide +kernel
theorem dX8_digit_1 : decode cX8_digit 1 = .ok (.getfield 155, 3) := by decide +kernel
theorem dX8_digit_4 : decode cX8_digit 4 = .ok (.aload_n 0, 1) := by decide +kernel
theorem dX8_digit_5 : decode cX8_digit 5 = .ok (.getfield 148, 3) := by decide +kernel
theorem dX8_digit_8 : decode cX8_digit 8 = .ok (.if_icmp .ge 18, 3) := by decide +kernel
theorem dX8_digit_11 : decode cX8_digit 11 = .ok (.aload_n 0, 1) := by decide +kernel
theorem dX8_digit_12 : decode cX8_digit 12 = .ok (.getfield 7, 3) := by decide +kernel
theorem dX8_digit_15 : decode cX8_digit 15 = .ok (.aload_n 0, 1) := by decide +kernel
theorem dX8_digit_16 : decode cX8_digit 16 = .ok (.getfield 155, 3) := by decide +kernel
theorem dX8_digit_19 : decode cX8_digit 19 = .ok (.iaload, 1) := by decide +kernel
theorem dX8_digit_20 : decode cX8_digit 20 = .ok (.bipush 48, 2) := by decide +kernel
theorem dX8_digit_22 : decode cX8_digit 22 = .ok (.isub, 1) := by decide +kernel
theorem dX8_digit_23 : decode cX8_digit 23 = .ok (.goto 4, 3) := by decide +kernel
theorem dX8_digit_26 : decode cX8_digit 26 = .ok (.iconst (-1), 1) := by decide +kernel
theorem dX8_digit_27 : decode cX8_digit 27 = .ok (.istore_n 1, 1) := by decide +kernel
theorem dX8_digit_28 : decode cX8_digit 28 = .ok (.iload_n 1, 1) := by decide +kernel
theorem dX8_digit_29 : decode cX8_digit 29 = .ok (.i2l, 1) := by decide +kernel
theorem dX8_digit_30 : decode cX8_digit 30 = .ok (.lconst 0, 1) := by decide +kernel
theorem dX8_digit_31 : decode cX8_digit 31 = .ok (.ldc2_w 162, 3) := by decide +kernel
theorem dX8_digit_34 : decode cX8_digit 34 = .ok (.invokestatic 140, 3) := by decide +kernel
theorem dX8_digit_37 : decode cX8_digit 37 = .ok (.ifCond .eq 7, 3) := by decide +kernel
theorem dX8_digit_40 : decode cX8_digit 40 = .ok (.iload_n 1, 1) := by decide +kernel
theorem dX8_digit_41 : decode cX8_digit 41 = .ok (.goto 4, 3) := by decide +kernel
theorem dX8_digit_44 : decode cX8_digit 44 = .ok (.iconst (-1), 1) := by decide +kernel
theorem dX8_digit_45 : decode cX8_digit 45 = .ok (.ireturn, 1) := by decide +kernel
set_option maxRecDepth 20000 in
theorem ggX8_number_X8_isNext : GoodIn wsX8_number wsX8_isNext := goodIn_r _ [6, 7, 8, 9, 22, 23, 24, 25, 26, 27, 28, 29, 30, 31, 32, 33, 34, 35, 36, 37, 38] (by decide +kernel) (by decide +kernel)
set_option maxRecDepth 20000 in
theorem gX8_number_X8_isNext : GoodIn wsX8_number (wsV RX8 164 RX8 yX8_isNext wsX8_isNext) := goodIn_app (goodIn_of _ (by decide +kernel)) ggX8_number_X8_isNext
set_option maxRecDepth 20000 in
theorem ggX8_number_X8_accept : GoodIn wsX8_number wsX8_accept := goodIn_r _ [13, 1, 7, 22, 23, 24, 25, 26, 27, 28, 29, 30, 31, 32, 33, 34, 35, 36, 37, 38] (by decide +kernel) (by decide +kernel)
set_option maxRecDepth 20000 in
theorem gX8_number_X8_accept : GoodIn wsX8_number (wsV RX8 167 RX8 yX8_accept wsX8_accept) := goodIn_app (goodIn_of _ (by decide +kernel)) ggX8_number_X8_accept
set_option maxRecDepth 20000 in
theorem ggX8_number_X8_digit : GoodIn wsX8_number wsX8_digit := goodIn_r _ [17, 7, 8, 9, 18, 19, 20, 5, 21, 22, 23, 24, 25, 26, 27, 28, 29, 30, 31, 32, 33, 34, 35, 36, 37, 38] (by decide +kernel) (by decide +kernel)
set_option maxRecDepth 20000 in
theorem gX8_number_X8_digit : GoodIn wsX8_number (wsV RX8 171 RX8 yX8_digit wsX8_digit) := goodIn_app (goodIn_of _ (by decide +kernel)) ggX8_number_X8_digit
set_option maxRecDepth 20000 in
theorem ggX8_number_X8_in : GoodIn wsX8_number wsX8_in := goodIn_r _ [21] (by decide +kernel) (by decide +kernel)
set_option maxRecDepth 20000 in
theorem gX8_number_X8_in : GoodIn wsX8_number (va_wsS RX8 140 yX8_in wsX8_in) := goodIn_app (goodIn_of _ (by decide +kernel)) ggX8_number_X8_in
theorem dX8_number_0 : decode cX8_number 0 = .ok (.aload_n 0, 1) := by decide +kernel
theorem dX8_number_1 : decode cX8_number 1 = .ok (.aload_n 0, 1) := by decide +kernel
theorem dX8_number_2 : decode cX8_number 2 = .ok (.bipush 44, 2) := by decide +kernel
theorem dX8_number_4 : decode cX8_number 4 = .ok (.invokevirtual 164, 3) := by decide +kernel
theorem dX8_number_7 : decode cX8_number 7 = .ok (.invokevirtual 167, 3) := by decide +kernel
theorem dX8_number_10 : decode cX8_number 10 = .ok (.aload_n 0, 1) := by decide +kernel
theorem dX8_number_11 : decode cX8_number 11 = .ok (.invokevirtual 171, 3) := by decide +kernel
theorem dX8_number_14 : decode cX8_number 14 = .ok (.istore_n 3, 1) := by decide +kernel
theorem dX8_number_15 : decode cX8_number 15 = .ok (.aload_n 0, 1) := by decide +kernel
theorem dX8_number_16 : decode cX8_number 16 = .ok (.iload_n 3, 1) := by decide +kernel
theorem dX8_number_17 : decode cX8_number 17 = .ok (.iconst (-1), 1) := by decide +kernel
theorem dX8_number_18 : decode cX8_number 18 = .ok (.if_icmp .eq 19, 3) := by decide +kernel
theorem dX8_number_21 : decode cX8_number 21 = .ok (.iload_n 3, 1) := by decide +kernel
theorem dX8_number_22 : decode cX8_number 22 = .ok (.i2l, 1) := by decide +kernel
theorem dX8_number_23 : decode cX8_number 23 = .ok (.iload_n 1, 1) := by decide +kernel
theorem dX8_number_24 : decode cX8_number 24 = .ok (.i2l, 1) := by decide +kernel
theorem dX8_number_25 : decode cX8_number 25 = .ok (.iload_n 2, 1) := by decide +kernel
theorem dX8_number_26 : decode cX8_number 26 = .ok (.i2l, 1) := by decide +kernel
theorem dX8_number_27 : decode cX8_number 27 = .ok (.invokestatic 140, 3) := by decide +kernel
theorem dX8_number_30 : decode cX8_number 30 = .ok (.ifCond .eq 7, 3) := by decide +kernel
theorem dX8_number_33 : decode cX8_number 33 = .ok (.iconst 1, 1) := by decide +kernel
theorem dX8_number_34 : decode cX8_number 34 = .ok (.goto 4, 3) := by decide +kernel
theorem dX8_number_37 : decode cX8_number 37 = .ok (.iconst 0, 1) := by decide +kernel
theorem dX8_number_38 : decode cX8_number 38 = .ok (.invokevirtual 167, 3) := by decide +kernel
theorem dX8_number_41 : decode cX8_number 41 = .ok (.aload_n 0, 1) := by decide +kernel
theorem dX8_number_42 : decode cX8_number 42 = .ok (.getfield 158, 3) := by decide +kernel
theorem dX8_number_45 : decode cX8_number 45 = .ok (.ifCond .eq 42, 3) := by decide +kernel
theorem dX8_number_48 : decode cX8_number 48 = .ok (.iload_n 3, 1) := by decide +kernel
theorem dX8_number_49 : decode cX8_number 49 = .ok (.ifCond .le 38, 3) := by decide +kernel
theorem dX8_number_52 : decode cX8_number 52 = .ok (.aload_n 0, 1) := by decide +kernel
theorem dX8_number_53 : decode cX8_number 53 = .ok (.invokevirtual 171, 3) := by decide +kernel
theorem dX8_number_56 : decode cX8_number 56 = .ok (.iconst (-1), 1) := by decide +kernel
theorem dX8_number_57 : decode cX8_number 57 = .ok (.if_icmp .eq 30, 3) := by decide +kernel
theorem dX8_number_60 : decode cX8_number 60 = .ok (.bipush 10, 2) := by decide +kernel
theorem dX8_number_62 : decode cX8_number 62 = .ok (.iload_n 3, 1) := by decide +kernel
theorem dX8_number_63 : decode cX8_number 63 = .ok (.imul, 1) := by decide +kernel
theorem dX8_number_64 : decode cX8_number 64 = .ok (.aload_n 0, 1) := by decide +kernel
theorem dX8_number_65 : decode cX8_number 65 = .ok (.invokevirtual 171, 3) := by decide +kernel
theorem dX8_number_68 : decode cX8_number 68 = .ok (.iadd, 1) := by decide +kernel
theorem dX8_number_69 : decode cX8_number 69 = .ok (.istore_n 3, 1) := by decide +kernel
theorem dX8_number_70 : decode cX8_number 70 = .ok (.aload_n 0, 1) := by decide +kernel
theorem dX8_number_71 : decode cX8_number 71 = .ok (.iload_n 3, 1) := by decide +kernel
theorem dX8_number_72 : decode cX8_number 72 = .ok (.iload_n 2, 1) := by decide +kernel
theorem dX8_number_73 : decode cX8_number 73 = .ok (.if_icmp .gt 7, 3) := by decide +kernel
theorem dX8_number_76 : decode cX8_number 76 = .ok (.iconst 1, 1) := by decide +kernel
theorem dX8_number_77 : decode cX8_number 77 = .ok (.goto 4, 3) := by decide +kernel
theorem dX8_number_80 : decode cX8_number 80 = .ok (.iconst 0, 1) := by decide +kernel
theorem dX8_number_81 : decode cX8_number 81 = .ok (.invokevirtual 167, 3) := by decide +kernel
theorem dX8_number_84 : decode cX8_number 84 = .ok (.goto (-43), 3) := by decide +kernel
theorem dX8_number_87 : decode cX8_number 87 = .ok (.iload_n 3, 1) := by decide +kernel
theorem dX8_number_88 : decode cX8_number 88 = .ok (.ireturn, 1) := by decide +kernel
theorem dX8_goes_0 : decode cX8_goes 0 = .ok (.aload_n 0, 1) := by decide +kernel
theorem dX8_goes_1 : decode cX8_goes 1 = .ok (.dup, 1) := by decide +kernel
theorem dX8_goes_2 : decode cX8_goes 2 = .ok (.getfield 175, 3) := by decide +kernel
theorem dX8_goes_5 : decode cX8_goes 5 = .ok (.aload_n 0, 1) := by decide +kernel
theorem dX8_goes_6 : decode cX8_goes 6 = .ok (.getfield 158, 3) := by decide +kernel
theorem dX8_goes_9 : decode cX8_goes 9 = .ok (.ifCond .eq 11, 3) := by decide +kernel
