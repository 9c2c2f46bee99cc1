/-! ===== words of the law, piece 5 ===== -/
set_option maxHeartbeats 4000000 in
set_option maxRecDepth 20000 in
theorem ggP_kept_4 : GoodIn wsL_law ((((((wsB_kept).drop 60).drop 60).drop 60).drop 60).take 60) := goodIn_r _ [576, 577, 578, 365, 366, 367, 579, 580, 581, 582, 583, 584, 585, 586, 587, 588, 589, 590, 591, 328, 592, 593, 594, 321, 322, 323, 595, 596, 281, 597, 309, 598, 599, 312, 600, 601, 602, 603, 604, 605, 606, 607, 608, 329, 330, 609, 610, 611, 612, 613, 614, 615, 616, 617, 618, 304, 619, 620, 621, 622] (by decide +kernel) (by decide +kernel)
set_option maxHeartbeats 4000000 in
set_option maxRecDepth 20000 in
theorem ggP_kept_5 : GoodIn wsL_law (((((((wsB_kept).drop 60).drop 60).drop 60).drop 60).drop 60).take 60) := goodIn_r _ [623, 624, 625, 626, 627, 628, 629, 630, 631, 632, 633, 634, 635, 636, 637, 638, 639, 640, 641, 642, 318, 319, 320, 324, 307, 308, 310, 311, 313, 643, 644, 645, 646, 647, 648, 649, 650, 651, 652, 653, 654, 655, 656, 657, 658, 659, 279, 280, 282, 283, 284, 285, 286, 287, 288, 289, 660, 661, 662, 663] (by decide +kernel) (by decide +kernel)
set_option maxHeartbeats 4000000 in
set_option maxRecDepth 20000 in
theorem ggP_kept_6 : GoodIn wsL_law ((((((((wsB_kept).drop 60).drop 60).drop 60).drop 60).drop 60).drop 60).take 60) := goodIn_r _ [664, 665, 666, 667, 668, 669, 670, 671, 672, 673, 674, 675, 676, 446, 447, 448, 449, 450, 451, 452, 453, 677, 678, 679, 680, 681, 682, 683, 684, 685, 686, 687, 688, 689, 690, 691, 692, 693, 694, 695, 326, 327, 222, 223, 224, 225, 226, 227, 228, 229, 230, 231, 232, 233, 234, 235, 236, 237, 238, 239] (by decide +kernel) (by decide +kernel)
set_option maxHeartbeats 4000000 in
set_option maxRecDepth 20000 in
theorem ggP_kept_7 : GoodIn wsL_law ((((((((wsB_kept).drop 60).drop 60).drop 60).drop 60).drop 60).drop 60).drop 60) := goodIn_r _ [240, 241, 242, 243, 1044, 1045, 1046, 1047, 1048, 1049, 1050, 1056, 1057, 1058, 1059, 1060, 1061, 1062, 1063, 1064, 1065, 1066, 1067, 1068, 1069, 1070, 1076, 1077, 1078, 1079, 1080, 1081, 1082, 1083] (by decide +kernel) (by decide +kernel)
set_option maxHeartbeats 4000000 in
set_option maxRecDepth 20000 in
theorem ggB_kept : GoodIn wsL_law wsB_kept := goodIn_td 60 ggP_kept_0 (goodIn_td 60 ggP_kept_1 (goodIn_td 60 ggP_kept_2 (goodIn_td 60 ggP_kept_3 (goodIn_td 60 ggP_kept_4 (goodIn_td 60 ggP_kept_5 (goodIn_td 60 ggP_kept_6 ggP_kept_7))))))
set_option maxHeartbeats 4000000 in
set_option maxRecDepth 20000 in
theorem ggL_law_L_kept : GoodIn wsL_law wsL_kept := goodIn_ca (goodIn_ca ggB_kept (goodIn_sub (fun _ h => List.mem_append_left _ (List.mem_append_left _ (List.mem_append_right _ h))) (by decide +kernel))) (goodIn_sub (fun _ h => List.mem_append_left _ (List.mem_append_right _ h)) (by decide +kernel))
set_option maxHeartbeats 4000000 in
set_option maxRecDepth 20000 in
theorem gL_law_L_kept : GoodIn wsL_law (va_wsS RL 273 yL_kept wsL_kept) := goodIn_app (goodIn_of _ (by decide +kernel)) ggL_law_L_kept
