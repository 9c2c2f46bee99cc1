/-! ===== words of the law, piece 3 ===== -/
set_option maxHeartbeats 4000000 in
set_option maxRecDepth 20000 in
theorem ggP_errors_12 : GoodIn wsL_law ((((((((((((((wsB_errors).drop 60).drop 60).drop 60).drop 60).drop 60).drop 60).drop 60).drop 60).drop 60).drop 60).drop 60).drop 60).take 60) := goodIn_r _ [499, 351, 352, 353, 354, 355, 356, 357, 27, 358, 359, 360, 474, 475, 476, 479, 480, 481, 482, 485, 486, 487, 488, 489, 490, 753, 754, 755, 756, 757, 758, 759, 760, 761, 762, 708, 763, 764, 765, 766, 767, 710, 768, 769, 770, 711, 723, 735, 739, 771, 752, 775, 776, 696, 697, 698, 699, 700, 701, 702] (by decide +kernel) (by decide +kernel)
set_option maxHeartbeats 4000000 in
set_option maxRecDepth 20000 in
theorem ggP_errors_13 : GoodIn wsL_law (((((((((((((((wsB_errors).drop 60).drop 60).drop 60).drop 60).drop 60).drop 60).drop 60).drop 60).drop 60).drop 60).drop 60).drop 60).drop 60).take 60) := goodIn_r _ [703, 704, 705, 706, 707, 709, 743, 925, 926, 927, 928, 929, 930, 931, 932, 933, 934, 935, 936, 937, 25, 26, 938, 939, 940, 941, 942, 943, 944, 945, 946, 947, 948, 949, 950, 951, 952, 953, 954, 955, 13, 956, 957, 958, 12, 959, 253, 960, 961, 962, 963, 33, 1044, 1045, 1046, 1047, 1048, 1049, 1050, 1056] (by decide +kernel) (by decide +kernel)
set_option maxHeartbeats 4000000 in
set_option maxRecDepth 20000 in
theorem ggP_errors_14 : GoodIn wsL_law (((((((((((((((wsB_errors).drop 60).drop 60).drop 60).drop 60).drop 60).drop 60).drop 60).drop 60).drop 60).drop 60).drop 60).drop 60).drop 60).drop 60) := goodIn_r _ [1057, 1058, 1059, 1060, 1061, 1062, 1063, 1064, 1065, 1066, 1067, 1068, 1069, 1070, 1076, 1077, 1078, 1079, 1080, 1081, 1082, 1083, 1071, 1072, 1073, 1074, 1075, 1051, 1052, 1053, 1054, 1055] (by decide +kernel) (by decide +kernel)
set_option maxHeartbeats 4000000 in
set_option maxRecDepth 20000 in
theorem ggB_errors : GoodIn wsL_law wsB_errors := goodIn_td 60 ggP_errors_0 (goodIn_td 60 ggP_errors_1 (goodIn_td 60 ggP_errors_2 (goodIn_td 60 ggP_errors_3 (goodIn_td 60 ggP_errors_4 (goodIn_td 60 ggP_errors_5 (goodIn_td 60 ggP_errors_6 (goodIn_td 60 ggP_errors_7 (goodIn_td 60 ggP_errors_8 (goodIn_td 60 ggP_errors_9 (goodIn_td 60 ggP_errors_10 (goodIn_td 60 ggP_errors_11 (goodIn_td 60 ggP_errors_12 (goodIn_td 60 ggP_errors_13 ggP_errors_14)))))))))))))
set_option maxHeartbeats 4000000 in
set_option maxRecDepth 20000 in
theorem ggL_law_L_errors : GoodIn wsL_law wsL_errors := goodIn_ca (goodIn_ca (goodIn_ca ggB_errors (goodIn_sub (fun _ h => List.mem_append_left _ (List.mem_append_left _ (List.mem_append_right _ h))) (by decide +kernel))) (goodIn_sub (fun _ h => List.mem_append_left _ (List.mem_append_right _ h)) (by decide +kernel))) (goodIn_sub (fun _ h => List.mem_append_right _ h) (by decide +kernel))
set_option maxHeartbeats 4000000 in
set_option maxRecDepth 20000 in
theorem gL_law_L_errors : GoodIn wsL_law (va_wsS RL 269 yL_errors wsL_errors) := goodIn_app (goodIn_of _ (by decide +kernel)) ggL_law_L_errors
