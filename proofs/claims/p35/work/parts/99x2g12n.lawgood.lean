/-! ===== words of the law, piece 13 ===== -/
set_option maxHeartbeats 4000000 in
set_option maxRecDepth 20000 in
theorem ggP_follows_8 : GoodIn wsL_law (((((((((wsB_follows).drop 60).drop 60).drop 60).drop 60).drop 60).drop 60).drop 60).drop 60) := goodIn_r _ [854, 855, 856, 857, 858, 859, 860, 861, 862, 863, 864, 865, 866, 867, 868, 869, 870, 938, 939, 940, 941, 942, 943, 944, 945, 946, 947, 948, 1044, 1045, 1046, 1047, 1048, 1049, 1050, 1056, 1057, 1058, 1059, 1060, 1061, 1062, 1063, 1064, 1065, 1066, 1067, 1068, 1069, 1070, 1076, 1077, 1078, 1079, 1074, 1075, 1071, 1072, 1073] (by decide +kernel) (by decide +kernel)
set_option maxHeartbeats 4000000 in
set_option maxRecDepth 20000 in
theorem ggB_follows : GoodIn wsL_law wsB_follows := goodIn_td 60 ggP_follows_0 (goodIn_td 60 ggP_follows_1 (goodIn_td 60 ggP_follows_2 (goodIn_td 60 ggP_follows_3 (goodIn_td 60 ggP_follows_4 (goodIn_td 60 ggP_follows_5 (goodIn_td 60 ggP_follows_6 (goodIn_td 60 ggP_follows_7 ggP_follows_8)))))))
set_option maxHeartbeats 4000000 in
set_option maxRecDepth 20000 in
theorem ggL_law_L_follows : GoodIn wsL_law wsL_follows := goodIn_ca (goodIn_ca (goodIn_ca ggB_follows (goodIn_sub (fun _ h => List.mem_append_left _ (List.mem_append_left _ (List.mem_append_right _ h))) (by decide +kernel))) (goodIn_sub (fun _ h => List.mem_append_left _ (List.mem_append_right _ h)) (by decide +kernel))) (goodIn_sub (fun _ h => List.mem_append_right _ h) (by decide +kernel))
set_option maxHeartbeats 4000000 in
set_option maxRecDepth 20000 in
theorem gL_law_L_follows : GoodIn wsL_law (va_wsS RL 285 yL_follows wsL_follows) := goodIn_app (goodIn_of _ (by decide +kernel)) ggL_law_L_follows
set_option maxHeartbeats 4000000 in
set_option maxRecDepth 20000 in
theorem ggL_law_L_save : GoodIn wsL_law wsL_save := goodIn_ca (goodIn_td 60 (goodIn_r _ [927, 138, 139, 928, 929, 930, 2, 931, 144, 145, 932, 17, 933, 485, 109, 110, 111, 934, 935, 936, 937, 25, 26, 360, 361, 362, 16, 363, 117, 116, 39, 364, 365, 366, 367, 40, 41, 42, 43, 44, 45, 46, 202, 50, 54, 55, 63, 368, 369, 370, 49, 371, 162, 67, 372, 373, 374, 375, 53, 376] (by decide +kernel) (by decide +kernel)) (goodIn_r _ [179, 71, 377, 1074, 1075, 1044, 1045, 1046, 1047, 1048, 1049, 1050, 1056, 1057, 1058, 1059, 1060, 1061, 1062, 1063, 1064, 1065, 1066, 1067, 1068, 1069, 1070, 1076, 1077, 1078, 1079] (by decide +kernel) (by decide +kernel))) (goodIn_sub (fun _ h => List.mem_append_left _ (List.mem_append_right _ h)) (by decide +kernel))
set_option maxHeartbeats 4000000 in
set_option maxRecDepth 20000 in
theorem gL_law_L_save : GoodIn wsL_law (va_wsS RL 196 yL_save wsL_save) := goodIn_app (goodIn_of _ (by decide +kernel)) ggL_law_L_save
set_option maxHeartbeats 4000000 in
set_option maxRecDepth 20000 in
theorem ggL_law_L_restore : GoodIn wsL_law wsL_restore := goodIn_ca (goodIn_ca (goodIn_td 60 (goodIn_r _ [940, 138, 477, 139, 478, 941, 942, 943, 2, 944, 144, 145, 483, 484, 933, 17, 932, 21, 485, 109, 110, 111, 934, 935, 936, 937, 25, 26, 360, 361, 362, 16, 363, 117, 116, 39, 364, 365, 366, 367, 40, 41, 42, 43, 44, 45, 46, 202, 50, 54, 55, 63, 368, 369, 370, 49, 371, 162, 67, 372] (by decide +kernel) (by decide +kernel)) (goodIn_r _ [373, 374, 375, 53, 376, 179, 71, 377, 945, 946, 947, 20, 948, 812, 1074, 1075, 1044, 1045, 1046, 1047, 1048, 1049, 1050, 1056, 1057, 1058, 1059, 1060, 1061, 1062, 1063, 1064, 1065, 1066, 1067, 1068, 1069, 1070, 1076, 1077, 1078, 1079, 1071, 1072, 1073] (by decide +kernel) (by decide +kernel))) (goodIn_sub (fun _ h => List.mem_append_left _ (List.mem_append_right _ h)) (by decide +kernel))) (goodIn_sub (fun _ h => List.mem_append_right _ h) (by decide +kernel))
set_option maxHeartbeats 4000000 in
set_option maxRecDepth 20000 in
theorem gL_law_L_restore : GoodIn wsL_law (va_wsS RL 198 yL_restore wsL_restore) := goodIn_app (goodIn_of _ (by decide +kernel)) ggL_law_L_restore
