/-! ===== words of the law, piece 10 ===== -/
set_option maxHeartbeats 4000000 in
set_option maxRecDepth 20000 in
theorem ggP_act_4 : GoodIn wsL_law ((((((wsB_act).drop 60).drop 60).drop 60).drop 60).take 60) := goodIn_r _ [868, 869, 870, 744, 745, 746, 429, 168, 169, 170, 748, 749, 750, 751, 871, 872, 873, 874, 875, 876, 877, 878, 740, 741, 742, 879, 880, 881, 882, 883, 884, 885, 886, 772, 773, 774, 887, 888, 889, 890, 891, 892, 893, 894, 724, 725, 726, 727, 728, 729, 730, 731, 732, 733, 734, 902, 903, 904, 905, 906] (by decide +kernel) (by decide +kernel)
set_option maxHeartbeats 4000000 in
set_option maxRecDepth 20000 in
theorem ggP_act_5 : GoodIn wsL_law (((((((wsB_act).drop 60).drop 60).drop 60).drop 60).drop 60).take 60) := goodIn_r _ [907, 908, 909, 910, 911, 912, 913, 914, 915, 133, 134, 56, 1028, 1029, 1030, 1031, 1032, 1033, 1034, 1035, 1036, 1037, 1038, 1039, 925, 926, 927, 928, 929, 930, 931, 932, 933, 485, 934, 935, 936, 937, 25, 26, 360, 938, 939, 940, 941, 942, 943, 944, 945, 946, 947, 948, 895, 896, 897, 898, 899, 900, 901, 378] (by decide +kernel) (by decide +kernel)
set_option maxHeartbeats 4000000 in
set_option maxRecDepth 20000 in
theorem ggP_act_6 : GoodIn wsL_law ((((((((wsB_act).drop 60).drop 60).drop 60).drop 60).drop 60).drop 60).take 60) := goodIn_r _ [379, 380, 381, 382, 383, 384, 385, 386, 232, 233, 234, 235, 236, 237, 238, 239, 240, 241, 242, 387, 181, 182, 183, 184, 185, 186, 187, 388, 389, 390, 391, 392, 393, 394, 395, 425, 426, 427, 428, 430, 431, 432, 433, 442, 443, 444, 445, 446, 447, 448, 449, 450, 451, 452, 453, 454, 455, 456, 457, 458] (by decide +kernel) (by decide +kernel)
set_option maxHeartbeats 4000000 in
set_option maxRecDepth 20000 in
theorem ggP_act_7 : GoodIn wsL_law ((((((((wsB_act).drop 60).drop 60).drop 60).drop 60).drop 60).drop 60).drop 60) := goodIn_r _ [459, 460, 461, 462, 463, 464, 465, 466, 467, 468, 469, 470, 471, 472, 473, 1044, 1045, 1046, 1047, 1048, 1049, 1050, 1056, 1057, 1058, 1059, 1060, 1061, 1062, 1063, 1064, 1065, 1066, 1067, 1068, 1069, 1070, 1076, 1077, 1078, 1079, 1071, 1072, 1073, 1074, 1075] (by decide +kernel) (by decide +kernel)
set_option maxHeartbeats 4000000 in
set_option maxRecDepth 20000 in
theorem ggB_act : GoodIn wsL_law wsB_act := goodIn_td 60 ggP_act_0 (goodIn_td 60 ggP_act_1 (goodIn_td 60 ggP_act_2 (goodIn_td 60 ggP_act_3 (goodIn_td 60 ggP_act_4 (goodIn_td 60 ggP_act_5 (goodIn_td 60 ggP_act_6 ggP_act_7))))))
set_option maxHeartbeats 4000000 in
set_option maxRecDepth 20000 in
theorem ggL_law_L_act : GoodIn wsL_law wsL_act := goodIn_ca (goodIn_ca (goodIn_ca ggB_act (goodIn_sub (fun _ h => List.mem_append_left _ (List.mem_append_left _ (List.mem_append_right _ h))) (by decide +kernel))) (goodIn_sub (fun _ h => List.mem_append_left _ (List.mem_append_right _ h)) (by decide +kernel))) (goodIn_sub (fun _ h => List.mem_append_right _ h) (by decide +kernel))
set_option maxHeartbeats 4000000 in
set_option maxRecDepth 20000 in
theorem gL_law_L_act : GoodIn wsL_law (va_wsS RL 282 yL_act wsL_act) := goodIn_app (goodIn_of _ (by decide +kernel)) ggL_law_L_act
