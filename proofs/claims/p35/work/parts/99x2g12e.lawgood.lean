/-! ===== words of the law, piece 4 ===== -/
set_option maxHeartbeats 4000000 in
set_option maxRecDepth 20000 in
theorem ggP_follows_2 : GoodIn wsL_law ((((wsR_follows).drop 60).drop 60).take 60) := goodIn_r _ [187, 71, 188, 189, 190, 191, 192, 193, 194, 195, 196, 197, 198, 199, 200, 201, 45, 202, 203, 204, 205, 206, 207, 208, 209, 210, 211, 212, 213, 214, 215, 216, 217, 218, 219, 220, 221, 222, 223, 224, 225, 226, 227, 228, 229, 230, 231, 232, 233, 234, 235, 236, 237, 238, 239, 240, 241, 242, 243, 925] (by decide +kernel) (by decide +kernel)
set_option maxHeartbeats 4000000 in
set_option maxRecDepth 20000 in
theorem ggP_follows_3 : GoodIn wsL_law (((((wsR_follows).drop 60).drop 60).drop 60).take 60) := goodIn_r _ [926, 927, 928, 929, 930, 931, 932, 933, 485, 934, 935, 936, 937, 25, 26, 360, 361, 362, 363, 364, 365, 366, 367, 63, 368, 369, 370, 371, 372, 373, 374, 375, 376, 377, 696, 697, 698, 699, 700, 701, 702, 27, 703, 704, 359, 705, 706, 707, 708, 709, 710, 711, 712, 713, 714, 438, 439, 440, 441, 715] (by decide +kernel) (by decide +kernel)
set_option maxHeartbeats 4000000 in
set_option maxRecDepth 20000 in
theorem ggP_follows_4 : GoodIn wsL_law ((((((wsR_follows).drop 60).drop 60).drop 60).drop 60).take 60) := goodIn_r _ [716, 717, 718, 719, 720, 721, 722, 400, 401, 402, 403, 404, 405, 406, 407, 408, 409, 410, 411, 396, 397, 398, 399, 412, 413, 414, 415, 416, 417, 418, 419, 420, 421, 422, 423, 424, 723, 724, 725, 726, 727, 728, 729, 730, 731, 732, 733, 734, 735, 736, 737, 738, 739, 740, 741, 742, 743, 744, 745, 746] (by decide +kernel) (by decide +kernel)
set_option maxHeartbeats 4000000 in
set_option maxRecDepth 20000 in
theorem ggP_follows_5 : GoodIn wsL_law (((((((wsR_follows).drop 60).drop 60).drop 60).drop 60).drop 60).take 60) := goodIn_r _ [747, 429, 748, 749, 750, 751, 752, 379, 380, 381, 382, 383, 384, 385, 386, 387, 388, 389, 390, 391, 392, 393, 394, 395, 425, 426, 427, 428, 430, 431, 432, 433, 434, 435, 436, 437, 442, 443, 444, 445, 446, 447, 448, 449, 450, 451, 452, 453, 454, 455, 456, 457, 458, 459, 460, 461, 462, 463, 464, 465] (by decide +kernel) (by decide +kernel)
set_option maxHeartbeats 4000000 in
set_option maxRecDepth 20000 in
theorem ggP_follows_6 : GoodIn wsL_law ((((((((wsR_follows).drop 60).drop 60).drop 60).drop 60).drop 60).drop 60).take 60) := goodIn_r _ [466, 467, 468, 469, 470, 471, 472, 473, 351, 352, 353, 354, 355, 356, 357, 358, 378, 895, 896, 897, 898, 899, 900, 901, 21, 790, 791, 792, 20, 793, 794, 795, 796, 797, 798, 77, 799, 804, 805, 806, 807, 483, 484, 808, 809, 810, 811, 812, 813, 576, 269, 577, 1028, 1029, 1030, 477, 1031, 1032, 1033, 1034] (by decide +kernel) (by decide +kernel)
set_option maxHeartbeats 4000000 in
set_option maxRecDepth 20000 in
theorem ggP_follows_7 : GoodIn wsL_law (((((((((wsR_follows).drop 60).drop 60).drop 60).drop 60).drop 60).drop 60).drop 60).take 60) := goodIn_r _ [1035, 1036, 1037, 1038, 1039, 474, 475, 476, 479, 480, 481, 482, 486, 487, 488, 489, 490, 491, 492, 493, 494, 495, 496, 497, 498, 499, 916, 917, 918, 919, 920, 921, 922, 923, 924, 844, 845, 846, 847, 848, 849, 850, 851, 984, 985, 986, 879, 880, 881, 882, 883, 884, 885, 886, 772, 773, 774, 852, 853, 854] (by decide +kernel) (by decide +kernel)
set_option maxHeartbeats 4000000 in
set_option maxRecDepth 20000 in
theorem ggP_follows_8 : GoodIn wsL_law (((((((((wsR_follows).drop 60).drop 60).drop 60).drop 60).drop 60).drop 60).drop 60).drop 60) := goodIn_r _ [855, 856, 857, 858, 859, 860, 861, 862, 863, 864, 865, 866, 867, 868, 869, 870, 938, 939, 940, 941, 942, 943, 944, 945, 946, 947, 948, 1044, 1045, 1046, 1047, 1048, 1049, 1050, 1056, 1057, 1058, 1059, 1060, 1061, 1062, 1063, 1064, 1065, 1066, 1067, 1068, 1069, 1070, 1076, 1077, 1078, 1079, 1074, 1075, 1071, 1072, 1073] (by decide +kernel) (by decide +kernel)
set_option maxHeartbeats 4000000 in
set_option maxRecDepth 20000 in
theorem ggR_follows : GoodIn wsL_law wsR_follows := goodIn_td 60 ggP_follows_0 (goodIn_td 60 ggP_follows_1 (goodIn_td 60 ggP_follows_2 (goodIn_td 60 ggP_follows_3 (goodIn_td 60 ggP_follows_4 (goodIn_td 60 ggP_follows_5 (goodIn_td 60 ggP_follows_6 (goodIn_td 60 ggP_follows_7 ggP_follows_8)))))))
set_option maxHeartbeats 4000000 in
set_option maxRecDepth 20000 in
theorem ggB_follows : GoodIn wsL_law wsB_follows := goodIn_app (a := [_]) ggH_follows ggR_follows
set_option maxHeartbeats 4000000 in
set_option maxRecDepth 20000 in
theorem ggL_law_L_follows : GoodIn wsL_law wsL_follows := goodIn_ca (goodIn_ca (goodIn_ca ggB_follows (goodIn_sub (fun _ h => List.mem_append_left _ (List.mem_append_left _ (List.mem_append_right _ h))) (by decide +kernel))) (goodIn_sub (fun _ h => List.mem_append_left _ (List.mem_append_right _ h)) (by decide +kernel))) (goodIn_sub (fun _ h => List.mem_append_right _ h) (by decide +kernel))
set_option maxHeartbeats 4000000 in
set_option maxRecDepth 20000 in
theorem gL_law_L_follows : GoodIn wsL_law (va_wsS RL 285 yL_follows wsL_follows) := goodIn_app (goodIn_of _ (by decide +kernel)) ggL_law_L_follows
set_option maxHeartbeats 4000000 in
set_option maxRecDepth 20000 in
theorem ggL_law_L_save : GoodIn wsL_law wsL_save := goodIn_ca (goodIn_td 60 (goodIn_r _ [927, 138, 139, 928, 929, 930, 2, 931, 144, 145, 932, 17, 933, 485, 109, 110, 111, 934, 935, 936, 937, 25, 26, 360, 361, 362, 16, 363, 117, 116, 39, 364, 365, 366, 367, 40, 41, 42, 43, 44, 45, 46, 202, 50, 54, 55, 63, 368, 369, 370, 49, 371, 162, 67, 372, 373, 374, 375, 53, 376] (by decide +kernel) (by decide +kernel)) (goodIn_r _ [179, 71, 377, 1074, 1075, 1044, 1045, 1046, 1047, 1048, 1049, 1050, 1056, 1057, 1058, 1059, 1060, 1061, 1062, 1063, 1064, 1065, 1066, 1067, 1068, 1069, 1070, 1076, 1077, 1078, 1079] (by decide +kernel) (by decide +kernel))) (goodIn_sub (fun _ h => List.mem_append_left _ (List.mem_append_right _ h)) (by decide +kernel))
set_option maxHeartbeats 4000000 in
set_option maxRecDepth 20000 in
theorem gL_law_L_save : GoodIn wsL_law (va_wsS RL 196 yL_save wsL_save) := goodIn_app (goodIn_of _ (by decide +kernel)) ggL_law_L_save
set_option maxHeartbeats 4000000 in
set_option maxRecDepth 20000 in
theorem ggL_law_L_restore : GoodIn wsL_law wsL_restore := goodIn_ca (goodIn_ca (goodIn_td 60 (goodIn_r _ [940, 138, 477, 139, 478, 941, 942, 943, 2, 944, 144, 145, 483, 484, 933, 17, 932, 21, 485, 109, 110, 111, 934, 935, 936, 937, 25, 26, 360, 361, 362, 16, 363, 117, 116, 39, 364, 365, 366, 367, 40, 41, 42, 43, 44, 45, 46, 202, 50, 54, 55, 63, 368, 369, 370, 49, 371, 162, 67, 372] (by decide +kernel) (by decide +kernel)) (goodIn_r _ [373, 374, 375, 53, 376, 179, 71, 377, 945, 946, 947, 20, 948, 812, 1074, 1075, 1044, 1045, 1046, 1047, 1048, 1049, 1050, 1056, 1057, 1058, 1059, 1060, 1061, 1062, 1063, 1064, 1065, 1066, 1067, 1068, 1069, 1070, 1076, 1077, 1078, 1079, 1071, 1072, 1073] (by decide +kernel) (by decide +kernel))) (goodIn_sub (fun _ h => List.mem_append_left _ (List.mem_append_right _ h)) (by decide +kernel))) (goodIn_sub (fun _ h => List.mem_append_right _ h) (by decide +kernel))
set_option maxHeartbeats 4000000 in
set_option maxRecDepth 20000 in
theorem gL_law_L_restore : GoodIn wsL_law (va_wsS RL 198 yL_restore wsL_restore) := goodIn_app (goodIn_of _ (by decide +kernel)) ggL_law_L_restore
