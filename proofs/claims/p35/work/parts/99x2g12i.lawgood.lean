/-! ===== words of the law, piece 8 ===== -/
set_option maxHeartbeats 4000000 in
set_option maxRecDepth 20000 in
theorem ggP_load_4 : GoodIn wsL_law ((((((wsB_load).drop 60).drop 60).drop 60).drop 60).take 60) := goodIn_r _ [417, 418, 419, 420, 421, 422, 423, 424, 1021, 724, 725, 726, 119, 727, 728, 729, 730, 731, 732, 733, 734, 1022, 740, 741, 742, 1023, 379, 380, 381, 118, 382, 383, 384, 385, 386, 232, 233, 234, 235, 236, 237, 238, 239, 240, 241, 242, 387, 181, 182, 183, 184, 185, 186, 187, 388, 389, 390, 391, 392, 393] (by decide +kernel) (by decide +kernel)
set_option maxHeartbeats 4000000 in
set_option maxRecDepth 20000 in
theorem ggP_load_5 : GoodIn wsL_law (((((((wsB_load).drop 60).drop 60).drop 60).drop 60).drop 60).take 60) := goodIn_r _ [394, 395, 425, 426, 427, 428, 429, 168, 169, 170, 171, 172, 173, 174, 430, 431, 432, 433, 434, 435, 436, 437, 442, 443, 444, 445, 446, 447, 448, 449, 450, 451, 452, 453, 454, 455, 456, 457, 458, 459, 460, 461, 462, 463, 464, 465, 466, 467, 468, 469, 470, 471, 472, 473, 1024, 1044, 1045, 1046, 1047, 1048] (by decide +kernel) (by decide +kernel)
set_option maxHeartbeats 4000000 in
set_option maxRecDepth 20000 in
theorem ggP_load_6 : GoodIn wsL_law (((((((wsB_load).drop 60).drop 60).drop 60).drop 60).drop 60).drop 60) := goodIn_r _ [1049, 1050, 1074, 1075, 1051, 1052, 1053, 1054, 1055, 1056, 1057, 1058, 1059, 1060, 1061, 1062, 1063, 1064, 1065, 1066, 1067, 1068, 1069, 1070, 1076, 1077, 1078, 1079, 1071, 1072, 1073] (by decide +kernel) (by decide +kernel)
set_option maxHeartbeats 4000000 in
set_option maxRecDepth 20000 in
theorem ggB_load : GoodIn wsL_law wsB_load := goodIn_td 60 ggP_load_0 (goodIn_td 60 ggP_load_1 (goodIn_td 60 ggP_load_2 (goodIn_td 60 ggP_load_3 (goodIn_td 60 ggP_load_4 (goodIn_td 60 ggP_load_5 ggP_load_6)))))
set_option maxHeartbeats 4000000 in
set_option maxRecDepth 20000 in
theorem ggL_law_L_load : GoodIn wsL_law wsL_load := goodIn_ca ggB_load (goodIn_sub (fun _ h => List.mem_append_right _ h) (by decide +kernel))
set_option maxHeartbeats 4000000 in
set_option maxRecDepth 20000 in
theorem gL_law_L_load : GoodIn wsL_law (va_wsS RL 280 yL_load wsL_load) := goodIn_app (goodIn_of _ (by decide +kernel)) ggL_law_L_load
