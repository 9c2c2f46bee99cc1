/-! ===== words of the law, 3 ===== -/
set_option maxRecDepth 20000 in
theorem ggL_law_L_wishAt : GoodIn wsL_law wsL_wishAt := goodIn_ca (goodIn_r _ [981, 107, 982, 983, 984, 2, 985, 113, 114, 21, 986, 987, 988, 561, 562, 57, 563, 450, 564, 565, 566, 567, 568, 569, 570, 571, 75, 989, 577, 578, 579, 1420, 1421, 1422, 1423, 1424, 1425, 1426, 1449, 1450, 1451, 1452, 1453, 1454, 1455, 1456, 1457, 1458, 1459, 1460, 1461, 1462, 1463, 1471, 1472] (by decide +kernel) (by decide +kernel)) (goodIn_sub (fun _ h => List.mem_append_left _ (List.mem_append_left _ (List.mem_append_right _ h))) (by decide +kernel))
set_option maxRecDepth 20000 in
theorem gL_law_L_wishAt : GoodIn wsL_law (va_wsS RL 154 yL_wishAt wsL_wishAt) := goodIn_app (goodIn_of _ (by decide +kernel)) ggL_law_L_wishAt
set_option maxRecDepth 20000 in
theorem ggL_law_X8_wishAt : GoodIn wsL_law wsX8_wishAt := goodIn_r _ [993, 93, 99, 138, 139, 140, 5, 141, 142, 396, 397, 398, 399, 400, 401, 402, 308, 309, 310, 1427, 1428, 1429, 1430, 1431, 1432, 1433, 1434, 1435, 1436, 1437, 1438, 1439, 1440, 1441, 1442, 1443] (by decide +kernel) (by decide +kernel)
set_option maxRecDepth 20000 in
theorem gL_law_X8_wishAt : GoodIn wsL_law (wsV RL 156 RX8 yX8_wishAt wsX8_wishAt) := goodIn_app (goodIn_of _ (by decide +kernel)) ggL_law_X8_wishAt
set_option maxRecDepth 20000 in
theorem ggL_law_L_setting : GoodIn wsL_law wsL_setting := goodIn_ca (goodIn_r _ [996, 107, 997, 998, 999, 2, 1000, 113, 114, 21, 1001, 1002, 1003, 20, 1004, 60, 1420, 1421, 1422, 1423, 1424, 1425, 1426, 1449, 1450, 1451, 1452, 1453, 1454, 1455, 1456, 1457, 1458, 1459, 1460, 1461, 1462, 1463] (by decide +kernel) (by decide +kernel)) (goodIn_sub (fun _ h => List.mem_append_left _ (List.mem_append_left _ (List.mem_append_right _ h))) (by decide +kernel))
set_option maxRecDepth 20000 in
theorem gL_law_L_setting : GoodIn wsL_law (va_wsS RL 157 yL_setting wsL_setting) := goodIn_app (goodIn_of _ (by decide +kernel)) ggL_law_L_setting
set_option maxRecDepth 20000 in
theorem ggL_law_X8_setting : GoodIn wsL_law wsX8_setting := goodIn_r _ [1008, 757, 93, 135, 136, 5, 137, 138, 139, 140, 141, 142, 1427, 1428, 1429, 1430, 1431, 1432, 1433, 1434, 1435, 1436, 1437, 1438, 1439, 1440, 1441, 1442, 1443] (by decide +kernel) (by decide +kernel)
set_option maxRecDepth 20000 in
theorem gL_law_X8_setting : GoodIn wsL_law (wsV RL 159 RX8 yX8_setting wsX8_setting) := goodIn_app (goodIn_of _ (by decide +kernel)) ggL_law_X8_setting
set_option maxRecDepth 20000 in
theorem ggL_law_L_addPrisoner : GoodIn wsL_law wsL_addPrisoner := goodIn_ca (goodIn_ca (goodIn_ca (goodIn_td 60 (goodIn_r _ [1011, 107, 108, 1012, 1013, 1014, 2, 1015, 25, 21, 1016, 1017, 1018, 24, 1019, 1020, 1021, 1022, 1023, 1024, 81, 1025, 430, 431, 20, 432, 433, 434, 43, 435, 436, 437, 438, 44, 45, 46, 47, 48, 49, 50, 439, 54, 58, 59, 67, 440, 441, 442, 53, 443, 444, 71, 445, 446, 447, 448, 57, 449, 450, 75] (by decide +kernel) (by decide +kernel)) (goodIn_r _ [451, 1026, 464, 465, 466, 118, 119, 1027, 1028, 1029, 1030, 682, 683, 113, 114, 115, 116, 1031, 1032, 1033, 1034, 456, 1035, 838, 183, 839, 1420, 1421, 1422, 1423, 1424, 1425, 1426, 1464, 1465, 1466, 1449, 1450, 1451, 1452, 1453, 1454, 1455, 1456, 1457, 1458, 1459, 1460, 1461, 1462, 1463, 1469, 1470, 1471, 1472] (by decide +kernel) (by decide +kernel))) (goodIn_sub (fun _ h => List.mem_append_right _ h) (by decide +kernel))) (goodIn_sub (fun _ h => List.mem_append_left _ (List.mem_append_left _ (List.mem_append_right _ h))) (by decide +kernel))) (goodIn_sub (fun _ h => List.mem_append_left _ (List.mem_append_right _ h)) (by decide +kernel))
set_option maxRecDepth 20000 in
theorem gL_law_L_addPrisoner : GoodIn wsL_law (va_wsS RL 160 yL_addPrisoner wsL_addPrisoner) := goodIn_app (goodIn_of _ (by decide +kernel)) ggL_law_L_addPrisoner
set_option maxRecDepth 20000 in
theorem ggL_law_X8_addPrisoner : GoodIn wsL_law wsX8_addPrisoner := goodIn_r _ [1039, 93, 1040, 1041, 5, 1042, 1043, 135, 136, 137, 138, 139, 140, 141, 142, 1044, 1045, 1046, 1047, 645, 95, 366, 367, 368, 305, 306, 307, 308, 309, 310, 1427, 1428, 1429, 1430, 1431, 1432, 1433, 1434, 1435, 1436, 1437, 1438, 1439, 1440, 1441, 1442, 1443] (by decide +kernel) (by decide +kernel)
set_option maxRecDepth 20000 in
theorem gL_law_X8_addPrisoner : GoodIn wsL_law (wsV RL 162 RX8 yX8_addPrisoner wsX8_addPrisoner) := goodIn_app (goodIn_of _ (by decide +kernel)) ggL_law_X8_addPrisoner
set_option maxRecDepth 20000 in
theorem ggL_law_L_promote : GoodIn wsL_law wsL_promote := goodIn_ca (goodIn_ca (goodIn_ca (goodIn_td 60 (goodIn_r _ [1050, 677, 107, 1051, 1052, 1053, 2, 1054, 25, 21, 1016, 1017, 1018, 24, 1019, 1020, 1021, 1022, 1023, 1024, 81, 1025, 430, 431, 20, 432, 433, 434, 43, 435, 436, 437, 438, 44, 45, 46, 47, 48, 49, 50, 439, 54, 58, 59, 67, 440, 441, 442, 53, 443, 444, 71, 445, 446, 447, 448, 57, 449, 450, 75] (by decide +kernel) (by decide +kernel)) (goodIn_r _ [451, 1055, 1056, 1057, 1058, 475, 476, 477, 478, 118, 119, 1027, 1028, 1029, 1030, 682, 683, 113, 114, 115, 116, 1031, 1032, 1033, 1034, 456, 1035, 838, 183, 839, 1420, 1421, 1422, 1423, 1424, 1425, 1426, 1464, 1465, 1466, 1449, 1450, 1451, 1452, 1453, 1454, 1455, 1456, 1457, 1458, 1459, 1460, 1461, 1462, 1463, 1469, 1470, 1471, 1472] (by decide +kernel) (by decide +kernel))) (goodIn_sub (fun _ h => List.mem_append_right _ h) (by decide +kernel))) (goodIn_sub (fun _ h => List.mem_append_left _ (List.mem_append_left _ (List.mem_append_right _ h))) (by decide +kernel))) (goodIn_sub (fun _ h => List.mem_append_left _ (List.mem_append_right _ h)) (by decide +kernel))
set_option maxRecDepth 20000 in
theorem gL_law_L_promote : GoodIn wsL_law (va_wsS RL 163 yL_promote wsL_promote) := goodIn_app (goodIn_of _ (by decide +kernel)) ggL_law_L_promote
