/-! ===== words of the law, 9 ===== -/
set_option maxRecDepth 20000 in
theorem ggL_law_L_save : GoodIn wsL_law wsL_save := goodIn_ca (goodIn_td 60 (goodIn_r _ [1395, 677, 1396, 1397, 1398, 2, 1399, 682, 683, 1400, 21, 428, 1294, 117, 118, 119, 1401, 1402, 1403, 1404, 29, 30, 429, 430, 431, 20, 432, 433, 434, 43, 435, 436, 437, 438, 44, 45, 46, 47, 48, 49, 50, 439, 54, 58, 59, 67, 440, 441, 442, 53, 443, 444, 71, 445, 446, 447, 448, 57, 449, 450] (by decide +kernel) (by decide +kernel)) (goodIn_r _ [75, 451, 1467, 1468, 1420, 1421, 1422, 1423, 1424, 1425, 1426, 1449, 1450, 1451, 1452, 1453, 1454, 1455, 1456, 1457, 1458, 1459, 1460, 1461, 1462, 1463, 1469, 1470, 1471, 1472] (by decide +kernel) (by decide +kernel))) (goodIn_sub (fun _ h => List.mem_append_right _ h) (by decide +kernel))
set_option maxRecDepth 20000 in
theorem gL_law_L_save : GoodIn wsL_law (va_wsS RL 224 yL_save wsL_save) := goodIn_app (goodIn_of _ (by decide +kernel)) ggL_law_L_save
set_option maxRecDepth 20000 in
theorem ggL_law_X8_save : GoodIn wsL_law wsX8_save := goodIn_r _ [1408, 93, 96, 98, 135, 136, 5, 137, 138, 139, 140, 141, 142, 366, 367, 368, 1427, 1428, 1429, 1430, 1431, 1432, 1433, 1434, 1435, 1436, 1437, 1438, 1439, 1440, 1441, 1442, 1443] (by decide +kernel) (by decide +kernel)
set_option maxRecDepth 20000 in
theorem gL_law_X8_save : GoodIn wsL_law (wsV RL 226 RX8 yX8_save wsX8_save) := goodIn_app (goodIn_of _ (by decide +kernel)) ggL_law_X8_save
set_option maxRecDepth 20000 in
theorem ggL_law_L_restore : GoodIn wsL_law wsL_restore := goodIn_ca (goodIn_ca (goodIn_td 60 (goodIn_r _ [1411, 677, 108, 1412, 1413, 1414, 2, 1415, 682, 683, 115, 116, 428, 21, 1400, 25, 1294, 117, 118, 119, 1401, 1402, 1403, 1404, 29, 30, 429, 430, 431, 20, 432, 433, 434, 43, 435, 436, 437, 438, 44, 45, 46, 47, 48, 49, 50, 439, 54, 58, 59, 67, 440, 441, 442, 53, 443, 444, 71, 445, 446, 447] (by decide +kernel) (by decide +kernel)) (goodIn_r _ [448, 57, 449, 450, 75, 451, 452, 453, 454, 24, 455, 456, 1467, 1468, 1420, 1421, 1422, 1423, 1424, 1425, 1426, 1449, 1450, 1451, 1452, 1453, 1454, 1455, 1456, 1457, 1458, 1459, 1460, 1461, 1462, 1463, 1469, 1470, 1471, 1472, 1464, 1465, 1466] (by decide +kernel) (by decide +kernel))) (goodIn_sub (fun _ h => List.mem_append_right _ h) (by decide +kernel))) (goodIn_sub (fun _ h => List.mem_append_left _ (List.mem_append_right _ h)) (by decide +kernel))
set_option maxRecDepth 20000 in
theorem gL_law_L_restore : GoodIn wsL_law (va_wsS RL 227 yL_restore wsL_restore) := goodIn_app (goodIn_of _ (by decide +kernel)) ggL_law_L_restore
set_option maxRecDepth 20000 in
theorem ggL_law_X8_restore : GoodIn wsL_law wsX8_restore := goodIn_r _ [1419, 98, 96, 93, 645, 135, 136, 5, 137, 138, 139, 140, 141, 142, 366, 367, 368, 1427, 1428, 1429, 1430, 1431, 1432, 1433, 1434, 1435, 1436, 1437, 1438, 1439, 1440, 1441, 1442, 1443] (by decide +kernel) (by decide +kernel)
set_option maxRecDepth 20000 in
theorem gL_law_X8_restore : GoodIn wsL_law (wsV RL 229 RX8 yX8_restore wsX8_restore) := goodIn_app (goodIn_of _ (by decide +kernel)) ggL_law_X8_restore
