/-! ===== the words of the law, 3 ===== -/
set_option maxRecDepth 20000 in
theorem wl_0_r34 : ∀ w ∈ wsL_law0_r34, w ∈ gBig := wl_mem [1003, 1004, 200, 1005, 1007, 28, 1008, 1009, 1010, 468, 469, 470, 1011, 1013, 29, 1014, 1018, 1019, 1020, 1021, 198, 1022, 1023, 1024] (by decide +kernel)
set_option maxRecDepth 20000 in
theorem wl_0_r35 : ∀ w ∈ wsL_law0_r35, w ∈ gBig := wl_mem [1025, 1026, 1027, 1028, 1029, 1030, 1031, 1032, 1033, 1034, 1035, 1036, 1037, 1038, 1039, 1040, 1041, 1042, 1043, 1044, 1045, 1046, 1047, 1048] (by decide +kernel)
set_option maxRecDepth 20000 in
theorem wl_0_r36 : ∀ w ∈ wsL_law0_r36, w ∈ gBig := wl_mem [1049, 1050, 1051, 1052, 1053, 1054, 1055, 1056, 1057, 1058, 1059, 1060, 1061, 1062, 1063, 1064, 1065, 1066, 1067, 1068, 1069, 1070, 1071, 1073] (by decide +kernel)
set_option maxRecDepth 20000 in
theorem wl_0_r37 : ∀ w ∈ wsL_law0_r37, w ∈ gBig := wl_mem [1074, 1075, 1076, 1077, 1078, 1079, 1080, 1088, 1089, 1090, 1091, 1092, 1093, 1094, 1095, 1096, 1097, 1098, 1099, 1100, 1101, 1102, 1103, 1107] (by decide +kernel)
set_option maxRecDepth 20000 in
theorem wl_0_r38 : ∀ w ∈ wsL_law0_r38, w ∈ gBig := wl_mem [1108, 1109, 1110, 1111, 1112, 1113, 1114, 1115, 1116, 1117, 1118, 1119, 1120, 1121, 1124, 1125, 1126, 1127, 1128, 1129, 1130, 1131, 1132, 1133] (by decide +kernel)
set_option maxRecDepth 20000 in
theorem wl_0_r39 : ∀ w ∈ wsL_law0_r39, w ∈ gBig := wl_mem [1134, 1136, 1138, 1135, 1140, 1141, 1142, 1143, 1144, 1145, 1146, 1149, 1151, 648, 649, 650, 652, 653, 654, 655, 219, 217, 673, 675] (by decide +kernel)
set_option maxRecDepth 20000 in
theorem wl_0_r40 : ∀ w ∈ wsL_law0_r40, w ∈ gBig := wl_mem [25, 676, 678, 679, 680, 681, 682, 683, 684, 457, 458, 459, 460, 1224, 1225, 1226, 1227, 1228, 1229, 1230, 1232, 1233, 1234, 1235] (by decide +kernel)
set_option maxRecDepth 20000 in
theorem wl_0_r41 : ∀ w ∈ wsL_law0_r41, w ∈ gBig := wl_mem [1237, 1238, 1239, 1240, 1241, 1242, 1243, 1244, 1248, 1249, 1250, 1251, 1252, 1253, 1254, 1255, 1256, 1257, 1258, 1259, 1260, 1261, 1262, 1263] (by decide +kernel)
set_option maxRecDepth 20000 in
theorem wl_0_r42 : ∀ w ∈ wsL_law0_r42, w ∈ gBig := wl_mem [1245, 1246, 1247, 1288, 1289, 1290, 1299, 1291, 1292, 1293, 1294, 1295, 1296, 1297, 1298, 1300, 1301, 1302, 1303, 1304, 1305, 252, 253, 254] (by decide +kernel)
set_option maxRecDepth 20000 in
theorem wl_0_r43 : ∀ w ∈ wsL_law0_r43, w ∈ gBig := wl_mem [256, 257, 258, 259, 461, 462, 463, 464, 465, 466, 467, 472, 490, 542, 554, 558, 646, 1306, 1307, 1308, 1267, 1268, 1269, 1270] (by decide +kernel)
set_option maxRecDepth 20000 in
theorem wl_0_r44 : ∀ w ∈ wsL_law0_r44, w ∈ gBig := wl_mem [1271, 1272, 1273, 199, 1275, 1276, 1277, 1278, 1264, 1265, 1266, 1279] (by decide +kernel)
