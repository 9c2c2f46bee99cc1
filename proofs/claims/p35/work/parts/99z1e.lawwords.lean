/-! ===== the words of the law, 3 ===== -/
set_option maxRecDepth 20000 in
theorem wl_0_r34 : ∀ w ∈ wsL_law0_r34, w ∈ gBig := wl_mem [1003, 1004, 200, 1005, 1007, 28, 1008, 1009, 1010, 468, 469, 470, 1011, 1013, 29, 1014, 1018, 1019, 1020, 1021, 198, 1022, 1023, 1024] (by decide +kernel)
set_option maxRecDepth 20000 in
theorem wl_0_r35 : ∀ w ∈ wsL_law0_r35, w ∈ gBig := wl_mem [1025, 1026, 1027, 1028, 1029, 1030, 1031, 1032, 1033, 1034, 1035, 1036, 1037, 1038, 1039, 1040, 1041, 1042, 1043, 1044, 1045, 1046, 1047, 1048] (by decide +kernel)
set_option maxRecDepth 20000 in
theorem wl_0_r36 : ∀ w ∈ wsL_law0_r36, w ∈ gBig := wl_mem [1049, 1050, 1051, 1052, 1053, 1054, 1055, 1056, 1057, 1058, 1059, 1060, 1061, 1062, 1063, 1064, 1065, 1066, 1067, 1068, 1069, 1070, 1071, 1073] (by decide +kernel)
set_option maxRecDepth 20000 in
theorem wl_0_r37 : ∀ w ∈ wsL_law0_r37, w ∈ gBig := wl_mem [1074, 1075, 1076, 1077, 1078, 1079, 1080, 1088, 1089, 1090, 1091, 1092, 1093, 1094, 1095, 1096, 1097, 1098, 1099, 1100, 1101, 1102, 1103, 1107] (by decide +kernel)
set_option maxRecDepth 20000 in
theorem wl_0_r38 : ∀ w ∈ wsL_law0_r38, w ∈ gBig := wl_mem [1108, 1109, 1110, 1111, 1112, 1113, 1114, 1115, 1116, 1117, 1118, 1119, 1120, 1121, 1124, 1125, 1126, 1127, 1128, 1129, 1130, 1131, 1132, 1133] (by decide +kernel)
set_option maxRecDepth 20000 in
theorem wl_0_r39 : ∀ w ∈ wsL_law0_r39, w ∈ gBig := wl_mem [1134, 1136, 1138, 1135, 1140, 1141, 1142, 1143, 1144, 1145, 1146, 1149, 1151, 648, 649, 650, 652, 653, 654, 655, 219, 217, 673, 675] (by decide +kernel)
set_option maxRecDepth 20000 in
theorem wl_0_r40 : ∀ w ∈ wsL_law0_r40, w ∈ gBig := wl_mem [25, 676, 678, 679, 680, 681, 682, 683, 684, 457, 458, 459, 460, 1224, 1225, 1226, 1227, 1228, 1229, 1230, 1232, 1233, 1234, 1235] (by decide +kernel)
set_option maxRecDepth 20000 in
theorem wlt_kept : (Cond.code yL_kept cL_kept 28 (some .boolean) : Cond) ∈ tables_1_6 := List.mem_of_mem_drop (i := 13) (.head _)
theorem wlg_kept : (Cond.code yL_kept cL_kept 28 (some .boolean) : Cond) ∈ gBig := List.mem_append_right _ (List.mem_append_right _ (List.mem_append_right _ (List.mem_append_right _ (List.mem_append_right _ (List.mem_append_right _ (List.mem_append_right _ (wlt_kept)))))))
set_option maxRecDepth 20000 in
theorem wl_0_r41_a : ∀ w ∈ wsL_law0_r41.take 6, w ∈ gBig := wl_mem [1237, 1238, 1239, 1240, 1241, 1242] (by decide +kernel)
set_option maxRecDepth 20000 in
theorem wl_0_r41_b : ∀ w ∈ wsL_law0_r41.drop 7, w ∈ gBig := wl_mem [1244, 1248, 1249, 1250, 1251, 1252, 1253, 1254, 1255, 1256, 1257, 1258, 1259, 1260, 1261, 1262, 1263] (by decide +kernel)
theorem wl_0_r41_c : ∀ w ∈ wsL_law0_r41.drop 6, w ∈ gBig := List.forall_mem_cons.mpr ⟨wlg_kept, wl_0_r41_b⟩
theorem wl_0_r41 : ∀ w ∈ wsL_law0_r41, w ∈ gBig := fun w h => by
  rw [← List.take_append_drop 6 wsL_law0_r41] at h
  exact (List.mem_append.mp h).elim (wl_0_r41_a w) (wl_0_r41_c w)
set_option maxRecDepth 20000 in
theorem wlt_tells : (Cond.code yL_tells cL_tells 7 (some .boolean) : Cond) ∈ tables_1_6 := List.mem_of_mem_drop (i := 60) (.head _)
theorem wlg_tells : (Cond.code yL_tells cL_tells 7 (some .boolean) : Cond) ∈ gBig := List.mem_append_right _ (List.mem_append_right _ (List.mem_append_right _ (List.mem_append_right _ (List.mem_append_right _ (List.mem_append_right _ (List.mem_append_right _ (wlt_tells)))))))
set_option maxRecDepth 20000 in
theorem wl_0_r42_a : ∀ w ∈ wsL_law0_r42.take 5, w ∈ gBig := wl_mem [1245, 1246, 1247, 1288, 1289] (by decide +kernel)
set_option maxRecDepth 20000 in
theorem wl_0_r42_b : ∀ w ∈ wsL_law0_r42.drop 6, w ∈ gBig := wl_mem [1299, 1291, 1292, 1293, 1294, 1295, 1296, 1297, 1298, 1300, 1301, 1302, 1303, 1304, 1305, 252, 253, 254] (by decide +kernel)
theorem wl_0_r42_c : ∀ w ∈ wsL_law0_r42.drop 5, w ∈ gBig := List.forall_mem_cons.mpr ⟨wlg_tells, wl_0_r42_b⟩
theorem wl_0_r42 : ∀ w ∈ wsL_law0_r42, w ∈ gBig := fun w h => by
  rw [← List.take_append_drop 5 wsL_law0_r42] at h
  exact (List.mem_append.mp h).elim (wl_0_r42_a w) (wl_0_r42_c w)
set_option maxRecDepth 20000 in
theorem wlt_act : (Cond.code yL_act cL_act 9 (some .long) : Cond) ∈ tables_1_6 := List.mem_of_mem_drop (i := 78) (.head _)
theorem wlg_act : (Cond.code yL_act cL_act 9 (some .long) : Cond) ∈ gBig := List.mem_append_right _ (List.mem_append_right _ (List.mem_append_right _ (List.mem_append_right _ (List.mem_append_right _ (List.mem_append_right _ (List.mem_append_right _ (wlt_act)))))))
set_option maxRecDepth 20000 in
theorem wl_0_r43_a : ∀ w ∈ wsL_law0_r43.take 19, w ∈ gBig := wl_mem [256, 257, 258, 259, 461, 462, 463, 464, 465, 466, 467, 472, 490, 542, 554, 558, 646, 1306, 1307] (by decide +kernel)
set_option maxRecDepth 20000 in
theorem wl_0_r43_b : ∀ w ∈ wsL_law0_r43.drop 20, w ∈ gBig := wl_mem [1267, 1268, 1269, 1270] (by decide +kernel)
theorem wl_0_r43_c : ∀ w ∈ wsL_law0_r43.drop 19, w ∈ gBig := List.forall_mem_cons.mpr ⟨wlg_act, wl_0_r43_b⟩
theorem wl_0_r43 : ∀ w ∈ wsL_law0_r43, w ∈ gBig := fun w h => by
  rw [← List.take_append_drop 19 wsL_law0_r43] at h
  exact (List.mem_append.mp h).elim (wl_0_r43_a w) (wl_0_r43_c w)
set_option maxRecDepth 20000 in
theorem wlt_follows : (Cond.code yL_follows cL_follows 38 (some .boolean) : Cond) ∈ tables_1_6 := List.mem_of_mem_drop (i := 36) (.head _)
theorem wlg_follows : (Cond.code yL_follows cL_follows 38 (some .boolean) : Cond) ∈ gBig := List.mem_append_right _ (List.mem_append_right _ (List.mem_append_right _ (List.mem_append_right _ (List.mem_append_right _ (List.mem_append_right _ (List.mem_append_right _ (wlt_follows)))))))
set_option maxRecDepth 20000 in
theorem wl_0_r44_a : ∀ w ∈ wsL_law0_r44.take 10, w ∈ gBig := wl_mem [1271, 1272, 1273, 199, 1275, 1276, 1277, 1278, 1264, 1265] (by decide +kernel)
set_option maxRecDepth 20000 in
theorem wl_0_r44_b : ∀ w ∈ wsL_law0_r44.drop 11, w ∈ gBig := wl_mem [1279] (by decide +kernel)
theorem wl_0_r44_c : ∀ w ∈ wsL_law0_r44.drop 10, w ∈ gBig := List.forall_mem_cons.mpr ⟨wlg_follows, wl_0_r44_b⟩
theorem wl_0_r44 : ∀ w ∈ wsL_law0_r44, w ∈ gBig := fun w h => by
  rw [← List.take_append_drop 10 wsL_law0_r44] at h
  exact (List.mem_append.mp h).elim (wl_0_r44_a w) (wl_0_r44_c w)
