/-! ===== the words of the law, 2 ===== -/
set_option maxRecDepth 20000 in
theorem wl_0_r23 : ∀ w ∈ wsL_law0_r23, w ∈ gBig := wl_mem [825, 826, 827, 828, 829, 842, 843, 844, 845, 846, 1311, 841, 847, 848, 832, 849, 850, 52, 851, 852, 1312, 0, 854, 855] (by decide +kernel)
set_option maxRecDepth 20000 in
theorem wl_0_r24 : ∀ w ∈ wsL_law0_r24, w ∈ gBig := wl_mem [856, 1313, 1, 858, 859, 868, 860, 861, 53, 862, 863, 864, 865, 866, 867, 869, 870, 54, 871, 872, 873, 874, 876, 877] (by decide +kernel)
set_option maxRecDepth 20000 in
theorem wl_0_r25 : ∀ w ∈ wsL_law0_r25, w ∈ gBig := wl_mem [878, 879, 880, 881, 883, 884, 882, 885, 886, 887, 888, 889, 891, 893, 894, 895, 896, 897, 898, 899, 900, 901, 902, 903] (by decide +kernel)
set_option maxRecDepth 20000 in
theorem wl_0_r26 : ∀ w ∈ wsL_law0_r26, w ∈ gBig := wl_mem [904, 905, 906, 907, 908, 912, 909, 910, 911, 913, 914, 915, 916, 917, 1314, 918, 919, 920, 921, 922, 923, 1315, 2, 925] (by decide +kernel)
set_option maxRecDepth 20000 in
theorem wl_0_r27 : ∀ w ∈ wsL_law0_r27, w ∈ gBig := wl_mem [926, 927, 928, 929, 930, 931, 932, 933, 934, 935, 936, 937, 938, 939, 940, 941, 942, 943, 944, 946, 947, 948, 949, 950] (by decide +kernel)
set_option maxRecDepth 20000 in
theorem wl_0_r28 : ∀ w ∈ wsL_law0_r28, w ∈ gBig := wl_mem [1316, 951, 952, 953, 1317, 3, 955, 956, 957, 958, 959, 960, 961, 1318, 4, 963, 964, 965, 1319, 5, 967, 968, 969, 970] (by decide +kernel)
set_option maxRecDepth 20000 in
theorem wl_0_r29 : ∀ w ∈ wsL_law0_r29, w ∈ gBig := wl_mem [971, 972, 973, 974, 975, 977, 978, 979, 980, 981, 1320, 982, 983, 984, 985, 986, 987, 988, 1321, 989, 990, 991, 992, 993] (by decide +kernel)
set_option maxRecDepth 20000 in
theorem wl_0_r30 : ∀ w ∈ wsL_law0_r30, w ∈ gBig := wl_mem [1210, 1211, 1212, 1213, 1214, 1215, 1216, 1218, 1219, 103, 1220, 1221, 55, 1222, 135, 1200, 491, 492, 493, 494, 495, 496, 497, 498] (by decide +kernel)
set_option maxRecDepth 20000 in
theorem wl_0_r31 : ∀ w ∈ wsL_law0_r31, w ∈ gBig := wl_mem [499, 500, 501, 1201, 543, 544, 545, 546, 547, 548, 549, 550, 551, 552, 553, 1202, 473, 474, 475, 1203, 555, 556, 557, 1223] (by decide +kernel)
set_option maxRecDepth 20000 in
theorem wl_0_r32 : ∀ w ∈ wsL_law0_r32, w ∈ gBig := wl_mem [1081, 1082, 1083, 1072, 1084, 1085, 1086, 1087, 1206, 1183, 1184, 1185, 1186, 1187, 1188, 1189, 1196, 1191, 1192, 1193, 1194, 1197, 1198, 1199] (by decide +kernel)
set_option maxRecDepth 20000 in
theorem wlt_errors : (Cond.code yL_errors cL_errors 10 (some .boolean) : Cond) ∈ tables_1_3 := List.mem_of_mem_drop (i := 178) (.head _)
theorem wlg_errors : (Cond.code yL_errors cL_errors 10 (some .boolean) : Cond) ∈ gBig := List.mem_append_right _ (List.mem_append_right _ (List.mem_append_right _ (List.mem_append_right _ (List.mem_append_left _ (wlt_errors)))))
set_option maxRecDepth 20000 in
theorem wl_0_r33_a : ∀ w ∈ wsL_law0_r33.take 11, w ∈ gBig := wl_mem [142, 150, 101, 1204, 1104, 1105, 1106, 1207, 1208, 686, 687] (by decide +kernel)
set_option maxRecDepth 20000 in
theorem wl_0_r33_b : ∀ w ∈ wsL_law0_r33.drop 12, w ∈ gBig := wl_mem [1181, 1182, 1209, 994, 995, 996, 997, 998, 999, 1000, 1001, 1002] (by decide +kernel)
theorem wl_0_r33_c : ∀ w ∈ wsL_law0_r33.drop 11, w ∈ gBig := List.forall_mem_cons.mpr ⟨wlg_errors, wl_0_r33_b⟩
theorem wl_0_r33 : ∀ w ∈ wsL_law0_r33, w ∈ gBig := fun w h => by
  rw [← List.take_append_drop 11 wsL_law0_r33] at h
  exact (List.mem_append.mp h).elim (wl_0_r33_a w) (wl_0_r33_c w)
