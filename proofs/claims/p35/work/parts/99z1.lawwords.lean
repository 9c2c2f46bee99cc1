/-! ===== the words of the law among those of the tables ===== -/
theorem gSel_private {C : String} {y : MethodName} {s : State} {args : Array Value} {n : Nat} (hy : y.cls ≠ "java/lang/invoke/MethodHandle" ∧ y.cls ≠ "java/lang/invoke/VarHandle") (hins : (Cond.instantiable C n).before args s = true) (hsame : (Cond.sameMethod y.cls y.cls y.name y.desc).before args s = true) (hpriv : (Cond.privateMethod y).before args s = true) (hinst : (Cond.instanceMethod y).before args s = true) : (Cond.selects C y y).before args s = true := by
  obtain ⟨c, k, hc, hk, -, -, -, -⟩ := Cond.instantiable_spec hins
  obtain ⟨cn, ck, r1, hcn, hck, hni, hf, hn1⟩ := Cond.sameMethod_found hsame
  obtain ⟨mk, methM, hnamed, hmethM, -, -⟩ := Cond.instanceMethod_spec hinst
  have hfound : s.methodFound? y.cls y.name y.desc = some mk := State.methodFound?_of_named hnamed hy
  have hcls : mk.cls = cn := Option.some.inj ((findClass_of_methodNamed hnamed).symm.trans hcn)
  have hsel : selectMethod {} s.vm c mk = .method mk := selectMethod_private hmethM (Cond.privateMethod_at hpriv mk methM hnamed hmethM)
  simp only [Cond.before, Cond.holds, Cond.value, hc, hfound, hnamed, hsel, hcls, hck]
  simp
  exact hni
def gSixM : List MethodName := [(⟨"java/lang/AbstractStringBuilder", "ensureCapacityInternal", "(I)V"⟩ : MethodName), (⟨"java/lang/AbstractStringBuilder", "newCapacity", "(I)I"⟩ : MethodName), (⟨"java/lang/AbstractStringBuilder", "inflate", "()V"⟩ : MethodName), (⟨"java/lang/AbstractStringBuilder", "appendNull", "()Ljava/lang/AbstractStringBuilder;"⟩ : MethodName), (⟨"java/lang/AbstractStringBuilder", "putStringAt", "(ILjava/lang/String;)V"⟩ : MethodName), (⟨"java/lang/AbstractStringBuilder", "inflateIfNeededFor", "(Ljava/lang/String;)V"⟩ : MethodName)]
def gBig : List Cond := gSixM.map (fun y => Cond.selects "java/lang/StringBuilder" y y) ++ lw_tbl
theorem gSix_0 : (fun y : MethodName => (y.cls ≠ "java/lang/invoke/MethodHandle" ∧ y.cls ≠ "java/lang/invoke/VarHandle") ∧ Cond.sameMethod y.cls y.cls y.name y.desc ∈ lw_tbl ∧ Cond.privateMethod y ∈ lw_tbl ∧ Cond.instanceMethod y ∈ lw_tbl) (⟨"java/lang/AbstractStringBuilder", "ensureCapacityInternal", "(I)V"⟩ : MethodName) := ⟨⟨by decide +kernel, by decide +kernel⟩, List.mem_of_getElem? (i := 1306) (by decide +kernel), List.mem_of_getElem? (i := 847) (by decide +kernel), List.mem_of_getElem? (i := 848) (by decide +kernel)⟩
theorem gSix_1 : (fun y : MethodName => (y.cls ≠ "java/lang/invoke/MethodHandle" ∧ y.cls ≠ "java/lang/invoke/VarHandle") ∧ Cond.sameMethod y.cls y.cls y.name y.desc ∈ lw_tbl ∧ Cond.privateMethod y ∈ lw_tbl ∧ Cond.instanceMethod y ∈ lw_tbl) (⟨"java/lang/AbstractStringBuilder", "newCapacity", "(I)I"⟩ : MethodName) := ⟨⟨by decide +kernel, by decide +kernel⟩, List.mem_of_getElem? (i := 1307) (by decide +kernel), List.mem_of_getElem? (i := 851) (by decide +kernel), List.mem_of_getElem? (i := 852) (by decide +kernel)⟩
theorem gSix_2 : (fun y : MethodName => (y.cls ≠ "java/lang/invoke/MethodHandle" ∧ y.cls ≠ "java/lang/invoke/VarHandle") ∧ Cond.sameMethod y.cls y.cls y.name y.desc ∈ lw_tbl ∧ Cond.privateMethod y ∈ lw_tbl ∧ Cond.instanceMethod y ∈ lw_tbl) (⟨"java/lang/AbstractStringBuilder", "inflate", "()V"⟩ : MethodName) := ⟨⟨by decide +kernel, by decide +kernel⟩, List.mem_of_getElem? (i := 1309) (by decide +kernel), List.mem_of_getElem? (i := 918) (by decide +kernel), List.mem_of_getElem? (i := 919) (by decide +kernel)⟩
theorem gSix_3 : (fun y : MethodName => (y.cls ≠ "java/lang/invoke/MethodHandle" ∧ y.cls ≠ "java/lang/invoke/VarHandle") ∧ Cond.sameMethod y.cls y.cls y.name y.desc ∈ lw_tbl ∧ Cond.privateMethod y ∈ lw_tbl ∧ Cond.instanceMethod y ∈ lw_tbl) (⟨"java/lang/AbstractStringBuilder", "appendNull", "()Ljava/lang/AbstractStringBuilder;"⟩ : MethodName) := ⟨⟨by decide +kernel, by decide +kernel⟩, List.mem_of_getElem? (i := 1311) (by decide +kernel), List.mem_of_getElem? (i := 948) (by decide +kernel), List.mem_of_getElem? (i := 949) (by decide +kernel)⟩
theorem gSix_4 : (fun y : MethodName => (y.cls ≠ "java/lang/invoke/MethodHandle" ∧ y.cls ≠ "java/lang/invoke/VarHandle") ∧ Cond.sameMethod y.cls y.cls y.name y.desc ∈ lw_tbl ∧ Cond.privateMethod y ∈ lw_tbl ∧ Cond.instanceMethod y ∈ lw_tbl) (⟨"java/lang/AbstractStringBuilder", "putStringAt", "(ILjava/lang/String;)V"⟩ : MethodName) := ⟨⟨by decide +kernel, by decide +kernel⟩, List.mem_of_getElem? (i := 1312) (by decide +kernel), List.mem_of_getElem? (i := 956) (by decide +kernel), List.mem_of_getElem? (i := 957) (by decide +kernel)⟩
theorem gSix_5 : (fun y : MethodName => (y.cls ≠ "java/lang/invoke/MethodHandle" ∧ y.cls ≠ "java/lang/invoke/VarHandle") ∧ Cond.sameMethod y.cls y.cls y.name y.desc ∈ lw_tbl ∧ Cond.privateMethod y ∈ lw_tbl ∧ Cond.instanceMethod y ∈ lw_tbl) (⟨"java/lang/AbstractStringBuilder", "inflateIfNeededFor", "(Ljava/lang/String;)V"⟩ : MethodName) := ⟨⟨by decide +kernel, by decide +kernel⟩, List.mem_of_getElem? (i := 1313) (by decide +kernel), List.mem_of_getElem? (i := 960) (by decide +kernel), List.mem_of_getElem? (i := 961) (by decide +kernel)⟩
theorem gSix_ok : ∀ y ∈ gSixM, (y.cls ≠ "java/lang/invoke/MethodHandle" ∧ y.cls ≠ "java/lang/invoke/VarHandle") ∧ Cond.sameMethod y.cls y.cls y.name y.desc ∈ lw_tbl ∧ Cond.privateMethod y ∈ lw_tbl ∧ Cond.instanceMethod y ∈ lw_tbl := List.forall_mem_cons.mpr ⟨gSix_0, List.forall_mem_cons.mpr ⟨gSix_1, List.forall_mem_cons.mpr ⟨gSix_2, List.forall_mem_cons.mpr ⟨gSix_3, List.forall_mem_cons.mpr ⟨gSix_4, List.forall_mem_cons.mpr ⟨gSix_5, fun _ h => absurd h List.not_mem_nil⟩⟩⟩⟩⟩⟩
theorem gBig_ts {args : Array Value} {s : State} (hts : ∀ w ∈ lw_tbl, w.before args s = true) : ∀ w ∈ gBig, w.before args s = true := by
  intro w hw
  rcases List.mem_append.mp hw with hw | hw
  · obtain ⟨y, hy, rfl⟩ := List.mem_map.mp hw
    obtain ⟨h0, h1, h2, h3⟩ := gSix_ok y hy
    exact gSel_private h0 (hts (Cond.instantiable "java/lang/StringBuilder" 4) (List.mem_of_getElem? (i := 808) (by decide +kernel))) (hts _ h1) (hts _ h2) (hts _ h3)
  · exact hts w hw
theorem wl_mem {big ws : List Cond} (ps : List Nat) (h : ws = ps.filterMap (fun i => big[i]?)) : ∀ w ∈ ws, w ∈ big := by
  intro w hw
  rw [h] at hw
  obtain ⟨i, -, hi⟩ := List.mem_filterMap.mp hw
  exact List.mem_of_getElem? hi
set_option maxRecDepth 20000 in
theorem wl_0_r1 : ∀ w ∈ wsL_law0_r1, w ∈ gBig := wl_mem [56, 57, 31, 1309, 58, 59, 60, 61, 62, 63, 64, 65, 32, 225, 88, 89, 33, 226, 189, 190, 36, 227, 209, 210] (by decide +kernel)
set_option maxRecDepth 20000 in
theorem wl_0_r2 : ∀ w ∈ wsL_law0_r2, w ∈ gBig := wl_mem [37, 228, 229, 230, 231, 67, 68, 69, 86, 71, 87, 74, 91, 92, 93, 138, 139, 140, 141, 144, 145, 146, 147, 94] (by decide +kernel)
set_option maxRecDepth 20000 in
theorem wl_0_r3 : ∀ w ∈ wsL_law0_r3, w ∈ gBig := wl_mem [95, 34, 149, 110, 111, 35, 152, 154, 125, 127, 128, 129, 130, 131, 133, 156, 97, 98, 99, 104, 113, 114, 115, 119] (by decide +kernel)
set_option maxRecDepth 20000 in
theorem wl_0_r4 : ∀ w ∈ wsL_law0_r4, w ∈ gBig := wl_mem [191, 192, 193, 194, 195, 201, 212, 213, 214, 215, 218, 247, 248, 30, 249, 250, 251, 1280, 1281, 1282, 1287, 689, 690, 691] (by decide +kernel)
set_option maxRecDepth 20000 in
theorem wl_0_r5 : ∀ w ∈ wsL_law0_r5, w ∈ gBig := wl_mem [692, 693, 694, 695, 696, 697, 726, 698, 699, 700, 701, 702, 41, 656, 370, 371, 718, 719, 720, 721, 137, 134, 102, 117] (by decide +kernel)
set_option maxRecDepth 20000 in
theorem wl_0_r6 : ∀ w ∈ wsL_law0_r6, w ∈ gBig := wl_mem [722, 724, 26, 725, 727, 728, 729, 730, 731, 732, 733, 157, 734, 735, 736, 738, 739, 740, 651, 677, 741, 742, 743, 744] (by decide +kernel)
set_option maxRecDepth 20000 in
theorem wl_0_r7 : ∀ w ∈ wsL_law0_r7, w ∈ gBig := wl_mem [657, 42, 745, 481, 482, 483, 748, 749, 750, 751, 480, 509, 510, 511, 512, 513, 514, 515, 100, 752, 753, 754, 755, 756] (by decide +kernel)
set_option maxRecDepth 20000 in
theorem wl_0_r8 : ∀ w ∈ wsL_law0_r8, w ∈ gBig := wl_mem [599, 600, 601, 602, 603, 604, 605, 757, 758, 759, 760, 116, 761, 579, 580, 581, 582, 583, 584, 585, 762, 763, 764, 765] (by decide +kernel)
set_option maxRecDepth 20000 in
theorem wl_0_r9 : ∀ w ∈ wsL_law0_r9, w ∈ gBig := wl_mem [766, 767, 768, 769, 485, 486, 772, 773, 774, 775, 148, 484, 507, 508, 776, 778, 27, 779, 488, 489, 780, 781, 782, 783] (by decide +kernel)
set_option maxRecDepth 20000 in
theorem wl_0_r10 : ∀ w ∈ wsL_law0_r10, w ∈ gBig := wl_mem [784, 785, 786, 151, 787, 790, 791, 792, 793, 794, 795, 796, 797, 153, 143, 799, 567, 568, 569, 570, 572, 16, 573, 574] (by decide +kernel)
set_option maxRecDepth 20000 in
theorem wl_0_r11 : ∀ w ∈ wsL_law0_r11, w ∈ gBig := wl_mem [576, 17, 577, 800, 1283, 1284, 1285, 1286, 260, 261, 262, 263, 72, 70, 264, 265, 266, 267, 268, 269, 270, 271, 73, 272] (by decide +kernel)
set_option maxRecDepth 20000 in
theorem wl_0_r12 : ∀ w ∈ wsL_law0_r12, w ∈ gBig := wl_mem [274, 6, 275, 341, 342, 47, 343, 276, 277, 278, 285, 287, 7, 288, 289, 290, 291, 43, 292, 1322, 293, 294, 295, 296] (by decide +kernel)
set_option maxRecDepth 20000 in
theorem wl_0_r13 : ∀ w ∈ wsL_law0_r13, w ∈ gBig := wl_mem [297, 1323, 299, 301, 8, 302, 303, 304, 305, 306, 307, 308, 309, 310, 311, 312, 44, 313, 314, 315, 316, 317, 319, 320] (by decide +kernel)
set_option maxRecDepth 20000 in
theorem wl_0_r14 : ∀ w ∈ wsL_law0_r14, w ∈ gBig := wl_mem [45, 321, 322, 323, 46, 324, 325, 326, 327, 328, 329, 330, 331, 332, 333, 334, 335, 337, 339, 344, 345, 346, 352, 353] (by decide +kernel)
set_option maxRecDepth 20000 in
theorem wl_0_r15 : ∀ w ∈ wsL_law0_r15, w ∈ gBig := wl_mem [354, 355, 356, 358, 9, 359, 360, 361, 362, 363, 364, 365, 366, 367, 368, 1160, 1161, 1162, 1163, 1164, 1165, 1166, 118, 155] (by decide +kernel)
set_option maxRecDepth 20000 in
theorem wl_0_r16 : ∀ w ∈ wsL_law0_r16, w ∈ gBig := wl_mem [440, 441, 442, 443, 444, 446, 445, 48, 447, 448, 449, 450, 451, 452, 453, 454, 455, 456, 1123, 559, 560, 561, 562, 564] (by decide +kernel)
set_option maxRecDepth 20000 in
theorem wl_0_r17 : ∀ w ∈ wsL_law0_r17, w ∈ gBig := wl_mem [15, 565, 566, 578, 586, 587, 588, 589, 590, 591, 592, 593, 524, 525, 526, 527, 502, 504, 11, 505, 516, 518, 12, 519] (by decide +kernel)
set_option maxRecDepth 20000 in
theorem wl_0_r18 : ∀ w ∈ wsL_law0_r18, w ∈ gBig := wl_mem [520, 521, 522, 523, 528, 529, 530, 531, 532, 534, 536, 13, 537, 538, 540, 14, 541, 594, 595, 596, 597, 598, 606, 608] (by decide +kernel)
set_option maxRecDepth 20000 in
theorem wl_0_r19 : ∀ w ∈ wsL_law0_r19, w ∈ gBig := wl_mem [18, 609, 610, 611, 612, 613, 476, 477, 478, 479, 614, 616, 19, 617, 618, 619, 620, 621, 622, 623, 624, 625, 626, 628] (by decide +kernel)
set_option maxRecDepth 20000 in
theorem wl_0_r20 : ∀ w ∈ wsL_law0_r20, w ∈ gBig := wl_mem [20, 629, 630, 632, 21, 633, 634, 636, 22, 637, 638, 640, 23, 641, 642, 644, 24, 645, 1168, 1169, 1170, 255, 647, 1171] (by decide +kernel)
set_option maxRecDepth 20000 in
theorem wl_0_r21 : ∀ w ∈ wsL_law0_r21, w ∈ gBig := wl_mem [1172, 1173, 1174, 372, 49, 136, 1176, 1177, 1178, 1179, 1180, 1152, 1153, 1154, 1155, 1156, 1157, 1158, 1147, 1159, 801, 802, 803, 804] (by decide +kernel)
set_option maxRecDepth 20000 in
theorem wl_0_r22 : ∀ w ∈ wsL_law0_r22, w ∈ gBig := wl_mem [805, 806, 807, 809, 810, 811, 812, 813, 814, 51, 815, 816, 817, 818, 819, 50, 820, 821, 822, 439, 830, 831, 823, 824] (by decide +kernel)
set_option maxRecDepth 20000 in
theorem wl_0_r23 : ∀ w ∈ wsL_law0_r23, w ∈ gBig := wl_mem [825, 826, 827, 828, 829, 842, 843, 844, 845, 846, 1311, 841, 847, 848, 832, 849, 850, 52, 851, 852, 1312, 0, 854, 855] (by decide +kernel)
set_option maxRecDepth 20000 in
theorem wl_0_r24 : ∀ w ∈ wsL_law0_r24, w ∈ gBig := wl_mem [856, 1313, 1, 858, 859, 868, 860, 861, 53, 862, 863, 864, 865, 866, 867, 869, 870, 54, 871, 872, 873, 874, 876, 877] (by decide +kernel)
set_option maxRecDepth 20000 in
theorem wl_0_r25 : ∀ w ∈ wsL_law0_r25, w ∈ gBig := wl_mem [878, 879, 880, 881, 883, 884, 882, 885, 886, 887, 888, 889, 891, 893, 894, 895, 896, 897, 898, 899, 900, 901, 902, 903] (by decide +kernel)
set_option maxRecDepth 20000 in
theorem wl_0_r26 : ∀ w ∈ wsL_law0_r26, w ∈ gBig := wl_mem [904, 905, 906, 907, 908, 912, 909, 910, 911, 913, 914, 915, 916, 917, 1314, 918, 919, 920, 921, 922, 923, 1315, 2, 925] (by decide +kernel)
set_option maxRecDepth 20000 in
theorem wl_0_r27 : ∀ w ∈ wsL_law0_r27, w ∈ gBig := wl_mem [926, 927, 928, 929, 930, 931, 932, 933, 934, 935, 936, 937, 938, 939, 940, 941, 942, 943, 944, 946, 947, 948, 949, 950] (by decide +kernel)
set_option maxRecDepth 20000 in
theorem wl_0_r28 : ∀ w ∈ wsL_law0_r28, w ∈ gBig := wl_mem [1316, 951, 952, 953, 1317, 3, 955, 956, 957, 958, 959, 960, 961, 1318, 4, 963, 964, 965, 1319, 5, 967, 968, 969, 970] (by decide +kernel)
set_option maxRecDepth 20000 in
theorem wl_0_r29 : ∀ w ∈ wsL_law0_r29, w ∈ gBig := wl_mem [971, 972, 973, 974, 975, 977, 978, 979, 980, 981, 1320, 982, 983, 984, 985, 986, 987, 988, 1321, 989, 990, 991, 992, 993] (by decide +kernel)
set_option maxRecDepth 20000 in
theorem wl_0_r30 : ∀ w ∈ wsL_law0_r30, w ∈ gBig := wl_mem [1210, 1211, 1212, 1213, 1214, 1215, 1216, 1218, 1219, 103, 1220, 1221, 55, 1222, 135, 1200, 491, 492, 493, 494, 495, 496, 497, 498] (by decide +kernel)
set_option maxRecDepth 20000 in
theorem wl_0_r31 : ∀ w ∈ wsL_law0_r31, w ∈ gBig := wl_mem [499, 500, 501, 1201, 543, 544, 545, 546, 547, 548, 549, 550, 551, 552, 553, 1202, 473, 474, 475, 1203, 555, 556, 557, 1223] (by decide +kernel)
set_option maxRecDepth 20000 in
theorem wl_0_r32 : ∀ w ∈ wsL_law0_r32, w ∈ gBig := wl_mem [1081, 1082, 1083, 1072, 1084, 1085, 1086, 1087, 1206, 1183, 1184, 1185, 1186, 1187, 1188, 1189, 1196, 1191, 1192, 1193, 1194, 1197, 1198, 1199] (by decide +kernel)
set_option maxRecDepth 20000 in
theorem wl_0_r33 : ∀ w ∈ wsL_law0_r33, w ∈ gBig := wl_mem [142, 150, 101, 1204, 1104, 1105, 1106, 1207, 1208, 686, 687, 688, 1181, 1182, 1209, 994, 995, 996, 997, 998, 999, 1000, 1001, 1002] (by decide +kernel)
set_option maxRecDepth 20000 in
theorem wl_0_r34 : ∀ w ∈ wsL_law0_r34, w ∈ gBig := wl_mem [1003, 1004, 200, 1005, 1007, 28, 1008, 1009, 1010, 468, 469, 470, 1011, 1013, 29, 1014, 1018, 1019, 1020, 1021, 198, 1022, 1023, 1024] (by decide +kernel)
set_option maxRecDepth 20000 in
theorem wl_0_r35 : ∀ w ∈ wsL_law0_r35, w ∈ gBig := wl_mem [1025, 1026, 1027, 1028, 1029, 1030, 1031, 1032, 1033, 1034, 1035, 1036, 1037, 1038, 1039, 1040, 1041, 1042, 1043, 1044, 1045, 1046, 1047, 1048] (by decide +kernel)
set_option maxRecDepth 20000 in
theorem wl_0_r36 : ∀ w ∈ wsL_law0_r36, w ∈ gBig := wl_mem [1049, 1050, 1051, 1052, 1053, 1054, 1055, 1056, 1057, 1058, 1059, 1060, 1061, 1062, 1063, 1064, 1065, 1066, 1067, 1068, 1069, 1070, 1071, 1073] (by decide +kernel)
set_option maxRecDepth 20000 in
theorem wl_0_r37 : ∀ w ∈ wsL_law0_r37, w ∈ gBig := wl_mem [1074, 1075, 1076, 1077, 1078, 1079, 1080, 1088, 1089, 1090, 1091, 1092, 1093, 1094, 1095, 1096, 1097, 1098, 1099, 1100, 1101, 1102, 1103, 1107] (by decide +kernel)
set_option maxRecDepth 20000 in
theorem wl_0_r38 : ∀ w ∈ wsL_law0_r38, w ∈ gBig := wl_mem [1108, 1109, 1110, 1111, 1112, 1113, 1114, 1115, 1116, 1117, 1118, 1119, 1120, 1121, 1124, 1125, 1126, 1127, 1128, 1129, 1130, 1131, 1132, 1133] (by decide +kernel)
set_option maxRecDepth 20000 in
theorem wl_0_r39 : ∀ w ∈ wsL_law0_r39, w ∈ gBig := wl_mem [1134, 1136, 1138, 1135, 1140, 1141, 1142, 1143, 1144, 1145, 1146, 1149, 1151, 648, 649, 650, 652, 653, 654, 655, 219, 217, 673, 675] (by decide +kernel)
set_option maxRecDepth 20000 in
theorem wl_0_r40 : ∀ w ∈ wsL_law0_r40, w ∈ gBig := wl_mem [25, 676, 678, 679, 680, 681, 682, 683, 684, 457, 458, 459, 460, 1224, 1225, 1226, 1227, 1228, 1229, 1230, 1232, 1233, 1234, 1235] (by decide +kernel)
set_option maxRecDepth 20000 in
theorem wl_0_r41 : ∀ w ∈ wsL_law0_r41, w ∈ gBig := wl_mem [1237, 1238, 1239, 1240, 1241, 1242, 1243, 1244, 1248, 1249, 1250, 1251, 1252, 1253, 1254, 1255, 1256, 1257, 1258, 1259, 1260, 1261, 1262, 1263] (by decide +kernel)
set_option maxRecDepth 20000 in
theorem wl_0_r42 : ∀ w ∈ wsL_law0_r42, w ∈ gBig := wl_mem [1245, 1246, 1247, 1288, 1289, 1290, 1299, 1291, 1292, 1293, 1294, 1295, 1296, 1297, 1298, 1300, 1301, 1302, 1303, 1304, 1305, 252, 253, 254] (by decide +kernel)
set_option maxRecDepth 20000 in
theorem wl_0_r43 : ∀ w ∈ wsL_law0_r43, w ∈ gBig := wl_mem [256, 257, 258, 259, 461, 462, 463, 464, 465, 466, 467, 472, 490, 542, 554, 558, 646, 1306, 1307, 1308, 1267, 1268, 1269, 1270] (by decide +kernel)
set_option maxRecDepth 20000 in
theorem wl_0_r44 : ∀ w ∈ wsL_law0_r44, w ∈ gBig := wl_mem [1271, 1272, 1273, 199, 1275, 1276, 1277, 1278, 1264, 1265, 1266, 1279] (by decide +kernel)
set_option maxRecDepth 20000 in
theorem wl_wsX70 : ∀ w ∈ wsX70, w ∈ gBig := wl_mem [232, 234, 236, 238, 240, 242, 244] (by decide +kernel)
set_option maxRecDepth 20000 in
theorem wl_wsX50 : ∀ w ∈ wsX50, w ∈ gBig := wl_mem [75, 77, 79, 81, 83] (by decide +kernel)
set_option maxRecDepth 20000 in
theorem wl_wsX20 : ∀ w ∈ wsX20, w ∈ gBig := wl_mem [158, 160, 162, 164, 166, 168, 170, 172, 174, 176, 178, 180, 182, 184, 186] (by decide +kernel)
set_option maxRecDepth 20000 in
theorem wl_wsX10 : ∀ w ∈ wsX10, w ∈ gBig := wl_mem [202, 204, 206] (by decide +kernel)
set_option maxRecDepth 20000 in
theorem wl_wsX40 : ∀ w ∈ wsX40, w ∈ gBig := wl_mem [220, 222] (by decide +kernel)
set_option maxRecDepth 20000 in
theorem wl_wsX00 : ∀ w ∈ wsX00, w ∈ gBig := wl_mem [105, 107] (by decide +kernel)
set_option maxRecDepth 20000 in
theorem wl_wsX60 : ∀ w ∈ wsX60, w ∈ gBig := wl_mem [120, 122] (by decide +kernel)
set_option maxRecDepth 20000 in
theorem wl_wsJ40 : ∀ w ∈ wsJ40, w ∈ gBig := wl_mem [833, 835, 837, 839] (by decide +kernel)
theorem wl_0 : ∀ w ∈ wsL_law0, w ∈ gBig := fun w h => (List.mem_append.mp h).elim (fun h => (List.mem_append.mp h).elim (fun h => (List.mem_append.mp h).elim (fun h => (List.mem_append.mp h).elim (fun h => (List.mem_append.mp h).elim (fun h => (List.mem_append.mp h).elim (fun h => (List.mem_append.mp h).elim (fun h => (List.mem_append.mp h).elim (fun h => (List.mem_append.mp h).elim (fun h => (List.mem_append.mp h).elim (fun h => wl_0_r1 w h) (fun h => (List.mem_append.mp h).elim (fun h => wl_0_r2 w h) (fun h => (List.mem_append.mp h).elim (fun h => wl_0_r3 w h) (fun h => (List.mem_append.mp h).elim (fun h => wl_0_r4 w h) (fun h => (List.mem_append.mp h).elim (fun h => wl_0_r5 w h) (fun h => (List.mem_append.mp h).elim (fun h => wl_0_r6 w h) (fun h => (List.mem_append.mp h).elim (fun h => wl_0_r7 w h) (fun h => (List.mem_append.mp h).elim (fun h => wl_0_r8 w h) (fun h => (List.mem_append.mp h).elim (fun h => wl_0_r9 w h) (fun h => (List.mem_append.mp h).elim (fun h => wl_0_r10 w h) (fun h => (List.mem_append.mp h).elim (fun h => wl_0_r11 w h) (fun h => (List.mem_append.mp h).elim (fun h => wl_0_r12 w h) (fun h => (List.mem_append.mp h).elim (fun h => wl_0_r13 w h) (fun h => (List.mem_append.mp h).elim (fun h => wl_0_r14 w h) (fun h => (List.mem_append.mp h).elim (fun h => wl_0_r15 w h) (fun h => (List.mem_append.mp h).elim (fun h => wl_0_r16 w h) (fun h => (List.mem_append.mp h).elim (fun h => wl_0_r17 w h) (fun h => (List.mem_append.mp h).elim (fun h => wl_0_r18 w h) (fun h => (List.mem_append.mp h).elim (fun h => wl_0_r19 w h) (fun h => (List.mem_append.mp h).elim (fun h => wl_0_r20 w h) (fun h => (List.mem_append.mp h).elim (fun h => wl_0_r21 w h) (fun h => (List.mem_append.mp h).elim (fun h => wl_0_r22 w h) (fun h => (List.mem_append.mp h).elim (fun h => wl_0_r23 w h) (fun h => (List.mem_append.mp h).elim (fun h => wl_0_r24 w h) (fun h => (List.mem_append.mp h).elim (fun h => wl_0_r25 w h) (fun h => (List.mem_append.mp h).elim (fun h => wl_0_r26 w h) (fun h => (List.mem_append.mp h).elim (fun h => wl_0_r27 w h) (fun h => (List.mem_append.mp h).elim (fun h => wl_0_r28 w h) (fun h => (List.mem_append.mp h).elim (fun h => wl_0_r29 w h) (fun h => (List.mem_append.mp h).elim (fun h => wl_0_r30 w h) (fun h => (List.mem_append.mp h).elim (fun h => wl_0_r31 w h) (fun h => (List.mem_append.mp h).elim (fun h => wl_0_r32 w h) (fun h => (List.mem_append.mp h).elim (fun h => wl_0_r33 w h) (fun h => (List.mem_append.mp h).elim (fun h => wl_0_r34 w h) (fun h => (List.mem_append.mp h).elim (fun h => wl_0_r35 w h) (fun h => (List.mem_append.mp h).elim (fun h => wl_0_r36 w h) (fun h => (List.mem_append.mp h).elim (fun h => wl_0_r37 w h) (fun h => (List.mem_append.mp h).elim (fun h => wl_0_r38 w h) (fun h => (List.mem_append.mp h).elim (fun h => wl_0_r39 w h) (fun h => (List.mem_append.mp h).elim (fun h => wl_0_r40 w h) (fun h => (List.mem_append.mp h).elim (fun h => wl_0_r41 w h) (fun h => (List.mem_append.mp h).elim (fun h => wl_0_r42 w h) (fun h => (List.mem_append.mp h).elim (fun h => wl_0_r43 w h) (fun h => wl_0_r44 w h)))))))))))))))))))))))))))))))))))))))))))) (fun h => wl_wsX70 w h)) (fun h => wl_wsX50 w h)) (fun h => wl_wsX20 w h)) (fun h => wl_wsX10 w h)) (fun h => wl_wsX40 w h)) (fun h => wl_wsX00 w h)) (fun h => wl_wsX60 w h)) (fun h => wl_wsJ40 w h)) (fun h => absurd h List.not_mem_nil)
theorem wsL_law_x0 : ∀ w ∈ (vx_atS RX7 54 "java/lang/IllegalArgumentException" ["java/lang/RuntimeException", "java/lang/Exception"]).filter goodWord, w ∈ lw_tbl := by decide +kernel
theorem wsL_law_x1 : ∀ w ∈ (vx_atS RX7 117 "java/lang/IndexOutOfBoundsException" ["java/lang/RuntimeException", "java/lang/Exception"]).filter goodWord, w ∈ lw_tbl := by decide +kernel
theorem wsL_law_x2 : ∀ w ∈ (vx_atS RX7 65 "java/lang/IllegalStateException" ["java/lang/RuntimeException", "java/lang/Exception"]).filter goodWord, w ∈ lw_tbl := by decide +kernel
theorem wl_all : ∀ w ∈ wsL_law, w ∈ gBig := fun w h => (List.mem_append.mp h).elim (fun h => (List.mem_append.mp h).elim (fun h => (List.mem_append.mp h).elim (fun h => wl_0 w h) (fun h => List.mem_append_right _ (wsL_law_x0 w h))) (fun h => List.mem_append_right _ (wsL_law_x1 w h))) (fun h => List.mem_append_right _ (wsL_law_x2 w h))
theorem inlX0 : ∀ w ∈ wsX00, w ∈ wsL_law := fun _ h => List.mem_append_left _ (List.mem_append_left _ (List.mem_append_left _ (List.mem_append_left _ (List.mem_append_left _ (List.mem_append_left _ (List.mem_append_right _ h))))))
theorem inlX1 : ∀ w ∈ wsX10, w ∈ wsL_law := fun _ h => List.mem_append_left _ (List.mem_append_left _ (List.mem_append_left _ (List.mem_append_left _ (List.mem_append_left _ (List.mem_append_left _ (List.mem_append_left _ (List.mem_append_left _ (List.mem_append_right _ h))))))))
theorem inlX2 : ∀ w ∈ wsX20, w ∈ wsL_law := fun _ h => List.mem_append_left _ (List.mem_append_left _ (List.mem_append_left _ (List.mem_append_left _ (List.mem_append_left _ (List.mem_append_left _ (List.mem_append_left _ (List.mem_append_left _ (List.mem_append_left _ (List.mem_append_right _ h)))))))))
theorem inlX4 : ∀ w ∈ wsX40, w ∈ wsL_law := fun _ h => List.mem_append_left _ (List.mem_append_left _ (List.mem_append_left _ (List.mem_append_left _ (List.mem_append_left _ (List.mem_append_left _ (List.mem_append_left _ (List.mem_append_right _ h)))))))
theorem inlX5 : ∀ w ∈ wsX50, w ∈ wsL_law := fun _ h => List.mem_append_left _ (List.mem_append_left _ (List.mem_append_left _ (List.mem_append_left _ (List.mem_append_left _ (List.mem_append_left _ (List.mem_append_left _ (List.mem_append_left _ (List.mem_append_left _ (List.mem_append_left _ (List.mem_append_right _ h))))))))))
theorem inlX6 : ∀ w ∈ wsX60, w ∈ wsL_law := fun _ h => List.mem_append_left _ (List.mem_append_left _ (List.mem_append_left _ (List.mem_append_left _ (List.mem_append_left _ (List.mem_append_right _ h)))))
theorem inlX7 : ∀ w ∈ wsX70, w ∈ wsL_law := fun _ h => List.mem_append_left _ (List.mem_append_left _ (List.mem_append_left _ (List.mem_append_left _ (List.mem_append_left _ (List.mem_append_left _ (List.mem_append_left _ (List.mem_append_left _ (List.mem_append_left _ (List.mem_append_left _ (List.mem_append_left _ (List.mem_append_right _ h)))))))))))
theorem inlJ4 : ∀ w ∈ wsJ40, w ∈ wsL_law := fun _ h => List.mem_append_left _ (List.mem_append_left _ (List.mem_append_left _ (List.mem_append_left _ (List.mem_append_right _ h))))
