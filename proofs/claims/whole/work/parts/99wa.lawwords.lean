/-! ===== the words of the law among those of the tables ===== -/
theorem gSel_private {C : String} {y : MethodName} {s : State} {args : Array Value} {n : Nat} (hy : y.cls ≠ "java/lang/invoke/MethodHandle" ∧ y.cls ≠ "java/lang/invoke/VarHandle") (hins : (Cond.instantiable C n).before args s = true) (hsame : (Cond.sameMethod y.cls y.cls y.name y.desc).before args s = true) (hpriv : (Cond.privateMethod y).before args s = true) (hinst : (Cond.instanceMethod y).before args s = true) : (Cond.selects C y y).before args s = true := by
  obtain ⟨c, k, hc, hk, -, -, -, -⟩ := Cond.instantiable_spec hins
  obtain ⟨cn, ck, r1, hcn, hck, hni, hf, hn1⟩ := Cond.sameMethod_found hsame
  obtain ⟨mk, methM, hnamed, hmethM, -, -⟩ := Cond.instanceMethod_spec hinst
  have hfound : s.methodFound? y.cls y.name y.desc = some mk := State.methodFound?_of_named hnamed hy
  have hcls : mk.cls = cn := Option.some.inj ((findClass_of_methodNamed hnamed).symm.trans hcn)
  have hsel : selectMethod {} s.vm c mk = .method mk := selectMethod_private hmethM (Cond.privateMethod_at hpriv mk methM hnamed hmethM)
  simp only [Cond.before, Cond.holds, Cond.value, hc, hfound, hnamed, hsel, hcls, hck]
  simp
  exact hni
def gSixM : List MethodName := [(⟨"java/lang/AbstractStringBuilder", "ensureCapacityInternal", "(I)V"⟩ : MethodName), (⟨"java/lang/AbstractStringBuilder", "newCapacity", "(I)I"⟩ : MethodName), (⟨"java/lang/AbstractStringBuilder", "inflate", "()V"⟩ : MethodName), (⟨"java/lang/AbstractStringBuilder", "appendNull", "()Ljava/lang/AbstractStringBuilder;"⟩ : MethodName), (⟨"java/lang/AbstractStringBuilder", "putStringAt", "(ILjava/lang/String;)V"⟩ : MethodName), (⟨"java/lang/AbstractStringBuilder", "inflateIfNeededFor", "(Ljava/lang/String;)V"⟩ : MethodName)]
def gBig : List Cond := gSixM.map (fun y => Cond.selects "java/lang/StringBuilder" y y) ++ lw_tbl
theorem gSix_0 : (fun y : MethodName => (y.cls ≠ "java/lang/invoke/MethodHandle" ∧ y.cls ≠ "java/lang/invoke/VarHandle") ∧ Cond.sameMethod y.cls y.cls y.name y.desc ∈ lw_tbl ∧ Cond.privateMethod y ∈ lw_tbl ∧ Cond.instanceMethod y ∈ lw_tbl) (⟨"java/lang/AbstractStringBuilder", "ensureCapacityInternal", "(I)V"⟩ : MethodName) := ⟨⟨by decide +kernel, by decide +kernel⟩, List.mem_of_getElem? (i := 1755) (by decide +kernel), List.mem_of_getElem? (i := 858) (by decide +kernel), List.mem_of_getElem? (i := 859) (by decide +kernel)⟩
theorem gSix_1 : (fun y : MethodName => (y.cls ≠ "java/lang/invoke/MethodHandle" ∧ y.cls ≠ "java/lang/invoke/VarHandle") ∧ Cond.sameMethod y.cls y.cls y.name y.desc ∈ lw_tbl ∧ Cond.privateMethod y ∈ lw_tbl ∧ Cond.instanceMethod y ∈ lw_tbl) (⟨"java/lang/AbstractStringBuilder", "newCapacity", "(I)I"⟩ : MethodName) := ⟨⟨by decide +kernel, by decide +kernel⟩, List.mem_of_getElem? (i := 1756) (by decide +kernel), List.mem_of_getElem? (i := 862) (by decide +kernel), List.mem_of_getElem? (i := 863) (by decide +kernel)⟩
theorem gSix_2 : (fun y : MethodName => (y.cls ≠ "java/lang/invoke/MethodHandle" ∧ y.cls ≠ "java/lang/invoke/VarHandle") ∧ Cond.sameMethod y.cls y.cls y.name y.desc ∈ lw_tbl ∧ Cond.privateMethod y ∈ lw_tbl ∧ Cond.instanceMethod y ∈ lw_tbl) (⟨"java/lang/AbstractStringBuilder", "inflate", "()V"⟩ : MethodName) := ⟨⟨by decide +kernel, by decide +kernel⟩, List.mem_of_getElem? (i := 1758) (by decide +kernel), List.mem_of_getElem? (i := 929) (by decide +kernel), List.mem_of_getElem? (i := 930) (by decide +kernel)⟩
theorem gSix_3 : (fun y : MethodName => (y.cls ≠ "java/lang/invoke/MethodHandle" ∧ y.cls ≠ "java/lang/invoke/VarHandle") ∧ Cond.sameMethod y.cls y.cls y.name y.desc ∈ lw_tbl ∧ Cond.privateMethod y ∈ lw_tbl ∧ Cond.instanceMethod y ∈ lw_tbl) (⟨"java/lang/AbstractStringBuilder", "appendNull", "()Ljava/lang/AbstractStringBuilder;"⟩ : MethodName) := ⟨⟨by decide +kernel, by decide +kernel⟩, List.mem_of_getElem? (i := 1760) (by decide +kernel), List.mem_of_getElem? (i := 959) (by decide +kernel), List.mem_of_getElem? (i := 960) (by decide +kernel)⟩
theorem gSix_4 : (fun y : MethodName => (y.cls ≠ "java/lang/invoke/MethodHandle" ∧ y.cls ≠ "java/lang/invoke/VarHandle") ∧ Cond.sameMethod y.cls y.cls y.name y.desc ∈ lw_tbl ∧ Cond.privateMethod y ∈ lw_tbl ∧ Cond.instanceMethod y ∈ lw_tbl) (⟨"java/lang/AbstractStringBuilder", "putStringAt", "(ILjava/lang/String;)V"⟩ : MethodName) := ⟨⟨by decide +kernel, by decide +kernel⟩, List.mem_of_getElem? (i := 1761) (by decide +kernel), List.mem_of_getElem? (i := 967) (by decide +kernel), List.mem_of_getElem? (i := 968) (by decide +kernel)⟩
theorem gSix_5 : (fun y : MethodName => (y.cls ≠ "java/lang/invoke/MethodHandle" ∧ y.cls ≠ "java/lang/invoke/VarHandle") ∧ Cond.sameMethod y.cls y.cls y.name y.desc ∈ lw_tbl ∧ Cond.privateMethod y ∈ lw_tbl ∧ Cond.instanceMethod y ∈ lw_tbl) (⟨"java/lang/AbstractStringBuilder", "inflateIfNeededFor", "(Ljava/lang/String;)V"⟩ : MethodName) := ⟨⟨by decide +kernel, by decide +kernel⟩, List.mem_of_getElem? (i := 1762) (by decide +kernel), List.mem_of_getElem? (i := 971) (by decide +kernel), List.mem_of_getElem? (i := 972) (by decide +kernel)⟩
theorem gSix_ok : ∀ y ∈ gSixM, (y.cls ≠ "java/lang/invoke/MethodHandle" ∧ y.cls ≠ "java/lang/invoke/VarHandle") ∧ Cond.sameMethod y.cls y.cls y.name y.desc ∈ lw_tbl ∧ Cond.privateMethod y ∈ lw_tbl ∧ Cond.instanceMethod y ∈ lw_tbl := List.forall_mem_cons.mpr ⟨gSix_0, List.forall_mem_cons.mpr ⟨gSix_1, List.forall_mem_cons.mpr ⟨gSix_2, List.forall_mem_cons.mpr ⟨gSix_3, List.forall_mem_cons.mpr ⟨gSix_4, List.forall_mem_cons.mpr ⟨gSix_5, fun _ h => absurd h List.not_mem_nil⟩⟩⟩⟩⟩⟩
theorem gBig_ts {args : Array Value} {s : State} (hts : ∀ w ∈ lw_tbl, w.before args s = true) : ∀ w ∈ gBig, w.before args s = true := by
  intro w hw
  rcases List.mem_append.mp hw with hw | hw
  · obtain ⟨y, hy, rfl⟩ := List.mem_map.mp hw
    obtain ⟨h0, h1, h2, h3⟩ := gSix_ok y hy
    exact gSel_private h0 (hts (Cond.instantiable "java/lang/StringBuilder" 4) (List.mem_of_getElem? (i := 819) (by decide +kernel))) (hts _ h1) (hts _ h2) (hts _ h3)
  · exact hts w hw
theorem wl_mem {big ws : List Cond} (ps : List Nat) (h : ws = ps.filterMap (fun i => big[i]?)) : ∀ w ∈ ws, w ∈ big := by
  intro w hw
  rw [h] at hw
  obtain ⟨i, -, hi⟩ := List.mem_filterMap.mp hw
  exact List.mem_of_getElem? hi
set_option maxRecDepth 20000 in
theorem wl_0_r1 : ∀ w ∈ wsL_law0_r1, w ∈ gBig := wl_mem [95, 96, 69, 1285, 1286, 76, 1758, 1757, 97, 98, 99, 100, 101, 102, 103, 104, 70, 264, 127, 128, 71, 265, 228, 229] (by decide +kernel)
set_option maxRecDepth 20000 in
theorem wl_0_r2 : ∀ w ∈ wsL_law0_r2, w ∈ gBig := wl_mem [74, 266, 248, 249, 75, 267, 268, 269, 270, 106, 107, 108, 125, 110, 126, 113, 130, 131, 132, 177, 178, 179, 180, 183] (by decide +kernel)
set_option maxRecDepth 20000 in
theorem wl_0_r3 : ∀ w ∈ wsL_law0_r3, w ∈ gBig := wl_mem [184, 185, 186, 133, 134, 72, 188, 149, 150, 73, 191, 193, 164, 166, 167, 168, 169, 170, 172, 195, 136, 137, 138, 143] (by decide +kernel)
set_option maxRecDepth 20000 in
theorem wl_0_r4 : ∀ w ∈ wsL_law0_r4, w ∈ gBig := wl_mem [152, 153, 154, 158, 230, 231, 232, 233, 234, 240, 251, 252, 253, 254, 257, 1287, 1288, 1289, 1290, 1295, 1300, 1301, 1302, 1303] (by decide +kernel)
set_option maxRecDepth 20000 in
theorem wl_0_r5 : ∀ w ∈ wsL_law0_r5, w ∈ gBig := wl_mem [1305, 1346, 1306, 1307, 1291, 1292, 1293, 411, 412, 68, 413, 414, 415, 416, 417, 418, 419, 421, 80, 492, 81, 420, 408, 409] (by decide +kernel)
set_option maxRecDepth 20000 in
theorem wl_0_r6 : ∀ w ∈ wsL_law0_r6, w ∈ gBig := wl_mem [488, 489, 490, 491, 109, 508, 509, 510, 511, 1351, 1352, 1353, 1354, 1355, 1296, 1356, 1357, 1358, 1359, 1361, 30, 1362, 1294, 1347] (by decide +kernel)
set_option maxRecDepth 20000 in
theorem wl_0_r7 : ∀ w ∈ wsL_law0_r7, w ∈ gBig := wl_mem [1348, 1349, 1350, 286, 287, 288, 289, 290, 291, 292, 293, 1363, 1364, 1365, 1366, 294, 295, 296, 297, 298, 299, 300, 301, 111] (by decide +kernel)
set_option maxRecDepth 20000 in
theorem wl_0_r8 : ∀ w ∈ wsL_law0_r8, w ∈ gBig := wl_mem [302, 303, 304, 305, 306, 307, 308, 309, 112, 310, 312, 6, 313, 379, 380, 86, 381, 314, 315, 316, 323, 325, 7, 326] (by decide +kernel)
set_option maxRecDepth 20000 in
theorem wl_0_r9 : ∀ w ∈ wsL_law0_r9, w ∈ gBig := wl_mem [327, 328, 329, 82, 330, 1771, 331, 332, 333, 334, 335, 1772, 337, 339, 8, 340, 341, 342, 343, 344, 345, 346, 347, 348] (by decide +kernel)
set_option maxRecDepth 20000 in
theorem wl_0_r10 : ∀ w ∈ wsL_law0_r10, w ∈ gBig := wl_mem [349, 350, 83, 351, 352, 353, 354, 355, 357, 358, 84, 359, 360, 361, 85, 362, 363, 364, 365, 366, 367, 368, 369, 370] (by decide +kernel)
set_option maxRecDepth 20000 in
theorem wl_0_r11 : ∀ w ∈ wsL_law0_r11, w ∈ gBig := wl_mem [371, 372, 373, 375, 377, 382, 383, 384, 390, 391, 392, 393, 394, 396, 9, 397, 398, 399, 400, 401, 402, 403, 404, 405] (by decide +kernel)
set_option maxRecDepth 20000 in
theorem wl_0_r12 : ∀ w ∈ wsL_law0_r12, w ∈ gBig := wl_mem [406, 1367, 1368, 1369, 1370, 1371, 1373, 31, 1374, 1297, 1298, 1299, 1375, 1377, 32, 1378, 1379, 1381, 33, 1382, 1383, 1385, 34, 1386] (by decide +kernel)
set_option maxRecDepth 20000 in
theorem wl_0_r13 : ∀ w ∈ wsL_law0_r13, w ∈ gBig := wl_mem [1387, 1389, 35, 1390, 1391, 1393, 36, 1394, 1395, 1397, 37, 1398, 1399, 1400, 1402, 38, 1403, 1404, 1405, 1406, 1407, 1408, 1409, 1410] (by decide +kernel)
set_option maxRecDepth 20000 in
theorem wl_0_r14 : ∀ w ∈ wsL_law0_r14, w ∈ gBig := wl_mem [1411, 1412, 1413, 1415, 39, 1416, 1417, 1419, 40, 1420, 1421, 1422, 1423, 1424, 1425, 1426, 1427, 1428, 1429, 1430, 1431, 1432, 1433, 1434] (by decide +kernel)
set_option maxRecDepth 20000 in
theorem wl_0_r15 : ∀ w ∈ wsL_law0_r15, w ∈ gBig := wl_mem [1435, 1436, 1437, 1438, 1439, 1440, 1441, 1442, 1443, 1444, 1445, 1446, 1447, 1448, 1449, 1450, 1451, 1452, 1453, 1454, 1455, 1456, 1457, 1458] (by decide +kernel)
set_option maxRecDepth 20000 in
theorem wl_0_r16 : ∀ w ∈ wsL_law0_r16, w ∈ gBig := wl_mem [1459, 1460, 1461, 1462, 1463, 1464, 1465, 1466, 1467, 1468, 1470, 41, 1471, 1472, 1473, 1474, 1475, 1476, 1477, 1478, 1480, 42, 1481, 1482] (by decide +kernel)
set_option maxRecDepth 20000 in
theorem wl_0_r17 : ∀ w ∈ wsL_law0_r17, w ∈ gBig := wl_mem [1484, 43, 1485, 1486, 1488, 44, 1489, 1308, 1490, 1492, 45, 1493, 1494, 1496, 46, 1497, 1498, 1499, 1500, 1501, 1502, 1503, 1504, 1505] (by decide +kernel)
set_option maxRecDepth 20000 in
theorem wl_0_r18 : ∀ w ∈ wsL_law0_r18, w ∈ gBig := wl_mem [1506, 1507, 1508, 1509, 1510, 1511, 1512, 1513, 1514, 1515, 1516, 1517, 1518, 512, 513, 514, 515, 516, 517, 518, 256, 520, 521, 522] (by decide +kernel)
set_option maxRecDepth 20000 in
theorem wl_0_r19 : ∀ w ∈ wsL_law0_r19, w ∈ gBig := wl_mem [523, 173, 176, 524, 526, 525, 87, 187, 527, 528, 529, 530, 139, 531, 532, 533, 534, 535, 155, 536, 537, 538, 539, 540] (by decide +kernel)
set_option maxRecDepth 20000 in
theorem wl_0_r20 : ∀ w ∈ wsL_law0_r20, w ∈ gBig := wl_mem [237, 541, 542, 543, 544, 545, 546, 547, 548, 549, 550, 552, 553, 554, 555, 556, 557, 558, 559, 560, 561, 562, 563, 564] (by decide +kernel)
set_option maxRecDepth 20000 in
theorem wl_0_r21 : ∀ w ∈ wsL_law0_r21, w ∈ gBig := wl_mem [565, 566, 568, 569, 570, 571, 572, 573, 574, 575, 576, 577, 578, 579, 580, 581, 582, 584, 11, 585, 587, 588, 589, 590] (by decide +kernel)
set_option maxRecDepth 20000 in
theorem wl_0_r22 : ∀ w ∈ wsL_law0_r22, w ∈ gBig := wl_mem [591, 592, 593, 594, 595, 596, 598, 12, 599, 600, 601, 602, 603, 604, 605, 606, 607, 608, 609, 610, 611, 612, 614, 616] (by decide +kernel)
set_option maxRecDepth 20000 in
theorem wl_0_r23 : ∀ w ∈ wsL_law0_r23, w ∈ gBig := wl_mem [13, 617, 618, 620, 14, 621, 622, 623, 624, 625, 156, 626, 627, 628, 629, 630, 631, 632, 633, 634, 635, 636, 637, 638] (by decide +kernel)
set_option maxRecDepth 20000 in
theorem wl_0_r24 : ∀ w ∈ wsL_law0_r24, w ∈ gBig := wl_mem [639, 640, 641, 141, 642, 644, 15, 645, 646, 647, 648, 649, 650, 652, 16, 653, 654, 656, 17, 657, 658, 659, 660, 661] (by decide +kernel)
set_option maxRecDepth 20000 in
theorem wl_0_r25 : ∀ w ∈ wsL_law0_r25, w ∈ gBig := wl_mem [662, 663, 664, 665, 666, 667, 668, 669, 670, 671, 672, 673, 674, 675, 676, 677, 678, 679, 680, 681, 682, 683, 684, 685] (by decide +kernel)
set_option maxRecDepth 20000 in
theorem wl_0_r26 : ∀ w ∈ wsL_law0_r26, w ∈ gBig := wl_mem [686, 688, 18, 689, 690, 691, 692, 693, 694, 696, 19, 697, 698, 699, 700, 701, 702, 703, 704, 705, 706, 708, 20, 709] (by decide +kernel)
set_option maxRecDepth 20000 in
theorem wl_0_r27 : ∀ w ∈ wsL_law0_r27, w ∈ gBig := wl_mem [710, 712, 21, 713, 714, 716, 22, 717, 718, 720, 23, 721, 722, 724, 24, 725, 726, 1519, 1520, 1521, 1522, 1304, 727, 728] (by decide +kernel)
set_option maxRecDepth 20000 in
theorem wl_0_r28 : ∀ w ∈ wsL_law0_r28, w ∈ gBig := wl_mem [729, 730, 731, 732, 733, 735, 736, 737, 738, 739, 741, 25, 742, 1523, 1524, 1525, 1526, 1527, 1528, 1530, 47, 1531, 1532, 1534] (by decide +kernel)
set_option maxRecDepth 20000 in
theorem wl_0_r29 : ∀ w ∈ wsL_law0_r29, w ∈ gBig := wl_mem [48, 1535, 743, 744, 745, 746, 747, 748, 749, 750, 752, 88, 751, 769, 770, 771, 772, 773, 774, 775, 776, 777, 778, 779] (by decide +kernel)
set_option maxRecDepth 20000 in
theorem wl_0_r30 : ∀ w ∈ wsL_law0_r30, w ∈ gBig := wl_mem [780, 781, 782, 1536, 1537, 1538, 1539, 1540, 1542, 49, 1543, 1544, 1546, 50, 1547, 1548, 1550, 51, 1551, 783, 784, 785, 786, 787] (by decide +kernel)
set_option maxRecDepth 20000 in
theorem wl_0_r31 : ∀ w ∈ wsL_law0_r31, w ∈ gBig := wl_mem [788, 789, 790, 793, 794, 795, 796, 797, 799, 26, 800, 1552, 1553, 1554, 1555, 1559, 1556, 1557, 1558, 1560, 1562, 52, 1563, 801] (by decide +kernel)
set_option maxRecDepth 20000 in
theorem wl_0_r32 : ∀ w ∈ wsL_law0_r32, w ∈ gBig := wl_mem [802, 803, 804, 805, 806, 807, 190, 808, 811, 1564, 1565, 1566, 1567, 1572, 1568, 1570, 53, 1571, 812, 813, 814, 815, 816, 817] (by decide +kernel)
set_option maxRecDepth 20000 in
theorem wl_0_r33 : ∀ w ∈ wsL_law0_r33, w ∈ gBig := wl_mem [818, 820, 821, 822, 823, 824, 825, 90, 826, 827, 828, 829, 830, 89, 831, 832, 833, 410, 841, 842, 834, 835, 836, 837] (by decide +kernel)
set_option maxRecDepth 20000 in
theorem wl_0_r34 : ∀ w ∈ wsL_law0_r34, w ∈ gBig := wl_mem [838, 839, 840, 853, 854, 855, 856, 857, 1760, 852, 858, 859, 843, 860, 861, 91, 862, 863, 1761, 0, 865, 866, 867, 1762] (by decide +kernel)
set_option maxRecDepth 20000 in
theorem wl_0_r35 : ∀ w ∈ wsL_law0_r35, w ∈ gBig := wl_mem [1, 869, 870, 879, 871, 872, 92, 873, 874, 875, 876, 877, 878, 880, 881, 93, 882, 883, 884, 885, 887, 888, 889, 890] (by decide +kernel)
set_option maxRecDepth 20000 in
theorem wl_0_r36 : ∀ w ∈ wsL_law0_r36, w ∈ gBig := wl_mem [891, 892, 894, 895, 893, 896, 897, 898, 899, 900, 902, 904, 905, 906, 907, 908, 909, 910, 911, 912, 913, 914, 915, 916] (by decide +kernel)
set_option maxRecDepth 20000 in
theorem wl_0_r37 : ∀ w ∈ wsL_law0_r37, w ∈ gBig := wl_mem [917, 918, 919, 923, 920, 921, 922, 924, 925, 926, 927, 928, 1763, 929, 930, 931, 932, 933, 934, 1764, 2, 936, 937, 938] (by decide +kernel)
set_option maxRecDepth 20000 in
theorem wl_0_r38 : ∀ w ∈ wsL_law0_r38, w ∈ gBig := wl_mem [939, 940, 941, 942, 943, 944, 945, 946, 947, 948, 949, 950, 951, 952, 953, 954, 955, 957, 958, 959, 960, 961, 1765, 962] (by decide +kernel)
set_option maxRecDepth 20000 in
theorem wl_0_r39 : ∀ w ∈ wsL_law0_r39, w ∈ gBig := wl_mem [963, 964, 1766, 3, 966, 967, 968, 969, 970, 971, 972, 1767, 4, 974, 975, 976, 1768, 5, 978, 979, 980, 981, 982, 983] (by decide +kernel)
set_option maxRecDepth 20000 in
theorem wl_0_r40 : ∀ w ∈ wsL_law0_r40, w ∈ gBig := wl_mem [984, 985, 986, 988, 989, 990, 991, 992, 1769, 993, 994, 995, 996, 997, 998, 999, 1770, 1000, 1001, 1002, 1003, 1004, 1573, 1574] (by decide +kernel)
set_option maxRecDepth 20000 in
theorem wl_0_r41 : ∀ w ∈ wsL_law0_r41, w ∈ gBig := wl_mem [1575, 1576, 1309, 1310, 1577, 1579, 54, 1580, 1581, 1582, 1583, 1584, 1586, 55, 1587, 1588, 1590, 56, 1591, 1005, 1006, 1007, 1008, 1009] (by decide +kernel)
set_option maxRecDepth 20000 in
theorem wl_0_r42 : ∀ w ∈ wsL_law0_r42, w ∈ gBig := wl_mem [1010, 1011, 192, 182, 1013, 1014, 1592, 1593, 1594, 1595, 1015, 1016, 1017, 1018, 1019, 1020, 1021, 196, 1022, 1023, 1024, 1596, 1597, 1598] (by decide +kernel)
set_option maxRecDepth 20000 in
theorem wl_0_r43 : ∀ w ∈ wsL_law0_r43, w ∈ gBig := wl_mem [1599, 1026, 1027, 1028, 1029, 1030, 1031, 1032, 1033, 1034, 1035, 1036, 239, 1037, 1039, 27, 1040, 1041, 1042, 1043, 1045, 28, 1046, 1050] (by decide +kernel)
set_option maxRecDepth 20000 in
theorem wl_0_r44 : ∀ w ∈ wsL_law0_r44, w ∈ gBig := wl_mem [1051, 1052, 1053, 1054, 1600, 1601, 1602, 1603, 1604, 1605, 1606, 1607, 1608, 1610, 57, 1611, 1055, 1056, 1057, 1058, 1059, 1060, 1061, 1062] (by decide +kernel)
set_option maxRecDepth 20000 in
theorem wl_0_r45 : ∀ w ∈ wsL_law0_r45, w ∈ gBig := wl_mem [1063, 1064, 1065, 1612, 1613, 1614, 1615, 1066, 1067, 1068, 1069, 1070, 1071, 1072, 1073, 1616, 1617, 1618, 1619, 1074, 1075, 1076, 1077, 1078] (by decide +kernel)
set_option maxRecDepth 20000 in
theorem wl_0_r46 : ∀ w ∈ wsL_law0_r46, w ∈ gBig := wl_mem [1079, 1080, 1081, 1082, 1083, 1084, 1620, 1621, 1622, 1623, 1624, 1625, 1626, 1085, 1086, 1087, 1088, 1089, 1090, 1091, 1092, 1627, 1628, 1629] (by decide +kernel)
set_option maxRecDepth 20000 in
theorem wl_0_r47 : ∀ w ∈ wsL_law0_r47, w ∈ gBig := wl_mem [1630, 1093, 1094, 1095, 1096, 1097, 1098, 1099, 1100, 1101, 1102, 1103, 1104, 1631, 1632, 1633, 1634, 1105, 1106, 1107, 1108, 1109, 1110, 1111] (by decide +kernel)
set_option maxRecDepth 20000 in
theorem wl_0_r48 : ∀ w ∈ wsL_law0_r48, w ∈ gBig := wl_mem [1112, 1113, 1114, 1115, 1116, 1117, 1118, 1119, 1635, 1636, 1637, 1638, 1639, 1120, 1121, 1122, 1123, 1124, 1125, 1126, 1127, 1640, 1641, 1642] (by decide +kernel)
set_option maxRecDepth 20000 in
theorem wl_0_r49 : ∀ w ∈ wsL_law0_r49, w ∈ gBig := wl_mem [1643, 1644, 1645, 1646, 1128, 1129, 1130, 1131, 1132, 1133, 1134, 1135, 1136, 1137, 1138, 1647, 1648, 1649, 1650, 1651, 1652, 1653, 1654, 1139] (by decide +kernel)
set_option maxRecDepth 20000 in
theorem wl_0_r50 : ∀ w ∈ wsL_law0_r50, w ∈ gBig := wl_mem [1140, 1141, 1142, 1143, 1144, 1145, 1146, 1655, 1656, 1657, 1658, 1147, 1148, 1149, 1150, 1151, 1152, 1153, 1155, 1659, 1660, 1661, 1662, 1663] (by decide +kernel)
set_option maxRecDepth 20000 in
theorem wl_0_r51 : ∀ w ∈ wsL_law0_r51, w ∈ gBig := wl_mem [1664, 1665, 1666, 1156, 1157, 1158, 1159, 1160, 1161, 1162, 1163, 1164, 1165, 1166, 1168, 1170, 1167, 1667, 1668, 1669, 1670, 1671, 1672, 1673] (by decide +kernel)
set_option maxRecDepth 20000 in
theorem wl_0_r52 : ∀ w ∈ wsL_law0_r52, w ∈ gBig := wl_mem [1172, 1173, 1174, 1175, 1176, 1177, 1178, 238, 1180, 1181, 1182, 1183, 1674, 1675, 1676, 1677, 1184, 1185, 1186, 1187, 1188, 1189, 1190, 1191] (by decide +kernel)
set_option maxRecDepth 20000 in
theorem wl_0_r53 : ∀ w ∈ wsL_law0_r53, w ∈ gBig := wl_mem [1193, 1195, 1678, 1679, 1680, 1681, 1196, 1197, 1198, 1199, 1200, 1201, 1202, 1203, 1682, 1683, 1684, 1685, 1204, 1205, 1206, 1207, 1208, 1209] (by decide +kernel)
set_option maxRecDepth 20000 in
theorem wl_0_r54 : ∀ w ∈ wsL_law0_r54, w ∈ gBig := wl_mem [1210, 157, 194, 1686, 1687, 1688, 1689, 1690, 1691, 1692, 1693, 1694, 1696, 58, 1697, 1212, 1213, 1214, 1215, 1216, 1217, 1218, 175, 1220] (by decide +kernel)
set_option maxRecDepth 20000 in
theorem wl_0_r55 : ∀ w ∈ wsL_law0_r55, w ∈ gBig := wl_mem [1221, 1222, 1223, 1224, 1698, 1699, 1700, 1701, 1225, 1226, 1227, 1228, 1229, 1230, 1231, 1238, 1233, 1234, 94, 1235, 1236, 1239, 1240, 1241] (by decide +kernel)
set_option maxRecDepth 20000 in
theorem wl_0_r56 : ∀ w ∈ wsL_law0_r56, w ∈ gBig := wl_mem [174, 181, 189, 140, 1242, 1243, 1244, 1245, 1246, 1248, 1249, 1250, 1702, 1703, 1704, 1705, 1706, 1707, 1709, 59, 1710, 1711, 1713, 60] (by decide +kernel)
set_option maxRecDepth 20000 in
theorem wl_0_r57 : ∀ w ∈ wsL_law0_r57, w ∈ gBig := wl_mem [1714, 1715, 1717, 61, 1718, 1719, 1721, 62, 1722, 1723, 1725, 63, 1726, 1727, 1729, 64, 1730, 1731, 1733, 65, 1734, 1735, 1737, 66] (by decide +kernel)
set_option maxRecDepth 20000 in
theorem wl_0_r58 : ∀ w ∈ wsL_law0_r58, w ∈ gBig := wl_mem [1738, 1251, 1252, 1253, 1254, 1255, 1256, 1257, 1259, 1260, 142, 1261, 1262, 1263, 1264, 1739, 1740, 1741, 1742, 1743, 1744, 1745, 1747, 67] (by decide +kernel)
set_option maxRecDepth 20000 in
theorem wl_0_r59 : ∀ w ∈ wsL_law0_r59, w ∈ gBig := wl_mem [1748, 1265, 1266, 1267, 1268, 1269, 1270, 1271, 258, 1273, 1275, 29, 1276, 1749, 1750, 1751, 1752, 1277, 1278, 1279, 1280, 1281, 1282, 1283] (by decide +kernel)
set_option maxRecDepth 20000 in
theorem wl_0_r60 : ∀ w ∈ wsL_law0_r60, w ∈ gBig := wl_mem [1753, 1754, 1755, 1756] (by decide +kernel)
set_option maxRecDepth 20000 in
theorem wl_wsX70 : ∀ w ∈ wsX70, w ∈ gBig := wl_mem [271, 273, 275, 277, 279, 281, 283] (by decide +kernel)
set_option maxRecDepth 20000 in
theorem wl_wsX80 : ∀ w ∈ wsX80, w ∈ gBig := wl_mem [1311, 1313, 1315, 1317, 1319, 1321, 1323, 1325, 1327, 1329, 1331, 1333, 1335, 1337, 1339, 1341, 1343] (by decide +kernel)
set_option maxRecDepth 20000 in
theorem wl_wsX50 : ∀ w ∈ wsX50, w ∈ gBig := wl_mem [114, 116, 118, 120, 122] (by decide +kernel)
set_option maxRecDepth 20000 in
theorem wl_wsX20 : ∀ w ∈ wsX20, w ∈ gBig := wl_mem [197, 199, 201, 203, 205, 207, 209, 211, 213, 215, 217, 219, 221, 223, 225] (by decide +kernel)
set_option maxRecDepth 20000 in
theorem wl_wsX10 : ∀ w ∈ wsX10, w ∈ gBig := wl_mem [241, 243, 245] (by decide +kernel)
set_option maxRecDepth 20000 in
theorem wl_wsX40 : ∀ w ∈ wsX40, w ∈ gBig := wl_mem [259, 261] (by decide +kernel)
set_option maxRecDepth 20000 in
theorem wl_wsX00 : ∀ w ∈ wsX00, w ∈ gBig := wl_mem [144, 146] (by decide +kernel)
set_option maxRecDepth 20000 in
theorem wl_wsX60 : ∀ w ∈ wsX60, w ∈ gBig := wl_mem [159, 161] (by decide +kernel)
set_option maxRecDepth 20000 in
theorem wl_wsJ40 : ∀ w ∈ wsJ40, w ∈ gBig := wl_mem [844, 846, 848, 850] (by decide +kernel)
theorem wl_0 : ∀ w ∈ wsL_law0, w ∈ gBig := fun w h => (List.mem_append.mp h).elim (fun h => (List.mem_append.mp h).elim (fun h => (List.mem_append.mp h).elim (fun h => (List.mem_append.mp h).elim (fun h => (List.mem_append.mp h).elim (fun h => (List.mem_append.mp h).elim (fun h => (List.mem_append.mp h).elim (fun h => (List.mem_append.mp h).elim (fun h => (List.mem_append.mp h).elim (fun h => (List.mem_append.mp h).elim (fun h => (List.mem_append.mp h).elim (fun h => wl_0_r1 w h) (fun h => (List.mem_append.mp h).elim (fun h => wl_0_r2 w h) (fun h => (List.mem_append.mp h).elim (fun h => wl_0_r3 w h) (fun h => (List.mem_append.mp h).elim (fun h => wl_0_r4 w h) (fun h => (List.mem_append.mp h).elim (fun h => wl_0_r5 w h) (fun h => (List.mem_append.mp h).elim (fun h => wl_0_r6 w h) (fun h => (List.mem_append.mp h).elim (fun h => wl_0_r7 w h) (fun h => (List.mem_append.mp h).elim (fun h => wl_0_r8 w h) (fun h => (List.mem_append.mp h).elim (fun h => wl_0_r9 w h) (fun h => (List.mem_append.mp h).elim (fun h => wl_0_r10 w h) (fun h => (List.mem_append.mp h).elim (fun h => wl_0_r11 w h) (fun h => (List.mem_append.mp h).elim (fun h => wl_0_r12 w h) (fun h => (List.mem_append.mp h).elim (fun h => wl_0_r13 w h) (fun h => (List.mem_append.mp h).elim (fun h => wl_0_r14 w h) (fun h => (List.mem_append.mp h).elim (fun h => wl_0_r15 w h) (fun h => (List.mem_append.mp h).elim (fun h => wl_0_r16 w h) (fun h => (List.mem_append.mp h).elim (fun h => wl_0_r17 w h) (fun h => (List.mem_append.mp h).elim (fun h => wl_0_r18 w h) (fun h => (List.mem_append.mp h).elim (fun h => wl_0_r19 w h) (fun h => (List.mem_append.mp h).elim (fun h => wl_0_r20 w h) (fun h => (List.mem_append.mp h).elim (fun h => wl_0_r21 w h) (fun h => (List.mem_append.mp h).elim (fun h => wl_0_r22 w h) (fun h => (List.mem_append.mp h).elim (fun h => wl_0_r23 w h) (fun h => (List.mem_append.mp h).elim (fun h => wl_0_r24 w h) (fun h => (List.mem_append.mp h).elim (fun h => wl_0_r25 w h) (fun h => (List.mem_append.mp h).elim (fun h => wl_0_r26 w h) (fun h => (List.mem_append.mp h).elim (fun h => wl_0_r27 w h) (fun h => (List.mem_append.mp h).elim (fun h => wl_0_r28 w h) (fun h => (List.mem_append.mp h).elim (fun h => wl_0_r29 w h) (fun h => (List.mem_append.mp h).elim (fun h => wl_0_r30 w h) (fun h => (List.mem_append.mp h).elim (fun h => wl_0_r31 w h) (fun h => (List.mem_append.mp h).elim (fun h => wl_0_r32 w h) (fun h => (List.mem_append.mp h).elim (fun h => wl_0_r33 w h) (fun h => (List.mem_append.mp h).elim (fun h => wl_0_r34 w h) (fun h => (List.mem_append.mp h).elim (fun h => wl_0_r35 w h) (fun h => (List.mem_append.mp h).elim (fun h => wl_0_r36 w h) (fun h => (List.mem_append.mp h).elim (fun h => wl_0_r37 w h) (fun h => (List.mem_append.mp h).elim (fun h => wl_0_r38 w h) (fun h => (List.mem_append.mp h).elim (fun h => wl_0_r39 w h) (fun h => (List.mem_append.mp h).elim (fun h => wl_0_r40 w h) (fun h => (List.mem_append.mp h).elim (fun h => wl_0_r41 w h) (fun h => (List.mem_append.mp h).elim (fun h => wl_0_r42 w h) (fun h => (List.mem_append.mp h).elim (fun h => wl_0_r43 w h) (fun h => (List.mem_append.mp h).elim (fun h => wl_0_r44 w h) (fun h => (List.mem_append.mp h).elim (fun h => wl_0_r45 w h) (fun h => (List.mem_append.mp h).elim (fun h => wl_0_r46 w h) (fun h => (List.mem_append.mp h).elim (fun h => wl_0_r47 w h) (fun h => (List.mem_append.mp h).elim (fun h => wl_0_r48 w h) (fun h => (List.mem_append.mp h).elim (fun h => wl_0_r49 w h) (fun h => (List.mem_append.mp h).elim (fun h => wl_0_r50 w h) (fun h => (List.mem_append.mp h).elim (fun h => wl_0_r51 w h) (fun h => (List.mem_append.mp h).elim (fun h => wl_0_r52 w h) (fun h => (List.mem_append.mp h).elim (fun h => wl_0_r53 w h) (fun h => (List.mem_append.mp h).elim (fun h => wl_0_r54 w h) (fun h => (List.mem_append.mp h).elim (fun h => wl_0_r55 w h) (fun h => (List.mem_append.mp h).elim (fun h => wl_0_r56 w h) (fun h => (List.mem_append.mp h).elim (fun h => wl_0_r57 w h) (fun h => (List.mem_append.mp h).elim (fun h => wl_0_r58 w h) (fun h => (List.mem_append.mp h).elim (fun h => wl_0_r59 w h) (fun h => wl_0_r60 w h)))))))))))))))))))))))))))))))))))))))))))))))))))))))))))) (fun h => wl_wsX70 w h)) (fun h => wl_wsX80 w h)) (fun h => wl_wsX50 w h)) (fun h => wl_wsX20 w h)) (fun h => wl_wsX10 w h)) (fun h => wl_wsX40 w h)) (fun h => wl_wsX00 w h)) (fun h => wl_wsX60 w h)) (fun h => wl_wsJ40 w h)) (fun h => absurd h List.not_mem_nil)
theorem wsL_law_x0 : ∀ w ∈ (vx_atS RX7 54 "java/lang/IllegalArgumentException" ["java/lang/RuntimeException", "java/lang/Exception"]).filter goodWord, w ∈ lw_tbl := by decide +kernel
theorem wsL_law_x1 : ∀ w ∈ (vx_atS RX7 65 "java/lang/IllegalStateException" ["java/lang/RuntimeException", "java/lang/Exception"]).filter goodWord, w ∈ lw_tbl := by decide +kernel
theorem wsL_law_x2 : ∀ w ∈ (vx_atS RX7 117 "java/lang/IndexOutOfBoundsException" ["java/lang/RuntimeException", "java/lang/Exception"]).filter goodWord, w ∈ lw_tbl := by decide +kernel
theorem wl_all : ∀ w ∈ wsL_law, w ∈ gBig := fun w h => (List.mem_append.mp h).elim (fun h => (List.mem_append.mp h).elim (fun h => (List.mem_append.mp h).elim (fun h => wl_0 w h) (fun h => List.mem_append_right _ (wsL_law_x0 w h))) (fun h => List.mem_append_right _ (wsL_law_x1 w h))) (fun h => List.mem_append_right _ (wsL_law_x2 w h))
theorem inlX0 : ∀ w ∈ wsX00, w ∈ wsL_law := fun _ h => List.mem_append_left _ (List.mem_append_left _ (List.mem_append_left _ (List.mem_append_left _ (List.mem_append_left _ (List.mem_append_left _ (List.mem_append_right _ h))))))
theorem inlX1 : ∀ w ∈ wsX10, w ∈ wsL_law := fun _ h => List.mem_append_left _ (List.mem_append_left _ (List.mem_append_left _ (List.mem_append_left _ (List.mem_append_left _ (List.mem_append_left _ (List.mem_append_left _ (List.mem_append_left _ (List.mem_append_right _ h))))))))
theorem inlX2 : ∀ w ∈ wsX20, w ∈ wsL_law := fun _ h => List.mem_append_left _ (List.mem_append_left _ (List.mem_append_left _ (List.mem_append_left _ (List.mem_append_left _ (List.mem_append_left _ (List.mem_append_left _ (List.mem_append_left _ (List.mem_append_left _ (List.mem_append_right _ h)))))))))
theorem inlX4 : ∀ w ∈ wsX40, w ∈ wsL_law := fun _ h => List.mem_append_left _ (List.mem_append_left _ (List.mem_append_left _ (List.mem_append_left _ (List.mem_append_left _ (List.mem_append_left _ (List.mem_append_left _ (List.mem_append_right _ h)))))))
theorem inlX5 : ∀ w ∈ wsX50, w ∈ wsL_law := fun _ h => List.mem_append_left _ (List.mem_append_left _ (List.mem_append_left _ (List.mem_append_left _ (List.mem_append_left _ (List.mem_append_left _ (List.mem_append_left _ (List.mem_append_left _ (List.mem_append_left _ (List.mem_append_left _ (List.mem_append_right _ h))))))))))
theorem inlX6 : ∀ w ∈ wsX60, w ∈ wsL_law := fun _ h => List.mem_append_left _ (List.mem_append_left _ (List.mem_append_left _ (List.mem_append_left _ (List.mem_append_left _ (List.mem_append_right _ h)))))
theorem inlX7 : ∀ w ∈ wsX70, w ∈ wsL_law := fun _ h => List.mem_append_left _ (List.mem_append_left _ (List.mem_append_left _ (List.mem_append_left _ (List.mem_append_left _ (List.mem_append_left _ (List.mem_append_left _ (List.mem_append_left _ (List.mem_append_left _ (List.mem_append_left _ (List.mem_append_left _ (List.mem_append_left _ (List.mem_append_right _ h))))))))))))
theorem inlX8 : ∀ w ∈ wsX80, w ∈ wsL_law := fun _ h => List.mem_append_left _ (List.mem_append_left _ (List.mem_append_left _ (List.mem_append_left _ (List.mem_append_left _ (List.mem_append_left _ (List.mem_append_left _ (List.mem_append_left _ (List.mem_append_left _ (List.mem_append_left _ (List.mem_append_left _ (List.mem_append_right _ h)))))))))))
theorem inlJ4 : ∀ w ∈ wsJ40, w ∈ wsL_law := fun _ h => List.mem_append_left _ (List.mem_append_left _ (List.mem_append_left _ (List.mem_append_left _ (List.mem_append_right _ h))))
