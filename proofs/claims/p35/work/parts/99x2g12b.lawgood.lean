/-! ===== words of the law, piece 1 ===== -/
set_option maxHeartbeats 4000000 in
set_option maxRecDepth 20000 in
theorem ggP_errors_11 : GoodIn wsL_law (((((((((((((wsR_errors).drop 60).drop 60).drop 60).drop 60).drop 60).drop 60).drop 60).drop 60).drop 60).drop 60).drop 60).take 60) := goodIn_r _ [430, 431, 432, 433, 442, 443, 444, 445, 454, 455, 456, 457, 458, 459, 460, 461, 462, 463, 464, 465, 466, 467, 468, 469, 470, 471, 472, 473, 902, 903, 904, 905, 906, 907, 908, 909, 910, 911, 912, 913, 914, 915, 916, 917, 918, 919, 920, 921, 922, 498, 923, 924, 491, 492, 493, 494, 495, 496, 497, 499] (by decide +kernel) (by decide +kernel)
set_option maxHeartbeats 4000000 in
set_option maxRecDepth 20000 in
theorem ggP_errors_12 : GoodIn wsL_law ((((((((((((((wsR_errors).drop 60).drop 60).drop 60).drop 60).drop 60).drop 60).drop 60).drop 60).drop 60).drop 60).drop 60).drop 60).take 60) := goodIn_r _ [351, 352, 353, 354, 355, 356, 357, 27, 358, 359, 360, 474, 475, 476, 479, 480, 481, 482, 485, 486, 487, 488, 489, 490, 753, 754, 755, 756, 757, 758, 759, 760, 761, 762, 708, 763, 764, 765, 766, 767, 710, 768, 769, 770, 711, 723, 735, 739, 771, 752, 775, 776, 696, 697, 698, 699, 700, 701, 702, 703] (by decide +kernel) (by decide +kernel)
set_option maxHeartbeats 4000000 in
set_option maxRecDepth 20000 in
theorem ggP_errors_13 : GoodIn wsL_law (((((((((((((((wsR_errors).drop 60).drop 60).drop 60).drop 60).drop 60).drop 60).drop 60).drop 60).drop 60).drop 60).drop 60).drop 60).drop 60).take 60) := goodIn_r _ [704, 705, 706, 707, 709, 743, 925, 926, 927, 928, 929, 930, 931, 932, 933, 934, 935, 936, 937, 25, 26, 938, 939, 940, 941, 942, 943, 944, 945, 946, 947, 948, 949, 950, 951, 952, 953, 954, 955, 13, 956, 957, 958, 12, 959, 253, 960, 961, 962, 963, 33, 1044, 1045, 1046, 1047, 1048, 1049, 1050, 1056, 1057] (by decide +kernel) (by decide +kernel)
set_option maxHeartbeats 4000000 in
set_option maxRecDepth 20000 in
theorem ggP_errors_14 : GoodIn wsL_law (((((((((((((((wsR_errors).drop 60).drop 60).drop 60).drop 60).drop 60).drop 60).drop 60).drop 60).drop 60).drop 60).drop 60).drop 60).drop 60).drop 60) := goodIn_r _ [1058, 1059, 1060, 1061, 1062, 1063, 1064, 1065, 1066, 1067, 1068, 1069, 1070, 1076, 1077, 1078, 1079, 1080, 1081, 1082, 1083, 1071, 1072, 1073, 1074, 1075, 1051, 1052, 1053, 1054, 1055] (by decide +kernel) (by decide +kernel)
set_option maxHeartbeats 4000000 in
set_option maxRecDepth 20000 in
theorem ggR_errors : GoodIn wsL_law wsR_errors := goodIn_td 60 ggP_errors_0 (goodIn_td 60 ggP_errors_1 (goodIn_td 60 ggP_errors_2 (goodIn_td 60 ggP_errors_3 (goodIn_td 60 ggP_errors_4 (goodIn_td 60 ggP_errors_5 (goodIn_td 60 ggP_errors_6 (goodIn_td 60 ggP_errors_7 (goodIn_td 60 ggP_errors_8 (goodIn_td 60 ggP_errors_9 (goodIn_td 60 ggP_errors_10 (goodIn_td 60 ggP_errors_11 (goodIn_td 60 ggP_errors_12 (goodIn_td 60 ggP_errors_13 ggP_errors_14)))))))))))))
set_option maxHeartbeats 4000000 in
set_option maxRecDepth 20000 in
theorem ggB_errors : GoodIn wsL_law wsB_errors := goodIn_app (a := [_]) ggH_errors ggR_errors
set_option maxHeartbeats 4000000 in
set_option maxRecDepth 20000 in
theorem ggL_law_L_errors : GoodIn wsL_law wsL_errors := goodIn_ca (goodIn_ca (goodIn_ca ggB_errors (goodIn_sub (fun _ h => List.mem_append_left _ (List.mem_append_left _ (List.mem_append_right _ h))) (by decide +kernel))) (goodIn_sub (fun _ h => List.mem_append_left _ (List.mem_append_right _ h)) (by decide +kernel))) (goodIn_sub (fun _ h => List.mem_append_right _ h) (by decide +kernel))
set_option maxHeartbeats 4000000 in
set_option maxRecDepth 20000 in
theorem gL_law_L_errors : GoodIn wsL_law (va_wsS RL 269 yL_errors wsL_errors) := goodIn_app (goodIn_of _ (by decide +kernel)) ggL_law_L_errors
def wsR_kept : List Cond := (wsL_kept_r1 ++ (wsL_kept_r2 ++ (wsL_kept_r3 ++ (wsL_kept_r4 ++ (wsL_kept_r5 ++ (wsL_kept_r6 ++ (wsL_kept_r7 ++ (wsL_kept_r8 ++ (wsL_kept_r9 ++ (wsL_kept_r10 ++ (wsL_kept_r11 ++ (wsL_kept_r12 ++ (wsL_kept_r13 ++ (wsL_kept_r14 ++ (wsL_kept_r15 ++ (wsL_kept_r16 ++ (wsL_kept_r17 ++ wsL_kept_r18))))))))))))))))) ++ wsX70 ++ wsX20 ++ wsX00 ++ wsX60 ++ wsJ40
def wsB_kept : List Cond := .code yL_kept cL_kept 28 (some .boolean) :: wsR_kept
set_option maxHeartbeats 4000000 in
set_option maxRecDepth 20000 in
theorem ggM_kept : (.code yL_kept cL_kept 28 (some .boolean) : Cond) ∈ wsL_law0_r41 := by
  unfold wsL_law0_r41
  exact .tail _ (.tail _ (.tail _ (.tail _ (.tail _ (.tail _ (.head _))))))
set_option maxHeartbeats 4000000 in
set_option maxRecDepth 20000 in
theorem ggH_kept : GoodIn wsL_law [.code yL_kept cL_kept 28 (some .boolean)] := goodIn_sub (by
  intro w h
  rw [List.mem_singleton.mp h]
  exact List.mem_append_left _ (List.mem_append_left _ (List.mem_append_left _ (List.mem_append_left _ (List.mem_append_left _ (List.mem_append_left _ (List.mem_append_left _ (List.mem_append_left _ (List.mem_append_left _ (List.mem_append_left _ (List.mem_append_left _ (List.mem_append_left _ (List.mem_append_right _ (List.mem_append_right _ (List.mem_append_right _ (List.mem_append_right _ (List.mem_append_right _ (List.mem_append_right _ (List.mem_append_right _ (List.mem_append_right _ (List.mem_append_right _ (List.mem_append_right _ (List.mem_append_right _ (List.mem_append_right _ (List.mem_append_right _ (List.mem_append_right _ (List.mem_append_right _ (List.mem_append_right _ (List.mem_append_right _ (List.mem_append_right _ (List.mem_append_right _ (List.mem_append_right _ (List.mem_append_right _ (List.mem_append_right _ (List.mem_append_right _ (List.mem_append_right _ (List.mem_append_right _ (List.mem_append_right _ (List.mem_append_right _ (List.mem_append_right _ (List.mem_append_right _ (List.mem_append_right _ (List.mem_append_right _ (List.mem_append_right _ (List.mem_append_right _ (List.mem_append_right _ (List.mem_append_right _ (List.mem_append_right _ (List.mem_append_right _ (List.mem_append_right _ (List.mem_append_right _ (List.mem_append_right _ (List.mem_append_left _ (ggM_kept)))))))))))))))))))))))))))))))))))))))))))))))))))))) (by decide +kernel)
set_option maxHeartbeats 4000000 in
set_option maxRecDepth 20000 in
theorem ggP_kept_0 : GoodIn wsL_law ((wsR_kept).take 60) := goodIn_r _ [967, 968, 969, 970, 971, 972, 973, 781, 974, 975, 976, 977, 978, 979, 980, 981, 982, 983, 780, 98, 99, 85, 100, 101, 102, 103, 104, 105, 2, 106, 107, 108, 17, 109, 110, 111, 112, 113, 114, 16, 115, 116, 117, 50, 118, 54, 119, 55, 46, 41, 120, 121, 122, 123, 984, 985, 986, 135, 136, 137] (by decide +kernel) (by decide +kernel)
set_option maxHeartbeats 4000000 in
set_option maxRecDepth 20000 in
theorem ggP_kept_1 : GoodIn wsL_law (((wsR_kept).drop 60).take 60) := goodIn_r _ [138, 139, 140, 141, 142, 143, 144, 145, 146, 147, 148, 149, 150, 151, 152, 153, 39, 40, 42, 43, 44, 154, 155, 156, 157, 158, 159, 160, 49, 161, 162, 67, 163, 164, 165, 166, 167, 168, 169, 170, 171, 172, 173, 174, 175, 176, 177, 53, 178, 179, 180, 181, 182, 183, 184, 185, 186, 187, 71, 188] (by decide +kernel) (by decide +kernel)
set_option maxHeartbeats 4000000 in
set_option maxRecDepth 20000 in
theorem ggP_kept_2 : GoodIn wsL_law ((((wsR_kept).drop 60).drop 60).take 60) := goodIn_r _ [189, 190, 191, 192, 193, 194, 195, 196, 197, 198, 199, 200, 201, 45, 202, 203, 204, 205, 206, 207, 208, 209, 210, 211, 212, 213, 214, 215, 216, 217, 218, 219, 220, 221, 500, 501, 502, 503, 504, 505, 506, 507, 508, 509, 510, 511, 512, 513, 514, 515, 516, 517, 518, 519, 520, 521, 8, 9, 522, 523] (by decide +kernel) (by decide +kernel)
set_option maxHeartbeats 4000000 in
set_option maxRecDepth 20000 in
theorem ggP_kept_3 : GoodIn wsL_law (((((wsR_kept).drop 60).drop 60).drop 60).take 60) := goodIn_r _ [524, 525, 526, 527, 316, 528, 529, 530, 531, 532, 429, 533, 534, 535, 536, 537, 538, 539, 540, 541, 542, 543, 544, 545, 546, 547, 548, 549, 550, 551, 552, 553, 554, 555, 556, 557, 558, 559, 560, 561, 562, 268, 269, 270, 563, 564, 565, 566, 567, 568, 569, 570, 571, 572, 59, 60, 573, 574, 575, 576] (by decide +kernel) (by decide +kernel)
set_option maxHeartbeats 4000000 in
set_option maxRecDepth 20000 in
theorem ggP_kept_4 : GoodIn wsL_law ((((((wsR_kept).drop 60).drop 60).drop 60).drop 60).take 60) := goodIn_r _ [577, 578, 365, 366, 367, 579, 580, 581, 582, 583, 584, 585, 586, 587, 588, 589, 590, 591, 328, 592, 593, 594, 321, 322, 323, 595, 596, 281, 597, 309, 598, 599, 312, 600, 601, 602, 603, 604, 605, 606, 607, 608, 329, 330, 609, 610, 611, 612, 613, 614, 615, 616, 617, 618, 304, 619, 620, 621, 622, 623] (by decide +kernel) (by decide +kernel)
set_option maxHeartbeats 4000000 in
set_option maxRecDepth 20000 in
theorem ggP_kept_5 : GoodIn wsL_law (((((((wsR_kept).drop 60).drop 60).drop 60).drop 60).drop 60).take 60) := goodIn_r _ [624, 625, 626, 627, 628, 629, 630, 631, 632, 633, 634, 635, 636, 637, 638, 639, 640, 641, 642, 318, 319, 320, 324, 307, 308, 310, 311, 313, 643, 644, 645, 646, 647, 648, 649, 650, 651, 652, 653, 654, 655, 656, 657, 658, 659, 279, 280, 282, 283, 284, 285, 286, 287, 288, 289, 660, 661, 662, 663, 664] (by decide +kernel) (by decide +kernel)
set_option maxHeartbeats 4000000 in
set_option maxRecDepth 20000 in
theorem ggP_kept_6 : GoodIn wsL_law ((((((((wsR_kept).drop 60).drop 60).drop 60).drop 60).drop 60).drop 60).take 60) := goodIn_r _ [665, 666, 667, 668, 669, 670, 671, 672, 673, 674, 675, 676, 446, 447, 448, 449, 450, 451, 452, 453, 677, 678, 679, 680, 681, 682, 683, 684, 685, 686, 687, 688, 689, 690, 691, 692, 693, 694, 695, 326, 327, 222, 223, 224, 225, 226, 227, 228, 229, 230, 231, 232, 233, 234, 235, 236, 237, 238, 239, 240] (by decide +kernel) (by decide +kernel)
