/-! ===== words of the law, piece 0 ===== -/
def wsR_errors : List Cond := (wsL_errors_r1 ++ (wsL_errors_r2 ++ (wsL_errors_r3 ++ (wsL_errors_r4 ++ (wsL_errors_r5 ++ (wsL_errors_r6 ++ (wsL_errors_r7 ++ (wsL_errors_r8 ++ (wsL_errors_r9 ++ (wsL_errors_r10 ++ (wsL_errors_r11 ++ (wsL_errors_r12 ++ (wsL_errors_r13 ++ (wsL_errors_r14 ++ (wsL_errors_r15 ++ (wsL_errors_r16 ++ (wsL_errors_r17 ++ (wsL_errors_r18 ++ (wsL_errors_r19 ++ (wsL_errors_r20 ++ (wsL_errors_r21 ++ (wsL_errors_r22 ++ (wsL_errors_r23 ++ (wsL_errors_r24 ++ (wsL_errors_r25 ++ (wsL_errors_r26 ++ (wsL_errors_r27 ++ (wsL_errors_r28 ++ (wsL_errors_r29 ++ (wsL_errors_r30 ++ (wsL_errors_r31 ++ (wsL_errors_r32 ++ (wsL_errors_r33 ++ (wsL_errors_r34 ++ wsL_errors_r35)))))))))))))))))))))))))))))))))) ++ wsX70 ++ wsX20 ++ wsX00 ++ wsX60 ++ wsJ40 ++ wsX10 ++ wsX40 ++ wsX50
def wsB_errors : List Cond := .code yL_errors cL_errors 10 (some .boolean) :: wsR_errors
set_option maxHeartbeats 4000000 in
set_option maxRecDepth 20000 in
theorem ggM_errors : (.code yL_errors cL_errors 10 (some .boolean) : Cond) ∈ wsL_law0_r33 := by
  unfold wsL_law0_r33
  exact .tail _ (.tail _ (.tail _ (.tail _ (.tail _ (.tail _ (.tail _ (.tail _ (.tail _ (.tail _ (.tail _ (.head _)))))))))))
set_option maxHeartbeats 4000000 in
set_option maxRecDepth 20000 in
theorem ggH_errors : GoodIn wsL_law [.code yL_errors cL_errors 10 (some .boolean)] := goodIn_sub (by
  intro w h
  rw [List.mem_singleton.mp h]
  exact List.mem_append_left _ (List.mem_append_left _ (List.mem_append_left _ (List.mem_append_left _ (List.mem_append_left _ (List.mem_append_left _ (List.mem_append_left _ (List.mem_append_left _ (List.mem_append_left _ (List.mem_append_left _ (List.mem_append_left _ (List.mem_append_left _ (List.mem_append_right _ (List.mem_append_right _ (List.mem_append_right _ (List.mem_append_right _ (List.mem_append_right _ (List.mem_append_right _ (List.mem_append_right _ (List.mem_append_right _ (List.mem_append_right _ (List.mem_append_right _ (List.mem_append_right _ (List.mem_append_right _ (List.mem_append_right _ (List.mem_append_right _ (List.mem_append_right _ (List.mem_append_right _ (List.mem_append_right _ (List.mem_append_right _ (List.mem_append_right _ (List.mem_append_right _ (List.mem_append_right _ (List.mem_append_right _ (List.mem_append_right _ (List.mem_append_right _ (List.mem_append_right _ (List.mem_append_right _ (List.mem_append_right _ (List.mem_append_right _ (List.mem_append_right _ (List.mem_append_right _ (List.mem_append_right _ (List.mem_append_right _ (List.mem_append_left _ (ggM_errors)))))))))))))))))))))))))))))))))))))))))))))) (by decide +kernel)
set_option maxHeartbeats 4000000 in
set_option maxRecDepth 20000 in
theorem ggP_errors_0 : GoodIn wsL_law ((wsR_errors).take 60) := goodIn_r _ [102, 139, 478, 780, 781, 782, 93, 94, 85, 95, 96, 97, 98, 99, 100, 101, 103, 104, 105, 2, 106, 107, 108, 17, 109, 110, 111, 112, 113, 114, 16, 115, 116, 117, 50, 118, 54, 119, 55, 46, 41, 120, 121, 122, 123, 124, 125, 126, 127, 128, 129, 130, 131, 132, 133, 134, 56, 135, 136, 137] (by decide +kernel) (by decide +kernel)
set_option maxHeartbeats 4000000 in
set_option maxRecDepth 20000 in
theorem ggP_errors_1 : GoodIn wsL_law (((wsR_errors).drop 60).take 60) := goodIn_r _ [138, 140, 141, 142, 143, 144, 145, 146, 147, 148, 149, 150, 151, 152, 153, 39, 40, 42, 43, 44, 154, 155, 156, 157, 158, 159, 160, 49, 161, 162, 67, 163, 164, 165, 166, 167, 168, 169, 170, 171, 172, 173, 174, 175, 176, 177, 53, 178, 179, 180, 181, 182, 183, 184, 185, 186, 187, 71, 188, 189] (by decide +kernel) (by decide +kernel)
set_option maxHeartbeats 4000000 in
set_option maxRecDepth 20000 in
theorem ggP_errors_2 : GoodIn wsL_law ((((wsR_errors).drop 60).drop 60).take 60) := goodIn_r _ [190, 191, 192, 193, 194, 195, 196, 197, 198, 199, 200, 201, 45, 202, 203, 204, 205, 206, 207, 208, 209, 210, 211, 212, 213, 214, 215, 216, 217, 218, 219, 220, 221, 222, 223, 224, 225, 226, 227, 228, 229, 230, 231, 232, 233, 234, 235, 236, 237, 238, 239, 240, 241, 242, 243, 500, 501, 502, 503, 504] (by decide +kernel) (by decide +kernel)
set_option maxHeartbeats 4000000 in
set_option maxRecDepth 20000 in
theorem ggP_errors_3 : GoodIn wsL_law (((((wsR_errors).drop 60).drop 60).drop 60).take 60) := goodIn_r _ [505, 506, 507, 508, 509, 510, 511, 512, 513, 514, 515, 516, 517, 518, 519, 520, 521, 8, 9, 522, 523, 524, 525, 526, 527, 316, 528, 529, 530, 531, 532, 429, 533, 534, 535, 536, 537, 538, 539, 540, 541, 542, 543, 544, 545, 546, 547, 548, 549, 550, 551, 552, 553, 554, 555, 556, 557, 558, 559, 560] (by decide +kernel) (by decide +kernel)
set_option maxHeartbeats 4000000 in
set_option maxRecDepth 20000 in
theorem ggP_errors_4 : GoodIn wsL_law ((((((wsR_errors).drop 60).drop 60).drop 60).drop 60).take 60) := goodIn_r _ [561, 562, 268, 269, 270, 563, 564, 565, 566, 567, 568, 569, 570, 571, 572, 59, 60, 573, 574, 575, 576, 577, 578, 365, 366, 367, 579, 580, 581, 582, 583, 584, 585, 586, 587, 588, 589, 590, 591, 328, 592, 593, 594, 321, 322, 323, 595, 596, 281, 597, 309, 598, 599, 312, 600, 601, 602, 603, 604, 605] (by decide +kernel) (by decide +kernel)
set_option maxHeartbeats 4000000 in
set_option maxRecDepth 20000 in
theorem ggP_errors_5 : GoodIn wsL_law (((((((wsR_errors).drop 60).drop 60).drop 60).drop 60).drop 60).take 60) := goodIn_r _ [606, 607, 608, 329, 330, 609, 610, 611, 612, 613, 614, 615, 616, 617, 618, 304, 619, 620, 621, 622, 623, 624, 625, 626, 627, 628, 629, 630, 631, 632, 633, 634, 635, 636, 637, 638, 639, 640, 641, 642, 318, 319, 320, 324, 307, 308, 310, 311, 313, 643, 644, 645, 646, 647, 648, 649, 650, 651, 652, 653] (by decide +kernel) (by decide +kernel)
set_option maxHeartbeats 4000000 in
set_option maxRecDepth 20000 in
theorem ggP_errors_6 : GoodIn wsL_law ((((((((wsR_errors).drop 60).drop 60).drop 60).drop 60).drop 60).drop 60).take 60) := goodIn_r _ [654, 655, 656, 657, 658, 659, 279, 280, 282, 283, 284, 285, 286, 287, 288, 289, 660, 661, 662, 663, 664, 665, 666, 667, 668, 669, 670, 671, 672, 673, 674, 675, 676, 446, 447, 448, 449, 450, 451, 452, 453, 677, 678, 679, 680, 681, 682, 683, 684, 685, 686, 687, 688, 689, 690, 691, 692, 693, 694, 695] (by decide +kernel) (by decide +kernel)
set_option maxHeartbeats 4000000 in
set_option maxRecDepth 20000 in
theorem ggP_errors_7 : GoodIn wsL_law (((((((((wsR_errors).drop 60).drop 60).drop 60).drop 60).drop 60).drop 60).drop 60).take 60) := goodIn_r _ [326, 327, 783, 784, 785, 477, 786, 787, 788, 789, 21, 790, 791, 792, 20, 793, 794, 795, 796, 797, 798, 77, 799, 361, 362, 363, 364, 63, 368, 369, 370, 371, 372, 373, 374, 375, 376, 377, 800, 801, 802, 803, 804, 805, 806, 807, 483, 484, 808, 809, 810, 811, 812, 813, 814, 815, 816, 817, 818, 819] (by decide +kernel) (by decide +kernel)
set_option maxHeartbeats 4000000 in
set_option maxRecDepth 20000 in
theorem ggP_errors_8 : GoodIn wsL_law ((((((((((wsR_errors).drop 60).drop 60).drop 60).drop 60).drop 60).drop 60).drop 60).drop 60).take 60) := goodIn_r _ [820, 821, 822, 823, 824, 825, 826, 827, 828, 829, 830, 831, 832, 736, 737, 738, 438, 439, 440, 441, 833, 834, 835, 836, 837, 838, 839, 840, 841, 842, 843, 844, 845, 846, 847, 848, 849, 850, 851, 712, 713, 714, 715, 716, 717, 718, 719, 720, 721, 722, 400, 401, 402, 403, 404, 405, 406, 407, 408, 409] (by decide +kernel) (by decide +kernel)
set_option maxHeartbeats 4000000 in
set_option maxRecDepth 20000 in
theorem ggP_errors_9 : GoodIn wsL_law (((((((((((wsR_errors).drop 60).drop 60).drop 60).drop 60).drop 60).drop 60).drop 60).drop 60).drop 60).take 60) := goodIn_r _ [410, 411, 396, 397, 398, 399, 412, 413, 414, 415, 416, 417, 418, 419, 420, 421, 422, 423, 424, 852, 853, 854, 855, 856, 857, 858, 859, 860, 861, 862, 747, 434, 435, 436, 437, 863, 864, 865, 866, 867, 868, 869, 870, 744, 745, 746, 748, 749, 750, 751, 871, 872, 873, 874, 875, 876, 877, 878, 740, 741] (by decide +kernel) (by decide +kernel)
set_option maxHeartbeats 4000000 in
set_option maxRecDepth 20000 in
theorem ggP_errors_10 : GoodIn wsL_law ((((((((((((wsR_errors).drop 60).drop 60).drop 60).drop 60).drop 60).drop 60).drop 60).drop 60).drop 60).drop 60).take 60) := goodIn_r _ [742, 879, 880, 881, 882, 883, 884, 885, 886, 772, 773, 774, 887, 888, 889, 890, 891, 892, 893, 894, 724, 725, 726, 727, 728, 729, 730, 731, 732, 733, 734, 895, 896, 897, 898, 899, 900, 901, 378, 379, 380, 381, 382, 383, 384, 385, 386, 387, 388, 389, 390, 391, 392, 393, 394, 395, 425, 426, 427, 428] (by decide +kernel) (by decide +kernel)
