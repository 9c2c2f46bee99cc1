/-! ===== words of the law, piece 3 ===== -/
def wsR_act : List Cond := (wsL_act_r1 ++ (wsL_act_r2 ++ (wsL_act_r3 ++ (wsL_act_r4 ++ (wsL_act_r5 ++ (wsL_act_r6 ++ (wsL_act_r7 ++ (wsL_act_r8 ++ (wsL_act_r9 ++ (wsL_act_r10 ++ (wsL_act_r11 ++ (wsL_act_r12 ++ (wsL_act_r13 ++ (wsL_act_r14 ++ (wsL_act_r15 ++ (wsL_act_r16 ++ (wsL_act_r17 ++ (wsL_act_r18 ++ wsL_act_r19)))))))))))))))))) ++ wsX70 ++ wsX20 ++ wsX00 ++ wsX60 ++ wsX10 ++ wsX40
def wsB_act : List Cond := .code yL_act cL_act 9 (some .long) :: wsR_act
set_option maxHeartbeats 4000000 in
set_option maxRecDepth 20000 in
theorem ggM_act : (.code yL_act cL_act 9 (some .long) : Cond) ∈ wsL_law0_r43 := by
  unfold wsL_law0_r43
  exact .tail _ (.tail _ (.tail _ (.tail _ (.tail _ (.tail _ (.tail _ (.tail _ (.tail _ (.tail _ (.tail _ (.tail _ (.tail _ (.tail _ (.tail _ (.tail _ (.tail _ (.tail _ (.tail _ (.head _)))))))))))))))))))
set_option maxHeartbeats 4000000 in
set_option maxRecDepth 20000 in
theorem ggH_act : GoodIn wsL_law [.code yL_act cL_act 9 (some .long)] := goodIn_sub (by
  intro w h
  rw [List.mem_singleton.mp h]
  exact List.mem_append_left _ (List.mem_append_left _ (List.mem_append_left _ (List.mem_append_left _ (List.mem_append_left _ (List.mem_append_left _ (List.mem_append_left _ (List.mem_append_left _ (List.mem_append_left _ (List.mem_append_left _ (List.mem_append_left _ (List.mem_append_left _ (List.mem_append_right _ (List.mem_append_right _ (List.mem_append_right _ (List.mem_append_right _ (List.mem_append_right _ (List.mem_append_right _ (List.mem_append_right _ (List.mem_append_right _ (List.mem_append_right _ (List.mem_append_right _ (List.mem_append_right _ (List.mem_append_right _ (List.mem_append_right _ (List.mem_append_right _ (List.mem_append_right _ (List.mem_append_right _ (List.mem_append_right _ (List.mem_append_right _ (List.mem_append_right _ (List.mem_append_right _ (List.mem_append_right _ (List.mem_append_right _ (List.mem_append_right _ (List.mem_append_right _ (List.mem_append_right _ (List.mem_append_right _ (List.mem_append_right _ (List.mem_append_right _ (List.mem_append_right _ (List.mem_append_right _ (List.mem_append_right _ (List.mem_append_right _ (List.mem_append_right _ (List.mem_append_right _ (List.mem_append_right _ (List.mem_append_right _ (List.mem_append_right _ (List.mem_append_right _ (List.mem_append_right _ (List.mem_append_right _ (List.mem_append_right _ (List.mem_append_right _ (List.mem_append_left _ (ggM_act)))))))))))))))))))))))))))))))))))))))))))))))))))))))) (by decide +kernel)
set_option maxHeartbeats 4000000 in
set_option maxRecDepth 20000 in
theorem ggP_act_0 : GoodIn wsL_law ((wsR_act).take 60) := goodIn_r _ [98, 99, 85, 100, 101, 102, 103, 104, 105, 2, 106, 107, 108, 17, 109, 110, 111, 112, 113, 114, 16, 115, 116, 117, 50, 118, 54, 119, 55, 46, 41, 120, 121, 122, 123, 783, 784, 785, 477, 478, 786, 787, 788, 789, 21, 790, 791, 792, 20, 793, 794, 795, 796, 797, 798, 77, 799, 361, 362, 363] (by decide +kernel) (by decide +kernel)
set_option maxHeartbeats 4000000 in
set_option maxRecDepth 20000 in
theorem ggP_act_1 : GoodIn wsL_law (((wsR_act).drop 60).take 60) := goodIn_r _ [39, 364, 365, 366, 367, 40, 42, 43, 44, 45, 202, 63, 368, 369, 370, 49, 371, 162, 67, 372, 373, 374, 375, 53, 376, 179, 71, 377, 800, 801, 802, 803, 804, 805, 806, 807, 144, 145, 483, 484, 808, 809, 810, 811, 812, 813, 576, 269, 577, 814, 815, 816, 138, 139, 817, 818, 819, 820, 821, 822] (by decide +kernel) (by decide +kernel)
set_option maxHeartbeats 4000000 in
set_option maxRecDepth 20000 in
theorem ggP_act_2 : GoodIn wsL_law ((((wsR_act).drop 60).drop 60).take 60) := goodIn_r _ [823, 824, 154, 147, 148, 149, 825, 826, 827, 828, 829, 830, 831, 832, 736, 737, 738, 438, 439, 440, 441, 203, 196, 197, 210, 211, 833, 834, 835, 836, 837, 838, 839, 840, 841, 842, 843, 844, 845, 846, 847, 848, 849, 850, 851, 712, 713, 714, 715, 716, 717, 718, 719, 720, 721, 722, 400, 401, 402, 403] (by decide +kernel) (by decide +kernel)
set_option maxHeartbeats 4000000 in
set_option maxRecDepth 20000 in
theorem ggP_act_3 : GoodIn wsL_law (((((wsR_act).drop 60).drop 60).drop 60).take 60) := goodIn_r _ [204, 205, 155, 156, 157, 158, 159, 160, 161, 404, 405, 406, 407, 408, 409, 410, 411, 396, 397, 398, 399, 412, 413, 414, 415, 416, 417, 418, 419, 420, 421, 422, 423, 424, 852, 853, 854, 855, 856, 857, 858, 859, 860, 861, 862, 747, 172, 173, 174, 434, 435, 436, 437, 171, 863, 864, 865, 866, 867, 868] (by decide +kernel) (by decide +kernel)
set_option maxHeartbeats 4000000 in
set_option maxRecDepth 20000 in
theorem ggP_act_4 : GoodIn wsL_law ((((((wsR_act).drop 60).drop 60).drop 60).drop 60).take 60) := goodIn_r _ [869, 870, 744, 745, 746, 429, 168, 169, 170, 748, 749, 750, 751, 871, 872, 873, 874, 875, 876, 877, 878, 740, 741, 742, 879, 880, 881, 882, 883, 884, 885, 886, 772, 773, 774, 887, 888, 889, 890, 891, 892, 893, 894, 724, 725, 726, 727, 728, 729, 730, 731, 732, 733, 734, 902, 903, 904, 905, 906, 907] (by decide +kernel) (by decide +kernel)
set_option maxHeartbeats 4000000 in
set_option maxRecDepth 20000 in
theorem ggP_act_5 : GoodIn wsL_law (((((((wsR_act).drop 60).drop 60).drop 60).drop 60).drop 60).take 60) := goodIn_r _ [908, 909, 910, 911, 912, 913, 914, 915, 133, 134, 56, 1028, 1029, 1030, 1031, 1032, 1033, 1034, 1035, 1036, 1037, 1038, 1039, 925, 926, 927, 928, 929, 930, 931, 932, 933, 485, 934, 935, 936, 937, 25, 26, 360, 938, 939, 940, 941, 942, 943, 944, 945, 946, 947, 948, 895, 896, 897, 898, 899, 900, 901, 378, 379] (by decide +kernel) (by decide +kernel)
set_option maxHeartbeats 4000000 in
set_option maxRecDepth 20000 in
theorem ggP_act_6 : GoodIn wsL_law ((((((((wsR_act).drop 60).drop 60).drop 60).drop 60).drop 60).drop 60).take 60) := goodIn_r _ [380, 381, 382, 383, 384, 385, 386, 232, 233, 234, 235, 236, 237, 238, 239, 240, 241, 242, 387, 181, 182, 183, 184, 185, 186, 187, 388, 389, 390, 391, 392, 393, 394, 395, 425, 426, 427, 428, 430, 431, 432, 433, 442, 443, 444, 445, 446, 447, 448, 449, 450, 451, 452, 453, 454, 455, 456, 457, 458, 459] (by decide +kernel) (by decide +kernel)
set_option maxHeartbeats 4000000 in
set_option maxRecDepth 20000 in
theorem ggP_act_7 : GoodIn wsL_law ((((((((wsR_act).drop 60).drop 60).drop 60).drop 60).drop 60).drop 60).drop 60) := goodIn_r _ [460, 461, 462, 463, 464, 465, 466, 467, 468, 469, 470, 471, 472, 473, 1044, 1045, 1046, 1047, 1048, 1049, 1050, 1056, 1057, 1058, 1059, 1060, 1061, 1062, 1063, 1064, 1065, 1066, 1067, 1068, 1069, 1070, 1076, 1077, 1078, 1079, 1071, 1072, 1073, 1074, 1075] (by decide +kernel) (by decide +kernel)
set_option maxHeartbeats 4000000 in
set_option maxRecDepth 20000 in
theorem ggR_act : GoodIn wsL_law wsR_act := goodIn_td 60 ggP_act_0 (goodIn_td 60 ggP_act_1 (goodIn_td 60 ggP_act_2 (goodIn_td 60 ggP_act_3 (goodIn_td 60 ggP_act_4 (goodIn_td 60 ggP_act_5 (goodIn_td 60 ggP_act_6 ggP_act_7))))))
set_option maxHeartbeats 4000000 in
set_option maxRecDepth 20000 in
theorem ggB_act : GoodIn wsL_law wsB_act := goodIn_app (a := [_]) ggH_act ggR_act
set_option maxHeartbeats 4000000 in
set_option maxRecDepth 20000 in
theorem ggL_law_L_act : GoodIn wsL_law wsL_act := goodIn_ca (goodIn_ca (goodIn_ca ggB_act (goodIn_sub (fun _ h => List.mem_append_left _ (List.mem_append_left _ (List.mem_append_right _ h))) (by decide +kernel))) (goodIn_sub (fun _ h => List.mem_append_left _ (List.mem_append_right _ h)) (by decide +kernel))) (goodIn_sub (fun _ h => List.mem_append_right _ h) (by decide +kernel))
set_option maxHeartbeats 4000000 in
set_option maxRecDepth 20000 in
theorem gL_law_L_act : GoodIn wsL_law (va_wsS RL 282 yL_act wsL_act) := goodIn_app (goodIn_of _ (by decide +kernel)) ggL_law_L_act
def wsR_follows : List Cond := (wsL_follows_r1 ++ (wsL_follows_r2 ++ (wsL_follows_r3 ++ (wsL_follows_r4 ++ (wsL_follows_r5 ++ (wsL_follows_r6 ++ (wsL_follows_r7 ++ (wsL_follows_r8 ++ (wsL_follows_r9 ++ (wsL_follows_r10 ++ (wsL_follows_r11 ++ (wsL_follows_r12 ++ (wsL_follows_r13 ++ (wsL_follows_r14 ++ (wsL_follows_r15 ++ (wsL_follows_r16 ++ (wsL_follows_r17 ++ (wsL_follows_r18 ++ (wsL_follows_r19 ++ (wsL_follows_r20 ++ (wsL_follows_r21 ++ wsL_follows_r22))))))))))))))))))))) ++ wsX70 ++ wsX20 ++ wsX00 ++ wsX60 ++ wsX40 ++ wsX10
def wsB_follows : List Cond := .code yL_follows cL_follows 38 (some .boolean) :: wsR_follows
set_option maxHeartbeats 4000000 in
set_option maxRecDepth 20000 in
theorem ggM_follows : (.code yL_follows cL_follows 38 (some .boolean) : Cond) ∈ wsL_law0_r44 := by
  unfold wsL_law0_r44
  exact .tail _ (.tail _ (.tail _ (.tail _ (.tail _ (.tail _ (.tail _ (.tail _ (.tail _ (.tail _ (.head _))))))))))
set_option maxHeartbeats 4000000 in
set_option maxRecDepth 20000 in
theorem ggH_follows : GoodIn wsL_law [.code yL_follows cL_follows 38 (some .boolean)] := goodIn_sub (by
  intro w h
  rw [List.mem_singleton.mp h]
  exact List.mem_append_left _ (List.mem_append_left _ (List.mem_append_left _ (List.mem_append_left _ (List.mem_append_left _ (List.mem_append_left _ (List.mem_append_left _ (List.mem_append_left _ (List.mem_append_left _ (List.mem_append_left _ (List.mem_append_left _ (List.mem_append_left _ (List.mem_append_right _ (List.mem_append_right _ (List.mem_append_right _ (List.mem_append_right _ (List.mem_append_right _ (List.mem_append_right _ (List.mem_append_right _ (List.mem_append_right _ (List.mem_append_right _ (List.mem_append_right _ (List.mem_append_right _ (List.mem_append_right _ (List.mem_append_right _ (List.mem_append_right _ (List.mem_append_right _ (List.mem_append_right _ (List.mem_append_right _ (List.mem_append_right _ (List.mem_append_right _ (List.mem_append_right _ (List.mem_append_right _ (List.mem_append_right _ (List.mem_append_right _ (List.mem_append_right _ (List.mem_append_right _ (List.mem_append_right _ (List.mem_append_right _ (List.mem_append_right _ (List.mem_append_right _ (List.mem_append_right _ (List.mem_append_right _ (List.mem_append_right _ (List.mem_append_right _ (List.mem_append_right _ (List.mem_append_right _ (List.mem_append_right _ (List.mem_append_right _ (List.mem_append_right _ (List.mem_append_right _ (List.mem_append_right _ (List.mem_append_right _ (List.mem_append_right _ (List.mem_append_right _ (ggM_follows)))))))))))))))))))))))))))))))))))))))))))))))))))))))) (by decide +kernel)
set_option maxHeartbeats 4000000 in
set_option maxRecDepth 20000 in
theorem ggP_follows_0 : GoodIn wsL_law ((wsR_follows).take 60) := goodIn_r _ [34, 102, 780, 967, 975, 478, 1043, 971, 781, 93, 94, 85, 95, 96, 97, 98, 99, 100, 101, 103, 104, 105, 2, 106, 107, 108, 17, 109, 110, 111, 112, 113, 114, 16, 115, 116, 117, 50, 118, 54, 119, 55, 46, 41, 120, 121, 122, 123, 124, 125, 126, 127, 128, 129, 130, 131, 132, 133, 134, 56] (by decide +kernel) (by decide +kernel)
set_option maxHeartbeats 4000000 in
set_option maxRecDepth 20000 in
theorem ggP_follows_1 : GoodIn wsL_law (((wsR_follows).drop 60).take 60) := goodIn_r _ [135, 136, 137, 138, 139, 140, 141, 142, 143, 144, 145, 146, 147, 148, 149, 150, 151, 152, 153, 39, 40, 42, 43, 44, 154, 155, 156, 157, 158, 159, 160, 49, 161, 162, 67, 163, 164, 165, 166, 167, 168, 169, 170, 171, 172, 173, 174, 175, 176, 177, 53, 178, 179, 180, 181, 182, 183, 184, 185, 186] (by decide +kernel) (by decide +kernel)
