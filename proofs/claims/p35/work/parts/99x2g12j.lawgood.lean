/-! ===== words of the law, piece 9 ===== -/
def wsB_act : List Cond := .code yL_act cL_act 9 (some .long) :: (wsL_act_r1 ++ (wsL_act_r2 ++ (wsL_act_r3 ++ (wsL_act_r4 ++ (wsL_act_r5 ++ (wsL_act_r6 ++ (wsL_act_r7 ++ (wsL_act_r8 ++ (wsL_act_r9 ++ (wsL_act_r10 ++ (wsL_act_r11 ++ (wsL_act_r12 ++ (wsL_act_r13 ++ (wsL_act_r14 ++ (wsL_act_r15 ++ (wsL_act_r16 ++ (wsL_act_r17 ++ (wsL_act_r18 ++ wsL_act_r19))))))))))))))))))
set_option maxHeartbeats 4000000 in
set_option maxRecDepth 20000 in
theorem ggP_act_0 : GoodIn wsL_law ((wsB_act).take 60) := goodIn_r _ [1027, 98, 99, 85, 100, 101, 102, 103, 104, 105, 2, 106, 107, 108, 17, 109, 110, 111, 112, 113, 114, 16, 115, 116, 117, 50, 118, 54, 119, 55, 46, 41, 120, 121, 122, 123, 783, 784, 785, 477, 478, 786, 787, 788, 789, 21, 790, 791, 792, 20, 793, 794, 795, 796, 797, 798, 77, 799, 361, 362] (by decide +kernel) (by decide +kernel)
set_option maxHeartbeats 4000000 in
set_option maxRecDepth 20000 in
theorem ggP_act_1 : GoodIn wsL_law (((wsB_act).drop 60).take 60) := goodIn_r _ [363, 39, 364, 365, 366, 367, 40, 42, 43, 44, 45, 202, 63, 368, 369, 370, 49, 371, 162, 67, 372, 373, 374, 375, 53, 376, 179, 71, 377, 800, 801, 802, 803, 804, 805, 806, 807, 144, 145, 483, 484, 808, 809, 810, 811, 812, 813, 576, 269, 577, 814, 815, 816, 138, 139, 817, 818, 819, 820, 821] (by decide +kernel) (by decide +kernel)
set_option maxHeartbeats 4000000 in
set_option maxRecDepth 20000 in
theorem ggP_act_2 : GoodIn wsL_law ((((wsB_act).drop 60).drop 60).take 60) := goodIn_r _ [822, 823, 824, 154, 147, 148, 149, 825, 826, 827, 828, 829, 830, 831, 832, 736, 737, 738, 438, 439, 440, 441, 203, 196, 197, 210, 211, 833, 834, 835, 836, 837, 838, 839, 840, 841, 842, 843, 844, 845, 846, 847, 848, 849, 850, 851, 712, 713, 714, 715, 716, 717, 718, 719, 720, 721, 722, 400, 401, 402] (by decide +kernel) (by decide +kernel)
set_option maxHeartbeats 4000000 in
set_option maxRecDepth 20000 in
theorem ggP_act_3 : GoodIn wsL_law (((((wsB_act).drop 60).drop 60).drop 60).take 60) := goodIn_r _ [403, 204, 205, 155, 156, 157, 158, 159, 160, 161, 404, 405, 406, 407, 408, 409, 410, 411, 396, 397, 398, 399, 412, 413, 414, 415, 416, 417, 418, 419, 420, 421, 422, 423, 424, 852, 853, 854, 855, 856, 857, 858, 859, 860, 861, 862, 747, 172, 173, 174, 434, 435, 436, 437, 171, 863, 864, 865, 866, 867] (by decide +kernel) (by decide +kernel)
