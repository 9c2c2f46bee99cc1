/-! ===== words of the law, piece 11 ===== -/
def wsB_follows : List Cond := .code yL_follows cL_follows 38 (some .boolean) :: (wsL_follows_r1 ++ (wsL_follows_r2 ++ (wsL_follows_r3 ++ (wsL_follows_r4 ++ (wsL_follows_r5 ++ (wsL_follows_r6 ++ (wsL_follows_r7 ++ (wsL_follows_r8 ++ (wsL_follows_r9 ++ (wsL_follows_r10 ++ (wsL_follows_r11 ++ (wsL_follows_r12 ++ (wsL_follows_r13 ++ (wsL_follows_r14 ++ (wsL_follows_r15 ++ (wsL_follows_r16 ++ (wsL_follows_r17 ++ (wsL_follows_r18 ++ (wsL_follows_r19 ++ (wsL_follows_r20 ++ (wsL_follows_r21 ++ wsL_follows_r22)))))))))))))))))))))
set_option maxHeartbeats 4000000 in
set_option maxRecDepth 20000 in
theorem ggP_follows_0 : GoodIn wsL_law ((wsB_follows).take 60) := goodIn_r _ [1042, 34, 102, 780, 967, 975, 478, 1043, 971, 781, 93, 94, 85, 95, 96, 97, 98, 99, 100, 101, 103, 104, 105, 2, 106, 107, 108, 17, 109, 110, 111, 112, 113, 114, 16, 115, 116, 117, 50, 118, 54, 119, 55, 46, 41, 120, 121, 122, 123, 124, 125, 126, 127, 128, 129, 130, 131, 132, 133, 134] (by decide +kernel) (by decide +kernel)
set_option maxHeartbeats 4000000 in
set_option maxRecDepth 20000 in
theorem ggP_follows_1 : GoodIn wsL_law (((wsB_follows).drop 60).take 60) := goodIn_r _ [56, 135, 136, 137, 138, 139, 140, 141, 142, 143, 144, 145, 146, 147, 148, 149, 150, 151, 152, 153, 39, 40, 42, 43, 44, 154, 155, 156, 157, 158, 159, 160, 49, 161, 162, 67, 163, 164, 165, 166, 167, 168, 169, 170, 171, 172, 173, 174, 175, 176, 177, 53, 178, 179, 180, 181, 182, 183, 184, 185] (by decide +kernel) (by decide +kernel)
set_option maxHeartbeats 4000000 in
set_option maxRecDepth 20000 in
theorem ggP_follows_2 : GoodIn wsL_law ((((wsB_follows).drop 60).drop 60).take 60) := goodIn_r _ [186, 187, 71, 188, 189, 190, 191, 192, 193, 194, 195, 196, 197, 198, 199, 200, 201, 45, 202, 203, 204, 205, 206, 207, 208, 209, 210, 211, 212, 213, 214, 215, 216, 217, 218, 219, 220, 221, 222, 223, 224, 225, 226, 227, 228, 229, 230, 231, 232, 233, 234, 235, 236, 237, 238, 239, 240, 241, 242, 243] (by decide +kernel) (by decide +kernel)
set_option maxHeartbeats 4000000 in
set_option maxRecDepth 20000 in
theorem ggP_follows_3 : GoodIn wsL_law (((((wsB_follows).drop 60).drop 60).drop 60).take 60) := goodIn_r _ [925, 926, 927, 928, 929, 930, 931, 932, 933, 485, 934, 935, 936, 937, 25, 26, 360, 361, 362, 363, 364, 365, 366, 367, 63, 368, 369, 370, 371, 372, 373, 374, 375, 376, 377, 696, 697, 698, 699, 700, 701, 702, 27, 703, 704, 359, 705, 706, 707, 708, 709, 710, 711, 712, 713, 714, 438, 439, 440, 441] (by decide +kernel) (by decide +kernel)
