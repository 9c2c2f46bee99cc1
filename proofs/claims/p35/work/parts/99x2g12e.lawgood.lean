/-! ===== words of the law, piece 4 ===== -/
def wsB_kept : List Cond := .code yL_kept cL_kept 28 (some .boolean) :: (wsL_kept_r1 ++ (wsL_kept_r2 ++ (wsL_kept_r3 ++ (wsL_kept_r4 ++ (wsL_kept_r5 ++ (wsL_kept_r6 ++ (wsL_kept_r7 ++ (wsL_kept_r8 ++ (wsL_kept_r9 ++ (wsL_kept_r10 ++ (wsL_kept_r11 ++ (wsL_kept_r12 ++ (wsL_kept_r13 ++ (wsL_kept_r14 ++ (wsL_kept_r15 ++ (wsL_kept_r16 ++ (wsL_kept_r17 ++ wsL_kept_r18)))))))))))))))))
set_option maxHeartbeats 4000000 in
set_option maxRecDepth 20000 in
theorem ggP_kept_0 : GoodIn wsL_law ((wsB_kept).take 60) := goodIn_r _ [966, 967, 968, 969, 970, 971, 972, 973, 781, 974, 975, 976, 977, 978, 979, 980, 981, 982, 983, 780, 98, 99, 85, 100, 101, 102, 103, 104, 105, 2, 106, 107, 108, 17, 109, 110, 111, 112, 113, 114, 16, 115, 116, 117, 50, 118, 54, 119, 55, 46, 41, 120, 121, 122, 123, 984, 985, 986, 135, 136] (by decide +kernel) (by decide +kernel)
set_option maxHeartbeats 4000000 in
set_option maxRecDepth 20000 in
theorem ggP_kept_1 : GoodIn wsL_law (((wsB_kept).drop 60).take 60) := goodIn_r _ [137, 138, 139, 140, 141, 142, 143, 144, 145, 146, 147, 148, 149, 150, 151, 152, 153, 39, 40, 42, 43, 44, 154, 155, 156, 157, 158, 159, 160, 49, 161, 162, 67, 163, 164, 165, 166, 167, 168, 169, 170, 171, 172, 173, 174, 175, 176, 177, 53, 178, 179, 180, 181, 182, 183, 184, 185, 186, 187, 71] (by decide +kernel) (by decide +kernel)
set_option maxHeartbeats 4000000 in
set_option maxRecDepth 20000 in
theorem ggP_kept_2 : GoodIn wsL_law ((((wsB_kept).drop 60).drop 60).take 60) := goodIn_r _ [188, 189, 190, 191, 192, 193, 194, 195, 196, 197, 198, 199, 200, 201, 45, 202, 203, 204, 205, 206, 207, 208, 209, 210, 211, 212, 213, 214, 215, 216, 217, 218, 219, 220, 221, 500, 501, 502, 503, 504, 505, 506, 507, 508, 509, 510, 511, 512, 513, 514, 515, 516, 517, 518, 519, 520, 521, 8, 9, 522] (by decide +kernel) (by decide +kernel)
set_option maxHeartbeats 4000000 in
set_option maxRecDepth 20000 in
theorem ggP_kept_3 : GoodIn wsL_law (((((wsB_kept).drop 60).drop 60).drop 60).take 60) := goodIn_r _ [523, 524, 525, 526, 527, 316, 528, 529, 530, 531, 532, 429, 533, 534, 535, 536, 537, 538, 539, 540, 541, 542, 543, 544, 545, 546, 547, 548, 549, 550, 551, 552, 553, 554, 555, 556, 557, 558, 559, 560, 561, 562, 268, 269, 270, 563, 564, 565, 566, 567, 568, 569, 570, 571, 572, 59, 60, 573, 574, 575] (by decide +kernel) (by decide +kernel)
