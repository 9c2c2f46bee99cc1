/-! ===== words of the law, piece 0 ===== -/
def wsB_errors : List Cond := .code yL_errors cL_errors 10 (some .boolean) :: (wsL_errors_r1 ++ (wsL_errors_r2 ++ (wsL_errors_r3 ++ (wsL_errors_r4 ++ (wsL_errors_r5 ++ (wsL_errors_r6 ++ (wsL_errors_r7 ++ (wsL_errors_r8 ++ (wsL_errors_r9 ++ (wsL_errors_r10 ++ (wsL_errors_r11 ++ (wsL_errors_r12 ++ (wsL_errors_r13 ++ (wsL_errors_r14 ++ (wsL_errors_r15 ++ (wsL_errors_r16 ++ (wsL_errors_r17 ++ (wsL_errors_r18 ++ (wsL_errors_r19 ++ (wsL_errors_r20 ++ (wsL_errors_r21 ++ (wsL_errors_r22 ++ (wsL_errors_r23 ++ (wsL_errors_r24 ++ (wsL_errors_r25 ++ (wsL_errors_r26 ++ (wsL_errors_r27 ++ (wsL_errors_r28 ++ (wsL_errors_r29 ++ (wsL_errors_r30 ++ (wsL_errors_r31 ++ (wsL_errors_r32 ++ (wsL_errors_r33 ++ (wsL_errors_r34 ++ wsL_errors_r35))))))))))))))))))))))))))))))))))
set_option maxHeartbeats 4000000 in
set_option maxRecDepth 20000 in
theorem ggP_errors_0 : GoodIn wsL_law ((wsB_errors).take 60) := goodIn_r _ [779, 102, 139, 478, 780, 781, 782, 93, 94, 85, 95, 96, 97, 98, 99, 100, 101, 103, 104, 105, 2, 106, 107, 108, 17, 109, 110, 111, 112, 113, 114, 16, 115, 116, 117, 50, 118, 54, 119, 55, 46, 41, 120, 121, 122, 123, 124, 125, 126, 127, 128, 129, 130, 131, 132, 133, 134, 56, 135, 136] (by decide +kernel) (by decide +kernel)
set_option maxHeartbeats 4000000 in
set_option maxRecDepth 20000 in
theorem ggP_errors_1 : GoodIn wsL_law (((wsB_errors).drop 60).take 60) := goodIn_r _ [137, 138, 140, 141, 142, 143, 144, 145, 146, 147, 148, 149, 150, 151, 152, 153, 39, 40, 42, 43, 44, 154, 155, 156, 157, 158, 159, 160, 49, 161, 162, 67, 163, 164, 165, 166, 167, 168, 169, 170, 171, 172, 173, 174, 175, 176, 177, 53, 178, 179, 180, 181, 182, 183, 184, 185, 186, 187, 71, 188] (by decide +kernel) (by decide +kernel)
set_option maxHeartbeats 4000000 in
set_option maxRecDepth 20000 in
theorem ggP_errors_2 : GoodIn wsL_law ((((wsB_errors).drop 60).drop 60).take 60) := goodIn_r _ [189, 190, 191, 192, 193, 194, 195, 196, 197, 198, 199, 200, 201, 45, 202, 203, 204, 205, 206, 207, 208, 209, 210, 211, 212, 213, 214, 215, 216, 217, 218, 219, 220, 221, 222, 223, 224, 225, 226, 227, 228, 229, 230, 231, 232, 233, 234, 235, 236, 237, 238, 239, 240, 241, 242, 243, 500, 501, 502, 503] (by decide +kernel) (by decide +kernel)
set_option maxHeartbeats 4000000 in
set_option maxRecDepth 20000 in
theorem ggP_errors_3 : GoodIn wsL_law (((((wsB_errors).drop 60).drop 60).drop 60).take 60) := goodIn_r _ [504, 505, 506, 507, 508, 509, 510, 511, 512, 513, 514, 515, 516, 517, 518, 519, 520, 521, 8, 9, 522, 523, 524, 525, 526, 527, 316, 528, 529, 530, 531, 532, 429, 533, 534, 535, 536, 537, 538, 539, 540, 541, 542, 543, 544, 545, 546, 547, 548, 549, 550, 551, 552, 553, 554, 555, 556, 557, 558, 559] (by decide +kernel) (by decide +kernel)
