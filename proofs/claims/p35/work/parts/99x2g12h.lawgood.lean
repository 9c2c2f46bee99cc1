/-! ===== words of the law, piece 7 ===== -/
def wsB_load : List Cond := .codeWith yL_load cL_load 2 (some .long) [(0, 5, 6, 19)] :: (wsL_load_r1 ++ (wsL_load_r2 ++ (wsL_load_r3 ++ (wsL_load_r4 ++ (wsL_load_r5 ++ (wsL_load_r6 ++ (wsL_load_r7 ++ (wsL_load_r8 ++ (wsL_load_r9 ++ (wsL_load_r10 ++ (wsL_load_r11 ++ (wsL_load_r12 ++ (wsL_load_r13 ++ (wsL_load_r14 ++ wsL_load_r15))))))))))))))
set_option maxHeartbeats 4000000 in
set_option maxRecDepth 20000 in
theorem ggP_load_0 : GoodIn wsL_law ((wsB_load).take 60) := goodIn_r _ [1007, 477, 478, 1008, 1009, 1010, 2, 1011, 483, 484, 13, 17, 28, 21, 25, 933, 26, 248, 249, 250, 12, 251, 252, 253, 254, 255, 256, 257, 258, 259, 260, 261, 262, 263, 264, 265, 266, 267, 268, 269, 270, 271, 272, 273, 274, 275, 276, 277, 278, 279, 280, 281, 282, 283, 284, 285, 286, 287, 288, 289] (by decide +kernel) (by decide +kernel)
set_option maxHeartbeats 4000000 in
set_option maxRecDepth 20000 in
theorem ggP_load_1 : GoodIn wsL_law (((wsB_load).drop 60).take 60) := goodIn_r _ [290, 291, 292, 293, 33, 294, 295, 296, 297, 298, 299, 300, 301, 302, 303, 304, 305, 306, 307, 308, 309, 310, 311, 312, 313, 314, 315, 316, 317, 318, 319, 320, 321, 322, 323, 324, 325, 326, 327, 328, 329, 330, 331, 332, 333, 334, 335, 336, 337, 338, 339, 340, 341, 35, 342, 343, 344, 345, 346, 347] (by decide +kernel) (by decide +kernel)
set_option maxHeartbeats 4000000 in
set_option maxRecDepth 20000 in
theorem ggP_load_2 : GoodIn wsL_law ((((wsB_load).drop 60).drop 60).take 60) := goodIn_r _ [348, 349, 350, 110, 111, 360, 361, 362, 16, 363, 117, 116, 39, 364, 365, 366, 367, 40, 41, 42, 43, 44, 45, 46, 202, 50, 54, 55, 63, 368, 369, 370, 49, 371, 162, 67, 372, 373, 374, 375, 53, 376, 179, 71, 377, 945, 946, 947, 20, 948, 812, 1012, 1013, 1014, 1015, 1016, 1017, 1018, 801, 802] (by decide +kernel) (by decide +kernel)
set_option maxHeartbeats 4000000 in
set_option maxRecDepth 20000 in
theorem ggP_load_3 : GoodIn wsL_law (((((wsB_load).drop 60).drop 60).drop 60).take 60) := goodIn_r _ [803, 1019, 736, 737, 738, 438, 439, 440, 441, 154, 147, 148, 149, 203, 196, 197, 210, 211, 1020, 712, 713, 714, 715, 716, 717, 718, 719, 720, 721, 722, 400, 401, 402, 403, 204, 205, 155, 156, 157, 158, 159, 160, 161, 404, 405, 406, 407, 408, 409, 410, 411, 396, 397, 398, 399, 412, 413, 414, 415, 416] (by decide +kernel) (by decide +kernel)
