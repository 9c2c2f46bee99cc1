/-! ===== words of the law, piece 6 ===== -/
def wsB_tells : List Cond := .code yL_tells cL_tells 7 (some .boolean) :: (wsL_tells_r1 ++ (wsL_tells_r2 ++ (wsL_tells_r3 ++ (wsL_tells_r4 ++ (wsL_tells_r5 ++ (wsL_tells_r6 ++ wsL_tells_r7))))))
set_option maxHeartbeats 4000000 in
set_option maxRecDepth 20000 in
theorem ggP_tells_0 : GoodIn wsL_law ((wsB_tells).take 60) := goodIn_r _ [989, 990, 991, 992, 993, 2, 994, 13, 995, 996, 997, 12, 998, 253, 999, 1000, 85, 1001, 949, 950, 951, 101, 477, 102, 478, 952, 953, 954, 955, 107, 108, 483, 484, 109, 110, 111, 956, 957, 958, 959, 960, 961, 962, 963, 33, 1002, 1003, 1004, 244, 245, 246, 247, 248, 249, 250, 251, 252, 254, 255, 256] (by decide +kernel) (by decide +kernel)
set_option maxHeartbeats 4000000 in
set_option maxRecDepth 20000 in
theorem ggP_tells_1 : GoodIn wsL_law (((wsB_tells).drop 60).take 60) := goodIn_r _ [257, 258, 259, 260, 261, 262, 263, 264, 265, 266, 267, 268, 269, 270, 271, 272, 273, 274, 275, 276, 277, 278, 279, 280, 281, 282, 283, 284, 285, 286, 287, 288, 289, 290, 291, 292, 293, 294, 295, 296, 297, 298, 299, 300, 301, 302, 303, 304, 305, 306, 307, 308, 309, 310, 311, 312, 313, 314, 315, 316] (by decide +kernel) (by decide +kernel)
set_option maxHeartbeats 4000000 in
set_option maxRecDepth 20000 in
theorem ggP_tells_2 : GoodIn wsL_law (((wsB_tells).drop 60).drop 60) := goodIn_r _ [317, 318, 319, 320, 321, 322, 323, 324, 325, 326, 327, 328, 329, 330, 331, 332, 333, 334, 335, 336, 337, 338, 339, 340, 341, 35, 342, 343, 344, 345, 346, 347, 348, 349, 350, 1044, 1045, 1046, 1047, 1048, 1049, 1050, 1051, 1052, 1053, 1054, 1055] (by decide +kernel) (by decide +kernel)
set_option maxHeartbeats 4000000 in
set_option maxRecDepth 20000 in
theorem ggB_tells : GoodIn wsL_law wsB_tells := goodIn_td 60 ggP_tells_0 (goodIn_td 60 ggP_tells_1 ggP_tells_2)
set_option maxHeartbeats 4000000 in
set_option maxRecDepth 20000 in
theorem ggL_law_L_tells : GoodIn wsL_law wsL_tells := goodIn_ca (goodIn_ca ggB_tells (goodIn_sub (fun _ h => List.mem_append_left _ (List.mem_append_left _ (List.mem_append_right _ h))) (by decide +kernel))) (goodIn_sub (fun _ h => List.mem_append_right _ h) (by decide +kernel))
set_option maxHeartbeats 4000000 in
set_option maxRecDepth 20000 in
theorem gL_law_L_tells : GoodIn wsL_law (va_wsS RL 276 yL_tells wsL_tells) := goodIn_app (goodIn_of _ (by decide +kernel)) ggL_law_L_tells
