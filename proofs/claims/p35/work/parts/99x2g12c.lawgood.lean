/-! ===== words of the law, piece 2 ===== -/
set_option maxHeartbeats 4000000 in
set_option maxRecDepth 20000 in
theorem ggP_kept_7 : GoodIn wsL_law ((((((((wsR_kept).drop 60).drop 60).drop 60).drop 60).drop 60).drop 60).drop 60) := goodIn_r _ [241, 242, 243, 1044, 1045, 1046, 1047, 1048, 1049, 1050, 1056, 1057, 1058, 1059, 1060, 1061, 1062, 1063, 1064, 1065, 1066, 1067, 1068, 1069, 1070, 1076, 1077, 1078, 1079, 1080, 1081, 1082, 1083] (by decide +kernel) (by decide +kernel)
set_option maxHeartbeats 4000000 in
set_option maxRecDepth 20000 in
theorem ggR_kept : GoodIn wsL_law wsR_kept := goodIn_td 60 ggP_kept_0 (goodIn_td 60 ggP_kept_1 (goodIn_td 60 ggP_kept_2 (goodIn_td 60 ggP_kept_3 (goodIn_td 60 ggP_kept_4 (goodIn_td 60 ggP_kept_5 (goodIn_td 60 ggP_kept_6 ggP_kept_7))))))
set_option maxHeartbeats 4000000 in
set_option maxRecDepth 20000 in
theorem ggB_kept : GoodIn wsL_law wsB_kept := goodIn_app (a := [_]) ggH_kept ggR_kept
set_option maxHeartbeats 4000000 in
set_option maxRecDepth 20000 in
theorem ggL_law_L_kept : GoodIn wsL_law wsL_kept := goodIn_ca (goodIn_ca ggB_kept (goodIn_sub (fun _ h => List.mem_append_left _ (List.mem_append_left _ (List.mem_append_right _ h))) (by decide +kernel))) (goodIn_sub (fun _ h => List.mem_append_left _ (List.mem_append_right _ h)) (by decide +kernel))
set_option maxHeartbeats 4000000 in
set_option maxRecDepth 20000 in
theorem gL_law_L_kept : GoodIn wsL_law (va_wsS RL 273 yL_kept wsL_kept) := goodIn_app (goodIn_of _ (by decide +kernel)) ggL_law_L_kept
def wsR_tells : List Cond := (wsL_tells_r1 ++ (wsL_tells_r2 ++ (wsL_tells_r3 ++ (wsL_tells_r4 ++ (wsL_tells_r5 ++ (wsL_tells_r6 ++ wsL_tells_r7)))))) ++ wsX70 ++ wsX50
def wsB_tells : List Cond := .code yL_tells cL_tells 7 (some .boolean) :: wsR_tells
set_option maxHeartbeats 4000000 in
set_option maxRecDepth 20000 in
theorem ggM_tells : (.code yL_tells cL_tells 7 (some .boolean) : Cond) ∈ wsL_law0_r42 := by
  unfold wsL_law0_r42
  exact .tail _ (.tail _ (.tail _ (.tail _ (.tail _ (.head _)))))
set_option maxHeartbeats 4000000 in
set_option maxRecDepth 20000 in
theorem ggH_tells : GoodIn wsL_law [.code yL_tells cL_tells 7 (some .boolean)] := goodIn_sub (by
  intro w h
  rw [List.mem_singleton.mp h]
  exact List.mem_append_left _ (List.mem_append_left _ (List.mem_append_left _ (List.mem_append_left _ (List.mem_append_left _ (List.mem_append_left _ (List.mem_append_left _ (List.mem_append_left _ (List.mem_append_left _ (List.mem_append_left _ (List.mem_append_left _ (List.mem_append_left _ (List.mem_append_right _ (List.mem_append_right _ (List.mem_append_right _ (List.mem_append_right _ (List.mem_append_right _ (List.mem_append_right _ (List.mem_append_right _ (List.mem_append_right _ (List.mem_append_right _ (List.mem_append_right _ (List.mem_append_right _ (List.mem_append_right _ (List.mem_append_right _ (List.mem_append_right _ (List.mem_append_right _ (List.mem_append_right _ (List.mem_append_right _ (List.mem_append_right _ (List.mem_append_right _ (List.mem_append_right _ (List.mem_append_right _ (List.mem_append_right _ (List.mem_append_right _ (List.mem_append_right _ (List.mem_append_right _ (List.mem_append_right _ (List.mem_append_right _ (List.mem_append_right _ (List.mem_append_right _ (List.mem_append_right _ (List.mem_append_right _ (List.mem_append_right _ (List.mem_append_right _ (List.mem_append_right _ (List.mem_append_right _ (List.mem_append_right _ (List.mem_append_right _ (List.mem_append_right _ (List.mem_append_right _ (List.mem_append_right _ (List.mem_append_right _ (List.mem_append_left _ (ggM_tells))))))))))))))))))))))))))))))))))))))))))))))))))))))) (by decide +kernel)
set_option maxHeartbeats 4000000 in
set_option maxRecDepth 20000 in
theorem ggP_tells_0 : GoodIn wsL_law ((wsR_tells).take 60) := goodIn_r _ [990, 991, 992, 993, 2, 994, 13, 995, 996, 997, 12, 998, 253, 999, 1000, 85, 1001, 949, 950, 951, 101, 477, 102, 478, 952, 953, 954, 955, 107, 108, 483, 484, 109, 110, 111, 956, 957, 958, 959, 960, 961, 962, 963, 33, 1002, 1003, 1004, 244, 245, 246, 247, 248, 249, 250, 251, 252, 254, 255, 256, 257] (by decide +kernel) (by decide +kernel)
set_option maxHeartbeats 4000000 in
set_option maxRecDepth 20000 in
theorem ggP_tells_1 : GoodIn wsL_law (((wsR_tells).drop 60).take 60) := goodIn_r _ [258, 259, 260, 261, 262, 263, 264, 265, 266, 267, 268, 269, 270, 271, 272, 273, 274, 275, 276, 277, 278, 279, 280, 281, 282, 283, 284, 285, 286, 287, 288, 289, 290, 291, 292, 293, 294, 295, 296, 297, 298, 299, 300, 301, 302, 303, 304, 305, 306, 307, 308, 309, 310, 311, 312, 313, 314, 315, 316, 317] (by decide +kernel) (by decide +kernel)
set_option maxHeartbeats 4000000 in
set_option maxRecDepth 20000 in
theorem ggP_tells_2 : GoodIn wsL_law (((wsR_tells).drop 60).drop 60) := goodIn_r _ [318, 319, 320, 321, 322, 323, 324, 325, 326, 327, 328, 329, 330, 331, 332, 333, 334, 335, 336, 337, 338, 339, 340, 341, 35, 342, 343, 344, 345, 346, 347, 348, 349, 350, 1044, 1045, 1046, 1047, 1048, 1049, 1050, 1051, 1052, 1053, 1054, 1055] (by decide +kernel) (by decide +kernel)
set_option maxHeartbeats 4000000 in
set_option maxRecDepth 20000 in
theorem ggR_tells : GoodIn wsL_law wsR_tells := goodIn_td 60 ggP_tells_0 (goodIn_td 60 ggP_tells_1 ggP_tells_2)
set_option maxHeartbeats 4000000 in
set_option maxRecDepth 20000 in
theorem ggB_tells : GoodIn wsL_law wsB_tells := goodIn_app (a := [_]) ggH_tells ggR_tells
set_option maxHeartbeats 4000000 in
set_option maxRecDepth 20000 in
theorem ggL_law_L_tells : GoodIn wsL_law wsL_tells := goodIn_ca (goodIn_ca ggB_tells (goodIn_sub (fun _ h => List.mem_append_left _ (List.mem_append_left _ (List.mem_append_right _ h))) (by decide +kernel))) (goodIn_sub (fun _ h => List.mem_append_right _ h) (by decide +kernel))
set_option maxHeartbeats 4000000 in
set_option maxRecDepth 20000 in
theorem gL_law_L_tells : GoodIn wsL_law (va_wsS RL 276 yL_tells wsL_tells) := goodIn_app (goodIn_of _ (by decide +kernel)) ggL_law_L_tells
def wsR_load : List Cond := (wsL_load_r1 ++ (wsL_load_r2 ++ (wsL_load_r3 ++ (wsL_load_r4 ++ (wsL_load_r5 ++ (wsL_load_r6 ++ (wsL_load_r7 ++ (wsL_load_r8 ++ (wsL_load_r9 ++ (wsL_load_r10 ++ (wsL_load_r11 ++ (wsL_load_r12 ++ (wsL_load_r13 ++ (wsL_load_r14 ++ wsL_load_r15)))))))))))))) ++ wsX70 ++ wsX40 ++ wsX50 ++ wsX20 ++ wsX00 ++ wsX60 ++ wsX10
def wsB_load : List Cond := .codeWith yL_load cL_load 2 (some .long) [(0, 5, 6, 19)] :: wsR_load
set_option maxHeartbeats 4000000 in
set_option maxRecDepth 20000 in
theorem ggM_load : (.codeWith yL_load cL_load 2 (some .long) [(0, 5, 6, 19)] : Cond) ∈ wsL_law0_r42 := by
  unfold wsL_law0_r42
  exact .tail _ (.tail _ (.tail _ (.tail _ (.tail _ (.tail _ (.tail _ (.tail _ (.tail _ (.tail _ (.tail _ (.tail _ (.tail _ (.tail _ (.tail _ (.tail _ (.tail _ (.tail _ (.tail _ (.tail _ (.tail _ (.tail _ (.tail _ (.head _)))))))))))))))))))))))
set_option maxHeartbeats 4000000 in
set_option maxRecDepth 20000 in
theorem ggH_load : GoodIn wsL_law [.codeWith yL_load cL_load 2 (some .long) [(0, 5, 6, 19)]] := goodIn_sub (by
  intro w h
  rw [List.mem_singleton.mp h]
  exact List.mem_append_left _ (List.mem_append_left _ (List.mem_append_left _ (List.mem_append_left _ (List.mem_append_left _ (List.mem_append_left _ (List.mem_append_left _ (List.mem_append_left _ (List.mem_append_left _ (List.mem_append_left _ (List.mem_append_left _ (List.mem_append_left _ (List.mem_append_right _ (List.mem_append_right _ (List.mem_append_right _ (List.mem_append_right _ (List.mem_append_right _ (List.mem_append_right _ (List.mem_append_right _ (List.mem_append_right _ (List.mem_append_right _ (List.mem_append_right _ (List.mem_append_right _ (List.mem_append_right _ (List.mem_append_right _ (List.mem_append_right _ (List.mem_append_right _ (List.mem_append_right _ (List.mem_append_right _ (List.mem_append_right _ (List.mem_append_right _ (List.mem_append_right _ (List.mem_append_right _ (List.mem_append_right _ (List.mem_append_right _ (List.mem_append_right _ (List.mem_append_right _ (List.mem_append_right _ (List.mem_append_right _ (List.mem_append_right _ (List.mem_append_right _ (List.mem_append_right _ (List.mem_append_right _ (List.mem_append_right _ (List.mem_append_right _ (List.mem_append_right _ (List.mem_append_right _ (List.mem_append_right _ (List.mem_append_right _ (List.mem_append_right _ (List.mem_append_right _ (List.mem_append_right _ (List.mem_append_right _ (List.mem_append_left _ (ggM_load))))))))))))))))))))))))))))))))))))))))))))))))))))))) (by decide +kernel)
set_option maxHeartbeats 4000000 in
set_option maxRecDepth 20000 in
theorem ggP_load_0 : GoodIn wsL_law ((wsR_load).take 60) := goodIn_r _ [477, 478, 1008, 1009, 1010, 2, 1011, 483, 484, 13, 17, 28, 21, 25, 933, 26, 248, 249, 250, 12, 251, 252, 253, 254, 255, 256, 257, 258, 259, 260, 261, 262, 263, 264, 265, 266, 267, 268, 269, 270, 271, 272, 273, 274, 275, 276, 277, 278, 279, 280, 281, 282, 283, 284, 285, 286, 287, 288, 289, 290] (by decide +kernel) (by decide +kernel)
set_option maxHeartbeats 4000000 in
set_option maxRecDepth 20000 in
theorem ggP_load_1 : GoodIn wsL_law (((wsR_load).drop 60).take 60) := goodIn_r _ [291, 292, 293, 33, 294, 295, 296, 297, 298, 299, 300, 301, 302, 303, 304, 305, 306, 307, 308, 309, 310, 311, 312, 313, 314, 315, 316, 317, 318, 319, 320, 321, 322, 323, 324, 325, 326, 327, 328, 329, 330, 331, 332, 333, 334, 335, 336, 337, 338, 339, 340, 341, 35, 342, 343, 344, 345, 346, 347, 348] (by decide +kernel) (by decide +kernel)
set_option maxHeartbeats 4000000 in
set_option maxRecDepth 20000 in
theorem ggP_load_2 : GoodIn wsL_law ((((wsR_load).drop 60).drop 60).take 60) := goodIn_r _ [349, 350, 110, 111, 360, 361, 362, 16, 363, 117, 116, 39, 364, 365, 366, 367, 40, 41, 42, 43, 44, 45, 46, 202, 50, 54, 55, 63, 368, 369, 370, 49, 371, 162, 67, 372, 373, 374, 375, 53, 376, 179, 71, 377, 945, 946, 947, 20, 948, 812, 1012, 1013, 1014, 1015, 1016, 1017, 1018, 801, 802, 803] (by decide +kernel) (by decide +kernel)
set_option maxHeartbeats 4000000 in
set_option maxRecDepth 20000 in
theorem ggP_load_3 : GoodIn wsL_law (((((wsR_load).drop 60).drop 60).drop 60).take 60) := goodIn_r _ [1019, 736, 737, 738, 438, 439, 440, 441, 154, 147, 148, 149, 203, 196, 197, 210, 211, 1020, 712, 713, 714, 715, 716, 717, 718, 719, 720, 721, 722, 400, 401, 402, 403, 204, 205, 155, 156, 157, 158, 159, 160, 161, 404, 405, 406, 407, 408, 409, 410, 411, 396, 397, 398, 399, 412, 413, 414, 415, 416, 417] (by decide +kernel) (by decide +kernel)
set_option maxHeartbeats 4000000 in
set_option maxRecDepth 20000 in
theorem ggP_load_4 : GoodIn wsL_law ((((((wsR_load).drop 60).drop 60).drop 60).drop 60).take 60) := goodIn_r _ [418, 419, 420, 421, 422, 423, 424, 1021, 724, 725, 726, 119, 727, 728, 729, 730, 731, 732, 733, 734, 1022, 740, 741, 742, 1023, 379, 380, 381, 118, 382, 383, 384, 385, 386, 232, 233, 234, 235, 236, 237, 238, 239, 240, 241, 242, 387, 181, 182, 183, 184, 185, 186, 187, 388, 389, 390, 391, 392, 393, 394] (by decide +kernel) (by decide +kernel)
set_option maxHeartbeats 4000000 in
set_option maxRecDepth 20000 in
theorem ggP_load_5 : GoodIn wsL_law (((((((wsR_load).drop 60).drop 60).drop 60).drop 60).drop 60).take 60) := goodIn_r _ [395, 425, 426, 427, 428, 429, 168, 169, 170, 171, 172, 173, 174, 430, 431, 432, 433, 434, 435, 436, 437, 442, 443, 444, 445, 446, 447, 448, 449, 450, 451, 452, 453, 454, 455, 456, 457, 458, 459, 460, 461, 462, 463, 464, 465, 466, 467, 468, 469, 470, 471, 472, 473, 1024, 1044, 1045, 1046, 1047, 1048, 1049] (by decide +kernel) (by decide +kernel)
set_option maxHeartbeats 4000000 in
set_option maxRecDepth 20000 in
theorem ggP_load_6 : GoodIn wsL_law (((((((wsR_load).drop 60).drop 60).drop 60).drop 60).drop 60).drop 60) := goodIn_r _ [1050, 1074, 1075, 1051, 1052, 1053, 1054, 1055, 1056, 1057, 1058, 1059, 1060, 1061, 1062, 1063, 1064, 1065, 1066, 1067, 1068, 1069, 1070, 1076, 1077, 1078, 1079, 1071, 1072, 1073] (by decide +kernel) (by decide +kernel)
set_option maxHeartbeats 4000000 in
set_option maxRecDepth 20000 in
theorem ggR_load : GoodIn wsL_law wsR_load := goodIn_td 60 ggP_load_0 (goodIn_td 60 ggP_load_1 (goodIn_td 60 ggP_load_2 (goodIn_td 60 ggP_load_3 (goodIn_td 60 ggP_load_4 (goodIn_td 60 ggP_load_5 ggP_load_6)))))
set_option maxHeartbeats 4000000 in
set_option maxRecDepth 20000 in
theorem ggB_load : GoodIn wsL_law wsB_load := goodIn_app (a := [_]) ggH_load ggR_load
set_option maxHeartbeats 4000000 in
set_option maxRecDepth 20000 in
theorem ggL_law_L_load : GoodIn wsL_law wsL_load := goodIn_ca ggB_load (goodIn_sub (fun _ h => List.mem_append_right _ h) (by decide +kernel))
set_option maxHeartbeats 4000000 in
set_option maxRecDepth 20000 in
theorem gL_law_L_load : GoodIn wsL_law (va_wsS RL 280 yL_load wsL_load) := goodIn_app (goodIn_of _ (by decide +kernel)) ggL_law_L_load
