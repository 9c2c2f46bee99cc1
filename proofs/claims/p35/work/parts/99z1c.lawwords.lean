/-! ===== the words of the law, 1 ===== -/
set_option maxRecDepth 20000 in
theorem wl_0_r12 : ∀ w ∈ wsL_law0_r12, w ∈ gBig := wl_mem [274, 6, 275, 341, 342, 47, 343, 276, 277, 278, 285, 287, 7, 288, 289, 290, 291, 43, 292, 1322, 293, 294, 295, 296] (by decide +kernel)
set_option maxRecDepth 20000 in
theorem wl_0_r13 : ∀ w ∈ wsL_law0_r13, w ∈ gBig := wl_mem [297, 1323, 299, 301, 8, 302, 303, 304, 305, 306, 307, 308, 309, 310, 311, 312, 44, 313, 314, 315, 316, 317, 319, 320] (by decide +kernel)
set_option maxRecDepth 20000 in
theorem wl_0_r14 : ∀ w ∈ wsL_law0_r14, w ∈ gBig := wl_mem [45, 321, 322, 323, 46, 324, 325, 326, 327, 328, 329, 330, 331, 332, 333, 334, 335, 337, 339, 344, 345, 346, 352, 353] (by decide +kernel)
set_option maxRecDepth 20000 in
theorem wl_0_r15 : ∀ w ∈ wsL_law0_r15, w ∈ gBig := wl_mem [354, 355, 356, 358, 9, 359, 360, 361, 362, 363, 364, 365, 366, 367, 368, 1160, 1161, 1162, 1163, 1164, 1165, 1166, 118, 155] (by decide +kernel)
set_option maxRecDepth 20000 in
theorem wl_0_r16 : ∀ w ∈ wsL_law0_r16, w ∈ gBig := wl_mem [440, 441, 442, 443, 444, 446, 445, 48, 447, 448, 449, 450, 451, 452, 453, 454, 455, 456, 1123, 559, 560, 561, 562, 564] (by decide +kernel)
set_option maxRecDepth 20000 in
theorem wl_0_r17 : ∀ w ∈ wsL_law0_r17, w ∈ gBig := wl_mem [15, 565, 566, 578, 586, 587, 588, 589, 590, 591, 592, 593, 524, 525, 526, 527, 502, 504, 11, 505, 516, 518, 12, 519] (by decide +kernel)
set_option maxRecDepth 20000 in
theorem wl_0_r18 : ∀ w ∈ wsL_law0_r18, w ∈ gBig := wl_mem [520, 521, 522, 523, 528, 529, 530, 531, 532, 534, 536, 13, 537, 538, 540, 14, 541, 594, 595, 596, 597, 598, 606, 608] (by decide +kernel)
set_option maxRecDepth 20000 in
theorem wl_0_r19 : ∀ w ∈ wsL_law0_r19, w ∈ gBig := wl_mem [18, 609, 610, 611, 612, 613, 476, 477, 478, 479, 614, 616, 19, 617, 618, 619, 620, 621, 622, 623, 624, 625, 626, 628] (by decide +kernel)
set_option maxRecDepth 20000 in
theorem wl_0_r20 : ∀ w ∈ wsL_law0_r20, w ∈ gBig := wl_mem [20, 629, 630, 632, 21, 633, 634, 636, 22, 637, 638, 640, 23, 641, 642, 644, 24, 645, 1168, 1169, 1170, 255, 647, 1171] (by decide +kernel)
set_option maxRecDepth 20000 in
theorem wl_0_r21 : ∀ w ∈ wsL_law0_r21, w ∈ gBig := wl_mem [1172, 1173, 1174, 372, 49, 136, 1176, 1177, 1178, 1179, 1180, 1152, 1153, 1154, 1155, 1156, 1157, 1158, 1147, 1159, 801, 802, 803, 804] (by decide +kernel)
set_option maxRecDepth 20000 in
theorem wl_0_r22 : ∀ w ∈ wsL_law0_r22, w ∈ gBig := wl_mem [805, 806, 807, 809, 810, 811, 812, 813, 814, 51, 815, 816, 817, 818, 819, 50, 820, 821, 822, 439, 830, 831, 823, 824] (by decide +kernel)
