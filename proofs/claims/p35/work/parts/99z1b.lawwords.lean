/-! ===== the words of the law, 0 ===== -/
set_option maxRecDepth 20000 in
theorem wl_0_r1 : ∀ w ∈ wsL_law0_r1, w ∈ gBig := wl_mem [56, 57, 31, 1309, 58, 59, 60, 61, 62, 63, 64, 65, 32, 225, 88, 89, 33, 226, 189, 190, 36, 227, 209, 210] (by decide +kernel)
set_option maxRecDepth 20000 in
theorem wl_0_r2 : ∀ w ∈ wsL_law0_r2, w ∈ gBig := wl_mem [37, 228, 229, 230, 231, 67, 68, 69, 86, 71, 87, 74, 91, 92, 93, 138, 139, 140, 141, 144, 145, 146, 147, 94] (by decide +kernel)
set_option maxRecDepth 20000 in
theorem wl_0_r3 : ∀ w ∈ wsL_law0_r3, w ∈ gBig := wl_mem [95, 34, 149, 110, 111, 35, 152, 154, 125, 127, 128, 129, 130, 131, 133, 156, 97, 98, 99, 104, 113, 114, 115, 119] (by decide +kernel)
set_option maxRecDepth 20000 in
theorem wl_0_r4 : ∀ w ∈ wsL_law0_r4, w ∈ gBig := wl_mem [191, 192, 193, 194, 195, 201, 212, 213, 214, 215, 218, 247, 248, 30, 249, 250, 251, 1280, 1281, 1282, 1287, 689, 690, 691] (by decide +kernel)
set_option maxRecDepth 20000 in
theorem wl_0_r5 : ∀ w ∈ wsL_law0_r5, w ∈ gBig := wl_mem [692, 693, 694, 695, 696, 697, 726, 698, 699, 700, 701, 702, 41, 656, 370, 371, 718, 719, 720, 721, 137, 134, 102, 117] (by decide +kernel)
set_option maxRecDepth 20000 in
theorem wl_0_r6 : ∀ w ∈ wsL_law0_r6, w ∈ gBig := wl_mem [722, 724, 26, 725, 727, 728, 729, 730, 731, 732, 733, 157, 734, 735, 736, 738, 739, 740, 651, 677, 741, 742, 743, 744] (by decide +kernel)
set_option maxRecDepth 20000 in
theorem wl_0_r7 : ∀ w ∈ wsL_law0_r7, w ∈ gBig := wl_mem [657, 42, 745, 481, 482, 483, 748, 749, 750, 751, 480, 509, 510, 511, 512, 513, 514, 515, 100, 752, 753, 754, 755, 756] (by decide +kernel)
set_option maxRecDepth 20000 in
theorem wl_0_r8 : ∀ w ∈ wsL_law0_r8, w ∈ gBig := wl_mem [599, 600, 601, 602, 603, 604, 605, 757, 758, 759, 760, 116, 761, 579, 580, 581, 582, 583, 584, 585, 762, 763, 764, 765] (by decide +kernel)
set_option maxRecDepth 20000 in
theorem wl_0_r9 : ∀ w ∈ wsL_law0_r9, w ∈ gBig := wl_mem [766, 767, 768, 769, 485, 486, 772, 773, 774, 775, 148, 484, 507, 508, 776, 778, 27, 779, 488, 489, 780, 781, 782, 783] (by decide +kernel)
set_option maxRecDepth 20000 in
theorem wl_0_r10 : ∀ w ∈ wsL_law0_r10, w ∈ gBig := wl_mem [784, 785, 786, 151, 787, 790, 791, 792, 793, 794, 795, 796, 797, 153, 143, 799, 567, 568, 569, 570, 572, 16, 573, 574] (by decide +kernel)
set_option maxRecDepth 20000 in
theorem wl_0_r11 : ∀ w ∈ wsL_law0_r11, w ∈ gBig := wl_mem [576, 17, 577, 800, 1283, 1284, 1285, 1286, 260, 261, 262, 263, 72, 70, 264, 265, 266, 267, 268, 269, 270, 271, 73, 272] (by decide +kernel)
