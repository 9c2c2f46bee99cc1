/-! ===== words of the law, piece 12 ===== -/
set_option maxHeartbeats 4000000 in
set_option maxRecDepth 20000 in
theorem ggP_follows_4 : GoodIn wsL_law ((((((wsB_follows).drop 60).drop 60).drop 60).drop 60).take 60) := goodIn_r _ [715, 716, 717, 718, 719, 720, 721, 722, 400, 401, 402, 403, 404, 405, 406, 407, 408, 409, 410, 411, 396, 397, 398, 399, 412, 413, 414, 415, 416, 417, 418, 419, 420, 421, 422, 423, 424, 723, 724, 725, 726, 727, 728, 729, 730, 731, 732, 733, 734, 735, 736, 737, 738, 739, 740, 741, 742, 743, 744, 745] (by decide +kernel) (by decide +kernel)
set_option maxHeartbeats 4000000 in
set_option maxRecDepth 20000 in
theorem ggP_follows_5 : GoodIn wsL_law (((((((wsB_follows).drop 60).drop 60).drop 60).drop 60).drop 60).take 60) := goodIn_r _ [746, 747, 429, 748, 749, 750, 751, 752, 379, 380, 381, 382, 383, 384, 385, 386, 387, 388, 389, 390, 391, 392, 393, 394, 395, 425, 426, 427, 428, 430, 431, 432, 433, 434, 435, 436, 437, 442, 443, 444, 445, 446, 447, 448, 449, 450, 451, 452, 453, 454, 455, 456, 457, 458, 459, 460, 461, 462, 463, 464] (by decide +kernel) (by decide +kernel)
set_option maxHeartbeats 4000000 in
set_option maxRecDepth 20000 in
theorem ggP_follows_6 : GoodIn wsL_law ((((((((wsB_follows).drop 60).drop 60).drop 60).drop 60).drop 60).drop 60).take 60) := goodIn_r _ [465, 466, 467, 468, 469, 470, 471, 472, 473, 351, 352, 353, 354, 355, 356, 357, 358, 378, 895, 896, 897, 898, 899, 900, 901, 21, 790, 791, 792, 20, 793, 794, 795, 796, 797, 798, 77, 799, 804, 805, 806, 807, 483, 484, 808, 809, 810, 811, 812, 813, 576, 269, 577, 1028, 1029, 1030, 477, 1031, 1032, 1033] (by decide +kernel) (by decide +kernel)
set_option maxHeartbeats 4000000 in
set_option maxRecDepth 20000 in
theorem ggP_follows_7 : GoodIn wsL_law (((((((((wsB_follows).drop 60).drop 60).drop 60).drop 60).drop 60).drop 60).drop 60).take 60) := goodIn_r _ [1034, 1035, 1036, 1037, 1038, 1039, 474, 475, 476, 479, 480, 481, 482, 486, 487, 488, 489, 490, 491, 492, 493, 494, 495, 496, 497, 498, 499, 916, 917, 918, 919, 920, 921, 922, 923, 924, 844, 845, 846, 847, 848, 849, 850, 851, 984, 985, 986, 879, 880, 881, 882, 883, 884, 885, 886, 772, 773, 774, 852, 853] (by decide +kernel) (by decide +kernel)
