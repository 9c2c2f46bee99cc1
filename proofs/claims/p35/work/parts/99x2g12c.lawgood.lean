/-! ===== words of the law, piece 2 ===== -/
set_option maxHeartbeats 4000000 in
set_option maxRecDepth 20000 in
theorem ggP_errors_8 : GoodIn wsL_law ((((((((((wsB_errors).drop 60).drop 60).drop 60).drop 60).drop 60).drop 60).drop 60).drop 60).take 60) := goodIn_r _ [819, 820, 821, 822, 823, 824, 825, 826, 827, 828, 829, 830, 831, 832, 736, 737, 738, 438, 439, 440, 441, 833, 834, 835, 836, 837, 838, 839, 840, 841, 842, 843, 844, 845, 846, 847, 848, 849, 850, 851, 712, 713, 714, 715, 716, 717, 718, 719, 720, 721, 722, 400, 401, 402, 403, 404, 405, 406, 407, 408] (by decide +kernel) (by decide +kernel)
set_option maxHeartbeats 4000000 in
set_option maxRecDepth 20000 in
theorem ggP_errors_9 : GoodIn wsL_law (((((((((((wsB_errors).drop 60).drop 60).drop 60).drop 60).drop 60).drop 60).drop 60).drop 60).drop 60).take 60) := goodIn_r _ [409, 410, 411, 396, 397, 398, 399, 412, 413, 414, 415, 416, 417, 418, 419, 420, 421, 422, 423, 424, 852, 853, 854, 855, 856, 857, 858, 859, 860, 861, 862, 747, 434, 435, 436, 437, 863, 864, 865, 866, 867, 868, 869, 870, 744, 745, 746, 748, 749, 750, 751, 871, 872, 873, 874, 875, 876, 877, 878, 740] (by decide +kernel) (by decide +kernel)
set_option maxHeartbeats 4000000 in
set_option maxRecDepth 20000 in
theorem ggP_errors_10 : GoodIn wsL_law ((((((((((((wsB_errors).drop 60).drop 60).drop 60).drop 60).drop 60).drop 60).drop 60).drop 60).drop 60).drop 60).take 60) := goodIn_r _ [741, 742, 879, 880, 881, 882, 883, 884, 885, 886, 772, 773, 774, 887, 888, 889, 890, 891, 892, 893, 894, 724, 725, 726, 727, 728, 729, 730, 731, 732, 733, 734, 895, 896, 897, 898, 899, 900, 901, 378, 379, 380, 381, 382, 383, 384, 385, 386, 387, 388, 389, 390, 391, 392, 393, 394, 395, 425, 426, 427] (by decide +kernel) (by decide +kernel)
set_option maxHeartbeats 4000000 in
set_option maxRecDepth 20000 in
theorem ggP_errors_11 : GoodIn wsL_law (((((((((((((wsB_errors).drop 60).drop 60).drop 60).drop 60).drop 60).drop 60).drop 60).drop 60).drop 60).drop 60).drop 60).take 60) := goodIn_r _ [428, 430, 431, 432, 433, 442, 443, 444, 445, 454, 455, 456, 457, 458, 459, 460, 461, 462, 463, 464, 465, 466, 467, 468, 469, 470, 471, 472, 473, 902, 903, 904, 905, 906, 907, 908, 909, 910, 911, 912, 913, 914, 915, 916, 917, 918, 919, 920, 921, 922, 498, 923, 924, 491, 492, 493, 494, 495, 496, 497] (by decide +kernel) (by decide +kernel)
