/-! ===== words of the law, piece 1 ===== -/
set_option maxHeartbeats 4000000 in
set_option maxRecDepth 20000 in
theorem ggP_errors_4 : GoodIn wsL_law ((((((wsB_errors).drop 60).drop 60).drop 60).drop 60).take 60) := goodIn_r _ [560, 561, 562, 268, 269, 270, 563, 564, 565, 566, 567, 568, 569, 570, 571, 572, 59, 60, 573, 574, 575, 576, 577, 578, 365, 366, 367, 579, 580, 581, 582, 583, 584, 585, 586, 587, 588, 589, 590, 591, 328, 592, 593, 594, 321, 322, 323, 595, 596, 281, 597, 309, 598, 599, 312, 600, 601, 602, 603, 604] (by decide +kernel) (by decide +kernel)
set_option maxHeartbeats 4000000 in
set_option maxRecDepth 20000 in
theorem ggP_errors_5 : GoodIn wsL_law (((((((wsB_errors).drop 60).drop 60).drop 60).drop 60).drop 60).take 60) := goodIn_r _ [605, 606, 607, 608, 329, 330, 609, 610, 611, 612, 613, 614, 615, 616, 617, 618, 304, 619, 620, 621, 622, 623, 624, 625, 626, 627, 628, 629, 630, 631, 632, 633, 634, 635, 636, 637, 638, 639, 640, 641, 642, 318, 319, 320, 324, 307, 308, 310, 311, 313, 643, 644, 645, 646, 647, 648, 649, 650, 651, 652] (by decide +kernel) (by decide +kernel)
set_option maxHeartbeats 4000000 in
set_option maxRecDepth 20000 in
theorem ggP_errors_6 : GoodIn wsL_law ((((((((wsB_errors).drop 60).drop 60).drop 60).drop 60).drop 60).drop 60).take 60) := goodIn_r _ [653, 654, 655, 656, 657, 658, 659, 279, 280, 282, 283, 284, 285, 286, 287, 288, 289, 660, 661, 662, 663, 664, 665, 666, 667, 668, 669, 670, 671, 672, 673, 674, 675, 676, 446, 447, 448, 449, 450, 451, 452, 453, 677, 678, 679, 680, 681, 682, 683, 684, 685, 686, 687, 688, 689, 690, 691, 692, 693, 694] (by decide +kernel) (by decide +kernel)
set_option maxHeartbeats 4000000 in
set_option maxRecDepth 20000 in
theorem ggP_errors_7 : GoodIn wsL_law (((((((((wsB_errors).drop 60).drop 60).drop 60).drop 60).drop 60).drop 60).drop 60).take 60) := goodIn_r _ [695, 326, 327, 783, 784, 785, 477, 786, 787, 788, 789, 21, 790, 791, 792, 20, 793, 794, 795, 796, 797, 798, 77, 799, 361, 362, 363, 364, 63, 368, 369, 370, 371, 372, 373, 374, 375, 376, 377, 800, 801, 802, 803, 804, 805, 806, 807, 483, 484, 808, 809, 810, 811, 812, 813, 814, 815, 816, 817, 818] (by decide +kernel) (by decide +kernel)
