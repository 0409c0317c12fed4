set_option maxRecDepth 20000 in
theorem gL_law_L_bestMove : GoodIn wsL_law (va_wsS RL 166 yL_bestMove wsL_bestMove) := goodIn_app (goodIn_of _ (by decide +kernel)) ggL_law_L_bestMove
set_option maxRecDepth 20000 in
theorem ggL_law_X9_bestMove : GoodIn wsL_law wsX9_bestMove := goodIn_r _ [765, 206, 257, 258, 259, 5, 260, 107, 207, 208, 209, 766, 767, 768, 769, 108, 222, 223, 224, 261, 262, 263, 264, 265, 266, 267, 268, 269, 270, 271, 272, 228, 229, 230, 690, 691, 692, 429, 430, 431, 303, 304, 305, 309, 310, 311, 312, 313, 314, 315, 316, 317, 306, 307, 308, 683, 684, 685, 583, 584, 585, 210, 211, 212, 213, 855, 856, 857, 858, 859, 860, 861, 862, 863, 864, 865] (by decide +kernel) (by decide +kernel)
set_option maxRecDepth 20000 in
theorem gL_law_X9_bestMove : GoodIn wsL_law (wsV RL 168 RX9 yX9_bestMove wsX9_bestMove) := goodIn_app (goodIn_of _ (by decide +kernel)) ggL_law_X9_bestMove
set_option maxRecDepth 20000 in
theorem ggL_law_L_leastPages : GoodIn wsL_law wsL_leastPages := goodIn_ca (goodIn_r _ [772, 117, 773, 774, 775, 2, 776, 134, 135, 16, 123, 243, 130, 721, 722, 723, 849, 850, 851, 852, 853, 854, 866, 867, 868, 887, 888, 889, 890, 891] (by decide +kernel) (by decide +kernel)) (goodIn_sub (fun _ h => List.mem_append_left _ (List.mem_append_right _ h)) (by decide +kernel))
set_option maxRecDepth 20000 in
theorem gL_law_L_leastPages : GoodIn wsL_law (va_wsS RL 169 yL_leastPages wsL_leastPages) := goodIn_app (goodIn_of _ (by decide +kernel)) ggL_law_L_leastPages
set_option maxRecDepth 20000 in
theorem ggL_law_X9_leastPages : GoodIn wsL_law wsX9_leastPages := goodIn_r _ [780, 206, 207, 208, 5, 209, 781, 782, 783, 784, 107, 108, 222, 223, 224, 683, 684, 685, 583, 584, 585, 267, 268, 269, 210, 211, 212, 213, 855, 856, 857, 858, 859, 860, 861, 862, 863, 864, 865] (by decide +kernel) (by decide +kernel)
set_option maxRecDepth 20000 in
theorem gL_law_X9_leastPages : GoodIn wsL_law (wsV RL 171 RX9 yX9_leastPages wsX9_leastPages) := goodIn_app (goodIn_of _ (by decide +kernel)) ggL_law_X9_leastPages
set_option maxRecDepth 20000 in
theorem ggL_law_X8_citedShare : GoodIn wsL_law wsX8_citedShare := goodIn_r _ [788, 16, 123, 130, 667, 668, 669, 2, 670, 280, 281, 282, 283, 284, 285, 286, 287, 288, 289, 20, 290, 291, 292, 196, 197, 849, 850, 851, 852, 853, 854, 866, 867, 868, 887, 888, 889, 890, 891, 892, 893, 894, 869, 870, 871, 872, 873, 874] (by decide +kernel) (by decide +kernel)
set_option maxRecDepth 20000 in
theorem gL_law_X8_citedShare : GoodIn wsL_law (wsV RL 172 RX8 yX8_citedShare wsX8_citedShare) := goodIn_app (goodIn_of _ (by decide +kernel)) ggL_law_X8_citedShare
set_option maxRecDepth 20000 in
theorem ggL_law_X9_citedShare : GoodIn wsL_law wsX9_citedShare := goodIn_r _ [792, 206, 793, 794, 795, 5, 796, 107, 693, 694, 695, 696, 586, 587, 588, 303, 304, 305, 309, 310, 311, 312, 313, 314, 315, 316, 317, 306, 307, 308, 267, 268, 269, 855, 856, 857, 858, 859, 860, 861, 862, 863, 864, 865] (by decide +kernel) (by decide +kernel)
set_option maxRecDepth 20000 in
theorem gL_law_X9_citedShare : GoodIn wsL_law (wsV RL 176 RX9 yX9_citedShare wsX9_citedShare) := goodIn_app (goodIn_of _ (by decide +kernel)) ggL_law_X9_citedShare
set_option maxRecDepth 20000 in
theorem ggL_law_X8_digest : GoodIn wsL_law wsX8_digest := goodIn_ca (goodIn_ca (goodIn_r _ [800, 801, 16, 123, 130, 32, 451, 802, 803, 647, 648, 2, 649, 20, 650, 34, 439, 28, 549, 568, 569, 570, 134, 135, 651, 652, 653, 40, 654, 55, 54, 655, 656, 657, 658, 288, 289, 659, 660, 661, 662, 616, 617, 618, 619, 291, 292, 196, 197, 663, 664, 665, 666, 418, 419, 420, 421, 414, 415, 290, 417, 416, 422, 423, 424, 667, 668, 669, 670, 280, 281, 282, 283, 284, 285, 286, 287, 804, 805, 806, 807, 808, 809, 810, 811, 812, 562, 563, 564, 242, 243, 565, 566, 567, 571, 572, 573, 574, 813, 632, 633, 634, 244, 245, 246, 247, 128, 129, 814, 736, 737, 738, 24, 704, 739, 740, 741, 23, 742, 709, 83, 85, 710, 711, 712, 713, 84, 714, 815, 755, 756, 757, 758, 759, 760, 761, 715, 716, 717, 718, 719, 720, 721, 722, 723, 816, 817, 818, 819, 820, 613, 614, 615, 373, 374, 375, 821, 593, 594, 595, 596, 597, 598, 599, 600, 822, 701, 702, 703, 124, 125, 126, 127, 131, 132, 133, 705, 706, 707, 708, 823, 774, 775, 776, 824, 786, 787, 788, 825, 826, 827, 828, 829, 830, 849, 850, 851, 852, 853, 854, 866, 867, 868, 887, 888, 889, 890, 891, 881, 882, 883, 884, 885, 886, 869, 870, 871, 872, 873, 874, 878, 879, 880, 892, 893, 894, 895, 896, 875, 876, 877] (by decide +kernel) (by decide +kernel)) (goodIn_sub (fun _ h => List.mem_append_left _ (List.mem_append_right _ h)) (by decide +kernel))) (goodIn_sub (fun _ h => List.mem_append_left _ (List.mem_append_left _ (List.mem_append_right _ h))) (by decide +kernel))
set_option maxRecDepth 20000 in
theorem gL_law_X8_digest : GoodIn wsL_law (wsV RL 177 RX8 yX8_digest wsX8_digest) := goodIn_app (goodIn_of _ (by decide +kernel)) ggL_law_X8_digest
set_option maxRecDepth 20000 in
theorem ggL_law_X9_digest : GoodIn wsL_law wsX9_digest := goodIn_r _ [834, 206, 835, 836, 107, 460, 110, 675, 676, 677, 5, 678, 221, 679, 680, 681, 682, 267, 268, 269, 683, 684, 685, 583, 584, 585, 686, 687, 688, 689, 303, 304, 305, 297, 298, 299, 300, 301, 302, 306, 307, 308, 309, 310, 311, 312, 313, 314, 315, 316, 317, 690, 691, 692, 429, 430, 431, 693, 694, 695, 696, 586, 587, 588, 579, 580, 581, 582, 264, 265, 266, 639, 640, 641, 642, 747, 748, 749, 750, 108, 222, 223, 224, 270, 271, 272, 766, 767, 768, 769, 261, 262, 263, 228, 229, 230, 624, 625, 626, 627, 605, 606, 607, 608, 728, 729, 730, 731, 225, 226, 227, 781, 782, 783, 784, 793, 794, 795, 796, 837, 838, 839, 840, 841, 842, 843, 844, 845, 846, 847, 848, 855, 856, 857, 858, 859, 860, 861, 862, 863, 864, 865] (by decide +kernel) (by decide +kernel)
set_option maxRecDepth 20000 in
theorem gL_law_X9_digest : GoodIn wsL_law (wsV RL 181 RX9 yX9_digest wsX9_digest) := goodIn_app (goodIn_of _ (by decide +kernel)) ggL_law_X9_digest

