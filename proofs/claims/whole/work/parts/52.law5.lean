set_option maxRecDepth 20000 in
theorem ggL_law_X8_clearBuffer : GoodIn wsL_law wsX8_clearBuffer := goodIn_r _ [464, 32, 451, 849, 850, 851, 852, 853, 854, 881, 882, 883, 884, 885, 886] (by decide +kernel) (by decide +kernel)
set_option maxRecDepth 20000 in
theorem gL_law_X8_clearBuffer : GoodIn wsL_law (wsV RL 130 RX8 yX8_clearBuffer wsX8_clearBuffer) := goodIn_app (goodIn_of _ (by decide +kernel)) ggL_law_X8_clearBuffer
set_option maxRecDepth 20000 in
theorem ggL_law_X9_clearBuffer : GoodIn wsL_law wsX9_clearBuffer := goodIn_r _ [468, 206, 460, 855, 856, 857, 858, 859, 860, 861, 862, 863, 864, 865] (by decide +kernel) (by decide +kernel)
set_option maxRecDepth 20000 in
theorem gL_law_X9_clearBuffer : GoodIn wsL_law (wsV RL 133 RX9 yX9_clearBuffer wsX9_clearBuffer) := goodIn_app (goodIn_of _ (by decide +kernel)) ggL_law_X9_clearBuffer
set_option maxRecDepth 20000 in
theorem ggL_law_X8_firstError : GoodIn wsL_law wsX8_firstError := goodIn_r _ [472, 32, 473, 474, 475, 31, 476, 101, 102, 98, 97, 477, 478, 479, 480, 481, 482, 483, 484, 99, 485, 486, 487, 488, 489, 490, 491, 492, 100, 493, 494, 495, 496, 497, 498, 499, 500, 849, 850, 851, 852, 853, 854, 881, 882, 883, 884, 885, 886] (by decide +kernel) (by decide +kernel)
set_option maxRecDepth 20000 in
theorem gL_law_X8_firstError : GoodIn wsL_law (wsV RL 134 RX8 yX8_firstError wsX8_firstError) := goodIn_app (goodIn_of _ (by decide +kernel)) ggL_law_X8_firstError
set_option maxRecDepth 20000 in
theorem ggL_law_X9_firstError : GoodIn wsL_law wsX9_firstError := goodIn_r _ [504, 206, 505, 506, 460, 507, 508, 509, 5, 510, 511, 512, 513, 514, 515, 110, 111, 516, 517, 518, 519, 207, 208, 209, 520, 521, 522, 523, 855, 856, 857, 858, 859, 860, 861, 862, 863, 864, 865] (by decide +kernel) (by decide +kernel)
set_option maxRecDepth 20000 in
theorem gL_law_X9_firstError : GoodIn wsL_law (wsV RL 137 RX9 yX9_firstError wsX9_firstError) := goodIn_app (goodIn_of _ (by decide +kernel)) ggL_law_X9_firstError
set_option maxRecDepth 20000 in
theorem ggL_law_L_citeAll : GoodIn wsL_law wsL_citeAll := goodIn_ca (goodIn_ca (goodIn_ca (goodIn_r _ [526, 116, 117, 118, 527, 528, 529, 2, 530, 134, 135, 140, 141, 32, 531, 532, 16, 123, 130, 28, 288, 289, 242, 533, 451, 20, 373, 374, 375, 128, 129, 473, 474, 475, 31, 476, 101, 102, 98, 97, 477, 478, 479, 480, 481, 482, 483, 484, 99, 485, 486, 487, 488, 489, 490, 491, 492, 100, 493, 494, 495, 496, 497, 498, 499, 500, 534, 535, 536, 537, 142, 143, 144, 27, 145, 93, 92, 91, 146, 147, 148, 15, 149, 41, 45, 49, 150, 151, 152, 40, 153, 53, 154, 155, 156, 157, 54, 55, 56, 57, 158, 159, 160, 44, 161, 61, 162, 62, 63, 163, 164, 165, 48, 166, 68, 167, 69, 376, 377, 378, 379, 196, 197, 176, 177, 178, 19, 179, 180, 181, 182, 183, 184, 185, 186, 187, 188, 73, 74, 75, 79, 189, 190, 191, 192, 193, 194, 76, 78, 195, 198, 199, 200, 201, 849, 850, 851, 852, 853, 854, 881, 882, 883, 884, 885, 886, 866, 867, 868, 887, 888, 889, 890, 891, 892, 893, 894, 878, 879, 880, 895, 896, 869, 870, 871, 872, 873, 874] (by decide +kernel) (by decide +kernel)) (goodIn_sub (fun _ h => List.mem_append_left _ (List.mem_append_right _ h)) (by decide +kernel))) (goodIn_sub (fun _ h => List.mem_append_right _ h) (by decide +kernel))) (goodIn_sub (fun _ h => List.mem_append_left _ (List.mem_append_left _ (List.mem_append_right _ h))) (by decide +kernel))
set_option maxRecDepth 20000 in
theorem gL_law_L_citeAll : GoodIn wsL_law (va_wsS RL 138 yL_citeAll wsL_citeAll) := goodIn_app (goodIn_of _ (by decide +kernel)) ggL_law_L_citeAll
set_option maxRecDepth 20000 in
theorem ggL_law_X9_citeAll : GoodIn wsL_law wsX9_citeAll := goodIn_r _ [541, 206, 511, 111, 460, 384, 385, 5, 386, 207, 208, 209, 210, 211, 212, 213, 507, 508, 509, 510, 506, 505, 512, 513, 514, 515, 110, 516, 517, 518, 519, 520, 521, 522, 523, 257, 258, 259, 260, 107, 217, 218, 219, 220, 221, 109, 222, 223, 224, 329, 330, 331, 332, 387, 388, 389, 390, 303, 304, 305, 312, 313, 314, 264, 265, 266, 855, 856, 857, 858, 859, 860, 861, 862, 863, 864, 865] (by decide +kernel) (by decide +kernel)
set_option maxRecDepth 20000 in
theorem gL_law_X9_citeAll : GoodIn wsL_law (wsV RL 140 RX9 yX9_citeAll wsX9_citeAll) := goodIn_app (goodIn_of _ (by decide +kernel)) ggL_law_X9_citeAll
set_option maxRecDepth 20000 in
theorem ggL_law_L_undo : GoodIn wsL_law wsL_undo := goodIn_ca (goodIn_r _ [544, 118, 545, 546, 547, 2, 548, 140, 141, 28, 549, 16, 20, 550, 551, 552, 27, 553, 93, 91, 92, 146, 147, 148, 15, 149, 41, 45, 49, 150, 151, 152, 40, 153, 53, 154, 155, 156, 157, 54, 55, 56, 57, 158, 159, 160, 44, 161, 61, 162, 62, 63, 163, 164, 165, 48, 166, 68, 167, 69, 176, 177, 178, 19, 179, 180, 181, 182, 183, 184, 185, 186, 187, 188, 73, 74, 75, 79, 189, 190, 191, 192, 193, 194, 76, 78, 195, 196, 197, 198, 199, 200, 201, 849, 850, 851, 852, 853, 854, 878, 879, 880, 866, 867, 868, 887, 888, 889, 890, 891, 892, 893, 894, 895, 896, 869, 870, 871, 872, 873, 874] (by decide +kernel) (by decide +kernel)) (goodIn_sub (fun _ h => List.mem_append_right _ h) (by decide +kernel))
set_option maxRecDepth 20000 in
theorem gL_law_L_undo : GoodIn wsL_law (va_wsS RL 141 yL_undo wsL_undo) := goodIn_app (goodIn_of _ (by decide +kernel)) ggL_law_L_undo
set_option maxRecDepth 20000 in
theorem ggL_law_X9_undo : GoodIn wsL_law wsX9_undo := goodIn_r _ [557, 206, 221, 109, 107, 210, 211, 212, 5, 213, 222, 223, 224, 855, 856, 857, 858, 859, 860, 861, 862, 863, 864, 865] (by decide +kernel) (by decide +kernel)
