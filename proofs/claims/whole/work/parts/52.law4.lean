set_option maxRecDepth 20000 in
theorem gL_law_L_clean : GoodIn wsL_law (va_wsS RL 118 yL_clean wsL_clean) := goodIn_app (goodIn_of _ (by decide +kernel)) ggL_law_L_clean
set_option maxRecDepth 20000 in
theorem ggL_law_X9_clean : GoodIn wsL_law wsX9_clean := goodIn_r _ [406, 206, 107, 384, 385, 5, 386, 207, 208, 209, 210, 211, 212, 213, 217, 218, 219, 220, 221, 109, 222, 223, 224, 303, 304, 305, 306, 307, 308, 309, 310, 311, 312, 313, 314, 315, 316, 317, 267, 268, 269, 855, 856, 857, 858, 859, 860, 861, 862, 863, 864, 865] (by decide +kernel) (by decide +kernel)
set_option maxRecDepth 20000 in
theorem gL_law_X9_clean : GoodIn wsL_law (wsV RL 120 RX9 yX9_clean wsX9_clean) := goodIn_app (goodIn_of _ (by decide +kernel)) ggL_law_X9_clean
set_option maxRecDepth 20000 in
theorem ggL_law_L_print : GoodIn wsL_law wsL_print := goodIn_ca (goodIn_r _ [409, 116, 410, 411, 412, 2, 413, 28, 16, 34, 288, 289, 414, 415, 416, 20, 290, 417, 291, 373, 374, 375, 128, 129, 142, 143, 144, 27, 145, 93, 92, 91, 146, 147, 148, 15, 149, 41, 45, 49, 150, 151, 152, 40, 153, 53, 154, 155, 156, 157, 54, 55, 56, 57, 158, 159, 160, 44, 161, 61, 162, 62, 63, 163, 164, 165, 48, 166, 68, 167, 69, 418, 419, 420, 421, 292, 196, 197, 422, 423, 424, 849, 850, 851, 852, 853, 854, 866, 867, 868, 892, 893, 894, 895, 896, 869, 870, 871, 872, 873, 874, 878, 879, 880, 887, 888, 889, 890, 891] (by decide +kernel) (by decide +kernel)) (goodIn_sub (fun _ h => List.mem_append_left _ (List.mem_append_left _ (List.mem_append_right _ h))) (by decide +kernel))
set_option maxRecDepth 20000 in
theorem gL_law_L_print : GoodIn wsL_law (va_wsS RL 121 yL_print wsL_print) := goodIn_app (goodIn_of _ (by decide +kernel)) ggL_law_L_print
set_option maxRecDepth 20000 in
theorem ggL_law_X9_print : GoodIn wsL_law wsX9_print := goodIn_r _ [428, 206, 107, 384, 385, 5, 386, 207, 208, 209, 210, 211, 212, 213, 217, 218, 219, 220, 221, 109, 222, 223, 224, 429, 430, 431, 303, 304, 305, 309, 310, 311, 312, 313, 314, 315, 316, 317, 306, 307, 308, 267, 268, 269, 855, 856, 857, 858, 859, 860, 861, 862, 863, 864, 865] (by decide +kernel) (by decide +kernel)
set_option maxRecDepth 20000 in
theorem gL_law_X9_print : GoodIn wsL_law (wsV RL 123 RX9 yX9_print wsX9_print) := goodIn_app (goodIn_of _ (by decide +kernel)) ggL_law_X9_print
set_option maxRecDepth 20000 in
theorem ggL_law_L_set : GoodIn wsL_law wsL_set := goodIn_ca (goodIn_r _ [434, 117, 435, 436, 437, 2, 438, 134, 135, 28, 16, 123, 439, 20, 142, 143, 144, 27, 145, 93, 92, 91, 146, 147, 148, 15, 149, 41, 45, 49, 150, 151, 152, 40, 153, 53, 154, 155, 156, 157, 54, 55, 56, 57, 158, 159, 160, 44, 161, 61, 162, 62, 63, 163, 164, 165, 48, 166, 68, 167, 69, 176, 177, 178, 19, 179, 180, 181, 182, 183, 184, 185, 186, 187, 188, 73, 74, 75, 79, 189, 190, 191, 192, 193, 194, 76, 78, 195, 196, 197, 198, 199, 200, 201, 849, 850, 851, 852, 853, 854, 866, 867, 868, 887, 888, 889, 890, 891, 878, 879, 880, 892, 893, 894, 895, 896, 869, 870, 871, 872, 873, 874] (by decide +kernel) (by decide +kernel)) (goodIn_sub (fun _ h => List.mem_append_left _ (List.mem_append_right _ h)) (by decide +kernel))
set_option maxRecDepth 20000 in
theorem gL_law_L_set : GoodIn wsL_law (va_wsS RL 124 yL_set wsL_set) := goodIn_app (goodIn_of _ (by decide +kernel)) ggL_law_L_set
set_option maxRecDepth 20000 in
theorem ggL_law_X9_set : GoodIn wsL_law wsX9_set := goodIn_r _ [443, 206, 207, 208, 5, 209, 210, 211, 212, 213, 217, 218, 219, 220, 221, 109, 107, 222, 223, 224, 329, 330, 331, 332, 855, 856, 857, 858, 859, 860, 861, 862, 863, 864, 865] (by decide +kernel) (by decide +kernel)
set_option maxRecDepth 20000 in
theorem gL_law_X9_set : GoodIn wsL_law (wsV RL 126 RX9 yX9_set wsX9_set) := goodIn_app (goodIn_of _ (by decide +kernel)) ggL_law_X9_set
set_option maxRecDepth 20000 in
theorem ggL_law_L_append : GoodIn wsL_law wsL_append := goodIn_ca (goodIn_ca (goodIn_r _ [446, 117, 118, 447, 448, 449, 2, 450, 134, 135, 140, 141, 32, 451, 452, 453, 454, 31, 455, 97, 98, 849, 850, 851, 852, 853, 854, 881, 882, 883, 884, 885, 886] (by decide +kernel) (by decide +kernel)) (goodIn_sub (fun _ h => List.mem_append_left _ (List.mem_append_right _ h)) (by decide +kernel))) (goodIn_sub (fun _ h => List.mem_append_right _ h) (by decide +kernel))
set_option maxRecDepth 20000 in
theorem gL_law_L_append : GoodIn wsL_law (va_wsS RL 127 yL_append wsL_append) := goodIn_app (goodIn_of _ (by decide +kernel)) ggL_law_L_append
set_option maxRecDepth 20000 in
theorem ggL_law_X9_append : GoodIn wsL_law wsX9_append := goodIn_r _ [459, 206, 460, 110, 207, 208, 5, 209, 210, 211, 212, 213, 855, 856, 857, 858, 859, 860, 861, 862, 863, 864, 865] (by decide +kernel) (by decide +kernel)
set_option maxRecDepth 20000 in
theorem gL_law_X9_append : GoodIn wsL_law (wsV RL 129 RX9 yX9_append wsX9_append) := goodIn_app (goodIn_of _ (by decide +kernel)) ggL_law_X9_append
