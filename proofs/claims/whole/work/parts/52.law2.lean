set_option maxRecDepth 20000 in
theorem gL_law_L_insert : GoodIn wsL_law (va_wsS RL 89 yL_insert wsL_insert) := goodIn_app (goodIn_of _ (by decide +kernel)) ggL_law_L_insert
set_option maxRecDepth 20000 in
theorem ggL_law_X9_insert : GoodIn wsL_law wsX9_insert := goodIn_r _ [205, 206, 107, 207, 208, 5, 209, 210, 211, 212, 213, 214, 215, 216, 217, 218, 219, 220, 221, 109, 222, 223, 224, 225, 226, 227, 228, 229, 230, 855, 856, 857, 858, 859, 860, 861, 862, 863, 864, 865] (by decide +kernel) (by decide +kernel)
set_option maxRecDepth 20000 in
theorem gL_law_X9_insert : GoodIn wsL_law (wsV RL 94 RX9 yX9_insert wsX9_insert) := goodIn_app (goodIn_of _ (by decide +kernel)) ggL_law_X9_insert
set_option maxRecDepth 20000 in
theorem ggL_law_X9_thrown : GoodIn wsL_law wsX9_thrown := goodIn_r _ [234, 206, 855, 856, 857, 858, 859, 860, 861, 862, 863, 864, 865] (by decide +kernel) (by decide +kernel)
set_option maxRecDepth 20000 in
theorem gL_law_X9_thrown : GoodIn wsL_law (wsV RL 95 RX9 yX9_thrown wsX9_thrown) := goodIn_app (goodIn_of _ (by decide +kernel)) ggL_law_X9_thrown
set_option maxRecDepth 20000 in
theorem ggL_law_L_move : GoodIn wsL_law wsL_move := goodIn_ca (goodIn_r _ [237, 116, 238, 239, 240, 2, 241, 16, 123, 28, 242, 243, 20, 244, 245, 246, 247, 128, 129, 130, 142, 143, 144, 27, 145, 93, 92, 91, 146, 147, 148, 15, 149, 41, 45, 49, 150, 151, 152, 40, 153, 53, 154, 155, 156, 157, 54, 55, 56, 57, 158, 159, 160, 44, 161, 61, 162, 62, 63, 163, 164, 165, 48, 166, 68, 167, 69, 248, 249, 250, 251, 252, 173, 174, 175, 176, 177, 178, 19, 179, 180, 181, 182, 183, 184, 185, 186, 187, 188, 73, 74, 75, 79, 189, 190, 191, 192, 193, 194, 76, 78, 195, 196, 197, 198, 199, 200, 201, 849, 850, 851, 852, 853, 854, 866, 867, 868, 887, 888, 889, 890, 891, 878, 879, 880, 892, 893, 894, 895, 896, 869, 870, 871, 872, 873, 874] (by decide +kernel) (by decide +kernel)) (goodIn_sub (fun _ h => List.mem_append_left _ (List.mem_append_left _ (List.mem_append_right _ h))) (by decide +kernel))
set_option maxRecDepth 20000 in
theorem gL_law_L_move : GoodIn wsL_law (va_wsS RL 98 yL_move wsL_move) := goodIn_app (goodIn_of _ (by decide +kernel)) ggL_law_L_move
set_option maxRecDepth 20000 in
theorem ggL_law_X9_move : GoodIn wsL_law wsX9_move := goodIn_r _ [256, 206, 107, 257, 258, 259, 5, 260, 207, 208, 209, 210, 211, 212, 213, 217, 218, 219, 220, 221, 109, 222, 223, 224, 261, 262, 263, 264, 265, 266, 267, 268, 269, 270, 271, 272, 228, 229, 230, 855, 856, 857, 858, 859, 860, 861, 862, 863, 864, 865] (by decide +kernel) (by decide +kernel)
set_option maxRecDepth 20000 in
theorem gL_law_X9_move : GoodIn wsL_law (wsV RL 100 RX9 yX9_move wsX9_move) := goodIn_app (goodIn_of _ (by decide +kernel)) ggL_law_X9_move
set_option maxRecDepth 20000 in
theorem ggL_law_L_drop : GoodIn wsL_law wsL_drop := goodIn_ca (goodIn_r _ [275, 116, 276, 277, 278, 2, 279, 28, 16, 123, 20, 244, 245, 246, 247, 128, 129, 130, 142, 143, 144, 27, 145, 93, 92, 91, 146, 147, 148, 15, 149, 41, 45, 49, 150, 151, 152, 40, 153, 53, 154, 155, 156, 157, 54, 55, 56, 57, 158, 159, 160, 44, 161, 61, 162, 62, 63, 163, 164, 165, 48, 166, 68, 167, 69, 280, 281, 282, 283, 284, 285, 286, 287, 288, 289, 290, 291, 292, 196, 197, 248, 249, 250, 251, 176, 177, 178, 19, 179, 180, 181, 182, 183, 184, 185, 186, 187, 188, 73, 74, 75, 79, 189, 190, 191, 192, 193, 194, 76, 78, 195, 198, 199, 200, 201, 849, 850, 851, 852, 853, 854, 866, 867, 868, 887, 888, 889, 890, 891, 878, 879, 880, 892, 893, 894, 895, 896, 869, 870, 871, 872, 873, 874] (by decide +kernel) (by decide +kernel)) (goodIn_sub (fun _ h => List.mem_append_left _ (List.mem_append_left _ (List.mem_append_right _ h))) (by decide +kernel))
set_option maxRecDepth 20000 in
theorem gL_law_L_drop : GoodIn wsL_law (va_wsS RL 101 yL_drop wsL_drop) := goodIn_app (goodIn_of _ (by decide +kernel)) ggL_law_L_drop
set_option maxRecDepth 20000 in
theorem ggL_law_X9_drop : GoodIn wsL_law wsX9_drop := goodIn_r _ [296, 206, 107, 257, 258, 259, 5, 260, 207, 208, 209, 210, 211, 212, 213, 217, 218, 219, 220, 221, 109, 222, 223, 224, 297, 298, 299, 300, 301, 302, 303, 304, 305, 306, 307, 308, 309, 310, 311, 312, 313, 314, 315, 316, 317, 267, 268, 269, 270, 271, 272, 855, 856, 857, 858, 859, 860, 861, 862, 863, 864, 865] (by decide +kernel) (by decide +kernel)
set_option maxRecDepth 20000 in
theorem gL_law_X9_drop : GoodIn wsL_law (wsV RL 104 RX9 yX9_drop wsX9_drop) := goodIn_app (goodIn_of _ (by decide +kernel)) ggL_law_X9_drop
set_option maxRecDepth 20000 in
theorem ggL_law_L_pages : GoodIn wsL_law wsL_pages := goodIn_ca (goodIn_ca (goodIn_r _ [320, 116, 117, 321, 322, 323, 2, 324, 28, 16, 123, 243, 20, 244, 245, 246, 247, 128, 129, 130, 131, 132, 133, 134, 135, 142, 143, 144, 27, 145, 93, 92, 91, 146, 147, 148, 15, 149, 41, 45, 49, 150, 151, 152, 40, 153, 53, 154, 155, 156, 157, 54, 55, 56, 57, 158, 159, 160, 44, 161, 61, 162, 62, 63, 163, 164, 165, 48, 166, 68, 167, 69, 176, 177, 178, 19, 179, 180, 181, 182, 183, 184, 185, 186, 187, 188, 73, 74, 75, 79, 189, 190, 191, 192, 193, 194, 76, 78, 195, 196, 197, 198, 199, 200, 201, 849, 850, 851, 852, 853, 854, 866, 867, 868, 887, 888, 889, 890, 891, 878, 879, 880, 892, 893, 894, 895, 896, 869, 870, 871, 872, 873, 874] (by decide +kernel) (by decide +kernel)) (goodIn_sub (fun _ h => List.mem_append_left _ (List.mem_append_left _ (List.mem_append_right _ h))) (by decide +kernel))) (goodIn_sub (fun _ h => List.mem_append_left _ (List.mem_append_right _ h)) (by decide +kernel))
set_option maxRecDepth 20000 in
theorem gL_law_L_pages : GoodIn wsL_law (va_wsS RL 105 yL_pages wsL_pages) := goodIn_app (goodIn_of _ (by decide +kernel)) ggL_law_L_pages
