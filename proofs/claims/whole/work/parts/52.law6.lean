set_option maxRecDepth 20000 in
theorem gL_law_X9_undo : GoodIn wsL_law (wsV RL 144 RX9 yX9_undo wsX9_undo) := goodIn_app (goodIn_of _ (by decide +kernel)) ggL_law_X9_undo
set_option maxRecDepth 20000 in
theorem ggL_law_L_exhibit : GoodIn wsL_law wsL_exhibit := goodIn_ca (goodIn_r _ [560, 117, 561, 562, 563, 2, 564, 134, 135, 16, 123, 130, 242, 243, 20, 565, 566, 567, 568, 569, 570, 571, 572, 573, 574, 288, 289, 290, 292, 196, 197, 849, 850, 851, 852, 853, 854, 866, 867, 868, 887, 888, 889, 890, 891, 869, 870, 871, 872, 873, 874, 892, 893, 894] (by decide +kernel) (by decide +kernel)) (goodIn_sub (fun _ h => List.mem_append_left _ (List.mem_append_right _ h)) (by decide +kernel))
set_option maxRecDepth 20000 in
theorem gL_law_L_exhibit : GoodIn wsL_law (va_wsS RL 145 yL_exhibit wsL_exhibit) := goodIn_app (goodIn_of _ (by decide +kernel)) ggL_law_L_exhibit
set_option maxRecDepth 20000 in
theorem ggL_law_X9_exhibit : GoodIn wsL_law wsX9_exhibit := goodIn_r _ [578, 206, 207, 208, 5, 209, 210, 211, 212, 213, 257, 258, 259, 260, 107, 579, 580, 581, 582, 264, 265, 266, 267, 268, 269, 583, 584, 585, 586, 587, 588, 303, 304, 305, 309, 310, 311, 312, 313, 314, 315, 316, 317, 306, 307, 308, 855, 856, 857, 858, 859, 860, 861, 862, 863, 864, 865] (by decide +kernel) (by decide +kernel)
set_option maxRecDepth 20000 in
theorem gL_law_X9_exhibit : GoodIn wsL_law (wsV RL 147 RX9 yX9_exhibit wsX9_exhibit) := goodIn_app (goodIn_of _ (by decide +kernel)) ggL_law_X9_exhibit
set_option maxRecDepth 20000 in
theorem ggL_law_L_citation : GoodIn wsL_law wsL_citation := goodIn_ca (goodIn_ca (goodIn_r _ [591, 116, 117, 592, 593, 594, 2, 595, 134, 135, 16, 288, 289, 596, 20, 290, 417, 291, 373, 374, 375, 128, 129, 568, 569, 570, 292, 196, 197, 597, 598, 599, 600, 567, 849, 850, 851, 852, 853, 854, 866, 867, 868, 892, 893, 894, 869, 870, 871, 872, 873, 874] (by decide +kernel) (by decide +kernel)) (goodIn_sub (fun _ h => List.mem_append_left _ (List.mem_append_right _ h)) (by decide +kernel))) (goodIn_sub (fun _ h => List.mem_append_left _ (List.mem_append_left _ (List.mem_append_right _ h))) (by decide +kernel))
set_option maxRecDepth 20000 in
theorem gL_law_L_citation : GoodIn wsL_law (va_wsS RL 148 yL_citation wsL_citation) := goodIn_app (goodIn_of _ (by decide +kernel)) ggL_law_L_citation
set_option maxRecDepth 20000 in
theorem ggL_law_X9_citation : GoodIn wsL_law wsX9_citation := goodIn_r _ [604, 206, 107, 384, 385, 5, 386, 207, 208, 209, 210, 211, 212, 213, 303, 304, 305, 605, 606, 607, 608, 312, 313, 314, 309, 310, 311, 315, 316, 317, 306, 307, 308, 267, 268, 269, 583, 584, 585, 855, 856, 857, 858, 859, 860, 861, 862, 863, 864, 865] (by decide +kernel) (by decide +kernel)
set_option maxRecDepth 20000 in
theorem gL_law_X9_citation : GoodIn wsL_law (wsV RL 150 RX9 yX9_citation wsX9_citation) := goodIn_app (goodIn_of _ (by decide +kernel)) ggL_law_X9_citation
set_option maxRecDepth 20000 in
theorem ggL_law_L_paragraph : GoodIn wsL_law wsL_paragraph := goodIn_ca (goodIn_ca (goodIn_r _ [611, 116, 117, 612, 613, 614, 2, 615, 16, 288, 289, 34, 414, 415, 373, 374, 375, 128, 129, 568, 569, 570, 134, 135, 616, 617, 618, 619, 20, 291, 292, 196, 197, 418, 419, 420, 421, 290, 417, 416, 422, 423, 424, 849, 850, 851, 852, 853, 854, 866, 867, 868, 892, 893, 894, 895, 896, 869, 870, 871, 872, 873, 874] (by decide +kernel) (by decide +kernel)) (goodIn_sub (fun _ h => List.mem_append_left _ (List.mem_append_left _ (List.mem_append_right _ h))) (by decide +kernel))) (goodIn_sub (fun _ h => List.mem_append_left _ (List.mem_append_right _ h)) (by decide +kernel))
set_option maxRecDepth 20000 in
theorem gL_law_L_paragraph : GoodIn wsL_law (va_wsS RL 151 yL_paragraph wsL_paragraph) := goodIn_app (goodIn_of _ (by decide +kernel)) ggL_law_L_paragraph
set_option maxRecDepth 20000 in
theorem ggL_law_X9_paragraph : GoodIn wsL_law wsX9_paragraph := goodIn_r _ [623, 206, 384, 385, 5, 386, 207, 208, 209, 210, 211, 212, 213, 624, 625, 626, 627, 107, 303, 304, 305, 300, 301, 302, 306, 307, 308, 309, 310, 311, 312, 313, 314, 315, 316, 317, 267, 268, 269, 429, 430, 431, 855, 856, 857, 858, 859, 860, 861, 862, 863, 864, 865] (by decide +kernel) (by decide +kernel)
set_option maxRecDepth 20000 in
theorem gL_law_X9_paragraph : GoodIn wsL_law (wsV RL 153 RX9 yX9_paragraph wsX9_paragraph) := goodIn_app (goodIn_of _ (by decide +kernel)) ggL_law_X9_paragraph
set_option maxRecDepth 20000 in
theorem ggL_law_L_table : GoodIn wsL_law wsL_table := goodIn_ca (goodIn_r _ [630, 116, 631, 632, 633, 2, 634, 244, 245, 246, 247, 128, 129, 16, 123, 130, 284, 285, 286, 287, 288, 289, 20, 290, 291, 292, 196, 197, 849, 850, 851, 852, 853, 854, 866, 867, 868, 887, 888, 889, 890, 891, 892, 893, 894, 869, 870, 871, 872, 873, 874] (by decide +kernel) (by decide +kernel)) (goodIn_sub (fun _ h => List.mem_append_left _ (List.mem_append_left _ (List.mem_append_right _ h))) (by decide +kernel))
set_option maxRecDepth 20000 in
theorem gL_law_L_table : GoodIn wsL_law (va_wsS RL 154 yL_table wsL_table) := goodIn_app (goodIn_of _ (by decide +kernel)) ggL_law_L_table
