set_option maxRecDepth 20000 in
theorem ggX9_join_X9_fails : GoodIn wsX9_join wsX9_fails := goodIn_r _ [7, 1, 35, 36, 37, 38, 39, 40, 41, 42, 43, 44, 45] (by decide +kernel) (by decide +kernel)
set_option maxRecDepth 20000 in
theorem gX9_join_X9_fails : GoodIn wsX9_join (wsV RX9 40 RX9 yX9_fails wsX9_fails) := goodIn_app (goodIn_of _ (by decide +kernel)) ggX9_join_X9_fails
set_option maxRecDepth 20000 in
theorem ggX9_join_X9_pagesOf : GoodIn wsX9_join wsX9_pagesOf := goodIn_r _ [10] (by decide +kernel) (by decide +kernel)
set_option maxRecDepth 20000 in
theorem gX9_join_X9_pagesOf : GoodIn wsX9_join (va_wsS RX9 56 yX9_pagesOf wsX9_pagesOf) := goodIn_app (goodIn_of _ (by decide +kernel)) ggX9_join_X9_pagesOf
set_option maxRecDepth 20000 in
theorem ggX9_join_X9_saves : GoodIn wsX9_join wsX9_saves := goodIn_r _ [14, 15, 16, 2, 17, 18, 6, 19, 35, 36, 37, 38, 39, 40, 41, 42, 43, 44, 45] (by decide +kernel) (by decide +kernel)
set_option maxRecDepth 20000 in
theorem gX9_join_X9_saves : GoodIn wsX9_join (wsV RX9 91 RX9 yX9_saves wsX9_saves) := goodIn_app (goodIn_of _ (by decide +kernel)) ggX9_join_X9_saves
set_option maxRecDepth 20000 in
theorem ggX9_join_X9_number : GoodIn wsX9_join wsX9_number := goodIn_r _ [22] (by decide +kernel) (by decide +kernel)
set_option maxRecDepth 20000 in
theorem gX9_join_X9_number : GoodIn wsX9_join (va_wsS RX9 76 yX9_number wsX9_number) := goodIn_app (goodIn_of _ (by decide +kernel)) ggX9_join_X9_number
set_option maxRecDepth 20000 in
theorem ggX9_join_X9_follow : GoodIn wsX9_join wsX9_follow := goodIn_r _ [25, 26, 27, 6, 28, 29, 30, 31] (by decide +kernel) (by decide +kernel)
set_option maxRecDepth 20000 in
theorem gX9_join_X9_follow : GoodIn wsX9_join (va_wsS RX9 111 yX9_follow wsX9_follow) := goodIn_app (goodIn_of _ (by decide +kernel)) ggX9_join_X9_follow
set_option maxRecDepth 20000 in
theorem ggX9_join_X9_goesOut : GoodIn wsX9_join wsX9_goesOut := goodIn_r _ [34] (by decide +kernel) (by decide +kernel)
set_option maxRecDepth 20000 in
theorem gX9_join_X9_goesOut : GoodIn wsX9_join (va_wsS RX9 79 yX9_goesOut wsX9_goesOut) := goodIn_app (goodIn_of _ (by decide +kernel)) ggX9_join_X9_goesOut
set_option maxRecDepth 20000 in
theorem ggX9_split_X9_isPlace : GoodIn wsX9_split wsX9_isPlace := goodIn_r _ [7, 2, 8, 9, 6, 10, 45, 46, 47, 48, 49, 50, 51, 52, 53, 54, 55] (by decide +kernel) (by decide +kernel)
set_option maxRecDepth 20000 in
theorem gX9_split_X9_isPlace : GoodIn wsX9_split (wsV RX9 98 RX9 yX9_isPlace wsX9_isPlace) := goodIn_app (goodIn_of _ (by decide +kernel)) ggX9_split_X9_isPlace
set_option maxRecDepth 20000 in
theorem ggX9_split_X9_fails : GoodIn wsX9_split wsX9_fails := goodIn_r _ [14, 1, 45, 46, 47, 48, 49, 50, 51, 52, 53, 54, 55] (by decide +kernel) (by decide +kernel)
set_option maxRecDepth 20000 in
theorem gX9_split_X9_fails : GoodIn wsX9_split (wsV RX9 40 RX9 yX9_fails wsX9_fails) := goodIn_app (goodIn_of _ (by decide +kernel)) ggX9_split_X9_fails
set_option maxRecDepth 20000 in
theorem ggX9_split_X9_pagesOf : GoodIn wsX9_split wsX9_pagesOf := goodIn_r _ [17] (by decide +kernel) (by decide +kernel)
set_option maxRecDepth 20000 in
theorem gX9_split_X9_pagesOf : GoodIn wsX9_split (va_wsS RX9 56 yX9_pagesOf wsX9_pagesOf) := goodIn_app (goodIn_of _ (by decide +kernel)) ggX9_split_X9_pagesOf
set_option maxRecDepth 20000 in
theorem ggX9_split_X9_in : GoodIn wsX9_split wsX9_in := goodIn_r _ [10] (by decide +kernel) (by decide +kernel)
set_option maxRecDepth 20000 in
theorem gX9_split_X9_in : GoodIn wsX9_split (va_wsS RX9 29 yX9_in wsX9_in) := goodIn_app (goodIn_of _ (by decide +kernel)) ggX9_split_X9_in
set_option maxRecDepth 20000 in
theorem ggX9_split_X9_saves : GoodIn wsX9_split wsX9_saves := goodIn_r _ [21, 22, 23, 2, 24, 25, 6, 26, 45, 46, 47, 48, 49, 50, 51, 52, 53, 54, 55] (by decide +kernel) (by decide +kernel)
set_option maxRecDepth 20000 in
theorem gX9_split_X9_saves : GoodIn wsX9_split (wsV RX9 91 RX9 yX9_saves wsX9_saves) := goodIn_app (goodIn_of _ (by decide +kernel)) ggX9_split_X9_saves
set_option maxRecDepth 20000 in
theorem ggX9_split_X9_number : GoodIn wsX9_split wsX9_number := goodIn_r _ [29] (by decide +kernel) (by decide +kernel)
set_option maxRecDepth 20000 in
theorem gX9_split_X9_number : GoodIn wsX9_split (va_wsS RX9 76 yX9_number wsX9_number) := goodIn_app (goodIn_of _ (by decide +kernel)) ggX9_split_X9_number
set_option maxRecDepth 20000 in
theorem ggX9_split_X9_follow : GoodIn wsX9_split wsX9_follow := goodIn_r _ [32, 33, 34, 6, 35, 36, 37, 38] (by decide +kernel) (by decide +kernel)
set_option maxRecDepth 20000 in
theorem gX9_split_X9_follow : GoodIn wsX9_split (va_wsS RX9 111 yX9_follow wsX9_follow) := goodIn_app (goodIn_of _ (by decide +kernel)) ggX9_split_X9_follow
set_option maxRecDepth 20000 in
theorem ggX9_split_X9_comes : GoodIn wsX9_split wsX9_comes := goodIn_r _ [41, 42, 43, 6, 44] (by decide +kernel) (by decide +kernel)
set_option maxRecDepth 20000 in
theorem gX9_split_X9_comes : GoodIn wsX9_split (va_wsS RX9 94 yX9_comes wsX9_comes) := goodIn_app (goodIn_of _ (by decide +kernel)) ggX9_split_X9_comes
set_option maxRecDepth 20000 in
theorem ggX9_names_X9_cites : GoodIn wsX9_names wsX9_cites := goodIn_r _ [5] (by decide +kernel) (by decide +kernel)
set_option maxRecDepth 20000 in
theorem gX9_names_X9_cites : GoodIn wsX9_names (va_wsS RX9 59 yX9_cites wsX9_cites) := goodIn_app (goodIn_of _ (by decide +kernel)) ggX9_names_X9_cites
set_option maxRecDepth 20000 in
theorem ggX9_names_X9_index : GoodIn wsX9_names wsX9_index := goodIn_r _ [8] (by decide +kernel) (by decide +kernel)
set_option maxRecDepth 20000 in
theorem gX9_names_X9_index : GoodIn wsX9_names (va_wsS RX9 44 yX9_index wsX9_index) := goodIn_app (goodIn_of _ (by decide +kernel)) ggX9_names_X9_index
set_option maxRecDepth 20000 in
theorem ggX9_names_X9_number : GoodIn wsX9_names wsX9_number := goodIn_r _ [11] (by decide +kernel) (by decide +kernel)
set_option maxRecDepth 20000 in
theorem gX9_names_X9_number : GoodIn wsX9_names (va_wsS RX9 76 yX9_number wsX9_number) := goodIn_app (goodIn_of _ (by decide +kernel)) ggX9_names_X9_number
set_option maxRecDepth 20000 in
theorem ggX9_cite_X9_isParagraph : GoodIn wsX9_cite wsX9_isParagraph := goodIn_r _ [6, 7, 8, 5, 9] (by decide +kernel) (by decide +kernel)
set_option maxRecDepth 20000 in
theorem gX9_cite_X9_isParagraph : GoodIn wsX9_cite (va_wsS RX9 115 yX9_isParagraph wsX9_isParagraph) := goodIn_app (goodIn_of _ (by decide +kernel)) ggX9_cite_X9_isParagraph
set_option maxRecDepth 20000 in
theorem ggX9_cite_X9_isPlace : GoodIn wsX9_cite wsX9_isPlace := goodIn_r _ [13, 2, 7, 8, 5, 9, 43, 44, 45, 46, 47, 48, 49, 50, 51, 52, 53] (by decide +kernel) (by decide +kernel)
set_option maxRecDepth 20000 in
theorem gX9_cite_X9_isPlace : GoodIn wsX9_cite (wsV RX9 98 RX9 yX9_isPlace wsX9_isPlace) := goodIn_app (goodIn_of _ (by decide +kernel)) ggX9_cite_X9_isPlace
set_option maxRecDepth 20000 in
theorem ggX9_cite_X9_fails : GoodIn wsX9_cite wsX9_fails := goodIn_r _ [17, 1, 43, 44, 45, 46, 47, 48, 49, 50, 51, 52, 53] (by decide +kernel) (by decide +kernel)
set_option maxRecDepth 20000 in
theorem gX9_cite_X9_fails : GoodIn wsX9_cite (wsV RX9 40 RX9 yX9_fails wsX9_fails) := goodIn_app (goodIn_of _ (by decide +kernel)) ggX9_cite_X9_fails
set_option maxRecDepth 20000 in
theorem ggX9_cite_X9_arePages : GoodIn wsX9_cite wsX9_arePages := goodIn_r _ [20, 7, 8, 5, 9] (by decide +kernel) (by decide +kernel)
set_option maxRecDepth 20000 in
theorem gX9_cite_X9_arePages : GoodIn wsX9_cite (va_wsS RX9 87 yX9_arePages wsX9_arePages) := goodIn_app (goodIn_of _ (by decide +kernel)) ggX9_cite_X9_arePages
set_option maxRecDepth 20000 in
theorem ggX9_cite_X9_cites : GoodIn wsX9_cite wsX9_cites := goodIn_r _ [23] (by decide +kernel) (by decide +kernel)
set_option maxRecDepth 20000 in
theorem gX9_cite_X9_cites : GoodIn wsX9_cite (va_wsS RX9 59 yX9_cites wsX9_cites) := goodIn_app (goodIn_of _ (by decide +kernel)) ggX9_cite_X9_cites
set_option maxRecDepth 20000 in
theorem ggX9_cite_X9_saves : GoodIn wsX9_cite wsX9_saves := goodIn_r _ [27, 28, 29, 2, 30, 31, 5, 32, 43, 44, 45, 46, 47, 48, 49, 50, 51, 52, 53] (by decide +kernel) (by decide +kernel)
set_option maxRecDepth 20000 in
theorem gX9_cite_X9_saves : GoodIn wsX9_cite (wsV RX9 91 RX9 yX9_saves wsX9_saves) := goodIn_app (goodIn_of _ (by decide +kernel)) ggX9_cite_X9_saves
set_option maxRecDepth 20000 in
theorem ggX9_cite_X9_names : GoodIn wsX9_cite wsX9_names := goodIn_r _ [36, 2, 21, 22, 5, 23, 37, 38, 39, 40, 41, 42, 43, 44, 45, 46, 47, 48, 49, 50, 51, 52, 53] (by decide +kernel) (by decide +kernel)
set_option maxRecDepth 20000 in
theorem gX9_cite_X9_names : GoodIn wsX9_cite (wsV RX9 118 RX9 yX9_names wsX9_names) := goodIn_app (goodIn_of _ (by decide +kernel)) ggX9_cite_X9_names
set_option maxRecDepth 20000 in
theorem ggX9_clean_X9_isParagraph : GoodIn wsX9_clean wsX9_isParagraph := goodIn_r _ [6, 7, 8, 5, 9] (by decide +kernel) (by decide +kernel)
set_option maxRecDepth 20000 in
theorem gX9_clean_X9_isParagraph : GoodIn wsX9_clean (va_wsS RX9 115 yX9_isParagraph wsX9_isParagraph) := goodIn_app (goodIn_of _ (by decide +kernel)) ggX9_clean_X9_isParagraph
set_option maxRecDepth 20000 in
theorem ggX9_clean_X9_fails : GoodIn wsX9_clean wsX9_fails := goodIn_r _ [13, 1, 41, 42, 43, 44, 45, 46, 47, 48, 49, 50, 51] (by decide +kernel) (by decide +kernel)
set_option maxRecDepth 20000 in
theorem gX9_clean_X9_fails : GoodIn wsX9_clean (wsV RX9 40 RX9 yX9_fails wsX9_fails) := goodIn_app (goodIn_of _ (by decide +kernel)) ggX9_clean_X9_fails
set_option maxRecDepth 20000 in
theorem ggX9_clean_X9_saves : GoodIn wsX9_clean wsX9_saves := goodIn_r _ [17, 18, 19, 2, 20, 21, 5, 22, 41, 42, 43, 44, 45, 46, 47, 48, 49, 50, 51] (by decide +kernel) (by decide +kernel)
set_option maxRecDepth 20000 in
theorem gX9_clean_X9_saves : GoodIn wsX9_clean (wsV RX9 91 RX9 yX9_saves wsX9_saves) := goodIn_app (goodIn_of _ (by decide +kernel)) ggX9_clean_X9_saves
set_option maxRecDepth 20000 in
theorem ggX9_clean_X9_cites : GoodIn wsX9_clean wsX9_cites := goodIn_r _ [25] (by decide +kernel) (by decide +kernel)
set_option maxRecDepth 20000 in
theorem gX9_clean_X9_cites : GoodIn wsX9_clean (va_wsS RX9 59 yX9_cites wsX9_cites) := goodIn_app (goodIn_of _ (by decide +kernel)) ggX9_clean_X9_cites
set_option maxRecDepth 20000 in
theorem ggX9_clean_X9_isLost : GoodIn wsX9_clean wsX9_isLost := goodIn_r _ [28, 29, 30, 5, 31, 32, 33, 34, 35, 36, 37, 38, 39, 40] (by decide +kernel) (by decide +kernel)
set_option maxRecDepth 20000 in
theorem gX9_clean_X9_isLost : GoodIn wsX9_clean (va_wsS RX9 62 yX9_isLost wsX9_isLost) := goodIn_app (goodIn_of _ (by decide +kernel)) ggX9_clean_X9_isLost
set_option maxRecDepth 20000 in
theorem ggX9_clean_X9_index : GoodIn wsX9_clean wsX9_index := goodIn_r _ [34] (by decide +kernel) (by decide +kernel)
set_option maxRecDepth 20000 in
theorem gX9_clean_X9_index : GoodIn wsX9_clean (va_wsS RX9 44 yX9_index wsX9_index) := goodIn_app (goodIn_of _ (by decide +kernel)) ggX9_clean_X9_index
set_option maxRecDepth 20000 in
theorem ggX9_print_X9_isParagraph : GoodIn wsX9_print wsX9_isParagraph := goodIn_r _ [6, 7, 8, 5, 9] (by decide +kernel) (by decide +kernel)
set_option maxRecDepth 20000 in
theorem gX9_print_X9_isParagraph : GoodIn wsX9_print (va_wsS RX9 115 yX9_isParagraph wsX9_isParagraph) := goodIn_app (goodIn_of _ (by decide +kernel)) ggX9_print_X9_isParagraph
set_option maxRecDepth 20000 in
theorem ggX9_print_X9_fails : GoodIn wsX9_print wsX9_fails := goodIn_r _ [13, 1, 44, 45, 46, 47, 48, 49, 50, 51, 52, 53, 54] (by decide +kernel) (by decide +kernel)
set_option maxRecDepth 20000 in
theorem gX9_print_X9_fails : GoodIn wsX9_print (wsV RX9 40 RX9 yX9_fails wsX9_fails) := goodIn_app (goodIn_of _ (by decide +kernel)) ggX9_print_X9_fails
set_option maxRecDepth 20000 in
theorem ggX9_print_X9_saves : GoodIn wsX9_print wsX9_saves := goodIn_r _ [17, 18, 19, 2, 20, 21, 5, 22, 44, 45, 46, 47, 48, 49, 50, 51, 52, 53, 54] (by decide +kernel) (by decide +kernel)
set_option maxRecDepth 20000 in
theorem gX9_print_X9_saves : GoodIn wsX9_print (wsV RX9 91 RX9 yX9_saves wsX9_saves) := goodIn_app (goodIn_of _ (by decide +kernel)) ggX9_print_X9_saves
set_option maxRecDepth 20000 in
theorem ggX9_print_X9_isStale : GoodIn wsX9_print wsX9_isStale := goodIn_r _ [25, 26, 27, 5, 28, 29, 30, 31, 32, 33, 34, 35, 36, 37, 38, 39, 40, 41, 42, 43] (by decide +kernel) (by decide +kernel)
set_option maxRecDepth 20000 in
theorem gX9_print_X9_isStale : GoodIn wsX9_print (va_wsS RX9 69 yX9_isStale wsX9_isStale) := goodIn_app (goodIn_of _ (by decide +kernel)) ggX9_print_X9_isStale
set_option maxRecDepth 20000 in
theorem ggX9_print_X9_cites : GoodIn wsX9_print wsX9_cites := goodIn_r _ [28] (by decide +kernel) (by decide +kernel)
set_option maxRecDepth 20000 in
theorem gX9_print_X9_cites : GoodIn wsX9_print (va_wsS RX9 59 yX9_cites wsX9_cites) := goodIn_app (goodIn_of _ (by decide +kernel)) ggX9_print_X9_cites
set_option maxRecDepth 20000 in
theorem ggX9_print_X9_letter : GoodIn wsX9_print wsX9_letter := goodIn_r _ [31, 32, 33, 5, 34, 35, 36, 37] (by decide +kernel) (by decide +kernel)
set_option maxRecDepth 20000 in
theorem gX9_print_X9_letter : GoodIn wsX9_print (va_wsS RX9 52 yX9_letter wsX9_letter) := goodIn_app (goodIn_of _ (by decide +kernel)) ggX9_print_X9_letter
set_option maxRecDepth 20000 in
theorem ggX9_print_X9_index : GoodIn wsX9_print wsX9_index := goodIn_r _ [34] (by decide +kernel) (by decide +kernel)
set_option maxRecDepth 20000 in
theorem gX9_print_X9_index : GoodIn wsX9_print (va_wsS RX9 44 yX9_index wsX9_index) := goodIn_app (goodIn_of _ (by decide +kernel)) ggX9_print_X9_index
set_option maxRecDepth 20000 in
theorem ggX9_print_X9_isLost : GoodIn wsX9_print wsX9_isLost := goodIn_r _ [40, 29, 30, 5, 31, 32, 33, 34, 35, 36, 37, 41, 42, 43] (by decide +kernel) (by decide +kernel)
set_option maxRecDepth 20000 in
theorem gX9_print_X9_isLost : GoodIn wsX9_print (va_wsS RX9 62 yX9_isLost wsX9_isLost) := goodIn_app (goodIn_of _ (by decide +kernel)) ggX9_print_X9_isLost
set_option maxRecDepth 20000 in
theorem ggX9_set_X9_in : GoodIn wsX9_set wsX9_in := goodIn_r _ [5] (by decide +kernel) (by decide +kernel)
set_option maxRecDepth 20000 in
theorem gX9_set_X9_in : GoodIn wsX9_set (va_wsS RX9 29 yX9_in wsX9_in) := goodIn_app (goodIn_of _ (by decide +kernel)) ggX9_set_X9_in
set_option maxRecDepth 20000 in
theorem ggX9_set_X9_fails : GoodIn wsX9_set wsX9_fails := goodIn_r _ [9, 1, 24, 25, 26, 27, 28, 29, 30, 31, 32, 33, 34] (by decide +kernel) (by decide +kernel)
set_option maxRecDepth 20000 in
theorem gX9_set_X9_fails : GoodIn wsX9_set (wsV RX9 40 RX9 yX9_fails wsX9_fails) := goodIn_app (goodIn_of _ (by decide +kernel)) ggX9_set_X9_fails
set_option maxRecDepth 20000 in
theorem ggX9_set_X9_saves : GoodIn wsX9_set wsX9_saves := goodIn_r _ [13, 14, 15, 16, 17, 18, 4, 19, 24, 25, 26, 27, 28, 29, 30, 31, 32, 33, 34] (by decide +kernel) (by decide +kernel)
set_option maxRecDepth 20000 in
theorem gX9_set_X9_saves : GoodIn wsX9_set (wsV RX9 91 RX9 yX9_saves wsX9_saves) := goodIn_app (goodIn_of _ (by decide +kernel)) ggX9_set_X9_saves
set_option maxRecDepth 20000 in
theorem ggX9_set_X9_changes : GoodIn wsX9_set wsX9_changes := goodIn_r _ [23, 16, 24, 25, 26, 27, 28, 29, 30, 31, 32, 33, 34] (by decide +kernel) (by decide +kernel)
set_option maxRecDepth 20000 in
theorem gX9_set_X9_changes : GoodIn wsX9_set (wsV RX9 108 RX9 yX9_changes wsX9_changes) := goodIn_app (goodIn_of _ (by decide +kernel)) ggX9_set_X9_changes
set_option maxRecDepth 20000 in
theorem ggX9_append_X9_in : GoodIn wsX9_append wsX9_in := goodIn_r _ [7] (by decide +kernel) (by decide +kernel)
set_option maxRecDepth 20000 in
theorem gX9_append_X9_in : GoodIn wsX9_append (va_wsS RX9 29 yX9_in wsX9_in) := goodIn_app (goodIn_of _ (by decide +kernel)) ggX9_append_X9_in
set_option maxRecDepth 20000 in
theorem ggX9_append_X9_fails : GoodIn wsX9_append wsX9_fails := goodIn_r _ [11, 1, 12, 13, 14, 15, 16, 17, 18, 19, 20, 21, 22] (by decide +kernel) (by decide +kernel)
set_option maxRecDepth 20000 in
theorem gX9_append_X9_fails : GoodIn wsX9_append (wsV RX9 40 RX9 yX9_fails wsX9_fails) := goodIn_app (goodIn_of _ (by decide +kernel)) ggX9_append_X9_fails
set_option maxRecDepth 20000 in
theorem ggX9_isAt_X9_in : GoodIn wsX9_isAt wsX9_in := goodIn_r _ [7] (by decide +kernel) (by decide +kernel)
set_option maxRecDepth 20000 in
theorem gX9_isAt_X9_in : GoodIn wsX9_isAt (va_wsS RX9 29 yX9_in wsX9_in) := goodIn_app (goodIn_of _ (by decide +kernel)) ggX9_isAt_X9_in
set_option maxRecDepth 20000 in
theorem ggX9_isCitation_X9_isAt : GoodIn wsX9_isCitation wsX9_isAt := goodIn_r _ [9, 2, 10, 1, 11, 12, 8, 13, 19, 20, 21, 22, 23, 24, 25, 26, 27, 28, 29] (by decide +kernel) (by decide +kernel)
set_option maxRecDepth 20000 in
theorem gX9_isCitation_X9_isAt : GoodIn wsX9_isCitation (wsV RX9 132 RX9 yX9_isAt wsX9_isAt) := goodIn_app (goodIn_of _ (by decide +kernel)) ggX9_isCitation_X9_isAt
set_option maxRecDepth 20000 in
theorem ggX9_isCitation_X9_stops : GoodIn wsX9_isCitation wsX9_stops := goodIn_r _ [17, 2, 10, 18, 19, 20, 21, 22, 23, 24, 25, 26, 27, 28, 29] (by decide +kernel) (by decide +kernel)
set_option maxRecDepth 20000 in
theorem gX9_isCitation_X9_stops : GoodIn wsX9_isCitation (wsV RX9 136 RX9 yX9_stops wsX9_stops) := goodIn_app (goodIn_of _ (by decide +kernel)) ggX9_isCitation_X9_stops
set_option maxRecDepth 20000 in
theorem ggX9_isText_X9_isCitation : GoodIn wsX9_isText wsX9_isCitation := goodIn_r _ [9, 10, 1, 11, 2, 12, 13, 14, 8, 15, 4, 16, 17, 18, 19, 20, 21, 22, 3, 23, 24, 25, 26, 27, 28, 29, 30, 31, 32, 33] (by decide +kernel) (by decide +kernel)
set_option maxRecDepth 20000 in
theorem gX9_isText_X9_isCitation : GoodIn wsX9_isText (wsV RX9 143 RX9 yX9_isCitation wsX9_isCitation) := goodIn_app (goodIn_of _ (by decide +kernel)) ggX9_isText_X9_isCitation
set_option maxRecDepth 20000 in
theorem ggX9_isText_X9_isAt : GoodIn wsX9_isText wsX9_isAt := goodIn_r _ [15, 1, 4, 10, 16, 17, 8, 18, 23, 24, 25, 26, 27, 28, 29, 30, 31, 32, 33] (by decide +kernel) (by decide +kernel)
set_option maxRecDepth 20000 in
theorem gX9_isText_X9_isAt : GoodIn wsX9_isText (wsV RX9 132 RX9 yX9_isAt wsX9_isAt) := goodIn_app (goodIn_of _ (by decide +kernel)) ggX9_isText_X9_isAt
set_option maxRecDepth 20000 in
theorem ggX9_firstError_X9_isText : GoodIn wsX9_firstError wsX9_isText := goodIn_r _ [9, 3, 10, 2, 4, 11, 12, 13, 8, 14, 15, 16, 17, 18, 19, 20, 21, 22, 23, 24, 25, 26, 27, 28, 29, 30, 31, 32, 33, 34, 35, 36, 37, 38] (by decide +kernel) (by decide +kernel)
set_option maxRecDepth 20000 in
theorem gX9_firstError_X9_isText : GoodIn wsX9_firstError (wsV RX9 146 RX9 yX9_isText wsX9_isText) := goodIn_app (goodIn_of _ (by decide +kernel)) ggX9_firstError_X9_isText
set_option maxRecDepth 20000 in
theorem ggX9_citeAll_X9_isParagraph : GoodIn wsX9_citeAll wsX9_isParagraph := goodIn_r _ [8, 9, 10, 7, 11] (by decide +kernel) (by decide +kernel)
set_option maxRecDepth 20000 in
theorem gX9_citeAll_X9_isParagraph : GoodIn wsX9_citeAll (va_wsS RX9 115 yX9_isParagraph wsX9_isParagraph) := goodIn_app (goodIn_of _ (by decide +kernel)) ggX9_citeAll_X9_isParagraph
set_option maxRecDepth 20000 in
theorem ggX9_citeAll_X9_fails : GoodIn wsX9_citeAll wsX9_fails := goodIn_r _ [15, 1, 66, 67, 68, 69, 70, 71, 72, 73, 74, 75, 76] (by decide +kernel) (by decide +kernel)
set_option maxRecDepth 20000 in
theorem gX9_citeAll_X9_fails : GoodIn wsX9_citeAll (wsV RX9 40 RX9 yX9_fails wsX9_fails) := goodIn_app (goodIn_of _ (by decide +kernel)) ggX9_citeAll_X9_fails
set_option maxRecDepth 20000 in
theorem ggX9_citeAll_X9_isText : GoodIn wsX9_citeAll wsX9_isText := goodIn_r _ [19, 20, 2, 21, 4, 22, 23, 24, 7, 25, 26, 3, 27, 28, 29, 30, 9, 10, 11, 31, 32, 33, 34, 66, 67, 68, 69, 70, 71, 72, 73, 74, 75, 76] (by decide +kernel) (by decide +kernel)
set_option maxRecDepth 20000 in
theorem gX9_citeAll_X9_isText : GoodIn wsX9_citeAll (wsV RX9 146 RX9 yX9_isText wsX9_isText) := goodIn_app (goodIn_of _ (by decide +kernel)) ggX9_citeAll_X9_isText
set_option maxRecDepth 20000 in
theorem ggX9_citeAll_X9_isPlace : GoodIn wsX9_citeAll wsX9_isPlace := goodIn_r _ [38, 39, 9, 10, 7, 11, 66, 67, 68, 69, 70, 71, 72, 73, 74, 75, 76] (by decide +kernel) (by decide +kernel)
set_option maxRecDepth 20000 in
theorem gX9_citeAll_X9_isPlace : GoodIn wsX9_citeAll (wsV RX9 98 RX9 yX9_isPlace wsX9_isPlace) := goodIn_app (goodIn_of _ (by decide +kernel)) ggX9_citeAll_X9_isPlace
set_option maxRecDepth 20000 in
theorem ggX9_citeAll_X9_saves : GoodIn wsX9_citeAll wsX9_saves := goodIn_r _ [43, 44, 45, 39, 46, 47, 7, 48, 66, 67, 68, 69, 70, 71, 72, 73, 74, 75, 76] (by decide +kernel) (by decide +kernel)
set_option maxRecDepth 20000 in
theorem gX9_citeAll_X9_saves : GoodIn wsX9_citeAll (wsV RX9 91 RX9 yX9_saves wsX9_saves) := goodIn_app (goodIn_of _ (by decide +kernel)) ggX9_citeAll_X9_saves
set_option maxRecDepth 20000 in
theorem ggX9_citeAll_X9_changes : GoodIn wsX9_citeAll wsX9_changes := goodIn_r _ [52, 39, 66, 67, 68, 69, 70, 71, 72, 73, 74, 75, 76] (by decide +kernel) (by decide +kernel)
set_option maxRecDepth 20000 in
theorem gX9_citeAll_X9_changes : GoodIn wsX9_citeAll (wsV RX9 108 RX9 yX9_changes wsX9_changes) := goodIn_app (goodIn_of _ (by decide +kernel)) ggX9_citeAll_X9_changes
set_option maxRecDepth 20000 in
theorem ggX9_citeAll_X9_names : GoodIn wsX9_citeAll wsX9_names := goodIn_r _ [56, 39, 57, 58, 7, 59, 60, 61, 62, 63, 64, 65, 66, 67, 68, 69, 70, 71, 72, 73, 74, 75, 76] (by decide +kernel) (by decide +kernel)
set_option maxRecDepth 20000 in
theorem gX9_citeAll_X9_names : GoodIn wsX9_citeAll (wsV RX9 118 RX9 yX9_names wsX9_names) := goodIn_app (goodIn_of _ (by decide +kernel)) ggX9_citeAll_X9_names
set_option maxRecDepth 20000 in
theorem ggX9_citedBy_X9_cites : GoodIn wsX9_citedBy wsX9_cites := goodIn_r _ [4] (by decide +kernel) (by decide +kernel)
set_option maxRecDepth 20000 in
theorem gX9_citedBy_X9_cites : GoodIn wsX9_citedBy (va_wsS RX9 59 yX9_cites wsX9_cites) := goodIn_app (goodIn_of _ (by decide +kernel)) ggX9_citedBy_X9_cites
set_option maxRecDepth 20000 in
theorem ggX9_citedBy_X9_letter : GoodIn wsX9_citedBy wsX9_letter := goodIn_r _ [7, 8, 9, 3, 10, 11, 12, 13] (by decide +kernel) (by decide +kernel)
set_option maxRecDepth 20000 in
theorem gX9_citedBy_X9_letter : GoodIn wsX9_citedBy (va_wsS RX9 52 yX9_letter wsX9_letter) := goodIn_app (goodIn_of _ (by decide +kernel)) ggX9_citedBy_X9_letter
set_option maxRecDepth 20000 in
theorem ggX9_citedBy_X9_isLost : GoodIn wsX9_citedBy wsX9_isLost := goodIn_r _ [16, 5, 6, 3, 7, 8, 9, 10, 11, 12, 13, 17, 18, 19] (by decide +kernel) (by decide +kernel)
set_option maxRecDepth 20000 in
theorem gX9_citedBy_X9_isLost : GoodIn wsX9_citedBy (va_wsS RX9 62 yX9_isLost wsX9_isLost) := goodIn_app (goodIn_of _ (by decide +kernel)) ggX9_citedBy_X9_isLost
set_option maxRecDepth 20000 in
theorem ggX9_ofExhibit_X9_number : GoodIn wsX9_ofExhibit wsX9_number := goodIn_r _ [5] (by decide +kernel) (by decide +kernel)
set_option maxRecDepth 20000 in
theorem gX9_ofExhibit_X9_number : GoodIn wsX9_ofExhibit (va_wsS RX9 76 yX9_number wsX9_number) := goodIn_app (goodIn_of _ (by decide +kernel)) ggX9_ofExhibit_X9_number
set_option maxRecDepth 20000 in
theorem ggX9_ofExhibit_X9_pagesOf : GoodIn wsX9_ofExhibit wsX9_pagesOf := goodIn_r _ [8] (by decide +kernel) (by decide +kernel)
set_option maxRecDepth 20000 in
theorem gX9_ofExhibit_X9_pagesOf : GoodIn wsX9_ofExhibit (va_wsS RX9 56 yX9_pagesOf wsX9_pagesOf) := goodIn_app (goodIn_of _ (by decide +kernel)) ggX9_ofExhibit_X9_pagesOf
set_option maxRecDepth 20000 in
theorem ggX9_ofExhibit_X9_lies : GoodIn wsX9_ofExhibit wsX9_lies := goodIn_r _ [11, 6, 7, 4, 8] (by decide +kernel) (by decide +kernel)
set_option maxRecDepth 20000 in
theorem gX9_ofExhibit_X9_lies : GoodIn wsX9_ofExhibit (va_wsS RX9 73 yX9_lies wsX9_lies) := goodIn_app (goodIn_of _ (by decide +kernel)) ggX9_ofExhibit_X9_lies
set_option maxRecDepth 20000 in
theorem ggX9_ofExhibit_X9_citedBy : GoodIn wsX9_ofExhibit wsX9_citedBy := goodIn_r _ [14, 15, 16, 4, 17, 18, 19, 20, 21, 22, 23, 24, 25, 26, 27, 28, 29, 6, 7, 8] (by decide +kernel) (by decide +kernel)
set_option maxRecDepth 20000 in
theorem gX9_ofExhibit_X9_citedBy : GoodIn wsX9_ofExhibit (va_wsS RX9 149 yX9_citedBy wsX9_citedBy) := goodIn_app (goodIn_of _ (by decide +kernel)) ggX9_ofExhibit_X9_citedBy
set_option maxRecDepth 20000 in
theorem ggX9_exhibit_X9_in : GoodIn wsX9_exhibit wsX9_in := goodIn_r _ [5] (by decide +kernel) (by decide +kernel)
set_option maxRecDepth 20000 in
theorem gX9_exhibit_X9_in : GoodIn wsX9_exhibit (va_wsS RX9 29 yX9_in wsX9_in) := goodIn_app (goodIn_of _ (by decide +kernel)) ggX9_exhibit_X9_in
set_option maxRecDepth 20000 in
theorem ggX9_exhibit_X9_fails : GoodIn wsX9_exhibit wsX9_fails := goodIn_r _ [9, 1, 46, 47, 48, 49, 50, 51, 52, 53, 54, 55, 56] (by decide +kernel) (by decide +kernel)
set_option maxRecDepth 20000 in
theorem gX9_exhibit_X9_fails : GoodIn wsX9_exhibit (wsV RX9 40 RX9 yX9_fails wsX9_fails) := goodIn_app (goodIn_of _ (by decide +kernel)) ggX9_exhibit_X9_fails
set_option maxRecDepth 20000 in
theorem ggX9_exhibit_X9_isPlace : GoodIn wsX9_exhibit wsX9_isPlace := goodIn_r _ [13, 14, 2, 3, 4, 5, 46, 47, 48, 49, 50, 51, 52, 53, 54, 55, 56] (by decide +kernel) (by decide +kernel)
set_option maxRecDepth 20000 in
theorem gX9_exhibit_X9_isPlace : GoodIn wsX9_exhibit (wsV RX9 98 RX9 yX9_isPlace wsX9_isPlace) := goodIn_app (goodIn_of _ (by decide +kernel)) ggX9_exhibit_X9_isPlace
set_option maxRecDepth 20000 in
theorem ggX9_exhibit_X9_ofExhibit : GoodIn wsX9_exhibit wsX9_ofExhibit := goodIn_r _ [18, 14, 19, 20, 4, 21, 22, 23, 24, 25, 26, 27, 28, 29, 30, 31, 32, 33, 34, 35, 36, 37, 38, 39, 40, 41, 42, 43, 44, 45, 46, 47, 48, 49, 50, 51, 52, 53, 54, 55, 56] (by decide +kernel) (by decide +kernel)
set_option maxRecDepth 20000 in
theorem gX9_exhibit_X9_ofExhibit : GoodIn wsX9_exhibit (wsV RX9 153 RX9 yX9_ofExhibit wsX9_ofExhibit) := goodIn_app (goodIn_of _ (by decide +kernel)) ggX9_exhibit_X9_ofExhibit
set_option maxRecDepth 20000 in
theorem ggX9_ofCitation_X9_index : GoodIn wsX9_ofCitation wsX9_index := goodIn_r _ [5] (by decide +kernel) (by decide +kernel)
set_option maxRecDepth 20000 in
theorem gX9_ofCitation_X9_index : GoodIn wsX9_ofCitation (va_wsS RX9 44 yX9_index wsX9_index) := goodIn_app (goodIn_of _ (by decide +kernel)) ggX9_ofCitation_X9_index
set_option maxRecDepth 20000 in
theorem ggX9_ofCitation_X9_letter : GoodIn wsX9_ofCitation wsX9_letter := goodIn_r _ [8, 2, 3, 4, 5, 9, 10, 11] (by decide +kernel) (by decide +kernel)
set_option maxRecDepth 20000 in
theorem gX9_ofCitation_X9_letter : GoodIn wsX9_ofCitation (va_wsS RX9 52 yX9_letter wsX9_letter) := goodIn_app (goodIn_of _ (by decide +kernel)) ggX9_ofCitation_X9_letter
set_option maxRecDepth 20000 in
theorem ggX9_ofCitation_X9_isLost : GoodIn wsX9_ofCitation wsX9_isLost := goodIn_r _ [14, 6, 7, 4, 8, 2, 3, 5, 9, 10, 11, 15, 16, 17] (by decide +kernel) (by decide +kernel)
set_option maxRecDepth 20000 in
theorem gX9_ofCitation_X9_isLost : GoodIn wsX9_ofCitation (va_wsS RX9 62 yX9_isLost wsX9_isLost) := goodIn_app (goodIn_of _ (by decide +kernel)) ggX9_ofCitation_X9_isLost
set_option maxRecDepth 20000 in
theorem ggX9_ofCitation_X9_lies : GoodIn wsX9_ofCitation wsX9_lies := goodIn_r _ [20, 15, 16, 4, 17] (by decide +kernel) (by decide +kernel)
set_option maxRecDepth 20000 in
theorem gX9_ofCitation_X9_lies : GoodIn wsX9_ofCitation (va_wsS RX9 73 yX9_lies wsX9_lies) := goodIn_app (goodIn_of _ (by decide +kernel)) ggX9_ofCitation_X9_lies
set_option maxRecDepth 20000 in
theorem ggX9_citation_X9_isParagraph : GoodIn wsX9_citation wsX9_isParagraph := goodIn_r _ [6, 7, 8, 5, 9] (by decide +kernel) (by decide +kernel)
set_option maxRecDepth 20000 in
theorem gX9_citation_X9_isParagraph : GoodIn wsX9_citation (va_wsS RX9 115 yX9_isParagraph wsX9_isParagraph) := goodIn_app (goodIn_of _ (by decide +kernel)) ggX9_citation_X9_isParagraph
set_option maxRecDepth 20000 in
theorem ggX9_citation_X9_fails : GoodIn wsX9_citation wsX9_fails := goodIn_r _ [13, 1, 39, 40, 41, 42, 43, 44, 45, 46, 47, 48, 49] (by decide +kernel) (by decide +kernel)
set_option maxRecDepth 20000 in
theorem gX9_citation_X9_fails : GoodIn wsX9_citation (wsV RX9 40 RX9 yX9_fails wsX9_fails) := goodIn_app (goodIn_of _ (by decide +kernel)) ggX9_citation_X9_fails
set_option maxRecDepth 20000 in
theorem ggX9_citation_X9_in : GoodIn wsX9_citation wsX9_in := goodIn_r _ [9] (by decide +kernel) (by decide +kernel)
set_option maxRecDepth 20000 in
theorem gX9_citation_X9_in : GoodIn wsX9_citation (va_wsS RX9 29 yX9_in wsX9_in) := goodIn_app (goodIn_of _ (by decide +kernel)) ggX9_citation_X9_in
set_option maxRecDepth 20000 in
theorem ggX9_citation_X9_cites : GoodIn wsX9_citation wsX9_cites := goodIn_r _ [16] (by decide +kernel) (by decide +kernel)
set_option maxRecDepth 20000 in
theorem gX9_citation_X9_cites : GoodIn wsX9_citation (va_wsS RX9 59 yX9_cites wsX9_cites) := goodIn_app (goodIn_of _ (by decide +kernel)) ggX9_citation_X9_cites
set_option maxRecDepth 20000 in
theorem ggX9_citation_X9_ofCitation : GoodIn wsX9_citation wsX9_ofCitation := goodIn_r _ [20, 2, 21, 22, 5, 23, 24, 25, 26, 27, 28, 29, 30, 31, 32, 33, 34, 35, 36, 37, 38, 39, 40, 41, 42, 43, 44, 45, 46, 47, 48, 49] (by decide +kernel) (by decide +kernel)
set_option maxRecDepth 20000 in
theorem gX9_citation_X9_ofCitation : GoodIn wsX9_citation (wsV RX9 156 RX9 yX9_ofCitation wsX9_ofCitation) := goodIn_app (goodIn_of _ (by decide +kernel)) ggX9_citation_X9_ofCitation
set_option maxRecDepth 20000 in
theorem ggX9_ofParagraph_X9_cites : GoodIn wsX9_ofParagraph wsX9_cites := goodIn_r _ [5] (by decide +kernel) (by decide +kernel)
set_option maxRecDepth 20000 in
theorem gX9_ofParagraph_X9_cites : GoodIn wsX9_ofParagraph (va_wsS RX9 59 yX9_cites wsX9_cites) := goodIn_app (goodIn_of _ (by decide +kernel)) ggX9_ofParagraph_X9_cites
set_option maxRecDepth 20000 in
theorem ggX9_ofParagraph_X9_lost : GoodIn wsX9_ofParagraph wsX9_lost := goodIn_r _ [8, 2, 3, 4, 5, 9, 10, 11, 12, 13, 14, 15, 16, 17, 18, 19, 20, 21, 22, 23] (by decide +kernel) (by decide +kernel)
set_option maxRecDepth 20000 in
theorem gX9_ofParagraph_X9_lost : GoodIn wsX9_ofParagraph (va_wsS RX9 66 yX9_lost wsX9_lost) := goodIn_app (goodIn_of _ (by decide +kernel)) ggX9_ofParagraph_X9_lost
set_option maxRecDepth 20000 in
theorem ggX9_ofParagraph_X9_isStale : GoodIn wsX9_ofParagraph wsX9_isStale := goodIn_r _ [26, 2, 3, 4, 5, 12, 13, 14, 15, 16, 17, 18, 19, 20, 9, 10, 11, 21, 22, 23] (by decide +kernel) (by decide +kernel)
set_option maxRecDepth 20000 in
theorem gX9_ofParagraph_X9_isStale : GoodIn wsX9_ofParagraph (va_wsS RX9 69 yX9_isStale wsX9_isStale) := goodIn_app (goodIn_of _ (by decide +kernel)) ggX9_ofParagraph_X9_isStale
set_option maxRecDepth 20000 in
theorem ggX9_paragraph_X9_isParagraph : GoodIn wsX9_paragraph wsX9_isParagraph := goodIn_r _ [5, 6, 7, 4, 8] (by decide +kernel) (by decide +kernel)
set_option maxRecDepth 20000 in
theorem gX9_paragraph_X9_isParagraph : GoodIn wsX9_paragraph (va_wsS RX9 115 yX9_isParagraph wsX9_isParagraph) := goodIn_app (goodIn_of _ (by decide +kernel)) ggX9_paragraph_X9_isParagraph
set_option maxRecDepth 20000 in
theorem ggX9_paragraph_X9_fails : GoodIn wsX9_paragraph wsX9_fails := goodIn_r _ [12, 1, 42, 43, 44, 45, 46, 47, 48, 49, 50, 51, 52] (by decide +kernel) (by decide +kernel)
set_option maxRecDepth 20000 in
theorem gX9_paragraph_X9_fails : GoodIn wsX9_paragraph (wsV RX9 40 RX9 yX9_fails wsX9_fails) := goodIn_app (goodIn_of _ (by decide +kernel)) ggX9_paragraph_X9_fails
set_option maxRecDepth 20000 in
theorem ggX9_paragraph_X9_in : GoodIn wsX9_paragraph wsX9_in := goodIn_r _ [8] (by decide +kernel) (by decide +kernel)
set_option maxRecDepth 20000 in
theorem gX9_paragraph_X9_in : GoodIn wsX9_paragraph (va_wsS RX9 29 yX9_in wsX9_in) := goodIn_app (goodIn_of _ (by decide +kernel)) ggX9_paragraph_X9_in
set_option maxRecDepth 20000 in
theorem ggX9_paragraph_X9_ofParagraph : GoodIn wsX9_paragraph wsX9_ofParagraph := goodIn_r _ [16, 17, 18, 19, 4, 20, 21, 22, 23, 24, 25, 26, 27, 28, 29, 30, 31, 32, 33, 34, 35, 36, 37, 38, 39, 40, 41, 42, 43, 44, 45, 46, 47, 48, 49, 50, 51, 52] (by decide +kernel) (by decide +kernel)
set_option maxRecDepth 20000 in
theorem gX9_paragraph_X9_ofParagraph : GoodIn wsX9_paragraph (wsV RX9 160 RX9 yX9_ofParagraph wsX9_ofParagraph) := goodIn_app (goodIn_of _ (by decide +kernel)) ggX9_paragraph_X9_ofParagraph
set_option maxRecDepth 20000 in
theorem ggX9_row_X9_cites : GoodIn wsX9_row wsX9_cites := goodIn_r _ [5] (by decide +kernel) (by decide +kernel)
set_option maxRecDepth 20000 in
theorem gX9_row_X9_cites : GoodIn wsX9_row (va_wsS RX9 59 yX9_cites wsX9_cites) := goodIn_app (goodIn_of _ (by decide +kernel)) ggX9_row_X9_cites
set_option maxRecDepth 20000 in
theorem ggX9_row_X9_letter : GoodIn wsX9_row wsX9_letter := goodIn_r _ [8, 9, 10, 4, 11, 12, 13, 14] (by decide +kernel) (by decide +kernel)
set_option maxRecDepth 20000 in
theorem gX9_row_X9_letter : GoodIn wsX9_row (va_wsS RX9 52 yX9_letter wsX9_letter) := goodIn_app (goodIn_of _ (by decide +kernel)) ggX9_row_X9_letter
set_option maxRecDepth 20000 in
theorem ggX9_row_X9_isLost : GoodIn wsX9_row wsX9_isLost := goodIn_r _ [17, 6, 7, 4, 8, 9, 10, 11, 12, 13, 14, 18, 19, 20] (by decide +kernel) (by decide +kernel)
set_option maxRecDepth 20000 in
theorem gX9_row_X9_isLost : GoodIn wsX9_row (va_wsS RX9 62 yX9_isLost wsX9_isLost) := goodIn_app (goodIn_of _ (by decide +kernel)) ggX9_row_X9_isLost
set_option maxRecDepth 20000 in
theorem ggX9_table_X9_isPlace : GoodIn wsX9_table wsX9_isPlace := goodIn_r _ [6, 7, 8, 9, 5, 10, 37, 38, 39, 40, 41, 42, 43, 44, 45, 46, 47] (by decide +kernel) (by decide +kernel)
set_option maxRecDepth 20000 in
theorem gX9_table_X9_isPlace : GoodIn wsX9_table (wsV RX9 98 RX9 yX9_isPlace wsX9_isPlace) := goodIn_app (goodIn_of _ (by decide +kernel)) ggX9_table_X9_isPlace
set_option maxRecDepth 20000 in
theorem ggX9_table_X9_row : GoodIn wsX9_table wsX9_row := goodIn_r _ [14, 7, 15, 16, 5, 17, 18, 19, 20, 21, 22, 23, 24, 25, 26, 27, 28, 29, 30, 31, 32, 37, 38, 39, 40, 41, 42, 43, 44, 45, 46, 47] (by decide +kernel) (by decide +kernel)
set_option maxRecDepth 20000 in
theorem gX9_table_X9_row : GoodIn wsX9_table (wsV RX9 163 RX9 yX9_row wsX9_row) := goodIn_app (goodIn_of _ (by decide +kernel)) ggX9_table_X9_row
set_option maxRecDepth 20000 in
theorem ggX9_table_X9_fails : GoodIn wsX9_table wsX9_fails := goodIn_r _ [36, 1, 37, 38, 39, 40, 41, 42, 43, 44, 45, 46, 47] (by decide +kernel) (by decide +kernel)
set_option maxRecDepth 20000 in
theorem gX9_table_X9_fails : GoodIn wsX9_table (wsV RX9 40 RX9 yX9_fails wsX9_fails) := goodIn_app (goodIn_of _ (by decide +kernel)) ggX9_table_X9_fails
set_option maxRecDepth 20000 in
theorem ggX9_uncited_X9_citedBy : GoodIn wsX9_uncited wsX9_citedBy := goodIn_r _ [5, 6, 7, 4, 8, 9, 10, 11, 12, 13, 14, 15, 16, 17, 18, 19, 20, 21, 22, 23] (by decide +kernel) (by decide +kernel)
set_option maxRecDepth 20000 in
theorem gX9_uncited_X9_citedBy : GoodIn wsX9_uncited (va_wsS RX9 149 yX9_citedBy wsX9_citedBy) := goodIn_app (goodIn_of _ (by decide +kernel)) ggX9_uncited_X9_citedBy
set_option maxRecDepth 20000 in
theorem ggX9_allPages_X9_pagesOf : GoodIn wsX9_allPages wsX9_pagesOf := goodIn_r _ [5] (by decide +kernel) (by decide +kernel)
set_option maxRecDepth 20000 in
theorem gX9_allPages_X9_pagesOf : GoodIn wsX9_allPages (va_wsS RX9 56 yX9_pagesOf wsX9_pagesOf) := goodIn_app (goodIn_of _ (by decide +kernel)) ggX9_allPages_X9_pagesOf
set_option maxRecDepth 20000 in
theorem ggX9_allCites_X9_cites : GoodIn wsX9_allCites wsX9_cites := goodIn_r _ [5] (by decide +kernel) (by decide +kernel)
set_option maxRecDepth 20000 in
theorem gX9_allCites_X9_cites : GoodIn wsX9_allCites (va_wsS RX9 59 yX9_cites wsX9_cites) := goodIn_app (goodIn_of _ (by decide +kernel)) ggX9_allCites_X9_cites
set_option maxRecDepth 20000 in
theorem ggX9_counted_X9_allPages : GoodIn wsX9_counted wsX9_allPages := goodIn_r _ [7, 1, 8, 9, 6, 10, 55, 56, 57, 58, 59, 60, 61, 62, 63, 64, 65] (by decide +kernel) (by decide +kernel)
set_option maxRecDepth 20000 in
theorem gX9_counted_X9_allPages : GoodIn wsX9_counted (wsV RX9 166 RX9 yX9_allPages wsX9_allPages) := goodIn_app (goodIn_of _ (by decide +kernel)) ggX9_counted_X9_allPages
set_option maxRecDepth 20000 in
theorem ggX9_counted_X9_binders : GoodIn wsX9_counted wsX9_binders := goodIn_r _ [13, 14, 15, 6, 16, 8, 9, 10] (by decide +kernel) (by decide +kernel)
set_option maxRecDepth 20000 in
theorem gX9_counted_X9_binders : GoodIn wsX9_counted (va_wsS RX9 170 yX9_binders wsX9_binders) := goodIn_app (goodIn_of _ (by decide +kernel)) ggX9_counted_X9_binders
set_option maxRecDepth 20000 in
theorem ggX9_counted_X9_allCites : GoodIn wsX9_counted wsX9_allCites := goodIn_r _ [20, 1, 21, 22, 6, 23, 55, 56, 57, 58, 59, 60, 61, 62, 63, 64, 65] (by decide +kernel) (by decide +kernel)
set_option maxRecDepth 20000 in
theorem gX9_counted_X9_allCites : GoodIn wsX9_counted (wsV RX9 173 RX9 yX9_allCites wsX9_allCites) := goodIn_app (goodIn_of _ (by decide +kernel)) ggX9_counted_X9_allCites
set_option maxRecDepth 20000 in
theorem ggX9_counted_X9_allLost : GoodIn wsX9_counted wsX9_allLost := goodIn_r _ [26, 27, 28, 6, 29, 21, 22, 23, 30, 31, 32, 33, 34, 35, 36, 37, 38, 39, 40, 41, 8, 9, 10] (by decide +kernel) (by decide +kernel)
set_option maxRecDepth 20000 in
theorem gX9_counted_X9_allLost : GoodIn wsX9_counted (va_wsS RX9 104 yX9_allLost wsX9_allLost) := goodIn_app (goodIn_of _ (by decide +kernel)) ggX9_counted_X9_allLost
set_option maxRecDepth 20000 in
theorem ggX9_counted_X9_stale : GoodIn wsX9_counted wsX9_stale := goodIn_r _ [44, 45, 46, 6, 47, 21, 22, 23, 33, 34, 35, 36, 37, 38, 39, 40, 41, 30, 31, 32, 8, 9, 10] (by decide +kernel) (by decide +kernel)
set_option maxRecDepth 20000 in
theorem gX9_counted_X9_stale : GoodIn wsX9_counted (va_wsS RX9 176 yX9_stale wsX9_stale) := goodIn_app (goodIn_of _ (by decide +kernel)) ggX9_counted_X9_stale
set_option maxRecDepth 20000 in
theorem ggX9_counted_X9_uncited : GoodIn wsX9_counted wsX9_uncited := goodIn_r _ [51, 1, 52, 53, 6, 54, 21, 22, 23, 33, 34, 35, 36, 37, 38, 39, 40, 41, 30, 31, 32, 8, 9, 10, 55, 56, 57, 58, 59, 60, 61, 62, 63, 64, 65] (by decide +kernel) (by decide +kernel)
set_option maxRecDepth 20000 in
theorem gX9_counted_X9_uncited : GoodIn wsX9_counted (wsV RX9 179 RX9 yX9_uncited wsX9_uncited) := goodIn_app (goodIn_of _ (by decide +kernel)) ggX9_counted_X9_uncited
set_option maxRecDepth 20000 in
theorem ggX9_count_X9_in : GoodIn wsX9_count wsX9_in := goodIn_r _ [5] (by decide +kernel) (by decide +kernel)
set_option maxRecDepth 20000 in
theorem gX9_count_X9_in : GoodIn wsX9_count (va_wsS RX9 29 yX9_in wsX9_in) := goodIn_app (goodIn_of _ (by decide +kernel)) ggX9_count_X9_in
