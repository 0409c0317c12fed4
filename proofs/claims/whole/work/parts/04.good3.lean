set_option maxRecDepth 20000 in
theorem ggX9_count_X9_counted : GoodIn wsX9_count wsX9_counted := goodIn_r _ [9, 10, 11, 12, 13, 14, 4, 15, 16, 17, 18, 19, 20, 21, 22, 23, 24, 25, 26, 27, 28, 29, 30, 31, 32, 33, 34, 35, 36, 37, 38, 39, 40, 41, 42, 43, 44, 45, 46, 47, 48, 49, 50, 51, 52, 53, 54, 55, 56, 57, 58, 59, 60, 61, 62, 67, 68, 69, 70, 71, 72, 73, 74, 75, 76, 77] (by decide +kernel) (by decide +kernel)
set_option maxRecDepth 20000 in
theorem gX9_count_X9_counted : GoodIn wsX9_count (wsV RX9 182 RX9 yX9_counted wsX9_counted) := goodIn_app (goodIn_of _ (by decide +kernel)) ggX9_count_X9_counted
set_option maxRecDepth 20000 in
theorem ggX9_count_X9_fails : GoodIn wsX9_count wsX9_fails := goodIn_r _ [66, 1, 67, 68, 69, 70, 71, 72, 73, 74, 75, 76, 77] (by decide +kernel) (by decide +kernel)
set_option maxRecDepth 20000 in
theorem gX9_count_X9_fails : GoodIn wsX9_count (wsV RX9 40 RX9 yX9_fails wsX9_fails) := goodIn_app (goodIn_of _ (by decide +kernel)) ggX9_count_X9_fails
set_option maxRecDepth 20000 in
theorem ggX9_byInserting_X9_copies : GoodIn wsX9_byInserting wsX9_copies := goodIn_r _ [6] (by decide +kernel) (by decide +kernel)
set_option maxRecDepth 20000 in
theorem gX9_byInserting_X9_copies : GoodIn wsX9_byInserting (va_wsS RX9 36 yX9_copies wsX9_copies) := goodIn_app (goodIn_of _ (by decide +kernel)) ggX9_byInserting_X9_copies
set_option maxRecDepth 20000 in
theorem ggX9_byInserting_X9_comes : GoodIn wsX9_byInserting wsX9_comes := goodIn_r _ [9, 10, 11, 5, 12] (by decide +kernel) (by decide +kernel)
set_option maxRecDepth 20000 in
theorem gX9_byInserting_X9_comes : GoodIn wsX9_byInserting (va_wsS RX9 94 yX9_comes wsX9_comes) := goodIn_app (goodIn_of _ (by decide +kernel)) ggX9_byInserting_X9_comes
set_option maxRecDepth 20000 in
theorem ggX9_byInserting_X9_stale : GoodIn wsX9_byInserting wsX9_stale := goodIn_r _ [15, 16, 17, 5, 18, 19, 20, 21, 22, 23, 24, 25, 26, 27, 28, 29, 30, 31, 32, 33, 34, 35, 36] (by decide +kernel) (by decide +kernel)
set_option maxRecDepth 20000 in
theorem gX9_byInserting_X9_stale : GoodIn wsX9_byInserting (va_wsS RX9 176 yX9_stale wsX9_stale) := goodIn_app (goodIn_of _ (by decide +kernel)) ggX9_byInserting_X9_stale
set_option maxRecDepth 20000 in
theorem ggX9_byInserting_X9_binders : GoodIn wsX9_byInserting wsX9_binders := goodIn_r _ [39, 40, 41, 5, 42, 34, 35, 36] (by decide +kernel) (by decide +kernel)
set_option maxRecDepth 20000 in
theorem gX9_byInserting_X9_binders : GoodIn wsX9_byInserting (va_wsS RX9 170 yX9_binders wsX9_binders) := goodIn_app (goodIn_of _ (by decide +kernel)) ggX9_byInserting_X9_binders
set_option maxRecDepth 20000 in
theorem ggX9_ifInserted_X9_in : GoodIn wsX9_ifInserted wsX9_in := goodIn_r _ [6] (by decide +kernel) (by decide +kernel)
set_option maxRecDepth 20000 in
theorem gX9_ifInserted_X9_in : GoodIn wsX9_ifInserted (va_wsS RX9 29 yX9_in wsX9_in) := goodIn_app (goodIn_of _ (by decide +kernel)) ggX9_ifInserted_X9_in
set_option maxRecDepth 20000 in
theorem ggX9_ifInserted_X9_fails : GoodIn wsX9_ifInserted wsX9_fails := goodIn_r _ [10, 1, 58, 59, 60, 61, 62, 63, 64, 65, 66, 67, 68] (by decide +kernel) (by decide +kernel)
set_option maxRecDepth 20000 in
theorem gX9_ifInserted_X9_fails : GoodIn wsX9_ifInserted (wsV RX9 40 RX9 yX9_fails wsX9_fails) := goodIn_app (goodIn_of _ (by decide +kernel)) ggX9_ifInserted_X9_fails
set_option maxRecDepth 20000 in
theorem ggX9_ifInserted_X9_arePages : GoodIn wsX9_ifInserted wsX9_arePages := goodIn_r _ [13, 3, 4, 5, 6] (by decide +kernel) (by decide +kernel)
set_option maxRecDepth 20000 in
theorem gX9_ifInserted_X9_arePages : GoodIn wsX9_ifInserted (va_wsS RX9 87 yX9_arePages wsX9_arePages) := goodIn_app (goodIn_of _ (by decide +kernel)) ggX9_ifInserted_X9_arePages
set_option maxRecDepth 20000 in
theorem ggX9_ifInserted_X9_byInserting : GoodIn wsX9_ifInserted wsX9_byInserting := goodIn_r _ [17, 2, 18, 19, 20, 5, 21, 22, 23, 24, 25, 26, 27, 28, 29, 30, 31, 32, 33, 34, 35, 36, 37, 38, 39, 40, 41, 42, 43, 44, 45, 46, 47, 48, 49, 50, 51, 52, 53, 54, 55, 56, 57, 58, 59, 60, 61, 62, 63, 64, 65, 66, 67, 68] (by decide +kernel) (by decide +kernel)
set_option maxRecDepth 20000 in
theorem gX9_ifInserted_X9_byInserting : GoodIn wsX9_ifInserted (wsV RX9 185 RX9 yX9_byInserting wsX9_byInserting) := goodIn_app (goodIn_of _ (by decide +kernel)) ggX9_ifInserted_X9_byInserting
set_option maxRecDepth 20000 in
theorem ggX9_byDropping_X9_copies : GoodIn wsX9_byDropping wsX9_copies := goodIn_r _ [6] (by decide +kernel) (by decide +kernel)
set_option maxRecDepth 20000 in
theorem gX9_byDropping_X9_copies : GoodIn wsX9_byDropping (va_wsS RX9 36 yX9_copies wsX9_copies) := goodIn_app (goodIn_of _ (by decide +kernel)) ggX9_byDropping_X9_copies
set_option maxRecDepth 20000 in
theorem ggX9_byDropping_X9_goesOut : GoodIn wsX9_byDropping wsX9_goesOut := goodIn_r _ [9] (by decide +kernel) (by decide +kernel)
set_option maxRecDepth 20000 in
theorem gX9_byDropping_X9_goesOut : GoodIn wsX9_byDropping (va_wsS RX9 79 yX9_goesOut wsX9_goesOut) := goodIn_app (goodIn_of _ (by decide +kernel)) ggX9_byDropping_X9_goesOut
set_option maxRecDepth 20000 in
theorem ggX9_byDropping_X9_allLost : GoodIn wsX9_byDropping wsX9_allLost := goodIn_r _ [12, 13, 14, 5, 15, 16, 17, 18, 19, 20, 21, 22, 23, 24, 25, 26, 27, 28, 29, 30, 31, 32, 33] (by decide +kernel) (by decide +kernel)
set_option maxRecDepth 20000 in
theorem gX9_byDropping_X9_allLost : GoodIn wsX9_byDropping (va_wsS RX9 104 yX9_allLost wsX9_allLost) := goodIn_app (goodIn_of _ (by decide +kernel)) ggX9_byDropping_X9_allLost
set_option maxRecDepth 20000 in
theorem ggX9_byDropping_X9_stale : GoodIn wsX9_byDropping wsX9_stale := goodIn_r _ [36, 37, 38, 5, 39, 16, 17, 18, 22, 23, 24, 25, 26, 27, 28, 29, 30, 19, 20, 21, 31, 32, 33] (by decide +kernel) (by decide +kernel)
set_option maxRecDepth 20000 in
theorem gX9_byDropping_X9_stale : GoodIn wsX9_byDropping (va_wsS RX9 176 yX9_stale wsX9_stale) := goodIn_app (goodIn_of _ (by decide +kernel)) ggX9_byDropping_X9_stale
set_option maxRecDepth 20000 in
theorem ggX9_ifDropped_X9_isPlace : GoodIn wsX9_ifDropped wsX9_isPlace := goodIn_r _ [6, 7, 8, 9, 5, 10, 56, 57, 58, 59, 60, 61, 62, 63, 64, 65, 66] (by decide +kernel) (by decide +kernel)
set_option maxRecDepth 20000 in
theorem gX9_ifDropped_X9_isPlace : GoodIn wsX9_ifDropped (wsV RX9 98 RX9 yX9_isPlace wsX9_isPlace) := goodIn_app (goodIn_of _ (by decide +kernel)) ggX9_ifDropped_X9_isPlace
set_option maxRecDepth 20000 in
theorem ggX9_ifDropped_X9_fails : GoodIn wsX9_ifDropped wsX9_fails := goodIn_r _ [14, 1, 56, 57, 58, 59, 60, 61, 62, 63, 64, 65, 66] (by decide +kernel) (by decide +kernel)
set_option maxRecDepth 20000 in
theorem gX9_ifDropped_X9_fails : GoodIn wsX9_ifDropped (wsV RX9 40 RX9 yX9_fails wsX9_fails) := goodIn_app (goodIn_of _ (by decide +kernel)) ggX9_ifDropped_X9_fails
set_option maxRecDepth 20000 in
theorem ggX9_ifDropped_X9_in : GoodIn wsX9_ifDropped wsX9_in := goodIn_r _ [10] (by decide +kernel) (by decide +kernel)
set_option maxRecDepth 20000 in
theorem gX9_ifDropped_X9_in : GoodIn wsX9_ifDropped (va_wsS RX9 29 yX9_in wsX9_in) := goodIn_app (goodIn_of _ (by decide +kernel)) ggX9_ifDropped_X9_in
set_option maxRecDepth 20000 in
theorem ggX9_ifDropped_X9_byDropping : GoodIn wsX9_ifDropped wsX9_byDropping := goodIn_r _ [18, 7, 19, 20, 21, 5, 22, 23, 24, 25, 26, 27, 28, 29, 30, 31, 32, 33, 34, 35, 36, 37, 38, 39, 40, 41, 42, 43, 44, 45, 46, 47, 48, 49, 50, 51, 52, 53, 54, 55, 56, 57, 58, 59, 60, 61, 62, 63, 64, 65, 66] (by decide +kernel) (by decide +kernel)
set_option maxRecDepth 20000 in
theorem gX9_ifDropped_X9_byDropping : GoodIn wsX9_ifDropped (wsV RX9 188 RX9 yX9_byDropping wsX9_byDropping) := goodIn_app (goodIn_of _ (by decide +kernel)) ggX9_ifDropped_X9_byDropping
set_option maxRecDepth 20000 in
theorem ggX9_best_X9_copies : GoodIn wsX9_best wsX9_copies := goodIn_r _ [6] (by decide +kernel) (by decide +kernel)
set_option maxRecDepth 20000 in
theorem gX9_best_X9_copies : GoodIn wsX9_best (va_wsS RX9 36 yX9_copies wsX9_copies) := goodIn_app (goodIn_of _ (by decide +kernel)) ggX9_best_X9_copies
set_option maxRecDepth 20000 in
theorem ggX9_best_X9_moves : GoodIn wsX9_best wsX9_moves := goodIn_r _ [9, 10, 11, 5, 12, 13, 14, 15, 16, 17, 18, 19, 20, 21] (by decide +kernel) (by decide +kernel)
set_option maxRecDepth 20000 in
theorem gX9_best_X9_moves : GoodIn wsX9_best (va_wsS RX9 101 yX9_moves wsX9_moves) := goodIn_app (goodIn_of _ (by decide +kernel)) ggX9_best_X9_moves
set_option maxRecDepth 20000 in
theorem ggX9_best_X9_stale : GoodIn wsX9_best wsX9_stale := goodIn_r _ [24, 25, 26, 5, 27, 28, 29, 30, 31, 32, 33, 34, 35, 36, 37, 38, 39, 40, 41, 42, 13, 14, 15] (by decide +kernel) (by decide +kernel)
set_option maxRecDepth 20000 in
theorem gX9_best_X9_stale : GoodIn wsX9_best (va_wsS RX9 176 yX9_stale wsX9_stale) := goodIn_app (goodIn_of _ (by decide +kernel)) ggX9_best_X9_stale
set_option maxRecDepth 20000 in
theorem ggX9_best_X9_binders : GoodIn wsX9_best wsX9_binders := goodIn_r _ [45, 46, 47, 5, 48, 13, 14, 15] (by decide +kernel) (by decide +kernel)
set_option maxRecDepth 20000 in
theorem gX9_best_X9_binders : GoodIn wsX9_best (va_wsS RX9 170 yX9_binders wsX9_binders) := goodIn_app (goodIn_of _ (by decide +kernel)) ggX9_best_X9_binders
set_option maxRecDepth 20000 in
theorem ggX9_bestMove_X9_isPlace : GoodIn wsX9_bestMove wsX9_isPlace := goodIn_r _ [6, 7, 8, 9, 5, 10, 65, 66, 67, 68, 69, 70, 71, 72, 73, 74, 75] (by decide +kernel) (by decide +kernel)
set_option maxRecDepth 20000 in
theorem gX9_bestMove_X9_isPlace : GoodIn wsX9_bestMove (wsV RX9 98 RX9 yX9_isPlace wsX9_isPlace) := goodIn_app (goodIn_of _ (by decide +kernel)) ggX9_bestMove_X9_isPlace
set_option maxRecDepth 20000 in
theorem ggX9_bestMove_X9_best : GoodIn wsX9_bestMove wsX9_best := goodIn_r _ [14, 7, 15, 16, 17, 5, 18, 19, 20, 21, 22, 23, 24, 25, 26, 27, 28, 29, 30, 31, 32, 33, 34, 35, 36, 37, 38, 39, 40, 41, 42, 43, 44, 45, 46, 47, 48, 49, 50, 51, 52, 53, 54, 55, 56, 57, 58, 59, 60, 65, 66, 67, 68, 69, 70, 71, 72, 73, 74, 75] (by decide +kernel) (by decide +kernel)
set_option maxRecDepth 20000 in
theorem gX9_bestMove_X9_best : GoodIn wsX9_bestMove (wsV RX9 191 RX9 yX9_best wsX9_best) := goodIn_app (goodIn_of _ (by decide +kernel)) ggX9_bestMove_X9_best
set_option maxRecDepth 20000 in
theorem ggX9_bestMove_X9_fails : GoodIn wsX9_bestMove wsX9_fails := goodIn_r _ [64, 1, 65, 66, 67, 68, 69, 70, 71, 72, 73, 74, 75] (by decide +kernel) (by decide +kernel)
set_option maxRecDepth 20000 in
theorem gX9_bestMove_X9_fails : GoodIn wsX9_bestMove (wsV RX9 40 RX9 yX9_fails wsX9_fails) := goodIn_app (goodIn_of _ (by decide +kernel)) ggX9_bestMove_X9_fails
set_option maxRecDepth 20000 in
theorem ggX9_least_X9_copies : GoodIn wsX9_least wsX9_copies := goodIn_r _ [6] (by decide +kernel) (by decide +kernel)
set_option maxRecDepth 20000 in
theorem gX9_least_X9_copies : GoodIn wsX9_least (va_wsS RX9 36 yX9_copies wsX9_copies) := goodIn_app (goodIn_of _ (by decide +kernel)) ggX9_least_X9_copies
set_option maxRecDepth 20000 in
theorem ggX9_least_X9_binders : GoodIn wsX9_least wsX9_binders := goodIn_r _ [9, 10, 11, 5, 12, 13, 14, 15] (by decide +kernel) (by decide +kernel)
set_option maxRecDepth 20000 in
theorem gX9_least_X9_binders : GoodIn wsX9_least (va_wsS RX9 170 yX9_binders wsX9_binders) := goodIn_app (goodIn_of _ (by decide +kernel)) ggX9_least_X9_binders
set_option maxRecDepth 20000 in
theorem ggX9_leastPages_X9_in : GoodIn wsX9_leastPages wsX9_in := goodIn_r _ [5] (by decide +kernel) (by decide +kernel)
set_option maxRecDepth 20000 in
theorem gX9_leastPages_X9_in : GoodIn wsX9_leastPages (va_wsS RX9 29 yX9_in wsX9_in) := goodIn_app (goodIn_of _ (by decide +kernel)) ggX9_leastPages_X9_in
set_option maxRecDepth 20000 in
theorem ggX9_leastPages_X9_least : GoodIn wsX9_leastPages wsX9_least := goodIn_r _ [9, 10, 11, 12, 13, 4, 14, 15, 16, 17, 18, 19, 20, 21, 22, 23, 28, 29, 30, 31, 32, 33, 34, 35, 36, 37, 38] (by decide +kernel) (by decide +kernel)
set_option maxRecDepth 20000 in
theorem gX9_leastPages_X9_least : GoodIn wsX9_leastPages (wsV RX9 194 RX9 yX9_least wsX9_least) := goodIn_app (goodIn_of _ (by decide +kernel)) ggX9_leastPages_X9_least
set_option maxRecDepth 20000 in
theorem ggX9_leastPages_X9_fails : GoodIn wsX9_leastPages wsX9_fails := goodIn_r _ [27, 1, 28, 29, 30, 31, 32, 33, 34, 35, 36, 37, 38] (by decide +kernel) (by decide +kernel)
set_option maxRecDepth 20000 in
theorem gX9_leastPages_X9_fails : GoodIn wsX9_leastPages (wsV RX9 40 RX9 yX9_fails wsX9_fails) := goodIn_app (goodIn_of _ (by decide +kernel)) ggX9_leastPages_X9_fails
set_option maxRecDepth 20000 in
theorem ggX9_share_X9_uncited : GoodIn wsX9_share wsX9_uncited := goodIn_r _ [6, 1, 7, 8, 5, 9, 10, 11, 12, 13, 14, 15, 16, 17, 18, 19, 20, 21, 22, 23, 24, 25, 26, 27, 28, 29, 30, 31, 32, 33, 34, 35, 36, 37, 38] (by decide +kernel) (by decide +kernel)
set_option maxRecDepth 20000 in
theorem gX9_share_X9_uncited : GoodIn wsX9_share (wsV RX9 179 RX9 yX9_uncited wsX9_uncited) := goodIn_app (goodIn_of _ (by decide +kernel)) ggX9_share_X9_uncited
set_option maxRecDepth 20000 in
theorem ggX9_citedShare_X9_share : GoodIn wsX9_citedShare wsX9_share := goodIn_r _ [6, 7, 8, 9, 10, 5, 11, 12, 13, 14, 15, 16, 17, 18, 19, 20, 21, 22, 23, 24, 25, 26, 27, 28, 29, 30, 31, 32, 33, 34, 35, 36, 37, 38, 39, 40, 41, 42, 43] (by decide +kernel) (by decide +kernel)
set_option maxRecDepth 20000 in
theorem gX9_citedShare_X9_share : GoodIn wsX9_citedShare (wsV RX9 197 RX9 yX9_share wsX9_share) := goodIn_app (goodIn_of _ (by decide +kernel)) ggX9_citedShare_X9_share
set_option maxRecDepth 20000 in
theorem ggX9_digest_X9_counted : GoodIn wsX9_digest wsX9_counted := goodIn_r _ [11, 4, 12, 13, 14, 15, 10, 16, 17, 18, 19, 20, 21, 22, 23, 24, 25, 26, 27, 28, 29, 30, 31, 32, 33, 34, 35, 36, 37, 38, 39, 40, 41, 42, 43, 44, 45, 46, 47, 48, 49, 50, 51, 52, 53, 54, 55, 56, 57, 58, 59, 60, 61, 62, 63, 131, 132, 133, 134, 135, 136, 137, 138, 139, 140, 141] (by decide +kernel) (by decide +kernel)
set_option maxRecDepth 20000 in
theorem gX9_digest_X9_counted : GoodIn wsX9_digest (wsV RX9 182 RX9 yX9_counted wsX9_counted) := goodIn_app (goodIn_of _ (by decide +kernel)) ggX9_digest_X9_counted
set_option maxRecDepth 20000 in
theorem ggX9_digest_X9_ofExhibit : GoodIn wsX9_digest wsX9_ofExhibit := goodIn_r _ [67, 4, 68, 69, 10, 70, 17, 18, 19, 23, 24, 25, 61, 62, 63, 30, 31, 32, 42, 43, 44, 45, 46, 47, 48, 49, 50, 39, 40, 41, 131, 132, 133, 134, 135, 136, 137, 138, 139, 140, 141] (by decide +kernel) (by decide +kernel)
set_option maxRecDepth 20000 in
theorem gX9_digest_X9_ofExhibit : GoodIn wsX9_digest (wsV RX9 153 RX9 yX9_ofExhibit wsX9_ofExhibit) := goodIn_app (goodIn_of _ (by decide +kernel)) ggX9_digest_X9_ofExhibit
set_option maxRecDepth 20000 in
theorem ggX9_digest_X9_row : GoodIn wsX9_digest wsX9_row := goodIn_r _ [74, 4, 30, 31, 10, 32, 42, 43, 44, 45, 46, 47, 48, 49, 50, 39, 40, 41, 17, 18, 19, 131, 132, 133, 134, 135, 136, 137, 138, 139, 140, 141] (by decide +kernel) (by decide +kernel)
set_option maxRecDepth 20000 in
theorem gX9_digest_X9_row : GoodIn wsX9_digest (wsV RX9 163 RX9 yX9_row wsX9_row) := goodIn_app (goodIn_of _ (by decide +kernel)) ggX9_digest_X9_row
set_option maxRecDepth 20000 in
theorem ggX9_digest_X9_byDropping : GoodIn wsX9_digest wsX9_byDropping := goodIn_r _ [78, 4, 79, 80, 81, 10, 82, 83, 84, 85, 33, 34, 35, 36, 37, 38, 30, 31, 32, 39, 40, 41, 42, 43, 44, 45, 46, 47, 48, 49, 50, 17, 18, 19, 51, 52, 53, 54, 55, 56, 131, 132, 133, 134, 135, 136, 137, 138, 139, 140, 141] (by decide +kernel) (by decide +kernel)
set_option maxRecDepth 20000 in
theorem gX9_digest_X9_byDropping : GoodIn wsX9_digest (wsV RX9 188 RX9 yX9_byDropping wsX9_byDropping) := goodIn_app (goodIn_of _ (by decide +kernel)) ggX9_digest_X9_byDropping
set_option maxRecDepth 20000 in
theorem ggX9_digest_X9_best : GoodIn wsX9_digest wsX9_best := goodIn_r _ [89, 4, 79, 80, 81, 10, 82, 90, 91, 92, 68, 69, 70, 17, 18, 19, 83, 84, 85, 93, 94, 95, 51, 52, 53, 54, 55, 56, 30, 31, 32, 42, 43, 44, 45, 46, 47, 48, 49, 50, 39, 40, 41, 20, 21, 22, 23, 24, 25, 131, 132, 133, 134, 135, 136, 137, 138, 139, 140, 141] (by decide +kernel) (by decide +kernel)
set_option maxRecDepth 20000 in
theorem gX9_digest_X9_best : GoodIn wsX9_digest (wsV RX9 191 RX9 yX9_best wsX9_best) := goodIn_app (goodIn_of _ (by decide +kernel)) ggX9_digest_X9_best
set_option maxRecDepth 20000 in
theorem ggX9_digest_X9_ofParagraph : GoodIn wsX9_digest wsX9_ofParagraph := goodIn_r _ [99, 4, 30, 31, 10, 32, 36, 37, 38, 39, 40, 41, 42, 43, 44, 45, 46, 47, 48, 49, 50, 17, 18, 19, 54, 55, 56, 131, 132, 133, 134, 135, 136, 137, 138, 139, 140, 141] (by decide +kernel) (by decide +kernel)
set_option maxRecDepth 20000 in
theorem gX9_digest_X9_ofParagraph : GoodIn wsX9_digest (wsV RX9 160 RX9 yX9_ofParagraph wsX9_ofParagraph) := goodIn_app (goodIn_of _ (by decide +kernel)) ggX9_digest_X9_ofParagraph
set_option maxRecDepth 20000 in
theorem ggX9_digest_X9_cites : GoodIn wsX9_digest wsX9_cites := goodIn_r _ [32] (by decide +kernel) (by decide +kernel)
set_option maxRecDepth 20000 in
theorem gX9_digest_X9_cites : GoodIn wsX9_digest (va_wsS RX9 59 yX9_cites wsX9_cites) := goodIn_app (goodIn_of _ (by decide +kernel)) ggX9_digest_X9_cites
set_option maxRecDepth 20000 in
theorem ggX9_digest_X9_ofCitation : GoodIn wsX9_digest wsX9_ofCitation := goodIn_r _ [103, 4, 45, 46, 10, 47, 42, 43, 44, 48, 49, 50, 39, 40, 41, 17, 18, 19, 23, 24, 25, 131, 132, 133, 134, 135, 136, 137, 138, 139, 140, 141] (by decide +kernel) (by decide +kernel)
set_option maxRecDepth 20000 in
theorem gX9_digest_X9_ofCitation : GoodIn wsX9_digest (wsV RX9 156 RX9 yX9_ofCitation wsX9_ofCitation) := goodIn_app (goodIn_of _ (by decide +kernel)) ggX9_digest_X9_ofCitation
set_option maxRecDepth 20000 in
theorem ggX9_digest_X9_byInserting : GoodIn wsX9_digest wsX9_byInserting := goodIn_r _ [107, 4, 79, 80, 81, 10, 82, 108, 109, 110, 93, 94, 95, 51, 52, 53, 54, 55, 56, 30, 31, 32, 42, 43, 44, 45, 46, 47, 48, 49, 50, 39, 40, 41, 17, 18, 19, 20, 21, 22, 23, 24, 25, 131, 132, 133, 134, 135, 136, 137, 138, 139, 140, 141] (by decide +kernel) (by decide +kernel)
set_option maxRecDepth 20000 in
theorem gX9_digest_X9_byInserting : GoodIn wsX9_digest (wsV RX9 185 RX9 yX9_byInserting wsX9_byInserting) := goodIn_app (goodIn_of _ (by decide +kernel)) ggX9_digest_X9_byInserting
set_option maxRecDepth 20000 in
theorem ggX9_digest_X9_least : GoodIn wsX9_digest wsX9_least := goodIn_r _ [114, 4, 79, 80, 81, 10, 82, 20, 21, 22, 23, 24, 25, 17, 18, 19, 131, 132, 133, 134, 135, 136, 137, 138, 139, 140, 141] (by decide +kernel) (by decide +kernel)
set_option maxRecDepth 20000 in
theorem gX9_digest_X9_least : GoodIn wsX9_digest (wsV RX9 194 RX9 yX9_least wsX9_least) := goodIn_app (goodIn_of _ (by decide +kernel)) ggX9_digest_X9_least
set_option maxRecDepth 20000 in
theorem ggX9_digest_X9_share : GoodIn wsX9_digest wsX9_share := goodIn_r _ [118, 4, 57, 58, 59, 10, 60, 61, 62, 63, 30, 31, 32, 42, 43, 44, 45, 46, 47, 48, 49, 50, 39, 40, 41, 17, 18, 19, 131, 132, 133, 134, 135, 136, 137, 138, 139, 140, 141] (by decide +kernel) (by decide +kernel)
set_option maxRecDepth 20000 in
theorem gX9_digest_X9_share : GoodIn wsX9_digest (wsV RX9 197 RX9 yX9_share wsX9_share) := goodIn_app (goodIn_of _ (by decide +kernel)) ggX9_digest_X9_share
set_option maxRecDepth 20000 in
theorem ggX9_digest_Jxe99ae_doubleToLongBits_ccdee : GoodIn wsX9_digest wsJxe99ae_doubleToLongBits_ccdee := goodIn_r _ [122, 123, 124, 125, 126, 127, 128, 129, 121, 130] (by decide +kernel) (by decide +kernel)
set_option maxRecDepth 20000 in
theorem gX9_digest_Jxe99ae_doubleToLongBits_ccdee : GoodIn wsX9_digest (va_wsS RX9 205 yJxe99ae_doubleToLongBits_ccdee wsJxe99ae_doubleToLongBits_ccdee) := goodIn_app (goodIn_of _ (by decide +kernel)) ggX9_digest_Jxe99ae_doubleToLongBits_ccdee
set_option maxRecDepth 20000 in
theorem ggL_insert_X8_insert : GoodIn wsL_insert wsX8_insert := goodIn_ca (goodIn_ca (goodIn_ca (goodIn_r _ [8, 9, 10, 11, 12, 13, 14, 15, 7, 16, 17, 18, 19, 20, 21, 22, 23, 24, 25, 26, 27, 28, 29, 30, 31, 32, 33, 34, 35, 36, 37, 38, 39, 40, 41, 42, 43, 44, 45, 46, 47, 48, 49, 50, 51, 52, 53, 54, 55, 56, 57, 58, 59, 60, 61, 62, 63, 64, 65, 66, 67, 68, 69, 70, 71, 72, 73, 74, 75, 76, 77, 78, 79, 80, 81, 82, 83, 84, 85, 86, 87, 88, 89, 90, 91, 92, 93, 94, 95, 96, 97, 98, 99, 100, 101, 102, 103, 104, 105, 106, 107, 108, 109, 110, 111, 112, 113, 114, 115, 116, 117, 118, 119, 120, 121, 122, 123, 124, 125, 126, 127, 128, 129, 130, 131, 132, 133, 134, 135, 136, 137, 138, 139, 140, 141, 142, 143, 144, 145, 146] (by decide +kernel) (by decide +kernel)) (goodIn_sub (fun _ h => List.mem_cons_of_mem _ (List.mem_append_left _ (List.mem_append_left _ (List.mem_append_right _ h)))) (by decide +kernel))) (goodIn_sub (fun _ h => List.mem_cons_of_mem _ (List.mem_append_left _ (List.mem_append_right _ h))) (by decide +kernel))) (goodIn_sub (fun _ h => List.mem_cons_of_mem _ (List.mem_append_right _ h)) (by decide +kernel))
set_option maxRecDepth 20000 in
theorem gL_insert_X8_insert : GoodIn wsL_insert (wsV RL 7 RX8 yX8_insert wsX8_insert) := goodIn_app (goodIn_of _ (by decide +kernel)) ggL_insert_X8_insert
set_option maxRecDepth 20000 in
theorem ggL_move_X8_move : GoodIn wsL_move wsX8_move := goodIn_ca (goodIn_r _ [6, 7, 8, 9, 10, 11, 12, 13, 14, 15, 5, 16, 17, 18, 19, 20, 21, 22, 23, 24, 25, 26, 27, 28, 29, 30, 31, 32, 33, 34, 35, 36, 37, 38, 39, 40, 41, 42, 43, 44, 45, 46, 47, 48, 49, 50, 51, 52, 53, 54, 55, 56, 57, 58, 59, 60, 61, 62, 63, 64, 65, 66, 67, 68, 69, 70, 71, 72, 73, 74, 75, 76, 77, 78, 79, 80, 81, 82, 83, 84, 85, 86, 87, 88, 89, 90, 91, 92, 93, 94, 95, 96, 97, 98, 99, 100, 101, 102, 103, 104, 105, 106, 107, 108, 109, 110, 111, 112, 113, 114, 115, 116, 117, 118, 119, 120, 121, 122, 123, 124, 125, 126, 127, 128, 129, 130, 131, 132, 133, 134, 135] (by decide +kernel) (by decide +kernel)) (goodIn_sub (fun _ h => List.mem_cons_of_mem _ (List.mem_append_right _ h)) (by decide +kernel))
set_option maxRecDepth 20000 in
theorem gL_move_X8_move : GoodIn wsL_move (wsV RL 19 RX8 yX8_move wsX8_move) := goodIn_app (goodIn_of _ (by decide +kernel)) ggL_move_X8_move
set_option maxRecDepth 20000 in
theorem ggL_drop_X8_drop : GoodIn wsL_drop wsX8_drop := goodIn_ca (goodIn_r _ [6, 7, 8, 9, 10, 11, 12, 13, 5, 14, 15, 16, 17, 18, 19, 20, 21, 22, 23, 24, 25, 26, 27, 28, 29, 30, 31, 32, 33, 34, 35, 36, 37, 38, 39, 40, 41, 42, 43, 44, 45, 46, 47, 48, 49, 50, 51, 52, 53, 54, 55, 56, 57, 58, 59, 60, 61, 62, 63, 64, 65, 66, 67, 68, 69, 70, 71, 72, 73, 74, 75, 76, 77, 78, 79, 80, 81, 82, 83, 84, 85, 86, 87, 88, 89, 90, 91, 92, 93, 94, 95, 96, 97, 98, 99, 100, 101, 102, 103, 104, 105, 106, 107, 108, 109, 110, 111, 112, 113, 114, 115, 116, 117, 118, 119, 120, 121, 122, 123, 124, 125, 126, 127, 128, 129, 130, 131, 132, 133, 134, 135, 136, 137, 138, 139, 140, 141, 142] (by decide +kernel) (by decide +kernel)) (goodIn_sub (fun _ h => List.mem_cons_of_mem _ (List.mem_append_right _ h)) (by decide +kernel))
set_option maxRecDepth 20000 in
theorem gL_drop_X8_drop : GoodIn wsL_drop (wsV RL 22 RX8 yX8_drop wsX8_drop) := goodIn_app (goodIn_of _ (by decide +kernel)) ggL_drop_X8_drop
set_option maxRecDepth 20000 in
theorem ggL_pages_X8_pages : GoodIn wsL_pages wsX8_pages := goodIn_ca (goodIn_ca (goodIn_r _ [7, 8, 9, 10, 11, 12, 13, 14, 15, 6, 16, 17, 18, 19, 20, 21, 22, 23, 24, 25, 26, 27, 28, 29, 30, 31, 32, 33, 34, 35, 36, 37, 38, 39, 40, 41, 42, 43, 44, 45, 46, 47, 48, 49, 50, 51, 52, 53, 54, 55, 56, 57, 58, 59, 60, 61, 62, 63, 64, 65, 66, 67, 68, 69, 70, 71, 72, 73, 74, 75, 76, 77, 78, 79, 80, 81, 82, 83, 84, 85, 86, 87, 88, 89, 90, 91, 92, 93, 94, 95, 96, 97, 98, 99, 100, 101, 102, 103, 104, 105, 106, 107, 108, 109, 110, 111, 112, 113, 114, 115, 116, 117, 118, 119, 120, 121, 122, 123, 124, 125, 126, 127, 128, 129, 130, 131, 132] (by decide +kernel) (by decide +kernel)) (goodIn_sub (fun _ h => List.mem_cons_of_mem _ (List.mem_append_left _ (List.mem_append_right _ h))) (by decide +kernel))) (goodIn_sub (fun _ h => List.mem_cons_of_mem _ (List.mem_append_right _ h)) (by decide +kernel))
set_option maxRecDepth 20000 in
theorem gL_pages_X8_pages : GoodIn wsL_pages (wsV RL 26 RX8 yX8_pages wsX8_pages) := goodIn_app (goodIn_of _ (by decide +kernel)) ggL_pages_X8_pages
set_option maxRecDepth 20000 in
theorem ggL_join_X8_join : GoodIn wsL_join wsX8_join := goodIn_ca (goodIn_ca (goodIn_r _ [7, 8, 9, 10, 11, 12, 13, 14, 15, 16, 17, 18, 19, 20, 21, 22, 6, 23, 24, 25, 26, 27, 28, 29, 30, 31, 32, 33, 34, 35, 36, 37, 38, 39, 40, 41, 42, 43, 44, 45, 46, 47, 48, 49, 50, 51, 52, 53, 54, 55, 56, 57, 58, 59, 60, 61, 62, 63, 64, 65, 66, 67, 68, 69, 70, 71, 72, 73, 74, 75, 76, 77, 78, 79, 80, 81, 82, 83, 84, 85, 86, 87, 88, 89, 90, 91, 92, 93, 94, 95, 96, 97, 98, 99, 100, 101, 102, 103, 104, 105, 106, 107, 108, 109, 110, 111, 112, 113, 114, 115, 116, 117, 118, 119, 120, 121, 122, 123, 124, 125, 126, 127, 128, 129, 130, 131, 132, 133, 134, 135, 136, 137, 138, 139] (by decide +kernel) (by decide +kernel)) (goodIn_sub (fun _ h => List.mem_cons_of_mem _ (List.mem_append_left _ (List.mem_append_right _ h))) (by decide +kernel))) (goodIn_sub (fun _ h => List.mem_cons_of_mem _ (List.mem_append_right _ h)) (by decide +kernel))
set_option maxRecDepth 20000 in
theorem gL_join_X8_join : GoodIn wsL_join (wsV RL 29 RX8 yX8_join wsX8_join) := goodIn_app (goodIn_of _ (by decide +kernel)) ggL_join_X8_join
set_option maxRecDepth 20000 in
theorem ggL_split_X8_split : GoodIn wsL_split wsX8_split := goodIn_ca (goodIn_ca (goodIn_ca (goodIn_r _ [8, 9, 10, 11, 12, 13, 14, 15, 16, 17, 18, 19, 20, 7, 21, 22, 23, 24, 25, 26, 27, 28, 29, 30, 31, 32, 33, 34, 35, 36, 37, 38, 39, 40, 41, 42, 43, 44, 45, 46, 47, 48, 49, 50, 51, 52, 53, 54, 55, 56, 57, 58, 59, 60, 61, 62, 63, 64, 65, 66, 67, 68, 69, 70, 71, 72, 73, 74, 75, 76, 77, 78, 79, 80, 81, 82, 83, 84, 85, 86, 87, 88, 89, 90, 91, 92, 93, 94, 95, 96, 97, 98, 99, 100, 101, 102, 103, 104, 105, 106, 107, 108, 109, 110, 111, 112, 113, 114, 115, 116, 117, 118, 119, 120, 121, 122, 123, 124, 125, 126, 127, 128, 129, 130, 131, 132, 133, 134, 135, 136, 137, 138, 139, 140, 141, 142, 143, 144, 145, 146, 147, 148, 149, 150] (by decide +kernel) (by decide +kernel)) (goodIn_sub (fun _ h => List.mem_cons_of_mem _ (List.mem_append_left _ (List.mem_append_left _ (List.mem_append_right _ h)))) (by decide +kernel))) (goodIn_sub (fun _ h => List.mem_cons_of_mem _ (List.mem_append_left _ (List.mem_append_right _ h))) (by decide +kernel))) (goodIn_sub (fun _ h => List.mem_cons_of_mem _ (List.mem_append_right _ h)) (by decide +kernel))
set_option maxRecDepth 20000 in
theorem gL_split_X8_split : GoodIn wsL_split (wsV RL 32 RX8 yX8_split wsX8_split) := goodIn_app (goodIn_of _ (by decide +kernel)) ggL_split_X8_split
set_option maxRecDepth 20000 in
theorem ggL_cite_X8_cite : GoodIn wsL_cite wsX8_cite := goodIn_ca (goodIn_ca (goodIn_ca (goodIn_r _ [8, 9, 10, 11, 12, 13, 14, 15, 16, 17, 18, 19, 7, 20, 21, 22, 23, 24, 25, 26, 27, 28, 29, 30, 31, 32, 33, 34, 35, 36, 37, 38, 39, 40, 41, 42, 43, 44, 45, 46, 47, 48, 49, 50, 51, 52, 53, 54, 55, 56, 57, 58, 59, 60, 61, 62, 63, 64, 65, 66, 67, 68, 69, 70, 71, 72, 73, 74, 75, 76, 77, 78, 79, 80, 81, 82, 83, 84, 85, 86, 87, 88, 89, 90, 91, 92, 93, 94, 95, 96, 97, 98, 99, 100, 101, 102, 103, 104, 105, 106, 107, 108, 109, 110, 111, 112, 113, 114, 115, 116, 117, 118, 119, 120, 121, 122, 123, 124, 125, 126, 127, 128, 129, 130, 131, 132, 133, 134, 135, 136, 137, 138, 139, 140, 141, 142, 143, 144] (by decide +kernel) (by decide +kernel)) (goodIn_sub (fun _ h => List.mem_cons_of_mem _ (List.mem_append_left _ (List.mem_append_left _ (List.mem_append_right _ h)))) (by decide +kernel))) (goodIn_sub (fun _ h => List.mem_cons_of_mem _ (List.mem_append_left _ (List.mem_append_right _ h))) (by decide +kernel))) (goodIn_sub (fun _ h => List.mem_cons_of_mem _ (List.mem_append_right _ h)) (by decide +kernel))
set_option maxRecDepth 20000 in
theorem gL_cite_X8_cite : GoodIn wsL_cite (wsV RL 35 RX8 yX8_cite wsX8_cite) := goodIn_app (goodIn_of _ (by decide +kernel)) ggL_cite_X8_cite
set_option maxRecDepth 20000 in
theorem ggL_clean_X8_clean : GoodIn wsL_clean wsX8_clean := goodIn_ca (goodIn_r _ [6, 7, 8, 9, 10, 11, 12, 13, 5, 14, 15, 16, 17, 18, 19, 20, 21, 22, 23, 24, 25, 26, 27, 28, 29, 30, 31, 32, 33, 34, 35, 36, 37, 38, 39, 40, 41, 42, 43, 44, 45, 46, 47, 48, 49, 50, 51, 52, 53, 54, 55, 56, 57, 58, 59, 60, 61, 62, 63, 64, 65, 66, 67, 68, 69, 70, 71, 72, 73, 74, 75, 76, 77, 78, 79, 80, 81, 82, 83, 84, 85, 86, 87, 88, 89, 90, 91, 92, 93, 94, 95, 96, 97, 98, 99, 100, 101, 102, 103, 104, 105, 106, 107, 108, 109, 110, 111, 112, 113, 114, 115, 116, 117, 118, 119, 120, 121, 122, 123, 124, 125, 126, 127, 128, 129, 130, 131, 132] (by decide +kernel) (by decide +kernel)) (goodIn_sub (fun _ h => List.mem_cons_of_mem _ (List.mem_append_right _ h)) (by decide +kernel))
set_option maxRecDepth 20000 in
theorem gL_clean_X8_clean : GoodIn wsL_clean (wsV RL 39 RX8 yX8_clean wsX8_clean) := goodIn_app (goodIn_of _ (by decide +kernel)) ggL_clean_X8_clean
set_option maxRecDepth 20000 in
theorem ggL_print_X8_print : GoodIn wsL_print wsX8_print := goodIn_ca (goodIn_r _ [6, 7, 8, 9, 10, 11, 12, 13, 14, 15, 16, 17, 18, 19, 20, 5, 21, 22, 23, 24, 25, 26, 27, 28, 29, 30, 31, 32, 33, 34, 35, 36, 37, 38, 39, 40, 41, 42, 43, 44, 45, 46, 47, 48, 49, 50, 51, 52, 53, 54, 55, 56, 57, 58, 59, 60, 61, 62, 63, 64, 65, 66, 67, 68, 69, 70, 71, 72, 73, 74, 75, 76, 77, 78, 79, 80, 81, 82, 83, 84, 85, 86, 87, 88, 89, 90, 91, 92, 93, 94, 95, 96, 97, 98, 99, 100, 101, 102, 103, 104, 105, 106, 107, 108] (by decide +kernel) (by decide +kernel)) (goodIn_sub (fun _ h => List.mem_cons_of_mem _ (List.mem_append_right _ h)) (by decide +kernel))
set_option maxRecDepth 20000 in
theorem gL_print_X8_print : GoodIn wsL_print (wsV RL 42 RX8 yX8_print wsX8_print) := goodIn_app (goodIn_of _ (by decide +kernel)) ggL_print_X8_print
set_option maxRecDepth 20000 in
theorem ggL_set_X8_set : GoodIn wsL_set wsX8_set := goodIn_ca (goodIn_r _ [6, 7, 8, 9, 10, 11, 12, 13, 14, 15, 16, 17, 18, 19, 20, 21, 22, 23, 24, 25, 26, 27, 28, 29, 30, 31, 32, 33, 34, 35, 36, 37, 38, 39, 40, 41, 42, 43, 44, 45, 46, 47, 48, 49, 50, 51, 52, 53, 54, 55, 56, 57, 58, 59, 60, 61, 62, 63, 64, 65, 66, 67, 68, 69, 70, 71, 72, 73, 74, 75, 76, 77, 78, 79, 80, 81, 82, 83, 84, 85, 86, 87, 88, 5, 89, 90, 91, 92, 93, 94, 95, 96, 97, 98, 99, 100, 101, 102, 103, 104, 105, 106, 107, 108, 109, 110, 111, 112, 113, 114, 115, 116, 117, 118, 119, 120, 121] (by decide +kernel) (by decide +kernel)) (goodIn_sub (fun _ h => List.mem_cons_of_mem _ (List.mem_append_right _ h)) (by decide +kernel))
set_option maxRecDepth 20000 in
theorem gL_set_X8_set : GoodIn wsL_set (wsV RL 45 RX8 yX8_set wsX8_set) := goodIn_app (goodIn_of _ (by decide +kernel)) ggL_set_X8_set
set_option maxRecDepth 20000 in
theorem ggL_append_X8_append : GoodIn wsL_append wsX8_append := goodIn_ca (goodIn_ca (goodIn_r _ [7, 8, 9, 10, 11, 12, 13, 14, 15, 16, 17, 18, 19, 20, 21, 22, 23, 24, 25, 26, 27, 28, 29, 30, 31, 32] (by decide +kernel) (by decide +kernel)) (goodIn_sub (fun _ h => List.mem_cons_of_mem _ (List.mem_append_left _ (List.mem_append_right _ h))) (by decide +kernel))) (goodIn_sub (fun _ h => List.mem_cons_of_mem _ (List.mem_append_right _ h)) (by decide +kernel))
set_option maxRecDepth 20000 in
theorem gL_append_X8_append : GoodIn wsL_append (wsV RL 48 RX8 yX8_append wsX8_append) := goodIn_app (goodIn_of _ (by decide +kernel)) ggL_append_X8_append
set_option maxRecDepth 20000 in
theorem ggL_citeAll_X8_citeAll : GoodIn wsL_citeAll wsX8_citeAll := goodIn_ca (goodIn_ca (goodIn_ca (goodIn_r _ [8, 9, 10, 11, 12, 13, 14, 15, 16, 17, 18, 19, 20, 21, 22, 23, 24, 25, 26, 27, 7, 28, 29, 30, 31, 32, 33, 34, 35, 36, 37, 38, 39, 40, 41, 42, 43, 44, 45, 46, 47, 48, 49, 50, 51, 52, 53, 54, 55, 56, 57, 58, 59, 60, 61, 62, 63, 64, 65, 66, 67, 68, 69, 70, 71, 72, 73, 74, 75, 76, 77, 78, 79, 80, 81, 82, 83, 84, 85, 86, 87, 88, 89, 90, 91, 92, 93, 94, 95, 96, 97, 98, 99, 100, 101, 102, 103, 104, 105, 106, 107, 108, 109, 110, 111, 112, 113, 114, 115, 116, 117, 118, 119, 120, 121, 122, 123, 124, 125, 126, 127, 128, 129, 130, 131, 132, 133, 134, 135, 136, 137, 138, 139, 140, 141, 142, 143, 144, 145, 146, 147, 148, 149, 150, 151, 152, 153, 154, 155, 156, 157, 158, 159, 160, 161, 162, 163, 164, 165, 166, 167, 168, 169, 170, 171, 172, 173, 174, 175, 176, 177, 178, 179, 180, 181, 182, 183, 184, 185, 186, 187] (by decide +kernel) (by decide +kernel)) (goodIn_sub (fun _ h => List.mem_cons_of_mem _ (List.mem_append_left _ (List.mem_append_left _ (List.mem_append_right _ h)))) (by decide +kernel))) (goodIn_sub (fun _ h => List.mem_cons_of_mem _ (List.mem_append_left _ (List.mem_append_right _ h))) (by decide +kernel))) (goodIn_sub (fun _ h => List.mem_cons_of_mem _ (List.mem_append_right _ h)) (by decide +kernel))
set_option maxRecDepth 20000 in
theorem gL_citeAll_X8_citeAll : GoodIn wsL_citeAll (wsV RL 51 RX8 yX8_citeAll wsX8_citeAll) := goodIn_app (goodIn_of _ (by decide +kernel)) ggL_citeAll_X8_citeAll
set_option maxRecDepth 20000 in
theorem ggL_undo_X8_undo : GoodIn wsL_undo wsX8_undo := goodIn_ca (goodIn_r _ [6, 7, 8, 9, 10, 11, 12, 13, 14, 15, 16, 17, 18, 19, 20, 21, 22, 23, 24, 25, 26, 27, 28, 29, 30, 31, 32, 33, 34, 35, 36, 37, 38, 39, 40, 41, 42, 43, 44, 45, 46, 47, 48, 49, 50, 51, 52, 53, 54, 55, 56, 57, 58, 59, 60, 61, 62, 63, 64, 65, 66, 67, 68, 69, 70, 71, 72, 73, 74, 75, 76, 77, 78, 79, 80, 81, 82, 83, 84, 85, 86, 87, 5, 88, 89, 90, 91, 92, 93, 94, 95, 96, 97, 98, 99, 100, 101, 102, 103, 104, 105, 106, 107, 108, 109, 110, 111, 112, 113, 114, 115, 116, 117, 118, 119, 120] (by decide +kernel) (by decide +kernel)) (goodIn_sub (fun _ h => List.mem_cons_of_mem _ (List.mem_append_right _ h)) (by decide +kernel))
set_option maxRecDepth 20000 in
theorem gL_undo_X8_undo : GoodIn wsL_undo (wsV RL 54 RX8 yX8_undo wsX8_undo) := goodIn_app (goodIn_of _ (by decide +kernel)) ggL_undo_X8_undo
set_option maxRecDepth 20000 in
theorem ggL_exhibit_X8_exhibit : GoodIn wsL_exhibit wsX8_exhibit := goodIn_ca (goodIn_r _ [6, 7, 8, 9, 10, 11, 12, 13, 14, 15, 16, 17, 18, 19, 5, 20, 21, 22, 23, 24, 25, 26, 27, 28, 29, 30, 31, 32, 33, 34, 35, 36, 37, 38, 39, 40, 41, 42, 43, 44, 45, 46, 47, 48, 49, 50, 51, 52, 53] (by decide +kernel) (by decide +kernel)) (goodIn_sub (fun _ h => List.mem_cons_of_mem _ (List.mem_append_right _ h)) (by decide +kernel))
set_option maxRecDepth 20000 in
theorem gL_exhibit_X8_exhibit : GoodIn wsL_exhibit (wsV RL 58 RX8 yX8_exhibit wsX8_exhibit) := goodIn_app (goodIn_of _ (by decide +kernel)) ggL_exhibit_X8_exhibit
set_option maxRecDepth 20000 in
theorem ggL_citation_X8_citation : GoodIn wsL_citation wsX8_citation := goodIn_ca (goodIn_ca (goodIn_r _ [7, 8, 9, 10, 11, 12, 13, 14, 15, 16, 17, 18, 19, 6, 20, 21, 22, 23, 24, 25, 26, 27, 28, 29, 30, 31, 32, 33, 34, 35, 36, 37, 38, 39, 40, 41, 42, 43, 44, 45, 46, 47, 48, 49, 50, 51] (by decide +kernel) (by decide +kernel)) (goodIn_sub (fun _ h => List.mem_cons_of_mem _ (List.mem_append_left _ (List.mem_append_right _ h))) (by decide +kernel))) (goodIn_sub (fun _ h => List.mem_cons_of_mem _ (List.mem_append_right _ h)) (by decide +kernel))
set_option maxRecDepth 20000 in
theorem gL_citation_X8_citation : GoodIn wsL_citation (wsV RL 61 RX8 yX8_citation wsX8_citation) := goodIn_app (goodIn_of _ (by decide +kernel)) ggL_citation_X8_citation
set_option maxRecDepth 20000 in
theorem ggL_paragraph_X8_paragraph : GoodIn wsL_paragraph wsX8_paragraph := goodIn_ca (goodIn_ca (goodIn_r _ [7, 8, 9, 10, 11, 12, 13, 14, 15, 6, 16, 17, 18, 19, 20, 21, 22, 23, 24, 25, 26, 27, 28, 29, 30, 31, 32, 33, 34, 35, 36, 37, 38, 39, 40, 41, 42, 43, 44, 45, 46, 47, 48, 49, 50, 51, 52, 53, 54, 55, 56, 57, 58, 59, 60, 61, 62] (by decide +kernel) (by decide +kernel)) (goodIn_sub (fun _ h => List.mem_cons_of_mem _ (List.mem_append_left _ (List.mem_append_right _ h))) (by decide +kernel))) (goodIn_sub (fun _ h => List.mem_cons_of_mem _ (List.mem_append_right _ h)) (by decide +kernel))
set_option maxRecDepth 20000 in
theorem gL_paragraph_X8_paragraph : GoodIn wsL_paragraph (wsV RL 64 RX8 yX8_paragraph wsX8_paragraph) := goodIn_app (goodIn_of _ (by decide +kernel)) ggL_paragraph_X8_paragraph
set_option maxRecDepth 20000 in
theorem ggL_table_X8_table : GoodIn wsL_table wsX8_table := goodIn_ca (goodIn_r _ [6, 7, 8, 9, 5, 10, 11, 12, 13, 14, 15, 16, 17, 18, 19, 20, 21, 22, 23, 24, 25, 26, 27, 28, 29, 30, 31, 32, 33, 34, 35, 36, 37, 38, 39, 40, 41, 42, 43, 44, 45, 46, 47, 48, 49, 50] (by decide +kernel) (by decide +kernel)) (goodIn_sub (fun _ h => List.mem_cons_of_mem _ (List.mem_append_right _ h)) (by decide +kernel))
set_option maxRecDepth 20000 in
theorem gL_table_X8_table : GoodIn wsL_table (wsV RL 67 RX8 yX8_table wsX8_table) := goodIn_app (goodIn_of _ (by decide +kernel)) ggL_table_X8_table
set_option maxRecDepth 20000 in
theorem ggL_count_X8_count : GoodIn wsL_count wsX8_count := goodIn_ca (goodIn_r _ [6, 7, 8, 9, 10, 11, 12, 13, 14, 15, 16, 17, 5, 18, 19, 20, 21, 22, 23, 24, 25, 26, 27, 28, 29, 30, 31, 32, 33, 34, 35, 36, 37, 38, 39, 40, 41, 42, 43, 44, 45, 46, 47, 48, 49, 50, 51, 52, 53, 54, 55, 56, 57, 58, 59, 60, 61, 62, 63, 64, 65, 66, 67, 68, 69, 70, 71, 72, 73, 74, 75, 76, 77, 78, 79, 80, 81, 82, 83, 84, 85, 86, 87, 88, 89, 90, 91, 92, 93, 94, 95, 96, 97, 98, 99, 100, 101] (by decide +kernel) (by decide +kernel)) (goodIn_sub (fun _ h => List.mem_cons_of_mem _ (List.mem_append_right _ h)) (by decide +kernel))
set_option maxRecDepth 20000 in
theorem gL_count_X8_count : GoodIn wsL_count (wsV RL 70 RX8 yX8_count wsX8_count) := goodIn_app (goodIn_of _ (by decide +kernel)) ggL_count_X8_count
set_option maxRecDepth 20000 in
theorem ggL_ifInserted_X8_ifInserted : GoodIn wsL_ifInserted wsX8_ifInserted := goodIn_ca (goodIn_ca (goodIn_r _ [7, 8, 9, 10, 11, 12, 13, 14, 6, 15, 16, 17, 18, 19, 20, 21, 22, 23, 24, 25, 26, 27, 28, 29, 30, 31, 32, 33, 34, 35, 36, 37, 38, 39, 40, 41, 42, 43, 44, 45, 46, 47, 48, 49, 50, 51, 52, 53, 54, 55, 56, 57, 58, 59, 60, 61, 62, 63, 64, 65, 66, 67, 68, 69, 70, 71, 72, 73, 74, 75, 76, 77, 78, 79, 80, 81, 82, 83, 84, 85, 86, 87, 88, 89, 90, 91, 92, 93, 94, 95, 96, 97, 98, 99, 100, 101] (by decide +kernel) (by decide +kernel)) (goodIn_sub (fun _ h => List.mem_cons_of_mem _ (List.mem_append_left _ (List.mem_append_right _ h))) (by decide +kernel))) (goodIn_sub (fun _ h => List.mem_cons_of_mem _ (List.mem_append_right _ h)) (by decide +kernel))
set_option maxRecDepth 20000 in
theorem gL_ifInserted_X8_ifInserted : GoodIn wsL_ifInserted (wsV RL 73 RX8 yX8_ifInserted wsX8_ifInserted) := goodIn_app (goodIn_of _ (by decide +kernel)) ggL_ifInserted_X8_ifInserted
set_option maxRecDepth 20000 in
theorem ggL_ifDropped_X8_ifDropped : GoodIn wsL_ifDropped wsX8_ifDropped := goodIn_ca (goodIn_ca (goodIn_r _ [7, 8, 9, 10, 11, 12, 13, 14, 6, 15, 16, 17, 18, 19, 20, 21, 22, 23, 24, 25, 26, 27, 28, 29, 30, 31, 32, 33, 34, 35, 36, 37, 38, 39, 40, 41, 42, 43, 44, 45, 46, 47, 48, 49, 50, 51, 52, 53, 54, 55, 56, 57, 58, 59, 60, 61, 62, 63, 64, 65, 66, 67, 68, 69, 70, 71, 72, 73, 74, 75, 76, 77, 78, 79, 80, 81, 82, 83, 84, 85, 86, 87, 88, 89, 90, 91, 92, 93, 94, 95, 96] (by decide +kernel) (by decide +kernel)) (goodIn_sub (fun _ h => List.mem_cons_of_mem _ (List.mem_append_left _ (List.mem_append_right _ h))) (by decide +kernel))) (goodIn_sub (fun _ h => List.mem_cons_of_mem _ (List.mem_append_right _ h)) (by decide +kernel))
set_option maxRecDepth 20000 in
theorem gL_ifDropped_X8_ifDropped : GoodIn wsL_ifDropped (wsV RL 76 RX8 yX8_ifDropped wsX8_ifDropped) := goodIn_app (goodIn_of _ (by decide +kernel)) ggL_ifDropped_X8_ifDropped
set_option maxRecDepth 20000 in
theorem ggL_bestMove_X8_bestMove : GoodIn wsL_bestMove wsX8_bestMove := goodIn_ca (goodIn_r _ [6, 7, 8, 9, 10, 11, 12, 13, 14, 5, 15, 16, 17, 18, 19, 20, 21, 22, 23, 24, 25, 26, 27, 28, 29, 30, 31, 32, 33, 34, 35, 36, 37, 38, 39, 40, 41, 42, 43, 44, 45, 46, 47, 48, 49, 50, 51, 52, 53, 54, 55, 56, 57, 58, 59, 60, 61, 62, 63, 64, 65, 66, 67, 68, 69, 70, 71, 72, 73, 74, 75, 76, 77, 78, 79, 80, 81, 82, 83, 84, 85, 86, 87, 88, 89, 90, 91, 92] (by decide +kernel) (by decide +kernel)) (goodIn_sub (fun _ h => List.mem_cons_of_mem _ (List.mem_append_right _ h)) (by decide +kernel))
set_option maxRecDepth 20000 in
theorem gL_bestMove_X8_bestMove : GoodIn wsL_bestMove (wsV RL 79 RX8 yX8_bestMove wsX8_bestMove) := goodIn_app (goodIn_of _ (by decide +kernel)) ggL_bestMove_X8_bestMove
set_option maxRecDepth 20000 in
theorem ggL_leastPages_X8_leastPages : GoodIn wsL_leastPages wsX8_leastPages := goodIn_ca (goodIn_r _ [6, 7, 8, 9, 10, 11, 12, 13, 14, 5, 15, 16, 17, 18, 19, 20, 21, 22, 23, 24, 25, 26, 27, 28, 29] (by decide +kernel) (by decide +kernel)) (goodIn_sub (fun _ h => List.mem_cons_of_mem _ (List.mem_append_right _ h)) (by decide +kernel))
set_option maxRecDepth 20000 in
theorem gL_leastPages_X8_leastPages : GoodIn wsL_leastPages (wsV RL 82 RX8 yX8_leastPages wsX8_leastPages) := goodIn_app (goodIn_of _ (by decide +kernel)) ggL_leastPages_X8_leastPages
